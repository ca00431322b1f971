def lb_sgX8_pump : List (List UInt8) := [[42, 27, 184, 0, 119, 28, 4, 16, 8, 184, 0, 41, 154, 0, 13, 29], [4, 16, 8, 184, 0, 41, 153, 0, 7, 4, 167, 0, 4, 3, 182, 0], [81, 153, 0, 6, 18, 109, 176, 42, 27, 182, 0, 122, 58, 4, 42, 180], [0, 129, 25, 4, 190, 96, 17, 0, 160, 164, 0, 11, 42, 6, 181, 0], [38, 18, 109, 176, 42, 180, 0, 132, 54, 5, 3, 54, 6, 21, 6, 25], [4, 190, 161, 0, 14, 42, 180, 0, 129, 42, 180, 0, 132, 164, 0, 107], [28, 25, 4, 190, 21, 6, 100, 42, 180, 0, 27, 42, 180, 0, 129, 42], [180, 0, 132, 100, 100, 184, 0, 97, 184, 0, 97, 54, 7, 3, 54, 8], [21, 8, 21, 7, 162, 0, 33, 42, 180, 0, 24, 42, 89, 180, 0, 129], [90, 4, 96, 181, 0, 129, 25, 4, 21, 6, 132, 6, 1, 46, 79, 132], [8, 1, 167, 255, 222, 42, 89, 180, 0, 132, 29, 42, 180, 0, 129, 42], [180, 0, 132, 100, 184, 0, 97, 96, 181, 0, 132, 42, 180, 0, 31, 6], [92, 46, 4, 96, 79, 167, 255, 136, 42, 3, 182, 0, 62, 87, 42, 180], [0, 24, 21, 5, 42, 180, 0, 132, 184, 0, 111, 176]]
set_option maxRecDepth 100000 in
theorem lb_seX8_pump : cX8_pump.data.toList = lb_sgX8_pump.flatten := by decide +kernel
theorem lb_lnX8_pump : ∀ s ∈ lb_sgX8_pump.dropLast, s.length = 16 := by decide +kernel
theorem lxX8_pump (k j : Nat) {b : UInt8} (h : (lb_sgX8_pump[k]?).bind (fun s => s[j]?) = some b) : lb_at cX8_pump (16 * k + j) b := by
  unfold lb_at
  rw [lb_seX8_pump]
  exact lb_flat 16 lb_sgX8_pump k j b lb_lnX8_pump h
set_option maxRecDepth 20000 in
theorem dX8_pump_0 : @Eq _ (decode cX8_pump 0) (.ok (.aload_n 0, 1)) := dc_42 (lxX8_pump 0 0 rfl)
set_option maxRecDepth 20000 in
theorem dX8_pump_1 : @Eq _ (decode cX8_pump 1) (.ok (.iload_n 1, 1)) := dc_27 (lxX8_pump 0 1 rfl)
set_option maxRecDepth 20000 in
theorem dX8_pump_2 : @Eq _ (decode cX8_pump 2) (.ok (.invokestatic 119, 3)) := dc_184 0 119 (lxX8_pump 0 2 rfl) (lxX8_pump 0 3 rfl) (lxX8_pump 0 4 rfl)
set_option maxRecDepth 20000 in
theorem dX8_pump_5 : @Eq _ (decode cX8_pump 5) (.ok (.iload_n 2, 1)) := dc_28 (lxX8_pump 0 5 rfl)
set_option maxRecDepth 20000 in
theorem dX8_pump_6 : @Eq _ (decode cX8_pump 6) (.ok (.iconst 1, 1)) := dc_4 (lxX8_pump 0 6 rfl)
set_option maxRecDepth 20000 in
theorem dX8_pump_7 : @Eq _ (decode cX8_pump 7) (.ok (.bipush 8, 2)) := dc_16 8 (lxX8_pump 0 7 rfl) (lxX8_pump 0 8 rfl)
set_option maxRecDepth 20000 in
theorem dX8_pump_9 : @Eq _ (decode cX8_pump 9) (.ok (.invokestatic 41, 3)) := dc_184 0 41 (lxX8_pump 0 9 rfl) (lxX8_pump 0 10 rfl) (lxX8_pump 0 11 rfl)
set_option maxRecDepth 20000 in
theorem dX8_pump_12 : @Eq _ (decode cX8_pump 12) (.ok (.ifCond .ne 13, 3)) := dc_154 0 13 (lxX8_pump 0 12 rfl) (lxX8_pump 0 13 rfl) (lxX8_pump 0 14 rfl)
set_option maxRecDepth 20000 in
theorem dX8_pump_15 : @Eq _ (decode cX8_pump 15) (.ok (.iload_n 3, 1)) := dc_29 (lxX8_pump 0 15 rfl)
set_option maxRecDepth 20000 in
theorem dX8_pump_16 : @Eq _ (decode cX8_pump 16) (.ok (.iconst 1, 1)) := dc_4 (lxX8_pump 1 0 rfl)
set_option maxRecDepth 20000 in
theorem dX8_pump_17 : @Eq _ (decode cX8_pump 17) (.ok (.bipush 8, 2)) := dc_16 8 (lxX8_pump 1 1 rfl) (lxX8_pump 1 2 rfl)
set_option maxRecDepth 20000 in
theorem dX8_pump_19 : @Eq _ (decode cX8_pump 19) (.ok (.invokestatic 41, 3)) := dc_184 0 41 (lxX8_pump 1 3 rfl) (lxX8_pump 1 4 rfl) (lxX8_pump 1 5 rfl)
set_option maxRecDepth 20000 in
theorem dX8_pump_22 : @Eq _ (decode cX8_pump 22) (.ok (.ifCond .eq 7, 3)) := dc_153 0 7 (lxX8_pump 1 6 rfl) (lxX8_pump 1 7 rfl) (lxX8_pump 1 8 rfl)
set_option maxRecDepth 20000 in
theorem dX8_pump_25 : @Eq _ (decode cX8_pump 25) (.ok (.iconst 1, 1)) := dc_4 (lxX8_pump 1 9 rfl)
set_option maxRecDepth 20000 in
theorem dX8_pump_26 : @Eq _ (decode cX8_pump 26) (.ok (.goto 4, 3)) := dc_167 0 4 (lxX8_pump 1 10 rfl) (lxX8_pump 1 11 rfl) (lxX8_pump 1 12 rfl)
set_option maxRecDepth 20000 in
theorem dX8_pump_29 : @Eq _ (decode cX8_pump 29) (.ok (.iconst 0, 1)) := dc_3 (lxX8_pump 1 13 rfl)
set_option maxRecDepth 20000 in
theorem dX8_pump_30 : @Eq _ (decode cX8_pump 30) (.ok (.invokevirtual 81, 3)) := dc_182 0 81 (lxX8_pump 1 14 rfl) (lxX8_pump 1 15 rfl) (lxX8_pump 2 0 rfl)
set_option maxRecDepth 20000 in
theorem dX8_pump_33 : @Eq _ (decode cX8_pump 33) (.ok (.ifCond .eq 6, 3)) := dc_153 0 6 (lxX8_pump 2 1 rfl) (lxX8_pump 2 2 rfl) (lxX8_pump 2 3 rfl)
set_option maxRecDepth 20000 in
theorem dX8_pump_36 : @Eq _ (decode cX8_pump 36) (.ok (.ldc 109, 2)) := dc_18 109 (lxX8_pump 2 4 rfl) (lxX8_pump 2 5 rfl)
set_option maxRecDepth 20000 in
theorem dX8_pump_38 : @Eq _ (decode cX8_pump 38) (.ok (.areturn, 1)) := dc_176 (lxX8_pump 2 6 rfl)
set_option maxRecDepth 20000 in
theorem dX8_pump_39 : @Eq _ (decode cX8_pump 39) (.ok (.aload_n 0, 1)) := dc_42 (lxX8_pump 2 7 rfl)
set_option maxRecDepth 20000 in
theorem dX8_pump_40 : @Eq _ (decode cX8_pump 40) (.ok (.iload_n 1, 1)) := dc_27 (lxX8_pump 2 8 rfl)
set_option maxRecDepth 20000 in
theorem dX8_pump_41 : @Eq _ (decode cX8_pump 41) (.ok (.invokevirtual 122, 3)) := dc_182 0 122 (lxX8_pump 2 9 rfl) (lxX8_pump 2 10 rfl) (lxX8_pump 2 11 rfl)
set_option maxRecDepth 20000 in
theorem dX8_pump_44 : @Eq _ (decode cX8_pump 44) (.ok (.astore 4, 2)) := dc_58 4 (lxX8_pump 2 12 rfl) (lxX8_pump 2 13 rfl)
set_option maxRecDepth 20000 in
theorem dX8_pump_46 : @Eq _ (decode cX8_pump 46) (.ok (.aload_n 0, 1)) := dc_42 (lxX8_pump 2 14 rfl)
set_option maxRecDepth 20000 in
theorem dX8_pump_47 : @Eq _ (decode cX8_pump 47) (.ok (.getfield 129, 3)) := dc_180 0 129 (lxX8_pump 2 15 rfl) (lxX8_pump 3 0 rfl) (lxX8_pump 3 1 rfl)
set_option maxRecDepth 20000 in
theorem dX8_pump_50 : @Eq _ (decode cX8_pump 50) (.ok (.aload 4, 2)) := dc_25 4 (lxX8_pump 3 2 rfl) (lxX8_pump 3 3 rfl)
set_option maxRecDepth 20000 in
theorem dX8_pump_52 : @Eq _ (decode cX8_pump 52) (.ok (.arraylength, 1)) := dc_190 (lxX8_pump 3 4 rfl)
set_option maxRecDepth 20000 in
theorem dX8_pump_53 : @Eq _ (decode cX8_pump 53) (.ok (.iadd, 1)) := dc_96 (lxX8_pump 3 5 rfl)
set_option maxRecDepth 20000 in
theorem dX8_pump_54 : @Eq _ (decode cX8_pump 54) (.ok (.sipush 160, 3)) := dc_17 0 160 (lxX8_pump 3 6 rfl) (lxX8_pump 3 7 rfl) (lxX8_pump 3 8 rfl)
set_option maxRecDepth 20000 in
theorem dX8_pump_57 : @Eq _ (decode cX8_pump 57) (.ok (.if_icmp .le 11, 3)) := dc_164 0 11 (lxX8_pump 3 9 rfl) (lxX8_pump 3 10 rfl) (lxX8_pump 3 11 rfl)
set_option maxRecDepth 20000 in
theorem dX8_pump_60 : @Eq _ (decode cX8_pump 60) (.ok (.aload_n 0, 1)) := dc_42 (lxX8_pump 3 12 rfl)
set_option maxRecDepth 20000 in
theorem dX8_pump_61 : @Eq _ (decode cX8_pump 61) (.ok (.iconst 3, 1)) := dc_6 (lxX8_pump 3 13 rfl)
set_option maxRecDepth 20000 in
theorem dX8_pump_62 : @Eq _ (decode cX8_pump 62) (.ok (.putfield 38, 3)) := dc_181 0 38 (lxX8_pump 3 14 rfl) (lxX8_pump 3 15 rfl) (lxX8_pump 4 0 rfl)
set_option maxRecDepth 20000 in
theorem dX8_pump_65 : @Eq _ (decode cX8_pump 65) (.ok (.ldc 109, 2)) := dc_18 109 (lxX8_pump 4 1 rfl) (lxX8_pump 4 2 rfl)
set_option maxRecDepth 20000 in
theorem dX8_pump_67 : @Eq _ (decode cX8_pump 67) (.ok (.areturn, 1)) := dc_176 (lxX8_pump 4 3 rfl)
set_option maxRecDepth 20000 in
theorem dX8_pump_68 : @Eq _ (decode cX8_pump 68) (.ok (.aload_n 0, 1)) := dc_42 (lxX8_pump 4 4 rfl)
set_option maxRecDepth 20000 in
theorem dX8_pump_69 : @Eq _ (decode cX8_pump 69) (.ok (.getfield 132, 3)) := dc_180 0 132 (lxX8_pump 4 5 rfl) (lxX8_pump 4 6 rfl) (lxX8_pump 4 7 rfl)
set_option maxRecDepth 20000 in
theorem dX8_pump_72 : @Eq _ (decode cX8_pump 72) (.ok (.istore 5, 2)) := dc_54 5 (lxX8_pump 4 8 rfl) (lxX8_pump 4 9 rfl)
set_option maxRecDepth 20000 in
theorem dX8_pump_74 : @Eq _ (decode cX8_pump 74) (.ok (.iconst 0, 1)) := dc_3 (lxX8_pump 4 10 rfl)
set_option maxRecDepth 20000 in
theorem dX8_pump_75 : @Eq _ (decode cX8_pump 75) (.ok (.istore 6, 2)) := dc_54 6 (lxX8_pump 4 11 rfl) (lxX8_pump 4 12 rfl)
set_option maxRecDepth 20000 in
theorem dX8_pump_77 : @Eq _ (decode cX8_pump 77) (.ok (.iload 6, 2)) := dc_21 6 (lxX8_pump 4 13 rfl) (lxX8_pump 4 14 rfl)
set_option maxRecDepth 20000 in
theorem dX8_pump_79 : @Eq _ (decode cX8_pump 79) (.ok (.aload 4, 2)) := dc_25 4 (lxX8_pump 4 15 rfl) (lxX8_pump 5 0 rfl)
set_option maxRecDepth 20000 in
theorem dX8_pump_81 : @Eq _ (decode cX8_pump 81) (.ok (.arraylength, 1)) := dc_190 (lxX8_pump 5 1 rfl)
set_option maxRecDepth 20000 in
theorem dX8_pump_82 : @Eq _ (decode cX8_pump 82) (.ok (.if_icmp .lt 14, 3)) := dc_161 0 14 (lxX8_pump 5 2 rfl) (lxX8_pump 5 3 rfl) (lxX8_pump 5 4 rfl)
set_option maxRecDepth 20000 in
theorem dX8_pump_85 : @Eq _ (decode cX8_pump 85) (.ok (.aload_n 0, 1)) := dc_42 (lxX8_pump 5 5 rfl)
set_option maxRecDepth 20000 in
theorem dX8_pump_86 : @Eq _ (decode cX8_pump 86) (.ok (.getfield 129, 3)) := dc_180 0 129 (lxX8_pump 5 6 rfl) (lxX8_pump 5 7 rfl) (lxX8_pump 5 8 rfl)
set_option maxRecDepth 20000 in
theorem dX8_pump_89 : @Eq _ (decode cX8_pump 89) (.ok (.aload_n 0, 1)) := dc_42 (lxX8_pump 5 9 rfl)
set_option maxRecDepth 20000 in
theorem dX8_pump_90 : @Eq _ (decode cX8_pump 90) (.ok (.getfield 132, 3)) := dc_180 0 132 (lxX8_pump 5 10 rfl) (lxX8_pump 5 11 rfl) (lxX8_pump 5 12 rfl)
set_option maxRecDepth 20000 in
theorem dX8_pump_93 : @Eq _ (decode cX8_pump 93) (.ok (.if_icmp .le 107, 3)) := dc_164 0 107 (lxX8_pump 5 13 rfl) (lxX8_pump 5 14 rfl) (lxX8_pump 5 15 rfl)
set_option maxRecDepth 20000 in
theorem dX8_pump_96 : @Eq _ (decode cX8_pump 96) (.ok (.iload_n 2, 1)) := dc_28 (lxX8_pump 6 0 rfl)
set_option maxRecDepth 20000 in
theorem dX8_pump_97 : @Eq _ (decode cX8_pump 97) (.ok (.aload 4, 2)) := dc_25 4 (lxX8_pump 6 1 rfl) (lxX8_pump 6 2 rfl)
set_option maxRecDepth 20000 in
theorem dX8_pump_99 : @Eq _ (decode cX8_pump 99) (.ok (.arraylength, 1)) := dc_190 (lxX8_pump 6 3 rfl)
set_option maxRecDepth 20000 in
theorem dX8_pump_100 : @Eq _ (decode cX8_pump 100) (.ok (.iload 6, 2)) := dc_21 6 (lxX8_pump 6 4 rfl) (lxX8_pump 6 5 rfl)
set_option maxRecDepth 20000 in
theorem dX8_pump_102 : @Eq _ (decode cX8_pump 102) (.ok (.isub, 1)) := dc_100 (lxX8_pump 6 6 rfl)
set_option maxRecDepth 20000 in
theorem dX8_pump_103 : @Eq _ (decode cX8_pump 103) (.ok (.aload_n 0, 1)) := dc_42 (lxX8_pump 6 7 rfl)
set_option maxRecDepth 20000 in
theorem dX8_pump_104 : @Eq _ (decode cX8_pump 104) (.ok (.getfield 27, 3)) := dc_180 0 27 (lxX8_pump 6 8 rfl) (lxX8_pump 6 9 rfl) (lxX8_pump 6 10 rfl)
set_option maxRecDepth 20000 in
theorem dX8_pump_107 : @Eq _ (decode cX8_pump 107) (.ok (.aload_n 0, 1)) := dc_42 (lxX8_pump 6 11 rfl)
set_option maxRecDepth 20000 in
theorem dX8_pump_108 : @Eq _ (decode cX8_pump 108) (.ok (.getfield 129, 3)) := dc_180 0 129 (lxX8_pump 6 12 rfl) (lxX8_pump 6 13 rfl) (lxX8_pump 6 14 rfl)
set_option maxRecDepth 20000 in
theorem dX8_pump_111 : @Eq _ (decode cX8_pump 111) (.ok (.aload_n 0, 1)) := dc_42 (lxX8_pump 6 15 rfl)
set_option maxRecDepth 20000 in
theorem dX8_pump_112 : @Eq _ (decode cX8_pump 112) (.ok (.getfield 132, 3)) := dc_180 0 132 (lxX8_pump 7 0 rfl) (lxX8_pump 7 1 rfl) (lxX8_pump 7 2 rfl)
set_option maxRecDepth 20000 in
theorem dX8_pump_115 : @Eq _ (decode cX8_pump 115) (.ok (.isub, 1)) := dc_100 (lxX8_pump 7 3 rfl)
set_option maxRecDepth 20000 in
theorem dX8_pump_116 : @Eq _ (decode cX8_pump 116) (.ok (.isub, 1)) := dc_100 (lxX8_pump 7 4 rfl)
set_option maxRecDepth 20000 in
theorem dX8_pump_117 : @Eq _ (decode cX8_pump 117) (.ok (.invokestatic 97, 3)) := dc_184 0 97 (lxX8_pump 7 5 rfl) (lxX8_pump 7 6 rfl) (lxX8_pump 7 7 rfl)
set_option maxRecDepth 20000 in
theorem dX8_pump_120 : @Eq _ (decode cX8_pump 120) (.ok (.invokestatic 97, 3)) := dc_184 0 97 (lxX8_pump 7 8 rfl) (lxX8_pump 7 9 rfl) (lxX8_pump 7 10 rfl)
set_option maxRecDepth 20000 in
theorem dX8_pump_123 : @Eq _ (decode cX8_pump 123) (.ok (.istore 7, 2)) := dc_54 7 (lxX8_pump 7 11 rfl) (lxX8_pump 7 12 rfl)
set_option maxRecDepth 20000 in
theorem dX8_pump_125 : @Eq _ (decode cX8_pump 125) (.ok (.iconst 0, 1)) := dc_3 (lxX8_pump 7 13 rfl)
set_option maxRecDepth 20000 in
theorem dX8_pump_126 : @Eq _ (decode cX8_pump 126) (.ok (.istore 8, 2)) := dc_54 8 (lxX8_pump 7 14 rfl) (lxX8_pump 7 15 rfl)
set_option maxRecDepth 20000 in
theorem dX8_pump_128 : @Eq _ (decode cX8_pump 128) (.ok (.iload 8, 2)) := dc_21 8 (lxX8_pump 8 0 rfl) (lxX8_pump 8 1 rfl)
set_option maxRecDepth 20000 in
theorem dX8_pump_130 : @Eq _ (decode cX8_pump 130) (.ok (.iload 7, 2)) := dc_21 7 (lxX8_pump 8 2 rfl) (lxX8_pump 8 3 rfl)
set_option maxRecDepth 20000 in
theorem dX8_pump_132 : @Eq _ (decode cX8_pump 132) (.ok (.if_icmp .ge 33, 3)) := dc_162 0 33 (lxX8_pump 8 4 rfl) (lxX8_pump 8 5 rfl) (lxX8_pump 8 6 rfl)
set_option maxRecDepth 20000 in
theorem dX8_pump_135 : @Eq _ (decode cX8_pump 135) (.ok (.aload_n 0, 1)) := dc_42 (lxX8_pump 8 7 rfl)
set_option maxRecDepth 20000 in
theorem dX8_pump_136 : @Eq _ (decode cX8_pump 136) (.ok (.getfield 24, 3)) := dc_180 0 24 (lxX8_pump 8 8 rfl) (lxX8_pump 8 9 rfl) (lxX8_pump 8 10 rfl)
set_option maxRecDepth 20000 in
theorem dX8_pump_139 : @Eq _ (decode cX8_pump 139) (.ok (.aload_n 0, 1)) := dc_42 (lxX8_pump 8 11 rfl)
set_option maxRecDepth 20000 in
theorem dX8_pump_140 : @Eq _ (decode cX8_pump 140) (.ok (.dup, 1)) := dc_89 (lxX8_pump 8 12 rfl)
set_option maxRecDepth 20000 in
theorem dX8_pump_141 : @Eq _ (decode cX8_pump 141) (.ok (.getfield 129, 3)) := dc_180 0 129 (lxX8_pump 8 13 rfl) (lxX8_pump 8 14 rfl) (lxX8_pump 8 15 rfl)
set_option maxRecDepth 20000 in
theorem dX8_pump_144 : @Eq _ (decode cX8_pump 144) (.ok (.dup_x1, 1)) := dc_90 (lxX8_pump 9 0 rfl)
set_option maxRecDepth 20000 in
theorem dX8_pump_145 : @Eq _ (decode cX8_pump 145) (.ok (.iconst 1, 1)) := dc_4 (lxX8_pump 9 1 rfl)
set_option maxRecDepth 20000 in
theorem dX8_pump_146 : @Eq _ (decode cX8_pump 146) (.ok (.iadd, 1)) := dc_96 (lxX8_pump 9 2 rfl)
set_option maxRecDepth 20000 in
theorem dX8_pump_147 : @Eq _ (decode cX8_pump 147) (.ok (.putfield 129, 3)) := dc_181 0 129 (lxX8_pump 9 3 rfl) (lxX8_pump 9 4 rfl) (lxX8_pump 9 5 rfl)
set_option maxRecDepth 20000 in
theorem dX8_pump_150 : @Eq _ (decode cX8_pump 150) (.ok (.aload 4, 2)) := dc_25 4 (lxX8_pump 9 6 rfl) (lxX8_pump 9 7 rfl)
set_option maxRecDepth 20000 in
theorem dX8_pump_152 : @Eq _ (decode cX8_pump 152) (.ok (.iload 6, 2)) := dc_21 6 (lxX8_pump 9 8 rfl) (lxX8_pump 9 9 rfl)
set_option maxRecDepth 20000 in
theorem dX8_pump_154 : @Eq _ (decode cX8_pump 154) (.ok (.iinc 6 1, 3)) := dc_132 6 1 (lxX8_pump 9 10 rfl) (lxX8_pump 9 11 rfl) (lxX8_pump 9 12 rfl)
set_option maxRecDepth 20000 in
theorem dX8_pump_157 : @Eq _ (decode cX8_pump 157) (.ok (.iaload, 1)) := dc_46 (lxX8_pump 9 13 rfl)
set_option maxRecDepth 20000 in
theorem dX8_pump_158 : @Eq _ (decode cX8_pump 158) (.ok (.iastore, 1)) := dc_79 (lxX8_pump 9 14 rfl)
set_option maxRecDepth 20000 in
theorem dX8_pump_159 : @Eq _ (decode cX8_pump 159) (.ok (.iinc 8 1, 3)) := dc_132 8 1 (lxX8_pump 9 15 rfl) (lxX8_pump 10 0 rfl) (lxX8_pump 10 1 rfl)
set_option maxRecDepth 20000 in
theorem dX8_pump_162 : @Eq _ (decode cX8_pump 162) (.ok (.goto (-34), 3)) := dc_167 255 222 (lxX8_pump 10 2 rfl) (lxX8_pump 10 3 rfl) (lxX8_pump 10 4 rfl)
set_option maxRecDepth 20000 in
theorem dX8_pump_165 : @Eq _ (decode cX8_pump 165) (.ok (.aload_n 0, 1)) := dc_42 (lxX8_pump 10 5 rfl)
set_option maxRecDepth 20000 in
theorem dX8_pump_166 : @Eq _ (decode cX8_pump 166) (.ok (.dup, 1)) := dc_89 (lxX8_pump 10 6 rfl)
set_option maxRecDepth 20000 in
theorem dX8_pump_167 : @Eq _ (decode cX8_pump 167) (.ok (.getfield 132, 3)) := dc_180 0 132 (lxX8_pump 10 7 rfl) (lxX8_pump 10 8 rfl) (lxX8_pump 10 9 rfl)
set_option maxRecDepth 20000 in
theorem dX8_pump_170 : @Eq _ (decode cX8_pump 170) (.ok (.iload_n 3, 1)) := dc_29 (lxX8_pump 10 10 rfl)
set_option maxRecDepth 20000 in
theorem dX8_pump_171 : @Eq _ (decode cX8_pump 171) (.ok (.aload_n 0, 1)) := dc_42 (lxX8_pump 10 11 rfl)
set_option maxRecDepth 20000 in
theorem dX8_pump_172 : @Eq _ (decode cX8_pump 172) (.ok (.getfield 129, 3)) := dc_180 0 129 (lxX8_pump 10 12 rfl) (lxX8_pump 10 13 rfl) (lxX8_pump 10 14 rfl)
set_option maxRecDepth 20000 in
theorem dX8_pump_175 : @Eq _ (decode cX8_pump 175) (.ok (.aload_n 0, 1)) := dc_42 (lxX8_pump 10 15 rfl)
set_option maxRecDepth 20000 in
theorem dX8_pump_176 : @Eq _ (decode cX8_pump 176) (.ok (.getfield 132, 3)) := dc_180 0 132 (lxX8_pump 11 0 rfl) (lxX8_pump 11 1 rfl) (lxX8_pump 11 2 rfl)
set_option maxRecDepth 20000 in
theorem dX8_pump_179 : @Eq _ (decode cX8_pump 179) (.ok (.isub, 1)) := dc_100 (lxX8_pump 11 3 rfl)
set_option maxRecDepth 20000 in
theorem dX8_pump_180 : @Eq _ (decode cX8_pump 180) (.ok (.invokestatic 97, 3)) := dc_184 0 97 (lxX8_pump 11 4 rfl) (lxX8_pump 11 5 rfl) (lxX8_pump 11 6 rfl)
set_option maxRecDepth 20000 in
theorem dX8_pump_183 : @Eq _ (decode cX8_pump 183) (.ok (.iadd, 1)) := dc_96 (lxX8_pump 11 7 rfl)
set_option maxRecDepth 20000 in
theorem dX8_pump_184 : @Eq _ (decode cX8_pump 184) (.ok (.putfield 132, 3)) := dc_181 0 132 (lxX8_pump 11 8 rfl) (lxX8_pump 11 9 rfl) (lxX8_pump 11 10 rfl)
set_option maxRecDepth 20000 in
theorem dX8_pump_187 : @Eq _ (decode cX8_pump 187) (.ok (.aload_n 0, 1)) := dc_42 (lxX8_pump 11 11 rfl)
set_option maxRecDepth 20000 in
theorem dX8_pump_188 : @Eq _ (decode cX8_pump 188) (.ok (.getfield 31, 3)) := dc_180 0 31 (lxX8_pump 11 12 rfl) (lxX8_pump 11 13 rfl) (lxX8_pump 11 14 rfl)
set_option maxRecDepth 20000 in
theorem dX8_pump_191 : @Eq _ (decode cX8_pump 191) (.ok (.iconst 3, 1)) := dc_6 (lxX8_pump 11 15 rfl)
set_option maxRecDepth 20000 in
theorem dX8_pump_192 : @Eq _ (decode cX8_pump 192) (.ok (.dup2, 1)) := dc_92 (lxX8_pump 12 0 rfl)
set_option maxRecDepth 20000 in
theorem dX8_pump_193 : @Eq _ (decode cX8_pump 193) (.ok (.iaload, 1)) := dc_46 (lxX8_pump 12 1 rfl)
set_option maxRecDepth 20000 in
theorem dX8_pump_194 : @Eq _ (decode cX8_pump 194) (.ok (.iconst 1, 1)) := dc_4 (lxX8_pump 12 2 rfl)
set_option maxRecDepth 20000 in
theorem dX8_pump_195 : @Eq _ (decode cX8_pump 195) (.ok (.iadd, 1)) := dc_96 (lxX8_pump 12 3 rfl)
set_option maxRecDepth 20000 in
theorem dX8_pump_196 : @Eq _ (decode cX8_pump 196) (.ok (.iastore, 1)) := dc_79 (lxX8_pump 12 4 rfl)
set_option maxRecDepth 20000 in
theorem dX8_pump_197 : @Eq _ (decode cX8_pump 197) (.ok (.goto (-120), 3)) := dc_167 255 136 (lxX8_pump 12 5 rfl) (lxX8_pump 12 6 rfl) (lxX8_pump 12 7 rfl)
set_option maxRecDepth 20000 in
theorem dX8_pump_200 : @Eq _ (decode cX8_pump 200) (.ok (.aload_n 0, 1)) := dc_42 (lxX8_pump 12 8 rfl)
set_option maxRecDepth 20000 in
theorem dX8_pump_201 : @Eq _ (decode cX8_pump 201) (.ok (.iconst 0, 1)) := dc_3 (lxX8_pump 12 9 rfl)
set_option maxRecDepth 20000 in
theorem dX8_pump_202 : @Eq _ (decode cX8_pump 202) (.ok (.invokevirtual 62, 3)) := dc_182 0 62 (lxX8_pump 12 10 rfl) (lxX8_pump 12 11 rfl) (lxX8_pump 12 12 rfl)
set_option maxRecDepth 20000 in
theorem dX8_pump_205 : @Eq _ (decode cX8_pump 205) (.ok (.pop, 1)) := dc_87 (lxX8_pump 12 13 rfl)
set_option maxRecDepth 20000 in
theorem dX8_pump_206 : @Eq _ (decode cX8_pump 206) (.ok (.aload_n 0, 1)) := dc_42 (lxX8_pump 12 14 rfl)
set_option maxRecDepth 20000 in
theorem dX8_pump_207 : @Eq _ (decode cX8_pump 207) (.ok (.getfield 24, 3)) := dc_180 0 24 (lxX8_pump 12 15 rfl) (lxX8_pump 13 0 rfl) (lxX8_pump 13 1 rfl)
set_option maxRecDepth 20000 in
theorem dX8_pump_210 : @Eq _ (decode cX8_pump 210) (.ok (.iload 5, 2)) := dc_21 5 (lxX8_pump 13 2 rfl) (lxX8_pump 13 3 rfl)
set_option maxRecDepth 20000 in
theorem dX8_pump_212 : @Eq _ (decode cX8_pump 212) (.ok (.aload_n 0, 1)) := dc_42 (lxX8_pump 13 4 rfl)
set_option maxRecDepth 20000 in
theorem dX8_pump_213 : @Eq _ (decode cX8_pump 213) (.ok (.getfield 132, 3)) := dc_180 0 132 (lxX8_pump 13 5 rfl) (lxX8_pump 13 6 rfl) (lxX8_pump 13 7 rfl)
set_option maxRecDepth 20000 in
theorem dX8_pump_216 : @Eq _ (decode cX8_pump 216) (.ok (.invokestatic 111, 3)) := dc_184 0 111 (lxX8_pump 13 8 rfl) (lxX8_pump 13 9 rfl) (lxX8_pump 13 10 rfl)
set_option maxRecDepth 20000 in
theorem dX8_pump_219 : @Eq _ (decode cX8_pump 219) (.ok (.areturn, 1)) := dc_176 (lxX8_pump 13 11 rfl)
def lb_sgX8_left : List (List UInt8) := [[42, 27, 184, 0, 77, 28, 3, 4, 184, 0, 41, 182, 0, 81, 153, 0], [7, 3, 167, 0, 12, 42, 180, 0, 14, 27, 50, 184, 0, 54, 172]]
set_option maxRecDepth 100000 in
theorem lb_seX8_left : cX8_left.data.toList = lb_sgX8_left.flatten := by decide +kernel
theorem lb_lnX8_left : ∀ s ∈ lb_sgX8_left.dropLast, s.length = 16 := by decide +kernel
theorem lxX8_left (k j : Nat) {b : UInt8} (h : (lb_sgX8_left[k]?).bind (fun s => s[j]?) = some b) : lb_at cX8_left (16 * k + j) b := by
  unfold lb_at
  rw [lb_seX8_left]
  exact lb_flat 16 lb_sgX8_left k j b lb_lnX8_left h
set_option maxRecDepth 20000 in
theorem dX8_left_0 : @Eq _ (decode cX8_left 0) (.ok (.aload_n 0, 1)) := dc_42 (lxX8_left 0 0 rfl)
set_option maxRecDepth 20000 in
theorem dX8_left_1 : @Eq _ (decode cX8_left 1) (.ok (.iload_n 1, 1)) := dc_27 (lxX8_left 0 1 rfl)
set_option maxRecDepth 20000 in
theorem dX8_left_2 : @Eq _ (decode cX8_left 2) (.ok (.invokestatic 77, 3)) := dc_184 0 77 (lxX8_left 0 2 rfl) (lxX8_left 0 3 rfl) (lxX8_left 0 4 rfl)
set_option maxRecDepth 20000 in
theorem dX8_left_5 : @Eq _ (decode cX8_left 5) (.ok (.iload_n 2, 1)) := dc_28 (lxX8_left 0 5 rfl)
set_option maxRecDepth 20000 in
theorem dX8_left_6 : @Eq _ (decode cX8_left 6) (.ok (.iconst 0, 1)) := dc_3 (lxX8_left 0 6 rfl)
set_option maxRecDepth 20000 in
theorem dX8_left_7 : @Eq _ (decode cX8_left 7) (.ok (.iconst 1, 1)) := dc_4 (lxX8_left 0 7 rfl)
set_option maxRecDepth 20000 in
theorem dX8_left_8 : @Eq _ (decode cX8_left 8) (.ok (.invokestatic 41, 3)) := dc_184 0 41 (lxX8_left 0 8 rfl) (lxX8_left 0 9 rfl) (lxX8_left 0 10 rfl)
set_option maxRecDepth 20000 in
theorem dX8_left_11 : @Eq _ (decode cX8_left 11) (.ok (.invokevirtual 81, 3)) := dc_182 0 81 (lxX8_left 0 11 rfl) (lxX8_left 0 12 rfl) (lxX8_left 0 13 rfl)
set_option maxRecDepth 20000 in
theorem dX8_left_14 : @Eq _ (decode cX8_left 14) (.ok (.ifCond .eq 7, 3)) := dc_153 0 7 (lxX8_left 0 14 rfl) (lxX8_left 0 15 rfl) (lxX8_left 1 0 rfl)
set_option maxRecDepth 20000 in
theorem dX8_left_17 : @Eq _ (decode cX8_left 17) (.ok (.iconst 0, 1)) := dc_3 (lxX8_left 1 1 rfl)
set_option maxRecDepth 20000 in
theorem dX8_left_18 : @Eq _ (decode cX8_left 18) (.ok (.goto 12, 3)) := dc_167 0 12 (lxX8_left 1 2 rfl) (lxX8_left 1 3 rfl) (lxX8_left 1 4 rfl)
set_option maxRecDepth 20000 in
theorem dX8_left_21 : @Eq _ (decode cX8_left 21) (.ok (.aload_n 0, 1)) := dc_42 (lxX8_left 1 5 rfl)
set_option maxRecDepth 20000 in
theorem dX8_left_22 : @Eq _ (decode cX8_left 22) (.ok (.getfield 14, 3)) := dc_180 0 14 (lxX8_left 1 6 rfl) (lxX8_left 1 7 rfl) (lxX8_left 1 8 rfl)
set_option maxRecDepth 20000 in
theorem dX8_left_25 : @Eq _ (decode cX8_left 25) (.ok (.iload_n 1, 1)) := dc_27 (lxX8_left 1 9 rfl)
set_option maxRecDepth 20000 in
theorem dX8_left_26 : @Eq _ (decode cX8_left 26) (.ok (.aaload, 1)) := dc_50 (lxX8_left 1 10 rfl)
set_option maxRecDepth 20000 in
theorem dX8_left_27 : @Eq _ (decode cX8_left 27) (.ok (.invokestatic 54, 3)) := dc_184 0 54 (lxX8_left 1 11 rfl) (lxX8_left 1 12 rfl) (lxX8_left 1 13 rfl)
set_option maxRecDepth 20000 in
theorem dX8_left_30 : @Eq _ (decode cX8_left 30) (.ok (.ireturn, 1)) := dc_172 (lxX8_left 1 14 rfl)
def lb_sgX8_position : List (List UInt8) := [[42, 27, 184, 0, 77, 3, 182, 0, 81, 153, 0, 7, 3, 167, 0, 11], [42, 180, 0, 14, 27, 50, 6, 46, 172]]
set_option maxRecDepth 100000 in
theorem lb_seX8_position : cX8_position.data.toList = lb_sgX8_position.flatten := by decide +kernel
theorem lb_lnX8_position : ∀ s ∈ lb_sgX8_position.dropLast, s.length = 16 := by decide +kernel
theorem lxX8_position (k j : Nat) {b : UInt8} (h : (lb_sgX8_position[k]?).bind (fun s => s[j]?) = some b) : lb_at cX8_position (16 * k + j) b := by
  unfold lb_at
  rw [lb_seX8_position]
  exact lb_flat 16 lb_sgX8_position k j b lb_lnX8_position h
set_option maxRecDepth 20000 in
theorem dX8_position_0 : @Eq _ (decode cX8_position 0) (.ok (.aload_n 0, 1)) := dc_42 (lxX8_position 0 0 rfl)
set_option maxRecDepth 20000 in
theorem dX8_position_1 : @Eq _ (decode cX8_position 1) (.ok (.iload_n 1, 1)) := dc_27 (lxX8_position 0 1 rfl)
set_option maxRecDepth 20000 in
theorem dX8_position_2 : @Eq _ (decode cX8_position 2) (.ok (.invokestatic 77, 3)) := dc_184 0 77 (lxX8_position 0 2 rfl) (lxX8_position 0 3 rfl) (lxX8_position 0 4 rfl)
set_option maxRecDepth 20000 in
theorem dX8_position_5 : @Eq _ (decode cX8_position 5) (.ok (.iconst 0, 1)) := dc_3 (lxX8_position 0 5 rfl)
set_option maxRecDepth 20000 in
theorem dX8_position_6 : @Eq _ (decode cX8_position 6) (.ok (.invokevirtual 81, 3)) := dc_182 0 81 (lxX8_position 0 6 rfl) (lxX8_position 0 7 rfl) (lxX8_position 0 8 rfl)
set_option maxRecDepth 20000 in
theorem dX8_position_9 : @Eq _ (decode cX8_position 9) (.ok (.ifCond .eq 7, 3)) := dc_153 0 7 (lxX8_position 0 9 rfl) (lxX8_position 0 10 rfl) (lxX8_position 0 11 rfl)
set_option maxRecDepth 20000 in
theorem dX8_position_12 : @Eq _ (decode cX8_position 12) (.ok (.iconst 0, 1)) := dc_3 (lxX8_position 0 12 rfl)
set_option maxRecDepth 20000 in
theorem dX8_position_13 : @Eq _ (decode cX8_position 13) (.ok (.goto 11, 3)) := dc_167 0 11 (lxX8_position 0 13 rfl) (lxX8_position 0 14 rfl) (lxX8_position 0 15 rfl)
set_option maxRecDepth 20000 in
theorem dX8_position_16 : @Eq _ (decode cX8_position 16) (.ok (.aload_n 0, 1)) := dc_42 (lxX8_position 1 0 rfl)
set_option maxRecDepth 20000 in
theorem dX8_position_17 : @Eq _ (decode cX8_position 17) (.ok (.getfield 14, 3)) := dc_180 0 14 (lxX8_position 1 1 rfl) (lxX8_position 1 2 rfl) (lxX8_position 1 3 rfl)
set_option maxRecDepth 20000 in
theorem dX8_position_20 : @Eq _ (decode cX8_position 20) (.ok (.iload_n 1, 1)) := dc_27 (lxX8_position 1 4 rfl)
set_option maxRecDepth 20000 in
theorem dX8_position_21 : @Eq _ (decode cX8_position 21) (.ok (.aaload, 1)) := dc_50 (lxX8_position 1 5 rfl)
set_option maxRecDepth 20000 in
theorem dX8_position_22 : @Eq _ (decode cX8_position 22) (.ok (.iconst 3, 1)) := dc_6 (lxX8_position 1 6 rfl)
set_option maxRecDepth 20000 in
theorem dX8_position_23 : @Eq _ (decode cX8_position 23) (.ok (.iaload, 1)) := dc_46 (lxX8_position 1 7 rfl)
set_option maxRecDepth 20000 in
theorem dX8_position_24 : @Eq _ (decode cX8_position 24) (.ok (.ireturn, 1)) := dc_172 (lxX8_position 1 8 rfl)
def lb_sgX8_limit : List (List UInt8) := [[42, 27, 184, 0, 77, 3, 182, 0, 81, 153, 0, 7, 3, 167, 0, 11], [42, 180, 0, 14, 27, 50, 5, 46, 172]]
set_option maxRecDepth 100000 in
theorem lb_seX8_limit : cX8_limit.data.toList = lb_sgX8_limit.flatten := by decide +kernel
theorem lb_lnX8_limit : ∀ s ∈ lb_sgX8_limit.dropLast, s.length = 16 := by decide +kernel
theorem lxX8_limit (k j : Nat) {b : UInt8} (h : (lb_sgX8_limit[k]?).bind (fun s => s[j]?) = some b) : lb_at cX8_limit (16 * k + j) b := by
  unfold lb_at
  rw [lb_seX8_limit]
  exact lb_flat 16 lb_sgX8_limit k j b lb_lnX8_limit h
set_option maxRecDepth 20000 in
theorem dX8_limit_0 : @Eq _ (decode cX8_limit 0) (.ok (.aload_n 0, 1)) := dc_42 (lxX8_limit 0 0 rfl)
set_option maxRecDepth 20000 in
theorem dX8_limit_1 : @Eq _ (decode cX8_limit 1) (.ok (.iload_n 1, 1)) := dc_27 (lxX8_limit 0 1 rfl)
set_option maxRecDepth 20000 in
theorem dX8_limit_2 : @Eq _ (decode cX8_limit 2) (.ok (.invokestatic 77, 3)) := dc_184 0 77 (lxX8_limit 0 2 rfl) (lxX8_limit 0 3 rfl) (lxX8_limit 0 4 rfl)
set_option maxRecDepth 20000 in
theorem dX8_limit_5 : @Eq _ (decode cX8_limit 5) (.ok (.iconst 0, 1)) := dc_3 (lxX8_limit 0 5 rfl)
set_option maxRecDepth 20000 in
theorem dX8_limit_6 : @Eq _ (decode cX8_limit 6) (.ok (.invokevirtual 81, 3)) := dc_182 0 81 (lxX8_limit 0 6 rfl) (lxX8_limit 0 7 rfl) (lxX8_limit 0 8 rfl)
set_option maxRecDepth 20000 in
theorem dX8_limit_9 : @Eq _ (decode cX8_limit 9) (.ok (.ifCond .eq 7, 3)) := dc_153 0 7 (lxX8_limit 0 9 rfl) (lxX8_limit 0 10 rfl) (lxX8_limit 0 11 rfl)
set_option maxRecDepth 20000 in
theorem dX8_limit_12 : @Eq _ (decode cX8_limit 12) (.ok (.iconst 0, 1)) := dc_3 (lxX8_limit 0 12 rfl)
set_option maxRecDepth 20000 in
theorem dX8_limit_13 : @Eq _ (decode cX8_limit 13) (.ok (.goto 11, 3)) := dc_167 0 11 (lxX8_limit 0 13 rfl) (lxX8_limit 0 14 rfl) (lxX8_limit 0 15 rfl)
set_option maxRecDepth 20000 in
theorem dX8_limit_16 : @Eq _ (decode cX8_limit 16) (.ok (.aload_n 0, 1)) := dc_42 (lxX8_limit 1 0 rfl)
set_option maxRecDepth 20000 in
theorem dX8_limit_17 : @Eq _ (decode cX8_limit 17) (.ok (.getfield 14, 3)) := dc_180 0 14 (lxX8_limit 1 1 rfl) (lxX8_limit 1 2 rfl) (lxX8_limit 1 3 rfl)
set_option maxRecDepth 20000 in
theorem dX8_limit_20 : @Eq _ (decode cX8_limit 20) (.ok (.iload_n 1, 1)) := dc_27 (lxX8_limit 1 4 rfl)
set_option maxRecDepth 20000 in
theorem dX8_limit_21 : @Eq _ (decode cX8_limit 21) (.ok (.aaload, 1)) := dc_50 (lxX8_limit 1 5 rfl)
set_option maxRecDepth 20000 in
theorem dX8_limit_22 : @Eq _ (decode cX8_limit 22) (.ok (.iconst 2, 1)) := dc_5 (lxX8_limit 1 6 rfl)
set_option maxRecDepth 20000 in
theorem dX8_limit_23 : @Eq _ (decode cX8_limit 23) (.ok (.iaload, 1)) := dc_46 (lxX8_limit 1 7 rfl)
set_option maxRecDepth 20000 in
theorem dX8_limit_24 : @Eq _ (decode cX8_limit 24) (.ok (.ireturn, 1)) := dc_172 (lxX8_limit 1 8 rfl)
def lb_sgX8_capacity : List (List UInt8) := [[42, 27, 184, 0, 77, 3, 182, 0, 81, 153, 0, 7, 3, 167, 0, 11], [42, 180, 0, 14, 27, 50, 4, 46, 172]]
set_option maxRecDepth 100000 in
theorem lb_seX8_capacity : cX8_capacity.data.toList = lb_sgX8_capacity.flatten := by decide +kernel
theorem lb_lnX8_capacity : ∀ s ∈ lb_sgX8_capacity.dropLast, s.length = 16 := by decide +kernel
theorem lxX8_capacity (k j : Nat) {b : UInt8} (h : (lb_sgX8_capacity[k]?).bind (fun s => s[j]?) = some b) : lb_at cX8_capacity (16 * k + j) b := by
  unfold lb_at
  rw [lb_seX8_capacity]
  exact lb_flat 16 lb_sgX8_capacity k j b lb_lnX8_capacity h
set_option maxRecDepth 20000 in
theorem dX8_capacity_0 : @Eq _ (decode cX8_capacity 0) (.ok (.aload_n 0, 1)) := dc_42 (lxX8_capacity 0 0 rfl)
set_option maxRecDepth 20000 in
theorem dX8_capacity_1 : @Eq _ (decode cX8_capacity 1) (.ok (.iload_n 1, 1)) := dc_27 (lxX8_capacity 0 1 rfl)
set_option maxRecDepth 20000 in
theorem dX8_capacity_2 : @Eq _ (decode cX8_capacity 2) (.ok (.invokestatic 77, 3)) := dc_184 0 77 (lxX8_capacity 0 2 rfl) (lxX8_capacity 0 3 rfl) (lxX8_capacity 0 4 rfl)
set_option maxRecDepth 20000 in
theorem dX8_capacity_5 : @Eq _ (decode cX8_capacity 5) (.ok (.iconst 0, 1)) := dc_3 (lxX8_capacity 0 5 rfl)
set_option maxRecDepth 20000 in
theorem dX8_capacity_6 : @Eq _ (decode cX8_capacity 6) (.ok (.invokevirtual 81, 3)) := dc_182 0 81 (lxX8_capacity 0 6 rfl) (lxX8_capacity 0 7 rfl) (lxX8_capacity 0 8 rfl)
set_option maxRecDepth 20000 in
theorem dX8_capacity_9 : @Eq _ (decode cX8_capacity 9) (.ok (.ifCond .eq 7, 3)) := dc_153 0 7 (lxX8_capacity 0 9 rfl) (lxX8_capacity 0 10 rfl) (lxX8_capacity 0 11 rfl)
set_option maxRecDepth 20000 in
theorem dX8_capacity_12 : @Eq _ (decode cX8_capacity 12) (.ok (.iconst 0, 1)) := dc_3 (lxX8_capacity 0 12 rfl)
set_option maxRecDepth 20000 in
theorem dX8_capacity_13 : @Eq _ (decode cX8_capacity 13) (.ok (.goto 11, 3)) := dc_167 0 11 (lxX8_capacity 0 13 rfl) (lxX8_capacity 0 14 rfl) (lxX8_capacity 0 15 rfl)
set_option maxRecDepth 20000 in
theorem dX8_capacity_16 : @Eq _ (decode cX8_capacity 16) (.ok (.aload_n 0, 1)) := dc_42 (lxX8_capacity 1 0 rfl)
set_option maxRecDepth 20000 in
theorem dX8_capacity_17 : @Eq _ (decode cX8_capacity 17) (.ok (.getfield 14, 3)) := dc_180 0 14 (lxX8_capacity 1 1 rfl) (lxX8_capacity 1 2 rfl) (lxX8_capacity 1 3 rfl)
set_option maxRecDepth 20000 in
theorem dX8_capacity_20 : @Eq _ (decode cX8_capacity 20) (.ok (.iload_n 1, 1)) := dc_27 (lxX8_capacity 1 4 rfl)
set_option maxRecDepth 20000 in
theorem dX8_capacity_21 : @Eq _ (decode cX8_capacity 21) (.ok (.aaload, 1)) := dc_50 (lxX8_capacity 1 5 rfl)
set_option maxRecDepth 20000 in
theorem dX8_capacity_22 : @Eq _ (decode cX8_capacity 22) (.ok (.iconst 1, 1)) := dc_4 (lxX8_capacity 1 6 rfl)
set_option maxRecDepth 20000 in
theorem dX8_capacity_23 : @Eq _ (decode cX8_capacity 23) (.ok (.iaload, 1)) := dc_46 (lxX8_capacity 1 7 rfl)
set_option maxRecDepth 20000 in
theorem dX8_capacity_24 : @Eq _ (decode cX8_capacity 24) (.ok (.ireturn, 1)) := dc_172 (lxX8_capacity 1 8 rfl)
def lb_sgX8_markOf : List (List UInt8) := [[42, 7, 46, 156, 0, 8, 16, 247, 167, 0, 6, 42, 7, 46, 172]]
set_option maxRecDepth 100000 in
theorem lb_seX8_markOf : cX8_markOf.data.toList = lb_sgX8_markOf.flatten := by decide +kernel
theorem lb_lnX8_markOf : ∀ s ∈ lb_sgX8_markOf.dropLast, s.length = 16 := by decide +kernel
theorem lxX8_markOf (k j : Nat) {b : UInt8} (h : (lb_sgX8_markOf[k]?).bind (fun s => s[j]?) = some b) : lb_at cX8_markOf (16 * k + j) b := by
  unfold lb_at
  rw [lb_seX8_markOf]
  exact lb_flat 16 lb_sgX8_markOf k j b lb_lnX8_markOf h
set_option maxRecDepth 20000 in
theorem dX8_markOf_0 : @Eq _ (decode cX8_markOf 0) (.ok (.aload_n 0, 1)) := dc_42 (lxX8_markOf 0 0 rfl)
set_option maxRecDepth 20000 in
theorem dX8_markOf_1 : @Eq _ (decode cX8_markOf 1) (.ok (.iconst 4, 1)) := dc_7 (lxX8_markOf 0 1 rfl)
set_option maxRecDepth 20000 in
theorem dX8_markOf_2 : @Eq _ (decode cX8_markOf 2) (.ok (.iaload, 1)) := dc_46 (lxX8_markOf 0 2 rfl)
set_option maxRecDepth 20000 in
theorem dX8_markOf_3 : @Eq _ (decode cX8_markOf 3) (.ok (.ifCond .ge 8, 3)) := dc_156 0 8 (lxX8_markOf 0 3 rfl) (lxX8_markOf 0 4 rfl) (lxX8_markOf 0 5 rfl)
set_option maxRecDepth 20000 in
theorem dX8_markOf_6 : @Eq _ (decode cX8_markOf 6) (.ok (.bipush (-9), 2)) := dc_16 247 (lxX8_markOf 0 6 rfl) (lxX8_markOf 0 7 rfl)
set_option maxRecDepth 20000 in
theorem dX8_markOf_8 : @Eq _ (decode cX8_markOf 8) (.ok (.goto 6, 3)) := dc_167 0 6 (lxX8_markOf 0 8 rfl) (lxX8_markOf 0 9 rfl) (lxX8_markOf 0 10 rfl)
set_option maxRecDepth 20000 in
theorem dX8_markOf_11 : @Eq _ (decode cX8_markOf 11) (.ok (.aload_n 0, 1)) := dc_42 (lxX8_markOf 0 11 rfl)
set_option maxRecDepth 20000 in
theorem dX8_markOf_12 : @Eq _ (decode cX8_markOf 12) (.ok (.iconst 4, 1)) := dc_7 (lxX8_markOf 0 12 rfl)
set_option maxRecDepth 20000 in
theorem dX8_markOf_13 : @Eq _ (decode cX8_markOf 13) (.ok (.iaload, 1)) := dc_46 (lxX8_markOf 0 13 rfl)
set_option maxRecDepth 20000 in
theorem dX8_markOf_14 : @Eq _ (decode cX8_markOf 14) (.ok (.ireturn, 1)) := dc_172 (lxX8_markOf 0 14 rfl)
def lb_sgX8_marked : List (List UInt8) := [[42, 27, 184, 0, 77, 3, 182, 0, 81, 153, 0, 7, 3, 167, 0, 12], [42, 180, 0, 14, 27, 50, 184, 0, 135, 172]]
set_option maxRecDepth 100000 in
theorem lb_seX8_marked : cX8_marked.data.toList = lb_sgX8_marked.flatten := by decide +kernel
theorem lb_lnX8_marked : ∀ s ∈ lb_sgX8_marked.dropLast, s.length = 16 := by decide +kernel
theorem lxX8_marked (k j : Nat) {b : UInt8} (h : (lb_sgX8_marked[k]?).bind (fun s => s[j]?) = some b) : lb_at cX8_marked (16 * k + j) b := by
  unfold lb_at
  rw [lb_seX8_marked]
  exact lb_flat 16 lb_sgX8_marked k j b lb_lnX8_marked h
set_option maxRecDepth 20000 in
theorem dX8_marked_0 : @Eq _ (decode cX8_marked 0) (.ok (.aload_n 0, 1)) := dc_42 (lxX8_marked 0 0 rfl)
set_option maxRecDepth 20000 in
theorem dX8_marked_1 : @Eq _ (decode cX8_marked 1) (.ok (.iload_n 1, 1)) := dc_27 (lxX8_marked 0 1 rfl)
set_option maxRecDepth 20000 in
theorem dX8_marked_2 : @Eq _ (decode cX8_marked 2) (.ok (.invokestatic 77, 3)) := dc_184 0 77 (lxX8_marked 0 2 rfl) (lxX8_marked 0 3 rfl) (lxX8_marked 0 4 rfl)
set_option maxRecDepth 20000 in
theorem dX8_marked_5 : @Eq _ (decode cX8_marked 5) (.ok (.iconst 0, 1)) := dc_3 (lxX8_marked 0 5 rfl)
set_option maxRecDepth 20000 in
theorem dX8_marked_6 : @Eq _ (decode cX8_marked 6) (.ok (.invokevirtual 81, 3)) := dc_182 0 81 (lxX8_marked 0 6 rfl) (lxX8_marked 0 7 rfl) (lxX8_marked 0 8 rfl)
set_option maxRecDepth 20000 in
theorem dX8_marked_9 : @Eq _ (decode cX8_marked 9) (.ok (.ifCond .eq 7, 3)) := dc_153 0 7 (lxX8_marked 0 9 rfl) (lxX8_marked 0 10 rfl) (lxX8_marked 0 11 rfl)
set_option maxRecDepth 20000 in
theorem dX8_marked_12 : @Eq _ (decode cX8_marked 12) (.ok (.iconst 0, 1)) := dc_3 (lxX8_marked 0 12 rfl)
set_option maxRecDepth 20000 in
theorem dX8_marked_13 : @Eq _ (decode cX8_marked 13) (.ok (.goto 12, 3)) := dc_167 0 12 (lxX8_marked 0 13 rfl) (lxX8_marked 0 14 rfl) (lxX8_marked 0 15 rfl)
set_option maxRecDepth 20000 in
theorem dX8_marked_16 : @Eq _ (decode cX8_marked 16) (.ok (.aload_n 0, 1)) := dc_42 (lxX8_marked 1 0 rfl)
set_option maxRecDepth 20000 in
theorem dX8_marked_17 : @Eq _ (decode cX8_marked 17) (.ok (.getfield 14, 3)) := dc_180 0 14 (lxX8_marked 1 1 rfl) (lxX8_marked 1 2 rfl) (lxX8_marked 1 3 rfl)
set_option maxRecDepth 20000 in
theorem dX8_marked_20 : @Eq _ (decode cX8_marked 20) (.ok (.iload_n 1, 1)) := dc_27 (lxX8_marked 1 4 rfl)
set_option maxRecDepth 20000 in
theorem dX8_marked_21 : @Eq _ (decode cX8_marked 21) (.ok (.aaload, 1)) := dc_50 (lxX8_marked 1 5 rfl)
set_option maxRecDepth 20000 in
theorem dX8_marked_22 : @Eq _ (decode cX8_marked 22) (.ok (.invokestatic 135, 3)) := dc_184 0 135 (lxX8_marked 1 6 rfl) (lxX8_marked 1 7 rfl) (lxX8_marked 1 8 rfl)
set_option maxRecDepth 20000 in
theorem dX8_marked_25 : @Eq _ (decode cX8_marked 25) (.ok (.ireturn, 1)) := dc_172 (lxX8_marked 1 9 rfl)
def lb_sgX8_sign : List (List UInt8) := [[42, 27, 184, 0, 77, 3, 182, 0, 81, 153, 0, 5, 3, 172, 42, 180], [0, 14, 27, 50, 78, 28, 3, 45, 184, 0, 54, 4, 100, 184, 0, 41], [153, 0, 8, 16, 247, 167, 0, 17, 42, 180, 0, 7, 45, 3, 46, 45], [6, 46, 96, 28, 96, 46, 172]]
set_option maxRecDepth 100000 in
theorem lb_seX8_sign : cX8_sign.data.toList = lb_sgX8_sign.flatten := by decide +kernel
theorem lb_lnX8_sign : ∀ s ∈ lb_sgX8_sign.dropLast, s.length = 16 := by decide +kernel
theorem lxX8_sign (k j : Nat) {b : UInt8} (h : (lb_sgX8_sign[k]?).bind (fun s => s[j]?) = some b) : lb_at cX8_sign (16 * k + j) b := by
  unfold lb_at
  rw [lb_seX8_sign]
  exact lb_flat 16 lb_sgX8_sign k j b lb_lnX8_sign h
set_option maxRecDepth 20000 in
theorem dX8_sign_0 : @Eq _ (decode cX8_sign 0) (.ok (.aload_n 0, 1)) := dc_42 (lxX8_sign 0 0 rfl)
set_option maxRecDepth 20000 in
theorem dX8_sign_1 : @Eq _ (decode cX8_sign 1) (.ok (.iload_n 1, 1)) := dc_27 (lxX8_sign 0 1 rfl)
set_option maxRecDepth 20000 in
theorem dX8_sign_2 : @Eq _ (decode cX8_sign 2) (.ok (.invokestatic 77, 3)) := dc_184 0 77 (lxX8_sign 0 2 rfl) (lxX8_sign 0 3 rfl) (lxX8_sign 0 4 rfl)
set_option maxRecDepth 20000 in
theorem dX8_sign_5 : @Eq _ (decode cX8_sign 5) (.ok (.iconst 0, 1)) := dc_3 (lxX8_sign 0 5 rfl)
set_option maxRecDepth 20000 in
theorem dX8_sign_6 : @Eq _ (decode cX8_sign 6) (.ok (.invokevirtual 81, 3)) := dc_182 0 81 (lxX8_sign 0 6 rfl) (lxX8_sign 0 7 rfl) (lxX8_sign 0 8 rfl)
set_option maxRecDepth 20000 in
theorem dX8_sign_9 : @Eq _ (decode cX8_sign 9) (.ok (.ifCond .eq 5, 3)) := dc_153 0 5 (lxX8_sign 0 9 rfl) (lxX8_sign 0 10 rfl) (lxX8_sign 0 11 rfl)
set_option maxRecDepth 20000 in
theorem dX8_sign_12 : @Eq _ (decode cX8_sign 12) (.ok (.iconst 0, 1)) := dc_3 (lxX8_sign 0 12 rfl)
set_option maxRecDepth 20000 in
theorem dX8_sign_13 : @Eq _ (decode cX8_sign 13) (.ok (.ireturn, 1)) := dc_172 (lxX8_sign 0 13 rfl)
set_option maxRecDepth 20000 in
theorem dX8_sign_14 : @Eq _ (decode cX8_sign 14) (.ok (.aload_n 0, 1)) := dc_42 (lxX8_sign 0 14 rfl)
set_option maxRecDepth 20000 in
theorem dX8_sign_15 : @Eq _ (decode cX8_sign 15) (.ok (.getfield 14, 3)) := dc_180 0 14 (lxX8_sign 0 15 rfl) (lxX8_sign 1 0 rfl) (lxX8_sign 1 1 rfl)
set_option maxRecDepth 20000 in
theorem dX8_sign_18 : @Eq _ (decode cX8_sign 18) (.ok (.iload_n 1, 1)) := dc_27 (lxX8_sign 1 2 rfl)
set_option maxRecDepth 20000 in
theorem dX8_sign_19 : @Eq _ (decode cX8_sign 19) (.ok (.aaload, 1)) := dc_50 (lxX8_sign 1 3 rfl)
set_option maxRecDepth 20000 in
theorem dX8_sign_20 : @Eq _ (decode cX8_sign 20) (.ok (.astore_n 3, 1)) := dc_78 (lxX8_sign 1 4 rfl)
set_option maxRecDepth 20000 in
theorem dX8_sign_21 : @Eq _ (decode cX8_sign 21) (.ok (.iload_n 2, 1)) := dc_28 (lxX8_sign 1 5 rfl)
set_option maxRecDepth 20000 in
theorem dX8_sign_22 : @Eq _ (decode cX8_sign 22) (.ok (.iconst 0, 1)) := dc_3 (lxX8_sign 1 6 rfl)
set_option maxRecDepth 20000 in
theorem dX8_sign_23 : @Eq _ (decode cX8_sign 23) (.ok (.aload_n 3, 1)) := dc_45 (lxX8_sign 1 7 rfl)
set_option maxRecDepth 20000 in
theorem dX8_sign_24 : @Eq _ (decode cX8_sign 24) (.ok (.invokestatic 54, 3)) := dc_184 0 54 (lxX8_sign 1 8 rfl) (lxX8_sign 1 9 rfl) (lxX8_sign 1 10 rfl)
set_option maxRecDepth 20000 in
theorem dX8_sign_27 : @Eq _ (decode cX8_sign 27) (.ok (.iconst 1, 1)) := dc_4 (lxX8_sign 1 11 rfl)
set_option maxRecDepth 20000 in
theorem dX8_sign_28 : @Eq _ (decode cX8_sign 28) (.ok (.isub, 1)) := dc_100 (lxX8_sign 1 12 rfl)
set_option maxRecDepth 20000 in
theorem dX8_sign_29 : @Eq _ (decode cX8_sign 29) (.ok (.invokestatic 41, 3)) := dc_184 0 41 (lxX8_sign 1 13 rfl) (lxX8_sign 1 14 rfl) (lxX8_sign 1 15 rfl)
set_option maxRecDepth 20000 in
theorem dX8_sign_32 : @Eq _ (decode cX8_sign 32) (.ok (.ifCond .eq 8, 3)) := dc_153 0 8 (lxX8_sign 2 0 rfl) (lxX8_sign 2 1 rfl) (lxX8_sign 2 2 rfl)
set_option maxRecDepth 20000 in
theorem dX8_sign_35 : @Eq _ (decode cX8_sign 35) (.ok (.bipush (-9), 2)) := dc_16 247 (lxX8_sign 2 3 rfl) (lxX8_sign 2 4 rfl)
set_option maxRecDepth 20000 in
theorem dX8_sign_37 : @Eq _ (decode cX8_sign 37) (.ok (.goto 17, 3)) := dc_167 0 17 (lxX8_sign 2 5 rfl) (lxX8_sign 2 6 rfl) (lxX8_sign 2 7 rfl)
set_option maxRecDepth 20000 in
theorem dX8_sign_40 : @Eq _ (decode cX8_sign 40) (.ok (.aload_n 0, 1)) := dc_42 (lxX8_sign 2 8 rfl)
set_option maxRecDepth 20000 in
theorem dX8_sign_41 : @Eq _ (decode cX8_sign 41) (.ok (.getfield 7, 3)) := dc_180 0 7 (lxX8_sign 2 9 rfl) (lxX8_sign 2 10 rfl) (lxX8_sign 2 11 rfl)
set_option maxRecDepth 20000 in
theorem dX8_sign_44 : @Eq _ (decode cX8_sign 44) (.ok (.aload_n 3, 1)) := dc_45 (lxX8_sign 2 12 rfl)
set_option maxRecDepth 20000 in
theorem dX8_sign_45 : @Eq _ (decode cX8_sign 45) (.ok (.iconst 0, 1)) := dc_3 (lxX8_sign 2 13 rfl)
set_option maxRecDepth 20000 in
theorem dX8_sign_46 : @Eq _ (decode cX8_sign 46) (.ok (.iaload, 1)) := dc_46 (lxX8_sign 2 14 rfl)
set_option maxRecDepth 20000 in
theorem dX8_sign_47 : @Eq _ (decode cX8_sign 47) (.ok (.aload_n 3, 1)) := dc_45 (lxX8_sign 2 15 rfl)
set_option maxRecDepth 20000 in
theorem dX8_sign_48 : @Eq _ (decode cX8_sign 48) (.ok (.iconst 3, 1)) := dc_6 (lxX8_sign 3 0 rfl)
set_option maxRecDepth 20000 in
theorem dX8_sign_49 : @Eq _ (decode cX8_sign 49) (.ok (.iaload, 1)) := dc_46 (lxX8_sign 3 1 rfl)
set_option maxRecDepth 20000 in
theorem dX8_sign_50 : @Eq _ (decode cX8_sign 50) (.ok (.iadd, 1)) := dc_96 (lxX8_sign 3 2 rfl)
set_option maxRecDepth 20000 in
theorem dX8_sign_51 : @Eq _ (decode cX8_sign 51) (.ok (.iload_n 2, 1)) := dc_28 (lxX8_sign 3 3 rfl)
set_option maxRecDepth 20000 in
theorem dX8_sign_52 : @Eq _ (decode cX8_sign 52) (.ok (.iadd, 1)) := dc_96 (lxX8_sign 3 4 rfl)
set_option maxRecDepth 20000 in
theorem dX8_sign_53 : @Eq _ (decode cX8_sign 53) (.ok (.iaload, 1)) := dc_46 (lxX8_sign 3 5 rfl)
set_option maxRecDepth 20000 in
theorem dX8_sign_54 : @Eq _ (decode cX8_sign 54) (.ok (.ireturn, 1)) := dc_172 (lxX8_sign 3 6 rfl)
def lb_sgX8_look : List (List UInt8) := [[42, 27, 184, 0, 77, 3, 182, 0, 81, 153, 0, 5, 3, 172, 42, 180], [0, 14, 27, 50, 78, 28, 3, 45, 5, 46, 4, 100, 184, 0, 41, 153], [0, 8, 16, 247, 167, 0, 13, 42, 180, 0, 7, 45, 3, 46, 28, 96], [46, 172]]
set_option maxRecDepth 100000 in
theorem lb_seX8_look : cX8_look.data.toList = lb_sgX8_look.flatten := by decide +kernel
theorem lb_lnX8_look : ∀ s ∈ lb_sgX8_look.dropLast, s.length = 16 := by decide +kernel
theorem lxX8_look (k j : Nat) {b : UInt8} (h : (lb_sgX8_look[k]?).bind (fun s => s[j]?) = some b) : lb_at cX8_look (16 * k + j) b := by
  unfold lb_at
  rw [lb_seX8_look]
  exact lb_flat 16 lb_sgX8_look k j b lb_lnX8_look h
set_option maxRecDepth 20000 in
theorem dX8_look_0 : @Eq _ (decode cX8_look 0) (.ok (.aload_n 0, 1)) := dc_42 (lxX8_look 0 0 rfl)
set_option maxRecDepth 20000 in
theorem dX8_look_1 : @Eq _ (decode cX8_look 1) (.ok (.iload_n 1, 1)) := dc_27 (lxX8_look 0 1 rfl)
set_option maxRecDepth 20000 in
theorem dX8_look_2 : @Eq _ (decode cX8_look 2) (.ok (.invokestatic 77, 3)) := dc_184 0 77 (lxX8_look 0 2 rfl) (lxX8_look 0 3 rfl) (lxX8_look 0 4 rfl)
set_option maxRecDepth 20000 in
theorem dX8_look_5 : @Eq _ (decode cX8_look 5) (.ok (.iconst 0, 1)) := dc_3 (lxX8_look 0 5 rfl)
set_option maxRecDepth 20000 in
theorem dX8_look_6 : @Eq _ (decode cX8_look 6) (.ok (.invokevirtual 81, 3)) := dc_182 0 81 (lxX8_look 0 6 rfl) (lxX8_look 0 7 rfl) (lxX8_look 0 8 rfl)
set_option maxRecDepth 20000 in
theorem dX8_look_9 : @Eq _ (decode cX8_look 9) (.ok (.ifCond .eq 5, 3)) := dc_153 0 5 (lxX8_look 0 9 rfl) (lxX8_look 0 10 rfl) (lxX8_look 0 11 rfl)
set_option maxRecDepth 20000 in
theorem dX8_look_12 : @Eq _ (decode cX8_look 12) (.ok (.iconst 0, 1)) := dc_3 (lxX8_look 0 12 rfl)
set_option maxRecDepth 20000 in
theorem dX8_look_13 : @Eq _ (decode cX8_look 13) (.ok (.ireturn, 1)) := dc_172 (lxX8_look 0 13 rfl)
set_option maxRecDepth 20000 in
theorem dX8_look_14 : @Eq _ (decode cX8_look 14) (.ok (.aload_n 0, 1)) := dc_42 (lxX8_look 0 14 rfl)
set_option maxRecDepth 20000 in
theorem dX8_look_15 : @Eq _ (decode cX8_look 15) (.ok (.getfield 14, 3)) := dc_180 0 14 (lxX8_look 0 15 rfl) (lxX8_look 1 0 rfl) (lxX8_look 1 1 rfl)
set_option maxRecDepth 20000 in
theorem dX8_look_18 : @Eq _ (decode cX8_look 18) (.ok (.iload_n 1, 1)) := dc_27 (lxX8_look 1 2 rfl)
set_option maxRecDepth 20000 in
theorem dX8_look_19 : @Eq _ (decode cX8_look 19) (.ok (.aaload, 1)) := dc_50 (lxX8_look 1 3 rfl)
set_option maxRecDepth 20000 in
theorem dX8_look_20 : @Eq _ (decode cX8_look 20) (.ok (.astore_n 3, 1)) := dc_78 (lxX8_look 1 4 rfl)
set_option maxRecDepth 20000 in
theorem dX8_look_21 : @Eq _ (decode cX8_look 21) (.ok (.iload_n 2, 1)) := dc_28 (lxX8_look 1 5 rfl)
set_option maxRecDepth 20000 in
theorem dX8_look_22 : @Eq _ (decode cX8_look 22) (.ok (.iconst 0, 1)) := dc_3 (lxX8_look 1 6 rfl)
set_option maxRecDepth 20000 in
theorem dX8_look_23 : @Eq _ (decode cX8_look 23) (.ok (.aload_n 3, 1)) := dc_45 (lxX8_look 1 7 rfl)
set_option maxRecDepth 20000 in
theorem dX8_look_24 : @Eq _ (decode cX8_look 24) (.ok (.iconst 2, 1)) := dc_5 (lxX8_look 1 8 rfl)
set_option maxRecDepth 20000 in
theorem dX8_look_25 : @Eq _ (decode cX8_look 25) (.ok (.iaload, 1)) := dc_46 (lxX8_look 1 9 rfl)
set_option maxRecDepth 20000 in
theorem dX8_look_26 : @Eq _ (decode cX8_look 26) (.ok (.iconst 1, 1)) := dc_4 (lxX8_look 1 10 rfl)
set_option maxRecDepth 20000 in
theorem dX8_look_27 : @Eq _ (decode cX8_look 27) (.ok (.isub, 1)) := dc_100 (lxX8_look 1 11 rfl)
set_option maxRecDepth 20000 in
theorem dX8_look_28 : @Eq _ (decode cX8_look 28) (.ok (.invokestatic 41, 3)) := dc_184 0 41 (lxX8_look 1 12 rfl) (lxX8_look 1 13 rfl) (lxX8_look 1 14 rfl)
set_option maxRecDepth 20000 in
theorem dX8_look_31 : @Eq _ (decode cX8_look 31) (.ok (.ifCond .eq 8, 3)) := dc_153 0 8 (lxX8_look 1 15 rfl) (lxX8_look 2 0 rfl) (lxX8_look 2 1 rfl)
set_option maxRecDepth 20000 in
theorem dX8_look_34 : @Eq _ (decode cX8_look 34) (.ok (.bipush (-9), 2)) := dc_16 247 (lxX8_look 2 2 rfl) (lxX8_look 2 3 rfl)
set_option maxRecDepth 20000 in
theorem dX8_look_36 : @Eq _ (decode cX8_look 36) (.ok (.goto 13, 3)) := dc_167 0 13 (lxX8_look 2 4 rfl) (lxX8_look 2 5 rfl) (lxX8_look 2 6 rfl)
set_option maxRecDepth 20000 in
theorem dX8_look_39 : @Eq _ (decode cX8_look 39) (.ok (.aload_n 0, 1)) := dc_42 (lxX8_look 2 7 rfl)
set_option maxRecDepth 20000 in
theorem dX8_look_40 : @Eq _ (decode cX8_look 40) (.ok (.getfield 7, 3)) := dc_180 0 7 (lxX8_look 2 8 rfl) (lxX8_look 2 9 rfl) (lxX8_look 2 10 rfl)
set_option maxRecDepth 20000 in
theorem dX8_look_43 : @Eq _ (decode cX8_look 43) (.ok (.aload_n 3, 1)) := dc_45 (lxX8_look 2 11 rfl)
set_option maxRecDepth 20000 in
theorem dX8_look_44 : @Eq _ (decode cX8_look 44) (.ok (.iconst 0, 1)) := dc_3 (lxX8_look 2 12 rfl)
set_option maxRecDepth 20000 in
theorem dX8_look_45 : @Eq _ (decode cX8_look 45) (.ok (.iaload, 1)) := dc_46 (lxX8_look 2 13 rfl)
set_option maxRecDepth 20000 in
theorem dX8_look_46 : @Eq _ (decode cX8_look 46) (.ok (.iload_n 2, 1)) := dc_28 (lxX8_look 2 14 rfl)
set_option maxRecDepth 20000 in
theorem dX8_look_47 : @Eq _ (decode cX8_look 47) (.ok (.iadd, 1)) := dc_96 (lxX8_look 2 15 rfl)
set_option maxRecDepth 20000 in
theorem dX8_look_48 : @Eq _ (decode cX8_look 48) (.ok (.iaload, 1)) := dc_46 (lxX8_look 3 0 rfl)
set_option maxRecDepth 20000 in
theorem dX8_look_49 : @Eq _ (decode cX8_look 49) (.ok (.ireturn, 1)) := dc_172 (lxX8_look 3 1 rfl)
def lb_sgX8_text_ : List (List UInt8) := [[42, 27, 184, 0, 77, 28, 3, 6, 184, 0, 41, 182, 0, 81, 153, 0], [6, 18, 109, 176, 42, 42, 180, 0, 14, 27, 50, 182, 0, 58, 78, 45], [3, 45, 190, 184, 0, 111, 176]]
set_option maxRecDepth 100000 in
theorem lb_seX8_text_ : cX8_text_.data.toList = lb_sgX8_text_.flatten := by decide +kernel
theorem lb_lnX8_text_ : ∀ s ∈ lb_sgX8_text_.dropLast, s.length = 16 := by decide +kernel
theorem lxX8_text_ (k j : Nat) {b : UInt8} (h : (lb_sgX8_text_[k]?).bind (fun s => s[j]?) = some b) : lb_at cX8_text_ (16 * k + j) b := by
  unfold lb_at
  rw [lb_seX8_text_]
  exact lb_flat 16 lb_sgX8_text_ k j b lb_lnX8_text_ h
set_option maxRecDepth 20000 in
theorem dX8_text__0 : @Eq _ (decode cX8_text_ 0) (.ok (.aload_n 0, 1)) := dc_42 (lxX8_text_ 0 0 rfl)
set_option maxRecDepth 20000 in
theorem dX8_text__1 : @Eq _ (decode cX8_text_ 1) (.ok (.iload_n 1, 1)) := dc_27 (lxX8_text_ 0 1 rfl)
set_option maxRecDepth 20000 in
theorem dX8_text__2 : @Eq _ (decode cX8_text_ 2) (.ok (.invokestatic 77, 3)) := dc_184 0 77 (lxX8_text_ 0 2 rfl) (lxX8_text_ 0 3 rfl) (lxX8_text_ 0 4 rfl)
set_option maxRecDepth 20000 in
theorem dX8_text__5 : @Eq _ (decode cX8_text_ 5) (.ok (.iload_n 2, 1)) := dc_28 (lxX8_text_ 0 5 rfl)
set_option maxRecDepth 20000 in
theorem dX8_text__6 : @Eq _ (decode cX8_text_ 6) (.ok (.iconst 0, 1)) := dc_3 (lxX8_text_ 0 6 rfl)
set_option maxRecDepth 20000 in
theorem dX8_text__7 : @Eq _ (decode cX8_text_ 7) (.ok (.iconst 3, 1)) := dc_6 (lxX8_text_ 0 7 rfl)
set_option maxRecDepth 20000 in
theorem dX8_text__8 : @Eq _ (decode cX8_text_ 8) (.ok (.invokestatic 41, 3)) := dc_184 0 41 (lxX8_text_ 0 8 rfl) (lxX8_text_ 0 9 rfl) (lxX8_text_ 0 10 rfl)
set_option maxRecDepth 20000 in
theorem dX8_text__11 : @Eq _ (decode cX8_text_ 11) (.ok (.invokevirtual 81, 3)) := dc_182 0 81 (lxX8_text_ 0 11 rfl) (lxX8_text_ 0 12 rfl) (lxX8_text_ 0 13 rfl)
set_option maxRecDepth 20000 in
theorem dX8_text__14 : @Eq _ (decode cX8_text_ 14) (.ok (.ifCond .eq 6, 3)) := dc_153 0 6 (lxX8_text_ 0 14 rfl) (lxX8_text_ 0 15 rfl) (lxX8_text_ 1 0 rfl)
set_option maxRecDepth 20000 in
theorem dX8_text__17 : @Eq _ (decode cX8_text_ 17) (.ok (.ldc 109, 2)) := dc_18 109 (lxX8_text_ 1 1 rfl) (lxX8_text_ 1 2 rfl)
set_option maxRecDepth 20000 in
theorem dX8_text__19 : @Eq _ (decode cX8_text_ 19) (.ok (.areturn, 1)) := dc_176 (lxX8_text_ 1 3 rfl)
set_option maxRecDepth 20000 in
theorem dX8_text__20 : @Eq _ (decode cX8_text_ 20) (.ok (.aload_n 0, 1)) := dc_42 (lxX8_text_ 1 4 rfl)
set_option maxRecDepth 20000 in
theorem dX8_text__21 : @Eq _ (decode cX8_text_ 21) (.ok (.aload_n 0, 1)) := dc_42 (lxX8_text_ 1 5 rfl)
set_option maxRecDepth 20000 in
theorem dX8_text__22 : @Eq _ (decode cX8_text_ 22) (.ok (.getfield 14, 3)) := dc_180 0 14 (lxX8_text_ 1 6 rfl) (lxX8_text_ 1 7 rfl) (lxX8_text_ 1 8 rfl)
set_option maxRecDepth 20000 in
theorem dX8_text__25 : @Eq _ (decode cX8_text_ 25) (.ok (.iload_n 1, 1)) := dc_27 (lxX8_text_ 1 9 rfl)
set_option maxRecDepth 20000 in
theorem dX8_text__26 : @Eq _ (decode cX8_text_ 26) (.ok (.aaload, 1)) := dc_50 (lxX8_text_ 1 10 rfl)
set_option maxRecDepth 20000 in
theorem dX8_text__27 : @Eq _ (decode cX8_text_ 27) (.ok (.invokevirtual 58, 3)) := dc_182 0 58 (lxX8_text_ 1 11 rfl) (lxX8_text_ 1 12 rfl) (lxX8_text_ 1 13 rfl)
set_option maxRecDepth 20000 in
theorem dX8_text__30 : @Eq _ (decode cX8_text_ 30) (.ok (.astore_n 3, 1)) := dc_78 (lxX8_text_ 1 14 rfl)
set_option maxRecDepth 20000 in
theorem dX8_text__31 : @Eq _ (decode cX8_text_ 31) (.ok (.aload_n 3, 1)) := dc_45 (lxX8_text_ 1 15 rfl)
set_option maxRecDepth 20000 in
theorem dX8_text__32 : @Eq _ (decode cX8_text_ 32) (.ok (.iconst 0, 1)) := dc_3 (lxX8_text_ 2 0 rfl)
set_option maxRecDepth 20000 in
theorem dX8_text__33 : @Eq _ (decode cX8_text_ 33) (.ok (.aload_n 3, 1)) := dc_45 (lxX8_text_ 2 1 rfl)
set_option maxRecDepth 20000 in
theorem dX8_text__34 : @Eq _ (decode cX8_text_ 34) (.ok (.arraylength, 1)) := dc_190 (lxX8_text_ 2 2 rfl)
set_option maxRecDepth 20000 in
theorem dX8_text__35 : @Eq _ (decode cX8_text_ 35) (.ok (.invokestatic 111, 3)) := dc_184 0 111 (lxX8_text_ 2 3 rfl) (lxX8_text_ 2 4 rfl) (lxX8_text_ 2 5 rfl)
set_option maxRecDepth 20000 in
theorem dX8_text__38 : @Eq _ (decode cX8_text_ 38) (.ok (.areturn, 1)) := dc_176 (lxX8_text_ 2 6 rfl)
def lb_sgX8_inner : List (List UInt8) := [[42, 27, 184, 0, 77, 3, 182, 0, 81, 153, 0, 6, 18, 109, 176, 42], [42, 180, 0, 14, 27, 50, 182, 0, 58, 58, 7, 28, 155, 0, 39, 28], [29, 163, 0, 34, 29, 25, 7, 190, 163, 0, 27, 21, 4, 155, 0, 22], [21, 4, 21, 5, 163, 0, 15, 21, 5, 29, 28, 100, 163, 0, 7, 4], [167, 0, 4, 3, 54, 8, 42, 3, 21, 8, 153, 0, 13, 21, 6, 3], [5, 184, 0, 41, 153, 0, 7, 4, 167, 0, 4, 3, 182, 0, 81, 153], [0, 8, 18, 109, 167, 0, 16, 25, 7, 28, 21, 4, 96, 28, 21, 5], [96, 184, 0, 111, 176]]
set_option maxRecDepth 100000 in
theorem lb_seX8_inner : cX8_inner.data.toList = lb_sgX8_inner.flatten := by decide +kernel
theorem lb_lnX8_inner : ∀ s ∈ lb_sgX8_inner.dropLast, s.length = 16 := by decide +kernel
theorem lxX8_inner (k j : Nat) {b : UInt8} (h : (lb_sgX8_inner[k]?).bind (fun s => s[j]?) = some b) : lb_at cX8_inner (16 * k + j) b := by
  unfold lb_at
  rw [lb_seX8_inner]
  exact lb_flat 16 lb_sgX8_inner k j b lb_lnX8_inner h
set_option maxRecDepth 20000 in
theorem dX8_inner_0 : @Eq _ (decode cX8_inner 0) (.ok (.aload_n 0, 1)) := dc_42 (lxX8_inner 0 0 rfl)
set_option maxRecDepth 20000 in
theorem dX8_inner_1 : @Eq _ (decode cX8_inner 1) (.ok (.iload_n 1, 1)) := dc_27 (lxX8_inner 0 1 rfl)
set_option maxRecDepth 20000 in
theorem dX8_inner_2 : @Eq _ (decode cX8_inner 2) (.ok (.invokestatic 77, 3)) := dc_184 0 77 (lxX8_inner 0 2 rfl) (lxX8_inner 0 3 rfl) (lxX8_inner 0 4 rfl)
set_option maxRecDepth 20000 in
theorem dX8_inner_5 : @Eq _ (decode cX8_inner 5) (.ok (.iconst 0, 1)) := dc_3 (lxX8_inner 0 5 rfl)
set_option maxRecDepth 20000 in
theorem dX8_inner_6 : @Eq _ (decode cX8_inner 6) (.ok (.invokevirtual 81, 3)) := dc_182 0 81 (lxX8_inner 0 6 rfl) (lxX8_inner 0 7 rfl) (lxX8_inner 0 8 rfl)
set_option maxRecDepth 20000 in
theorem dX8_inner_9 : @Eq _ (decode cX8_inner 9) (.ok (.ifCond .eq 6, 3)) := dc_153 0 6 (lxX8_inner 0 9 rfl) (lxX8_inner 0 10 rfl) (lxX8_inner 0 11 rfl)
set_option maxRecDepth 20000 in
theorem dX8_inner_12 : @Eq _ (decode cX8_inner 12) (.ok (.ldc 109, 2)) := dc_18 109 (lxX8_inner 0 12 rfl) (lxX8_inner 0 13 rfl)
set_option maxRecDepth 20000 in
theorem dX8_inner_14 : @Eq _ (decode cX8_inner 14) (.ok (.areturn, 1)) := dc_176 (lxX8_inner 0 14 rfl)
set_option maxRecDepth 20000 in
theorem dX8_inner_15 : @Eq _ (decode cX8_inner 15) (.ok (.aload_n 0, 1)) := dc_42 (lxX8_inner 0 15 rfl)
set_option maxRecDepth 20000 in
theorem dX8_inner_16 : @Eq _ (decode cX8_inner 16) (.ok (.aload_n 0, 1)) := dc_42 (lxX8_inner 1 0 rfl)
set_option maxRecDepth 20000 in
theorem dX8_inner_17 : @Eq _ (decode cX8_inner 17) (.ok (.getfield 14, 3)) := dc_180 0 14 (lxX8_inner 1 1 rfl) (lxX8_inner 1 2 rfl) (lxX8_inner 1 3 rfl)
set_option maxRecDepth 20000 in
theorem dX8_inner_20 : @Eq _ (decode cX8_inner 20) (.ok (.iload_n 1, 1)) := dc_27 (lxX8_inner 1 4 rfl)
set_option maxRecDepth 20000 in
theorem dX8_inner_21 : @Eq _ (decode cX8_inner 21) (.ok (.aaload, 1)) := dc_50 (lxX8_inner 1 5 rfl)
set_option maxRecDepth 20000 in
theorem dX8_inner_22 : @Eq _ (decode cX8_inner 22) (.ok (.invokevirtual 58, 3)) := dc_182 0 58 (lxX8_inner 1 6 rfl) (lxX8_inner 1 7 rfl) (lxX8_inner 1 8 rfl)
set_option maxRecDepth 20000 in
theorem dX8_inner_25 : @Eq _ (decode cX8_inner 25) (.ok (.astore 7, 2)) := dc_58 7 (lxX8_inner 1 9 rfl) (lxX8_inner 1 10 rfl)
set_option maxRecDepth 20000 in
theorem dX8_inner_27 : @Eq _ (decode cX8_inner 27) (.ok (.iload_n 2, 1)) := dc_28 (lxX8_inner 1 11 rfl)
set_option maxRecDepth 20000 in
theorem dX8_inner_28 : @Eq _ (decode cX8_inner 28) (.ok (.ifCond .lt 39, 3)) := dc_155 0 39 (lxX8_inner 1 12 rfl) (lxX8_inner 1 13 rfl) (lxX8_inner 1 14 rfl)
set_option maxRecDepth 20000 in
theorem dX8_inner_31 : @Eq _ (decode cX8_inner 31) (.ok (.iload_n 2, 1)) := dc_28 (lxX8_inner 1 15 rfl)
set_option maxRecDepth 20000 in
theorem dX8_inner_32 : @Eq _ (decode cX8_inner 32) (.ok (.iload_n 3, 1)) := dc_29 (lxX8_inner 2 0 rfl)
set_option maxRecDepth 20000 in
theorem dX8_inner_33 : @Eq _ (decode cX8_inner 33) (.ok (.if_icmp .gt 34, 3)) := dc_163 0 34 (lxX8_inner 2 1 rfl) (lxX8_inner 2 2 rfl) (lxX8_inner 2 3 rfl)
set_option maxRecDepth 20000 in
theorem dX8_inner_36 : @Eq _ (decode cX8_inner 36) (.ok (.iload_n 3, 1)) := dc_29 (lxX8_inner 2 4 rfl)
set_option maxRecDepth 20000 in
theorem dX8_inner_37 : @Eq _ (decode cX8_inner 37) (.ok (.aload 7, 2)) := dc_25 7 (lxX8_inner 2 5 rfl) (lxX8_inner 2 6 rfl)
set_option maxRecDepth 20000 in
theorem dX8_inner_39 : @Eq _ (decode cX8_inner 39) (.ok (.arraylength, 1)) := dc_190 (lxX8_inner 2 7 rfl)
set_option maxRecDepth 20000 in
theorem dX8_inner_40 : @Eq _ (decode cX8_inner 40) (.ok (.if_icmp .gt 27, 3)) := dc_163 0 27 (lxX8_inner 2 8 rfl) (lxX8_inner 2 9 rfl) (lxX8_inner 2 10 rfl)
set_option maxRecDepth 20000 in
theorem dX8_inner_43 : @Eq _ (decode cX8_inner 43) (.ok (.iload 4, 2)) := dc_21 4 (lxX8_inner 2 11 rfl) (lxX8_inner 2 12 rfl)
set_option maxRecDepth 20000 in
theorem dX8_inner_45 : @Eq _ (decode cX8_inner 45) (.ok (.ifCond .lt 22, 3)) := dc_155 0 22 (lxX8_inner 2 13 rfl) (lxX8_inner 2 14 rfl) (lxX8_inner 2 15 rfl)
set_option maxRecDepth 20000 in
theorem dX8_inner_48 : @Eq _ (decode cX8_inner 48) (.ok (.iload 4, 2)) := dc_21 4 (lxX8_inner 3 0 rfl) (lxX8_inner 3 1 rfl)
set_option maxRecDepth 20000 in
theorem dX8_inner_50 : @Eq _ (decode cX8_inner 50) (.ok (.iload 5, 2)) := dc_21 5 (lxX8_inner 3 2 rfl) (lxX8_inner 3 3 rfl)
set_option maxRecDepth 20000 in
theorem dX8_inner_52 : @Eq _ (decode cX8_inner 52) (.ok (.if_icmp .gt 15, 3)) := dc_163 0 15 (lxX8_inner 3 4 rfl) (lxX8_inner 3 5 rfl) (lxX8_inner 3 6 rfl)
set_option maxRecDepth 20000 in
theorem dX8_inner_55 : @Eq _ (decode cX8_inner 55) (.ok (.iload 5, 2)) := dc_21 5 (lxX8_inner 3 7 rfl) (lxX8_inner 3 8 rfl)
set_option maxRecDepth 20000 in
theorem dX8_inner_57 : @Eq _ (decode cX8_inner 57) (.ok (.iload_n 3, 1)) := dc_29 (lxX8_inner 3 9 rfl)
set_option maxRecDepth 20000 in
theorem dX8_inner_58 : @Eq _ (decode cX8_inner 58) (.ok (.iload_n 2, 1)) := dc_28 (lxX8_inner 3 10 rfl)
set_option maxRecDepth 20000 in
theorem dX8_inner_59 : @Eq _ (decode cX8_inner 59) (.ok (.isub, 1)) := dc_100 (lxX8_inner 3 11 rfl)
set_option maxRecDepth 20000 in
theorem dX8_inner_60 : @Eq _ (decode cX8_inner 60) (.ok (.if_icmp .gt 7, 3)) := dc_163 0 7 (lxX8_inner 3 12 rfl) (lxX8_inner 3 13 rfl) (lxX8_inner 3 14 rfl)
set_option maxRecDepth 20000 in
theorem dX8_inner_63 : @Eq _ (decode cX8_inner 63) (.ok (.iconst 1, 1)) := dc_4 (lxX8_inner 3 15 rfl)
set_option maxRecDepth 20000 in
theorem dX8_inner_64 : @Eq _ (decode cX8_inner 64) (.ok (.goto 4, 3)) := dc_167 0 4 (lxX8_inner 4 0 rfl) (lxX8_inner 4 1 rfl) (lxX8_inner 4 2 rfl)
set_option maxRecDepth 20000 in
theorem dX8_inner_67 : @Eq _ (decode cX8_inner 67) (.ok (.iconst 0, 1)) := dc_3 (lxX8_inner 4 3 rfl)
set_option maxRecDepth 20000 in
theorem dX8_inner_68 : @Eq _ (decode cX8_inner 68) (.ok (.istore 8, 2)) := dc_54 8 (lxX8_inner 4 4 rfl) (lxX8_inner 4 5 rfl)
set_option maxRecDepth 20000 in
theorem dX8_inner_70 : @Eq _ (decode cX8_inner 70) (.ok (.aload_n 0, 1)) := dc_42 (lxX8_inner 4 6 rfl)
set_option maxRecDepth 20000 in
theorem dX8_inner_71 : @Eq _ (decode cX8_inner 71) (.ok (.iconst 0, 1)) := dc_3 (lxX8_inner 4 7 rfl)
set_option maxRecDepth 20000 in
theorem dX8_inner_72 : @Eq _ (decode cX8_inner 72) (.ok (.iload 8, 2)) := dc_21 8 (lxX8_inner 4 8 rfl) (lxX8_inner 4 9 rfl)
set_option maxRecDepth 20000 in
theorem dX8_inner_74 : @Eq _ (decode cX8_inner 74) (.ok (.ifCond .eq 13, 3)) := dc_153 0 13 (lxX8_inner 4 10 rfl) (lxX8_inner 4 11 rfl) (lxX8_inner 4 12 rfl)
set_option maxRecDepth 20000 in
theorem dX8_inner_77 : @Eq _ (decode cX8_inner 77) (.ok (.iload 6, 2)) := dc_21 6 (lxX8_inner 4 13 rfl) (lxX8_inner 4 14 rfl)
set_option maxRecDepth 20000 in
theorem dX8_inner_79 : @Eq _ (decode cX8_inner 79) (.ok (.iconst 0, 1)) := dc_3 (lxX8_inner 4 15 rfl)
set_option maxRecDepth 20000 in
theorem dX8_inner_80 : @Eq _ (decode cX8_inner 80) (.ok (.iconst 2, 1)) := dc_5 (lxX8_inner 5 0 rfl)
set_option maxRecDepth 20000 in
theorem dX8_inner_81 : @Eq _ (decode cX8_inner 81) (.ok (.invokestatic 41, 3)) := dc_184 0 41 (lxX8_inner 5 1 rfl) (lxX8_inner 5 2 rfl) (lxX8_inner 5 3 rfl)
set_option maxRecDepth 20000 in
theorem dX8_inner_84 : @Eq _ (decode cX8_inner 84) (.ok (.ifCond .eq 7, 3)) := dc_153 0 7 (lxX8_inner 5 4 rfl) (lxX8_inner 5 5 rfl) (lxX8_inner 5 6 rfl)
set_option maxRecDepth 20000 in
theorem dX8_inner_87 : @Eq _ (decode cX8_inner 87) (.ok (.iconst 1, 1)) := dc_4 (lxX8_inner 5 7 rfl)
set_option maxRecDepth 20000 in
theorem dX8_inner_88 : @Eq _ (decode cX8_inner 88) (.ok (.goto 4, 3)) := dc_167 0 4 (lxX8_inner 5 8 rfl) (lxX8_inner 5 9 rfl) (lxX8_inner 5 10 rfl)
set_option maxRecDepth 20000 in
theorem dX8_inner_91 : @Eq _ (decode cX8_inner 91) (.ok (.iconst 0, 1)) := dc_3 (lxX8_inner 5 11 rfl)
set_option maxRecDepth 20000 in
theorem dX8_inner_92 : @Eq _ (decode cX8_inner 92) (.ok (.invokevirtual 81, 3)) := dc_182 0 81 (lxX8_inner 5 12 rfl) (lxX8_inner 5 13 rfl) (lxX8_inner 5 14 rfl)
set_option maxRecDepth 20000 in
theorem dX8_inner_95 : @Eq _ (decode cX8_inner 95) (.ok (.ifCond .eq 8, 3)) := dc_153 0 8 (lxX8_inner 5 15 rfl) (lxX8_inner 6 0 rfl) (lxX8_inner 6 1 rfl)
set_option maxRecDepth 20000 in
theorem dX8_inner_98 : @Eq _ (decode cX8_inner 98) (.ok (.ldc 109, 2)) := dc_18 109 (lxX8_inner 6 2 rfl) (lxX8_inner 6 3 rfl)
set_option maxRecDepth 20000 in
theorem dX8_inner_100 : @Eq _ (decode cX8_inner 100) (.ok (.goto 16, 3)) := dc_167 0 16 (lxX8_inner 6 4 rfl) (lxX8_inner 6 5 rfl) (lxX8_inner 6 6 rfl)
set_option maxRecDepth 20000 in
theorem dX8_inner_103 : @Eq _ (decode cX8_inner 103) (.ok (.aload 7, 2)) := dc_25 7 (lxX8_inner 6 7 rfl) (lxX8_inner 6 8 rfl)
set_option maxRecDepth 20000 in
theorem dX8_inner_105 : @Eq _ (decode cX8_inner 105) (.ok (.iload_n 2, 1)) := dc_28 (lxX8_inner 6 9 rfl)
set_option maxRecDepth 20000 in
theorem dX8_inner_106 : @Eq _ (decode cX8_inner 106) (.ok (.iload 4, 2)) := dc_21 4 (lxX8_inner 6 10 rfl) (lxX8_inner 6 11 rfl)
set_option maxRecDepth 20000 in
theorem dX8_inner_108 : @Eq _ (decode cX8_inner 108) (.ok (.iadd, 1)) := dc_96 (lxX8_inner 6 12 rfl)
set_option maxRecDepth 20000 in
theorem dX8_inner_109 : @Eq _ (decode cX8_inner 109) (.ok (.iload_n 2, 1)) := dc_28 (lxX8_inner 6 13 rfl)
set_option maxRecDepth 20000 in
theorem dX8_inner_110 : @Eq _ (decode cX8_inner 110) (.ok (.iload 5, 2)) := dc_21 5 (lxX8_inner 6 14 rfl) (lxX8_inner 6 15 rfl)
set_option maxRecDepth 20000 in
theorem dX8_inner_112 : @Eq _ (decode cX8_inner 112) (.ok (.iadd, 1)) := dc_96 (lxX8_inner 7 0 rfl)
set_option maxRecDepth 20000 in
theorem dX8_inner_113 : @Eq _ (decode cX8_inner 113) (.ok (.invokestatic 111, 3)) := dc_184 0 111 (lxX8_inner 7 1 rfl) (lxX8_inner 7 2 rfl) (lxX8_inner 7 3 rfl)
set_option maxRecDepth 20000 in
theorem dX8_inner_116 : @Eq _ (decode cX8_inner 116) (.ok (.areturn, 1)) := dc_176 (lxX8_inner 7 4 rfl)
def lb_sgX8_lies : List (List UInt8) := [[28, 43, 190, 96, 42, 190, 164, 0, 5, 3, 172, 3, 62, 29, 43, 190], [162, 0, 20, 42, 28, 29, 96, 46, 43, 29, 46, 160, 0, 9, 132, 3], [1, 167, 255, 236, 29, 43, 190, 160, 0, 7, 4, 167, 0, 4, 3, 172]]
set_option maxRecDepth 100000 in
theorem lb_seX8_lies : cX8_lies.data.toList = lb_sgX8_lies.flatten := by decide +kernel
theorem lb_lnX8_lies : ∀ s ∈ lb_sgX8_lies.dropLast, s.length = 16 := by decide +kernel
theorem lxX8_lies (k j : Nat) {b : UInt8} (h : (lb_sgX8_lies[k]?).bind (fun s => s[j]?) = some b) : lb_at cX8_lies (16 * k + j) b := by
  unfold lb_at
  rw [lb_seX8_lies]
  exact lb_flat 16 lb_sgX8_lies k j b lb_lnX8_lies h
set_option maxRecDepth 20000 in
theorem dX8_lies_0 : @Eq _ (decode cX8_lies 0) (.ok (.iload_n 2, 1)) := dc_28 (lxX8_lies 0 0 rfl)
set_option maxRecDepth 20000 in
theorem dX8_lies_1 : @Eq _ (decode cX8_lies 1) (.ok (.aload_n 1, 1)) := dc_43 (lxX8_lies 0 1 rfl)
set_option maxRecDepth 20000 in
theorem dX8_lies_2 : @Eq _ (decode cX8_lies 2) (.ok (.arraylength, 1)) := dc_190 (lxX8_lies 0 2 rfl)
set_option maxRecDepth 20000 in
theorem dX8_lies_3 : @Eq _ (decode cX8_lies 3) (.ok (.iadd, 1)) := dc_96 (lxX8_lies 0 3 rfl)
set_option maxRecDepth 20000 in
theorem dX8_lies_4 : @Eq _ (decode cX8_lies 4) (.ok (.aload_n 0, 1)) := dc_42 (lxX8_lies 0 4 rfl)
set_option maxRecDepth 20000 in
theorem dX8_lies_5 : @Eq _ (decode cX8_lies 5) (.ok (.arraylength, 1)) := dc_190 (lxX8_lies 0 5 rfl)
set_option maxRecDepth 20000 in
theorem dX8_lies_6 : @Eq _ (decode cX8_lies 6) (.ok (.if_icmp .le 5, 3)) := dc_164 0 5 (lxX8_lies 0 6 rfl) (lxX8_lies 0 7 rfl) (lxX8_lies 0 8 rfl)
set_option maxRecDepth 20000 in
theorem dX8_lies_9 : @Eq _ (decode cX8_lies 9) (.ok (.iconst 0, 1)) := dc_3 (lxX8_lies 0 9 rfl)
set_option maxRecDepth 20000 in
theorem dX8_lies_10 : @Eq _ (decode cX8_lies 10) (.ok (.ireturn, 1)) := dc_172 (lxX8_lies 0 10 rfl)
set_option maxRecDepth 20000 in
theorem dX8_lies_11 : @Eq _ (decode cX8_lies 11) (.ok (.iconst 0, 1)) := dc_3 (lxX8_lies 0 11 rfl)
set_option maxRecDepth 20000 in
theorem dX8_lies_12 : @Eq _ (decode cX8_lies 12) (.ok (.istore_n 3, 1)) := dc_62 (lxX8_lies 0 12 rfl)
set_option maxRecDepth 20000 in
theorem dX8_lies_13 : @Eq _ (decode cX8_lies 13) (.ok (.iload_n 3, 1)) := dc_29 (lxX8_lies 0 13 rfl)
set_option maxRecDepth 20000 in
theorem dX8_lies_14 : @Eq _ (decode cX8_lies 14) (.ok (.aload_n 1, 1)) := dc_43 (lxX8_lies 0 14 rfl)
set_option maxRecDepth 20000 in
theorem dX8_lies_15 : @Eq _ (decode cX8_lies 15) (.ok (.arraylength, 1)) := dc_190 (lxX8_lies 0 15 rfl)
set_option maxRecDepth 20000 in
theorem dX8_lies_16 : @Eq _ (decode cX8_lies 16) (.ok (.if_icmp .ge 20, 3)) := dc_162 0 20 (lxX8_lies 1 0 rfl) (lxX8_lies 1 1 rfl) (lxX8_lies 1 2 rfl)
set_option maxRecDepth 20000 in
theorem dX8_lies_19 : @Eq _ (decode cX8_lies 19) (.ok (.aload_n 0, 1)) := dc_42 (lxX8_lies 1 3 rfl)
set_option maxRecDepth 20000 in
theorem dX8_lies_20 : @Eq _ (decode cX8_lies 20) (.ok (.iload_n 2, 1)) := dc_28 (lxX8_lies 1 4 rfl)
set_option maxRecDepth 20000 in
theorem dX8_lies_21 : @Eq _ (decode cX8_lies 21) (.ok (.iload_n 3, 1)) := dc_29 (lxX8_lies 1 5 rfl)
set_option maxRecDepth 20000 in
theorem dX8_lies_22 : @Eq _ (decode cX8_lies 22) (.ok (.iadd, 1)) := dc_96 (lxX8_lies 1 6 rfl)
set_option maxRecDepth 20000 in
theorem dX8_lies_23 : @Eq _ (decode cX8_lies 23) (.ok (.iaload, 1)) := dc_46 (lxX8_lies 1 7 rfl)
set_option maxRecDepth 20000 in
theorem dX8_lies_24 : @Eq _ (decode cX8_lies 24) (.ok (.aload_n 1, 1)) := dc_43 (lxX8_lies 1 8 rfl)
set_option maxRecDepth 20000 in
theorem dX8_lies_25 : @Eq _ (decode cX8_lies 25) (.ok (.iload_n 3, 1)) := dc_29 (lxX8_lies 1 9 rfl)
set_option maxRecDepth 20000 in
theorem dX8_lies_26 : @Eq _ (decode cX8_lies 26) (.ok (.iaload, 1)) := dc_46 (lxX8_lies 1 10 rfl)
set_option maxRecDepth 20000 in
theorem dX8_lies_27 : @Eq _ (decode cX8_lies 27) (.ok (.if_icmp .ne 9, 3)) := dc_160 0 9 (lxX8_lies 1 11 rfl) (lxX8_lies 1 12 rfl) (lxX8_lies 1 13 rfl)
set_option maxRecDepth 20000 in
theorem dX8_lies_30 : @Eq _ (decode cX8_lies 30) (.ok (.iinc 3 1, 3)) := dc_132 3 1 (lxX8_lies 1 14 rfl) (lxX8_lies 1 15 rfl) (lxX8_lies 2 0 rfl)
set_option maxRecDepth 20000 in
theorem dX8_lies_33 : @Eq _ (decode cX8_lies 33) (.ok (.goto (-20), 3)) := dc_167 255 236 (lxX8_lies 2 1 rfl) (lxX8_lies 2 2 rfl) (lxX8_lies 2 3 rfl)
set_option maxRecDepth 20000 in
theorem dX8_lies_36 : @Eq _ (decode cX8_lies 36) (.ok (.iload_n 3, 1)) := dc_29 (lxX8_lies 2 4 rfl)
set_option maxRecDepth 20000 in
theorem dX8_lies_37 : @Eq _ (decode cX8_lies 37) (.ok (.aload_n 1, 1)) := dc_43 (lxX8_lies 2 5 rfl)
set_option maxRecDepth 20000 in
theorem dX8_lies_38 : @Eq _ (decode cX8_lies 38) (.ok (.arraylength, 1)) := dc_190 (lxX8_lies 2 6 rfl)
set_option maxRecDepth 20000 in
theorem dX8_lies_39 : @Eq _ (decode cX8_lies 39) (.ok (.if_icmp .ne 7, 3)) := dc_160 0 7 (lxX8_lies 2 7 rfl) (lxX8_lies 2 8 rfl) (lxX8_lies 2 9 rfl)
set_option maxRecDepth 20000 in
theorem dX8_lies_42 : @Eq _ (decode cX8_lies 42) (.ok (.iconst 1, 1)) := dc_4 (lxX8_lies 2 10 rfl)
set_option maxRecDepth 20000 in
theorem dX8_lies_43 : @Eq _ (decode cX8_lies 43) (.ok (.goto 4, 3)) := dc_167 0 4 (lxX8_lies 2 11 rfl) (lxX8_lies 2 12 rfl) (lxX8_lies 2 13 rfl)
set_option maxRecDepth 20000 in
theorem dX8_lies_46 : @Eq _ (decode cX8_lies 46) (.ok (.iconst 0, 1)) := dc_3 (lxX8_lies 2 14 rfl)
set_option maxRecDepth 20000 in
theorem dX8_lies_47 : @Eq _ (decode cX8_lies 47) (.ok (.ireturn, 1)) := dc_172 (lxX8_lies 2 15 rfl)
def lb_sgX8_nth : List (List UInt8) := [[28, 62, 3, 54, 4, 21, 4, 43, 190, 96, 42, 190, 163, 0, 32, 42], [43, 21, 4, 184, 0, 138, 154, 0, 6, 167, 0, 13, 29, 154, 0, 6], [21, 4, 172, 132, 3, 255, 132, 4, 1, 167, 255, 220, 2, 172]]
set_option maxRecDepth 100000 in
theorem lb_seX8_nth : cX8_nth.data.toList = lb_sgX8_nth.flatten := by decide +kernel
theorem lb_lnX8_nth : ∀ s ∈ lb_sgX8_nth.dropLast, s.length = 16 := by decide +kernel
theorem lxX8_nth (k j : Nat) {b : UInt8} (h : (lb_sgX8_nth[k]?).bind (fun s => s[j]?) = some b) : lb_at cX8_nth (16 * k + j) b := by
  unfold lb_at
  rw [lb_seX8_nth]
  exact lb_flat 16 lb_sgX8_nth k j b lb_lnX8_nth h
set_option maxRecDepth 20000 in
theorem dX8_nth_0 : @Eq _ (decode cX8_nth 0) (.ok (.iload_n 2, 1)) := dc_28 (lxX8_nth 0 0 rfl)
set_option maxRecDepth 20000 in
theorem dX8_nth_1 : @Eq _ (decode cX8_nth 1) (.ok (.istore_n 3, 1)) := dc_62 (lxX8_nth 0 1 rfl)
set_option maxRecDepth 20000 in
theorem dX8_nth_2 : @Eq _ (decode cX8_nth 2) (.ok (.iconst 0, 1)) := dc_3 (lxX8_nth 0 2 rfl)
set_option maxRecDepth 20000 in
theorem dX8_nth_3 : @Eq _ (decode cX8_nth 3) (.ok (.istore 4, 2)) := dc_54 4 (lxX8_nth 0 3 rfl) (lxX8_nth 0 4 rfl)
set_option maxRecDepth 20000 in
theorem dX8_nth_5 : @Eq _ (decode cX8_nth 5) (.ok (.iload 4, 2)) := dc_21 4 (lxX8_nth 0 5 rfl) (lxX8_nth 0 6 rfl)
set_option maxRecDepth 20000 in
theorem dX8_nth_7 : @Eq _ (decode cX8_nth 7) (.ok (.aload_n 1, 1)) := dc_43 (lxX8_nth 0 7 rfl)
set_option maxRecDepth 20000 in
theorem dX8_nth_8 : @Eq _ (decode cX8_nth 8) (.ok (.arraylength, 1)) := dc_190 (lxX8_nth 0 8 rfl)
set_option maxRecDepth 20000 in
theorem dX8_nth_9 : @Eq _ (decode cX8_nth 9) (.ok (.iadd, 1)) := dc_96 (lxX8_nth 0 9 rfl)
set_option maxRecDepth 20000 in
theorem dX8_nth_10 : @Eq _ (decode cX8_nth 10) (.ok (.aload_n 0, 1)) := dc_42 (lxX8_nth 0 10 rfl)
set_option maxRecDepth 20000 in
theorem dX8_nth_11 : @Eq _ (decode cX8_nth 11) (.ok (.arraylength, 1)) := dc_190 (lxX8_nth 0 11 rfl)
set_option maxRecDepth 20000 in
theorem dX8_nth_12 : @Eq _ (decode cX8_nth 12) (.ok (.if_icmp .gt 32, 3)) := dc_163 0 32 (lxX8_nth 0 12 rfl) (lxX8_nth 0 13 rfl) (lxX8_nth 0 14 rfl)
set_option maxRecDepth 20000 in
theorem dX8_nth_15 : @Eq _ (decode cX8_nth 15) (.ok (.aload_n 0, 1)) := dc_42 (lxX8_nth 0 15 rfl)
set_option maxRecDepth 20000 in
theorem dX8_nth_16 : @Eq _ (decode cX8_nth 16) (.ok (.aload_n 1, 1)) := dc_43 (lxX8_nth 1 0 rfl)
set_option maxRecDepth 20000 in
theorem dX8_nth_17 : @Eq _ (decode cX8_nth 17) (.ok (.iload 4, 2)) := dc_21 4 (lxX8_nth 1 1 rfl) (lxX8_nth 1 2 rfl)
set_option maxRecDepth 20000 in
theorem dX8_nth_19 : @Eq _ (decode cX8_nth 19) (.ok (.invokestatic 138, 3)) := dc_184 0 138 (lxX8_nth 1 3 rfl) (lxX8_nth 1 4 rfl) (lxX8_nth 1 5 rfl)
set_option maxRecDepth 20000 in
theorem dX8_nth_22 : @Eq _ (decode cX8_nth 22) (.ok (.ifCond .ne 6, 3)) := dc_154 0 6 (lxX8_nth 1 6 rfl) (lxX8_nth 1 7 rfl) (lxX8_nth 1 8 rfl)
set_option maxRecDepth 20000 in
theorem dX8_nth_25 : @Eq _ (decode cX8_nth 25) (.ok (.goto 13, 3)) := dc_167 0 13 (lxX8_nth 1 9 rfl) (lxX8_nth 1 10 rfl) (lxX8_nth 1 11 rfl)
set_option maxRecDepth 20000 in
theorem dX8_nth_28 : @Eq _ (decode cX8_nth 28) (.ok (.iload_n 3, 1)) := dc_29 (lxX8_nth 1 12 rfl)
set_option maxRecDepth 20000 in
theorem dX8_nth_29 : @Eq _ (decode cX8_nth 29) (.ok (.ifCond .ne 6, 3)) := dc_154 0 6 (lxX8_nth 1 13 rfl) (lxX8_nth 1 14 rfl) (lxX8_nth 1 15 rfl)
set_option maxRecDepth 20000 in
theorem dX8_nth_32 : @Eq _ (decode cX8_nth 32) (.ok (.iload 4, 2)) := dc_21 4 (lxX8_nth 2 0 rfl) (lxX8_nth 2 1 rfl)
set_option maxRecDepth 20000 in
theorem dX8_nth_34 : @Eq _ (decode cX8_nth 34) (.ok (.ireturn, 1)) := dc_172 (lxX8_nth 2 2 rfl)
set_option maxRecDepth 20000 in
theorem dX8_nth_35 : @Eq _ (decode cX8_nth 35) (.ok (.iinc 3 (-1), 3)) := dc_132 3 255 (lxX8_nth 2 3 rfl) (lxX8_nth 2 4 rfl) (lxX8_nth 2 5 rfl)
set_option maxRecDepth 20000 in
theorem dX8_nth_38 : @Eq _ (decode cX8_nth 38) (.ok (.iinc 4 1, 3)) := dc_132 4 1 (lxX8_nth 2 6 rfl) (lxX8_nth 2 7 rfl) (lxX8_nth 2 8 rfl)
set_option maxRecDepth 20000 in
theorem dX8_nth_41 : @Eq _ (decode cX8_nth 41) (.ok (.goto (-36), 3)) := dc_167 255 220 (lxX8_nth 2 9 rfl) (lxX8_nth 2 10 rfl) (lxX8_nth 2 11 rfl)
set_option maxRecDepth 20000 in
theorem dX8_nth_44 : @Eq _ (decode cX8_nth 44) (.ok (.iconst (-1), 1)) := dc_2 (lxX8_nth 2 12 rfl)
set_option maxRecDepth 20000 in
theorem dX8_nth_45 : @Eq _ (decode cX8_nth 45) (.ok (.ireturn, 1)) := dc_172 (lxX8_nth 2 13 rfl)
def lb_sgX8_places : List (List UInt8) := [[3, 61, 42, 43, 28, 184, 0, 142, 155, 0, 9, 132, 2, 1, 167, 255], [244, 28, 172]]
set_option maxRecDepth 100000 in
theorem lb_seX8_places : cX8_places.data.toList = lb_sgX8_places.flatten := by decide +kernel
theorem lb_lnX8_places : ∀ s ∈ lb_sgX8_places.dropLast, s.length = 16 := by decide +kernel
theorem lxX8_places (k j : Nat) {b : UInt8} (h : (lb_sgX8_places[k]?).bind (fun s => s[j]?) = some b) : lb_at cX8_places (16 * k + j) b := by
  unfold lb_at
  rw [lb_seX8_places]
  exact lb_flat 16 lb_sgX8_places k j b lb_lnX8_places h
set_option maxRecDepth 20000 in
theorem dX8_places_0 : @Eq _ (decode cX8_places 0) (.ok (.iconst 0, 1)) := dc_3 (lxX8_places 0 0 rfl)
set_option maxRecDepth 20000 in
theorem dX8_places_1 : @Eq _ (decode cX8_places 1) (.ok (.istore_n 2, 1)) := dc_61 (lxX8_places 0 1 rfl)
set_option maxRecDepth 20000 in
theorem dX8_places_2 : @Eq _ (decode cX8_places 2) (.ok (.aload_n 0, 1)) := dc_42 (lxX8_places 0 2 rfl)
set_option maxRecDepth 20000 in
theorem dX8_places_3 : @Eq _ (decode cX8_places 3) (.ok (.aload_n 1, 1)) := dc_43 (lxX8_places 0 3 rfl)
set_option maxRecDepth 20000 in
theorem dX8_places_4 : @Eq _ (decode cX8_places 4) (.ok (.iload_n 2, 1)) := dc_28 (lxX8_places 0 4 rfl)
set_option maxRecDepth 20000 in
theorem dX8_places_5 : @Eq _ (decode cX8_places 5) (.ok (.invokestatic 142, 3)) := dc_184 0 142 (lxX8_places 0 5 rfl) (lxX8_places 0 6 rfl) (lxX8_places 0 7 rfl)
set_option maxRecDepth 20000 in
theorem dX8_places_8 : @Eq _ (decode cX8_places 8) (.ok (.ifCond .lt 9, 3)) := dc_155 0 9 (lxX8_places 0 8 rfl) (lxX8_places 0 9 rfl) (lxX8_places 0 10 rfl)
set_option maxRecDepth 20000 in
theorem dX8_places_11 : @Eq _ (decode cX8_places 11) (.ok (.iinc 2 1, 3)) := dc_132 2 1 (lxX8_places 0 11 rfl) (lxX8_places 0 12 rfl) (lxX8_places 0 13 rfl)
set_option maxRecDepth 20000 in
theorem dX8_places_14 : @Eq _ (decode cX8_places 14) (.ok (.goto (-12), 3)) := dc_167 255 244 (lxX8_places 0 14 rfl) (lxX8_places 0 15 rfl) (lxX8_places 1 0 rfl)
set_option maxRecDepth 20000 in
theorem dX8_places_17 : @Eq _ (decode cX8_places 17) (.ok (.iload_n 2, 1)) := dc_28 (lxX8_places 1 1 rfl)
set_option maxRecDepth 20000 in
theorem dX8_places_18 : @Eq _ (decode cX8_places 18) (.ok (.ireturn, 1)) := dc_172 (lxX8_places 1 2 rfl)
def lb_sgX8_lastOf : List (List UInt8) := [[42, 190, 43, 190, 100, 61, 28, 155, 0, 18, 42, 43, 28, 184, 0, 138], [154, 0, 9, 132, 2, 255, 167, 255, 240, 28, 2, 184, 0, 146, 172]]
set_option maxRecDepth 100000 in
theorem lb_seX8_lastOf : cX8_lastOf.data.toList = lb_sgX8_lastOf.flatten := by decide +kernel
theorem lb_lnX8_lastOf : ∀ s ∈ lb_sgX8_lastOf.dropLast, s.length = 16 := by decide +kernel
theorem lxX8_lastOf (k j : Nat) {b : UInt8} (h : (lb_sgX8_lastOf[k]?).bind (fun s => s[j]?) = some b) : lb_at cX8_lastOf (16 * k + j) b := by
  unfold lb_at
  rw [lb_seX8_lastOf]
  exact lb_flat 16 lb_sgX8_lastOf k j b lb_lnX8_lastOf h
set_option maxRecDepth 20000 in
theorem dX8_lastOf_0 : @Eq _ (decode cX8_lastOf 0) (.ok (.aload_n 0, 1)) := dc_42 (lxX8_lastOf 0 0 rfl)
set_option maxRecDepth 20000 in
theorem dX8_lastOf_1 : @Eq _ (decode cX8_lastOf 1) (.ok (.arraylength, 1)) := dc_190 (lxX8_lastOf 0 1 rfl)
set_option maxRecDepth 20000 in
theorem dX8_lastOf_2 : @Eq _ (decode cX8_lastOf 2) (.ok (.aload_n 1, 1)) := dc_43 (lxX8_lastOf 0 2 rfl)
set_option maxRecDepth 20000 in
theorem dX8_lastOf_3 : @Eq _ (decode cX8_lastOf 3) (.ok (.arraylength, 1)) := dc_190 (lxX8_lastOf 0 3 rfl)
set_option maxRecDepth 20000 in
theorem dX8_lastOf_4 : @Eq _ (decode cX8_lastOf 4) (.ok (.isub, 1)) := dc_100 (lxX8_lastOf 0 4 rfl)
set_option maxRecDepth 20000 in
theorem dX8_lastOf_5 : @Eq _ (decode cX8_lastOf 5) (.ok (.istore_n 2, 1)) := dc_61 (lxX8_lastOf 0 5 rfl)
set_option maxRecDepth 20000 in
theorem dX8_lastOf_6 : @Eq _ (decode cX8_lastOf 6) (.ok (.iload_n 2, 1)) := dc_28 (lxX8_lastOf 0 6 rfl)
set_option maxRecDepth 20000 in
theorem dX8_lastOf_7 : @Eq _ (decode cX8_lastOf 7) (.ok (.ifCond .lt 18, 3)) := dc_155 0 18 (lxX8_lastOf 0 7 rfl) (lxX8_lastOf 0 8 rfl) (lxX8_lastOf 0 9 rfl)
set_option maxRecDepth 20000 in
theorem dX8_lastOf_10 : @Eq _ (decode cX8_lastOf 10) (.ok (.aload_n 0, 1)) := dc_42 (lxX8_lastOf 0 10 rfl)
set_option maxRecDepth 20000 in
theorem dX8_lastOf_11 : @Eq _ (decode cX8_lastOf 11) (.ok (.aload_n 1, 1)) := dc_43 (lxX8_lastOf 0 11 rfl)
set_option maxRecDepth 20000 in
theorem dX8_lastOf_12 : @Eq _ (decode cX8_lastOf 12) (.ok (.iload_n 2, 1)) := dc_28 (lxX8_lastOf 0 12 rfl)
set_option maxRecDepth 20000 in
theorem dX8_lastOf_13 : @Eq _ (decode cX8_lastOf 13) (.ok (.invokestatic 138, 3)) := dc_184 0 138 (lxX8_lastOf 0 13 rfl) (lxX8_lastOf 0 14 rfl) (lxX8_lastOf 0 15 rfl)
set_option maxRecDepth 20000 in
theorem dX8_lastOf_16 : @Eq _ (decode cX8_lastOf 16) (.ok (.ifCond .ne 9, 3)) := dc_154 0 9 (lxX8_lastOf 1 0 rfl) (lxX8_lastOf 1 1 rfl) (lxX8_lastOf 1 2 rfl)
set_option maxRecDepth 20000 in
theorem dX8_lastOf_19 : @Eq _ (decode cX8_lastOf 19) (.ok (.iinc 2 (-1), 3)) := dc_132 2 255 (lxX8_lastOf 1 3 rfl) (lxX8_lastOf 1 4 rfl) (lxX8_lastOf 1 5 rfl)
set_option maxRecDepth 20000 in
theorem dX8_lastOf_22 : @Eq _ (decode cX8_lastOf 22) (.ok (.goto (-16), 3)) := dc_167 255 240 (lxX8_lastOf 1 6 rfl) (lxX8_lastOf 1 7 rfl) (lxX8_lastOf 1 8 rfl)
set_option maxRecDepth 20000 in
theorem dX8_lastOf_25 : @Eq _ (decode cX8_lastOf 25) (.ok (.iload_n 2, 1)) := dc_28 (lxX8_lastOf 1 9 rfl)
set_option maxRecDepth 20000 in
theorem dX8_lastOf_26 : @Eq _ (decode cX8_lastOf 26) (.ok (.iconst (-1), 1)) := dc_2 (lxX8_lastOf 1 10 rfl)
set_option maxRecDepth 20000 in
theorem dX8_lastOf_27 : @Eq _ (decode cX8_lastOf 27) (.ok (.invokestatic 146, 3)) := dc_184 0 146 (lxX8_lastOf 1 11 rfl) (lxX8_lastOf 1 12 rfl) (lxX8_lastOf 1 13 rfl)
set_option maxRecDepth 20000 in
theorem dX8_lastOf_30 : @Eq _ (decode cX8_lastOf 30) (.ok (.ireturn, 1)) := dc_172 (lxX8_lastOf 1 14 rfl)
def lb_sgX8_first : List (List UInt8) := [[42, 27, 184, 0, 119, 154, 0, 10, 28, 184, 0, 119, 153, 0, 7, 4], [167, 0, 4, 3, 3, 182, 0, 81, 153, 0, 7, 3, 167, 0, 17, 42], [27, 182, 0, 122, 42, 28, 182, 0, 122, 3, 184, 0, 142, 172]]
set_option maxRecDepth 100000 in
theorem lb_seX8_first : cX8_first.data.toList = lb_sgX8_first.flatten := by decide +kernel
theorem lb_lnX8_first : ∀ s ∈ lb_sgX8_first.dropLast, s.length = 16 := by decide +kernel
theorem lxX8_first (k j : Nat) {b : UInt8} (h : (lb_sgX8_first[k]?).bind (fun s => s[j]?) = some b) : lb_at cX8_first (16 * k + j) b := by
  unfold lb_at
  rw [lb_seX8_first]
  exact lb_flat 16 lb_sgX8_first k j b lb_lnX8_first h
set_option maxRecDepth 20000 in
theorem dX8_first_0 : @Eq _ (decode cX8_first 0) (.ok (.aload_n 0, 1)) := dc_42 (lxX8_first 0 0 rfl)
set_option maxRecDepth 20000 in
theorem dX8_first_1 : @Eq _ (decode cX8_first 1) (.ok (.iload_n 1, 1)) := dc_27 (lxX8_first 0 1 rfl)
set_option maxRecDepth 20000 in
theorem dX8_first_2 : @Eq _ (decode cX8_first 2) (.ok (.invokestatic 119, 3)) := dc_184 0 119 (lxX8_first 0 2 rfl) (lxX8_first 0 3 rfl) (lxX8_first 0 4 rfl)
set_option maxRecDepth 20000 in
theorem dX8_first_5 : @Eq _ (decode cX8_first 5) (.ok (.ifCond .ne 10, 3)) := dc_154 0 10 (lxX8_first 0 5 rfl) (lxX8_first 0 6 rfl) (lxX8_first 0 7 rfl)
set_option maxRecDepth 20000 in
theorem dX8_first_8 : @Eq _ (decode cX8_first 8) (.ok (.iload_n 2, 1)) := dc_28 (lxX8_first 0 8 rfl)
set_option maxRecDepth 20000 in
theorem dX8_first_9 : @Eq _ (decode cX8_first 9) (.ok (.invokestatic 119, 3)) := dc_184 0 119 (lxX8_first 0 9 rfl) (lxX8_first 0 10 rfl) (lxX8_first 0 11 rfl)
set_option maxRecDepth 20000 in
theorem dX8_first_12 : @Eq _ (decode cX8_first 12) (.ok (.ifCond .eq 7, 3)) := dc_153 0 7 (lxX8_first 0 12 rfl) (lxX8_first 0 13 rfl) (lxX8_first 0 14 rfl)
set_option maxRecDepth 20000 in
theorem dX8_first_15 : @Eq _ (decode cX8_first 15) (.ok (.iconst 1, 1)) := dc_4 (lxX8_first 0 15 rfl)
set_option maxRecDepth 20000 in
theorem dX8_first_16 : @Eq _ (decode cX8_first 16) (.ok (.goto 4, 3)) := dc_167 0 4 (lxX8_first 1 0 rfl) (lxX8_first 1 1 rfl) (lxX8_first 1 2 rfl)
set_option maxRecDepth 20000 in
theorem dX8_first_19 : @Eq _ (decode cX8_first 19) (.ok (.iconst 0, 1)) := dc_3 (lxX8_first 1 3 rfl)
set_option maxRecDepth 20000 in
theorem dX8_first_20 : @Eq _ (decode cX8_first 20) (.ok (.iconst 0, 1)) := dc_3 (lxX8_first 1 4 rfl)
set_option maxRecDepth 20000 in
theorem dX8_first_21 : @Eq _ (decode cX8_first 21) (.ok (.invokevirtual 81, 3)) := dc_182 0 81 (lxX8_first 1 5 rfl) (lxX8_first 1 6 rfl) (lxX8_first 1 7 rfl)
set_option maxRecDepth 20000 in
theorem dX8_first_24 : @Eq _ (decode cX8_first 24) (.ok (.ifCond .eq 7, 3)) := dc_153 0 7 (lxX8_first 1 8 rfl) (lxX8_first 1 9 rfl) (lxX8_first 1 10 rfl)
set_option maxRecDepth 20000 in
theorem dX8_first_27 : @Eq _ (decode cX8_first 27) (.ok (.iconst 0, 1)) := dc_3 (lxX8_first 1 11 rfl)
set_option maxRecDepth 20000 in
theorem dX8_first_28 : @Eq _ (decode cX8_first 28) (.ok (.goto 17, 3)) := dc_167 0 17 (lxX8_first 1 12 rfl) (lxX8_first 1 13 rfl) (lxX8_first 1 14 rfl)
set_option maxRecDepth 20000 in
theorem dX8_first_31 : @Eq _ (decode cX8_first 31) (.ok (.aload_n 0, 1)) := dc_42 (lxX8_first 1 15 rfl)
set_option maxRecDepth 20000 in
theorem dX8_first_32 : @Eq _ (decode cX8_first 32) (.ok (.iload_n 1, 1)) := dc_27 (lxX8_first 2 0 rfl)
set_option maxRecDepth 20000 in
theorem dX8_first_33 : @Eq _ (decode cX8_first 33) (.ok (.invokevirtual 122, 3)) := dc_182 0 122 (lxX8_first 2 1 rfl) (lxX8_first 2 2 rfl) (lxX8_first 2 3 rfl)
set_option maxRecDepth 20000 in
theorem dX8_first_36 : @Eq _ (decode cX8_first 36) (.ok (.aload_n 0, 1)) := dc_42 (lxX8_first 2 4 rfl)
set_option maxRecDepth 20000 in
theorem dX8_first_37 : @Eq _ (decode cX8_first 37) (.ok (.iload_n 2, 1)) := dc_28 (lxX8_first 2 5 rfl)
set_option maxRecDepth 20000 in
theorem dX8_first_38 : @Eq _ (decode cX8_first 38) (.ok (.invokevirtual 122, 3)) := dc_182 0 122 (lxX8_first 2 6 rfl) (lxX8_first 2 7 rfl) (lxX8_first 2 8 rfl)
set_option maxRecDepth 20000 in
theorem dX8_first_41 : @Eq _ (decode cX8_first 41) (.ok (.iconst 0, 1)) := dc_3 (lxX8_first 2 9 rfl)
set_option maxRecDepth 20000 in
theorem dX8_first_42 : @Eq _ (decode cX8_first 42) (.ok (.invokestatic 142, 3)) := dc_184 0 142 (lxX8_first 2 10 rfl) (lxX8_first 2 11 rfl) (lxX8_first 2 12 rfl)
set_option maxRecDepth 20000 in
theorem dX8_first_45 : @Eq _ (decode cX8_first 45) (.ok (.ireturn, 1)) := dc_172 (lxX8_first 2 13 rfl)
def lb_sgX8_last : List (List UInt8) := [[42, 27, 184, 0, 119, 154, 0, 10, 28, 184, 0, 119, 153, 0, 7, 4], [167, 0, 4, 3, 3, 182, 0, 81, 153, 0, 7, 3, 167, 0, 16, 42], [27, 182, 0, 122, 42, 28, 182, 0, 122, 184, 0, 149, 172]]
set_option maxRecDepth 100000 in
theorem lb_seX8_last : cX8_last.data.toList = lb_sgX8_last.flatten := by decide +kernel
theorem lb_lnX8_last : ∀ s ∈ lb_sgX8_last.dropLast, s.length = 16 := by decide +kernel
theorem lxX8_last (k j : Nat) {b : UInt8} (h : (lb_sgX8_last[k]?).bind (fun s => s[j]?) = some b) : lb_at cX8_last (16 * k + j) b := by
  unfold lb_at
  rw [lb_seX8_last]
  exact lb_flat 16 lb_sgX8_last k j b lb_lnX8_last h
set_option maxRecDepth 20000 in
theorem dX8_last_0 : @Eq _ (decode cX8_last 0) (.ok (.aload_n 0, 1)) := dc_42 (lxX8_last 0 0 rfl)
set_option maxRecDepth 20000 in
theorem dX8_last_1 : @Eq _ (decode cX8_last 1) (.ok (.iload_n 1, 1)) := dc_27 (lxX8_last 0 1 rfl)
set_option maxRecDepth 20000 in
theorem dX8_last_2 : @Eq _ (decode cX8_last 2) (.ok (.invokestatic 119, 3)) := dc_184 0 119 (lxX8_last 0 2 rfl) (lxX8_last 0 3 rfl) (lxX8_last 0 4 rfl)
set_option maxRecDepth 20000 in
theorem dX8_last_5 : @Eq _ (decode cX8_last 5) (.ok (.ifCond .ne 10, 3)) := dc_154 0 10 (lxX8_last 0 5 rfl) (lxX8_last 0 6 rfl) (lxX8_last 0 7 rfl)
set_option maxRecDepth 20000 in
theorem dX8_last_8 : @Eq _ (decode cX8_last 8) (.ok (.iload_n 2, 1)) := dc_28 (lxX8_last 0 8 rfl)
set_option maxRecDepth 20000 in
theorem dX8_last_9 : @Eq _ (decode cX8_last 9) (.ok (.invokestatic 119, 3)) := dc_184 0 119 (lxX8_last 0 9 rfl) (lxX8_last 0 10 rfl) (lxX8_last 0 11 rfl)
set_option maxRecDepth 20000 in
theorem dX8_last_12 : @Eq _ (decode cX8_last 12) (.ok (.ifCond .eq 7, 3)) := dc_153 0 7 (lxX8_last 0 12 rfl) (lxX8_last 0 13 rfl) (lxX8_last 0 14 rfl)
set_option maxRecDepth 20000 in
theorem dX8_last_15 : @Eq _ (decode cX8_last 15) (.ok (.iconst 1, 1)) := dc_4 (lxX8_last 0 15 rfl)
set_option maxRecDepth 20000 in
theorem dX8_last_16 : @Eq _ (decode cX8_last 16) (.ok (.goto 4, 3)) := dc_167 0 4 (lxX8_last 1 0 rfl) (lxX8_last 1 1 rfl) (lxX8_last 1 2 rfl)
set_option maxRecDepth 20000 in
theorem dX8_last_19 : @Eq _ (decode cX8_last 19) (.ok (.iconst 0, 1)) := dc_3 (lxX8_last 1 3 rfl)
set_option maxRecDepth 20000 in
theorem dX8_last_20 : @Eq _ (decode cX8_last 20) (.ok (.iconst 0, 1)) := dc_3 (lxX8_last 1 4 rfl)
set_option maxRecDepth 20000 in
theorem dX8_last_21 : @Eq _ (decode cX8_last 21) (.ok (.invokevirtual 81, 3)) := dc_182 0 81 (lxX8_last 1 5 rfl) (lxX8_last 1 6 rfl) (lxX8_last 1 7 rfl)
set_option maxRecDepth 20000 in
theorem dX8_last_24 : @Eq _ (decode cX8_last 24) (.ok (.ifCond .eq 7, 3)) := dc_153 0 7 (lxX8_last 1 8 rfl) (lxX8_last 1 9 rfl) (lxX8_last 1 10 rfl)
set_option maxRecDepth 20000 in
theorem dX8_last_27 : @Eq _ (decode cX8_last 27) (.ok (.iconst 0, 1)) := dc_3 (lxX8_last 1 11 rfl)
set_option maxRecDepth 20000 in
theorem dX8_last_28 : @Eq _ (decode cX8_last 28) (.ok (.goto 16, 3)) := dc_167 0 16 (lxX8_last 1 12 rfl) (lxX8_last 1 13 rfl) (lxX8_last 1 14 rfl)
set_option maxRecDepth 20000 in
theorem dX8_last_31 : @Eq _ (decode cX8_last 31) (.ok (.aload_n 0, 1)) := dc_42 (lxX8_last 1 15 rfl)
set_option maxRecDepth 20000 in
theorem dX8_last_32 : @Eq _ (decode cX8_last 32) (.ok (.iload_n 1, 1)) := dc_27 (lxX8_last 2 0 rfl)
set_option maxRecDepth 20000 in
theorem dX8_last_33 : @Eq _ (decode cX8_last 33) (.ok (.invokevirtual 122, 3)) := dc_182 0 122 (lxX8_last 2 1 rfl) (lxX8_last 2 2 rfl) (lxX8_last 2 3 rfl)
set_option maxRecDepth 20000 in
theorem dX8_last_36 : @Eq _ (decode cX8_last 36) (.ok (.aload_n 0, 1)) := dc_42 (lxX8_last 2 4 rfl)
set_option maxRecDepth 20000 in
theorem dX8_last_37 : @Eq _ (decode cX8_last 37) (.ok (.iload_n 2, 1)) := dc_28 (lxX8_last 2 5 rfl)
set_option maxRecDepth 20000 in
theorem dX8_last_38 : @Eq _ (decode cX8_last 38) (.ok (.invokevirtual 122, 3)) := dc_182 0 122 (lxX8_last 2 6 rfl) (lxX8_last 2 7 rfl) (lxX8_last 2 8 rfl)
set_option maxRecDepth 20000 in
theorem dX8_last_41 : @Eq _ (decode cX8_last 41) (.ok (.invokestatic 149, 3)) := dc_184 0 149 (lxX8_last 2 9 rfl) (lxX8_last 2 10 rfl) (lxX8_last 2 11 rfl)
set_option maxRecDepth 20000 in
theorem dX8_last_44 : @Eq _ (decode cX8_last 44) (.ok (.ireturn, 1)) := dc_172 (lxX8_last 2 12 rfl)
def lb_sgX8_count : List (List UInt8) := [[42, 27, 184, 0, 119, 154, 0, 10, 28, 184, 0, 119, 153, 0, 7, 4], [167, 0, 4, 3, 3, 182, 0, 81, 153, 0, 7, 3, 167, 0, 16, 42], [27, 182, 0, 122, 42, 28, 182, 0, 122, 184, 0, 153, 172]]
set_option maxRecDepth 100000 in
theorem lb_seX8_count : cX8_count.data.toList = lb_sgX8_count.flatten := by decide +kernel
theorem lb_lnX8_count : ∀ s ∈ lb_sgX8_count.dropLast, s.length = 16 := by decide +kernel
theorem lxX8_count (k j : Nat) {b : UInt8} (h : (lb_sgX8_count[k]?).bind (fun s => s[j]?) = some b) : lb_at cX8_count (16 * k + j) b := by
  unfold lb_at
  rw [lb_seX8_count]
  exact lb_flat 16 lb_sgX8_count k j b lb_lnX8_count h
set_option maxRecDepth 20000 in
theorem dX8_count_0 : @Eq _ (decode cX8_count 0) (.ok (.aload_n 0, 1)) := dc_42 (lxX8_count 0 0 rfl)
set_option maxRecDepth 20000 in
theorem dX8_count_1 : @Eq _ (decode cX8_count 1) (.ok (.iload_n 1, 1)) := dc_27 (lxX8_count 0 1 rfl)
set_option maxRecDepth 20000 in
theorem dX8_count_2 : @Eq _ (decode cX8_count 2) (.ok (.invokestatic 119, 3)) := dc_184 0 119 (lxX8_count 0 2 rfl) (lxX8_count 0 3 rfl) (lxX8_count 0 4 rfl)
set_option maxRecDepth 20000 in
theorem dX8_count_5 : @Eq _ (decode cX8_count 5) (.ok (.ifCond .ne 10, 3)) := dc_154 0 10 (lxX8_count 0 5 rfl) (lxX8_count 0 6 rfl) (lxX8_count 0 7 rfl)
set_option maxRecDepth 20000 in
theorem dX8_count_8 : @Eq _ (decode cX8_count 8) (.ok (.iload_n 2, 1)) := dc_28 (lxX8_count 0 8 rfl)
set_option maxRecDepth 20000 in
theorem dX8_count_9 : @Eq _ (decode cX8_count 9) (.ok (.invokestatic 119, 3)) := dc_184 0 119 (lxX8_count 0 9 rfl) (lxX8_count 0 10 rfl) (lxX8_count 0 11 rfl)
set_option maxRecDepth 20000 in
theorem dX8_count_12 : @Eq _ (decode cX8_count 12) (.ok (.ifCond .eq 7, 3)) := dc_153 0 7 (lxX8_count 0 12 rfl) (lxX8_count 0 13 rfl) (lxX8_count 0 14 rfl)
set_option maxRecDepth 20000 in
theorem dX8_count_15 : @Eq _ (decode cX8_count 15) (.ok (.iconst 1, 1)) := dc_4 (lxX8_count 0 15 rfl)
set_option maxRecDepth 20000 in
theorem dX8_count_16 : @Eq _ (decode cX8_count 16) (.ok (.goto 4, 3)) := dc_167 0 4 (lxX8_count 1 0 rfl) (lxX8_count 1 1 rfl) (lxX8_count 1 2 rfl)
set_option maxRecDepth 20000 in
theorem dX8_count_19 : @Eq _ (decode cX8_count 19) (.ok (.iconst 0, 1)) := dc_3 (lxX8_count 1 3 rfl)
set_option maxRecDepth 20000 in
theorem dX8_count_20 : @Eq _ (decode cX8_count 20) (.ok (.iconst 0, 1)) := dc_3 (lxX8_count 1 4 rfl)
set_option maxRecDepth 20000 in
theorem dX8_count_21 : @Eq _ (decode cX8_count 21) (.ok (.invokevirtual 81, 3)) := dc_182 0 81 (lxX8_count 1 5 rfl) (lxX8_count 1 6 rfl) (lxX8_count 1 7 rfl)
set_option maxRecDepth 20000 in
theorem dX8_count_24 : @Eq _ (decode cX8_count 24) (.ok (.ifCond .eq 7, 3)) := dc_153 0 7 (lxX8_count 1 8 rfl) (lxX8_count 1 9 rfl) (lxX8_count 1 10 rfl)
set_option maxRecDepth 20000 in
theorem dX8_count_27 : @Eq _ (decode cX8_count 27) (.ok (.iconst 0, 1)) := dc_3 (lxX8_count 1 11 rfl)
set_option maxRecDepth 20000 in
theorem dX8_count_28 : @Eq _ (decode cX8_count 28) (.ok (.goto 16, 3)) := dc_167 0 16 (lxX8_count 1 12 rfl) (lxX8_count 1 13 rfl) (lxX8_count 1 14 rfl)
set_option maxRecDepth 20000 in
theorem dX8_count_31 : @Eq _ (decode cX8_count 31) (.ok (.aload_n 0, 1)) := dc_42 (lxX8_count 1 15 rfl)
set_option maxRecDepth 20000 in
theorem dX8_count_32 : @Eq _ (decode cX8_count 32) (.ok (.iload_n 1, 1)) := dc_27 (lxX8_count 2 0 rfl)
set_option maxRecDepth 20000 in
theorem dX8_count_33 : @Eq _ (decode cX8_count 33) (.ok (.invokevirtual 122, 3)) := dc_182 0 122 (lxX8_count 2 1 rfl) (lxX8_count 2 2 rfl) (lxX8_count 2 3 rfl)
set_option maxRecDepth 20000 in
theorem dX8_count_36 : @Eq _ (decode cX8_count 36) (.ok (.aload_n 0, 1)) := dc_42 (lxX8_count 2 4 rfl)
set_option maxRecDepth 20000 in
theorem dX8_count_37 : @Eq _ (decode cX8_count 37) (.ok (.iload_n 2, 1)) := dc_28 (lxX8_count 2 5 rfl)
set_option maxRecDepth 20000 in
theorem dX8_count_38 : @Eq _ (decode cX8_count 38) (.ok (.invokevirtual 122, 3)) := dc_182 0 122 (lxX8_count 2 6 rfl) (lxX8_count 2 7 rfl) (lxX8_count 2 8 rfl)
set_option maxRecDepth 20000 in
theorem dX8_count_41 : @Eq _ (decode cX8_count 41) (.ok (.invokestatic 153, 3)) := dc_184 0 153 (lxX8_count 2 9 rfl) (lxX8_count 2 10 rfl) (lxX8_count 2 11 rfl)
set_option maxRecDepth 20000 in
theorem dX8_count_44 : @Eq _ (decode cX8_count 44) (.ok (.ireturn, 1)) := dc_172 (lxX8_count 2 12 rfl)
def lb_sgX8_place_ : List (List UInt8) := [[42, 27, 184, 0, 119, 154, 0, 10, 28, 184, 0, 119, 153, 0, 7, 4], [167, 0, 4, 3, 29, 3, 16, 80, 184, 0, 41, 182, 0, 81, 153, 0], [7, 3, 167, 0, 17, 42, 27, 182, 0, 122, 42, 28, 182, 0, 122, 29], [184, 0, 142, 172]]
set_option maxRecDepth 100000 in
theorem lb_seX8_place_ : cX8_place_.data.toList = lb_sgX8_place_.flatten := by decide +kernel
theorem lb_lnX8_place_ : ∀ s ∈ lb_sgX8_place_.dropLast, s.length = 16 := by decide +kernel
theorem lxX8_place_ (k j : Nat) {b : UInt8} (h : (lb_sgX8_place_[k]?).bind (fun s => s[j]?) = some b) : lb_at cX8_place_ (16 * k + j) b := by
  unfold lb_at
  rw [lb_seX8_place_]
  exact lb_flat 16 lb_sgX8_place_ k j b lb_lnX8_place_ h
set_option maxRecDepth 20000 in
theorem dX8_place__0 : @Eq _ (decode cX8_place_ 0) (.ok (.aload_n 0, 1)) := dc_42 (lxX8_place_ 0 0 rfl)
set_option maxRecDepth 20000 in
theorem dX8_place__1 : @Eq _ (decode cX8_place_ 1) (.ok (.iload_n 1, 1)) := dc_27 (lxX8_place_ 0 1 rfl)
set_option maxRecDepth 20000 in
theorem dX8_place__2 : @Eq _ (decode cX8_place_ 2) (.ok (.invokestatic 119, 3)) := dc_184 0 119 (lxX8_place_ 0 2 rfl) (lxX8_place_ 0 3 rfl) (lxX8_place_ 0 4 rfl)
set_option maxRecDepth 20000 in
theorem dX8_place__5 : @Eq _ (decode cX8_place_ 5) (.ok (.ifCond .ne 10, 3)) := dc_154 0 10 (lxX8_place_ 0 5 rfl) (lxX8_place_ 0 6 rfl) (lxX8_place_ 0 7 rfl)
set_option maxRecDepth 20000 in
theorem dX8_place__8 : @Eq _ (decode cX8_place_ 8) (.ok (.iload_n 2, 1)) := dc_28 (lxX8_place_ 0 8 rfl)
set_option maxRecDepth 20000 in
theorem dX8_place__9 : @Eq _ (decode cX8_place_ 9) (.ok (.invokestatic 119, 3)) := dc_184 0 119 (lxX8_place_ 0 9 rfl) (lxX8_place_ 0 10 rfl) (lxX8_place_ 0 11 rfl)
set_option maxRecDepth 20000 in
theorem dX8_place__12 : @Eq _ (decode cX8_place_ 12) (.ok (.ifCond .eq 7, 3)) := dc_153 0 7 (lxX8_place_ 0 12 rfl) (lxX8_place_ 0 13 rfl) (lxX8_place_ 0 14 rfl)
set_option maxRecDepth 20000 in
theorem dX8_place__15 : @Eq _ (decode cX8_place_ 15) (.ok (.iconst 1, 1)) := dc_4 (lxX8_place_ 0 15 rfl)
set_option maxRecDepth 20000 in
theorem dX8_place__16 : @Eq _ (decode cX8_place_ 16) (.ok (.goto 4, 3)) := dc_167 0 4 (lxX8_place_ 1 0 rfl) (lxX8_place_ 1 1 rfl) (lxX8_place_ 1 2 rfl)
set_option maxRecDepth 20000 in
theorem dX8_place__19 : @Eq _ (decode cX8_place_ 19) (.ok (.iconst 0, 1)) := dc_3 (lxX8_place_ 1 3 rfl)
set_option maxRecDepth 20000 in
theorem dX8_place__20 : @Eq _ (decode cX8_place_ 20) (.ok (.iload_n 3, 1)) := dc_29 (lxX8_place_ 1 4 rfl)
set_option maxRecDepth 20000 in
theorem dX8_place__21 : @Eq _ (decode cX8_place_ 21) (.ok (.iconst 0, 1)) := dc_3 (lxX8_place_ 1 5 rfl)
set_option maxRecDepth 20000 in
theorem dX8_place__22 : @Eq _ (decode cX8_place_ 22) (.ok (.bipush 80, 2)) := dc_16 80 (lxX8_place_ 1 6 rfl) (lxX8_place_ 1 7 rfl)
set_option maxRecDepth 20000 in
theorem dX8_place__24 : @Eq _ (decode cX8_place_ 24) (.ok (.invokestatic 41, 3)) := dc_184 0 41 (lxX8_place_ 1 8 rfl) (lxX8_place_ 1 9 rfl) (lxX8_place_ 1 10 rfl)
set_option maxRecDepth 20000 in
theorem dX8_place__27 : @Eq _ (decode cX8_place_ 27) (.ok (.invokevirtual 81, 3)) := dc_182 0 81 (lxX8_place_ 1 11 rfl) (lxX8_place_ 1 12 rfl) (lxX8_place_ 1 13 rfl)
set_option maxRecDepth 20000 in
theorem dX8_place__30 : @Eq _ (decode cX8_place_ 30) (.ok (.ifCond .eq 7, 3)) := dc_153 0 7 (lxX8_place_ 1 14 rfl) (lxX8_place_ 1 15 rfl) (lxX8_place_ 2 0 rfl)
set_option maxRecDepth 20000 in
theorem dX8_place__33 : @Eq _ (decode cX8_place_ 33) (.ok (.iconst 0, 1)) := dc_3 (lxX8_place_ 2 1 rfl)
set_option maxRecDepth 20000 in
theorem dX8_place__34 : @Eq _ (decode cX8_place_ 34) (.ok (.goto 17, 3)) := dc_167 0 17 (lxX8_place_ 2 2 rfl) (lxX8_place_ 2 3 rfl) (lxX8_place_ 2 4 rfl)
set_option maxRecDepth 20000 in
theorem dX8_place__37 : @Eq _ (decode cX8_place_ 37) (.ok (.aload_n 0, 1)) := dc_42 (lxX8_place_ 2 5 rfl)
set_option maxRecDepth 20000 in
theorem dX8_place__38 : @Eq _ (decode cX8_place_ 38) (.ok (.iload_n 1, 1)) := dc_27 (lxX8_place_ 2 6 rfl)
set_option maxRecDepth 20000 in
theorem dX8_place__39 : @Eq _ (decode cX8_place_ 39) (.ok (.invokevirtual 122, 3)) := dc_182 0 122 (lxX8_place_ 2 7 rfl) (lxX8_place_ 2 8 rfl) (lxX8_place_ 2 9 rfl)
set_option maxRecDepth 20000 in
theorem dX8_place__42 : @Eq _ (decode cX8_place_ 42) (.ok (.aload_n 0, 1)) := dc_42 (lxX8_place_ 2 10 rfl)
set_option maxRecDepth 20000 in
theorem dX8_place__43 : @Eq _ (decode cX8_place_ 43) (.ok (.iload_n 2, 1)) := dc_28 (lxX8_place_ 2 11 rfl)
set_option maxRecDepth 20000 in
theorem dX8_place__44 : @Eq _ (decode cX8_place_ 44) (.ok (.invokevirtual 122, 3)) := dc_182 0 122 (lxX8_place_ 2 12 rfl) (lxX8_place_ 2 13 rfl) (lxX8_place_ 2 14 rfl)
set_option maxRecDepth 20000 in
theorem dX8_place__47 : @Eq _ (decode cX8_place_ 47) (.ok (.iload_n 3, 1)) := dc_29 (lxX8_place_ 2 15 rfl)
set_option maxRecDepth 20000 in
theorem dX8_place__48 : @Eq _ (decode cX8_place_ 48) (.ok (.invokestatic 142, 3)) := dc_184 0 142 (lxX8_place_ 3 0 rfl) (lxX8_place_ 3 1 rfl) (lxX8_place_ 3 2 rfl)
set_option maxRecDepth 20000 in
theorem dX8_place__51 : @Eq _ (decode cX8_place_ 51) (.ok (.ireturn, 1)) := dc_172 (lxX8_place_ 3 3 rfl)
def lb_sgX8_isBorder : List (List UInt8) := [[28, 27, 162, 0, 7, 4, 167, 0, 4, 3, 62, 3, 54, 4, 21, 4], [28, 162, 0, 34, 29, 153, 0, 30, 42, 21, 4, 46, 42, 27, 28, 100], [21, 4, 96, 46, 160, 0, 7, 4, 167, 0, 4, 3, 62, 132, 4, 1], [167, 255, 222, 29, 172]]
set_option maxRecDepth 100000 in
theorem lb_seX8_isBorder : cX8_isBorder.data.toList = lb_sgX8_isBorder.flatten := by decide +kernel
theorem lb_lnX8_isBorder : ∀ s ∈ lb_sgX8_isBorder.dropLast, s.length = 16 := by decide +kernel
theorem lxX8_isBorder (k j : Nat) {b : UInt8} (h : (lb_sgX8_isBorder[k]?).bind (fun s => s[j]?) = some b) : lb_at cX8_isBorder (16 * k + j) b := by
  unfold lb_at
  rw [lb_seX8_isBorder]
  exact lb_flat 16 lb_sgX8_isBorder k j b lb_lnX8_isBorder h
set_option maxRecDepth 20000 in
theorem dX8_isBorder_0 : @Eq _ (decode cX8_isBorder 0) (.ok (.iload_n 2, 1)) := dc_28 (lxX8_isBorder 0 0 rfl)
set_option maxRecDepth 20000 in
theorem dX8_isBorder_1 : @Eq _ (decode cX8_isBorder 1) (.ok (.iload_n 1, 1)) := dc_27 (lxX8_isBorder 0 1 rfl)
set_option maxRecDepth 20000 in
theorem dX8_isBorder_2 : @Eq _ (decode cX8_isBorder 2) (.ok (.if_icmp .ge 7, 3)) := dc_162 0 7 (lxX8_isBorder 0 2 rfl) (lxX8_isBorder 0 3 rfl) (lxX8_isBorder 0 4 rfl)
set_option maxRecDepth 20000 in
theorem dX8_isBorder_5 : @Eq _ (decode cX8_isBorder 5) (.ok (.iconst 1, 1)) := dc_4 (lxX8_isBorder 0 5 rfl)
set_option maxRecDepth 20000 in
theorem dX8_isBorder_6 : @Eq _ (decode cX8_isBorder 6) (.ok (.goto 4, 3)) := dc_167 0 4 (lxX8_isBorder 0 6 rfl) (lxX8_isBorder 0 7 rfl) (lxX8_isBorder 0 8 rfl)
set_option maxRecDepth 20000 in
theorem dX8_isBorder_9 : @Eq _ (decode cX8_isBorder 9) (.ok (.iconst 0, 1)) := dc_3 (lxX8_isBorder 0 9 rfl)
set_option maxRecDepth 20000 in
theorem dX8_isBorder_10 : @Eq _ (decode cX8_isBorder 10) (.ok (.istore_n 3, 1)) := dc_62 (lxX8_isBorder 0 10 rfl)
set_option maxRecDepth 20000 in
theorem dX8_isBorder_11 : @Eq _ (decode cX8_isBorder 11) (.ok (.iconst 0, 1)) := dc_3 (lxX8_isBorder 0 11 rfl)
set_option maxRecDepth 20000 in
theorem dX8_isBorder_12 : @Eq _ (decode cX8_isBorder 12) (.ok (.istore 4, 2)) := dc_54 4 (lxX8_isBorder 0 12 rfl) (lxX8_isBorder 0 13 rfl)
set_option maxRecDepth 20000 in
theorem dX8_isBorder_14 : @Eq _ (decode cX8_isBorder 14) (.ok (.iload 4, 2)) := dc_21 4 (lxX8_isBorder 0 14 rfl) (lxX8_isBorder 0 15 rfl)
set_option maxRecDepth 20000 in
theorem dX8_isBorder_16 : @Eq _ (decode cX8_isBorder 16) (.ok (.iload_n 2, 1)) := dc_28 (lxX8_isBorder 1 0 rfl)
set_option maxRecDepth 20000 in
theorem dX8_isBorder_17 : @Eq _ (decode cX8_isBorder 17) (.ok (.if_icmp .ge 34, 3)) := dc_162 0 34 (lxX8_isBorder 1 1 rfl) (lxX8_isBorder 1 2 rfl) (lxX8_isBorder 1 3 rfl)
set_option maxRecDepth 20000 in
theorem dX8_isBorder_20 : @Eq _ (decode cX8_isBorder 20) (.ok (.iload_n 3, 1)) := dc_29 (lxX8_isBorder 1 4 rfl)
set_option maxRecDepth 20000 in
theorem dX8_isBorder_21 : @Eq _ (decode cX8_isBorder 21) (.ok (.ifCond .eq 30, 3)) := dc_153 0 30 (lxX8_isBorder 1 5 rfl) (lxX8_isBorder 1 6 rfl) (lxX8_isBorder 1 7 rfl)
set_option maxRecDepth 20000 in
theorem dX8_isBorder_24 : @Eq _ (decode cX8_isBorder 24) (.ok (.aload_n 0, 1)) := dc_42 (lxX8_isBorder 1 8 rfl)
set_option maxRecDepth 20000 in
theorem dX8_isBorder_25 : @Eq _ (decode cX8_isBorder 25) (.ok (.iload 4, 2)) := dc_21 4 (lxX8_isBorder 1 9 rfl) (lxX8_isBorder 1 10 rfl)
set_option maxRecDepth 20000 in
theorem dX8_isBorder_27 : @Eq _ (decode cX8_isBorder 27) (.ok (.iaload, 1)) := dc_46 (lxX8_isBorder 1 11 rfl)
set_option maxRecDepth 20000 in
theorem dX8_isBorder_28 : @Eq _ (decode cX8_isBorder 28) (.ok (.aload_n 0, 1)) := dc_42 (lxX8_isBorder 1 12 rfl)
set_option maxRecDepth 20000 in
theorem dX8_isBorder_29 : @Eq _ (decode cX8_isBorder 29) (.ok (.iload_n 1, 1)) := dc_27 (lxX8_isBorder 1 13 rfl)
set_option maxRecDepth 20000 in
theorem dX8_isBorder_30 : @Eq _ (decode cX8_isBorder 30) (.ok (.iload_n 2, 1)) := dc_28 (lxX8_isBorder 1 14 rfl)
set_option maxRecDepth 20000 in
theorem dX8_isBorder_31 : @Eq _ (decode cX8_isBorder 31) (.ok (.isub, 1)) := dc_100 (lxX8_isBorder 1 15 rfl)
set_option maxRecDepth 20000 in
theorem dX8_isBorder_32 : @Eq _ (decode cX8_isBorder 32) (.ok (.iload 4, 2)) := dc_21 4 (lxX8_isBorder 2 0 rfl) (lxX8_isBorder 2 1 rfl)
set_option maxRecDepth 20000 in
theorem dX8_isBorder_34 : @Eq _ (decode cX8_isBorder 34) (.ok (.iadd, 1)) := dc_96 (lxX8_isBorder 2 2 rfl)
set_option maxRecDepth 20000 in
theorem dX8_isBorder_35 : @Eq _ (decode cX8_isBorder 35) (.ok (.iaload, 1)) := dc_46 (lxX8_isBorder 2 3 rfl)
set_option maxRecDepth 20000 in
theorem dX8_isBorder_36 : @Eq _ (decode cX8_isBorder 36) (.ok (.if_icmp .ne 7, 3)) := dc_160 0 7 (lxX8_isBorder 2 4 rfl) (lxX8_isBorder 2 5 rfl) (lxX8_isBorder 2 6 rfl)
set_option maxRecDepth 20000 in
theorem dX8_isBorder_39 : @Eq _ (decode cX8_isBorder 39) (.ok (.iconst 1, 1)) := dc_4 (lxX8_isBorder 2 7 rfl)
set_option maxRecDepth 20000 in
theorem dX8_isBorder_40 : @Eq _ (decode cX8_isBorder 40) (.ok (.goto 4, 3)) := dc_167 0 4 (lxX8_isBorder 2 8 rfl) (lxX8_isBorder 2 9 rfl) (lxX8_isBorder 2 10 rfl)
set_option maxRecDepth 20000 in
theorem dX8_isBorder_43 : @Eq _ (decode cX8_isBorder 43) (.ok (.iconst 0, 1)) := dc_3 (lxX8_isBorder 2 11 rfl)
set_option maxRecDepth 20000 in
theorem dX8_isBorder_44 : @Eq _ (decode cX8_isBorder 44) (.ok (.istore_n 3, 1)) := dc_62 (lxX8_isBorder 2 12 rfl)
set_option maxRecDepth 20000 in
theorem dX8_isBorder_45 : @Eq _ (decode cX8_isBorder 45) (.ok (.iinc 4 1, 3)) := dc_132 4 1 (lxX8_isBorder 2 13 rfl) (lxX8_isBorder 2 14 rfl) (lxX8_isBorder 2 15 rfl)
set_option maxRecDepth 20000 in
theorem dX8_isBorder_48 : @Eq _ (decode cX8_isBorder 48) (.ok (.goto (-34), 3)) := dc_167 255 222 (lxX8_isBorder 3 0 rfl) (lxX8_isBorder 3 1 rfl) (lxX8_isBorder 3 2 rfl)
set_option maxRecDepth 20000 in
theorem dX8_isBorder_51 : @Eq _ (decode cX8_isBorder 51) (.ok (.iload_n 3, 1)) := dc_29 (lxX8_isBorder 3 3 rfl)
set_option maxRecDepth 20000 in
theorem dX8_isBorder_52 : @Eq _ (decode cX8_isBorder 52) (.ok (.ireturn, 1)) := dc_172 (lxX8_isBorder 3 4 rfl)
def lb_sgX8_greatest : List (List UInt8) := [[27, 4, 100, 3, 184, 0, 146, 61, 28, 158, 0, 18, 42, 27, 28, 184], [0, 156, 154, 0, 9, 132, 2, 255, 167, 255, 240, 28, 172]]
set_option maxRecDepth 100000 in
theorem lb_seX8_greatest : cX8_greatest.data.toList = lb_sgX8_greatest.flatten := by decide +kernel
theorem lb_lnX8_greatest : ∀ s ∈ lb_sgX8_greatest.dropLast, s.length = 16 := by decide +kernel
theorem lxX8_greatest (k j : Nat) {b : UInt8} (h : (lb_sgX8_greatest[k]?).bind (fun s => s[j]?) = some b) : lb_at cX8_greatest (16 * k + j) b := by
  unfold lb_at
  rw [lb_seX8_greatest]
  exact lb_flat 16 lb_sgX8_greatest k j b lb_lnX8_greatest h
set_option maxRecDepth 20000 in
theorem dX8_greatest_0 : @Eq _ (decode cX8_greatest 0) (.ok (.iload_n 1, 1)) := dc_27 (lxX8_greatest 0 0 rfl)
set_option maxRecDepth 20000 in
theorem dX8_greatest_1 : @Eq _ (decode cX8_greatest 1) (.ok (.iconst 1, 1)) := dc_4 (lxX8_greatest 0 1 rfl)
set_option maxRecDepth 20000 in
theorem dX8_greatest_2 : @Eq _ (decode cX8_greatest 2) (.ok (.isub, 1)) := dc_100 (lxX8_greatest 0 2 rfl)
set_option maxRecDepth 20000 in
theorem dX8_greatest_3 : @Eq _ (decode cX8_greatest 3) (.ok (.iconst 0, 1)) := dc_3 (lxX8_greatest 0 3 rfl)
set_option maxRecDepth 20000 in
theorem dX8_greatest_4 : @Eq _ (decode cX8_greatest 4) (.ok (.invokestatic 146, 3)) := dc_184 0 146 (lxX8_greatest 0 4 rfl) (lxX8_greatest 0 5 rfl) (lxX8_greatest 0 6 rfl)
set_option maxRecDepth 20000 in
theorem dX8_greatest_7 : @Eq _ (decode cX8_greatest 7) (.ok (.istore_n 2, 1)) := dc_61 (lxX8_greatest 0 7 rfl)
set_option maxRecDepth 20000 in
theorem dX8_greatest_8 : @Eq _ (decode cX8_greatest 8) (.ok (.iload_n 2, 1)) := dc_28 (lxX8_greatest 0 8 rfl)
set_option maxRecDepth 20000 in
theorem dX8_greatest_9 : @Eq _ (decode cX8_greatest 9) (.ok (.ifCond .le 18, 3)) := dc_158 0 18 (lxX8_greatest 0 9 rfl) (lxX8_greatest 0 10 rfl) (lxX8_greatest 0 11 rfl)
set_option maxRecDepth 20000 in
theorem dX8_greatest_12 : @Eq _ (decode cX8_greatest 12) (.ok (.aload_n 0, 1)) := dc_42 (lxX8_greatest 0 12 rfl)
set_option maxRecDepth 20000 in
theorem dX8_greatest_13 : @Eq _ (decode cX8_greatest 13) (.ok (.iload_n 1, 1)) := dc_27 (lxX8_greatest 0 13 rfl)
set_option maxRecDepth 20000 in
theorem dX8_greatest_14 : @Eq _ (decode cX8_greatest 14) (.ok (.iload_n 2, 1)) := dc_28 (lxX8_greatest 0 14 rfl)
set_option maxRecDepth 20000 in
theorem dX8_greatest_15 : @Eq _ (decode cX8_greatest 15) (.ok (.invokestatic 156, 3)) := dc_184 0 156 (lxX8_greatest 0 15 rfl) (lxX8_greatest 1 0 rfl) (lxX8_greatest 1 1 rfl)
set_option maxRecDepth 20000 in
theorem dX8_greatest_18 : @Eq _ (decode cX8_greatest 18) (.ok (.ifCond .ne 9, 3)) := dc_154 0 9 (lxX8_greatest 1 2 rfl) (lxX8_greatest 1 3 rfl) (lxX8_greatest 1 4 rfl)
set_option maxRecDepth 20000 in
theorem dX8_greatest_21 : @Eq _ (decode cX8_greatest 21) (.ok (.iinc 2 (-1), 3)) := dc_132 2 255 (lxX8_greatest 1 5 rfl) (lxX8_greatest 1 6 rfl) (lxX8_greatest 1 7 rfl)
set_option maxRecDepth 20000 in
theorem dX8_greatest_24 : @Eq _ (decode cX8_greatest 24) (.ok (.goto (-16), 3)) := dc_167 255 240 (lxX8_greatest 1 8 rfl) (lxX8_greatest 1 9 rfl) (lxX8_greatest 1 10 rfl)
set_option maxRecDepth 20000 in
theorem dX8_greatest_27 : @Eq _ (decode cX8_greatest 27) (.ok (.iload_n 2, 1)) := dc_28 (lxX8_greatest 1 11 rfl)
set_option maxRecDepth 20000 in
theorem dX8_greatest_28 : @Eq _ (decode cX8_greatest 28) (.ok (.ireturn, 1)) := dc_172 (lxX8_greatest 1 12 rfl)
def lb_sgX8_border : List (List UInt8) := [[42, 27, 184, 0, 119, 3, 182, 0, 81, 153, 0, 7, 3, 167, 0, 17], [42, 27, 182, 0, 122, 42, 27, 182, 0, 122, 190, 184, 0, 160, 172]]
set_option maxRecDepth 100000 in
theorem lb_seX8_border : cX8_border.data.toList = lb_sgX8_border.flatten := by decide +kernel
theorem lb_lnX8_border : ∀ s ∈ lb_sgX8_border.dropLast, s.length = 16 := by decide +kernel
theorem lxX8_border (k j : Nat) {b : UInt8} (h : (lb_sgX8_border[k]?).bind (fun s => s[j]?) = some b) : lb_at cX8_border (16 * k + j) b := by
  unfold lb_at
  rw [lb_seX8_border]
  exact lb_flat 16 lb_sgX8_border k j b lb_lnX8_border h
set_option maxRecDepth 20000 in
theorem dX8_border_0 : @Eq _ (decode cX8_border 0) (.ok (.aload_n 0, 1)) := dc_42 (lxX8_border 0 0 rfl)
set_option maxRecDepth 20000 in
theorem dX8_border_1 : @Eq _ (decode cX8_border 1) (.ok (.iload_n 1, 1)) := dc_27 (lxX8_border 0 1 rfl)
set_option maxRecDepth 20000 in
theorem dX8_border_2 : @Eq _ (decode cX8_border 2) (.ok (.invokestatic 119, 3)) := dc_184 0 119 (lxX8_border 0 2 rfl) (lxX8_border 0 3 rfl) (lxX8_border 0 4 rfl)
set_option maxRecDepth 20000 in
theorem dX8_border_5 : @Eq _ (decode cX8_border 5) (.ok (.iconst 0, 1)) := dc_3 (lxX8_border 0 5 rfl)
set_option maxRecDepth 20000 in
theorem dX8_border_6 : @Eq _ (decode cX8_border 6) (.ok (.invokevirtual 81, 3)) := dc_182 0 81 (lxX8_border 0 6 rfl) (lxX8_border 0 7 rfl) (lxX8_border 0 8 rfl)
set_option maxRecDepth 20000 in
theorem dX8_border_9 : @Eq _ (decode cX8_border 9) (.ok (.ifCond .eq 7, 3)) := dc_153 0 7 (lxX8_border 0 9 rfl) (lxX8_border 0 10 rfl) (lxX8_border 0 11 rfl)
set_option maxRecDepth 20000 in
theorem dX8_border_12 : @Eq _ (decode cX8_border 12) (.ok (.iconst 0, 1)) := dc_3 (lxX8_border 0 12 rfl)
set_option maxRecDepth 20000 in
theorem dX8_border_13 : @Eq _ (decode cX8_border 13) (.ok (.goto 17, 3)) := dc_167 0 17 (lxX8_border 0 13 rfl) (lxX8_border 0 14 rfl) (lxX8_border 0 15 rfl)
set_option maxRecDepth 20000 in
theorem dX8_border_16 : @Eq _ (decode cX8_border 16) (.ok (.aload_n 0, 1)) := dc_42 (lxX8_border 1 0 rfl)
set_option maxRecDepth 20000 in
theorem dX8_border_17 : @Eq _ (decode cX8_border 17) (.ok (.iload_n 1, 1)) := dc_27 (lxX8_border 1 1 rfl)
set_option maxRecDepth 20000 in
theorem dX8_border_18 : @Eq _ (decode cX8_border 18) (.ok (.invokevirtual 122, 3)) := dc_182 0 122 (lxX8_border 1 2 rfl) (lxX8_border 1 3 rfl) (lxX8_border 1 4 rfl)
set_option maxRecDepth 20000 in
theorem dX8_border_21 : @Eq _ (decode cX8_border 21) (.ok (.aload_n 0, 1)) := dc_42 (lxX8_border 1 5 rfl)
set_option maxRecDepth 20000 in
theorem dX8_border_22 : @Eq _ (decode cX8_border 22) (.ok (.iload_n 1, 1)) := dc_27 (lxX8_border 1 6 rfl)
set_option maxRecDepth 20000 in
theorem dX8_border_23 : @Eq _ (decode cX8_border 23) (.ok (.invokevirtual 122, 3)) := dc_182 0 122 (lxX8_border 1 7 rfl) (lxX8_border 1 8 rfl) (lxX8_border 1 9 rfl)
set_option maxRecDepth 20000 in
theorem dX8_border_26 : @Eq _ (decode cX8_border 26) (.ok (.arraylength, 1)) := dc_190 (lxX8_border 1 10 rfl)
set_option maxRecDepth 20000 in
theorem dX8_border_27 : @Eq _ (decode cX8_border 27) (.ok (.invokestatic 160, 3)) := dc_184 0 160 (lxX8_border 1 11 rfl) (lxX8_border 1 12 rfl) (lxX8_border 1 13 rfl)
set_option maxRecDepth 20000 in
theorem dX8_border_30 : @Eq _ (decode cX8_border 30) (.ok (.ireturn, 1)) := dc_172 (lxX8_border 1 14 rfl)
def lb_sgX8_borders : List (List UInt8) := [[42, 27, 184, 0, 119, 3, 182, 0, 81, 153, 0, 6, 18, 109, 176, 42], [27, 182, 0, 122, 77, 187, 0, 66, 89, 183, 0, 68, 78, 4, 54, 4], [21, 4, 44, 190, 163, 0, 25, 45, 44, 21, 4, 184, 0, 160, 182, 0], [164, 16, 32, 182, 0, 69, 87, 132, 4, 1, 167, 255, 230, 45, 182, 0], [73, 176]]
set_option maxRecDepth 100000 in
theorem lb_seX8_borders : cX8_borders.data.toList = lb_sgX8_borders.flatten := by decide +kernel
theorem lb_lnX8_borders : ∀ s ∈ lb_sgX8_borders.dropLast, s.length = 16 := by decide +kernel
theorem lxX8_borders (k j : Nat) {b : UInt8} (h : (lb_sgX8_borders[k]?).bind (fun s => s[j]?) = some b) : lb_at cX8_borders (16 * k + j) b := by
  unfold lb_at
  rw [lb_seX8_borders]
  exact lb_flat 16 lb_sgX8_borders k j b lb_lnX8_borders h
set_option maxRecDepth 20000 in
theorem dX8_borders_0 : @Eq _ (decode cX8_borders 0) (.ok (.aload_n 0, 1)) := dc_42 (lxX8_borders 0 0 rfl)
set_option maxRecDepth 20000 in
theorem dX8_borders_1 : @Eq _ (decode cX8_borders 1) (.ok (.iload_n 1, 1)) := dc_27 (lxX8_borders 0 1 rfl)
set_option maxRecDepth 20000 in
theorem dX8_borders_2 : @Eq _ (decode cX8_borders 2) (.ok (.invokestatic 119, 3)) := dc_184 0 119 (lxX8_borders 0 2 rfl) (lxX8_borders 0 3 rfl) (lxX8_borders 0 4 rfl)
set_option maxRecDepth 20000 in
theorem dX8_borders_5 : @Eq _ (decode cX8_borders 5) (.ok (.iconst 0, 1)) := dc_3 (lxX8_borders 0 5 rfl)
set_option maxRecDepth 20000 in
theorem dX8_borders_6 : @Eq _ (decode cX8_borders 6) (.ok (.invokevirtual 81, 3)) := dc_182 0 81 (lxX8_borders 0 6 rfl) (lxX8_borders 0 7 rfl) (lxX8_borders 0 8 rfl)
set_option maxRecDepth 20000 in
theorem dX8_borders_9 : @Eq _ (decode cX8_borders 9) (.ok (.ifCond .eq 6, 3)) := dc_153 0 6 (lxX8_borders 0 9 rfl) (lxX8_borders 0 10 rfl) (lxX8_borders 0 11 rfl)
set_option maxRecDepth 20000 in
theorem dX8_borders_12 : @Eq _ (decode cX8_borders 12) (.ok (.ldc 109, 2)) := dc_18 109 (lxX8_borders 0 12 rfl) (lxX8_borders 0 13 rfl)
set_option maxRecDepth 20000 in
theorem dX8_borders_14 : @Eq _ (decode cX8_borders 14) (.ok (.areturn, 1)) := dc_176 (lxX8_borders 0 14 rfl)
set_option maxRecDepth 20000 in
theorem dX8_borders_15 : @Eq _ (decode cX8_borders 15) (.ok (.aload_n 0, 1)) := dc_42 (lxX8_borders 0 15 rfl)
set_option maxRecDepth 20000 in
theorem dX8_borders_16 : @Eq _ (decode cX8_borders 16) (.ok (.iload_n 1, 1)) := dc_27 (lxX8_borders 1 0 rfl)
set_option maxRecDepth 20000 in
theorem dX8_borders_17 : @Eq _ (decode cX8_borders 17) (.ok (.invokevirtual 122, 3)) := dc_182 0 122 (lxX8_borders 1 1 rfl) (lxX8_borders 1 2 rfl) (lxX8_borders 1 3 rfl)
set_option maxRecDepth 20000 in
theorem dX8_borders_20 : @Eq _ (decode cX8_borders 20) (.ok (.astore_n 2, 1)) := dc_77 (lxX8_borders 1 4 rfl)
set_option maxRecDepth 20000 in
theorem dX8_borders_21 : @Eq _ (decode cX8_borders 21) (.ok (.new 66, 3)) := dc_187 0 66 (lxX8_borders 1 5 rfl) (lxX8_borders 1 6 rfl) (lxX8_borders 1 7 rfl)
set_option maxRecDepth 20000 in
theorem dX8_borders_24 : @Eq _ (decode cX8_borders 24) (.ok (.dup, 1)) := dc_89 (lxX8_borders 1 8 rfl)
set_option maxRecDepth 20000 in
theorem dX8_borders_25 : @Eq _ (decode cX8_borders 25) (.ok (.invokespecial 68, 3)) := dc_183 0 68 (lxX8_borders 1 9 rfl) (lxX8_borders 1 10 rfl) (lxX8_borders 1 11 rfl)
set_option maxRecDepth 20000 in
theorem dX8_borders_28 : @Eq _ (decode cX8_borders 28) (.ok (.astore_n 3, 1)) := dc_78 (lxX8_borders 1 12 rfl)
set_option maxRecDepth 20000 in
theorem dX8_borders_29 : @Eq _ (decode cX8_borders 29) (.ok (.iconst 1, 1)) := dc_4 (lxX8_borders 1 13 rfl)
set_option maxRecDepth 20000 in
theorem dX8_borders_30 : @Eq _ (decode cX8_borders 30) (.ok (.istore 4, 2)) := dc_54 4 (lxX8_borders 1 14 rfl) (lxX8_borders 1 15 rfl)
set_option maxRecDepth 20000 in
theorem dX8_borders_32 : @Eq _ (decode cX8_borders 32) (.ok (.iload 4, 2)) := dc_21 4 (lxX8_borders 2 0 rfl) (lxX8_borders 2 1 rfl)
set_option maxRecDepth 20000 in
theorem dX8_borders_34 : @Eq _ (decode cX8_borders 34) (.ok (.aload_n 2, 1)) := dc_44 (lxX8_borders 2 2 rfl)
set_option maxRecDepth 20000 in
theorem dX8_borders_35 : @Eq _ (decode cX8_borders 35) (.ok (.arraylength, 1)) := dc_190 (lxX8_borders 2 3 rfl)
set_option maxRecDepth 20000 in
theorem dX8_borders_36 : @Eq _ (decode cX8_borders 36) (.ok (.if_icmp .gt 25, 3)) := dc_163 0 25 (lxX8_borders 2 4 rfl) (lxX8_borders 2 5 rfl) (lxX8_borders 2 6 rfl)
set_option maxRecDepth 20000 in
theorem dX8_borders_39 : @Eq _ (decode cX8_borders 39) (.ok (.aload_n 3, 1)) := dc_45 (lxX8_borders 2 7 rfl)
set_option maxRecDepth 20000 in
theorem dX8_borders_40 : @Eq _ (decode cX8_borders 40) (.ok (.aload_n 2, 1)) := dc_44 (lxX8_borders 2 8 rfl)
set_option maxRecDepth 20000 in
theorem dX8_borders_41 : @Eq _ (decode cX8_borders 41) (.ok (.iload 4, 2)) := dc_21 4 (lxX8_borders 2 9 rfl) (lxX8_borders 2 10 rfl)
set_option maxRecDepth 20000 in
theorem dX8_borders_43 : @Eq _ (decode cX8_borders 43) (.ok (.invokestatic 160, 3)) := dc_184 0 160 (lxX8_borders 2 11 rfl) (lxX8_borders 2 12 rfl) (lxX8_borders 2 13 rfl)
set_option maxRecDepth 20000 in
theorem dX8_borders_46 : @Eq _ (decode cX8_borders 46) (.ok (.invokevirtual 164, 3)) := dc_182 0 164 (lxX8_borders 2 14 rfl) (lxX8_borders 2 15 rfl) (lxX8_borders 3 0 rfl)
set_option maxRecDepth 20000 in
theorem dX8_borders_49 : @Eq _ (decode cX8_borders 49) (.ok (.bipush 32, 2)) := dc_16 32 (lxX8_borders 3 1 rfl) (lxX8_borders 3 2 rfl)
set_option maxRecDepth 20000 in
theorem dX8_borders_51 : @Eq _ (decode cX8_borders 51) (.ok (.invokevirtual 69, 3)) := dc_182 0 69 (lxX8_borders 3 3 rfl) (lxX8_borders 3 4 rfl) (lxX8_borders 3 5 rfl)
set_option maxRecDepth 20000 in
theorem dX8_borders_54 : @Eq _ (decode cX8_borders 54) (.ok (.pop, 1)) := dc_87 (lxX8_borders 3 6 rfl)
set_option maxRecDepth 20000 in
theorem dX8_borders_55 : @Eq _ (decode cX8_borders 55) (.ok (.iinc 4 1, 3)) := dc_132 4 1 (lxX8_borders 3 7 rfl) (lxX8_borders 3 8 rfl) (lxX8_borders 3 9 rfl)
set_option maxRecDepth 20000 in
theorem dX8_borders_58 : @Eq _ (decode cX8_borders 58) (.ok (.goto (-26), 3)) := dc_167 255 230 (lxX8_borders 3 10 rfl) (lxX8_borders 3 11 rfl) (lxX8_borders 3 12 rfl)
set_option maxRecDepth 20000 in
theorem dX8_borders_61 : @Eq _ (decode cX8_borders 61) (.ok (.aload_n 3, 1)) := dc_45 (lxX8_borders 3 13 rfl)
set_option maxRecDepth 20000 in
theorem dX8_borders_62 : @Eq _ (decode cX8_borders 62) (.ok (.invokevirtual 73, 3)) := dc_182 0 73 (lxX8_borders 3 14 rfl) (lxX8_borders 3 15 rfl) (lxX8_borders 4 0 rfl)
set_option maxRecDepth 20000 in
theorem dX8_borders_65 : @Eq _ (decode cX8_borders 65) (.ok (.areturn, 1)) := dc_176 (lxX8_borders 4 1 rfl)
def lb_sgX8_chain : List (List UInt8) := [[42, 27, 184, 0, 119, 3, 182, 0, 81, 153, 0, 6, 18, 109, 176, 42], [27, 182, 0, 122, 77, 187, 0, 66, 89, 183, 0, 68, 78, 44, 190, 4], [100, 54, 4, 21, 4, 155, 0, 32, 44, 44, 190, 21, 4, 184, 0, 156], [153, 0, 15, 45, 21, 4, 182, 0, 164, 16, 32, 182, 0, 69, 87, 132], [4, 255, 167, 255, 225, 45, 182, 0, 73, 176]]
set_option maxRecDepth 100000 in
theorem lb_seX8_chain : cX8_chain.data.toList = lb_sgX8_chain.flatten := by decide +kernel
theorem lb_lnX8_chain : ∀ s ∈ lb_sgX8_chain.dropLast, s.length = 16 := by decide +kernel
theorem lxX8_chain (k j : Nat) {b : UInt8} (h : (lb_sgX8_chain[k]?).bind (fun s => s[j]?) = some b) : lb_at cX8_chain (16 * k + j) b := by
  unfold lb_at
  rw [lb_seX8_chain]
  exact lb_flat 16 lb_sgX8_chain k j b lb_lnX8_chain h
set_option maxRecDepth 20000 in
theorem dX8_chain_0 : @Eq _ (decode cX8_chain 0) (.ok (.aload_n 0, 1)) := dc_42 (lxX8_chain 0 0 rfl)
set_option maxRecDepth 20000 in
theorem dX8_chain_1 : @Eq _ (decode cX8_chain 1) (.ok (.iload_n 1, 1)) := dc_27 (lxX8_chain 0 1 rfl)
set_option maxRecDepth 20000 in
theorem dX8_chain_2 : @Eq _ (decode cX8_chain 2) (.ok (.invokestatic 119, 3)) := dc_184 0 119 (lxX8_chain 0 2 rfl) (lxX8_chain 0 3 rfl) (lxX8_chain 0 4 rfl)
set_option maxRecDepth 20000 in
theorem dX8_chain_5 : @Eq _ (decode cX8_chain 5) (.ok (.iconst 0, 1)) := dc_3 (lxX8_chain 0 5 rfl)
set_option maxRecDepth 20000 in
theorem dX8_chain_6 : @Eq _ (decode cX8_chain 6) (.ok (.invokevirtual 81, 3)) := dc_182 0 81 (lxX8_chain 0 6 rfl) (lxX8_chain 0 7 rfl) (lxX8_chain 0 8 rfl)
set_option maxRecDepth 20000 in
theorem dX8_chain_9 : @Eq _ (decode cX8_chain 9) (.ok (.ifCond .eq 6, 3)) := dc_153 0 6 (lxX8_chain 0 9 rfl) (lxX8_chain 0 10 rfl) (lxX8_chain 0 11 rfl)
set_option maxRecDepth 20000 in
theorem dX8_chain_12 : @Eq _ (decode cX8_chain 12) (.ok (.ldc 109, 2)) := dc_18 109 (lxX8_chain 0 12 rfl) (lxX8_chain 0 13 rfl)
set_option maxRecDepth 20000 in
theorem dX8_chain_14 : @Eq _ (decode cX8_chain 14) (.ok (.areturn, 1)) := dc_176 (lxX8_chain 0 14 rfl)
set_option maxRecDepth 20000 in
theorem dX8_chain_15 : @Eq _ (decode cX8_chain 15) (.ok (.aload_n 0, 1)) := dc_42 (lxX8_chain 0 15 rfl)
set_option maxRecDepth 20000 in
theorem dX8_chain_16 : @Eq _ (decode cX8_chain 16) (.ok (.iload_n 1, 1)) := dc_27 (lxX8_chain 1 0 rfl)
set_option maxRecDepth 20000 in
theorem dX8_chain_17 : @Eq _ (decode cX8_chain 17) (.ok (.invokevirtual 122, 3)) := dc_182 0 122 (lxX8_chain 1 1 rfl) (lxX8_chain 1 2 rfl) (lxX8_chain 1 3 rfl)
set_option maxRecDepth 20000 in
theorem dX8_chain_20 : @Eq _ (decode cX8_chain 20) (.ok (.astore_n 2, 1)) := dc_77 (lxX8_chain 1 4 rfl)
set_option maxRecDepth 20000 in
theorem dX8_chain_21 : @Eq _ (decode cX8_chain 21) (.ok (.new 66, 3)) := dc_187 0 66 (lxX8_chain 1 5 rfl) (lxX8_chain 1 6 rfl) (lxX8_chain 1 7 rfl)
set_option maxRecDepth 20000 in
theorem dX8_chain_24 : @Eq _ (decode cX8_chain 24) (.ok (.dup, 1)) := dc_89 (lxX8_chain 1 8 rfl)
set_option maxRecDepth 20000 in
theorem dX8_chain_25 : @Eq _ (decode cX8_chain 25) (.ok (.invokespecial 68, 3)) := dc_183 0 68 (lxX8_chain 1 9 rfl) (lxX8_chain 1 10 rfl) (lxX8_chain 1 11 rfl)
set_option maxRecDepth 20000 in
theorem dX8_chain_28 : @Eq _ (decode cX8_chain 28) (.ok (.astore_n 3, 1)) := dc_78 (lxX8_chain 1 12 rfl)
set_option maxRecDepth 20000 in
theorem dX8_chain_29 : @Eq _ (decode cX8_chain 29) (.ok (.aload_n 2, 1)) := dc_44 (lxX8_chain 1 13 rfl)
set_option maxRecDepth 20000 in
theorem dX8_chain_30 : @Eq _ (decode cX8_chain 30) (.ok (.arraylength, 1)) := dc_190 (lxX8_chain 1 14 rfl)
set_option maxRecDepth 20000 in
theorem dX8_chain_31 : @Eq _ (decode cX8_chain 31) (.ok (.iconst 1, 1)) := dc_4 (lxX8_chain 1 15 rfl)
set_option maxRecDepth 20000 in
theorem dX8_chain_32 : @Eq _ (decode cX8_chain 32) (.ok (.isub, 1)) := dc_100 (lxX8_chain 2 0 rfl)
set_option maxRecDepth 20000 in
theorem dX8_chain_33 : @Eq _ (decode cX8_chain 33) (.ok (.istore 4, 2)) := dc_54 4 (lxX8_chain 2 1 rfl) (lxX8_chain 2 2 rfl)
set_option maxRecDepth 20000 in
theorem dX8_chain_35 : @Eq _ (decode cX8_chain 35) (.ok (.iload 4, 2)) := dc_21 4 (lxX8_chain 2 3 rfl) (lxX8_chain 2 4 rfl)
set_option maxRecDepth 20000 in
theorem dX8_chain_37 : @Eq _ (decode cX8_chain 37) (.ok (.ifCond .lt 32, 3)) := dc_155 0 32 (lxX8_chain 2 5 rfl) (lxX8_chain 2 6 rfl) (lxX8_chain 2 7 rfl)
set_option maxRecDepth 20000 in
theorem dX8_chain_40 : @Eq _ (decode cX8_chain 40) (.ok (.aload_n 2, 1)) := dc_44 (lxX8_chain 2 8 rfl)
set_option maxRecDepth 20000 in
theorem dX8_chain_41 : @Eq _ (decode cX8_chain 41) (.ok (.aload_n 2, 1)) := dc_44 (lxX8_chain 2 9 rfl)
set_option maxRecDepth 20000 in
theorem dX8_chain_42 : @Eq _ (decode cX8_chain 42) (.ok (.arraylength, 1)) := dc_190 (lxX8_chain 2 10 rfl)
set_option maxRecDepth 20000 in
theorem dX8_chain_43 : @Eq _ (decode cX8_chain 43) (.ok (.iload 4, 2)) := dc_21 4 (lxX8_chain 2 11 rfl) (lxX8_chain 2 12 rfl)
set_option maxRecDepth 20000 in
theorem dX8_chain_45 : @Eq _ (decode cX8_chain 45) (.ok (.invokestatic 156, 3)) := dc_184 0 156 (lxX8_chain 2 13 rfl) (lxX8_chain 2 14 rfl) (lxX8_chain 2 15 rfl)
set_option maxRecDepth 20000 in
theorem dX8_chain_48 : @Eq _ (decode cX8_chain 48) (.ok (.ifCond .eq 15, 3)) := dc_153 0 15 (lxX8_chain 3 0 rfl) (lxX8_chain 3 1 rfl) (lxX8_chain 3 2 rfl)
set_option maxRecDepth 20000 in
theorem dX8_chain_51 : @Eq _ (decode cX8_chain 51) (.ok (.aload_n 3, 1)) := dc_45 (lxX8_chain 3 3 rfl)
set_option maxRecDepth 20000 in
theorem dX8_chain_52 : @Eq _ (decode cX8_chain 52) (.ok (.iload 4, 2)) := dc_21 4 (lxX8_chain 3 4 rfl) (lxX8_chain 3 5 rfl)
set_option maxRecDepth 20000 in
theorem dX8_chain_54 : @Eq _ (decode cX8_chain 54) (.ok (.invokevirtual 164, 3)) := dc_182 0 164 (lxX8_chain 3 6 rfl) (lxX8_chain 3 7 rfl) (lxX8_chain 3 8 rfl)
set_option maxRecDepth 20000 in
theorem dX8_chain_57 : @Eq _ (decode cX8_chain 57) (.ok (.bipush 32, 2)) := dc_16 32 (lxX8_chain 3 9 rfl) (lxX8_chain 3 10 rfl)
set_option maxRecDepth 20000 in
theorem dX8_chain_59 : @Eq _ (decode cX8_chain 59) (.ok (.invokevirtual 69, 3)) := dc_182 0 69 (lxX8_chain 3 11 rfl) (lxX8_chain 3 12 rfl) (lxX8_chain 3 13 rfl)
set_option maxRecDepth 20000 in
theorem dX8_chain_62 : @Eq _ (decode cX8_chain 62) (.ok (.pop, 1)) := dc_87 (lxX8_chain 3 14 rfl)
set_option maxRecDepth 20000 in
theorem dX8_chain_63 : @Eq _ (decode cX8_chain 63) (.ok (.iinc 4 (-1), 3)) := dc_132 4 255 (lxX8_chain 3 15 rfl) (lxX8_chain 4 0 rfl) (lxX8_chain 4 1 rfl)
set_option maxRecDepth 20000 in
theorem dX8_chain_66 : @Eq _ (decode cX8_chain 66) (.ok (.goto (-31), 3)) := dc_167 255 225 (lxX8_chain 4 2 rfl) (lxX8_chain 4 3 rfl) (lxX8_chain 4 4 rfl)
set_option maxRecDepth 20000 in
theorem dX8_chain_69 : @Eq _ (decode cX8_chain 69) (.ok (.aload_n 3, 1)) := dc_45 (lxX8_chain 4 5 rfl)
set_option maxRecDepth 20000 in
theorem dX8_chain_70 : @Eq _ (decode cX8_chain 70) (.ok (.invokevirtual 73, 3)) := dc_182 0 73 (lxX8_chain 4 6 rfl) (lxX8_chain 4 7 rfl) (lxX8_chain 4 8 rfl)
set_option maxRecDepth 20000 in
theorem dX8_chain_73 : @Eq _ (decode cX8_chain 73) (.ok (.areturn, 1)) := dc_176 (lxX8_chain 4 9 rfl)
def lb_sgX8_differ : List (List UInt8) := [[42, 27, 184, 0, 119, 154, 0, 10, 28, 184, 0, 119, 153, 0, 7, 4], [167, 0, 4, 3, 3, 182, 0, 81, 153, 0, 5, 3, 172, 42, 27, 182], [0, 122, 78, 42, 28, 182, 0, 122, 58, 4, 3, 54, 5, 21, 5, 45], [190, 162, 0, 29, 21, 5, 25, 4, 190, 162, 0, 21, 45, 21, 5, 46], [25, 4, 21, 5, 46, 160, 0, 9, 132, 5, 1, 167, 255, 226, 21, 5], [45, 190, 160, 0, 15, 21, 5, 25, 4, 190, 160, 0, 7, 2, 167, 0], [5, 21, 5, 172]]
set_option maxRecDepth 100000 in
theorem lb_seX8_differ : cX8_differ.data.toList = lb_sgX8_differ.flatten := by decide +kernel
theorem lb_lnX8_differ : ∀ s ∈ lb_sgX8_differ.dropLast, s.length = 16 := by decide +kernel
theorem lxX8_differ (k j : Nat) {b : UInt8} (h : (lb_sgX8_differ[k]?).bind (fun s => s[j]?) = some b) : lb_at cX8_differ (16 * k + j) b := by
  unfold lb_at
  rw [lb_seX8_differ]
  exact lb_flat 16 lb_sgX8_differ k j b lb_lnX8_differ h
set_option maxRecDepth 20000 in
theorem dX8_differ_0 : @Eq _ (decode cX8_differ 0) (.ok (.aload_n 0, 1)) := dc_42 (lxX8_differ 0 0 rfl)
set_option maxRecDepth 20000 in
theorem dX8_differ_1 : @Eq _ (decode cX8_differ 1) (.ok (.iload_n 1, 1)) := dc_27 (lxX8_differ 0 1 rfl)
set_option maxRecDepth 20000 in
theorem dX8_differ_2 : @Eq _ (decode cX8_differ 2) (.ok (.invokestatic 119, 3)) := dc_184 0 119 (lxX8_differ 0 2 rfl) (lxX8_differ 0 3 rfl) (lxX8_differ 0 4 rfl)
set_option maxRecDepth 20000 in
theorem dX8_differ_5 : @Eq _ (decode cX8_differ 5) (.ok (.ifCond .ne 10, 3)) := dc_154 0 10 (lxX8_differ 0 5 rfl) (lxX8_differ 0 6 rfl) (lxX8_differ 0 7 rfl)
set_option maxRecDepth 20000 in
theorem dX8_differ_8 : @Eq _ (decode cX8_differ 8) (.ok (.iload_n 2, 1)) := dc_28 (lxX8_differ 0 8 rfl)
set_option maxRecDepth 20000 in
theorem dX8_differ_9 : @Eq _ (decode cX8_differ 9) (.ok (.invokestatic 119, 3)) := dc_184 0 119 (lxX8_differ 0 9 rfl) (lxX8_differ 0 10 rfl) (lxX8_differ 0 11 rfl)
set_option maxRecDepth 20000 in
theorem dX8_differ_12 : @Eq _ (decode cX8_differ 12) (.ok (.ifCond .eq 7, 3)) := dc_153 0 7 (lxX8_differ 0 12 rfl) (lxX8_differ 0 13 rfl) (lxX8_differ 0 14 rfl)
set_option maxRecDepth 20000 in
theorem dX8_differ_15 : @Eq _ (decode cX8_differ 15) (.ok (.iconst 1, 1)) := dc_4 (lxX8_differ 0 15 rfl)
set_option maxRecDepth 20000 in
theorem dX8_differ_16 : @Eq _ (decode cX8_differ 16) (.ok (.goto 4, 3)) := dc_167 0 4 (lxX8_differ 1 0 rfl) (lxX8_differ 1 1 rfl) (lxX8_differ 1 2 rfl)
set_option maxRecDepth 20000 in
theorem dX8_differ_19 : @Eq _ (decode cX8_differ 19) (.ok (.iconst 0, 1)) := dc_3 (lxX8_differ 1 3 rfl)
set_option maxRecDepth 20000 in
theorem dX8_differ_20 : @Eq _ (decode cX8_differ 20) (.ok (.iconst 0, 1)) := dc_3 (lxX8_differ 1 4 rfl)
set_option maxRecDepth 20000 in
theorem dX8_differ_21 : @Eq _ (decode cX8_differ 21) (.ok (.invokevirtual 81, 3)) := dc_182 0 81 (lxX8_differ 1 5 rfl) (lxX8_differ 1 6 rfl) (lxX8_differ 1 7 rfl)
set_option maxRecDepth 20000 in
theorem dX8_differ_24 : @Eq _ (decode cX8_differ 24) (.ok (.ifCond .eq 5, 3)) := dc_153 0 5 (lxX8_differ 1 8 rfl) (lxX8_differ 1 9 rfl) (lxX8_differ 1 10 rfl)
set_option maxRecDepth 20000 in
theorem dX8_differ_27 : @Eq _ (decode cX8_differ 27) (.ok (.iconst 0, 1)) := dc_3 (lxX8_differ 1 11 rfl)
set_option maxRecDepth 20000 in
theorem dX8_differ_28 : @Eq _ (decode cX8_differ 28) (.ok (.ireturn, 1)) := dc_172 (lxX8_differ 1 12 rfl)
set_option maxRecDepth 20000 in
theorem dX8_differ_29 : @Eq _ (decode cX8_differ 29) (.ok (.aload_n 0, 1)) := dc_42 (lxX8_differ 1 13 rfl)
set_option maxRecDepth 20000 in
theorem dX8_differ_30 : @Eq _ (decode cX8_differ 30) (.ok (.iload_n 1, 1)) := dc_27 (lxX8_differ 1 14 rfl)
set_option maxRecDepth 20000 in
theorem dX8_differ_31 : @Eq _ (decode cX8_differ 31) (.ok (.invokevirtual 122, 3)) := dc_182 0 122 (lxX8_differ 1 15 rfl) (lxX8_differ 2 0 rfl) (lxX8_differ 2 1 rfl)
set_option maxRecDepth 20000 in
theorem dX8_differ_34 : @Eq _ (decode cX8_differ 34) (.ok (.astore_n 3, 1)) := dc_78 (lxX8_differ 2 2 rfl)
set_option maxRecDepth 20000 in
theorem dX8_differ_35 : @Eq _ (decode cX8_differ 35) (.ok (.aload_n 0, 1)) := dc_42 (lxX8_differ 2 3 rfl)
set_option maxRecDepth 20000 in
theorem dX8_differ_36 : @Eq _ (decode cX8_differ 36) (.ok (.iload_n 2, 1)) := dc_28 (lxX8_differ 2 4 rfl)
set_option maxRecDepth 20000 in
theorem dX8_differ_37 : @Eq _ (decode cX8_differ 37) (.ok (.invokevirtual 122, 3)) := dc_182 0 122 (lxX8_differ 2 5 rfl) (lxX8_differ 2 6 rfl) (lxX8_differ 2 7 rfl)
set_option maxRecDepth 20000 in
theorem dX8_differ_40 : @Eq _ (decode cX8_differ 40) (.ok (.astore 4, 2)) := dc_58 4 (lxX8_differ 2 8 rfl) (lxX8_differ 2 9 rfl)
set_option maxRecDepth 20000 in
theorem dX8_differ_42 : @Eq _ (decode cX8_differ 42) (.ok (.iconst 0, 1)) := dc_3 (lxX8_differ 2 10 rfl)
set_option maxRecDepth 20000 in
theorem dX8_differ_43 : @Eq _ (decode cX8_differ 43) (.ok (.istore 5, 2)) := dc_54 5 (lxX8_differ 2 11 rfl) (lxX8_differ 2 12 rfl)
set_option maxRecDepth 20000 in
theorem dX8_differ_45 : @Eq _ (decode cX8_differ 45) (.ok (.iload 5, 2)) := dc_21 5 (lxX8_differ 2 13 rfl) (lxX8_differ 2 14 rfl)
set_option maxRecDepth 20000 in
theorem dX8_differ_47 : @Eq _ (decode cX8_differ 47) (.ok (.aload_n 3, 1)) := dc_45 (lxX8_differ 2 15 rfl)
set_option maxRecDepth 20000 in
theorem dX8_differ_48 : @Eq _ (decode cX8_differ 48) (.ok (.arraylength, 1)) := dc_190 (lxX8_differ 3 0 rfl)
set_option maxRecDepth 20000 in
theorem dX8_differ_49 : @Eq _ (decode cX8_differ 49) (.ok (.if_icmp .ge 29, 3)) := dc_162 0 29 (lxX8_differ 3 1 rfl) (lxX8_differ 3 2 rfl) (lxX8_differ 3 3 rfl)
set_option maxRecDepth 20000 in
theorem dX8_differ_52 : @Eq _ (decode cX8_differ 52) (.ok (.iload 5, 2)) := dc_21 5 (lxX8_differ 3 4 rfl) (lxX8_differ 3 5 rfl)
set_option maxRecDepth 20000 in
theorem dX8_differ_54 : @Eq _ (decode cX8_differ 54) (.ok (.aload 4, 2)) := dc_25 4 (lxX8_differ 3 6 rfl) (lxX8_differ 3 7 rfl)
set_option maxRecDepth 20000 in
theorem dX8_differ_56 : @Eq _ (decode cX8_differ 56) (.ok (.arraylength, 1)) := dc_190 (lxX8_differ 3 8 rfl)
set_option maxRecDepth 20000 in
theorem dX8_differ_57 : @Eq _ (decode cX8_differ 57) (.ok (.if_icmp .ge 21, 3)) := dc_162 0 21 (lxX8_differ 3 9 rfl) (lxX8_differ 3 10 rfl) (lxX8_differ 3 11 rfl)
set_option maxRecDepth 20000 in
theorem dX8_differ_60 : @Eq _ (decode cX8_differ 60) (.ok (.aload_n 3, 1)) := dc_45 (lxX8_differ 3 12 rfl)
set_option maxRecDepth 20000 in
theorem dX8_differ_61 : @Eq _ (decode cX8_differ 61) (.ok (.iload 5, 2)) := dc_21 5 (lxX8_differ 3 13 rfl) (lxX8_differ 3 14 rfl)
set_option maxRecDepth 20000 in
theorem dX8_differ_63 : @Eq _ (decode cX8_differ 63) (.ok (.iaload, 1)) := dc_46 (lxX8_differ 3 15 rfl)
set_option maxRecDepth 20000 in
theorem dX8_differ_64 : @Eq _ (decode cX8_differ 64) (.ok (.aload 4, 2)) := dc_25 4 (lxX8_differ 4 0 rfl) (lxX8_differ 4 1 rfl)
set_option maxRecDepth 20000 in
theorem dX8_differ_66 : @Eq _ (decode cX8_differ 66) (.ok (.iload 5, 2)) := dc_21 5 (lxX8_differ 4 2 rfl) (lxX8_differ 4 3 rfl)
set_option maxRecDepth 20000 in
theorem dX8_differ_68 : @Eq _ (decode cX8_differ 68) (.ok (.iaload, 1)) := dc_46 (lxX8_differ 4 4 rfl)
set_option maxRecDepth 20000 in
theorem dX8_differ_69 : @Eq _ (decode cX8_differ 69) (.ok (.if_icmp .ne 9, 3)) := dc_160 0 9 (lxX8_differ 4 5 rfl) (lxX8_differ 4 6 rfl) (lxX8_differ 4 7 rfl)
set_option maxRecDepth 20000 in
theorem dX8_differ_72 : @Eq _ (decode cX8_differ 72) (.ok (.iinc 5 1, 3)) := dc_132 5 1 (lxX8_differ 4 8 rfl) (lxX8_differ 4 9 rfl) (lxX8_differ 4 10 rfl)
set_option maxRecDepth 20000 in
theorem dX8_differ_75 : @Eq _ (decode cX8_differ 75) (.ok (.goto (-30), 3)) := dc_167 255 226 (lxX8_differ 4 11 rfl) (lxX8_differ 4 12 rfl) (lxX8_differ 4 13 rfl)
set_option maxRecDepth 20000 in
theorem dX8_differ_78 : @Eq _ (decode cX8_differ 78) (.ok (.iload 5, 2)) := dc_21 5 (lxX8_differ 4 14 rfl) (lxX8_differ 4 15 rfl)
set_option maxRecDepth 20000 in
theorem dX8_differ_80 : @Eq _ (decode cX8_differ 80) (.ok (.aload_n 3, 1)) := dc_45 (lxX8_differ 5 0 rfl)
set_option maxRecDepth 20000 in
theorem dX8_differ_81 : @Eq _ (decode cX8_differ 81) (.ok (.arraylength, 1)) := dc_190 (lxX8_differ 5 1 rfl)
set_option maxRecDepth 20000 in
theorem dX8_differ_82 : @Eq _ (decode cX8_differ 82) (.ok (.if_icmp .ne 15, 3)) := dc_160 0 15 (lxX8_differ 5 2 rfl) (lxX8_differ 5 3 rfl) (lxX8_differ 5 4 rfl)
set_option maxRecDepth 20000 in
theorem dX8_differ_85 : @Eq _ (decode cX8_differ 85) (.ok (.iload 5, 2)) := dc_21 5 (lxX8_differ 5 5 rfl) (lxX8_differ 5 6 rfl)
set_option maxRecDepth 20000 in
theorem dX8_differ_87 : @Eq _ (decode cX8_differ 87) (.ok (.aload 4, 2)) := dc_25 4 (lxX8_differ 5 7 rfl) (lxX8_differ 5 8 rfl)
set_option maxRecDepth 20000 in
theorem dX8_differ_89 : @Eq _ (decode cX8_differ 89) (.ok (.arraylength, 1)) := dc_190 (lxX8_differ 5 9 rfl)
set_option maxRecDepth 20000 in
theorem dX8_differ_90 : @Eq _ (decode cX8_differ 90) (.ok (.if_icmp .ne 7, 3)) := dc_160 0 7 (lxX8_differ 5 10 rfl) (lxX8_differ 5 11 rfl) (lxX8_differ 5 12 rfl)
set_option maxRecDepth 20000 in
theorem dX8_differ_93 : @Eq _ (decode cX8_differ 93) (.ok (.iconst (-1), 1)) := dc_2 (lxX8_differ 5 13 rfl)
set_option maxRecDepth 20000 in
theorem dX8_differ_94 : @Eq _ (decode cX8_differ 94) (.ok (.goto 5, 3)) := dc_167 0 5 (lxX8_differ 5 14 rfl) (lxX8_differ 5 15 rfl) (lxX8_differ 6 0 rfl)
set_option maxRecDepth 20000 in
theorem dX8_differ_97 : @Eq _ (decode cX8_differ 97) (.ok (.iload 5, 2)) := dc_21 5 (lxX8_differ 6 1 rfl) (lxX8_differ 6 2 rfl)
set_option maxRecDepth 20000 in
theorem dX8_differ_99 : @Eq _ (decode cX8_differ 99) (.ok (.ireturn, 1)) := dc_172 (lxX8_differ 6 3 rfl)
def lb_sgX8_known : List (List UInt8) := [[42, 27, 184, 0, 119, 28, 3, 7, 184, 0, 41, 182, 0, 81, 153, 0], [5, 3, 172, 28, 5, 159, 0, 8, 28, 6, 160, 0, 10, 42, 180, 0], [18, 167, 0, 7, 42, 180, 0, 21, 78, 42, 27, 182, 0, 122, 58, 4], [28, 7, 160, 0, 19, 45, 25, 4, 3, 184, 0, 142, 156, 0, 7, 3], [167, 0, 4, 4, 172, 28, 5, 112, 154, 0, 13, 45, 25, 4, 3, 184], [0, 142, 167, 0, 9, 45, 25, 4, 184, 0, 149, 172]]
set_option maxRecDepth 100000 in
theorem lb_seX8_known : cX8_known.data.toList = lb_sgX8_known.flatten := by decide +kernel
theorem lb_lnX8_known : ∀ s ∈ lb_sgX8_known.dropLast, s.length = 16 := by decide +kernel
theorem lxX8_known (k j : Nat) {b : UInt8} (h : (lb_sgX8_known[k]?).bind (fun s => s[j]?) = some b) : lb_at cX8_known (16 * k + j) b := by
  unfold lb_at
  rw [lb_seX8_known]
  exact lb_flat 16 lb_sgX8_known k j b lb_lnX8_known h
set_option maxRecDepth 20000 in
theorem dX8_known_0 : @Eq _ (decode cX8_known 0) (.ok (.aload_n 0, 1)) := dc_42 (lxX8_known 0 0 rfl)
set_option maxRecDepth 20000 in
theorem dX8_known_1 : @Eq _ (decode cX8_known 1) (.ok (.iload_n 1, 1)) := dc_27 (lxX8_known 0 1 rfl)
set_option maxRecDepth 20000 in
theorem dX8_known_2 : @Eq _ (decode cX8_known 2) (.ok (.invokestatic 119, 3)) := dc_184 0 119 (lxX8_known 0 2 rfl) (lxX8_known 0 3 rfl) (lxX8_known 0 4 rfl)
set_option maxRecDepth 20000 in
theorem dX8_known_5 : @Eq _ (decode cX8_known 5) (.ok (.iload_n 2, 1)) := dc_28 (lxX8_known 0 5 rfl)
set_option maxRecDepth 20000 in
theorem dX8_known_6 : @Eq _ (decode cX8_known 6) (.ok (.iconst 0, 1)) := dc_3 (lxX8_known 0 6 rfl)
set_option maxRecDepth 20000 in
theorem dX8_known_7 : @Eq _ (decode cX8_known 7) (.ok (.iconst 4, 1)) := dc_7 (lxX8_known 0 7 rfl)
set_option maxRecDepth 20000 in
theorem dX8_known_8 : @Eq _ (decode cX8_known 8) (.ok (.invokestatic 41, 3)) := dc_184 0 41 (lxX8_known 0 8 rfl) (lxX8_known 0 9 rfl) (lxX8_known 0 10 rfl)
set_option maxRecDepth 20000 in
theorem dX8_known_11 : @Eq _ (decode cX8_known 11) (.ok (.invokevirtual 81, 3)) := dc_182 0 81 (lxX8_known 0 11 rfl) (lxX8_known 0 12 rfl) (lxX8_known 0 13 rfl)
set_option maxRecDepth 20000 in
theorem dX8_known_14 : @Eq _ (decode cX8_known 14) (.ok (.ifCond .eq 5, 3)) := dc_153 0 5 (lxX8_known 0 14 rfl) (lxX8_known 0 15 rfl) (lxX8_known 1 0 rfl)
set_option maxRecDepth 20000 in
theorem dX8_known_17 : @Eq _ (decode cX8_known 17) (.ok (.iconst 0, 1)) := dc_3 (lxX8_known 1 1 rfl)
set_option maxRecDepth 20000 in
theorem dX8_known_18 : @Eq _ (decode cX8_known 18) (.ok (.ireturn, 1)) := dc_172 (lxX8_known 1 2 rfl)
set_option maxRecDepth 20000 in
theorem dX8_known_19 : @Eq _ (decode cX8_known 19) (.ok (.iload_n 2, 1)) := dc_28 (lxX8_known 1 3 rfl)
set_option maxRecDepth 20000 in
theorem dX8_known_20 : @Eq _ (decode cX8_known 20) (.ok (.iconst 2, 1)) := dc_5 (lxX8_known 1 4 rfl)
set_option maxRecDepth 20000 in
theorem dX8_known_21 : @Eq _ (decode cX8_known 21) (.ok (.if_icmp .eq 8, 3)) := dc_159 0 8 (lxX8_known 1 5 rfl) (lxX8_known 1 6 rfl) (lxX8_known 1 7 rfl)
set_option maxRecDepth 20000 in
theorem dX8_known_24 : @Eq _ (decode cX8_known 24) (.ok (.iload_n 2, 1)) := dc_28 (lxX8_known 1 8 rfl)
set_option maxRecDepth 20000 in
theorem dX8_known_25 : @Eq _ (decode cX8_known 25) (.ok (.iconst 3, 1)) := dc_6 (lxX8_known 1 9 rfl)
set_option maxRecDepth 20000 in
theorem dX8_known_26 : @Eq _ (decode cX8_known 26) (.ok (.if_icmp .ne 10, 3)) := dc_160 0 10 (lxX8_known 1 10 rfl) (lxX8_known 1 11 rfl) (lxX8_known 1 12 rfl)
set_option maxRecDepth 20000 in
theorem dX8_known_29 : @Eq _ (decode cX8_known 29) (.ok (.aload_n 0, 1)) := dc_42 (lxX8_known 1 13 rfl)
set_option maxRecDepth 20000 in
theorem dX8_known_30 : @Eq _ (decode cX8_known 30) (.ok (.getfield 18, 3)) := dc_180 0 18 (lxX8_known 1 14 rfl) (lxX8_known 1 15 rfl) (lxX8_known 2 0 rfl)
set_option maxRecDepth 20000 in
theorem dX8_known_33 : @Eq _ (decode cX8_known 33) (.ok (.goto 7, 3)) := dc_167 0 7 (lxX8_known 2 1 rfl) (lxX8_known 2 2 rfl) (lxX8_known 2 3 rfl)
set_option maxRecDepth 20000 in
theorem dX8_known_36 : @Eq _ (decode cX8_known 36) (.ok (.aload_n 0, 1)) := dc_42 (lxX8_known 2 4 rfl)
set_option maxRecDepth 20000 in
theorem dX8_known_37 : @Eq _ (decode cX8_known 37) (.ok (.getfield 21, 3)) := dc_180 0 21 (lxX8_known 2 5 rfl) (lxX8_known 2 6 rfl) (lxX8_known 2 7 rfl)
set_option maxRecDepth 20000 in
theorem dX8_known_40 : @Eq _ (decode cX8_known 40) (.ok (.astore_n 3, 1)) := dc_78 (lxX8_known 2 8 rfl)
set_option maxRecDepth 20000 in
theorem dX8_known_41 : @Eq _ (decode cX8_known 41) (.ok (.aload_n 0, 1)) := dc_42 (lxX8_known 2 9 rfl)
set_option maxRecDepth 20000 in
theorem dX8_known_42 : @Eq _ (decode cX8_known 42) (.ok (.iload_n 1, 1)) := dc_27 (lxX8_known 2 10 rfl)
set_option maxRecDepth 20000 in
theorem dX8_known_43 : @Eq _ (decode cX8_known 43) (.ok (.invokevirtual 122, 3)) := dc_182 0 122 (lxX8_known 2 11 rfl) (lxX8_known 2 12 rfl) (lxX8_known 2 13 rfl)
set_option maxRecDepth 20000 in
theorem dX8_known_46 : @Eq _ (decode cX8_known 46) (.ok (.astore 4, 2)) := dc_58 4 (lxX8_known 2 14 rfl) (lxX8_known 2 15 rfl)
set_option maxRecDepth 20000 in
theorem dX8_known_48 : @Eq _ (decode cX8_known 48) (.ok (.iload_n 2, 1)) := dc_28 (lxX8_known 3 0 rfl)
set_option maxRecDepth 20000 in
theorem dX8_known_49 : @Eq _ (decode cX8_known 49) (.ok (.iconst 4, 1)) := dc_7 (lxX8_known 3 1 rfl)
set_option maxRecDepth 20000 in
theorem dX8_known_50 : @Eq _ (decode cX8_known 50) (.ok (.if_icmp .ne 19, 3)) := dc_160 0 19 (lxX8_known 3 2 rfl) (lxX8_known 3 3 rfl) (lxX8_known 3 4 rfl)
set_option maxRecDepth 20000 in
theorem dX8_known_53 : @Eq _ (decode cX8_known 53) (.ok (.aload_n 3, 1)) := dc_45 (lxX8_known 3 5 rfl)
set_option maxRecDepth 20000 in
theorem dX8_known_54 : @Eq _ (decode cX8_known 54) (.ok (.aload 4, 2)) := dc_25 4 (lxX8_known 3 6 rfl) (lxX8_known 3 7 rfl)
set_option maxRecDepth 20000 in
theorem dX8_known_56 : @Eq _ (decode cX8_known 56) (.ok (.iconst 0, 1)) := dc_3 (lxX8_known 3 8 rfl)
set_option maxRecDepth 20000 in
theorem dX8_known_57 : @Eq _ (decode cX8_known 57) (.ok (.invokestatic 142, 3)) := dc_184 0 142 (lxX8_known 3 9 rfl) (lxX8_known 3 10 rfl) (lxX8_known 3 11 rfl)
set_option maxRecDepth 20000 in
theorem dX8_known_60 : @Eq _ (decode cX8_known 60) (.ok (.ifCond .ge 7, 3)) := dc_156 0 7 (lxX8_known 3 12 rfl) (lxX8_known 3 13 rfl) (lxX8_known 3 14 rfl)
set_option maxRecDepth 20000 in
theorem dX8_known_63 : @Eq _ (decode cX8_known 63) (.ok (.iconst 0, 1)) := dc_3 (lxX8_known 3 15 rfl)
set_option maxRecDepth 20000 in
theorem dX8_known_64 : @Eq _ (decode cX8_known 64) (.ok (.goto 4, 3)) := dc_167 0 4 (lxX8_known 4 0 rfl) (lxX8_known 4 1 rfl) (lxX8_known 4 2 rfl)
set_option maxRecDepth 20000 in
theorem dX8_known_67 : @Eq _ (decode cX8_known 67) (.ok (.iconst 1, 1)) := dc_4 (lxX8_known 4 3 rfl)
set_option maxRecDepth 20000 in
theorem dX8_known_68 : @Eq _ (decode cX8_known 68) (.ok (.ireturn, 1)) := dc_172 (lxX8_known 4 4 rfl)
set_option maxRecDepth 20000 in
theorem dX8_known_69 : @Eq _ (decode cX8_known 69) (.ok (.iload_n 2, 1)) := dc_28 (lxX8_known 4 5 rfl)
set_option maxRecDepth 20000 in
theorem dX8_known_70 : @Eq _ (decode cX8_known 70) (.ok (.iconst 2, 1)) := dc_5 (lxX8_known 4 6 rfl)
set_option maxRecDepth 20000 in
theorem dX8_known_71 : @Eq _ (decode cX8_known 71) (.ok (.irem, 1)) := dc_112 (lxX8_known 4 7 rfl)
set_option maxRecDepth 20000 in
theorem dX8_known_72 : @Eq _ (decode cX8_known 72) (.ok (.ifCond .ne 13, 3)) := dc_154 0 13 (lxX8_known 4 8 rfl) (lxX8_known 4 9 rfl) (lxX8_known 4 10 rfl)
set_option maxRecDepth 20000 in
theorem dX8_known_75 : @Eq _ (decode cX8_known 75) (.ok (.aload_n 3, 1)) := dc_45 (lxX8_known 4 11 rfl)
set_option maxRecDepth 20000 in
theorem dX8_known_76 : @Eq _ (decode cX8_known 76) (.ok (.aload 4, 2)) := dc_25 4 (lxX8_known 4 12 rfl) (lxX8_known 4 13 rfl)
set_option maxRecDepth 20000 in
theorem dX8_known_78 : @Eq _ (decode cX8_known 78) (.ok (.iconst 0, 1)) := dc_3 (lxX8_known 4 14 rfl)
set_option maxRecDepth 20000 in
theorem dX8_known_79 : @Eq _ (decode cX8_known 79) (.ok (.invokestatic 142, 3)) := dc_184 0 142 (lxX8_known 4 15 rfl) (lxX8_known 5 0 rfl) (lxX8_known 5 1 rfl)
set_option maxRecDepth 20000 in
theorem dX8_known_82 : @Eq _ (decode cX8_known 82) (.ok (.goto 9, 3)) := dc_167 0 9 (lxX8_known 5 2 rfl) (lxX8_known 5 3 rfl) (lxX8_known 5 4 rfl)
set_option maxRecDepth 20000 in
theorem dX8_known_85 : @Eq _ (decode cX8_known 85) (.ok (.aload_n 3, 1)) := dc_45 (lxX8_known 5 5 rfl)
set_option maxRecDepth 20000 in
theorem dX8_known_86 : @Eq _ (decode cX8_known 86) (.ok (.aload 4, 2)) := dc_25 4 (lxX8_known 5 6 rfl) (lxX8_known 5 7 rfl)
set_option maxRecDepth 20000 in
theorem dX8_known_88 : @Eq _ (decode cX8_known 88) (.ok (.invokestatic 149, 3)) := dc_184 0 149 (lxX8_known 5 8 rfl) (lxX8_known 5 9 rfl) (lxX8_known 5 10 rfl)
set_option maxRecDepth 20000 in
theorem dX8_known_91 : @Eq _ (decode cX8_known 91) (.ok (.ireturn, 1)) := dc_172 (lxX8_known 5 11 rfl)
def lb_sgX8_held : List (List UInt8) := [[42, 3, 3, 182, 0, 81, 87, 42, 180, 0, 24, 42, 180, 0, 132, 42], [180, 0, 129, 184, 0, 111, 176]]
set_option maxRecDepth 100000 in
theorem lb_seX8_held : cX8_held.data.toList = lb_sgX8_held.flatten := by decide +kernel
theorem lb_lnX8_held : ∀ s ∈ lb_sgX8_held.dropLast, s.length = 16 := by decide +kernel
theorem lxX8_held (k j : Nat) {b : UInt8} (h : (lb_sgX8_held[k]?).bind (fun s => s[j]?) = some b) : lb_at cX8_held (16 * k + j) b := by
  unfold lb_at
  rw [lb_seX8_held]
  exact lb_flat 16 lb_sgX8_held k j b lb_lnX8_held h
set_option maxRecDepth 20000 in
theorem dX8_held_0 : @Eq _ (decode cX8_held 0) (.ok (.aload_n 0, 1)) := dc_42 (lxX8_held 0 0 rfl)
set_option maxRecDepth 20000 in
theorem dX8_held_1 : @Eq _ (decode cX8_held 1) (.ok (.iconst 0, 1)) := dc_3 (lxX8_held 0 1 rfl)
set_option maxRecDepth 20000 in
theorem dX8_held_2 : @Eq _ (decode cX8_held 2) (.ok (.iconst 0, 1)) := dc_3 (lxX8_held 0 2 rfl)
set_option maxRecDepth 20000 in
theorem dX8_held_3 : @Eq _ (decode cX8_held 3) (.ok (.invokevirtual 81, 3)) := dc_182 0 81 (lxX8_held 0 3 rfl) (lxX8_held 0 4 rfl) (lxX8_held 0 5 rfl)
set_option maxRecDepth 20000 in
theorem dX8_held_6 : @Eq _ (decode cX8_held 6) (.ok (.pop, 1)) := dc_87 (lxX8_held 0 6 rfl)
set_option maxRecDepth 20000 in
theorem dX8_held_7 : @Eq _ (decode cX8_held 7) (.ok (.aload_n 0, 1)) := dc_42 (lxX8_held 0 7 rfl)
set_option maxRecDepth 20000 in
theorem dX8_held_8 : @Eq _ (decode cX8_held 8) (.ok (.getfield 24, 3)) := dc_180 0 24 (lxX8_held 0 8 rfl) (lxX8_held 0 9 rfl) (lxX8_held 0 10 rfl)
set_option maxRecDepth 20000 in
theorem dX8_held_11 : @Eq _ (decode cX8_held 11) (.ok (.aload_n 0, 1)) := dc_42 (lxX8_held 0 11 rfl)
set_option maxRecDepth 20000 in
theorem dX8_held_12 : @Eq _ (decode cX8_held 12) (.ok (.getfield 132, 3)) := dc_180 0 132 (lxX8_held 0 12 rfl) (lxX8_held 0 13 rfl) (lxX8_held 0 14 rfl)
set_option maxRecDepth 20000 in
theorem dX8_held_15 : @Eq _ (decode cX8_held 15) (.ok (.aload_n 0, 1)) := dc_42 (lxX8_held 0 15 rfl)
set_option maxRecDepth 20000 in
theorem dX8_held_16 : @Eq _ (decode cX8_held 16) (.ok (.getfield 129, 3)) := dc_180 0 129 (lxX8_held 1 0 rfl) (lxX8_held 1 1 rfl) (lxX8_held 1 2 rfl)
set_option maxRecDepth 20000 in
theorem dX8_held_19 : @Eq _ (decode cX8_held 19) (.ok (.invokestatic 111, 3)) := dc_184 0 111 (lxX8_held 1 3 rfl) (lxX8_held 1 4 rfl) (lxX8_held 1 5 rfl)
set_option maxRecDepth 20000 in
theorem dX8_held_22 : @Eq _ (decode cX8_held 22) (.ok (.areturn, 1)) := dc_176 (lxX8_held 1 6 rfl)
def lb_sgX8_travelled : List (List UInt8) := [[42, 27, 3, 4, 184, 0, 41, 3, 182, 0, 81, 153, 0, 8, 18, 109], [167, 0, 26, 42, 180, 0, 24, 3, 27, 154, 0, 10, 42, 180, 0, 129], [167, 0, 7, 42, 180, 0, 132, 184, 0, 111, 176]]
set_option maxRecDepth 100000 in
theorem lb_seX8_travelled : cX8_travelled.data.toList = lb_sgX8_travelled.flatten := by decide +kernel
theorem lb_lnX8_travelled : ∀ s ∈ lb_sgX8_travelled.dropLast, s.length = 16 := by decide +kernel
theorem lxX8_travelled (k j : Nat) {b : UInt8} (h : (lb_sgX8_travelled[k]?).bind (fun s => s[j]?) = some b) : lb_at cX8_travelled (16 * k + j) b := by
  unfold lb_at
  rw [lb_seX8_travelled]
  exact lb_flat 16 lb_sgX8_travelled k j b lb_lnX8_travelled h
set_option maxRecDepth 20000 in
theorem dX8_travelled_0 : @Eq _ (decode cX8_travelled 0) (.ok (.aload_n 0, 1)) := dc_42 (lxX8_travelled 0 0 rfl)
set_option maxRecDepth 20000 in
theorem dX8_travelled_1 : @Eq _ (decode cX8_travelled 1) (.ok (.iload_n 1, 1)) := dc_27 (lxX8_travelled 0 1 rfl)
set_option maxRecDepth 20000 in
theorem dX8_travelled_2 : @Eq _ (decode cX8_travelled 2) (.ok (.iconst 0, 1)) := dc_3 (lxX8_travelled 0 2 rfl)
set_option maxRecDepth 20000 in
theorem dX8_travelled_3 : @Eq _ (decode cX8_travelled 3) (.ok (.iconst 1, 1)) := dc_4 (lxX8_travelled 0 3 rfl)
set_option maxRecDepth 20000 in
theorem dX8_travelled_4 : @Eq _ (decode cX8_travelled 4) (.ok (.invokestatic 41, 3)) := dc_184 0 41 (lxX8_travelled 0 4 rfl) (lxX8_travelled 0 5 rfl) (lxX8_travelled 0 6 rfl)
set_option maxRecDepth 20000 in
theorem dX8_travelled_7 : @Eq _ (decode cX8_travelled 7) (.ok (.iconst 0, 1)) := dc_3 (lxX8_travelled 0 7 rfl)
set_option maxRecDepth 20000 in
theorem dX8_travelled_8 : @Eq _ (decode cX8_travelled 8) (.ok (.invokevirtual 81, 3)) := dc_182 0 81 (lxX8_travelled 0 8 rfl) (lxX8_travelled 0 9 rfl) (lxX8_travelled 0 10 rfl)
set_option maxRecDepth 20000 in
theorem dX8_travelled_11 : @Eq _ (decode cX8_travelled 11) (.ok (.ifCond .eq 8, 3)) := dc_153 0 8 (lxX8_travelled 0 11 rfl) (lxX8_travelled 0 12 rfl) (lxX8_travelled 0 13 rfl)
set_option maxRecDepth 20000 in
theorem dX8_travelled_14 : @Eq _ (decode cX8_travelled 14) (.ok (.ldc 109, 2)) := dc_18 109 (lxX8_travelled 0 14 rfl) (lxX8_travelled 0 15 rfl)
set_option maxRecDepth 20000 in
theorem dX8_travelled_16 : @Eq _ (decode cX8_travelled 16) (.ok (.goto 26, 3)) := dc_167 0 26 (lxX8_travelled 1 0 rfl) (lxX8_travelled 1 1 rfl) (lxX8_travelled 1 2 rfl)
set_option maxRecDepth 20000 in
theorem dX8_travelled_19 : @Eq _ (decode cX8_travelled 19) (.ok (.aload_n 0, 1)) := dc_42 (lxX8_travelled 1 3 rfl)
set_option maxRecDepth 20000 in
theorem dX8_travelled_20 : @Eq _ (decode cX8_travelled 20) (.ok (.getfield 24, 3)) := dc_180 0 24 (lxX8_travelled 1 4 rfl) (lxX8_travelled 1 5 rfl) (lxX8_travelled 1 6 rfl)
set_option maxRecDepth 20000 in
theorem dX8_travelled_23 : @Eq _ (decode cX8_travelled 23) (.ok (.iconst 0, 1)) := dc_3 (lxX8_travelled 1 7 rfl)
set_option maxRecDepth 20000 in
theorem dX8_travelled_24 : @Eq _ (decode cX8_travelled 24) (.ok (.iload_n 1, 1)) := dc_27 (lxX8_travelled 1 8 rfl)
set_option maxRecDepth 20000 in
theorem dX8_travelled_25 : @Eq _ (decode cX8_travelled 25) (.ok (.ifCond .ne 10, 3)) := dc_154 0 10 (lxX8_travelled 1 9 rfl) (lxX8_travelled 1 10 rfl) (lxX8_travelled 1 11 rfl)
set_option maxRecDepth 20000 in
theorem dX8_travelled_28 : @Eq _ (decode cX8_travelled 28) (.ok (.aload_n 0, 1)) := dc_42 (lxX8_travelled 1 12 rfl)
set_option maxRecDepth 20000 in
theorem dX8_travelled_29 : @Eq _ (decode cX8_travelled 29) (.ok (.getfield 129, 3)) := dc_180 0 129 (lxX8_travelled 1 13 rfl) (lxX8_travelled 1 14 rfl) (lxX8_travelled 1 15 rfl)
set_option maxRecDepth 20000 in
theorem dX8_travelled_32 : @Eq _ (decode cX8_travelled 32) (.ok (.goto 7, 3)) := dc_167 0 7 (lxX8_travelled 2 0 rfl) (lxX8_travelled 2 1 rfl) (lxX8_travelled 2 2 rfl)
set_option maxRecDepth 20000 in
theorem dX8_travelled_35 : @Eq _ (decode cX8_travelled 35) (.ok (.aload_n 0, 1)) := dc_42 (lxX8_travelled 2 3 rfl)
set_option maxRecDepth 20000 in
theorem dX8_travelled_36 : @Eq _ (decode cX8_travelled 36) (.ok (.getfield 132, 3)) := dc_180 0 132 (lxX8_travelled 2 4 rfl) (lxX8_travelled 2 5 rfl) (lxX8_travelled 2 6 rfl)
set_option maxRecDepth 20000 in
theorem dX8_travelled_39 : @Eq _ (decode cX8_travelled 39) (.ok (.invokestatic 111, 3)) := dc_184 0 111 (lxX8_travelled 2 7 rfl) (lxX8_travelled 2 8 rfl) (lxX8_travelled 2 9 rfl)
set_option maxRecDepth 20000 in
theorem dX8_travelled_42 : @Eq _ (decode cX8_travelled 42) (.ok (.areturn, 1)) := dc_176 (lxX8_travelled 2 10 rfl)
def lb_sgX8_house : List (List UInt8) := [[42, 27, 3, 6, 184, 0, 41, 3, 182, 0, 81, 153, 0, 7, 3, 167], [0, 9, 42, 180, 0, 31, 27, 46, 172]]
set_option maxRecDepth 100000 in
theorem lb_seX8_house : cX8_house.data.toList = lb_sgX8_house.flatten := by decide +kernel
theorem lb_lnX8_house : ∀ s ∈ lb_sgX8_house.dropLast, s.length = 16 := by decide +kernel
theorem lxX8_house (k j : Nat) {b : UInt8} (h : (lb_sgX8_house[k]?).bind (fun s => s[j]?) = some b) : lb_at cX8_house (16 * k + j) b := by
  unfold lb_at
  rw [lb_seX8_house]
  exact lb_flat 16 lb_sgX8_house k j b lb_lnX8_house h
set_option maxRecDepth 20000 in
theorem dX8_house_0 : @Eq _ (decode cX8_house 0) (.ok (.aload_n 0, 1)) := dc_42 (lxX8_house 0 0 rfl)
set_option maxRecDepth 20000 in
theorem dX8_house_1 : @Eq _ (decode cX8_house 1) (.ok (.iload_n 1, 1)) := dc_27 (lxX8_house 0 1 rfl)
set_option maxRecDepth 20000 in
theorem dX8_house_2 : @Eq _ (decode cX8_house 2) (.ok (.iconst 0, 1)) := dc_3 (lxX8_house 0 2 rfl)
set_option maxRecDepth 20000 in
theorem dX8_house_3 : @Eq _ (decode cX8_house 3) (.ok (.iconst 3, 1)) := dc_6 (lxX8_house 0 3 rfl)
set_option maxRecDepth 20000 in
theorem dX8_house_4 : @Eq _ (decode cX8_house 4) (.ok (.invokestatic 41, 3)) := dc_184 0 41 (lxX8_house 0 4 rfl) (lxX8_house 0 5 rfl) (lxX8_house 0 6 rfl)
set_option maxRecDepth 20000 in
theorem dX8_house_7 : @Eq _ (decode cX8_house 7) (.ok (.iconst 0, 1)) := dc_3 (lxX8_house 0 7 rfl)
set_option maxRecDepth 20000 in
theorem dX8_house_8 : @Eq _ (decode cX8_house 8) (.ok (.invokevirtual 81, 3)) := dc_182 0 81 (lxX8_house 0 8 rfl) (lxX8_house 0 9 rfl) (lxX8_house 0 10 rfl)
set_option maxRecDepth 20000 in
theorem dX8_house_11 : @Eq _ (decode cX8_house 11) (.ok (.ifCond .eq 7, 3)) := dc_153 0 7 (lxX8_house 0 11 rfl) (lxX8_house 0 12 rfl) (lxX8_house 0 13 rfl)
set_option maxRecDepth 20000 in
theorem dX8_house_14 : @Eq _ (decode cX8_house 14) (.ok (.iconst 0, 1)) := dc_3 (lxX8_house 0 14 rfl)
set_option maxRecDepth 20000 in
theorem dX8_house_15 : @Eq _ (decode cX8_house 15) (.ok (.goto 9, 3)) := dc_167 0 9 (lxX8_house 0 15 rfl) (lxX8_house 1 0 rfl) (lxX8_house 1 1 rfl)
set_option maxRecDepth 20000 in
theorem dX8_house_18 : @Eq _ (decode cX8_house 18) (.ok (.aload_n 0, 1)) := dc_42 (lxX8_house 1 2 rfl)
set_option maxRecDepth 20000 in
theorem dX8_house_19 : @Eq _ (decode cX8_house 19) (.ok (.getfield 31, 3)) := dc_180 0 31 (lxX8_house 1 3 rfl) (lxX8_house 1 4 rfl) (lxX8_house 1 5 rfl)
set_option maxRecDepth 20000 in
theorem dX8_house_22 : @Eq _ (decode cX8_house 22) (.ok (.iload_n 1, 1)) := dc_27 (lxX8_house 1 6 rfl)
set_option maxRecDepth 20000 in
theorem dX8_house_23 : @Eq _ (decode cX8_house 23) (.ok (.iaload, 1)) := dc_46 (lxX8_house 1 7 rfl)
set_option maxRecDepth 20000 in
theorem dX8_house_24 : @Eq _ (decode cX8_house 24) (.ok (.ireturn, 1)) := dc_172 (lxX8_house 1 8 rfl)
def lb_sgX8_knock : List (List UInt8) := [[42, 3, 3, 182, 0, 81, 87, 42, 180, 0, 31, 5, 92, 46, 4, 96], [91, 79, 172]]
set_option maxRecDepth 100000 in
theorem lb_seX8_knock : cX8_knock.data.toList = lb_sgX8_knock.flatten := by decide +kernel
theorem lb_lnX8_knock : ∀ s ∈ lb_sgX8_knock.dropLast, s.length = 16 := by decide +kernel
theorem lxX8_knock (k j : Nat) {b : UInt8} (h : (lb_sgX8_knock[k]?).bind (fun s => s[j]?) = some b) : lb_at cX8_knock (16 * k + j) b := by
  unfold lb_at
  rw [lb_seX8_knock]
  exact lb_flat 16 lb_sgX8_knock k j b lb_lnX8_knock h
set_option maxRecDepth 20000 in
theorem dX8_knock_0 : @Eq _ (decode cX8_knock 0) (.ok (.aload_n 0, 1)) := dc_42 (lxX8_knock 0 0 rfl)
set_option maxRecDepth 20000 in
theorem dX8_knock_1 : @Eq _ (decode cX8_knock 1) (.ok (.iconst 0, 1)) := dc_3 (lxX8_knock 0 1 rfl)
set_option maxRecDepth 20000 in
theorem dX8_knock_2 : @Eq _ (decode cX8_knock 2) (.ok (.iconst 0, 1)) := dc_3 (lxX8_knock 0 2 rfl)
set_option maxRecDepth 20000 in
theorem dX8_knock_3 : @Eq _ (decode cX8_knock 3) (.ok (.invokevirtual 81, 3)) := dc_182 0 81 (lxX8_knock 0 3 rfl) (lxX8_knock 0 4 rfl) (lxX8_knock 0 5 rfl)
set_option maxRecDepth 20000 in
theorem dX8_knock_6 : @Eq _ (decode cX8_knock 6) (.ok (.pop, 1)) := dc_87 (lxX8_knock 0 6 rfl)
set_option maxRecDepth 20000 in
theorem dX8_knock_7 : @Eq _ (decode cX8_knock 7) (.ok (.aload_n 0, 1)) := dc_42 (lxX8_knock 0 7 rfl)
set_option maxRecDepth 20000 in
theorem dX8_knock_8 : @Eq _ (decode cX8_knock 8) (.ok (.getfield 31, 3)) := dc_180 0 31 (lxX8_knock 0 8 rfl) (lxX8_knock 0 9 rfl) (lxX8_knock 0 10 rfl)
set_option maxRecDepth 20000 in
theorem dX8_knock_11 : @Eq _ (decode cX8_knock 11) (.ok (.iconst 2, 1)) := dc_5 (lxX8_knock 0 11 rfl)
set_option maxRecDepth 20000 in
theorem dX8_knock_12 : @Eq _ (decode cX8_knock 12) (.ok (.dup2, 1)) := dc_92 (lxX8_knock 0 12 rfl)
set_option maxRecDepth 20000 in
theorem dX8_knock_13 : @Eq _ (decode cX8_knock 13) (.ok (.iaload, 1)) := dc_46 (lxX8_knock 0 13 rfl)
set_option maxRecDepth 20000 in
theorem dX8_knock_14 : @Eq _ (decode cX8_knock 14) (.ok (.iconst 1, 1)) := dc_4 (lxX8_knock 0 14 rfl)
set_option maxRecDepth 20000 in
theorem dX8_knock_15 : @Eq _ (decode cX8_knock 15) (.ok (.iadd, 1)) := dc_96 (lxX8_knock 0 15 rfl)
set_option maxRecDepth 20000 in
theorem dX8_knock_16 : @Eq _ (decode cX8_knock 16) (.ok (.dup_x2, 1)) := dc_91 (lxX8_knock 1 0 rfl)
set_option maxRecDepth 20000 in
theorem dX8_knock_17 : @Eq _ (decode cX8_knock 17) (.ok (.iastore, 1)) := dc_79 (lxX8_knock 1 1 rfl)
set_option maxRecDepth 20000 in
theorem dX8_knock_18 : @Eq _ (decode cX8_knock 18) (.ok (.ireturn, 1)) := dc_172 (lxX8_knock 1 2 rfl)
def lb_sgX8_isRight : List (List UInt8) := [[42, 180, 0, 132, 42, 180, 0, 129, 163, 0, 43, 42, 180, 0, 129, 42], [180, 0, 132, 100, 42, 180, 0, 27, 163, 0, 27, 42, 180, 0, 129, 17], [0, 160, 163, 0, 17, 42, 180, 0, 18, 190, 16, 80, 163, 0, 7, 4], [167, 0, 4, 3, 60, 42, 180, 0, 14, 77, 44, 190, 62, 3, 54, 4], [21, 4, 29, 162, 0, 133, 44, 21, 4, 50, 58, 5, 27, 25, 5, 7], [46, 25, 5, 6, 46, 163, 0, 52, 25, 5, 6, 46, 155, 0, 45, 25], [5, 6, 46, 25, 5, 5, 46, 163, 0, 34, 25, 5, 5, 46, 25, 5], [4, 46, 163, 0, 23, 25, 5, 3, 46, 25, 5, 4, 46, 96, 42, 180], [0, 45, 163, 0, 7, 4, 167, 0, 4, 3, 126, 60, 27, 42, 25, 5], [182, 0, 58, 42, 180, 0, 21, 3, 184, 0, 142, 156, 0, 7, 4, 167], [0, 4, 3, 42, 25, 5, 182, 0, 58, 42, 180, 0, 21, 184, 0, 149], [156, 0, 7, 4, 167, 0, 4, 3, 160, 0, 7, 4, 167, 0, 4, 3], [126, 60, 132, 4, 1, 167, 255, 123, 27, 172]]
set_option maxRecDepth 100000 in
theorem lb_seX8_isRight : cX8_isRight.data.toList = lb_sgX8_isRight.flatten := by decide +kernel
theorem lb_lnX8_isRight : ∀ s ∈ lb_sgX8_isRight.dropLast, s.length = 16 := by decide +kernel
theorem lxX8_isRight (k j : Nat) {b : UInt8} (h : (lb_sgX8_isRight[k]?).bind (fun s => s[j]?) = some b) : lb_at cX8_isRight (16 * k + j) b := by
  unfold lb_at
  rw [lb_seX8_isRight]
  exact lb_flat 16 lb_sgX8_isRight k j b lb_lnX8_isRight h
set_option maxRecDepth 20000 in
theorem dX8_isRight_0 : @Eq _ (decode cX8_isRight 0) (.ok (.aload_n 0, 1)) := dc_42 (lxX8_isRight 0 0 rfl)
set_option maxRecDepth 20000 in
theorem dX8_isRight_1 : @Eq _ (decode cX8_isRight 1) (.ok (.getfield 132, 3)) := dc_180 0 132 (lxX8_isRight 0 1 rfl) (lxX8_isRight 0 2 rfl) (lxX8_isRight 0 3 rfl)
set_option maxRecDepth 20000 in
theorem dX8_isRight_4 : @Eq _ (decode cX8_isRight 4) (.ok (.aload_n 0, 1)) := dc_42 (lxX8_isRight 0 4 rfl)
set_option maxRecDepth 20000 in
theorem dX8_isRight_5 : @Eq _ (decode cX8_isRight 5) (.ok (.getfield 129, 3)) := dc_180 0 129 (lxX8_isRight 0 5 rfl) (lxX8_isRight 0 6 rfl) (lxX8_isRight 0 7 rfl)
set_option maxRecDepth 20000 in
theorem dX8_isRight_8 : @Eq _ (decode cX8_isRight 8) (.ok (.if_icmp .gt 43, 3)) := dc_163 0 43 (lxX8_isRight 0 8 rfl) (lxX8_isRight 0 9 rfl) (lxX8_isRight 0 10 rfl)
set_option maxRecDepth 20000 in
theorem dX8_isRight_11 : @Eq _ (decode cX8_isRight 11) (.ok (.aload_n 0, 1)) := dc_42 (lxX8_isRight 0 11 rfl)
set_option maxRecDepth 20000 in
theorem dX8_isRight_12 : @Eq _ (decode cX8_isRight 12) (.ok (.getfield 129, 3)) := dc_180 0 129 (lxX8_isRight 0 12 rfl) (lxX8_isRight 0 13 rfl) (lxX8_isRight 0 14 rfl)
set_option maxRecDepth 20000 in
theorem dX8_isRight_15 : @Eq _ (decode cX8_isRight 15) (.ok (.aload_n 0, 1)) := dc_42 (lxX8_isRight 0 15 rfl)
set_option maxRecDepth 20000 in
theorem dX8_isRight_16 : @Eq _ (decode cX8_isRight 16) (.ok (.getfield 132, 3)) := dc_180 0 132 (lxX8_isRight 1 0 rfl) (lxX8_isRight 1 1 rfl) (lxX8_isRight 1 2 rfl)
set_option maxRecDepth 20000 in
theorem dX8_isRight_19 : @Eq _ (decode cX8_isRight 19) (.ok (.isub, 1)) := dc_100 (lxX8_isRight 1 3 rfl)
set_option maxRecDepth 20000 in
theorem dX8_isRight_20 : @Eq _ (decode cX8_isRight 20) (.ok (.aload_n 0, 1)) := dc_42 (lxX8_isRight 1 4 rfl)
set_option maxRecDepth 20000 in
theorem dX8_isRight_21 : @Eq _ (decode cX8_isRight 21) (.ok (.getfield 27, 3)) := dc_180 0 27 (lxX8_isRight 1 5 rfl) (lxX8_isRight 1 6 rfl) (lxX8_isRight 1 7 rfl)
set_option maxRecDepth 20000 in
theorem dX8_isRight_24 : @Eq _ (decode cX8_isRight 24) (.ok (.if_icmp .gt 27, 3)) := dc_163 0 27 (lxX8_isRight 1 8 rfl) (lxX8_isRight 1 9 rfl) (lxX8_isRight 1 10 rfl)
set_option maxRecDepth 20000 in
theorem dX8_isRight_27 : @Eq _ (decode cX8_isRight 27) (.ok (.aload_n 0, 1)) := dc_42 (lxX8_isRight 1 11 rfl)
set_option maxRecDepth 20000 in
theorem dX8_isRight_28 : @Eq _ (decode cX8_isRight 28) (.ok (.getfield 129, 3)) := dc_180 0 129 (lxX8_isRight 1 12 rfl) (lxX8_isRight 1 13 rfl) (lxX8_isRight 1 14 rfl)
set_option maxRecDepth 20000 in
theorem dX8_isRight_31 : @Eq _ (decode cX8_isRight 31) (.ok (.sipush 160, 3)) := dc_17 0 160 (lxX8_isRight 1 15 rfl) (lxX8_isRight 2 0 rfl) (lxX8_isRight 2 1 rfl)
set_option maxRecDepth 20000 in
theorem dX8_isRight_34 : @Eq _ (decode cX8_isRight 34) (.ok (.if_icmp .gt 17, 3)) := dc_163 0 17 (lxX8_isRight 2 2 rfl) (lxX8_isRight 2 3 rfl) (lxX8_isRight 2 4 rfl)
set_option maxRecDepth 20000 in
theorem dX8_isRight_37 : @Eq _ (decode cX8_isRight 37) (.ok (.aload_n 0, 1)) := dc_42 (lxX8_isRight 2 5 rfl)
set_option maxRecDepth 20000 in
theorem dX8_isRight_38 : @Eq _ (decode cX8_isRight 38) (.ok (.getfield 18, 3)) := dc_180 0 18 (lxX8_isRight 2 6 rfl) (lxX8_isRight 2 7 rfl) (lxX8_isRight 2 8 rfl)
set_option maxRecDepth 20000 in
theorem dX8_isRight_41 : @Eq _ (decode cX8_isRight 41) (.ok (.arraylength, 1)) := dc_190 (lxX8_isRight 2 9 rfl)
set_option maxRecDepth 20000 in
theorem dX8_isRight_42 : @Eq _ (decode cX8_isRight 42) (.ok (.bipush 80, 2)) := dc_16 80 (lxX8_isRight 2 10 rfl) (lxX8_isRight 2 11 rfl)
set_option maxRecDepth 20000 in
theorem dX8_isRight_44 : @Eq _ (decode cX8_isRight 44) (.ok (.if_icmp .gt 7, 3)) := dc_163 0 7 (lxX8_isRight 2 12 rfl) (lxX8_isRight 2 13 rfl) (lxX8_isRight 2 14 rfl)
set_option maxRecDepth 20000 in
theorem dX8_isRight_47 : @Eq _ (decode cX8_isRight 47) (.ok (.iconst 1, 1)) := dc_4 (lxX8_isRight 2 15 rfl)
set_option maxRecDepth 20000 in
theorem dX8_isRight_48 : @Eq _ (decode cX8_isRight 48) (.ok (.goto 4, 3)) := dc_167 0 4 (lxX8_isRight 3 0 rfl) (lxX8_isRight 3 1 rfl) (lxX8_isRight 3 2 rfl)
set_option maxRecDepth 20000 in
theorem dX8_isRight_51 : @Eq _ (decode cX8_isRight 51) (.ok (.iconst 0, 1)) := dc_3 (lxX8_isRight 3 3 rfl)
set_option maxRecDepth 20000 in
theorem dX8_isRight_52 : @Eq _ (decode cX8_isRight 52) (.ok (.istore_n 1, 1)) := dc_60 (lxX8_isRight 3 4 rfl)
set_option maxRecDepth 20000 in
theorem dX8_isRight_53 : @Eq _ (decode cX8_isRight 53) (.ok (.aload_n 0, 1)) := dc_42 (lxX8_isRight 3 5 rfl)
set_option maxRecDepth 20000 in
theorem dX8_isRight_54 : @Eq _ (decode cX8_isRight 54) (.ok (.getfield 14, 3)) := dc_180 0 14 (lxX8_isRight 3 6 rfl) (lxX8_isRight 3 7 rfl) (lxX8_isRight 3 8 rfl)
set_option maxRecDepth 20000 in
theorem dX8_isRight_57 : @Eq _ (decode cX8_isRight 57) (.ok (.astore_n 2, 1)) := dc_77 (lxX8_isRight 3 9 rfl)
set_option maxRecDepth 20000 in
theorem dX8_isRight_58 : @Eq _ (decode cX8_isRight 58) (.ok (.aload_n 2, 1)) := dc_44 (lxX8_isRight 3 10 rfl)
set_option maxRecDepth 20000 in
theorem dX8_isRight_59 : @Eq _ (decode cX8_isRight 59) (.ok (.arraylength, 1)) := dc_190 (lxX8_isRight 3 11 rfl)
set_option maxRecDepth 20000 in
theorem dX8_isRight_60 : @Eq _ (decode cX8_isRight 60) (.ok (.istore_n 3, 1)) := dc_62 (lxX8_isRight 3 12 rfl)
set_option maxRecDepth 20000 in
theorem dX8_isRight_61 : @Eq _ (decode cX8_isRight 61) (.ok (.iconst 0, 1)) := dc_3 (lxX8_isRight 3 13 rfl)
set_option maxRecDepth 20000 in
theorem dX8_isRight_62 : @Eq _ (decode cX8_isRight 62) (.ok (.istore 4, 2)) := dc_54 4 (lxX8_isRight 3 14 rfl) (lxX8_isRight 3 15 rfl)
set_option maxRecDepth 20000 in
theorem dX8_isRight_64 : @Eq _ (decode cX8_isRight 64) (.ok (.iload 4, 2)) := dc_21 4 (lxX8_isRight 4 0 rfl) (lxX8_isRight 4 1 rfl)
set_option maxRecDepth 20000 in
theorem dX8_isRight_66 : @Eq _ (decode cX8_isRight 66) (.ok (.iload_n 3, 1)) := dc_29 (lxX8_isRight 4 2 rfl)
set_option maxRecDepth 20000 in
theorem dX8_isRight_67 : @Eq _ (decode cX8_isRight 67) (.ok (.if_icmp .ge 133, 3)) := dc_162 0 133 (lxX8_isRight 4 3 rfl) (lxX8_isRight 4 4 rfl) (lxX8_isRight 4 5 rfl)
set_option maxRecDepth 20000 in
theorem dX8_isRight_70 : @Eq _ (decode cX8_isRight 70) (.ok (.aload_n 2, 1)) := dc_44 (lxX8_isRight 4 6 rfl)
set_option maxRecDepth 20000 in
theorem dX8_isRight_71 : @Eq _ (decode cX8_isRight 71) (.ok (.iload 4, 2)) := dc_21 4 (lxX8_isRight 4 7 rfl) (lxX8_isRight 4 8 rfl)
set_option maxRecDepth 20000 in
theorem dX8_isRight_73 : @Eq _ (decode cX8_isRight 73) (.ok (.aaload, 1)) := dc_50 (lxX8_isRight 4 9 rfl)
set_option maxRecDepth 20000 in
theorem dX8_isRight_74 : @Eq _ (decode cX8_isRight 74) (.ok (.astore 5, 2)) := dc_58 5 (lxX8_isRight 4 10 rfl) (lxX8_isRight 4 11 rfl)
set_option maxRecDepth 20000 in
theorem dX8_isRight_76 : @Eq _ (decode cX8_isRight 76) (.ok (.iload_n 1, 1)) := dc_27 (lxX8_isRight 4 12 rfl)
set_option maxRecDepth 20000 in
theorem dX8_isRight_77 : @Eq _ (decode cX8_isRight 77) (.ok (.aload 5, 2)) := dc_25 5 (lxX8_isRight 4 13 rfl) (lxX8_isRight 4 14 rfl)
set_option maxRecDepth 20000 in
theorem dX8_isRight_79 : @Eq _ (decode cX8_isRight 79) (.ok (.iconst 4, 1)) := dc_7 (lxX8_isRight 4 15 rfl)
set_option maxRecDepth 20000 in
theorem dX8_isRight_80 : @Eq _ (decode cX8_isRight 80) (.ok (.iaload, 1)) := dc_46 (lxX8_isRight 5 0 rfl)
set_option maxRecDepth 20000 in
theorem dX8_isRight_81 : @Eq _ (decode cX8_isRight 81) (.ok (.aload 5, 2)) := dc_25 5 (lxX8_isRight 5 1 rfl) (lxX8_isRight 5 2 rfl)
set_option maxRecDepth 20000 in
theorem dX8_isRight_83 : @Eq _ (decode cX8_isRight 83) (.ok (.iconst 3, 1)) := dc_6 (lxX8_isRight 5 3 rfl)
set_option maxRecDepth 20000 in
theorem dX8_isRight_84 : @Eq _ (decode cX8_isRight 84) (.ok (.iaload, 1)) := dc_46 (lxX8_isRight 5 4 rfl)
set_option maxRecDepth 20000 in
theorem dX8_isRight_85 : @Eq _ (decode cX8_isRight 85) (.ok (.if_icmp .gt 52, 3)) := dc_163 0 52 (lxX8_isRight 5 5 rfl) (lxX8_isRight 5 6 rfl) (lxX8_isRight 5 7 rfl)
set_option maxRecDepth 20000 in
theorem dX8_isRight_88 : @Eq _ (decode cX8_isRight 88) (.ok (.aload 5, 2)) := dc_25 5 (lxX8_isRight 5 8 rfl) (lxX8_isRight 5 9 rfl)
set_option maxRecDepth 20000 in
theorem dX8_isRight_90 : @Eq _ (decode cX8_isRight 90) (.ok (.iconst 3, 1)) := dc_6 (lxX8_isRight 5 10 rfl)
set_option maxRecDepth 20000 in
theorem dX8_isRight_91 : @Eq _ (decode cX8_isRight 91) (.ok (.iaload, 1)) := dc_46 (lxX8_isRight 5 11 rfl)
set_option maxRecDepth 20000 in
theorem dX8_isRight_92 : @Eq _ (decode cX8_isRight 92) (.ok (.ifCond .lt 45, 3)) := dc_155 0 45 (lxX8_isRight 5 12 rfl) (lxX8_isRight 5 13 rfl) (lxX8_isRight 5 14 rfl)
set_option maxRecDepth 20000 in
theorem dX8_isRight_95 : @Eq _ (decode cX8_isRight 95) (.ok (.aload 5, 2)) := dc_25 5 (lxX8_isRight 5 15 rfl) (lxX8_isRight 6 0 rfl)
set_option maxRecDepth 20000 in
theorem dX8_isRight_97 : @Eq _ (decode cX8_isRight 97) (.ok (.iconst 3, 1)) := dc_6 (lxX8_isRight 6 1 rfl)
set_option maxRecDepth 20000 in
theorem dX8_isRight_98 : @Eq _ (decode cX8_isRight 98) (.ok (.iaload, 1)) := dc_46 (lxX8_isRight 6 2 rfl)
set_option maxRecDepth 20000 in
theorem dX8_isRight_99 : @Eq _ (decode cX8_isRight 99) (.ok (.aload 5, 2)) := dc_25 5 (lxX8_isRight 6 3 rfl) (lxX8_isRight 6 4 rfl)
set_option maxRecDepth 20000 in
theorem dX8_isRight_101 : @Eq _ (decode cX8_isRight 101) (.ok (.iconst 2, 1)) := dc_5 (lxX8_isRight 6 5 rfl)
set_option maxRecDepth 20000 in
theorem dX8_isRight_102 : @Eq _ (decode cX8_isRight 102) (.ok (.iaload, 1)) := dc_46 (lxX8_isRight 6 6 rfl)
set_option maxRecDepth 20000 in
theorem dX8_isRight_103 : @Eq _ (decode cX8_isRight 103) (.ok (.if_icmp .gt 34, 3)) := dc_163 0 34 (lxX8_isRight 6 7 rfl) (lxX8_isRight 6 8 rfl) (lxX8_isRight 6 9 rfl)
set_option maxRecDepth 20000 in
theorem dX8_isRight_106 : @Eq _ (decode cX8_isRight 106) (.ok (.aload 5, 2)) := dc_25 5 (lxX8_isRight 6 10 rfl) (lxX8_isRight 6 11 rfl)
set_option maxRecDepth 20000 in
theorem dX8_isRight_108 : @Eq _ (decode cX8_isRight 108) (.ok (.iconst 2, 1)) := dc_5 (lxX8_isRight 6 12 rfl)
set_option maxRecDepth 20000 in
theorem dX8_isRight_109 : @Eq _ (decode cX8_isRight 109) (.ok (.iaload, 1)) := dc_46 (lxX8_isRight 6 13 rfl)
set_option maxRecDepth 20000 in
theorem dX8_isRight_110 : @Eq _ (decode cX8_isRight 110) (.ok (.aload 5, 2)) := dc_25 5 (lxX8_isRight 6 14 rfl) (lxX8_isRight 6 15 rfl)
set_option maxRecDepth 20000 in
theorem dX8_isRight_112 : @Eq _ (decode cX8_isRight 112) (.ok (.iconst 1, 1)) := dc_4 (lxX8_isRight 7 0 rfl)
set_option maxRecDepth 20000 in
theorem dX8_isRight_113 : @Eq _ (decode cX8_isRight 113) (.ok (.iaload, 1)) := dc_46 (lxX8_isRight 7 1 rfl)
set_option maxRecDepth 20000 in
theorem dX8_isRight_114 : @Eq _ (decode cX8_isRight 114) (.ok (.if_icmp .gt 23, 3)) := dc_163 0 23 (lxX8_isRight 7 2 rfl) (lxX8_isRight 7 3 rfl) (lxX8_isRight 7 4 rfl)
set_option maxRecDepth 20000 in
theorem dX8_isRight_117 : @Eq _ (decode cX8_isRight 117) (.ok (.aload 5, 2)) := dc_25 5 (lxX8_isRight 7 5 rfl) (lxX8_isRight 7 6 rfl)
set_option maxRecDepth 20000 in
theorem dX8_isRight_119 : @Eq _ (decode cX8_isRight 119) (.ok (.iconst 0, 1)) := dc_3 (lxX8_isRight 7 7 rfl)
set_option maxRecDepth 20000 in
theorem dX8_isRight_120 : @Eq _ (decode cX8_isRight 120) (.ok (.iaload, 1)) := dc_46 (lxX8_isRight 7 8 rfl)
set_option maxRecDepth 20000 in
theorem dX8_isRight_121 : @Eq _ (decode cX8_isRight 121) (.ok (.aload 5, 2)) := dc_25 5 (lxX8_isRight 7 9 rfl) (lxX8_isRight 7 10 rfl)
set_option maxRecDepth 20000 in
theorem dX8_isRight_123 : @Eq _ (decode cX8_isRight 123) (.ok (.iconst 1, 1)) := dc_4 (lxX8_isRight 7 11 rfl)
set_option maxRecDepth 20000 in
theorem dX8_isRight_124 : @Eq _ (decode cX8_isRight 124) (.ok (.iaload, 1)) := dc_46 (lxX8_isRight 7 12 rfl)
set_option maxRecDepth 20000 in
theorem dX8_isRight_125 : @Eq _ (decode cX8_isRight 125) (.ok (.iadd, 1)) := dc_96 (lxX8_isRight 7 13 rfl)
set_option maxRecDepth 20000 in
theorem dX8_isRight_126 : @Eq _ (decode cX8_isRight 126) (.ok (.aload_n 0, 1)) := dc_42 (lxX8_isRight 7 14 rfl)
set_option maxRecDepth 20000 in
theorem dX8_isRight_127 : @Eq _ (decode cX8_isRight 127) (.ok (.getfield 45, 3)) := dc_180 0 45 (lxX8_isRight 7 15 rfl) (lxX8_isRight 8 0 rfl) (lxX8_isRight 8 1 rfl)
set_option maxRecDepth 20000 in
theorem dX8_isRight_130 : @Eq _ (decode cX8_isRight 130) (.ok (.if_icmp .gt 7, 3)) := dc_163 0 7 (lxX8_isRight 8 2 rfl) (lxX8_isRight 8 3 rfl) (lxX8_isRight 8 4 rfl)
set_option maxRecDepth 20000 in
theorem dX8_isRight_133 : @Eq _ (decode cX8_isRight 133) (.ok (.iconst 1, 1)) := dc_4 (lxX8_isRight 8 5 rfl)
set_option maxRecDepth 20000 in
theorem dX8_isRight_134 : @Eq _ (decode cX8_isRight 134) (.ok (.goto 4, 3)) := dc_167 0 4 (lxX8_isRight 8 6 rfl) (lxX8_isRight 8 7 rfl) (lxX8_isRight 8 8 rfl)
set_option maxRecDepth 20000 in
theorem dX8_isRight_137 : @Eq _ (decode cX8_isRight 137) (.ok (.iconst 0, 1)) := dc_3 (lxX8_isRight 8 9 rfl)
set_option maxRecDepth 20000 in
theorem dX8_isRight_138 : @Eq _ (decode cX8_isRight 138) (.ok (.iand, 1)) := dc_126 (lxX8_isRight 8 10 rfl)
set_option maxRecDepth 20000 in
theorem dX8_isRight_139 : @Eq _ (decode cX8_isRight 139) (.ok (.istore_n 1, 1)) := dc_60 (lxX8_isRight 8 11 rfl)
set_option maxRecDepth 20000 in
theorem dX8_isRight_140 : @Eq _ (decode cX8_isRight 140) (.ok (.iload_n 1, 1)) := dc_27 (lxX8_isRight 8 12 rfl)
set_option maxRecDepth 20000 in
theorem dX8_isRight_141 : @Eq _ (decode cX8_isRight 141) (.ok (.aload_n 0, 1)) := dc_42 (lxX8_isRight 8 13 rfl)
set_option maxRecDepth 20000 in
theorem dX8_isRight_142 : @Eq _ (decode cX8_isRight 142) (.ok (.aload 5, 2)) := dc_25 5 (lxX8_isRight 8 14 rfl) (lxX8_isRight 8 15 rfl)
set_option maxRecDepth 20000 in
theorem dX8_isRight_144 : @Eq _ (decode cX8_isRight 144) (.ok (.invokevirtual 58, 3)) := dc_182 0 58 (lxX8_isRight 9 0 rfl) (lxX8_isRight 9 1 rfl) (lxX8_isRight 9 2 rfl)
set_option maxRecDepth 20000 in
theorem dX8_isRight_147 : @Eq _ (decode cX8_isRight 147) (.ok (.aload_n 0, 1)) := dc_42 (lxX8_isRight 9 3 rfl)
set_option maxRecDepth 20000 in
theorem dX8_isRight_148 : @Eq _ (decode cX8_isRight 148) (.ok (.getfield 21, 3)) := dc_180 0 21 (lxX8_isRight 9 4 rfl) (lxX8_isRight 9 5 rfl) (lxX8_isRight 9 6 rfl)
set_option maxRecDepth 20000 in
theorem dX8_isRight_151 : @Eq _ (decode cX8_isRight 151) (.ok (.iconst 0, 1)) := dc_3 (lxX8_isRight 9 7 rfl)
set_option maxRecDepth 20000 in
theorem dX8_isRight_152 : @Eq _ (decode cX8_isRight 152) (.ok (.invokestatic 142, 3)) := dc_184 0 142 (lxX8_isRight 9 8 rfl) (lxX8_isRight 9 9 rfl) (lxX8_isRight 9 10 rfl)
set_option maxRecDepth 20000 in
theorem dX8_isRight_155 : @Eq _ (decode cX8_isRight 155) (.ok (.ifCond .ge 7, 3)) := dc_156 0 7 (lxX8_isRight 9 11 rfl) (lxX8_isRight 9 12 rfl) (lxX8_isRight 9 13 rfl)
set_option maxRecDepth 20000 in
theorem dX8_isRight_158 : @Eq _ (decode cX8_isRight 158) (.ok (.iconst 1, 1)) := dc_4 (lxX8_isRight 9 14 rfl)
set_option maxRecDepth 20000 in
theorem dX8_isRight_159 : @Eq _ (decode cX8_isRight 159) (.ok (.goto 4, 3)) := dc_167 0 4 (lxX8_isRight 9 15 rfl) (lxX8_isRight 10 0 rfl) (lxX8_isRight 10 1 rfl)
set_option maxRecDepth 20000 in
theorem dX8_isRight_162 : @Eq _ (decode cX8_isRight 162) (.ok (.iconst 0, 1)) := dc_3 (lxX8_isRight 10 2 rfl)
set_option maxRecDepth 20000 in
theorem dX8_isRight_163 : @Eq _ (decode cX8_isRight 163) (.ok (.aload_n 0, 1)) := dc_42 (lxX8_isRight 10 3 rfl)
set_option maxRecDepth 20000 in
theorem dX8_isRight_164 : @Eq _ (decode cX8_isRight 164) (.ok (.aload 5, 2)) := dc_25 5 (lxX8_isRight 10 4 rfl) (lxX8_isRight 10 5 rfl)
set_option maxRecDepth 20000 in
theorem dX8_isRight_166 : @Eq _ (decode cX8_isRight 166) (.ok (.invokevirtual 58, 3)) := dc_182 0 58 (lxX8_isRight 10 6 rfl) (lxX8_isRight 10 7 rfl) (lxX8_isRight 10 8 rfl)
set_option maxRecDepth 20000 in
theorem dX8_isRight_169 : @Eq _ (decode cX8_isRight 169) (.ok (.aload_n 0, 1)) := dc_42 (lxX8_isRight 10 9 rfl)
set_option maxRecDepth 20000 in
theorem dX8_isRight_170 : @Eq _ (decode cX8_isRight 170) (.ok (.getfield 21, 3)) := dc_180 0 21 (lxX8_isRight 10 10 rfl) (lxX8_isRight 10 11 rfl) (lxX8_isRight 10 12 rfl)
set_option maxRecDepth 20000 in
theorem dX8_isRight_173 : @Eq _ (decode cX8_isRight 173) (.ok (.invokestatic 149, 3)) := dc_184 0 149 (lxX8_isRight 10 13 rfl) (lxX8_isRight 10 14 rfl) (lxX8_isRight 10 15 rfl)
set_option maxRecDepth 20000 in
theorem dX8_isRight_176 : @Eq _ (decode cX8_isRight 176) (.ok (.ifCond .ge 7, 3)) := dc_156 0 7 (lxX8_isRight 11 0 rfl) (lxX8_isRight 11 1 rfl) (lxX8_isRight 11 2 rfl)
set_option maxRecDepth 20000 in
theorem dX8_isRight_179 : @Eq _ (decode cX8_isRight 179) (.ok (.iconst 1, 1)) := dc_4 (lxX8_isRight 11 3 rfl)
set_option maxRecDepth 20000 in
theorem dX8_isRight_180 : @Eq _ (decode cX8_isRight 180) (.ok (.goto 4, 3)) := dc_167 0 4 (lxX8_isRight 11 4 rfl) (lxX8_isRight 11 5 rfl) (lxX8_isRight 11 6 rfl)
set_option maxRecDepth 20000 in
theorem dX8_isRight_183 : @Eq _ (decode cX8_isRight 183) (.ok (.iconst 0, 1)) := dc_3 (lxX8_isRight 11 7 rfl)
set_option maxRecDepth 20000 in
theorem dX8_isRight_184 : @Eq _ (decode cX8_isRight 184) (.ok (.if_icmp .ne 7, 3)) := dc_160 0 7 (lxX8_isRight 11 8 rfl) (lxX8_isRight 11 9 rfl) (lxX8_isRight 11 10 rfl)
set_option maxRecDepth 20000 in
theorem dX8_isRight_187 : @Eq _ (decode cX8_isRight 187) (.ok (.iconst 1, 1)) := dc_4 (lxX8_isRight 11 11 rfl)
set_option maxRecDepth 20000 in
theorem dX8_isRight_188 : @Eq _ (decode cX8_isRight 188) (.ok (.goto 4, 3)) := dc_167 0 4 (lxX8_isRight 11 12 rfl) (lxX8_isRight 11 13 rfl) (lxX8_isRight 11 14 rfl)
set_option maxRecDepth 20000 in
theorem dX8_isRight_191 : @Eq _ (decode cX8_isRight 191) (.ok (.iconst 0, 1)) := dc_3 (lxX8_isRight 11 15 rfl)
set_option maxRecDepth 20000 in
theorem dX8_isRight_192 : @Eq _ (decode cX8_isRight 192) (.ok (.iand, 1)) := dc_126 (lxX8_isRight 12 0 rfl)
set_option maxRecDepth 20000 in
theorem dX8_isRight_193 : @Eq _ (decode cX8_isRight 193) (.ok (.istore_n 1, 1)) := dc_60 (lxX8_isRight 12 1 rfl)
set_option maxRecDepth 20000 in
theorem dX8_isRight_194 : @Eq _ (decode cX8_isRight 194) (.ok (.iinc 4 1, 3)) := dc_132 4 1 (lxX8_isRight 12 2 rfl) (lxX8_isRight 12 3 rfl) (lxX8_isRight 12 4 rfl)
set_option maxRecDepth 20000 in
theorem dX8_isRight_197 : @Eq _ (decode cX8_isRight 197) (.ok (.goto (-133), 3)) := dc_167 255 123 (lxX8_isRight 12 5 rfl) (lxX8_isRight 12 6 rfl) (lxX8_isRight 12 7 rfl)
set_option maxRecDepth 20000 in
theorem dX8_isRight_200 : @Eq _ (decode cX8_isRight 200) (.ok (.iload_n 1, 1)) := dc_27 (lxX8_isRight 12 8 rfl)
set_option maxRecDepth 20000 in
theorem dX8_isRight_201 : @Eq _ (decode cX8_isRight 201) (.ok (.ireturn, 1)) := dc_172 (lxX8_isRight 12 9 rfl)
set_option maxRecDepth 20000 in
theorem dX8_isSound_0 : @Eq _ (decode cX8_isSound 0) (.ok (.aload_n 0, 1)) := dc_42 rfl
set_option maxRecDepth 20000 in
theorem dX8_isSound_1 : @Eq _ (decode cX8_isSound 1) (.ok (.iconst 0, 1)) := dc_3 rfl
set_option maxRecDepth 20000 in
theorem dX8_isSound_2 : @Eq _ (decode cX8_isSound 2) (.ok (.iconst 0, 1)) := dc_3 rfl
set_option maxRecDepth 20000 in
theorem dX8_isSound_3 : @Eq _ (decode cX8_isSound 3) (.ok (.invokevirtual 81, 3)) := dc_182 0 81 rfl rfl rfl
set_option maxRecDepth 20000 in
theorem dX8_isSound_6 : @Eq _ (decode cX8_isSound 6) (.ok (.pop, 1)) := dc_87 rfl
set_option maxRecDepth 20000 in
theorem dX8_isSound_7 : @Eq _ (decode cX8_isSound 7) (.ok (.aload_n 0, 1)) := dc_42 rfl
set_option maxRecDepth 20000 in
theorem dX8_isSound_8 : @Eq _ (decode cX8_isSound 8) (.ok (.invokevirtual 167, 3)) := dc_182 0 167 rfl rfl rfl
set_option maxRecDepth 20000 in
theorem dX8_isSound_11 : @Eq _ (decode cX8_isSound 11) (.ok (.ireturn, 1)) := dc_172 rfl
def lb_sgX8_mixed : List (List UInt8) := [[30, 66, 44, 58, 5, 25, 5, 190, 54, 6, 3, 54, 7, 21, 7, 21], [6, 162, 0, 26, 25, 5, 21, 7, 46, 54, 8, 33, 20, 0, 171, 105], [21, 8, 133, 97, 66, 132, 7, 1, 167, 255, 229, 33, 173]]
set_option maxRecDepth 100000 in
theorem lb_seX8_mixed : cX8_mixed.data.toList = lb_sgX8_mixed.flatten := by decide +kernel
theorem lb_lnX8_mixed : ∀ s ∈ lb_sgX8_mixed.dropLast, s.length = 16 := by decide +kernel
theorem lxX8_mixed (k j : Nat) {b : UInt8} (h : (lb_sgX8_mixed[k]?).bind (fun s => s[j]?) = some b) : lb_at cX8_mixed (16 * k + j) b := by
  unfold lb_at
  rw [lb_seX8_mixed]
  exact lb_flat 16 lb_sgX8_mixed k j b lb_lnX8_mixed h
set_option maxRecDepth 20000 in
theorem dX8_mixed_0 : @Eq _ (decode cX8_mixed 0) (.ok (.lload_n 0, 1)) := dc_30 (lxX8_mixed 0 0 rfl)
set_option maxRecDepth 20000 in
theorem dX8_mixed_1 : @Eq _ (decode cX8_mixed 1) (.ok (.lstore_n 3, 1)) := dc_66 (lxX8_mixed 0 1 rfl)
set_option maxRecDepth 20000 in
theorem dX8_mixed_2 : @Eq _ (decode cX8_mixed 2) (.ok (.aload_n 2, 1)) := dc_44 (lxX8_mixed 0 2 rfl)
set_option maxRecDepth 20000 in
theorem dX8_mixed_3 : @Eq _ (decode cX8_mixed 3) (.ok (.astore 5, 2)) := dc_58 5 (lxX8_mixed 0 3 rfl) (lxX8_mixed 0 4 rfl)
set_option maxRecDepth 20000 in
theorem dX8_mixed_5 : @Eq _ (decode cX8_mixed 5) (.ok (.aload 5, 2)) := dc_25 5 (lxX8_mixed 0 5 rfl) (lxX8_mixed 0 6 rfl)
set_option maxRecDepth 20000 in
theorem dX8_mixed_7 : @Eq _ (decode cX8_mixed 7) (.ok (.arraylength, 1)) := dc_190 (lxX8_mixed 0 7 rfl)
set_option maxRecDepth 20000 in
theorem dX8_mixed_8 : @Eq _ (decode cX8_mixed 8) (.ok (.istore 6, 2)) := dc_54 6 (lxX8_mixed 0 8 rfl) (lxX8_mixed 0 9 rfl)
set_option maxRecDepth 20000 in
theorem dX8_mixed_10 : @Eq _ (decode cX8_mixed 10) (.ok (.iconst 0, 1)) := dc_3 (lxX8_mixed 0 10 rfl)
set_option maxRecDepth 20000 in
theorem dX8_mixed_11 : @Eq _ (decode cX8_mixed 11) (.ok (.istore 7, 2)) := dc_54 7 (lxX8_mixed 0 11 rfl) (lxX8_mixed 0 12 rfl)
set_option maxRecDepth 20000 in
theorem dX8_mixed_13 : @Eq _ (decode cX8_mixed 13) (.ok (.iload 7, 2)) := dc_21 7 (lxX8_mixed 0 13 rfl) (lxX8_mixed 0 14 rfl)
set_option maxRecDepth 20000 in
theorem dX8_mixed_15 : @Eq _ (decode cX8_mixed 15) (.ok (.iload 6, 2)) := dc_21 6 (lxX8_mixed 0 15 rfl) (lxX8_mixed 1 0 rfl)
set_option maxRecDepth 20000 in
theorem dX8_mixed_17 : @Eq _ (decode cX8_mixed 17) (.ok (.if_icmp .ge 26, 3)) := dc_162 0 26 (lxX8_mixed 1 1 rfl) (lxX8_mixed 1 2 rfl) (lxX8_mixed 1 3 rfl)
set_option maxRecDepth 20000 in
theorem dX8_mixed_20 : @Eq _ (decode cX8_mixed 20) (.ok (.aload 5, 2)) := dc_25 5 (lxX8_mixed 1 4 rfl) (lxX8_mixed 1 5 rfl)
set_option maxRecDepth 20000 in
theorem dX8_mixed_22 : @Eq _ (decode cX8_mixed 22) (.ok (.iload 7, 2)) := dc_21 7 (lxX8_mixed 1 6 rfl) (lxX8_mixed 1 7 rfl)
set_option maxRecDepth 20000 in
theorem dX8_mixed_24 : @Eq _ (decode cX8_mixed 24) (.ok (.iaload, 1)) := dc_46 (lxX8_mixed 1 8 rfl)
set_option maxRecDepth 20000 in
theorem dX8_mixed_25 : @Eq _ (decode cX8_mixed 25) (.ok (.istore 8, 2)) := dc_54 8 (lxX8_mixed 1 9 rfl) (lxX8_mixed 1 10 rfl)
set_option maxRecDepth 20000 in
theorem dX8_mixed_27 : @Eq _ (decode cX8_mixed 27) (.ok (.lload_n 3, 1)) := dc_33 (lxX8_mixed 1 11 rfl)
set_option maxRecDepth 20000 in
theorem dX8_mixed_28 : @Eq _ (decode cX8_mixed 28) (.ok (.ldc2_w 171, 3)) := dc_20 0 171 (lxX8_mixed 1 12 rfl) (lxX8_mixed 1 13 rfl) (lxX8_mixed 1 14 rfl)
set_option maxRecDepth 20000 in
theorem dX8_mixed_31 : @Eq _ (decode cX8_mixed 31) (.ok (.lmul, 1)) := dc_105 (lxX8_mixed 1 15 rfl)
set_option maxRecDepth 20000 in
theorem dX8_mixed_32 : @Eq _ (decode cX8_mixed 32) (.ok (.iload 8, 2)) := dc_21 8 (lxX8_mixed 2 0 rfl) (lxX8_mixed 2 1 rfl)
set_option maxRecDepth 20000 in
theorem dX8_mixed_34 : @Eq _ (decode cX8_mixed 34) (.ok (.i2l, 1)) := dc_133 (lxX8_mixed 2 2 rfl)
set_option maxRecDepth 20000 in
theorem dX8_mixed_35 : @Eq _ (decode cX8_mixed 35) (.ok (.ladd, 1)) := dc_97 (lxX8_mixed 2 3 rfl)
set_option maxRecDepth 20000 in
theorem dX8_mixed_36 : @Eq _ (decode cX8_mixed 36) (.ok (.lstore_n 3, 1)) := dc_66 (lxX8_mixed 2 4 rfl)
set_option maxRecDepth 20000 in
theorem dX8_mixed_37 : @Eq _ (decode cX8_mixed 37) (.ok (.iinc 7 1, 3)) := dc_132 7 1 (lxX8_mixed 2 5 rfl) (lxX8_mixed 2 6 rfl) (lxX8_mixed 2 7 rfl)
set_option maxRecDepth 20000 in
theorem dX8_mixed_40 : @Eq _ (decode cX8_mixed 40) (.ok (.goto (-27), 3)) := dc_167 255 229 (lxX8_mixed 2 8 rfl) (lxX8_mixed 2 9 rfl) (lxX8_mixed 2 10 rfl)
set_option maxRecDepth 20000 in
theorem dX8_mixed_43 : @Eq _ (decode cX8_mixed 43) (.ok (.lload_n 3, 1)) := dc_33 (lxX8_mixed 2 11 rfl)
set_option maxRecDepth 20000 in
theorem dX8_mixed_44 : @Eq _ (decode cX8_mixed 44) (.ok (.lreturn, 1)) := dc_173 (lxX8_mixed 2 12 rfl)
def lb_sgX8_digest : List (List UInt8) := [[42, 3, 3, 182, 0, 81, 87, 20, 0, 173, 64, 42, 180, 0, 14, 78], [45, 190, 54, 4, 3, 54, 5, 21, 5, 21, 4, 162, 0, 97, 45, 21], [5, 50, 58, 6, 42, 25, 6, 182, 0, 58, 58, 7, 31, 7, 188, 10], [89, 3, 25, 6, 6, 46, 79, 89, 4, 25, 6, 5, 46, 79, 89, 5], [25, 6, 4, 46, 79, 89, 6, 25, 6, 184, 0, 135, 79, 184, 0, 175], [64, 31, 25, 7, 184, 0, 175, 5, 188, 10, 89, 3, 25, 7, 25, 7], [190, 184, 0, 160, 79, 89, 4, 25, 7, 42, 180, 0, 21, 3, 184, 0], [142, 79, 184, 0, 175, 64, 132, 5, 1, 167, 255, 158, 31, 20, 0, 171], [105, 42, 180, 0, 18, 190, 133, 97, 42, 180, 0, 18, 184, 0, 175, 20], [0, 171, 105, 42, 180, 0, 21, 190, 133, 97, 42, 180, 0, 21, 184, 0], [175, 64, 31, 8, 188, 10, 89, 3, 42, 180, 0, 18, 42, 180, 0, 18], [190, 184, 0, 160, 79, 89, 4, 42, 180, 0, 21, 42, 180, 0, 21, 190], [184, 0, 160, 79, 89, 5, 42, 180, 0, 18, 42, 180, 0, 21, 184, 0], [153, 79, 89, 6, 42, 180, 0, 21, 42, 180, 0, 18, 184, 0, 153, 79], [89, 7, 42, 180, 0, 129, 42, 180, 0, 132, 100, 79, 184, 0, 175, 64], [42, 180, 0, 132, 62, 29, 42, 180, 0, 129, 162, 0, 23, 31, 20, 0], [171, 105, 42, 180, 0, 24, 29, 46, 133, 97, 64, 132, 3, 1, 167, 255], [231, 31, 20, 0, 171, 105, 42, 180, 0, 129, 133, 97, 42, 180, 0, 31], [184, 0, 175, 4, 188, 10, 89, 3, 42, 182, 0, 167, 153, 0, 7, 4], [167, 0, 4, 3, 79, 184, 0, 175, 173]]
set_option maxRecDepth 100000 in
theorem lb_seX8_digest : cX8_digest.data.toList = lb_sgX8_digest.flatten := by decide +kernel
theorem lb_lnX8_digest : ∀ s ∈ lb_sgX8_digest.dropLast, s.length = 16 := by decide +kernel
theorem lxX8_digest (k j : Nat) {b : UInt8} (h : (lb_sgX8_digest[k]?).bind (fun s => s[j]?) = some b) : lb_at cX8_digest (16 * k + j) b := by
  unfold lb_at
  rw [lb_seX8_digest]
  exact lb_flat 16 lb_sgX8_digest k j b lb_lnX8_digest h
set_option maxRecDepth 20000 in
theorem dX8_digest_0 : @Eq _ (decode cX8_digest 0) (.ok (.aload_n 0, 1)) := dc_42 (lxX8_digest 0 0 rfl)
set_option maxRecDepth 20000 in
theorem dX8_digest_1 : @Eq _ (decode cX8_digest 1) (.ok (.iconst 0, 1)) := dc_3 (lxX8_digest 0 1 rfl)
set_option maxRecDepth 20000 in
theorem dX8_digest_2 : @Eq _ (decode cX8_digest 2) (.ok (.iconst 0, 1)) := dc_3 (lxX8_digest 0 2 rfl)
set_option maxRecDepth 20000 in
theorem dX8_digest_3 : @Eq _ (decode cX8_digest 3) (.ok (.invokevirtual 81, 3)) := dc_182 0 81 (lxX8_digest 0 3 rfl) (lxX8_digest 0 4 rfl) (lxX8_digest 0 5 rfl)
set_option maxRecDepth 20000 in
theorem dX8_digest_6 : @Eq _ (decode cX8_digest 6) (.ok (.pop, 1)) := dc_87 (lxX8_digest 0 6 rfl)
set_option maxRecDepth 20000 in
theorem dX8_digest_7 : @Eq _ (decode cX8_digest 7) (.ok (.ldc2_w 173, 3)) := dc_20 0 173 (lxX8_digest 0 7 rfl) (lxX8_digest 0 8 rfl) (lxX8_digest 0 9 rfl)
set_option maxRecDepth 20000 in
theorem dX8_digest_10 : @Eq _ (decode cX8_digest 10) (.ok (.lstore_n 1, 1)) := dc_64 (lxX8_digest 0 10 rfl)
set_option maxRecDepth 20000 in
theorem dX8_digest_11 : @Eq _ (decode cX8_digest 11) (.ok (.aload_n 0, 1)) := dc_42 (lxX8_digest 0 11 rfl)
set_option maxRecDepth 20000 in
theorem dX8_digest_12 : @Eq _ (decode cX8_digest 12) (.ok (.getfield 14, 3)) := dc_180 0 14 (lxX8_digest 0 12 rfl) (lxX8_digest 0 13 rfl) (lxX8_digest 0 14 rfl)
set_option maxRecDepth 20000 in
theorem dX8_digest_15 : @Eq _ (decode cX8_digest 15) (.ok (.astore_n 3, 1)) := dc_78 (lxX8_digest 0 15 rfl)
set_option maxRecDepth 20000 in
theorem dX8_digest_16 : @Eq _ (decode cX8_digest 16) (.ok (.aload_n 3, 1)) := dc_45 (lxX8_digest 1 0 rfl)
set_option maxRecDepth 20000 in
theorem dX8_digest_17 : @Eq _ (decode cX8_digest 17) (.ok (.arraylength, 1)) := dc_190 (lxX8_digest 1 1 rfl)
set_option maxRecDepth 20000 in
theorem dX8_digest_18 : @Eq _ (decode cX8_digest 18) (.ok (.istore 4, 2)) := dc_54 4 (lxX8_digest 1 2 rfl) (lxX8_digest 1 3 rfl)
set_option maxRecDepth 20000 in
theorem dX8_digest_20 : @Eq _ (decode cX8_digest 20) (.ok (.iconst 0, 1)) := dc_3 (lxX8_digest 1 4 rfl)
set_option maxRecDepth 20000 in
theorem dX8_digest_21 : @Eq _ (decode cX8_digest 21) (.ok (.istore 5, 2)) := dc_54 5 (lxX8_digest 1 5 rfl) (lxX8_digest 1 6 rfl)
set_option maxRecDepth 20000 in
theorem dX8_digest_23 : @Eq _ (decode cX8_digest 23) (.ok (.iload 5, 2)) := dc_21 5 (lxX8_digest 1 7 rfl) (lxX8_digest 1 8 rfl)
set_option maxRecDepth 20000 in
theorem dX8_digest_25 : @Eq _ (decode cX8_digest 25) (.ok (.iload 4, 2)) := dc_21 4 (lxX8_digest 1 9 rfl) (lxX8_digest 1 10 rfl)
set_option maxRecDepth 20000 in
theorem dX8_digest_27 : @Eq _ (decode cX8_digest 27) (.ok (.if_icmp .ge 97, 3)) := dc_162 0 97 (lxX8_digest 1 11 rfl) (lxX8_digest 1 12 rfl) (lxX8_digest 1 13 rfl)
set_option maxRecDepth 20000 in
theorem dX8_digest_30 : @Eq _ (decode cX8_digest 30) (.ok (.aload_n 3, 1)) := dc_45 (lxX8_digest 1 14 rfl)
set_option maxRecDepth 20000 in
theorem dX8_digest_31 : @Eq _ (decode cX8_digest 31) (.ok (.iload 5, 2)) := dc_21 5 (lxX8_digest 1 15 rfl) (lxX8_digest 2 0 rfl)
set_option maxRecDepth 20000 in
theorem dX8_digest_33 : @Eq _ (decode cX8_digest 33) (.ok (.aaload, 1)) := dc_50 (lxX8_digest 2 1 rfl)
set_option maxRecDepth 20000 in
theorem dX8_digest_34 : @Eq _ (decode cX8_digest 34) (.ok (.astore 6, 2)) := dc_58 6 (lxX8_digest 2 2 rfl) (lxX8_digest 2 3 rfl)
set_option maxRecDepth 20000 in
theorem dX8_digest_36 : @Eq _ (decode cX8_digest 36) (.ok (.aload_n 0, 1)) := dc_42 (lxX8_digest 2 4 rfl)
set_option maxRecDepth 20000 in
theorem dX8_digest_37 : @Eq _ (decode cX8_digest 37) (.ok (.aload 6, 2)) := dc_25 6 (lxX8_digest 2 5 rfl) (lxX8_digest 2 6 rfl)
set_option maxRecDepth 20000 in
theorem dX8_digest_39 : @Eq _ (decode cX8_digest 39) (.ok (.invokevirtual 58, 3)) := dc_182 0 58 (lxX8_digest 2 7 rfl) (lxX8_digest 2 8 rfl) (lxX8_digest 2 9 rfl)
set_option maxRecDepth 20000 in
theorem dX8_digest_42 : @Eq _ (decode cX8_digest 42) (.ok (.astore 7, 2)) := dc_58 7 (lxX8_digest 2 10 rfl) (lxX8_digest 2 11 rfl)
set_option maxRecDepth 20000 in
theorem dX8_digest_44 : @Eq _ (decode cX8_digest 44) (.ok (.lload_n 1, 1)) := dc_31 (lxX8_digest 2 12 rfl)
set_option maxRecDepth 20000 in
theorem dX8_digest_45 : @Eq _ (decode cX8_digest 45) (.ok (.iconst 4, 1)) := dc_7 (lxX8_digest 2 13 rfl)
theorem dX8_digest_46 : @Eq _ (decode cX8_digest 46) (.ok (.newarray .int, 2)) := by decide +kernel
set_option maxRecDepth 20000 in
theorem dX8_digest_48 : @Eq _ (decode cX8_digest 48) (.ok (.dup, 1)) := dc_89 (lxX8_digest 3 0 rfl)
set_option maxRecDepth 20000 in
theorem dX8_digest_49 : @Eq _ (decode cX8_digest 49) (.ok (.iconst 0, 1)) := dc_3 (lxX8_digest 3 1 rfl)
set_option maxRecDepth 20000 in
theorem dX8_digest_50 : @Eq _ (decode cX8_digest 50) (.ok (.aload 6, 2)) := dc_25 6 (lxX8_digest 3 2 rfl) (lxX8_digest 3 3 rfl)
set_option maxRecDepth 20000 in
theorem dX8_digest_52 : @Eq _ (decode cX8_digest 52) (.ok (.iconst 3, 1)) := dc_6 (lxX8_digest 3 4 rfl)
set_option maxRecDepth 20000 in
theorem dX8_digest_53 : @Eq _ (decode cX8_digest 53) (.ok (.iaload, 1)) := dc_46 (lxX8_digest 3 5 rfl)
set_option maxRecDepth 20000 in
theorem dX8_digest_54 : @Eq _ (decode cX8_digest 54) (.ok (.iastore, 1)) := dc_79 (lxX8_digest 3 6 rfl)
set_option maxRecDepth 20000 in
theorem dX8_digest_55 : @Eq _ (decode cX8_digest 55) (.ok (.dup, 1)) := dc_89 (lxX8_digest 3 7 rfl)
set_option maxRecDepth 20000 in
theorem dX8_digest_56 : @Eq _ (decode cX8_digest 56) (.ok (.iconst 1, 1)) := dc_4 (lxX8_digest 3 8 rfl)
set_option maxRecDepth 20000 in
theorem dX8_digest_57 : @Eq _ (decode cX8_digest 57) (.ok (.aload 6, 2)) := dc_25 6 (lxX8_digest 3 9 rfl) (lxX8_digest 3 10 rfl)
set_option maxRecDepth 20000 in
theorem dX8_digest_59 : @Eq _ (decode cX8_digest 59) (.ok (.iconst 2, 1)) := dc_5 (lxX8_digest 3 11 rfl)
set_option maxRecDepth 20000 in
theorem dX8_digest_60 : @Eq _ (decode cX8_digest 60) (.ok (.iaload, 1)) := dc_46 (lxX8_digest 3 12 rfl)
set_option maxRecDepth 20000 in
theorem dX8_digest_61 : @Eq _ (decode cX8_digest 61) (.ok (.iastore, 1)) := dc_79 (lxX8_digest 3 13 rfl)
set_option maxRecDepth 20000 in
theorem dX8_digest_62 : @Eq _ (decode cX8_digest 62) (.ok (.dup, 1)) := dc_89 (lxX8_digest 3 14 rfl)
set_option maxRecDepth 20000 in
theorem dX8_digest_63 : @Eq _ (decode cX8_digest 63) (.ok (.iconst 2, 1)) := dc_5 (lxX8_digest 3 15 rfl)
set_option maxRecDepth 20000 in
theorem dX8_digest_64 : @Eq _ (decode cX8_digest 64) (.ok (.aload 6, 2)) := dc_25 6 (lxX8_digest 4 0 rfl) (lxX8_digest 4 1 rfl)
set_option maxRecDepth 20000 in
theorem dX8_digest_66 : @Eq _ (decode cX8_digest 66) (.ok (.iconst 1, 1)) := dc_4 (lxX8_digest 4 2 rfl)
set_option maxRecDepth 20000 in
theorem dX8_digest_67 : @Eq _ (decode cX8_digest 67) (.ok (.iaload, 1)) := dc_46 (lxX8_digest 4 3 rfl)
set_option maxRecDepth 20000 in
theorem dX8_digest_68 : @Eq _ (decode cX8_digest 68) (.ok (.iastore, 1)) := dc_79 (lxX8_digest 4 4 rfl)
set_option maxRecDepth 20000 in
theorem dX8_digest_69 : @Eq _ (decode cX8_digest 69) (.ok (.dup, 1)) := dc_89 (lxX8_digest 4 5 rfl)
set_option maxRecDepth 20000 in
theorem dX8_digest_70 : @Eq _ (decode cX8_digest 70) (.ok (.iconst 3, 1)) := dc_6 (lxX8_digest 4 6 rfl)
set_option maxRecDepth 20000 in
theorem dX8_digest_71 : @Eq _ (decode cX8_digest 71) (.ok (.aload 6, 2)) := dc_25 6 (lxX8_digest 4 7 rfl) (lxX8_digest 4 8 rfl)
set_option maxRecDepth 20000 in
theorem dX8_digest_73 : @Eq _ (decode cX8_digest 73) (.ok (.invokestatic 135, 3)) := dc_184 0 135 (lxX8_digest 4 9 rfl) (lxX8_digest 4 10 rfl) (lxX8_digest 4 11 rfl)
set_option maxRecDepth 20000 in
theorem dX8_digest_76 : @Eq _ (decode cX8_digest 76) (.ok (.iastore, 1)) := dc_79 (lxX8_digest 4 12 rfl)
set_option maxRecDepth 20000 in
theorem dX8_digest_77 : @Eq _ (decode cX8_digest 77) (.ok (.invokestatic 175, 3)) := dc_184 0 175 (lxX8_digest 4 13 rfl) (lxX8_digest 4 14 rfl) (lxX8_digest 4 15 rfl)
set_option maxRecDepth 20000 in
theorem dX8_digest_80 : @Eq _ (decode cX8_digest 80) (.ok (.lstore_n 1, 1)) := dc_64 (lxX8_digest 5 0 rfl)
set_option maxRecDepth 20000 in
theorem dX8_digest_81 : @Eq _ (decode cX8_digest 81) (.ok (.lload_n 1, 1)) := dc_31 (lxX8_digest 5 1 rfl)
set_option maxRecDepth 20000 in
theorem dX8_digest_82 : @Eq _ (decode cX8_digest 82) (.ok (.aload 7, 2)) := dc_25 7 (lxX8_digest 5 2 rfl) (lxX8_digest 5 3 rfl)
set_option maxRecDepth 20000 in
theorem dX8_digest_84 : @Eq _ (decode cX8_digest 84) (.ok (.invokestatic 175, 3)) := dc_184 0 175 (lxX8_digest 5 4 rfl) (lxX8_digest 5 5 rfl) (lxX8_digest 5 6 rfl)
set_option maxRecDepth 20000 in
theorem dX8_digest_87 : @Eq _ (decode cX8_digest 87) (.ok (.iconst 2, 1)) := dc_5 (lxX8_digest 5 7 rfl)
theorem dX8_digest_88 : @Eq _ (decode cX8_digest 88) (.ok (.newarray .int, 2)) := by decide +kernel
set_option maxRecDepth 20000 in
theorem dX8_digest_90 : @Eq _ (decode cX8_digest 90) (.ok (.dup, 1)) := dc_89 (lxX8_digest 5 10 rfl)
set_option maxRecDepth 20000 in
theorem dX8_digest_91 : @Eq _ (decode cX8_digest 91) (.ok (.iconst 0, 1)) := dc_3 (lxX8_digest 5 11 rfl)
set_option maxRecDepth 20000 in
theorem dX8_digest_92 : @Eq _ (decode cX8_digest 92) (.ok (.aload 7, 2)) := dc_25 7 (lxX8_digest 5 12 rfl) (lxX8_digest 5 13 rfl)
set_option maxRecDepth 20000 in
theorem dX8_digest_94 : @Eq _ (decode cX8_digest 94) (.ok (.aload 7, 2)) := dc_25 7 (lxX8_digest 5 14 rfl) (lxX8_digest 5 15 rfl)
set_option maxRecDepth 20000 in
theorem dX8_digest_96 : @Eq _ (decode cX8_digest 96) (.ok (.arraylength, 1)) := dc_190 (lxX8_digest 6 0 rfl)
set_option maxRecDepth 20000 in
theorem dX8_digest_97 : @Eq _ (decode cX8_digest 97) (.ok (.invokestatic 160, 3)) := dc_184 0 160 (lxX8_digest 6 1 rfl) (lxX8_digest 6 2 rfl) (lxX8_digest 6 3 rfl)
set_option maxRecDepth 20000 in
theorem dX8_digest_100 : @Eq _ (decode cX8_digest 100) (.ok (.iastore, 1)) := dc_79 (lxX8_digest 6 4 rfl)
set_option maxRecDepth 20000 in
theorem dX8_digest_101 : @Eq _ (decode cX8_digest 101) (.ok (.dup, 1)) := dc_89 (lxX8_digest 6 5 rfl)
set_option maxRecDepth 20000 in
theorem dX8_digest_102 : @Eq _ (decode cX8_digest 102) (.ok (.iconst 1, 1)) := dc_4 (lxX8_digest 6 6 rfl)
set_option maxRecDepth 20000 in
theorem dX8_digest_103 : @Eq _ (decode cX8_digest 103) (.ok (.aload 7, 2)) := dc_25 7 (lxX8_digest 6 7 rfl) (lxX8_digest 6 8 rfl)
set_option maxRecDepth 20000 in
theorem dX8_digest_105 : @Eq _ (decode cX8_digest 105) (.ok (.aload_n 0, 1)) := dc_42 (lxX8_digest 6 9 rfl)
set_option maxRecDepth 20000 in
theorem dX8_digest_106 : @Eq _ (decode cX8_digest 106) (.ok (.getfield 21, 3)) := dc_180 0 21 (lxX8_digest 6 10 rfl) (lxX8_digest 6 11 rfl) (lxX8_digest 6 12 rfl)
set_option maxRecDepth 20000 in
theorem dX8_digest_109 : @Eq _ (decode cX8_digest 109) (.ok (.iconst 0, 1)) := dc_3 (lxX8_digest 6 13 rfl)
set_option maxRecDepth 20000 in
theorem dX8_digest_110 : @Eq _ (decode cX8_digest 110) (.ok (.invokestatic 142, 3)) := dc_184 0 142 (lxX8_digest 6 14 rfl) (lxX8_digest 6 15 rfl) (lxX8_digest 7 0 rfl)
set_option maxRecDepth 20000 in
theorem dX8_digest_113 : @Eq _ (decode cX8_digest 113) (.ok (.iastore, 1)) := dc_79 (lxX8_digest 7 1 rfl)
set_option maxRecDepth 20000 in
theorem dX8_digest_114 : @Eq _ (decode cX8_digest 114) (.ok (.invokestatic 175, 3)) := dc_184 0 175 (lxX8_digest 7 2 rfl) (lxX8_digest 7 3 rfl) (lxX8_digest 7 4 rfl)
set_option maxRecDepth 20000 in
theorem dX8_digest_117 : @Eq _ (decode cX8_digest 117) (.ok (.lstore_n 1, 1)) := dc_64 (lxX8_digest 7 5 rfl)
set_option maxRecDepth 20000 in
theorem dX8_digest_118 : @Eq _ (decode cX8_digest 118) (.ok (.iinc 5 1, 3)) := dc_132 5 1 (lxX8_digest 7 6 rfl) (lxX8_digest 7 7 rfl) (lxX8_digest 7 8 rfl)
set_option maxRecDepth 20000 in
theorem dX8_digest_121 : @Eq _ (decode cX8_digest 121) (.ok (.goto (-98), 3)) := dc_167 255 158 (lxX8_digest 7 9 rfl) (lxX8_digest 7 10 rfl) (lxX8_digest 7 11 rfl)
set_option maxRecDepth 20000 in
theorem dX8_digest_124 : @Eq _ (decode cX8_digest 124) (.ok (.lload_n 1, 1)) := dc_31 (lxX8_digest 7 12 rfl)
set_option maxRecDepth 20000 in
theorem dX8_digest_125 : @Eq _ (decode cX8_digest 125) (.ok (.ldc2_w 171, 3)) := dc_20 0 171 (lxX8_digest 7 13 rfl) (lxX8_digest 7 14 rfl) (lxX8_digest 7 15 rfl)
set_option maxRecDepth 20000 in
theorem dX8_digest_128 : @Eq _ (decode cX8_digest 128) (.ok (.lmul, 1)) := dc_105 (lxX8_digest 8 0 rfl)
set_option maxRecDepth 20000 in
theorem dX8_digest_129 : @Eq _ (decode cX8_digest 129) (.ok (.aload_n 0, 1)) := dc_42 (lxX8_digest 8 1 rfl)
set_option maxRecDepth 20000 in
theorem dX8_digest_130 : @Eq _ (decode cX8_digest 130) (.ok (.getfield 18, 3)) := dc_180 0 18 (lxX8_digest 8 2 rfl) (lxX8_digest 8 3 rfl) (lxX8_digest 8 4 rfl)
set_option maxRecDepth 20000 in
theorem dX8_digest_133 : @Eq _ (decode cX8_digest 133) (.ok (.arraylength, 1)) := dc_190 (lxX8_digest 8 5 rfl)
set_option maxRecDepth 20000 in
theorem dX8_digest_134 : @Eq _ (decode cX8_digest 134) (.ok (.i2l, 1)) := dc_133 (lxX8_digest 8 6 rfl)
set_option maxRecDepth 20000 in
theorem dX8_digest_135 : @Eq _ (decode cX8_digest 135) (.ok (.ladd, 1)) := dc_97 (lxX8_digest 8 7 rfl)
set_option maxRecDepth 20000 in
theorem dX8_digest_136 : @Eq _ (decode cX8_digest 136) (.ok (.aload_n 0, 1)) := dc_42 (lxX8_digest 8 8 rfl)
set_option maxRecDepth 20000 in
theorem dX8_digest_137 : @Eq _ (decode cX8_digest 137) (.ok (.getfield 18, 3)) := dc_180 0 18 (lxX8_digest 8 9 rfl) (lxX8_digest 8 10 rfl) (lxX8_digest 8 11 rfl)
set_option maxRecDepth 20000 in
theorem dX8_digest_140 : @Eq _ (decode cX8_digest 140) (.ok (.invokestatic 175, 3)) := dc_184 0 175 (lxX8_digest 8 12 rfl) (lxX8_digest 8 13 rfl) (lxX8_digest 8 14 rfl)
set_option maxRecDepth 20000 in
theorem dX8_digest_143 : @Eq _ (decode cX8_digest 143) (.ok (.ldc2_w 171, 3)) := dc_20 0 171 (lxX8_digest 8 15 rfl) (lxX8_digest 9 0 rfl) (lxX8_digest 9 1 rfl)
set_option maxRecDepth 20000 in
theorem dX8_digest_146 : @Eq _ (decode cX8_digest 146) (.ok (.lmul, 1)) := dc_105 (lxX8_digest 9 2 rfl)
set_option maxRecDepth 20000 in
theorem dX8_digest_147 : @Eq _ (decode cX8_digest 147) (.ok (.aload_n 0, 1)) := dc_42 (lxX8_digest 9 3 rfl)
set_option maxRecDepth 20000 in
theorem dX8_digest_148 : @Eq _ (decode cX8_digest 148) (.ok (.getfield 21, 3)) := dc_180 0 21 (lxX8_digest 9 4 rfl) (lxX8_digest 9 5 rfl) (lxX8_digest 9 6 rfl)
set_option maxRecDepth 20000 in
theorem dX8_digest_151 : @Eq _ (decode cX8_digest 151) (.ok (.arraylength, 1)) := dc_190 (lxX8_digest 9 7 rfl)
set_option maxRecDepth 20000 in
theorem dX8_digest_152 : @Eq _ (decode cX8_digest 152) (.ok (.i2l, 1)) := dc_133 (lxX8_digest 9 8 rfl)
set_option maxRecDepth 20000 in
theorem dX8_digest_153 : @Eq _ (decode cX8_digest 153) (.ok (.ladd, 1)) := dc_97 (lxX8_digest 9 9 rfl)
set_option maxRecDepth 20000 in
theorem dX8_digest_154 : @Eq _ (decode cX8_digest 154) (.ok (.aload_n 0, 1)) := dc_42 (lxX8_digest 9 10 rfl)
set_option maxRecDepth 20000 in
theorem dX8_digest_155 : @Eq _ (decode cX8_digest 155) (.ok (.getfield 21, 3)) := dc_180 0 21 (lxX8_digest 9 11 rfl) (lxX8_digest 9 12 rfl) (lxX8_digest 9 13 rfl)
set_option maxRecDepth 20000 in
theorem dX8_digest_158 : @Eq _ (decode cX8_digest 158) (.ok (.invokestatic 175, 3)) := dc_184 0 175 (lxX8_digest 9 14 rfl) (lxX8_digest 9 15 rfl) (lxX8_digest 10 0 rfl)
set_option maxRecDepth 20000 in
theorem dX8_digest_161 : @Eq _ (decode cX8_digest 161) (.ok (.lstore_n 1, 1)) := dc_64 (lxX8_digest 10 1 rfl)
set_option maxRecDepth 20000 in
theorem dX8_digest_162 : @Eq _ (decode cX8_digest 162) (.ok (.lload_n 1, 1)) := dc_31 (lxX8_digest 10 2 rfl)
set_option maxRecDepth 20000 in
theorem dX8_digest_163 : @Eq _ (decode cX8_digest 163) (.ok (.iconst 5, 1)) := dc_8 (lxX8_digest 10 3 rfl)
theorem dX8_digest_164 : @Eq _ (decode cX8_digest 164) (.ok (.newarray .int, 2)) := by decide +kernel
set_option maxRecDepth 20000 in
theorem dX8_digest_166 : @Eq _ (decode cX8_digest 166) (.ok (.dup, 1)) := dc_89 (lxX8_digest 10 6 rfl)
set_option maxRecDepth 20000 in
theorem dX8_digest_167 : @Eq _ (decode cX8_digest 167) (.ok (.iconst 0, 1)) := dc_3 (lxX8_digest 10 7 rfl)
set_option maxRecDepth 20000 in
theorem dX8_digest_168 : @Eq _ (decode cX8_digest 168) (.ok (.aload_n 0, 1)) := dc_42 (lxX8_digest 10 8 rfl)
set_option maxRecDepth 20000 in
theorem dX8_digest_169 : @Eq _ (decode cX8_digest 169) (.ok (.getfield 18, 3)) := dc_180 0 18 (lxX8_digest 10 9 rfl) (lxX8_digest 10 10 rfl) (lxX8_digest 10 11 rfl)
set_option maxRecDepth 20000 in
theorem dX8_digest_172 : @Eq _ (decode cX8_digest 172) (.ok (.aload_n 0, 1)) := dc_42 (lxX8_digest 10 12 rfl)
set_option maxRecDepth 20000 in
theorem dX8_digest_173 : @Eq _ (decode cX8_digest 173) (.ok (.getfield 18, 3)) := dc_180 0 18 (lxX8_digest 10 13 rfl) (lxX8_digest 10 14 rfl) (lxX8_digest 10 15 rfl)
set_option maxRecDepth 20000 in
theorem dX8_digest_176 : @Eq _ (decode cX8_digest 176) (.ok (.arraylength, 1)) := dc_190 (lxX8_digest 11 0 rfl)
set_option maxRecDepth 20000 in
theorem dX8_digest_177 : @Eq _ (decode cX8_digest 177) (.ok (.invokestatic 160, 3)) := dc_184 0 160 (lxX8_digest 11 1 rfl) (lxX8_digest 11 2 rfl) (lxX8_digest 11 3 rfl)
set_option maxRecDepth 20000 in
theorem dX8_digest_180 : @Eq _ (decode cX8_digest 180) (.ok (.iastore, 1)) := dc_79 (lxX8_digest 11 4 rfl)
set_option maxRecDepth 20000 in
theorem dX8_digest_181 : @Eq _ (decode cX8_digest 181) (.ok (.dup, 1)) := dc_89 (lxX8_digest 11 5 rfl)
set_option maxRecDepth 20000 in
theorem dX8_digest_182 : @Eq _ (decode cX8_digest 182) (.ok (.iconst 1, 1)) := dc_4 (lxX8_digest 11 6 rfl)
set_option maxRecDepth 20000 in
theorem dX8_digest_183 : @Eq _ (decode cX8_digest 183) (.ok (.aload_n 0, 1)) := dc_42 (lxX8_digest 11 7 rfl)
set_option maxRecDepth 20000 in
theorem dX8_digest_184 : @Eq _ (decode cX8_digest 184) (.ok (.getfield 21, 3)) := dc_180 0 21 (lxX8_digest 11 8 rfl) (lxX8_digest 11 9 rfl) (lxX8_digest 11 10 rfl)
set_option maxRecDepth 20000 in
theorem dX8_digest_187 : @Eq _ (decode cX8_digest 187) (.ok (.aload_n 0, 1)) := dc_42 (lxX8_digest 11 11 rfl)
set_option maxRecDepth 20000 in
theorem dX8_digest_188 : @Eq _ (decode cX8_digest 188) (.ok (.getfield 21, 3)) := dc_180 0 21 (lxX8_digest 11 12 rfl) (lxX8_digest 11 13 rfl) (lxX8_digest 11 14 rfl)
set_option maxRecDepth 20000 in
theorem dX8_digest_191 : @Eq _ (decode cX8_digest 191) (.ok (.arraylength, 1)) := dc_190 (lxX8_digest 11 15 rfl)
set_option maxRecDepth 20000 in
theorem dX8_digest_192 : @Eq _ (decode cX8_digest 192) (.ok (.invokestatic 160, 3)) := dc_184 0 160 (lxX8_digest 12 0 rfl) (lxX8_digest 12 1 rfl) (lxX8_digest 12 2 rfl)
set_option maxRecDepth 20000 in
theorem dX8_digest_195 : @Eq _ (decode cX8_digest 195) (.ok (.iastore, 1)) := dc_79 (lxX8_digest 12 3 rfl)
set_option maxRecDepth 20000 in
theorem dX8_digest_196 : @Eq _ (decode cX8_digest 196) (.ok (.dup, 1)) := dc_89 (lxX8_digest 12 4 rfl)
set_option maxRecDepth 20000 in
theorem dX8_digest_197 : @Eq _ (decode cX8_digest 197) (.ok (.iconst 2, 1)) := dc_5 (lxX8_digest 12 5 rfl)
set_option maxRecDepth 20000 in
theorem dX8_digest_198 : @Eq _ (decode cX8_digest 198) (.ok (.aload_n 0, 1)) := dc_42 (lxX8_digest 12 6 rfl)
set_option maxRecDepth 20000 in
theorem dX8_digest_199 : @Eq _ (decode cX8_digest 199) (.ok (.getfield 18, 3)) := dc_180 0 18 (lxX8_digest 12 7 rfl) (lxX8_digest 12 8 rfl) (lxX8_digest 12 9 rfl)
set_option maxRecDepth 20000 in
theorem dX8_digest_202 : @Eq _ (decode cX8_digest 202) (.ok (.aload_n 0, 1)) := dc_42 (lxX8_digest 12 10 rfl)
set_option maxRecDepth 20000 in
theorem dX8_digest_203 : @Eq _ (decode cX8_digest 203) (.ok (.getfield 21, 3)) := dc_180 0 21 (lxX8_digest 12 11 rfl) (lxX8_digest 12 12 rfl) (lxX8_digest 12 13 rfl)
set_option maxRecDepth 20000 in
theorem dX8_digest_206 : @Eq _ (decode cX8_digest 206) (.ok (.invokestatic 153, 3)) := dc_184 0 153 (lxX8_digest 12 14 rfl) (lxX8_digest 12 15 rfl) (lxX8_digest 13 0 rfl)
set_option maxRecDepth 20000 in
theorem dX8_digest_209 : @Eq _ (decode cX8_digest 209) (.ok (.iastore, 1)) := dc_79 (lxX8_digest 13 1 rfl)
set_option maxRecDepth 20000 in
theorem dX8_digest_210 : @Eq _ (decode cX8_digest 210) (.ok (.dup, 1)) := dc_89 (lxX8_digest 13 2 rfl)
set_option maxRecDepth 20000 in
theorem dX8_digest_211 : @Eq _ (decode cX8_digest 211) (.ok (.iconst 3, 1)) := dc_6 (lxX8_digest 13 3 rfl)
set_option maxRecDepth 20000 in
theorem dX8_digest_212 : @Eq _ (decode cX8_digest 212) (.ok (.aload_n 0, 1)) := dc_42 (lxX8_digest 13 4 rfl)
set_option maxRecDepth 20000 in
theorem dX8_digest_213 : @Eq _ (decode cX8_digest 213) (.ok (.getfield 21, 3)) := dc_180 0 21 (lxX8_digest 13 5 rfl) (lxX8_digest 13 6 rfl) (lxX8_digest 13 7 rfl)
set_option maxRecDepth 20000 in
theorem dX8_digest_216 : @Eq _ (decode cX8_digest 216) (.ok (.aload_n 0, 1)) := dc_42 (lxX8_digest 13 8 rfl)
set_option maxRecDepth 20000 in
theorem dX8_digest_217 : @Eq _ (decode cX8_digest 217) (.ok (.getfield 18, 3)) := dc_180 0 18 (lxX8_digest 13 9 rfl) (lxX8_digest 13 10 rfl) (lxX8_digest 13 11 rfl)
set_option maxRecDepth 20000 in
theorem dX8_digest_220 : @Eq _ (decode cX8_digest 220) (.ok (.invokestatic 153, 3)) := dc_184 0 153 (lxX8_digest 13 12 rfl) (lxX8_digest 13 13 rfl) (lxX8_digest 13 14 rfl)
set_option maxRecDepth 20000 in
theorem dX8_digest_223 : @Eq _ (decode cX8_digest 223) (.ok (.iastore, 1)) := dc_79 (lxX8_digest 13 15 rfl)
set_option maxRecDepth 20000 in
theorem dX8_digest_224 : @Eq _ (decode cX8_digest 224) (.ok (.dup, 1)) := dc_89 (lxX8_digest 14 0 rfl)
set_option maxRecDepth 20000 in
theorem dX8_digest_225 : @Eq _ (decode cX8_digest 225) (.ok (.iconst 4, 1)) := dc_7 (lxX8_digest 14 1 rfl)
set_option maxRecDepth 20000 in
theorem dX8_digest_226 : @Eq _ (decode cX8_digest 226) (.ok (.aload_n 0, 1)) := dc_42 (lxX8_digest 14 2 rfl)
set_option maxRecDepth 20000 in
theorem dX8_digest_227 : @Eq _ (decode cX8_digest 227) (.ok (.getfield 129, 3)) := dc_180 0 129 (lxX8_digest 14 3 rfl) (lxX8_digest 14 4 rfl) (lxX8_digest 14 5 rfl)
set_option maxRecDepth 20000 in
theorem dX8_digest_230 : @Eq _ (decode cX8_digest 230) (.ok (.aload_n 0, 1)) := dc_42 (lxX8_digest 14 6 rfl)
set_option maxRecDepth 20000 in
theorem dX8_digest_231 : @Eq _ (decode cX8_digest 231) (.ok (.getfield 132, 3)) := dc_180 0 132 (lxX8_digest 14 7 rfl) (lxX8_digest 14 8 rfl) (lxX8_digest 14 9 rfl)
set_option maxRecDepth 20000 in
theorem dX8_digest_234 : @Eq _ (decode cX8_digest 234) (.ok (.isub, 1)) := dc_100 (lxX8_digest 14 10 rfl)
set_option maxRecDepth 20000 in
theorem dX8_digest_235 : @Eq _ (decode cX8_digest 235) (.ok (.iastore, 1)) := dc_79 (lxX8_digest 14 11 rfl)
set_option maxRecDepth 20000 in
theorem dX8_digest_236 : @Eq _ (decode cX8_digest 236) (.ok (.invokestatic 175, 3)) := dc_184 0 175 (lxX8_digest 14 12 rfl) (lxX8_digest 14 13 rfl) (lxX8_digest 14 14 rfl)
set_option maxRecDepth 20000 in
theorem dX8_digest_239 : @Eq _ (decode cX8_digest 239) (.ok (.lstore_n 1, 1)) := dc_64 (lxX8_digest 14 15 rfl)
set_option maxRecDepth 20000 in
theorem dX8_digest_240 : @Eq _ (decode cX8_digest 240) (.ok (.aload_n 0, 1)) := dc_42 (lxX8_digest 15 0 rfl)
set_option maxRecDepth 20000 in
theorem dX8_digest_241 : @Eq _ (decode cX8_digest 241) (.ok (.getfield 132, 3)) := dc_180 0 132 (lxX8_digest 15 1 rfl) (lxX8_digest 15 2 rfl) (lxX8_digest 15 3 rfl)
set_option maxRecDepth 20000 in
theorem dX8_digest_244 : @Eq _ (decode cX8_digest 244) (.ok (.istore_n 3, 1)) := dc_62 (lxX8_digest 15 4 rfl)
set_option maxRecDepth 20000 in
theorem dX8_digest_245 : @Eq _ (decode cX8_digest 245) (.ok (.iload_n 3, 1)) := dc_29 (lxX8_digest 15 5 rfl)
set_option maxRecDepth 20000 in
theorem dX8_digest_246 : @Eq _ (decode cX8_digest 246) (.ok (.aload_n 0, 1)) := dc_42 (lxX8_digest 15 6 rfl)
set_option maxRecDepth 20000 in
theorem dX8_digest_247 : @Eq _ (decode cX8_digest 247) (.ok (.getfield 129, 3)) := dc_180 0 129 (lxX8_digest 15 7 rfl) (lxX8_digest 15 8 rfl) (lxX8_digest 15 9 rfl)
set_option maxRecDepth 20000 in
theorem dX8_digest_250 : @Eq _ (decode cX8_digest 250) (.ok (.if_icmp .ge 23, 3)) := dc_162 0 23 (lxX8_digest 15 10 rfl) (lxX8_digest 15 11 rfl) (lxX8_digest 15 12 rfl)
set_option maxRecDepth 20000 in
theorem dX8_digest_253 : @Eq _ (decode cX8_digest 253) (.ok (.lload_n 1, 1)) := dc_31 (lxX8_digest 15 13 rfl)
set_option maxRecDepth 20000 in
theorem dX8_digest_254 : @Eq _ (decode cX8_digest 254) (.ok (.ldc2_w 171, 3)) := dc_20 0 171 (lxX8_digest 15 14 rfl) (lxX8_digest 15 15 rfl) (lxX8_digest 16 0 rfl)
set_option maxRecDepth 20000 in
theorem dX8_digest_257 : @Eq _ (decode cX8_digest 257) (.ok (.lmul, 1)) := dc_105 (lxX8_digest 16 1 rfl)
set_option maxRecDepth 20000 in
theorem dX8_digest_258 : @Eq _ (decode cX8_digest 258) (.ok (.aload_n 0, 1)) := dc_42 (lxX8_digest 16 2 rfl)
set_option maxRecDepth 20000 in
theorem dX8_digest_259 : @Eq _ (decode cX8_digest 259) (.ok (.getfield 24, 3)) := dc_180 0 24 (lxX8_digest 16 3 rfl) (lxX8_digest 16 4 rfl) (lxX8_digest 16 5 rfl)
set_option maxRecDepth 20000 in
theorem dX8_digest_262 : @Eq _ (decode cX8_digest 262) (.ok (.iload_n 3, 1)) := dc_29 (lxX8_digest 16 6 rfl)
set_option maxRecDepth 20000 in
theorem dX8_digest_263 : @Eq _ (decode cX8_digest 263) (.ok (.iaload, 1)) := dc_46 (lxX8_digest 16 7 rfl)
set_option maxRecDepth 20000 in
theorem dX8_digest_264 : @Eq _ (decode cX8_digest 264) (.ok (.i2l, 1)) := dc_133 (lxX8_digest 16 8 rfl)
set_option maxRecDepth 20000 in
theorem dX8_digest_265 : @Eq _ (decode cX8_digest 265) (.ok (.ladd, 1)) := dc_97 (lxX8_digest 16 9 rfl)
set_option maxRecDepth 20000 in
theorem dX8_digest_266 : @Eq _ (decode cX8_digest 266) (.ok (.lstore_n 1, 1)) := dc_64 (lxX8_digest 16 10 rfl)
set_option maxRecDepth 20000 in
theorem dX8_digest_267 : @Eq _ (decode cX8_digest 267) (.ok (.iinc 3 1, 3)) := dc_132 3 1 (lxX8_digest 16 11 rfl) (lxX8_digest 16 12 rfl) (lxX8_digest 16 13 rfl)
set_option maxRecDepth 20000 in
theorem dX8_digest_270 : @Eq _ (decode cX8_digest 270) (.ok (.goto (-25), 3)) := dc_167 255 231 (lxX8_digest 16 14 rfl) (lxX8_digest 16 15 rfl) (lxX8_digest 17 0 rfl)
set_option maxRecDepth 20000 in
theorem dX8_digest_273 : @Eq _ (decode cX8_digest 273) (.ok (.lload_n 1, 1)) := dc_31 (lxX8_digest 17 1 rfl)
set_option maxRecDepth 20000 in
theorem dX8_digest_274 : @Eq _ (decode cX8_digest 274) (.ok (.ldc2_w 171, 3)) := dc_20 0 171 (lxX8_digest 17 2 rfl) (lxX8_digest 17 3 rfl) (lxX8_digest 17 4 rfl)
set_option maxRecDepth 20000 in
theorem dX8_digest_277 : @Eq _ (decode cX8_digest 277) (.ok (.lmul, 1)) := dc_105 (lxX8_digest 17 5 rfl)
set_option maxRecDepth 20000 in
theorem dX8_digest_278 : @Eq _ (decode cX8_digest 278) (.ok (.aload_n 0, 1)) := dc_42 (lxX8_digest 17 6 rfl)
set_option maxRecDepth 20000 in
theorem dX8_digest_279 : @Eq _ (decode cX8_digest 279) (.ok (.getfield 129, 3)) := dc_180 0 129 (lxX8_digest 17 7 rfl) (lxX8_digest 17 8 rfl) (lxX8_digest 17 9 rfl)
set_option maxRecDepth 20000 in
theorem dX8_digest_282 : @Eq _ (decode cX8_digest 282) (.ok (.i2l, 1)) := dc_133 (lxX8_digest 17 10 rfl)
set_option maxRecDepth 20000 in
theorem dX8_digest_283 : @Eq _ (decode cX8_digest 283) (.ok (.ladd, 1)) := dc_97 (lxX8_digest 17 11 rfl)
set_option maxRecDepth 20000 in
theorem dX8_digest_284 : @Eq _ (decode cX8_digest 284) (.ok (.aload_n 0, 1)) := dc_42 (lxX8_digest 17 12 rfl)
set_option maxRecDepth 20000 in
theorem dX8_digest_285 : @Eq _ (decode cX8_digest 285) (.ok (.getfield 31, 3)) := dc_180 0 31 (lxX8_digest 17 13 rfl) (lxX8_digest 17 14 rfl) (lxX8_digest 17 15 rfl)
set_option maxRecDepth 20000 in
theorem dX8_digest_288 : @Eq _ (decode cX8_digest 288) (.ok (.invokestatic 175, 3)) := dc_184 0 175 (lxX8_digest 18 0 rfl) (lxX8_digest 18 1 rfl) (lxX8_digest 18 2 rfl)
set_option maxRecDepth 20000 in
theorem dX8_digest_291 : @Eq _ (decode cX8_digest 291) (.ok (.iconst 1, 1)) := dc_4 (lxX8_digest 18 3 rfl)
theorem dX8_digest_292 : @Eq _ (decode cX8_digest 292) (.ok (.newarray .int, 2)) := by decide +kernel
set_option maxRecDepth 20000 in
theorem dX8_digest_294 : @Eq _ (decode cX8_digest 294) (.ok (.dup, 1)) := dc_89 (lxX8_digest 18 6 rfl)
set_option maxRecDepth 20000 in
theorem dX8_digest_295 : @Eq _ (decode cX8_digest 295) (.ok (.iconst 0, 1)) := dc_3 (lxX8_digest 18 7 rfl)
set_option maxRecDepth 20000 in
theorem dX8_digest_296 : @Eq _ (decode cX8_digest 296) (.ok (.aload_n 0, 1)) := dc_42 (lxX8_digest 18 8 rfl)
set_option maxRecDepth 20000 in
theorem dX8_digest_297 : @Eq _ (decode cX8_digest 297) (.ok (.invokevirtual 167, 3)) := dc_182 0 167 (lxX8_digest 18 9 rfl) (lxX8_digest 18 10 rfl) (lxX8_digest 18 11 rfl)
set_option maxRecDepth 20000 in
theorem dX8_digest_300 : @Eq _ (decode cX8_digest 300) (.ok (.ifCond .eq 7, 3)) := dc_153 0 7 (lxX8_digest 18 12 rfl) (lxX8_digest 18 13 rfl) (lxX8_digest 18 14 rfl)
set_option maxRecDepth 20000 in
theorem dX8_digest_303 : @Eq _ (decode cX8_digest 303) (.ok (.iconst 1, 1)) := dc_4 (lxX8_digest 18 15 rfl)
set_option maxRecDepth 20000 in
theorem dX8_digest_304 : @Eq _ (decode cX8_digest 304) (.ok (.goto 4, 3)) := dc_167 0 4 (lxX8_digest 19 0 rfl) (lxX8_digest 19 1 rfl) (lxX8_digest 19 2 rfl)
set_option maxRecDepth 20000 in
theorem dX8_digest_307 : @Eq _ (decode cX8_digest 307) (.ok (.iconst 0, 1)) := dc_3 (lxX8_digest 19 3 rfl)
set_option maxRecDepth 20000 in
theorem dX8_digest_308 : @Eq _ (decode cX8_digest 308) (.ok (.iastore, 1)) := dc_79 (lxX8_digest 19 4 rfl)
set_option maxRecDepth 20000 in
theorem dX8_digest_309 : @Eq _ (decode cX8_digest 309) (.ok (.invokestatic 175, 3)) := dc_184 0 175 (lxX8_digest 19 5 rfl) (lxX8_digest 19 6 rfl) (lxX8_digest 19 7 rfl)
set_option maxRecDepth 20000 in
theorem dX8_digest_312 : @Eq _ (decode cX8_digest 312) (.ok (.lreturn, 1)) := dc_173 (lxX8_digest 19 8 rfl)
