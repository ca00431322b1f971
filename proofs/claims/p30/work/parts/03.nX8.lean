def lb_sgX8_init : List (List UInt8) := [[42, 183, 0, 1, 42, 17, 0, 200, 188, 10, 181, 0, 7, 42, 16, 6], [189, 0, 13, 181, 0, 14, 42, 3, 188, 10, 181, 0, 18, 42, 3, 188], [10, 181, 0, 21, 42, 17, 0, 160, 188, 10, 181, 0, 24, 42, 7, 181], [0, 27, 42, 7, 188, 10, 181, 0, 31, 3, 60, 27, 16, 6, 162, 0], [21, 42, 180, 0, 14, 27, 42, 16, 12, 182, 0, 34, 83, 132, 1, 1], [167, 255, 235, 177]]
set_option maxRecDepth 100000 in
theorem lb_seX8_init : cX8_init.data.toList = lb_sgX8_init.flatten := by decide +kernel
theorem lb_lnX8_init : ∀ s ∈ lb_sgX8_init.dropLast, s.length = 16 := by decide +kernel
theorem lxX8_init (k j : Nat) {b : UInt8} (h : (lb_sgX8_init[k]?).bind (fun s => s[j]?) = some b) : lb_at cX8_init (16 * k + j) b := by
  unfold lb_at
  rw [lb_seX8_init]
  exact lb_flat 16 lb_sgX8_init k j b lb_lnX8_init h
set_option maxRecDepth 20000 in
theorem dX8_init_0 : decode cX8_init 0 = .ok (.aload_n 0, 1) := dc_42 (lxX8_init 0 0 rfl)
set_option maxRecDepth 20000 in
theorem dX8_init_1 : decode cX8_init 1 = .ok (.invokespecial 1, 3) := dc_183 0 1 (lxX8_init 0 1 rfl) (lxX8_init 0 2 rfl) (lxX8_init 0 3 rfl)
set_option maxRecDepth 20000 in
theorem dX8_init_4 : decode cX8_init 4 = .ok (.aload_n 0, 1) := dc_42 (lxX8_init 0 4 rfl)
set_option maxRecDepth 20000 in
theorem dX8_init_5 : decode cX8_init 5 = .ok (.sipush 200, 3) := dc_17 0 200 (lxX8_init 0 5 rfl) (lxX8_init 0 6 rfl) (lxX8_init 0 7 rfl)
theorem dX8_init_8 : decode cX8_init 8 = .ok (.newarray .int, 2) := by decide +kernel
set_option maxRecDepth 20000 in
theorem dX8_init_10 : decode cX8_init 10 = .ok (.putfield 7, 3) := dc_181 0 7 (lxX8_init 0 10 rfl) (lxX8_init 0 11 rfl) (lxX8_init 0 12 rfl)
set_option maxRecDepth 20000 in
theorem dX8_init_13 : decode cX8_init 13 = .ok (.aload_n 0, 1) := dc_42 (lxX8_init 0 13 rfl)
set_option maxRecDepth 20000 in
theorem dX8_init_14 : decode cX8_init 14 = .ok (.bipush 6, 2) := dc_16 6 (lxX8_init 0 14 rfl) (lxX8_init 0 15 rfl)
set_option maxRecDepth 20000 in
theorem dX8_init_16 : decode cX8_init 16 = .ok (.anewarray 13, 3) := dc_189 0 13 (lxX8_init 1 0 rfl) (lxX8_init 1 1 rfl) (lxX8_init 1 2 rfl)
set_option maxRecDepth 20000 in
theorem dX8_init_19 : decode cX8_init 19 = .ok (.putfield 14, 3) := dc_181 0 14 (lxX8_init 1 3 rfl) (lxX8_init 1 4 rfl) (lxX8_init 1 5 rfl)
set_option maxRecDepth 20000 in
theorem dX8_init_22 : decode cX8_init 22 = .ok (.aload_n 0, 1) := dc_42 (lxX8_init 1 6 rfl)
set_option maxRecDepth 20000 in
theorem dX8_init_23 : decode cX8_init 23 = .ok (.iconst 0, 1) := dc_3 (lxX8_init 1 7 rfl)
theorem dX8_init_24 : decode cX8_init 24 = .ok (.newarray .int, 2) := by decide +kernel
set_option maxRecDepth 20000 in
theorem dX8_init_26 : decode cX8_init 26 = .ok (.putfield 18, 3) := dc_181 0 18 (lxX8_init 1 10 rfl) (lxX8_init 1 11 rfl) (lxX8_init 1 12 rfl)
set_option maxRecDepth 20000 in
theorem dX8_init_29 : decode cX8_init 29 = .ok (.aload_n 0, 1) := dc_42 (lxX8_init 1 13 rfl)
set_option maxRecDepth 20000 in
theorem dX8_init_30 : decode cX8_init 30 = .ok (.iconst 0, 1) := dc_3 (lxX8_init 1 14 rfl)
theorem dX8_init_31 : decode cX8_init 31 = .ok (.newarray .int, 2) := by decide +kernel
set_option maxRecDepth 20000 in
theorem dX8_init_33 : decode cX8_init 33 = .ok (.putfield 21, 3) := dc_181 0 21 (lxX8_init 2 1 rfl) (lxX8_init 2 2 rfl) (lxX8_init 2 3 rfl)
set_option maxRecDepth 20000 in
theorem dX8_init_36 : decode cX8_init 36 = .ok (.aload_n 0, 1) := dc_42 (lxX8_init 2 4 rfl)
set_option maxRecDepth 20000 in
theorem dX8_init_37 : decode cX8_init 37 = .ok (.sipush 160, 3) := dc_17 0 160 (lxX8_init 2 5 rfl) (lxX8_init 2 6 rfl) (lxX8_init 2 7 rfl)
theorem dX8_init_40 : decode cX8_init 40 = .ok (.newarray .int, 2) := by decide +kernel
set_option maxRecDepth 20000 in
theorem dX8_init_42 : decode cX8_init 42 = .ok (.putfield 24, 3) := dc_181 0 24 (lxX8_init 2 10 rfl) (lxX8_init 2 11 rfl) (lxX8_init 2 12 rfl)
set_option maxRecDepth 20000 in
theorem dX8_init_45 : decode cX8_init 45 = .ok (.aload_n 0, 1) := dc_42 (lxX8_init 2 13 rfl)
set_option maxRecDepth 20000 in
theorem dX8_init_46 : decode cX8_init 46 = .ok (.iconst 4, 1) := dc_7 (lxX8_init 2 14 rfl)
set_option maxRecDepth 20000 in
theorem dX8_init_47 : decode cX8_init 47 = .ok (.putfield 27, 3) := dc_181 0 27 (lxX8_init 2 15 rfl) (lxX8_init 3 0 rfl) (lxX8_init 3 1 rfl)
set_option maxRecDepth 20000 in
theorem dX8_init_50 : decode cX8_init 50 = .ok (.aload_n 0, 1) := dc_42 (lxX8_init 3 2 rfl)
set_option maxRecDepth 20000 in
theorem dX8_init_51 : decode cX8_init 51 = .ok (.iconst 4, 1) := dc_7 (lxX8_init 3 3 rfl)
theorem dX8_init_52 : decode cX8_init 52 = .ok (.newarray .int, 2) := by decide +kernel
set_option maxRecDepth 20000 in
theorem dX8_init_54 : decode cX8_init 54 = .ok (.putfield 31, 3) := dc_181 0 31 (lxX8_init 3 6 rfl) (lxX8_init 3 7 rfl) (lxX8_init 3 8 rfl)
set_option maxRecDepth 20000 in
theorem dX8_init_57 : decode cX8_init 57 = .ok (.iconst 0, 1) := dc_3 (lxX8_init 3 9 rfl)
set_option maxRecDepth 20000 in
theorem dX8_init_58 : decode cX8_init 58 = .ok (.istore_n 1, 1) := dc_60 (lxX8_init 3 10 rfl)
set_option maxRecDepth 20000 in
theorem dX8_init_59 : decode cX8_init 59 = .ok (.iload_n 1, 1) := dc_27 (lxX8_init 3 11 rfl)
set_option maxRecDepth 20000 in
theorem dX8_init_60 : decode cX8_init 60 = .ok (.bipush 6, 2) := dc_16 6 (lxX8_init 3 12 rfl) (lxX8_init 3 13 rfl)
set_option maxRecDepth 20000 in
theorem dX8_init_62 : decode cX8_init 62 = .ok (.if_icmp .ge 21, 3) := dc_162 0 21 (lxX8_init 3 14 rfl) (lxX8_init 3 15 rfl) (lxX8_init 4 0 rfl)
set_option maxRecDepth 20000 in
theorem dX8_init_65 : decode cX8_init 65 = .ok (.aload_n 0, 1) := dc_42 (lxX8_init 4 1 rfl)
set_option maxRecDepth 20000 in
theorem dX8_init_66 : decode cX8_init 66 = .ok (.getfield 14, 3) := dc_180 0 14 (lxX8_init 4 2 rfl) (lxX8_init 4 3 rfl) (lxX8_init 4 4 rfl)
set_option maxRecDepth 20000 in
theorem dX8_init_69 : decode cX8_init 69 = .ok (.iload_n 1, 1) := dc_27 (lxX8_init 4 5 rfl)
set_option maxRecDepth 20000 in
theorem dX8_init_70 : decode cX8_init 70 = .ok (.aload_n 0, 1) := dc_42 (lxX8_init 4 6 rfl)
set_option maxRecDepth 20000 in
theorem dX8_init_71 : decode cX8_init 71 = .ok (.bipush 12, 2) := dc_16 12 (lxX8_init 4 7 rfl) (lxX8_init 4 8 rfl)
set_option maxRecDepth 20000 in
theorem dX8_init_73 : decode cX8_init 73 = .ok (.invokevirtual 34, 3) := dc_182 0 34 (lxX8_init 4 9 rfl) (lxX8_init 4 10 rfl) (lxX8_init 4 11 rfl)
set_option maxRecDepth 20000 in
theorem dX8_init_76 : decode cX8_init 76 = .ok (.aastore, 1) := dc_83 (lxX8_init 4 12 rfl)
set_option maxRecDepth 20000 in
theorem dX8_init_77 : decode cX8_init 77 = .ok (.iinc 1 1, 3) := dc_132 1 1 (lxX8_init 4 13 rfl) (lxX8_init 4 14 rfl) (lxX8_init 4 15 rfl)
set_option maxRecDepth 20000 in
theorem dX8_init_80 : decode cX8_init 80 = .ok (.goto (-21), 3) := dc_167 255 235 (lxX8_init 5 0 rfl) (lxX8_init 5 1 rfl) (lxX8_init 5 2 rfl)
set_option maxRecDepth 20000 in
theorem dX8_init_83 : decode cX8_init 83 = .ok (.return_, 1) := dc_177 (lxX8_init 5 3 rfl)
set_option maxRecDepth 20000 in
theorem dX8_thrown_0 : decode cX8_thrown 0 = .ok (.aload_n 0, 1) := dc_42 rfl
set_option maxRecDepth 20000 in
theorem dX8_thrown_1 : decode cX8_thrown 1 = .ok (.getfield 38, 3) := dc_180 0 38 rfl rfl rfl
set_option maxRecDepth 20000 in
theorem dX8_thrown_4 : decode cX8_thrown 4 = .ok (.ireturn, 1) := dc_172 rfl
def lb_sgX8_isThrown : List (List UInt8) := [[42, 27, 153, 0, 7, 4, 167, 0, 12, 28, 153, 0, 7, 5, 167, 0], [4, 3, 181, 0, 38, 42, 180, 0, 38, 158, 0, 7, 4, 167, 0, 4], [3, 172]]
set_option maxRecDepth 100000 in
theorem lb_seX8_isThrown : cX8_isThrown.data.toList = lb_sgX8_isThrown.flatten := by decide +kernel
theorem lb_lnX8_isThrown : ∀ s ∈ lb_sgX8_isThrown.dropLast, s.length = 16 := by decide +kernel
theorem lxX8_isThrown (k j : Nat) {b : UInt8} (h : (lb_sgX8_isThrown[k]?).bind (fun s => s[j]?) = some b) : lb_at cX8_isThrown (16 * k + j) b := by
  unfold lb_at
  rw [lb_seX8_isThrown]
  exact lb_flat 16 lb_sgX8_isThrown k j b lb_lnX8_isThrown h
set_option maxRecDepth 20000 in
theorem dX8_isThrown_0 : decode cX8_isThrown 0 = .ok (.aload_n 0, 1) := dc_42 (lxX8_isThrown 0 0 rfl)
set_option maxRecDepth 20000 in
theorem dX8_isThrown_1 : decode cX8_isThrown 1 = .ok (.iload_n 1, 1) := dc_27 (lxX8_isThrown 0 1 rfl)
set_option maxRecDepth 20000 in
theorem dX8_isThrown_2 : decode cX8_isThrown 2 = .ok (.ifCond .eq 7, 3) := dc_153 0 7 (lxX8_isThrown 0 2 rfl) (lxX8_isThrown 0 3 rfl) (lxX8_isThrown 0 4 rfl)
set_option maxRecDepth 20000 in
theorem dX8_isThrown_5 : decode cX8_isThrown 5 = .ok (.iconst 1, 1) := dc_4 (lxX8_isThrown 0 5 rfl)
set_option maxRecDepth 20000 in
theorem dX8_isThrown_6 : decode cX8_isThrown 6 = .ok (.goto 12, 3) := dc_167 0 12 (lxX8_isThrown 0 6 rfl) (lxX8_isThrown 0 7 rfl) (lxX8_isThrown 0 8 rfl)
set_option maxRecDepth 20000 in
theorem dX8_isThrown_9 : decode cX8_isThrown 9 = .ok (.iload_n 2, 1) := dc_28 (lxX8_isThrown 0 9 rfl)
set_option maxRecDepth 20000 in
theorem dX8_isThrown_10 : decode cX8_isThrown 10 = .ok (.ifCond .eq 7, 3) := dc_153 0 7 (lxX8_isThrown 0 10 rfl) (lxX8_isThrown 0 11 rfl) (lxX8_isThrown 0 12 rfl)
set_option maxRecDepth 20000 in
theorem dX8_isThrown_13 : decode cX8_isThrown 13 = .ok (.iconst 2, 1) := dc_5 (lxX8_isThrown 0 13 rfl)
set_option maxRecDepth 20000 in
theorem dX8_isThrown_14 : decode cX8_isThrown 14 = .ok (.goto 4, 3) := dc_167 0 4 (lxX8_isThrown 0 14 rfl) (lxX8_isThrown 0 15 rfl) (lxX8_isThrown 1 0 rfl)
set_option maxRecDepth 20000 in
theorem dX8_isThrown_17 : decode cX8_isThrown 17 = .ok (.iconst 0, 1) := dc_3 (lxX8_isThrown 1 1 rfl)
set_option maxRecDepth 20000 in
theorem dX8_isThrown_18 : decode cX8_isThrown 18 = .ok (.putfield 38, 3) := dc_181 0 38 (lxX8_isThrown 1 2 rfl) (lxX8_isThrown 1 3 rfl) (lxX8_isThrown 1 4 rfl)
set_option maxRecDepth 20000 in
theorem dX8_isThrown_21 : decode cX8_isThrown 21 = .ok (.aload_n 0, 1) := dc_42 (lxX8_isThrown 1 5 rfl)
set_option maxRecDepth 20000 in
theorem dX8_isThrown_22 : decode cX8_isThrown 22 = .ok (.getfield 38, 3) := dc_180 0 38 (lxX8_isThrown 1 6 rfl) (lxX8_isThrown 1 7 rfl) (lxX8_isThrown 1 8 rfl)
set_option maxRecDepth 20000 in
theorem dX8_isThrown_25 : decode cX8_isThrown 25 = .ok (.ifCond .le 7, 3) := dc_158 0 7 (lxX8_isThrown 1 9 rfl) (lxX8_isThrown 1 10 rfl) (lxX8_isThrown 1 11 rfl)
set_option maxRecDepth 20000 in
theorem dX8_isThrown_28 : decode cX8_isThrown 28 = .ok (.iconst 1, 1) := dc_4 (lxX8_isThrown 1 12 rfl)
set_option maxRecDepth 20000 in
theorem dX8_isThrown_29 : decode cX8_isThrown 29 = .ok (.goto 4, 3) := dc_167 0 4 (lxX8_isThrown 1 13 rfl) (lxX8_isThrown 1 14 rfl) (lxX8_isThrown 1 15 rfl)
set_option maxRecDepth 20000 in
theorem dX8_isThrown_32 : decode cX8_isThrown 32 = .ok (.iconst 0, 1) := dc_3 (lxX8_isThrown 2 0 rfl)
set_option maxRecDepth 20000 in
theorem dX8_isThrown_33 : decode cX8_isThrown 33 = .ok (.ireturn, 1) := dc_172 (lxX8_isThrown 2 1 rfl)
def lb_sgX8_isNo : List (List UInt8) := [[26, 27, 161, 0, 8, 26, 28, 164, 0, 7, 4, 167, 0, 4, 3, 172]]
set_option maxRecDepth 100000 in
theorem lb_seX8_isNo : cX8_isNo.data.toList = lb_sgX8_isNo.flatten := by decide +kernel
theorem lb_lnX8_isNo : ∀ s ∈ lb_sgX8_isNo.dropLast, s.length = 16 := by decide +kernel
theorem lxX8_isNo (k j : Nat) {b : UInt8} (h : (lb_sgX8_isNo[k]?).bind (fun s => s[j]?) = some b) : lb_at cX8_isNo (16 * k + j) b := by
  unfold lb_at
  rw [lb_seX8_isNo]
  exact lb_flat 16 lb_sgX8_isNo k j b lb_lnX8_isNo h
set_option maxRecDepth 20000 in
theorem dX8_isNo_0 : decode cX8_isNo 0 = .ok (.iload_n 0, 1) := dc_26 (lxX8_isNo 0 0 rfl)
set_option maxRecDepth 20000 in
theorem dX8_isNo_1 : decode cX8_isNo 1 = .ok (.iload_n 1, 1) := dc_27 (lxX8_isNo 0 1 rfl)
set_option maxRecDepth 20000 in
theorem dX8_isNo_2 : decode cX8_isNo 2 = .ok (.if_icmp .lt 8, 3) := dc_161 0 8 (lxX8_isNo 0 2 rfl) (lxX8_isNo 0 3 rfl) (lxX8_isNo 0 4 rfl)
set_option maxRecDepth 20000 in
theorem dX8_isNo_5 : decode cX8_isNo 5 = .ok (.iload_n 0, 1) := dc_26 (lxX8_isNo 0 5 rfl)
set_option maxRecDepth 20000 in
theorem dX8_isNo_6 : decode cX8_isNo 6 = .ok (.iload_n 2, 1) := dc_28 (lxX8_isNo 0 6 rfl)
set_option maxRecDepth 20000 in
theorem dX8_isNo_7 : decode cX8_isNo 7 = .ok (.if_icmp .le 7, 3) := dc_164 0 7 (lxX8_isNo 0 7 rfl) (lxX8_isNo 0 8 rfl) (lxX8_isNo 0 9 rfl)
set_option maxRecDepth 20000 in
theorem dX8_isNo_10 : decode cX8_isNo 10 = .ok (.iconst 1, 1) := dc_4 (lxX8_isNo 0 10 rfl)
set_option maxRecDepth 20000 in
theorem dX8_isNo_11 : decode cX8_isNo 11 = .ok (.goto 4, 3) := dc_167 0 4 (lxX8_isNo 0 11 rfl) (lxX8_isNo 0 12 rfl) (lxX8_isNo 0 13 rfl)
set_option maxRecDepth 20000 in
theorem dX8_isNo_14 : decode cX8_isNo 14 = .ok (.iconst 0, 1) := dc_3 (lxX8_isNo 0 14 rfl)
set_option maxRecDepth 20000 in
theorem dX8_isNo_15 : decode cX8_isNo 15 = .ok (.ireturn, 1) := dc_172 (lxX8_isNo 0 15 rfl)
set_option maxRecDepth 20000 in
theorem dX8_isNoWindow_0 : decode cX8_isNoWindow 0 = .ok (.iload_n 0, 1) := dc_26 rfl
set_option maxRecDepth 20000 in
theorem dX8_isNoWindow_1 : decode cX8_isNoWindow 1 = .ok (.iconst 0, 1) := dc_3 rfl
set_option maxRecDepth 20000 in
theorem dX8_isNoWindow_2 : decode cX8_isNoWindow 2 = .ok (.iconst 5, 1) := dc_8 rfl
set_option maxRecDepth 20000 in
theorem dX8_isNoWindow_3 : decode cX8_isNoWindow 3 = .ok (.invokestatic 41, 3) := dc_184 0 41 rfl rfl rfl
set_option maxRecDepth 20000 in
theorem dX8_isNoWindow_6 : decode cX8_isNoWindow 6 = .ok (.ireturn, 1) := dc_172 rfl
set_option maxRecDepth 20000 in
theorem dX8_isNoSource_0 : decode cX8_isNoSource 0 = .ok (.iload_n 0, 1) := dc_26 rfl
set_option maxRecDepth 20000 in
theorem dX8_isNoSource_1 : decode cX8_isNoSource 1 = .ok (.iconst 0, 1) := dc_3 rfl
set_option maxRecDepth 20000 in
theorem dX8_isNoSource_2 : decode cX8_isNoSource 2 = .ok (.bipush 7, 2) := dc_16 7 rfl rfl
set_option maxRecDepth 20000 in
theorem dX8_isNoSource_4 : decode cX8_isNoSource 4 = .ok (.invokestatic 41, 3) := dc_184 0 41 rfl rfl rfl
set_option maxRecDepth 20000 in
theorem dX8_isNoSource_7 : decode cX8_isNoSource 7 = .ok (.ireturn, 1) := dc_172 rfl
set_option maxRecDepth 20000 in
theorem dX8_done_0 : decode cX8_done 0 = .ok (.aload_n 0, 1) := dc_42 rfl
set_option maxRecDepth 20000 in
theorem dX8_done_1 : decode cX8_done 1 = .ok (.getfield 31, 3) := dc_180 0 31 rfl rfl rfl
set_option maxRecDepth 20000 in
theorem dX8_done_4 : decode cX8_done 4 = .ok (.iconst 0, 1) := dc_3 rfl
set_option maxRecDepth 20000 in
theorem dX8_done_5 : decode cX8_done 5 = .ok (.dup2, 1) := dc_92 rfl
set_option maxRecDepth 20000 in
theorem dX8_done_6 : decode cX8_done 6 = .ok (.iaload, 1) := dc_46 rfl
set_option maxRecDepth 20000 in
theorem dX8_done_7 : decode cX8_done 7 = .ok (.iconst 1, 1) := dc_4 rfl
set_option maxRecDepth 20000 in
theorem dX8_done_8 : decode cX8_done 8 = .ok (.iadd, 1) := dc_96 rfl
set_option maxRecDepth 20000 in
theorem dX8_done_9 : decode cX8_done 9 = .ok (.iastore, 1) := dc_79 rfl
set_option maxRecDepth 20000 in
theorem dX8_done_10 : decode cX8_done 10 = .ok (.iload_n 1, 1) := dc_27 rfl
set_option maxRecDepth 20000 in
theorem dX8_done_11 : decode cX8_done 11 = .ok (.ireturn, 1) := dc_172 rfl
def lb_sgX8_refused : List (List UInt8) := [[42, 180, 0, 31, 4, 92, 46, 4, 96, 79, 16, 247, 172]]
set_option maxRecDepth 100000 in
theorem lb_seX8_refused : cX8_refused.data.toList = lb_sgX8_refused.flatten := by decide +kernel
theorem lb_lnX8_refused : ∀ s ∈ lb_sgX8_refused.dropLast, s.length = 16 := by decide +kernel
theorem lxX8_refused (k j : Nat) {b : UInt8} (h : (lb_sgX8_refused[k]?).bind (fun s => s[j]?) = some b) : lb_at cX8_refused (16 * k + j) b := by
  unfold lb_at
  rw [lb_seX8_refused]
  exact lb_flat 16 lb_sgX8_refused k j b lb_lnX8_refused h
set_option maxRecDepth 20000 in
theorem dX8_refused_0 : decode cX8_refused 0 = .ok (.aload_n 0, 1) := dc_42 (lxX8_refused 0 0 rfl)
set_option maxRecDepth 20000 in
theorem dX8_refused_1 : decode cX8_refused 1 = .ok (.getfield 31, 3) := dc_180 0 31 (lxX8_refused 0 1 rfl) (lxX8_refused 0 2 rfl) (lxX8_refused 0 3 rfl)
set_option maxRecDepth 20000 in
theorem dX8_refused_4 : decode cX8_refused 4 = .ok (.iconst 1, 1) := dc_4 (lxX8_refused 0 4 rfl)
set_option maxRecDepth 20000 in
theorem dX8_refused_5 : decode cX8_refused 5 = .ok (.dup2, 1) := dc_92 (lxX8_refused 0 5 rfl)
set_option maxRecDepth 20000 in
theorem dX8_refused_6 : decode cX8_refused 6 = .ok (.iaload, 1) := dc_46 (lxX8_refused 0 6 rfl)
set_option maxRecDepth 20000 in
theorem dX8_refused_7 : decode cX8_refused 7 = .ok (.iconst 1, 1) := dc_4 (lxX8_refused 0 7 rfl)
set_option maxRecDepth 20000 in
theorem dX8_refused_8 : decode cX8_refused 8 = .ok (.iadd, 1) := dc_96 (lxX8_refused 0 8 rfl)
set_option maxRecDepth 20000 in
theorem dX8_refused_9 : decode cX8_refused 9 = .ok (.iastore, 1) := dc_79 (lxX8_refused 0 9 rfl)
set_option maxRecDepth 20000 in
theorem dX8_refused_10 : decode cX8_refused 10 = .ok (.bipush (-9), 2) := dc_16 247 (lxX8_refused 0 10 rfl) (lxX8_refused 0 11 rfl)
set_option maxRecDepth 20000 in
theorem dX8_refused_12 : decode cX8_refused 12 = .ok (.ireturn, 1) := dc_172 (lxX8_refused 0 12 rfl)
def lb_sgX8_fresh : List (List UInt8) := [[42, 180, 0, 45, 27, 96, 42, 180, 0, 7, 190, 164, 0, 33, 5, 42], [180, 0, 45, 27, 96, 104, 188, 10, 77, 42, 180, 0, 7, 3, 44, 3], [42, 180, 0, 45, 184, 0, 48, 42, 44, 181, 0, 7, 42, 89, 180, 0], [45, 27, 96, 181, 0, 45, 8, 188, 10, 89, 3, 42, 180, 0, 45, 27], [100, 79, 89, 4, 27, 79, 89, 5, 27, 79, 89, 6, 3, 79, 89, 7], [2, 79, 176]]
set_option maxRecDepth 100000 in
theorem lb_seX8_fresh : cX8_fresh.data.toList = lb_sgX8_fresh.flatten := by decide +kernel
theorem lb_lnX8_fresh : ∀ s ∈ lb_sgX8_fresh.dropLast, s.length = 16 := by decide +kernel
theorem lxX8_fresh (k j : Nat) {b : UInt8} (h : (lb_sgX8_fresh[k]?).bind (fun s => s[j]?) = some b) : lb_at cX8_fresh (16 * k + j) b := by
  unfold lb_at
  rw [lb_seX8_fresh]
  exact lb_flat 16 lb_sgX8_fresh k j b lb_lnX8_fresh h
set_option maxRecDepth 20000 in
theorem dX8_fresh_0 : decode cX8_fresh 0 = .ok (.aload_n 0, 1) := dc_42 (lxX8_fresh 0 0 rfl)
set_option maxRecDepth 20000 in
theorem dX8_fresh_1 : decode cX8_fresh 1 = .ok (.getfield 45, 3) := dc_180 0 45 (lxX8_fresh 0 1 rfl) (lxX8_fresh 0 2 rfl) (lxX8_fresh 0 3 rfl)
set_option maxRecDepth 20000 in
theorem dX8_fresh_4 : decode cX8_fresh 4 = .ok (.iload_n 1, 1) := dc_27 (lxX8_fresh 0 4 rfl)
set_option maxRecDepth 20000 in
theorem dX8_fresh_5 : decode cX8_fresh 5 = .ok (.iadd, 1) := dc_96 (lxX8_fresh 0 5 rfl)
set_option maxRecDepth 20000 in
theorem dX8_fresh_6 : decode cX8_fresh 6 = .ok (.aload_n 0, 1) := dc_42 (lxX8_fresh 0 6 rfl)
set_option maxRecDepth 20000 in
theorem dX8_fresh_7 : decode cX8_fresh 7 = .ok (.getfield 7, 3) := dc_180 0 7 (lxX8_fresh 0 7 rfl) (lxX8_fresh 0 8 rfl) (lxX8_fresh 0 9 rfl)
set_option maxRecDepth 20000 in
theorem dX8_fresh_10 : decode cX8_fresh 10 = .ok (.arraylength, 1) := dc_190 (lxX8_fresh 0 10 rfl)
set_option maxRecDepth 20000 in
theorem dX8_fresh_11 : decode cX8_fresh 11 = .ok (.if_icmp .le 33, 3) := dc_164 0 33 (lxX8_fresh 0 11 rfl) (lxX8_fresh 0 12 rfl) (lxX8_fresh 0 13 rfl)
set_option maxRecDepth 20000 in
theorem dX8_fresh_14 : decode cX8_fresh 14 = .ok (.iconst 2, 1) := dc_5 (lxX8_fresh 0 14 rfl)
set_option maxRecDepth 20000 in
theorem dX8_fresh_15 : decode cX8_fresh 15 = .ok (.aload_n 0, 1) := dc_42 (lxX8_fresh 0 15 rfl)
set_option maxRecDepth 20000 in
theorem dX8_fresh_16 : decode cX8_fresh 16 = .ok (.getfield 45, 3) := dc_180 0 45 (lxX8_fresh 1 0 rfl) (lxX8_fresh 1 1 rfl) (lxX8_fresh 1 2 rfl)
set_option maxRecDepth 20000 in
theorem dX8_fresh_19 : decode cX8_fresh 19 = .ok (.iload_n 1, 1) := dc_27 (lxX8_fresh 1 3 rfl)
set_option maxRecDepth 20000 in
theorem dX8_fresh_20 : decode cX8_fresh 20 = .ok (.iadd, 1) := dc_96 (lxX8_fresh 1 4 rfl)
set_option maxRecDepth 20000 in
theorem dX8_fresh_21 : decode cX8_fresh 21 = .ok (.imul, 1) := dc_104 (lxX8_fresh 1 5 rfl)
theorem dX8_fresh_22 : decode cX8_fresh 22 = .ok (.newarray .int, 2) := by decide +kernel
set_option maxRecDepth 20000 in
theorem dX8_fresh_24 : decode cX8_fresh 24 = .ok (.astore_n 2, 1) := dc_77 (lxX8_fresh 1 8 rfl)
set_option maxRecDepth 20000 in
theorem dX8_fresh_25 : decode cX8_fresh 25 = .ok (.aload_n 0, 1) := dc_42 (lxX8_fresh 1 9 rfl)
set_option maxRecDepth 20000 in
theorem dX8_fresh_26 : decode cX8_fresh 26 = .ok (.getfield 7, 3) := dc_180 0 7 (lxX8_fresh 1 10 rfl) (lxX8_fresh 1 11 rfl) (lxX8_fresh 1 12 rfl)
set_option maxRecDepth 20000 in
theorem dX8_fresh_29 : decode cX8_fresh 29 = .ok (.iconst 0, 1) := dc_3 (lxX8_fresh 1 13 rfl)
set_option maxRecDepth 20000 in
theorem dX8_fresh_30 : decode cX8_fresh 30 = .ok (.aload_n 2, 1) := dc_44 (lxX8_fresh 1 14 rfl)
set_option maxRecDepth 20000 in
theorem dX8_fresh_31 : decode cX8_fresh 31 = .ok (.iconst 0, 1) := dc_3 (lxX8_fresh 1 15 rfl)
set_option maxRecDepth 20000 in
theorem dX8_fresh_32 : decode cX8_fresh 32 = .ok (.aload_n 0, 1) := dc_42 (lxX8_fresh 2 0 rfl)
set_option maxRecDepth 20000 in
theorem dX8_fresh_33 : decode cX8_fresh 33 = .ok (.getfield 45, 3) := dc_180 0 45 (lxX8_fresh 2 1 rfl) (lxX8_fresh 2 2 rfl) (lxX8_fresh 2 3 rfl)
set_option maxRecDepth 20000 in
theorem dX8_fresh_36 : decode cX8_fresh 36 = .ok (.invokestatic 48, 3) := dc_184 0 48 (lxX8_fresh 2 4 rfl) (lxX8_fresh 2 5 rfl) (lxX8_fresh 2 6 rfl)
set_option maxRecDepth 20000 in
theorem dX8_fresh_39 : decode cX8_fresh 39 = .ok (.aload_n 0, 1) := dc_42 (lxX8_fresh 2 7 rfl)
set_option maxRecDepth 20000 in
theorem dX8_fresh_40 : decode cX8_fresh 40 = .ok (.aload_n 2, 1) := dc_44 (lxX8_fresh 2 8 rfl)
set_option maxRecDepth 20000 in
theorem dX8_fresh_41 : decode cX8_fresh 41 = .ok (.putfield 7, 3) := dc_181 0 7 (lxX8_fresh 2 9 rfl) (lxX8_fresh 2 10 rfl) (lxX8_fresh 2 11 rfl)
set_option maxRecDepth 20000 in
theorem dX8_fresh_44 : decode cX8_fresh 44 = .ok (.aload_n 0, 1) := dc_42 (lxX8_fresh 2 12 rfl)
set_option maxRecDepth 20000 in
theorem dX8_fresh_45 : decode cX8_fresh 45 = .ok (.dup, 1) := dc_89 (lxX8_fresh 2 13 rfl)
set_option maxRecDepth 20000 in
theorem dX8_fresh_46 : decode cX8_fresh 46 = .ok (.getfield 45, 3) := dc_180 0 45 (lxX8_fresh 2 14 rfl) (lxX8_fresh 2 15 rfl) (lxX8_fresh 3 0 rfl)
set_option maxRecDepth 20000 in
theorem dX8_fresh_49 : decode cX8_fresh 49 = .ok (.iload_n 1, 1) := dc_27 (lxX8_fresh 3 1 rfl)
set_option maxRecDepth 20000 in
theorem dX8_fresh_50 : decode cX8_fresh 50 = .ok (.iadd, 1) := dc_96 (lxX8_fresh 3 2 rfl)
set_option maxRecDepth 20000 in
theorem dX8_fresh_51 : decode cX8_fresh 51 = .ok (.putfield 45, 3) := dc_181 0 45 (lxX8_fresh 3 3 rfl) (lxX8_fresh 3 4 rfl) (lxX8_fresh 3 5 rfl)
set_option maxRecDepth 20000 in
theorem dX8_fresh_54 : decode cX8_fresh 54 = .ok (.iconst 5, 1) := dc_8 (lxX8_fresh 3 6 rfl)
theorem dX8_fresh_55 : decode cX8_fresh 55 = .ok (.newarray .int, 2) := by decide +kernel
set_option maxRecDepth 20000 in
theorem dX8_fresh_57 : decode cX8_fresh 57 = .ok (.dup, 1) := dc_89 (lxX8_fresh 3 9 rfl)
set_option maxRecDepth 20000 in
theorem dX8_fresh_58 : decode cX8_fresh 58 = .ok (.iconst 0, 1) := dc_3 (lxX8_fresh 3 10 rfl)
set_option maxRecDepth 20000 in
theorem dX8_fresh_59 : decode cX8_fresh 59 = .ok (.aload_n 0, 1) := dc_42 (lxX8_fresh 3 11 rfl)
set_option maxRecDepth 20000 in
theorem dX8_fresh_60 : decode cX8_fresh 60 = .ok (.getfield 45, 3) := dc_180 0 45 (lxX8_fresh 3 12 rfl) (lxX8_fresh 3 13 rfl) (lxX8_fresh 3 14 rfl)
set_option maxRecDepth 20000 in
theorem dX8_fresh_63 : decode cX8_fresh 63 = .ok (.iload_n 1, 1) := dc_27 (lxX8_fresh 3 15 rfl)
set_option maxRecDepth 20000 in
theorem dX8_fresh_64 : decode cX8_fresh 64 = .ok (.isub, 1) := dc_100 (lxX8_fresh 4 0 rfl)
set_option maxRecDepth 20000 in
theorem dX8_fresh_65 : decode cX8_fresh 65 = .ok (.iastore, 1) := dc_79 (lxX8_fresh 4 1 rfl)
set_option maxRecDepth 20000 in
theorem dX8_fresh_66 : decode cX8_fresh 66 = .ok (.dup, 1) := dc_89 (lxX8_fresh 4 2 rfl)
set_option maxRecDepth 20000 in
theorem dX8_fresh_67 : decode cX8_fresh 67 = .ok (.iconst 1, 1) := dc_4 (lxX8_fresh 4 3 rfl)
set_option maxRecDepth 20000 in
theorem dX8_fresh_68 : decode cX8_fresh 68 = .ok (.iload_n 1, 1) := dc_27 (lxX8_fresh 4 4 rfl)
set_option maxRecDepth 20000 in
theorem dX8_fresh_69 : decode cX8_fresh 69 = .ok (.iastore, 1) := dc_79 (lxX8_fresh 4 5 rfl)
set_option maxRecDepth 20000 in
theorem dX8_fresh_70 : decode cX8_fresh 70 = .ok (.dup, 1) := dc_89 (lxX8_fresh 4 6 rfl)
set_option maxRecDepth 20000 in
theorem dX8_fresh_71 : decode cX8_fresh 71 = .ok (.iconst 2, 1) := dc_5 (lxX8_fresh 4 7 rfl)
set_option maxRecDepth 20000 in
theorem dX8_fresh_72 : decode cX8_fresh 72 = .ok (.iload_n 1, 1) := dc_27 (lxX8_fresh 4 8 rfl)
set_option maxRecDepth 20000 in
theorem dX8_fresh_73 : decode cX8_fresh 73 = .ok (.iastore, 1) := dc_79 (lxX8_fresh 4 9 rfl)
set_option maxRecDepth 20000 in
theorem dX8_fresh_74 : decode cX8_fresh 74 = .ok (.dup, 1) := dc_89 (lxX8_fresh 4 10 rfl)
set_option maxRecDepth 20000 in
theorem dX8_fresh_75 : decode cX8_fresh 75 = .ok (.iconst 3, 1) := dc_6 (lxX8_fresh 4 11 rfl)
set_option maxRecDepth 20000 in
theorem dX8_fresh_76 : decode cX8_fresh 76 = .ok (.iconst 0, 1) := dc_3 (lxX8_fresh 4 12 rfl)
set_option maxRecDepth 20000 in
theorem dX8_fresh_77 : decode cX8_fresh 77 = .ok (.iastore, 1) := dc_79 (lxX8_fresh 4 13 rfl)
set_option maxRecDepth 20000 in
theorem dX8_fresh_78 : decode cX8_fresh 78 = .ok (.dup, 1) := dc_89 (lxX8_fresh 4 14 rfl)
set_option maxRecDepth 20000 in
theorem dX8_fresh_79 : decode cX8_fresh 79 = .ok (.iconst 4, 1) := dc_7 (lxX8_fresh 4 15 rfl)
set_option maxRecDepth 20000 in
theorem dX8_fresh_80 : decode cX8_fresh 80 = .ok (.iconst (-1), 1) := dc_2 (lxX8_fresh 5 0 rfl)
set_option maxRecDepth 20000 in
theorem dX8_fresh_81 : decode cX8_fresh 81 = .ok (.iastore, 1) := dc_79 (lxX8_fresh 5 1 rfl)
set_option maxRecDepth 20000 in
theorem dX8_fresh_82 : decode cX8_fresh 82 = .ok (.areturn, 1) := dc_176 (lxX8_fresh 5 2 rfl)
set_option maxRecDepth 20000 in
theorem dX8_length_0 : decode cX8_length 0 = .ok (.aload_n 0, 1) := dc_42 rfl
set_option maxRecDepth 20000 in
theorem dX8_length_1 : decode cX8_length 1 = .ok (.iconst 2, 1) := dc_5 rfl
set_option maxRecDepth 20000 in
theorem dX8_length_2 : decode cX8_length 2 = .ok (.iaload, 1) := dc_46 rfl
set_option maxRecDepth 20000 in
theorem dX8_length_3 : decode cX8_length 3 = .ok (.aload_n 0, 1) := dc_42 rfl
set_option maxRecDepth 20000 in
theorem dX8_length_4 : decode cX8_length 4 = .ok (.iconst 3, 1) := dc_6 rfl
set_option maxRecDepth 20000 in
theorem dX8_length_5 : decode cX8_length 5 = .ok (.iaload, 1) := dc_46 rfl
set_option maxRecDepth 20000 in
theorem dX8_length_6 : decode cX8_length 6 = .ok (.isub, 1) := dc_100 rfl
set_option maxRecDepth 20000 in
theorem dX8_length_7 : decode cX8_length 7 = .ok (.ireturn, 1) := dc_172 rfl
def lb_sgX8_text : List (List UInt8) := [[43, 184, 0, 54, 188, 10, 77, 3, 62, 29, 44, 190, 162, 0, 26, 44], [29, 42, 180, 0, 7, 43, 3, 46, 43, 6, 46, 96, 29, 96, 46, 79], [132, 3, 1, 167, 255, 230, 44, 176]]
set_option maxRecDepth 100000 in
theorem lb_seX8_text : cX8_text.data.toList = lb_sgX8_text.flatten := by decide +kernel
theorem lb_lnX8_text : ∀ s ∈ lb_sgX8_text.dropLast, s.length = 16 := by decide +kernel
theorem lxX8_text (k j : Nat) {b : UInt8} (h : (lb_sgX8_text[k]?).bind (fun s => s[j]?) = some b) : lb_at cX8_text (16 * k + j) b := by
  unfold lb_at
  rw [lb_seX8_text]
  exact lb_flat 16 lb_sgX8_text k j b lb_lnX8_text h
set_option maxRecDepth 20000 in
theorem dX8_text_0 : decode cX8_text 0 = .ok (.aload_n 1, 1) := dc_43 (lxX8_text 0 0 rfl)
set_option maxRecDepth 20000 in
theorem dX8_text_1 : decode cX8_text 1 = .ok (.invokestatic 54, 3) := dc_184 0 54 (lxX8_text 0 1 rfl) (lxX8_text 0 2 rfl) (lxX8_text 0 3 rfl)
theorem dX8_text_4 : decode cX8_text 4 = .ok (.newarray .int, 2) := by decide +kernel
set_option maxRecDepth 20000 in
theorem dX8_text_6 : decode cX8_text 6 = .ok (.astore_n 2, 1) := dc_77 (lxX8_text 0 6 rfl)
set_option maxRecDepth 20000 in
theorem dX8_text_7 : decode cX8_text 7 = .ok (.iconst 0, 1) := dc_3 (lxX8_text 0 7 rfl)
set_option maxRecDepth 20000 in
theorem dX8_text_8 : decode cX8_text 8 = .ok (.istore_n 3, 1) := dc_62 (lxX8_text 0 8 rfl)
set_option maxRecDepth 20000 in
theorem dX8_text_9 : decode cX8_text 9 = .ok (.iload_n 3, 1) := dc_29 (lxX8_text 0 9 rfl)
set_option maxRecDepth 20000 in
theorem dX8_text_10 : decode cX8_text 10 = .ok (.aload_n 2, 1) := dc_44 (lxX8_text 0 10 rfl)
set_option maxRecDepth 20000 in
theorem dX8_text_11 : decode cX8_text 11 = .ok (.arraylength, 1) := dc_190 (lxX8_text 0 11 rfl)
set_option maxRecDepth 20000 in
theorem dX8_text_12 : decode cX8_text 12 = .ok (.if_icmp .ge 26, 3) := dc_162 0 26 (lxX8_text 0 12 rfl) (lxX8_text 0 13 rfl) (lxX8_text 0 14 rfl)
set_option maxRecDepth 20000 in
theorem dX8_text_15 : decode cX8_text 15 = .ok (.aload_n 2, 1) := dc_44 (lxX8_text 0 15 rfl)
set_option maxRecDepth 20000 in
theorem dX8_text_16 : decode cX8_text 16 = .ok (.iload_n 3, 1) := dc_29 (lxX8_text 1 0 rfl)
set_option maxRecDepth 20000 in
theorem dX8_text_17 : decode cX8_text 17 = .ok (.aload_n 0, 1) := dc_42 (lxX8_text 1 1 rfl)
set_option maxRecDepth 20000 in
theorem dX8_text_18 : decode cX8_text 18 = .ok (.getfield 7, 3) := dc_180 0 7 (lxX8_text 1 2 rfl) (lxX8_text 1 3 rfl) (lxX8_text 1 4 rfl)
set_option maxRecDepth 20000 in
theorem dX8_text_21 : decode cX8_text 21 = .ok (.aload_n 1, 1) := dc_43 (lxX8_text 1 5 rfl)
set_option maxRecDepth 20000 in
theorem dX8_text_22 : decode cX8_text 22 = .ok (.iconst 0, 1) := dc_3 (lxX8_text 1 6 rfl)
set_option maxRecDepth 20000 in
theorem dX8_text_23 : decode cX8_text 23 = .ok (.iaload, 1) := dc_46 (lxX8_text 1 7 rfl)
set_option maxRecDepth 20000 in
theorem dX8_text_24 : decode cX8_text 24 = .ok (.aload_n 1, 1) := dc_43 (lxX8_text 1 8 rfl)
set_option maxRecDepth 20000 in
theorem dX8_text_25 : decode cX8_text 25 = .ok (.iconst 3, 1) := dc_6 (lxX8_text 1 9 rfl)
set_option maxRecDepth 20000 in
theorem dX8_text_26 : decode cX8_text 26 = .ok (.iaload, 1) := dc_46 (lxX8_text 1 10 rfl)
set_option maxRecDepth 20000 in
theorem dX8_text_27 : decode cX8_text 27 = .ok (.iadd, 1) := dc_96 (lxX8_text 1 11 rfl)
set_option maxRecDepth 20000 in
theorem dX8_text_28 : decode cX8_text 28 = .ok (.iload_n 3, 1) := dc_29 (lxX8_text 1 12 rfl)
set_option maxRecDepth 20000 in
theorem dX8_text_29 : decode cX8_text 29 = .ok (.iadd, 1) := dc_96 (lxX8_text 1 13 rfl)
set_option maxRecDepth 20000 in
theorem dX8_text_30 : decode cX8_text 30 = .ok (.iaload, 1) := dc_46 (lxX8_text 1 14 rfl)
set_option maxRecDepth 20000 in
theorem dX8_text_31 : decode cX8_text 31 = .ok (.iastore, 1) := dc_79 (lxX8_text 1 15 rfl)
set_option maxRecDepth 20000 in
theorem dX8_text_32 : decode cX8_text 32 = .ok (.iinc 3 1, 3) := dc_132 3 1 (lxX8_text 2 0 rfl) (lxX8_text 2 1 rfl) (lxX8_text 2 2 rfl)
set_option maxRecDepth 20000 in
theorem dX8_text_35 : decode cX8_text 35 = .ok (.goto (-26), 3) := dc_167 255 230 (lxX8_text 2 3 rfl) (lxX8_text 2 4 rfl) (lxX8_text 2 5 rfl)
set_option maxRecDepth 20000 in
theorem dX8_text_38 : decode cX8_text 38 = .ok (.aload_n 2, 1) := dc_44 (lxX8_text 2 6 rfl)
set_option maxRecDepth 20000 in
theorem dX8_text_39 : decode cX8_text 39 = .ok (.areturn, 1) := dc_176 (lxX8_text 2 7 rfl)
def lb_sgX8_textOf : List (List UInt8) := [[27, 16, 6, 160, 0, 10, 42, 180, 0, 18, 167, 0, 26, 27, 16, 7], [160, 0, 10, 42, 180, 0, 21, 167, 0, 13, 42, 42, 180, 0, 14, 27], [50, 182, 0, 58, 176]]
set_option maxRecDepth 100000 in
theorem lb_seX8_textOf : cX8_textOf.data.toList = lb_sgX8_textOf.flatten := by decide +kernel
theorem lb_lnX8_textOf : ∀ s ∈ lb_sgX8_textOf.dropLast, s.length = 16 := by decide +kernel
theorem lxX8_textOf (k j : Nat) {b : UInt8} (h : (lb_sgX8_textOf[k]?).bind (fun s => s[j]?) = some b) : lb_at cX8_textOf (16 * k + j) b := by
  unfold lb_at
  rw [lb_seX8_textOf]
  exact lb_flat 16 lb_sgX8_textOf k j b lb_lnX8_textOf h
set_option maxRecDepth 20000 in
theorem dX8_textOf_0 : decode cX8_textOf 0 = .ok (.iload_n 1, 1) := dc_27 (lxX8_textOf 0 0 rfl)
set_option maxRecDepth 20000 in
theorem dX8_textOf_1 : decode cX8_textOf 1 = .ok (.bipush 6, 2) := dc_16 6 (lxX8_textOf 0 1 rfl) (lxX8_textOf 0 2 rfl)
set_option maxRecDepth 20000 in
theorem dX8_textOf_3 : decode cX8_textOf 3 = .ok (.if_icmp .ne 10, 3) := dc_160 0 10 (lxX8_textOf 0 3 rfl) (lxX8_textOf 0 4 rfl) (lxX8_textOf 0 5 rfl)
set_option maxRecDepth 20000 in
theorem dX8_textOf_6 : decode cX8_textOf 6 = .ok (.aload_n 0, 1) := dc_42 (lxX8_textOf 0 6 rfl)
set_option maxRecDepth 20000 in
theorem dX8_textOf_7 : decode cX8_textOf 7 = .ok (.getfield 18, 3) := dc_180 0 18 (lxX8_textOf 0 7 rfl) (lxX8_textOf 0 8 rfl) (lxX8_textOf 0 9 rfl)
set_option maxRecDepth 20000 in
theorem dX8_textOf_10 : decode cX8_textOf 10 = .ok (.goto 26, 3) := dc_167 0 26 (lxX8_textOf 0 10 rfl) (lxX8_textOf 0 11 rfl) (lxX8_textOf 0 12 rfl)
set_option maxRecDepth 20000 in
theorem dX8_textOf_13 : decode cX8_textOf 13 = .ok (.iload_n 1, 1) := dc_27 (lxX8_textOf 0 13 rfl)
set_option maxRecDepth 20000 in
theorem dX8_textOf_14 : decode cX8_textOf 14 = .ok (.bipush 7, 2) := dc_16 7 (lxX8_textOf 0 14 rfl) (lxX8_textOf 0 15 rfl)
set_option maxRecDepth 20000 in
theorem dX8_textOf_16 : decode cX8_textOf 16 = .ok (.if_icmp .ne 10, 3) := dc_160 0 10 (lxX8_textOf 1 0 rfl) (lxX8_textOf 1 1 rfl) (lxX8_textOf 1 2 rfl)
set_option maxRecDepth 20000 in
theorem dX8_textOf_19 : decode cX8_textOf 19 = .ok (.aload_n 0, 1) := dc_42 (lxX8_textOf 1 3 rfl)
set_option maxRecDepth 20000 in
theorem dX8_textOf_20 : decode cX8_textOf 20 = .ok (.getfield 21, 3) := dc_180 0 21 (lxX8_textOf 1 4 rfl) (lxX8_textOf 1 5 rfl) (lxX8_textOf 1 6 rfl)
set_option maxRecDepth 20000 in
theorem dX8_textOf_23 : decode cX8_textOf 23 = .ok (.goto 13, 3) := dc_167 0 13 (lxX8_textOf 1 7 rfl) (lxX8_textOf 1 8 rfl) (lxX8_textOf 1 9 rfl)
set_option maxRecDepth 20000 in
theorem dX8_textOf_26 : decode cX8_textOf 26 = .ok (.aload_n 0, 1) := dc_42 (lxX8_textOf 1 10 rfl)
set_option maxRecDepth 20000 in
theorem dX8_textOf_27 : decode cX8_textOf 27 = .ok (.aload_n 0, 1) := dc_42 (lxX8_textOf 1 11 rfl)
set_option maxRecDepth 20000 in
theorem dX8_textOf_28 : decode cX8_textOf 28 = .ok (.getfield 14, 3) := dc_180 0 14 (lxX8_textOf 1 12 rfl) (lxX8_textOf 1 13 rfl) (lxX8_textOf 1 14 rfl)
set_option maxRecDepth 20000 in
theorem dX8_textOf_31 : decode cX8_textOf 31 = .ok (.iload_n 1, 1) := dc_27 (lxX8_textOf 1 15 rfl)
set_option maxRecDepth 20000 in
theorem dX8_textOf_32 : decode cX8_textOf 32 = .ok (.aaload, 1) := dc_50 (lxX8_textOf 2 0 rfl)
set_option maxRecDepth 20000 in
theorem dX8_textOf_33 : decode cX8_textOf 33 = .ok (.invokevirtual 58, 3) := dc_182 0 58 (lxX8_textOf 2 1 rfl) (lxX8_textOf 2 2 rfl) (lxX8_textOf 2 3 rfl)
set_option maxRecDepth 20000 in
theorem dX8_textOf_36 : decode cX8_textOf 36 = .ok (.areturn, 1) := dc_176 (lxX8_textOf 2 4 rfl)
def lb_sgX8_became : List (List UInt8) := [[42, 180, 0, 14, 27, 8, 188, 10, 89, 3, 28, 79, 89, 4, 29, 79], [89, 5, 21, 4, 79, 89, 6, 21, 5, 79, 89, 7, 21, 6, 79, 83], [42, 21, 4, 21, 5, 100, 182, 0, 62, 172]]
set_option maxRecDepth 100000 in
theorem lb_seX8_became : cX8_became.data.toList = lb_sgX8_became.flatten := by decide +kernel
theorem lb_lnX8_became : ∀ s ∈ lb_sgX8_became.dropLast, s.length = 16 := by decide +kernel
theorem lxX8_became (k j : Nat) {b : UInt8} (h : (lb_sgX8_became[k]?).bind (fun s => s[j]?) = some b) : lb_at cX8_became (16 * k + j) b := by
  unfold lb_at
  rw [lb_seX8_became]
  exact lb_flat 16 lb_sgX8_became k j b lb_lnX8_became h
set_option maxRecDepth 20000 in
theorem dX8_became_0 : decode cX8_became 0 = .ok (.aload_n 0, 1) := dc_42 (lxX8_became 0 0 rfl)
set_option maxRecDepth 20000 in
theorem dX8_became_1 : decode cX8_became 1 = .ok (.getfield 14, 3) := dc_180 0 14 (lxX8_became 0 1 rfl) (lxX8_became 0 2 rfl) (lxX8_became 0 3 rfl)
set_option maxRecDepth 20000 in
theorem dX8_became_4 : decode cX8_became 4 = .ok (.iload_n 1, 1) := dc_27 (lxX8_became 0 4 rfl)
set_option maxRecDepth 20000 in
theorem dX8_became_5 : decode cX8_became 5 = .ok (.iconst 5, 1) := dc_8 (lxX8_became 0 5 rfl)
theorem dX8_became_6 : decode cX8_became 6 = .ok (.newarray .int, 2) := by decide +kernel
set_option maxRecDepth 20000 in
theorem dX8_became_8 : decode cX8_became 8 = .ok (.dup, 1) := dc_89 (lxX8_became 0 8 rfl)
set_option maxRecDepth 20000 in
theorem dX8_became_9 : decode cX8_became 9 = .ok (.iconst 0, 1) := dc_3 (lxX8_became 0 9 rfl)
set_option maxRecDepth 20000 in
theorem dX8_became_10 : decode cX8_became 10 = .ok (.iload_n 2, 1) := dc_28 (lxX8_became 0 10 rfl)
set_option maxRecDepth 20000 in
theorem dX8_became_11 : decode cX8_became 11 = .ok (.iastore, 1) := dc_79 (lxX8_became 0 11 rfl)
set_option maxRecDepth 20000 in
theorem dX8_became_12 : decode cX8_became 12 = .ok (.dup, 1) := dc_89 (lxX8_became 0 12 rfl)
set_option maxRecDepth 20000 in
theorem dX8_became_13 : decode cX8_became 13 = .ok (.iconst 1, 1) := dc_4 (lxX8_became 0 13 rfl)
set_option maxRecDepth 20000 in
theorem dX8_became_14 : decode cX8_became 14 = .ok (.iload_n 3, 1) := dc_29 (lxX8_became 0 14 rfl)
set_option maxRecDepth 20000 in
theorem dX8_became_15 : decode cX8_became 15 = .ok (.iastore, 1) := dc_79 (lxX8_became 0 15 rfl)
set_option maxRecDepth 20000 in
theorem dX8_became_16 : decode cX8_became 16 = .ok (.dup, 1) := dc_89 (lxX8_became 1 0 rfl)
set_option maxRecDepth 20000 in
theorem dX8_became_17 : decode cX8_became 17 = .ok (.iconst 2, 1) := dc_5 (lxX8_became 1 1 rfl)
set_option maxRecDepth 20000 in
theorem dX8_became_18 : decode cX8_became 18 = .ok (.iload 4, 2) := dc_21 4 (lxX8_became 1 2 rfl) (lxX8_became 1 3 rfl)
set_option maxRecDepth 20000 in
theorem dX8_became_20 : decode cX8_became 20 = .ok (.iastore, 1) := dc_79 (lxX8_became 1 4 rfl)
set_option maxRecDepth 20000 in
theorem dX8_became_21 : decode cX8_became 21 = .ok (.dup, 1) := dc_89 (lxX8_became 1 5 rfl)
set_option maxRecDepth 20000 in
theorem dX8_became_22 : decode cX8_became 22 = .ok (.iconst 3, 1) := dc_6 (lxX8_became 1 6 rfl)
set_option maxRecDepth 20000 in
theorem dX8_became_23 : decode cX8_became 23 = .ok (.iload 5, 2) := dc_21 5 (lxX8_became 1 7 rfl) (lxX8_became 1 8 rfl)
set_option maxRecDepth 20000 in
theorem dX8_became_25 : decode cX8_became 25 = .ok (.iastore, 1) := dc_79 (lxX8_became 1 9 rfl)
set_option maxRecDepth 20000 in
theorem dX8_became_26 : decode cX8_became 26 = .ok (.dup, 1) := dc_89 (lxX8_became 1 10 rfl)
set_option maxRecDepth 20000 in
theorem dX8_became_27 : decode cX8_became 27 = .ok (.iconst 4, 1) := dc_7 (lxX8_became 1 11 rfl)
set_option maxRecDepth 20000 in
theorem dX8_became_28 : decode cX8_became 28 = .ok (.iload 6, 2) := dc_21 6 (lxX8_became 1 12 rfl) (lxX8_became 1 13 rfl)
set_option maxRecDepth 20000 in
theorem dX8_became_30 : decode cX8_became 30 = .ok (.iastore, 1) := dc_79 (lxX8_became 1 14 rfl)
set_option maxRecDepth 20000 in
theorem dX8_became_31 : decode cX8_became 31 = .ok (.aastore, 1) := dc_83 (lxX8_became 1 15 rfl)
set_option maxRecDepth 20000 in
theorem dX8_became_32 : decode cX8_became 32 = .ok (.aload_n 0, 1) := dc_42 (lxX8_became 2 0 rfl)
set_option maxRecDepth 20000 in
theorem dX8_became_33 : decode cX8_became 33 = .ok (.iload 4, 2) := dc_21 4 (lxX8_became 2 1 rfl) (lxX8_became 2 2 rfl)
set_option maxRecDepth 20000 in
theorem dX8_became_35 : decode cX8_became 35 = .ok (.iload 5, 2) := dc_21 5 (lxX8_became 2 3 rfl) (lxX8_became 2 4 rfl)
set_option maxRecDepth 20000 in
theorem dX8_became_37 : decode cX8_became 37 = .ok (.isub, 1) := dc_100 (lxX8_became 2 5 rfl)
set_option maxRecDepth 20000 in
theorem dX8_became_38 : decode cX8_became 38 = .ok (.invokevirtual 62, 3) := dc_182 0 62 (lxX8_became 2 6 rfl) (lxX8_became 2 7 rfl) (lxX8_became 2 8 rfl)
set_option maxRecDepth 20000 in
theorem dX8_became_41 : decode cX8_became 41 = .ok (.ireturn, 1) := dc_172 (lxX8_became 2 9 rfl)
def lb_sgX8_write : List (List UInt8) := [[42, 180, 0, 7, 43, 3, 46, 43, 6, 92, 46, 91, 4, 96, 79, 96], [28, 79, 177]]
set_option maxRecDepth 100000 in
theorem lb_seX8_write : cX8_write.data.toList = lb_sgX8_write.flatten := by decide +kernel
theorem lb_lnX8_write : ∀ s ∈ lb_sgX8_write.dropLast, s.length = 16 := by decide +kernel
theorem lxX8_write (k j : Nat) {b : UInt8} (h : (lb_sgX8_write[k]?).bind (fun s => s[j]?) = some b) : lb_at cX8_write (16 * k + j) b := by
  unfold lb_at
  rw [lb_seX8_write]
  exact lb_flat 16 lb_sgX8_write k j b lb_lnX8_write h
set_option maxRecDepth 20000 in
theorem dX8_write_0 : decode cX8_write 0 = .ok (.aload_n 0, 1) := dc_42 (lxX8_write 0 0 rfl)
set_option maxRecDepth 20000 in
theorem dX8_write_1 : decode cX8_write 1 = .ok (.getfield 7, 3) := dc_180 0 7 (lxX8_write 0 1 rfl) (lxX8_write 0 2 rfl) (lxX8_write 0 3 rfl)
set_option maxRecDepth 20000 in
theorem dX8_write_4 : decode cX8_write 4 = .ok (.aload_n 1, 1) := dc_43 (lxX8_write 0 4 rfl)
set_option maxRecDepth 20000 in
theorem dX8_write_5 : decode cX8_write 5 = .ok (.iconst 0, 1) := dc_3 (lxX8_write 0 5 rfl)
set_option maxRecDepth 20000 in
theorem dX8_write_6 : decode cX8_write 6 = .ok (.iaload, 1) := dc_46 (lxX8_write 0 6 rfl)
set_option maxRecDepth 20000 in
theorem dX8_write_7 : decode cX8_write 7 = .ok (.aload_n 1, 1) := dc_43 (lxX8_write 0 7 rfl)
set_option maxRecDepth 20000 in
theorem dX8_write_8 : decode cX8_write 8 = .ok (.iconst 3, 1) := dc_6 (lxX8_write 0 8 rfl)
set_option maxRecDepth 20000 in
theorem dX8_write_9 : decode cX8_write 9 = .ok (.dup2, 1) := dc_92 (lxX8_write 0 9 rfl)
set_option maxRecDepth 20000 in
theorem dX8_write_10 : decode cX8_write 10 = .ok (.iaload, 1) := dc_46 (lxX8_write 0 10 rfl)
set_option maxRecDepth 20000 in
theorem dX8_write_11 : decode cX8_write 11 = .ok (.dup_x2, 1) := dc_91 (lxX8_write 0 11 rfl)
set_option maxRecDepth 20000 in
theorem dX8_write_12 : decode cX8_write 12 = .ok (.iconst 1, 1) := dc_4 (lxX8_write 0 12 rfl)
set_option maxRecDepth 20000 in
theorem dX8_write_13 : decode cX8_write 13 = .ok (.iadd, 1) := dc_96 (lxX8_write 0 13 rfl)
set_option maxRecDepth 20000 in
theorem dX8_write_14 : decode cX8_write 14 = .ok (.iastore, 1) := dc_79 (lxX8_write 0 14 rfl)
set_option maxRecDepth 20000 in
theorem dX8_write_15 : decode cX8_write 15 = .ok (.iadd, 1) := dc_96 (lxX8_write 0 15 rfl)
set_option maxRecDepth 20000 in
theorem dX8_write_16 : decode cX8_write 16 = .ok (.iload_n 2, 1) := dc_28 (lxX8_write 1 0 rfl)
set_option maxRecDepth 20000 in
theorem dX8_write_17 : decode cX8_write 17 = .ok (.iastore, 1) := dc_79 (lxX8_write 1 1 rfl)
set_option maxRecDepth 20000 in
theorem dX8_write_18 : decode cX8_write 18 = .ok (.return_, 1) := dc_177 (lxX8_write 1 2 rfl)
def lb_sgX8_read : List (List UInt8) := [[42, 180, 0, 7, 43, 3, 46, 43, 6, 92, 46, 91, 4, 96, 79, 96], [46, 172]]
set_option maxRecDepth 100000 in
theorem lb_seX8_read : cX8_read.data.toList = lb_sgX8_read.flatten := by decide +kernel
theorem lb_lnX8_read : ∀ s ∈ lb_sgX8_read.dropLast, s.length = 16 := by decide +kernel
theorem lxX8_read (k j : Nat) {b : UInt8} (h : (lb_sgX8_read[k]?).bind (fun s => s[j]?) = some b) : lb_at cX8_read (16 * k + j) b := by
  unfold lb_at
  rw [lb_seX8_read]
  exact lb_flat 16 lb_sgX8_read k j b lb_lnX8_read h
set_option maxRecDepth 20000 in
theorem dX8_read_0 : decode cX8_read 0 = .ok (.aload_n 0, 1) := dc_42 (lxX8_read 0 0 rfl)
set_option maxRecDepth 20000 in
theorem dX8_read_1 : decode cX8_read 1 = .ok (.getfield 7, 3) := dc_180 0 7 (lxX8_read 0 1 rfl) (lxX8_read 0 2 rfl) (lxX8_read 0 3 rfl)
set_option maxRecDepth 20000 in
theorem dX8_read_4 : decode cX8_read 4 = .ok (.aload_n 1, 1) := dc_43 (lxX8_read 0 4 rfl)
set_option maxRecDepth 20000 in
theorem dX8_read_5 : decode cX8_read 5 = .ok (.iconst 0, 1) := dc_3 (lxX8_read 0 5 rfl)
set_option maxRecDepth 20000 in
theorem dX8_read_6 : decode cX8_read 6 = .ok (.iaload, 1) := dc_46 (lxX8_read 0 6 rfl)
set_option maxRecDepth 20000 in
theorem dX8_read_7 : decode cX8_read 7 = .ok (.aload_n 1, 1) := dc_43 (lxX8_read 0 7 rfl)
set_option maxRecDepth 20000 in
theorem dX8_read_8 : decode cX8_read 8 = .ok (.iconst 3, 1) := dc_6 (lxX8_read 0 8 rfl)
set_option maxRecDepth 20000 in
theorem dX8_read_9 : decode cX8_read 9 = .ok (.dup2, 1) := dc_92 (lxX8_read 0 9 rfl)
set_option maxRecDepth 20000 in
theorem dX8_read_10 : decode cX8_read 10 = .ok (.iaload, 1) := dc_46 (lxX8_read 0 10 rfl)
set_option maxRecDepth 20000 in
theorem dX8_read_11 : decode cX8_read 11 = .ok (.dup_x2, 1) := dc_91 (lxX8_read 0 11 rfl)
set_option maxRecDepth 20000 in
theorem dX8_read_12 : decode cX8_read 12 = .ok (.iconst 1, 1) := dc_4 (lxX8_read 0 12 rfl)
set_option maxRecDepth 20000 in
theorem dX8_read_13 : decode cX8_read 13 = .ok (.iadd, 1) := dc_96 (lxX8_read 0 13 rfl)
set_option maxRecDepth 20000 in
theorem dX8_read_14 : decode cX8_read 14 = .ok (.iastore, 1) := dc_79 (lxX8_read 0 14 rfl)
set_option maxRecDepth 20000 in
theorem dX8_read_15 : decode cX8_read 15 = .ok (.iadd, 1) := dc_96 (lxX8_read 0 15 rfl)
set_option maxRecDepth 20000 in
theorem dX8_read_16 : decode cX8_read 16 = .ok (.iaload, 1) := dc_46 (lxX8_read 1 0 rfl)
set_option maxRecDepth 20000 in
theorem dX8_read_17 : decode cX8_read 17 = .ok (.ireturn, 1) := dc_172 (lxX8_read 1 1 rfl)
def lb_sgX8_place : List (List UInt8) := [[42, 6, 27, 79, 42, 5, 28, 79, 42, 7, 29, 79, 177]]
set_option maxRecDepth 100000 in
theorem lb_seX8_place : cX8_place.data.toList = lb_sgX8_place.flatten := by decide +kernel
theorem lb_lnX8_place : ∀ s ∈ lb_sgX8_place.dropLast, s.length = 16 := by decide +kernel
theorem lxX8_place (k j : Nat) {b : UInt8} (h : (lb_sgX8_place[k]?).bind (fun s => s[j]?) = some b) : lb_at cX8_place (16 * k + j) b := by
  unfold lb_at
  rw [lb_seX8_place]
  exact lb_flat 16 lb_sgX8_place k j b lb_lnX8_place h
set_option maxRecDepth 20000 in
theorem dX8_place_0 : decode cX8_place 0 = .ok (.aload_n 0, 1) := dc_42 (lxX8_place 0 0 rfl)
set_option maxRecDepth 20000 in
theorem dX8_place_1 : decode cX8_place 1 = .ok (.iconst 3, 1) := dc_6 (lxX8_place 0 1 rfl)
set_option maxRecDepth 20000 in
theorem dX8_place_2 : decode cX8_place 2 = .ok (.iload_n 1, 1) := dc_27 (lxX8_place 0 2 rfl)
set_option maxRecDepth 20000 in
theorem dX8_place_3 : decode cX8_place 3 = .ok (.iastore, 1) := dc_79 (lxX8_place 0 3 rfl)
set_option maxRecDepth 20000 in
theorem dX8_place_4 : decode cX8_place 4 = .ok (.aload_n 0, 1) := dc_42 (lxX8_place 0 4 rfl)
set_option maxRecDepth 20000 in
theorem dX8_place_5 : decode cX8_place 5 = .ok (.iconst 2, 1) := dc_5 (lxX8_place 0 5 rfl)
set_option maxRecDepth 20000 in
theorem dX8_place_6 : decode cX8_place 6 = .ok (.iload_n 2, 1) := dc_28 (lxX8_place 0 6 rfl)
set_option maxRecDepth 20000 in
theorem dX8_place_7 : decode cX8_place 7 = .ok (.iastore, 1) := dc_79 (lxX8_place 0 7 rfl)
set_option maxRecDepth 20000 in
theorem dX8_place_8 : decode cX8_place 8 = .ok (.aload_n 0, 1) := dc_42 (lxX8_place 0 8 rfl)
set_option maxRecDepth 20000 in
theorem dX8_place_9 : decode cX8_place 9 = .ok (.iconst 4, 1) := dc_7 (lxX8_place 0 9 rfl)
set_option maxRecDepth 20000 in
theorem dX8_place_10 : decode cX8_place 10 = .ok (.iload_n 3, 1) := dc_29 (lxX8_place 0 10 rfl)
set_option maxRecDepth 20000 in
theorem dX8_place_11 : decode cX8_place 11 = .ok (.iastore, 1) := dc_79 (lxX8_place 0 11 rfl)
set_option maxRecDepth 20000 in
theorem dX8_place_12 : decode cX8_place 12 = .ok (.return_, 1) := dc_177 (lxX8_place 0 12 rfl)
def lb_sgX8_told : List (List UInt8) := [[187, 0, 66, 89, 183, 0, 68, 78, 27, 54, 4, 21, 4, 28, 162, 0], [19, 45, 42, 21, 4, 46, 146, 182, 0, 69, 87, 132, 4, 1, 167, 255], [237, 45, 182, 0, 73, 176]]
set_option maxRecDepth 100000 in
theorem lb_seX8_told : cX8_told.data.toList = lb_sgX8_told.flatten := by decide +kernel
theorem lb_lnX8_told : ∀ s ∈ lb_sgX8_told.dropLast, s.length = 16 := by decide +kernel
theorem lxX8_told (k j : Nat) {b : UInt8} (h : (lb_sgX8_told[k]?).bind (fun s => s[j]?) = some b) : lb_at cX8_told (16 * k + j) b := by
  unfold lb_at
  rw [lb_seX8_told]
  exact lb_flat 16 lb_sgX8_told k j b lb_lnX8_told h
set_option maxRecDepth 20000 in
theorem dX8_told_0 : decode cX8_told 0 = .ok (.new 66, 3) := dc_187 0 66 (lxX8_told 0 0 rfl) (lxX8_told 0 1 rfl) (lxX8_told 0 2 rfl)
set_option maxRecDepth 20000 in
theorem dX8_told_3 : decode cX8_told 3 = .ok (.dup, 1) := dc_89 (lxX8_told 0 3 rfl)
set_option maxRecDepth 20000 in
theorem dX8_told_4 : decode cX8_told 4 = .ok (.invokespecial 68, 3) := dc_183 0 68 (lxX8_told 0 4 rfl) (lxX8_told 0 5 rfl) (lxX8_told 0 6 rfl)
set_option maxRecDepth 20000 in
theorem dX8_told_7 : decode cX8_told 7 = .ok (.astore_n 3, 1) := dc_78 (lxX8_told 0 7 rfl)
set_option maxRecDepth 20000 in
theorem dX8_told_8 : decode cX8_told 8 = .ok (.iload_n 1, 1) := dc_27 (lxX8_told 0 8 rfl)
set_option maxRecDepth 20000 in
theorem dX8_told_9 : decode cX8_told 9 = .ok (.istore 4, 2) := dc_54 4 (lxX8_told 0 9 rfl) (lxX8_told 0 10 rfl)
set_option maxRecDepth 20000 in
theorem dX8_told_11 : decode cX8_told 11 = .ok (.iload 4, 2) := dc_21 4 (lxX8_told 0 11 rfl) (lxX8_told 0 12 rfl)
set_option maxRecDepth 20000 in
theorem dX8_told_13 : decode cX8_told 13 = .ok (.iload_n 2, 1) := dc_28 (lxX8_told 0 13 rfl)
set_option maxRecDepth 20000 in
theorem dX8_told_14 : decode cX8_told 14 = .ok (.if_icmp .ge 19, 3) := dc_162 0 19 (lxX8_told 0 14 rfl) (lxX8_told 0 15 rfl) (lxX8_told 1 0 rfl)
set_option maxRecDepth 20000 in
theorem dX8_told_17 : decode cX8_told 17 = .ok (.aload_n 3, 1) := dc_45 (lxX8_told 1 1 rfl)
set_option maxRecDepth 20000 in
theorem dX8_told_18 : decode cX8_told 18 = .ok (.aload_n 0, 1) := dc_42 (lxX8_told 1 2 rfl)
set_option maxRecDepth 20000 in
theorem dX8_told_19 : decode cX8_told 19 = .ok (.iload 4, 2) := dc_21 4 (lxX8_told 1 3 rfl) (lxX8_told 1 4 rfl)
set_option maxRecDepth 20000 in
theorem dX8_told_21 : decode cX8_told 21 = .ok (.iaload, 1) := dc_46 (lxX8_told 1 5 rfl)
set_option maxRecDepth 20000 in
theorem dX8_told_22 : decode cX8_told 22 = .ok (.i2c, 1) := dc_146 (lxX8_told 1 6 rfl)
set_option maxRecDepth 20000 in
theorem dX8_told_23 : decode cX8_told 23 = .ok (.invokevirtual 69, 3) := dc_182 0 69 (lxX8_told 1 7 rfl) (lxX8_told 1 8 rfl) (lxX8_told 1 9 rfl)
set_option maxRecDepth 20000 in
theorem dX8_told_26 : decode cX8_told 26 = .ok (.pop, 1) := dc_87 (lxX8_told 1 10 rfl)
set_option maxRecDepth 20000 in
theorem dX8_told_27 : decode cX8_told 27 = .ok (.iinc 4 1, 3) := dc_132 4 1 (lxX8_told 1 11 rfl) (lxX8_told 1 12 rfl) (lxX8_told 1 13 rfl)
set_option maxRecDepth 20000 in
theorem dX8_told_30 : decode cX8_told 30 = .ok (.goto (-19), 3) := dc_167 255 237 (lxX8_told 1 14 rfl) (lxX8_told 1 15 rfl) (lxX8_told 2 0 rfl)
set_option maxRecDepth 20000 in
theorem dX8_told_33 : decode cX8_told 33 = .ok (.aload_n 3, 1) := dc_45 (lxX8_told 2 1 rfl)
set_option maxRecDepth 20000 in
theorem dX8_told_34 : decode cX8_told 34 = .ok (.invokevirtual 73, 3) := dc_182 0 73 (lxX8_told 2 2 rfl) (lxX8_told 2 3 rfl) (lxX8_told 2 4 rfl)
set_option maxRecDepth 20000 in
theorem dX8_told_37 : decode cX8_told 37 = .ok (.areturn, 1) := dc_176 (lxX8_told 2 5 rfl)
def lb_sgX8_letter : List (List UInt8) := [[26, 61, 3, 62, 29, 27, 162, 0, 13, 28, 6, 108, 61, 132, 3, 1], [167, 255, 244, 16, 97, 28, 6, 112, 96, 172]]
set_option maxRecDepth 100000 in
theorem lb_seX8_letter : cX8_letter.data.toList = lb_sgX8_letter.flatten := by decide +kernel
theorem lb_lnX8_letter : ∀ s ∈ lb_sgX8_letter.dropLast, s.length = 16 := by decide +kernel
theorem lxX8_letter (k j : Nat) {b : UInt8} (h : (lb_sgX8_letter[k]?).bind (fun s => s[j]?) = some b) : lb_at cX8_letter (16 * k + j) b := by
  unfold lb_at
  rw [lb_seX8_letter]
  exact lb_flat 16 lb_sgX8_letter k j b lb_lnX8_letter h
set_option maxRecDepth 20000 in
theorem dX8_letter_0 : decode cX8_letter 0 = .ok (.iload_n 0, 1) := dc_26 (lxX8_letter 0 0 rfl)
set_option maxRecDepth 20000 in
theorem dX8_letter_1 : decode cX8_letter 1 = .ok (.istore_n 2, 1) := dc_61 (lxX8_letter 0 1 rfl)
set_option maxRecDepth 20000 in
theorem dX8_letter_2 : decode cX8_letter 2 = .ok (.iconst 0, 1) := dc_3 (lxX8_letter 0 2 rfl)
set_option maxRecDepth 20000 in
theorem dX8_letter_3 : decode cX8_letter 3 = .ok (.istore_n 3, 1) := dc_62 (lxX8_letter 0 3 rfl)
set_option maxRecDepth 20000 in
theorem dX8_letter_4 : decode cX8_letter 4 = .ok (.iload_n 3, 1) := dc_29 (lxX8_letter 0 4 rfl)
set_option maxRecDepth 20000 in
theorem dX8_letter_5 : decode cX8_letter 5 = .ok (.iload_n 1, 1) := dc_27 (lxX8_letter 0 5 rfl)
set_option maxRecDepth 20000 in
theorem dX8_letter_6 : decode cX8_letter 6 = .ok (.if_icmp .ge 13, 3) := dc_162 0 13 (lxX8_letter 0 6 rfl) (lxX8_letter 0 7 rfl) (lxX8_letter 0 8 rfl)
set_option maxRecDepth 20000 in
theorem dX8_letter_9 : decode cX8_letter 9 = .ok (.iload_n 2, 1) := dc_28 (lxX8_letter 0 9 rfl)
set_option maxRecDepth 20000 in
theorem dX8_letter_10 : decode cX8_letter 10 = .ok (.iconst 3, 1) := dc_6 (lxX8_letter 0 10 rfl)
set_option maxRecDepth 20000 in
theorem dX8_letter_11 : decode cX8_letter 11 = .ok (.idiv, 1) := dc_108 (lxX8_letter 0 11 rfl)
set_option maxRecDepth 20000 in
theorem dX8_letter_12 : decode cX8_letter 12 = .ok (.istore_n 2, 1) := dc_61 (lxX8_letter 0 12 rfl)
set_option maxRecDepth 20000 in
theorem dX8_letter_13 : decode cX8_letter 13 = .ok (.iinc 3 1, 3) := dc_132 3 1 (lxX8_letter 0 13 rfl) (lxX8_letter 0 14 rfl) (lxX8_letter 0 15 rfl)
set_option maxRecDepth 20000 in
theorem dX8_letter_16 : decode cX8_letter 16 = .ok (.goto (-12), 3) := dc_167 255 244 (lxX8_letter 1 0 rfl) (lxX8_letter 1 1 rfl) (lxX8_letter 1 2 rfl)
set_option maxRecDepth 20000 in
theorem dX8_letter_19 : decode cX8_letter 19 = .ok (.bipush 97, 2) := dc_16 97 (lxX8_letter 1 3 rfl) (lxX8_letter 1 4 rfl)
set_option maxRecDepth 20000 in
theorem dX8_letter_21 : decode cX8_letter 21 = .ok (.iload_n 2, 1) := dc_28 (lxX8_letter 1 5 rfl)
set_option maxRecDepth 20000 in
theorem dX8_letter_22 : decode cX8_letter 22 = .ok (.iconst 3, 1) := dc_6 (lxX8_letter 1 6 rfl)
set_option maxRecDepth 20000 in
theorem dX8_letter_23 : decode cX8_letter 23 = .ok (.irem, 1) := dc_112 (lxX8_letter 1 7 rfl)
set_option maxRecDepth 20000 in
theorem dX8_letter_24 : decode cX8_letter 24 = .ok (.iadd, 1) := dc_96 (lxX8_letter 1 8 rfl)
set_option maxRecDepth 20000 in
theorem dX8_letter_25 : decode cX8_letter 25 = .ok (.ireturn, 1) := dc_172 (lxX8_letter 1 9 rfl)
def lb_sgX8_allocate : List (List UInt8) := [[42, 27, 184, 0, 77, 28, 3, 16, 40, 184, 0, 41, 182, 0, 81, 153], [0, 5, 3, 172, 42, 180, 0, 14, 27, 42, 28, 182, 0, 34, 83, 42], [28, 182, 0, 62, 172]]
set_option maxRecDepth 100000 in
theorem lb_seX8_allocate : cX8_allocate.data.toList = lb_sgX8_allocate.flatten := by decide +kernel
theorem lb_lnX8_allocate : ∀ s ∈ lb_sgX8_allocate.dropLast, s.length = 16 := by decide +kernel
theorem lxX8_allocate (k j : Nat) {b : UInt8} (h : (lb_sgX8_allocate[k]?).bind (fun s => s[j]?) = some b) : lb_at cX8_allocate (16 * k + j) b := by
  unfold lb_at
  rw [lb_seX8_allocate]
  exact lb_flat 16 lb_sgX8_allocate k j b lb_lnX8_allocate h
set_option maxRecDepth 20000 in
theorem dX8_allocate_0 : decode cX8_allocate 0 = .ok (.aload_n 0, 1) := dc_42 (lxX8_allocate 0 0 rfl)
set_option maxRecDepth 20000 in
theorem dX8_allocate_1 : decode cX8_allocate 1 = .ok (.iload_n 1, 1) := dc_27 (lxX8_allocate 0 1 rfl)
set_option maxRecDepth 20000 in
theorem dX8_allocate_2 : decode cX8_allocate 2 = .ok (.invokestatic 77, 3) := dc_184 0 77 (lxX8_allocate 0 2 rfl) (lxX8_allocate 0 3 rfl) (lxX8_allocate 0 4 rfl)
set_option maxRecDepth 20000 in
theorem dX8_allocate_5 : decode cX8_allocate 5 = .ok (.iload_n 2, 1) := dc_28 (lxX8_allocate 0 5 rfl)
set_option maxRecDepth 20000 in
theorem dX8_allocate_6 : decode cX8_allocate 6 = .ok (.iconst 0, 1) := dc_3 (lxX8_allocate 0 6 rfl)
set_option maxRecDepth 20000 in
theorem dX8_allocate_7 : decode cX8_allocate 7 = .ok (.bipush 40, 2) := dc_16 40 (lxX8_allocate 0 7 rfl) (lxX8_allocate 0 8 rfl)
set_option maxRecDepth 20000 in
theorem dX8_allocate_9 : decode cX8_allocate 9 = .ok (.invokestatic 41, 3) := dc_184 0 41 (lxX8_allocate 0 9 rfl) (lxX8_allocate 0 10 rfl) (lxX8_allocate 0 11 rfl)
set_option maxRecDepth 20000 in
theorem dX8_allocate_12 : decode cX8_allocate 12 = .ok (.invokevirtual 81, 3) := dc_182 0 81 (lxX8_allocate 0 12 rfl) (lxX8_allocate 0 13 rfl) (lxX8_allocate 0 14 rfl)
set_option maxRecDepth 20000 in
theorem dX8_allocate_15 : decode cX8_allocate 15 = .ok (.ifCond .eq 5, 3) := dc_153 0 5 (lxX8_allocate 0 15 rfl) (lxX8_allocate 1 0 rfl) (lxX8_allocate 1 1 rfl)
set_option maxRecDepth 20000 in
theorem dX8_allocate_18 : decode cX8_allocate 18 = .ok (.iconst 0, 1) := dc_3 (lxX8_allocate 1 2 rfl)
set_option maxRecDepth 20000 in
theorem dX8_allocate_19 : decode cX8_allocate 19 = .ok (.ireturn, 1) := dc_172 (lxX8_allocate 1 3 rfl)
set_option maxRecDepth 20000 in
theorem dX8_allocate_20 : decode cX8_allocate 20 = .ok (.aload_n 0, 1) := dc_42 (lxX8_allocate 1 4 rfl)
set_option maxRecDepth 20000 in
theorem dX8_allocate_21 : decode cX8_allocate 21 = .ok (.getfield 14, 3) := dc_180 0 14 (lxX8_allocate 1 5 rfl) (lxX8_allocate 1 6 rfl) (lxX8_allocate 1 7 rfl)
set_option maxRecDepth 20000 in
theorem dX8_allocate_24 : decode cX8_allocate 24 = .ok (.iload_n 1, 1) := dc_27 (lxX8_allocate 1 8 rfl)
set_option maxRecDepth 20000 in
theorem dX8_allocate_25 : decode cX8_allocate 25 = .ok (.aload_n 0, 1) := dc_42 (lxX8_allocate 1 9 rfl)
set_option maxRecDepth 20000 in
theorem dX8_allocate_26 : decode cX8_allocate 26 = .ok (.iload_n 2, 1) := dc_28 (lxX8_allocate 1 10 rfl)
set_option maxRecDepth 20000 in
theorem dX8_allocate_27 : decode cX8_allocate 27 = .ok (.invokevirtual 34, 3) := dc_182 0 34 (lxX8_allocate 1 11 rfl) (lxX8_allocate 1 12 rfl) (lxX8_allocate 1 13 rfl)
set_option maxRecDepth 20000 in
theorem dX8_allocate_30 : decode cX8_allocate 30 = .ok (.aastore, 1) := dc_83 (lxX8_allocate 1 14 rfl)
set_option maxRecDepth 20000 in
theorem dX8_allocate_31 : decode cX8_allocate 31 = .ok (.aload_n 0, 1) := dc_42 (lxX8_allocate 1 15 rfl)
set_option maxRecDepth 20000 in
theorem dX8_allocate_32 : decode cX8_allocate 32 = .ok (.iload_n 2, 1) := dc_28 (lxX8_allocate 2 0 rfl)
set_option maxRecDepth 20000 in
theorem dX8_allocate_33 : decode cX8_allocate 33 = .ok (.invokevirtual 62, 3) := dc_182 0 62 (lxX8_allocate 2 1 rfl) (lxX8_allocate 2 2 rfl) (lxX8_allocate 2 3 rfl)
set_option maxRecDepth 20000 in
theorem dX8_allocate_36 : decode cX8_allocate 36 = .ok (.ireturn, 1) := dc_172 (lxX8_allocate 2 4 rfl)
def lb_sgX8_slice : List (List UInt8) := [[42, 27, 184, 0, 77, 154, 0, 10, 28, 184, 0, 77, 153, 0, 7, 4], [167, 0, 4, 3, 3, 182, 0, 81, 153, 0, 5, 3, 172, 42, 180, 0], [14, 27, 50, 78, 42, 28, 45, 3, 46, 45, 6, 46, 96, 45, 184, 0], [54, 45, 184, 0, 54, 3, 2, 182, 0, 85, 172]]
set_option maxRecDepth 100000 in
theorem lb_seX8_slice : cX8_slice.data.toList = lb_sgX8_slice.flatten := by decide +kernel
theorem lb_lnX8_slice : ∀ s ∈ lb_sgX8_slice.dropLast, s.length = 16 := by decide +kernel
theorem lxX8_slice (k j : Nat) {b : UInt8} (h : (lb_sgX8_slice[k]?).bind (fun s => s[j]?) = some b) : lb_at cX8_slice (16 * k + j) b := by
  unfold lb_at
  rw [lb_seX8_slice]
  exact lb_flat 16 lb_sgX8_slice k j b lb_lnX8_slice h
set_option maxRecDepth 20000 in
theorem dX8_slice_0 : decode cX8_slice 0 = .ok (.aload_n 0, 1) := dc_42 (lxX8_slice 0 0 rfl)
set_option maxRecDepth 20000 in
theorem dX8_slice_1 : decode cX8_slice 1 = .ok (.iload_n 1, 1) := dc_27 (lxX8_slice 0 1 rfl)
set_option maxRecDepth 20000 in
theorem dX8_slice_2 : decode cX8_slice 2 = .ok (.invokestatic 77, 3) := dc_184 0 77 (lxX8_slice 0 2 rfl) (lxX8_slice 0 3 rfl) (lxX8_slice 0 4 rfl)
set_option maxRecDepth 20000 in
theorem dX8_slice_5 : decode cX8_slice 5 = .ok (.ifCond .ne 10, 3) := dc_154 0 10 (lxX8_slice 0 5 rfl) (lxX8_slice 0 6 rfl) (lxX8_slice 0 7 rfl)
set_option maxRecDepth 20000 in
theorem dX8_slice_8 : decode cX8_slice 8 = .ok (.iload_n 2, 1) := dc_28 (lxX8_slice 0 8 rfl)
set_option maxRecDepth 20000 in
theorem dX8_slice_9 : decode cX8_slice 9 = .ok (.invokestatic 77, 3) := dc_184 0 77 (lxX8_slice 0 9 rfl) (lxX8_slice 0 10 rfl) (lxX8_slice 0 11 rfl)
set_option maxRecDepth 20000 in
theorem dX8_slice_12 : decode cX8_slice 12 = .ok (.ifCond .eq 7, 3) := dc_153 0 7 (lxX8_slice 0 12 rfl) (lxX8_slice 0 13 rfl) (lxX8_slice 0 14 rfl)
set_option maxRecDepth 20000 in
theorem dX8_slice_15 : decode cX8_slice 15 = .ok (.iconst 1, 1) := dc_4 (lxX8_slice 0 15 rfl)
set_option maxRecDepth 20000 in
theorem dX8_slice_16 : decode cX8_slice 16 = .ok (.goto 4, 3) := dc_167 0 4 (lxX8_slice 1 0 rfl) (lxX8_slice 1 1 rfl) (lxX8_slice 1 2 rfl)
set_option maxRecDepth 20000 in
theorem dX8_slice_19 : decode cX8_slice 19 = .ok (.iconst 0, 1) := dc_3 (lxX8_slice 1 3 rfl)
set_option maxRecDepth 20000 in
theorem dX8_slice_20 : decode cX8_slice 20 = .ok (.iconst 0, 1) := dc_3 (lxX8_slice 1 4 rfl)
set_option maxRecDepth 20000 in
theorem dX8_slice_21 : decode cX8_slice 21 = .ok (.invokevirtual 81, 3) := dc_182 0 81 (lxX8_slice 1 5 rfl) (lxX8_slice 1 6 rfl) (lxX8_slice 1 7 rfl)
set_option maxRecDepth 20000 in
theorem dX8_slice_24 : decode cX8_slice 24 = .ok (.ifCond .eq 5, 3) := dc_153 0 5 (lxX8_slice 1 8 rfl) (lxX8_slice 1 9 rfl) (lxX8_slice 1 10 rfl)
set_option maxRecDepth 20000 in
theorem dX8_slice_27 : decode cX8_slice 27 = .ok (.iconst 0, 1) := dc_3 (lxX8_slice 1 11 rfl)
set_option maxRecDepth 20000 in
theorem dX8_slice_28 : decode cX8_slice 28 = .ok (.ireturn, 1) := dc_172 (lxX8_slice 1 12 rfl)
set_option maxRecDepth 20000 in
theorem dX8_slice_29 : decode cX8_slice 29 = .ok (.aload_n 0, 1) := dc_42 (lxX8_slice 1 13 rfl)
set_option maxRecDepth 20000 in
theorem dX8_slice_30 : decode cX8_slice 30 = .ok (.getfield 14, 3) := dc_180 0 14 (lxX8_slice 1 14 rfl) (lxX8_slice 1 15 rfl) (lxX8_slice 2 0 rfl)
set_option maxRecDepth 20000 in
theorem dX8_slice_33 : decode cX8_slice 33 = .ok (.iload_n 1, 1) := dc_27 (lxX8_slice 2 1 rfl)
set_option maxRecDepth 20000 in
theorem dX8_slice_34 : decode cX8_slice 34 = .ok (.aaload, 1) := dc_50 (lxX8_slice 2 2 rfl)
set_option maxRecDepth 20000 in
theorem dX8_slice_35 : decode cX8_slice 35 = .ok (.astore_n 3, 1) := dc_78 (lxX8_slice 2 3 rfl)
set_option maxRecDepth 20000 in
theorem dX8_slice_36 : decode cX8_slice 36 = .ok (.aload_n 0, 1) := dc_42 (lxX8_slice 2 4 rfl)
set_option maxRecDepth 20000 in
theorem dX8_slice_37 : decode cX8_slice 37 = .ok (.iload_n 2, 1) := dc_28 (lxX8_slice 2 5 rfl)
set_option maxRecDepth 20000 in
theorem dX8_slice_38 : decode cX8_slice 38 = .ok (.aload_n 3, 1) := dc_45 (lxX8_slice 2 6 rfl)
set_option maxRecDepth 20000 in
theorem dX8_slice_39 : decode cX8_slice 39 = .ok (.iconst 0, 1) := dc_3 (lxX8_slice 2 7 rfl)
set_option maxRecDepth 20000 in
theorem dX8_slice_40 : decode cX8_slice 40 = .ok (.iaload, 1) := dc_46 (lxX8_slice 2 8 rfl)
set_option maxRecDepth 20000 in
theorem dX8_slice_41 : decode cX8_slice 41 = .ok (.aload_n 3, 1) := dc_45 (lxX8_slice 2 9 rfl)
set_option maxRecDepth 20000 in
theorem dX8_slice_42 : decode cX8_slice 42 = .ok (.iconst 3, 1) := dc_6 (lxX8_slice 2 10 rfl)
set_option maxRecDepth 20000 in
theorem dX8_slice_43 : decode cX8_slice 43 = .ok (.iaload, 1) := dc_46 (lxX8_slice 2 11 rfl)
set_option maxRecDepth 20000 in
theorem dX8_slice_44 : decode cX8_slice 44 = .ok (.iadd, 1) := dc_96 (lxX8_slice 2 12 rfl)
set_option maxRecDepth 20000 in
theorem dX8_slice_45 : decode cX8_slice 45 = .ok (.aload_n 3, 1) := dc_45 (lxX8_slice 2 13 rfl)
set_option maxRecDepth 20000 in
theorem dX8_slice_46 : decode cX8_slice 46 = .ok (.invokestatic 54, 3) := dc_184 0 54 (lxX8_slice 2 14 rfl) (lxX8_slice 2 15 rfl) (lxX8_slice 3 0 rfl)
set_option maxRecDepth 20000 in
theorem dX8_slice_49 : decode cX8_slice 49 = .ok (.aload_n 3, 1) := dc_45 (lxX8_slice 3 1 rfl)
set_option maxRecDepth 20000 in
theorem dX8_slice_50 : decode cX8_slice 50 = .ok (.invokestatic 54, 3) := dc_184 0 54 (lxX8_slice 3 2 rfl) (lxX8_slice 3 3 rfl) (lxX8_slice 3 4 rfl)
set_option maxRecDepth 20000 in
theorem dX8_slice_53 : decode cX8_slice 53 = .ok (.iconst 0, 1) := dc_3 (lxX8_slice 3 5 rfl)
set_option maxRecDepth 20000 in
theorem dX8_slice_54 : decode cX8_slice 54 = .ok (.iconst (-1), 1) := dc_2 (lxX8_slice 3 6 rfl)
set_option maxRecDepth 20000 in
theorem dX8_slice_55 : decode cX8_slice 55 = .ok (.invokevirtual 85, 3) := dc_182 0 85 (lxX8_slice 3 7 rfl) (lxX8_slice 3 8 rfl) (lxX8_slice 3 9 rfl)
set_option maxRecDepth 20000 in
theorem dX8_slice_58 : decode cX8_slice 58 = .ok (.ireturn, 1) := dc_172 (lxX8_slice 3 10 rfl)
def lb_sgX8_duplicate : List (List UInt8) := [[42, 27, 184, 0, 77, 154, 0, 10, 28, 184, 0, 77, 153, 0, 7, 4], [167, 0, 4, 3, 3, 182, 0, 81, 153, 0, 5, 3, 172, 42, 180, 0], [14, 27, 50, 78, 42, 28, 45, 3, 46, 45, 4, 46, 45, 5, 46, 45], [6, 46, 45, 7, 46, 182, 0, 85, 172]]
set_option maxRecDepth 100000 in
theorem lb_seX8_duplicate : cX8_duplicate.data.toList = lb_sgX8_duplicate.flatten := by decide +kernel
theorem lb_lnX8_duplicate : ∀ s ∈ lb_sgX8_duplicate.dropLast, s.length = 16 := by decide +kernel
theorem lxX8_duplicate (k j : Nat) {b : UInt8} (h : (lb_sgX8_duplicate[k]?).bind (fun s => s[j]?) = some b) : lb_at cX8_duplicate (16 * k + j) b := by
  unfold lb_at
  rw [lb_seX8_duplicate]
  exact lb_flat 16 lb_sgX8_duplicate k j b lb_lnX8_duplicate h
set_option maxRecDepth 20000 in
theorem dX8_duplicate_0 : decode cX8_duplicate 0 = .ok (.aload_n 0, 1) := dc_42 (lxX8_duplicate 0 0 rfl)
set_option maxRecDepth 20000 in
theorem dX8_duplicate_1 : decode cX8_duplicate 1 = .ok (.iload_n 1, 1) := dc_27 (lxX8_duplicate 0 1 rfl)
set_option maxRecDepth 20000 in
theorem dX8_duplicate_2 : decode cX8_duplicate 2 = .ok (.invokestatic 77, 3) := dc_184 0 77 (lxX8_duplicate 0 2 rfl) (lxX8_duplicate 0 3 rfl) (lxX8_duplicate 0 4 rfl)
set_option maxRecDepth 20000 in
theorem dX8_duplicate_5 : decode cX8_duplicate 5 = .ok (.ifCond .ne 10, 3) := dc_154 0 10 (lxX8_duplicate 0 5 rfl) (lxX8_duplicate 0 6 rfl) (lxX8_duplicate 0 7 rfl)
set_option maxRecDepth 20000 in
theorem dX8_duplicate_8 : decode cX8_duplicate 8 = .ok (.iload_n 2, 1) := dc_28 (lxX8_duplicate 0 8 rfl)
set_option maxRecDepth 20000 in
theorem dX8_duplicate_9 : decode cX8_duplicate 9 = .ok (.invokestatic 77, 3) := dc_184 0 77 (lxX8_duplicate 0 9 rfl) (lxX8_duplicate 0 10 rfl) (lxX8_duplicate 0 11 rfl)
set_option maxRecDepth 20000 in
theorem dX8_duplicate_12 : decode cX8_duplicate 12 = .ok (.ifCond .eq 7, 3) := dc_153 0 7 (lxX8_duplicate 0 12 rfl) (lxX8_duplicate 0 13 rfl) (lxX8_duplicate 0 14 rfl)
set_option maxRecDepth 20000 in
theorem dX8_duplicate_15 : decode cX8_duplicate 15 = .ok (.iconst 1, 1) := dc_4 (lxX8_duplicate 0 15 rfl)
set_option maxRecDepth 20000 in
theorem dX8_duplicate_16 : decode cX8_duplicate 16 = .ok (.goto 4, 3) := dc_167 0 4 (lxX8_duplicate 1 0 rfl) (lxX8_duplicate 1 1 rfl) (lxX8_duplicate 1 2 rfl)
set_option maxRecDepth 20000 in
theorem dX8_duplicate_19 : decode cX8_duplicate 19 = .ok (.iconst 0, 1) := dc_3 (lxX8_duplicate 1 3 rfl)
set_option maxRecDepth 20000 in
theorem dX8_duplicate_20 : decode cX8_duplicate 20 = .ok (.iconst 0, 1) := dc_3 (lxX8_duplicate 1 4 rfl)
set_option maxRecDepth 20000 in
theorem dX8_duplicate_21 : decode cX8_duplicate 21 = .ok (.invokevirtual 81, 3) := dc_182 0 81 (lxX8_duplicate 1 5 rfl) (lxX8_duplicate 1 6 rfl) (lxX8_duplicate 1 7 rfl)
set_option maxRecDepth 20000 in
theorem dX8_duplicate_24 : decode cX8_duplicate 24 = .ok (.ifCond .eq 5, 3) := dc_153 0 5 (lxX8_duplicate 1 8 rfl) (lxX8_duplicate 1 9 rfl) (lxX8_duplicate 1 10 rfl)
set_option maxRecDepth 20000 in
theorem dX8_duplicate_27 : decode cX8_duplicate 27 = .ok (.iconst 0, 1) := dc_3 (lxX8_duplicate 1 11 rfl)
set_option maxRecDepth 20000 in
theorem dX8_duplicate_28 : decode cX8_duplicate 28 = .ok (.ireturn, 1) := dc_172 (lxX8_duplicate 1 12 rfl)
set_option maxRecDepth 20000 in
theorem dX8_duplicate_29 : decode cX8_duplicate 29 = .ok (.aload_n 0, 1) := dc_42 (lxX8_duplicate 1 13 rfl)
set_option maxRecDepth 20000 in
theorem dX8_duplicate_30 : decode cX8_duplicate 30 = .ok (.getfield 14, 3) := dc_180 0 14 (lxX8_duplicate 1 14 rfl) (lxX8_duplicate 1 15 rfl) (lxX8_duplicate 2 0 rfl)
set_option maxRecDepth 20000 in
theorem dX8_duplicate_33 : decode cX8_duplicate 33 = .ok (.iload_n 1, 1) := dc_27 (lxX8_duplicate 2 1 rfl)
set_option maxRecDepth 20000 in
theorem dX8_duplicate_34 : decode cX8_duplicate 34 = .ok (.aaload, 1) := dc_50 (lxX8_duplicate 2 2 rfl)
set_option maxRecDepth 20000 in
theorem dX8_duplicate_35 : decode cX8_duplicate 35 = .ok (.astore_n 3, 1) := dc_78 (lxX8_duplicate 2 3 rfl)
set_option maxRecDepth 20000 in
theorem dX8_duplicate_36 : decode cX8_duplicate 36 = .ok (.aload_n 0, 1) := dc_42 (lxX8_duplicate 2 4 rfl)
set_option maxRecDepth 20000 in
theorem dX8_duplicate_37 : decode cX8_duplicate 37 = .ok (.iload_n 2, 1) := dc_28 (lxX8_duplicate 2 5 rfl)
set_option maxRecDepth 20000 in
theorem dX8_duplicate_38 : decode cX8_duplicate 38 = .ok (.aload_n 3, 1) := dc_45 (lxX8_duplicate 2 6 rfl)
set_option maxRecDepth 20000 in
theorem dX8_duplicate_39 : decode cX8_duplicate 39 = .ok (.iconst 0, 1) := dc_3 (lxX8_duplicate 2 7 rfl)
set_option maxRecDepth 20000 in
theorem dX8_duplicate_40 : decode cX8_duplicate 40 = .ok (.iaload, 1) := dc_46 (lxX8_duplicate 2 8 rfl)
set_option maxRecDepth 20000 in
theorem dX8_duplicate_41 : decode cX8_duplicate 41 = .ok (.aload_n 3, 1) := dc_45 (lxX8_duplicate 2 9 rfl)
set_option maxRecDepth 20000 in
theorem dX8_duplicate_42 : decode cX8_duplicate 42 = .ok (.iconst 1, 1) := dc_4 (lxX8_duplicate 2 10 rfl)
set_option maxRecDepth 20000 in
theorem dX8_duplicate_43 : decode cX8_duplicate 43 = .ok (.iaload, 1) := dc_46 (lxX8_duplicate 2 11 rfl)
set_option maxRecDepth 20000 in
theorem dX8_duplicate_44 : decode cX8_duplicate 44 = .ok (.aload_n 3, 1) := dc_45 (lxX8_duplicate 2 12 rfl)
set_option maxRecDepth 20000 in
theorem dX8_duplicate_45 : decode cX8_duplicate 45 = .ok (.iconst 2, 1) := dc_5 (lxX8_duplicate 2 13 rfl)
set_option maxRecDepth 20000 in
theorem dX8_duplicate_46 : decode cX8_duplicate 46 = .ok (.iaload, 1) := dc_46 (lxX8_duplicate 2 14 rfl)
set_option maxRecDepth 20000 in
theorem dX8_duplicate_47 : decode cX8_duplicate 47 = .ok (.aload_n 3, 1) := dc_45 (lxX8_duplicate 2 15 rfl)
set_option maxRecDepth 20000 in
theorem dX8_duplicate_48 : decode cX8_duplicate 48 = .ok (.iconst 3, 1) := dc_6 (lxX8_duplicate 3 0 rfl)
set_option maxRecDepth 20000 in
theorem dX8_duplicate_49 : decode cX8_duplicate 49 = .ok (.iaload, 1) := dc_46 (lxX8_duplicate 3 1 rfl)
set_option maxRecDepth 20000 in
theorem dX8_duplicate_50 : decode cX8_duplicate 50 = .ok (.aload_n 3, 1) := dc_45 (lxX8_duplicate 3 2 rfl)
set_option maxRecDepth 20000 in
theorem dX8_duplicate_51 : decode cX8_duplicate 51 = .ok (.iconst 4, 1) := dc_7 (lxX8_duplicate 3 3 rfl)
set_option maxRecDepth 20000 in
theorem dX8_duplicate_52 : decode cX8_duplicate 52 = .ok (.iaload, 1) := dc_46 (lxX8_duplicate 3 4 rfl)
set_option maxRecDepth 20000 in
theorem dX8_duplicate_53 : decode cX8_duplicate 53 = .ok (.invokevirtual 85, 3) := dc_182 0 85 (lxX8_duplicate 3 5 rfl) (lxX8_duplicate 3 6 rfl) (lxX8_duplicate 3 7 rfl)
set_option maxRecDepth 20000 in
theorem dX8_duplicate_56 : decode cX8_duplicate 56 = .ok (.ireturn, 1) := dc_172 (lxX8_duplicate 3 8 rfl)
def lb_sgX8_part : List (List UInt8) := [[42, 27, 184, 0, 77, 154, 0, 11, 21, 4, 184, 0, 77, 153, 0, 7], [4, 167, 0, 4, 3, 3, 182, 0, 81, 153, 0, 5, 3, 172, 42, 180], [0, 14, 27, 50, 58, 5, 28, 155, 0, 17, 29, 28, 161, 0, 12, 29], [25, 5, 184, 0, 54, 164, 0, 8, 42, 182, 0, 89, 172, 42, 21, 4], [25, 5, 3, 46, 25, 5, 4, 46, 25, 5, 6, 46, 29, 96, 25, 5], [6, 46, 28, 96, 25, 5, 6, 46, 28, 96, 182, 0, 85, 172]]
set_option maxRecDepth 100000 in
theorem lb_seX8_part : cX8_part.data.toList = lb_sgX8_part.flatten := by decide +kernel
theorem lb_lnX8_part : ∀ s ∈ lb_sgX8_part.dropLast, s.length = 16 := by decide +kernel
theorem lxX8_part (k j : Nat) {b : UInt8} (h : (lb_sgX8_part[k]?).bind (fun s => s[j]?) = some b) : lb_at cX8_part (16 * k + j) b := by
  unfold lb_at
  rw [lb_seX8_part]
  exact lb_flat 16 lb_sgX8_part k j b lb_lnX8_part h
set_option maxRecDepth 20000 in
theorem dX8_part_0 : decode cX8_part 0 = .ok (.aload_n 0, 1) := dc_42 (lxX8_part 0 0 rfl)
set_option maxRecDepth 20000 in
theorem dX8_part_1 : decode cX8_part 1 = .ok (.iload_n 1, 1) := dc_27 (lxX8_part 0 1 rfl)
set_option maxRecDepth 20000 in
theorem dX8_part_2 : decode cX8_part 2 = .ok (.invokestatic 77, 3) := dc_184 0 77 (lxX8_part 0 2 rfl) (lxX8_part 0 3 rfl) (lxX8_part 0 4 rfl)
set_option maxRecDepth 20000 in
theorem dX8_part_5 : decode cX8_part 5 = .ok (.ifCond .ne 11, 3) := dc_154 0 11 (lxX8_part 0 5 rfl) (lxX8_part 0 6 rfl) (lxX8_part 0 7 rfl)
set_option maxRecDepth 20000 in
theorem dX8_part_8 : decode cX8_part 8 = .ok (.iload 4, 2) := dc_21 4 (lxX8_part 0 8 rfl) (lxX8_part 0 9 rfl)
set_option maxRecDepth 20000 in
theorem dX8_part_10 : decode cX8_part 10 = .ok (.invokestatic 77, 3) := dc_184 0 77 (lxX8_part 0 10 rfl) (lxX8_part 0 11 rfl) (lxX8_part 0 12 rfl)
set_option maxRecDepth 20000 in
theorem dX8_part_13 : decode cX8_part 13 = .ok (.ifCond .eq 7, 3) := dc_153 0 7 (lxX8_part 0 13 rfl) (lxX8_part 0 14 rfl) (lxX8_part 0 15 rfl)
set_option maxRecDepth 20000 in
theorem dX8_part_16 : decode cX8_part 16 = .ok (.iconst 1, 1) := dc_4 (lxX8_part 1 0 rfl)
set_option maxRecDepth 20000 in
theorem dX8_part_17 : decode cX8_part 17 = .ok (.goto 4, 3) := dc_167 0 4 (lxX8_part 1 1 rfl) (lxX8_part 1 2 rfl) (lxX8_part 1 3 rfl)
set_option maxRecDepth 20000 in
theorem dX8_part_20 : decode cX8_part 20 = .ok (.iconst 0, 1) := dc_3 (lxX8_part 1 4 rfl)
set_option maxRecDepth 20000 in
theorem dX8_part_21 : decode cX8_part 21 = .ok (.iconst 0, 1) := dc_3 (lxX8_part 1 5 rfl)
set_option maxRecDepth 20000 in
theorem dX8_part_22 : decode cX8_part 22 = .ok (.invokevirtual 81, 3) := dc_182 0 81 (lxX8_part 1 6 rfl) (lxX8_part 1 7 rfl) (lxX8_part 1 8 rfl)
set_option maxRecDepth 20000 in
theorem dX8_part_25 : decode cX8_part 25 = .ok (.ifCond .eq 5, 3) := dc_153 0 5 (lxX8_part 1 9 rfl) (lxX8_part 1 10 rfl) (lxX8_part 1 11 rfl)
set_option maxRecDepth 20000 in
theorem dX8_part_28 : decode cX8_part 28 = .ok (.iconst 0, 1) := dc_3 (lxX8_part 1 12 rfl)
set_option maxRecDepth 20000 in
theorem dX8_part_29 : decode cX8_part 29 = .ok (.ireturn, 1) := dc_172 (lxX8_part 1 13 rfl)
set_option maxRecDepth 20000 in
theorem dX8_part_30 : decode cX8_part 30 = .ok (.aload_n 0, 1) := dc_42 (lxX8_part 1 14 rfl)
set_option maxRecDepth 20000 in
theorem dX8_part_31 : decode cX8_part 31 = .ok (.getfield 14, 3) := dc_180 0 14 (lxX8_part 1 15 rfl) (lxX8_part 2 0 rfl) (lxX8_part 2 1 rfl)
set_option maxRecDepth 20000 in
theorem dX8_part_34 : decode cX8_part 34 = .ok (.iload_n 1, 1) := dc_27 (lxX8_part 2 2 rfl)
set_option maxRecDepth 20000 in
theorem dX8_part_35 : decode cX8_part 35 = .ok (.aaload, 1) := dc_50 (lxX8_part 2 3 rfl)
set_option maxRecDepth 20000 in
theorem dX8_part_36 : decode cX8_part 36 = .ok (.astore 5, 2) := dc_58 5 (lxX8_part 2 4 rfl) (lxX8_part 2 5 rfl)
set_option maxRecDepth 20000 in
theorem dX8_part_38 : decode cX8_part 38 = .ok (.iload_n 2, 1) := dc_28 (lxX8_part 2 6 rfl)
set_option maxRecDepth 20000 in
theorem dX8_part_39 : decode cX8_part 39 = .ok (.ifCond .lt 17, 3) := dc_155 0 17 (lxX8_part 2 7 rfl) (lxX8_part 2 8 rfl) (lxX8_part 2 9 rfl)
set_option maxRecDepth 20000 in
theorem dX8_part_42 : decode cX8_part 42 = .ok (.iload_n 3, 1) := dc_29 (lxX8_part 2 10 rfl)
set_option maxRecDepth 20000 in
theorem dX8_part_43 : decode cX8_part 43 = .ok (.iload_n 2, 1) := dc_28 (lxX8_part 2 11 rfl)
set_option maxRecDepth 20000 in
theorem dX8_part_44 : decode cX8_part 44 = .ok (.if_icmp .lt 12, 3) := dc_161 0 12 (lxX8_part 2 12 rfl) (lxX8_part 2 13 rfl) (lxX8_part 2 14 rfl)
set_option maxRecDepth 20000 in
theorem dX8_part_47 : decode cX8_part 47 = .ok (.iload_n 3, 1) := dc_29 (lxX8_part 2 15 rfl)
set_option maxRecDepth 20000 in
theorem dX8_part_48 : decode cX8_part 48 = .ok (.aload 5, 2) := dc_25 5 (lxX8_part 3 0 rfl) (lxX8_part 3 1 rfl)
set_option maxRecDepth 20000 in
theorem dX8_part_50 : decode cX8_part 50 = .ok (.invokestatic 54, 3) := dc_184 0 54 (lxX8_part 3 2 rfl) (lxX8_part 3 3 rfl) (lxX8_part 3 4 rfl)
set_option maxRecDepth 20000 in
theorem dX8_part_53 : decode cX8_part 53 = .ok (.if_icmp .le 8, 3) := dc_164 0 8 (lxX8_part 3 5 rfl) (lxX8_part 3 6 rfl) (lxX8_part 3 7 rfl)
set_option maxRecDepth 20000 in
theorem dX8_part_56 : decode cX8_part 56 = .ok (.aload_n 0, 1) := dc_42 (lxX8_part 3 8 rfl)
set_option maxRecDepth 20000 in
theorem dX8_part_57 : decode cX8_part 57 = .ok (.invokevirtual 89, 3) := dc_182 0 89 (lxX8_part 3 9 rfl) (lxX8_part 3 10 rfl) (lxX8_part 3 11 rfl)
set_option maxRecDepth 20000 in
theorem dX8_part_60 : decode cX8_part 60 = .ok (.ireturn, 1) := dc_172 (lxX8_part 3 12 rfl)
set_option maxRecDepth 20000 in
theorem dX8_part_61 : decode cX8_part 61 = .ok (.aload_n 0, 1) := dc_42 (lxX8_part 3 13 rfl)
set_option maxRecDepth 20000 in
theorem dX8_part_62 : decode cX8_part 62 = .ok (.iload 4, 2) := dc_21 4 (lxX8_part 3 14 rfl) (lxX8_part 3 15 rfl)
set_option maxRecDepth 20000 in
theorem dX8_part_64 : decode cX8_part 64 = .ok (.aload 5, 2) := dc_25 5 (lxX8_part 4 0 rfl) (lxX8_part 4 1 rfl)
set_option maxRecDepth 20000 in
theorem dX8_part_66 : decode cX8_part 66 = .ok (.iconst 0, 1) := dc_3 (lxX8_part 4 2 rfl)
set_option maxRecDepth 20000 in
theorem dX8_part_67 : decode cX8_part 67 = .ok (.iaload, 1) := dc_46 (lxX8_part 4 3 rfl)
set_option maxRecDepth 20000 in
theorem dX8_part_68 : decode cX8_part 68 = .ok (.aload 5, 2) := dc_25 5 (lxX8_part 4 4 rfl) (lxX8_part 4 5 rfl)
set_option maxRecDepth 20000 in
theorem dX8_part_70 : decode cX8_part 70 = .ok (.iconst 1, 1) := dc_4 (lxX8_part 4 6 rfl)
set_option maxRecDepth 20000 in
theorem dX8_part_71 : decode cX8_part 71 = .ok (.iaload, 1) := dc_46 (lxX8_part 4 7 rfl)
set_option maxRecDepth 20000 in
theorem dX8_part_72 : decode cX8_part 72 = .ok (.aload 5, 2) := dc_25 5 (lxX8_part 4 8 rfl) (lxX8_part 4 9 rfl)
set_option maxRecDepth 20000 in
theorem dX8_part_74 : decode cX8_part 74 = .ok (.iconst 3, 1) := dc_6 (lxX8_part 4 10 rfl)
set_option maxRecDepth 20000 in
theorem dX8_part_75 : decode cX8_part 75 = .ok (.iaload, 1) := dc_46 (lxX8_part 4 11 rfl)
set_option maxRecDepth 20000 in
theorem dX8_part_76 : decode cX8_part 76 = .ok (.iload_n 3, 1) := dc_29 (lxX8_part 4 12 rfl)
set_option maxRecDepth 20000 in
theorem dX8_part_77 : decode cX8_part 77 = .ok (.iadd, 1) := dc_96 (lxX8_part 4 13 rfl)
set_option maxRecDepth 20000 in
theorem dX8_part_78 : decode cX8_part 78 = .ok (.aload 5, 2) := dc_25 5 (lxX8_part 4 14 rfl) (lxX8_part 4 15 rfl)
set_option maxRecDepth 20000 in
theorem dX8_part_80 : decode cX8_part 80 = .ok (.iconst 3, 1) := dc_6 (lxX8_part 5 0 rfl)
set_option maxRecDepth 20000 in
theorem dX8_part_81 : decode cX8_part 81 = .ok (.iaload, 1) := dc_46 (lxX8_part 5 1 rfl)
set_option maxRecDepth 20000 in
theorem dX8_part_82 : decode cX8_part 82 = .ok (.iload_n 2, 1) := dc_28 (lxX8_part 5 2 rfl)
set_option maxRecDepth 20000 in
theorem dX8_part_83 : decode cX8_part 83 = .ok (.iadd, 1) := dc_96 (lxX8_part 5 3 rfl)
set_option maxRecDepth 20000 in
theorem dX8_part_84 : decode cX8_part 84 = .ok (.aload 5, 2) := dc_25 5 (lxX8_part 5 4 rfl) (lxX8_part 5 5 rfl)
set_option maxRecDepth 20000 in
theorem dX8_part_86 : decode cX8_part 86 = .ok (.iconst 3, 1) := dc_6 (lxX8_part 5 6 rfl)
set_option maxRecDepth 20000 in
theorem dX8_part_87 : decode cX8_part 87 = .ok (.iaload, 1) := dc_46 (lxX8_part 5 7 rfl)
set_option maxRecDepth 20000 in
theorem dX8_part_88 : decode cX8_part 88 = .ok (.iload_n 2, 1) := dc_28 (lxX8_part 5 8 rfl)
set_option maxRecDepth 20000 in
theorem dX8_part_89 : decode cX8_part 89 = .ok (.iadd, 1) := dc_96 (lxX8_part 5 9 rfl)
set_option maxRecDepth 20000 in
theorem dX8_part_90 : decode cX8_part 90 = .ok (.invokevirtual 85, 3) := dc_182 0 85 (lxX8_part 5 10 rfl) (lxX8_part 5 11 rfl) (lxX8_part 5 12 rfl)
set_option maxRecDepth 20000 in
theorem dX8_part_93 : decode cX8_part 93 = .ok (.ireturn, 1) := dc_172 (lxX8_part 5 13 rfl)
def lb_sgX8_put : List (List UInt8) := [[42, 27, 184, 0, 77, 28, 3, 17, 0, 255, 184, 0, 41, 182, 0, 81], [153, 0, 5, 3, 172, 42, 180, 0, 14, 27, 50, 78, 45, 184, 0, 54], [154, 0, 8, 42, 182, 0, 89, 172, 42, 45, 28, 182, 0, 93, 42, 45], [184, 0, 54, 182, 0, 62, 172]]
set_option maxRecDepth 100000 in
theorem lb_seX8_put : cX8_put.data.toList = lb_sgX8_put.flatten := by decide +kernel
theorem lb_lnX8_put : ∀ s ∈ lb_sgX8_put.dropLast, s.length = 16 := by decide +kernel
theorem lxX8_put (k j : Nat) {b : UInt8} (h : (lb_sgX8_put[k]?).bind (fun s => s[j]?) = some b) : lb_at cX8_put (16 * k + j) b := by
  unfold lb_at
  rw [lb_seX8_put]
  exact lb_flat 16 lb_sgX8_put k j b lb_lnX8_put h
set_option maxRecDepth 20000 in
theorem dX8_put_0 : decode cX8_put 0 = .ok (.aload_n 0, 1) := dc_42 (lxX8_put 0 0 rfl)
set_option maxRecDepth 20000 in
theorem dX8_put_1 : decode cX8_put 1 = .ok (.iload_n 1, 1) := dc_27 (lxX8_put 0 1 rfl)
set_option maxRecDepth 20000 in
theorem dX8_put_2 : decode cX8_put 2 = .ok (.invokestatic 77, 3) := dc_184 0 77 (lxX8_put 0 2 rfl) (lxX8_put 0 3 rfl) (lxX8_put 0 4 rfl)
set_option maxRecDepth 20000 in
theorem dX8_put_5 : decode cX8_put 5 = .ok (.iload_n 2, 1) := dc_28 (lxX8_put 0 5 rfl)
set_option maxRecDepth 20000 in
theorem dX8_put_6 : decode cX8_put 6 = .ok (.iconst 0, 1) := dc_3 (lxX8_put 0 6 rfl)
set_option maxRecDepth 20000 in
theorem dX8_put_7 : decode cX8_put 7 = .ok (.sipush 255, 3) := dc_17 0 255 (lxX8_put 0 7 rfl) (lxX8_put 0 8 rfl) (lxX8_put 0 9 rfl)
set_option maxRecDepth 20000 in
theorem dX8_put_10 : decode cX8_put 10 = .ok (.invokestatic 41, 3) := dc_184 0 41 (lxX8_put 0 10 rfl) (lxX8_put 0 11 rfl) (lxX8_put 0 12 rfl)
set_option maxRecDepth 20000 in
theorem dX8_put_13 : decode cX8_put 13 = .ok (.invokevirtual 81, 3) := dc_182 0 81 (lxX8_put 0 13 rfl) (lxX8_put 0 14 rfl) (lxX8_put 0 15 rfl)
set_option maxRecDepth 20000 in
theorem dX8_put_16 : decode cX8_put 16 = .ok (.ifCond .eq 5, 3) := dc_153 0 5 (lxX8_put 1 0 rfl) (lxX8_put 1 1 rfl) (lxX8_put 1 2 rfl)
set_option maxRecDepth 20000 in
theorem dX8_put_19 : decode cX8_put 19 = .ok (.iconst 0, 1) := dc_3 (lxX8_put 1 3 rfl)
set_option maxRecDepth 20000 in
theorem dX8_put_20 : decode cX8_put 20 = .ok (.ireturn, 1) := dc_172 (lxX8_put 1 4 rfl)
set_option maxRecDepth 20000 in
theorem dX8_put_21 : decode cX8_put 21 = .ok (.aload_n 0, 1) := dc_42 (lxX8_put 1 5 rfl)
set_option maxRecDepth 20000 in
theorem dX8_put_22 : decode cX8_put 22 = .ok (.getfield 14, 3) := dc_180 0 14 (lxX8_put 1 6 rfl) (lxX8_put 1 7 rfl) (lxX8_put 1 8 rfl)
set_option maxRecDepth 20000 in
theorem dX8_put_25 : decode cX8_put 25 = .ok (.iload_n 1, 1) := dc_27 (lxX8_put 1 9 rfl)
set_option maxRecDepth 20000 in
theorem dX8_put_26 : decode cX8_put 26 = .ok (.aaload, 1) := dc_50 (lxX8_put 1 10 rfl)
set_option maxRecDepth 20000 in
theorem dX8_put_27 : decode cX8_put 27 = .ok (.astore_n 3, 1) := dc_78 (lxX8_put 1 11 rfl)
set_option maxRecDepth 20000 in
theorem dX8_put_28 : decode cX8_put 28 = .ok (.aload_n 3, 1) := dc_45 (lxX8_put 1 12 rfl)
set_option maxRecDepth 20000 in
theorem dX8_put_29 : decode cX8_put 29 = .ok (.invokestatic 54, 3) := dc_184 0 54 (lxX8_put 1 13 rfl) (lxX8_put 1 14 rfl) (lxX8_put 1 15 rfl)
set_option maxRecDepth 20000 in
theorem dX8_put_32 : decode cX8_put 32 = .ok (.ifCond .ne 8, 3) := dc_154 0 8 (lxX8_put 2 0 rfl) (lxX8_put 2 1 rfl) (lxX8_put 2 2 rfl)
set_option maxRecDepth 20000 in
theorem dX8_put_35 : decode cX8_put 35 = .ok (.aload_n 0, 1) := dc_42 (lxX8_put 2 3 rfl)
set_option maxRecDepth 20000 in
theorem dX8_put_36 : decode cX8_put 36 = .ok (.invokevirtual 89, 3) := dc_182 0 89 (lxX8_put 2 4 rfl) (lxX8_put 2 5 rfl) (lxX8_put 2 6 rfl)
set_option maxRecDepth 20000 in
theorem dX8_put_39 : decode cX8_put 39 = .ok (.ireturn, 1) := dc_172 (lxX8_put 2 7 rfl)
set_option maxRecDepth 20000 in
theorem dX8_put_40 : decode cX8_put 40 = .ok (.aload_n 0, 1) := dc_42 (lxX8_put 2 8 rfl)
set_option maxRecDepth 20000 in
theorem dX8_put_41 : decode cX8_put 41 = .ok (.aload_n 3, 1) := dc_45 (lxX8_put 2 9 rfl)
set_option maxRecDepth 20000 in
theorem dX8_put_42 : decode cX8_put 42 = .ok (.iload_n 2, 1) := dc_28 (lxX8_put 2 10 rfl)
set_option maxRecDepth 20000 in
theorem dX8_put_43 : decode cX8_put 43 = .ok (.invokevirtual 93, 3) := dc_182 0 93 (lxX8_put 2 11 rfl) (lxX8_put 2 12 rfl) (lxX8_put 2 13 rfl)
set_option maxRecDepth 20000 in
theorem dX8_put_46 : decode cX8_put 46 = .ok (.aload_n 0, 1) := dc_42 (lxX8_put 2 14 rfl)
set_option maxRecDepth 20000 in
theorem dX8_put_47 : decode cX8_put 47 = .ok (.aload_n 3, 1) := dc_45 (lxX8_put 2 15 rfl)
set_option maxRecDepth 20000 in
theorem dX8_put_48 : decode cX8_put 48 = .ok (.invokestatic 54, 3) := dc_184 0 54 (lxX8_put 3 0 rfl) (lxX8_put 3 1 rfl) (lxX8_put 3 2 rfl)
set_option maxRecDepth 20000 in
theorem dX8_put_51 : decode cX8_put 51 = .ok (.invokevirtual 62, 3) := dc_182 0 62 (lxX8_put 3 3 rfl) (lxX8_put 3 4 rfl) (lxX8_put 3 5 rfl)
set_option maxRecDepth 20000 in
theorem dX8_put_54 : decode cX8_put 54 = .ok (.ireturn, 1) := dc_172 (lxX8_put 3 6 rfl)
def lb_sgX8_run : List (List UInt8) := [[42, 27, 184, 0, 77, 28, 3, 17, 0, 255, 184, 0, 41, 154, 0, 25], [29, 3, 17, 0, 255, 184, 0, 41, 154, 0, 14, 21, 4, 3, 16, 40], [184, 0, 41, 153, 0, 7, 4, 167, 0, 4, 3, 182, 0, 81, 153, 0], [5, 3, 172, 42, 180, 0, 14, 27, 50, 58, 5, 21, 4, 25, 5, 184], [0, 54, 184, 0, 97, 54, 6, 3, 54, 7, 21, 7, 21, 6, 162, 0], [25, 42, 25, 5, 28, 21, 7, 29, 104, 96, 17, 1, 0, 112, 182, 0], [93, 132, 7, 1, 167, 255, 230, 42, 21, 6, 182, 0, 62, 172]]
set_option maxRecDepth 100000 in
theorem lb_seX8_run : cX8_run.data.toList = lb_sgX8_run.flatten := by decide +kernel
theorem lb_lnX8_run : ∀ s ∈ lb_sgX8_run.dropLast, s.length = 16 := by decide +kernel
theorem lxX8_run (k j : Nat) {b : UInt8} (h : (lb_sgX8_run[k]?).bind (fun s => s[j]?) = some b) : lb_at cX8_run (16 * k + j) b := by
  unfold lb_at
  rw [lb_seX8_run]
  exact lb_flat 16 lb_sgX8_run k j b lb_lnX8_run h
set_option maxRecDepth 20000 in
theorem dX8_run_0 : decode cX8_run 0 = .ok (.aload_n 0, 1) := dc_42 (lxX8_run 0 0 rfl)
set_option maxRecDepth 20000 in
theorem dX8_run_1 : decode cX8_run 1 = .ok (.iload_n 1, 1) := dc_27 (lxX8_run 0 1 rfl)
set_option maxRecDepth 20000 in
theorem dX8_run_2 : decode cX8_run 2 = .ok (.invokestatic 77, 3) := dc_184 0 77 (lxX8_run 0 2 rfl) (lxX8_run 0 3 rfl) (lxX8_run 0 4 rfl)
set_option maxRecDepth 20000 in
theorem dX8_run_5 : decode cX8_run 5 = .ok (.iload_n 2, 1) := dc_28 (lxX8_run 0 5 rfl)
set_option maxRecDepth 20000 in
theorem dX8_run_6 : decode cX8_run 6 = .ok (.iconst 0, 1) := dc_3 (lxX8_run 0 6 rfl)
set_option maxRecDepth 20000 in
theorem dX8_run_7 : decode cX8_run 7 = .ok (.sipush 255, 3) := dc_17 0 255 (lxX8_run 0 7 rfl) (lxX8_run 0 8 rfl) (lxX8_run 0 9 rfl)
set_option maxRecDepth 20000 in
theorem dX8_run_10 : decode cX8_run 10 = .ok (.invokestatic 41, 3) := dc_184 0 41 (lxX8_run 0 10 rfl) (lxX8_run 0 11 rfl) (lxX8_run 0 12 rfl)
set_option maxRecDepth 20000 in
theorem dX8_run_13 : decode cX8_run 13 = .ok (.ifCond .ne 25, 3) := dc_154 0 25 (lxX8_run 0 13 rfl) (lxX8_run 0 14 rfl) (lxX8_run 0 15 rfl)
set_option maxRecDepth 20000 in
theorem dX8_run_16 : decode cX8_run 16 = .ok (.iload_n 3, 1) := dc_29 (lxX8_run 1 0 rfl)
set_option maxRecDepth 20000 in
theorem dX8_run_17 : decode cX8_run 17 = .ok (.iconst 0, 1) := dc_3 (lxX8_run 1 1 rfl)
set_option maxRecDepth 20000 in
theorem dX8_run_18 : decode cX8_run 18 = .ok (.sipush 255, 3) := dc_17 0 255 (lxX8_run 1 2 rfl) (lxX8_run 1 3 rfl) (lxX8_run 1 4 rfl)
set_option maxRecDepth 20000 in
theorem dX8_run_21 : decode cX8_run 21 = .ok (.invokestatic 41, 3) := dc_184 0 41 (lxX8_run 1 5 rfl) (lxX8_run 1 6 rfl) (lxX8_run 1 7 rfl)
set_option maxRecDepth 20000 in
theorem dX8_run_24 : decode cX8_run 24 = .ok (.ifCond .ne 14, 3) := dc_154 0 14 (lxX8_run 1 8 rfl) (lxX8_run 1 9 rfl) (lxX8_run 1 10 rfl)
set_option maxRecDepth 20000 in
theorem dX8_run_27 : decode cX8_run 27 = .ok (.iload 4, 2) := dc_21 4 (lxX8_run 1 11 rfl) (lxX8_run 1 12 rfl)
set_option maxRecDepth 20000 in
theorem dX8_run_29 : decode cX8_run 29 = .ok (.iconst 0, 1) := dc_3 (lxX8_run 1 13 rfl)
set_option maxRecDepth 20000 in
theorem dX8_run_30 : decode cX8_run 30 = .ok (.bipush 40, 2) := dc_16 40 (lxX8_run 1 14 rfl) (lxX8_run 1 15 rfl)
set_option maxRecDepth 20000 in
theorem dX8_run_32 : decode cX8_run 32 = .ok (.invokestatic 41, 3) := dc_184 0 41 (lxX8_run 2 0 rfl) (lxX8_run 2 1 rfl) (lxX8_run 2 2 rfl)
set_option maxRecDepth 20000 in
theorem dX8_run_35 : decode cX8_run 35 = .ok (.ifCond .eq 7, 3) := dc_153 0 7 (lxX8_run 2 3 rfl) (lxX8_run 2 4 rfl) (lxX8_run 2 5 rfl)
set_option maxRecDepth 20000 in
theorem dX8_run_38 : decode cX8_run 38 = .ok (.iconst 1, 1) := dc_4 (lxX8_run 2 6 rfl)
set_option maxRecDepth 20000 in
theorem dX8_run_39 : decode cX8_run 39 = .ok (.goto 4, 3) := dc_167 0 4 (lxX8_run 2 7 rfl) (lxX8_run 2 8 rfl) (lxX8_run 2 9 rfl)
set_option maxRecDepth 20000 in
theorem dX8_run_42 : decode cX8_run 42 = .ok (.iconst 0, 1) := dc_3 (lxX8_run 2 10 rfl)
set_option maxRecDepth 20000 in
theorem dX8_run_43 : decode cX8_run 43 = .ok (.invokevirtual 81, 3) := dc_182 0 81 (lxX8_run 2 11 rfl) (lxX8_run 2 12 rfl) (lxX8_run 2 13 rfl)
set_option maxRecDepth 20000 in
theorem dX8_run_46 : decode cX8_run 46 = .ok (.ifCond .eq 5, 3) := dc_153 0 5 (lxX8_run 2 14 rfl) (lxX8_run 2 15 rfl) (lxX8_run 3 0 rfl)
set_option maxRecDepth 20000 in
theorem dX8_run_49 : decode cX8_run 49 = .ok (.iconst 0, 1) := dc_3 (lxX8_run 3 1 rfl)
set_option maxRecDepth 20000 in
theorem dX8_run_50 : decode cX8_run 50 = .ok (.ireturn, 1) := dc_172 (lxX8_run 3 2 rfl)
set_option maxRecDepth 20000 in
theorem dX8_run_51 : decode cX8_run 51 = .ok (.aload_n 0, 1) := dc_42 (lxX8_run 3 3 rfl)
set_option maxRecDepth 20000 in
theorem dX8_run_52 : decode cX8_run 52 = .ok (.getfield 14, 3) := dc_180 0 14 (lxX8_run 3 4 rfl) (lxX8_run 3 5 rfl) (lxX8_run 3 6 rfl)
set_option maxRecDepth 20000 in
theorem dX8_run_55 : decode cX8_run 55 = .ok (.iload_n 1, 1) := dc_27 (lxX8_run 3 7 rfl)
set_option maxRecDepth 20000 in
theorem dX8_run_56 : decode cX8_run 56 = .ok (.aaload, 1) := dc_50 (lxX8_run 3 8 rfl)
set_option maxRecDepth 20000 in
theorem dX8_run_57 : decode cX8_run 57 = .ok (.astore 5, 2) := dc_58 5 (lxX8_run 3 9 rfl) (lxX8_run 3 10 rfl)
set_option maxRecDepth 20000 in
theorem dX8_run_59 : decode cX8_run 59 = .ok (.iload 4, 2) := dc_21 4 (lxX8_run 3 11 rfl) (lxX8_run 3 12 rfl)
set_option maxRecDepth 20000 in
theorem dX8_run_61 : decode cX8_run 61 = .ok (.aload 5, 2) := dc_25 5 (lxX8_run 3 13 rfl) (lxX8_run 3 14 rfl)
set_option maxRecDepth 20000 in
theorem dX8_run_63 : decode cX8_run 63 = .ok (.invokestatic 54, 3) := dc_184 0 54 (lxX8_run 3 15 rfl) (lxX8_run 4 0 rfl) (lxX8_run 4 1 rfl)
set_option maxRecDepth 20000 in
theorem dX8_run_66 : decode cX8_run 66 = .ok (.invokestatic 97, 3) := dc_184 0 97 (lxX8_run 4 2 rfl) (lxX8_run 4 3 rfl) (lxX8_run 4 4 rfl)
set_option maxRecDepth 20000 in
theorem dX8_run_69 : decode cX8_run 69 = .ok (.istore 6, 2) := dc_54 6 (lxX8_run 4 5 rfl) (lxX8_run 4 6 rfl)
set_option maxRecDepth 20000 in
theorem dX8_run_71 : decode cX8_run 71 = .ok (.iconst 0, 1) := dc_3 (lxX8_run 4 7 rfl)
set_option maxRecDepth 20000 in
theorem dX8_run_72 : decode cX8_run 72 = .ok (.istore 7, 2) := dc_54 7 (lxX8_run 4 8 rfl) (lxX8_run 4 9 rfl)
set_option maxRecDepth 20000 in
theorem dX8_run_74 : decode cX8_run 74 = .ok (.iload 7, 2) := dc_21 7 (lxX8_run 4 10 rfl) (lxX8_run 4 11 rfl)
set_option maxRecDepth 20000 in
theorem dX8_run_76 : decode cX8_run 76 = .ok (.iload 6, 2) := dc_21 6 (lxX8_run 4 12 rfl) (lxX8_run 4 13 rfl)
set_option maxRecDepth 20000 in
theorem dX8_run_78 : decode cX8_run 78 = .ok (.if_icmp .ge 25, 3) := dc_162 0 25 (lxX8_run 4 14 rfl) (lxX8_run 4 15 rfl) (lxX8_run 5 0 rfl)
set_option maxRecDepth 20000 in
theorem dX8_run_81 : decode cX8_run 81 = .ok (.aload_n 0, 1) := dc_42 (lxX8_run 5 1 rfl)
set_option maxRecDepth 20000 in
theorem dX8_run_82 : decode cX8_run 82 = .ok (.aload 5, 2) := dc_25 5 (lxX8_run 5 2 rfl) (lxX8_run 5 3 rfl)
set_option maxRecDepth 20000 in
theorem dX8_run_84 : decode cX8_run 84 = .ok (.iload_n 2, 1) := dc_28 (lxX8_run 5 4 rfl)
set_option maxRecDepth 20000 in
theorem dX8_run_85 : decode cX8_run 85 = .ok (.iload 7, 2) := dc_21 7 (lxX8_run 5 5 rfl) (lxX8_run 5 6 rfl)
set_option maxRecDepth 20000 in
theorem dX8_run_87 : decode cX8_run 87 = .ok (.iload_n 3, 1) := dc_29 (lxX8_run 5 7 rfl)
set_option maxRecDepth 20000 in
theorem dX8_run_88 : decode cX8_run 88 = .ok (.imul, 1) := dc_104 (lxX8_run 5 8 rfl)
set_option maxRecDepth 20000 in
theorem dX8_run_89 : decode cX8_run 89 = .ok (.iadd, 1) := dc_96 (lxX8_run 5 9 rfl)
set_option maxRecDepth 20000 in
theorem dX8_run_90 : decode cX8_run 90 = .ok (.sipush 256, 3) := dc_17 1 0 (lxX8_run 5 10 rfl) (lxX8_run 5 11 rfl) (lxX8_run 5 12 rfl)
set_option maxRecDepth 20000 in
theorem dX8_run_93 : decode cX8_run 93 = .ok (.irem, 1) := dc_112 (lxX8_run 5 13 rfl)
set_option maxRecDepth 20000 in
theorem dX8_run_94 : decode cX8_run 94 = .ok (.invokevirtual 93, 3) := dc_182 0 93 (lxX8_run 5 14 rfl) (lxX8_run 5 15 rfl) (lxX8_run 6 0 rfl)
set_option maxRecDepth 20000 in
theorem dX8_run_97 : decode cX8_run 97 = .ok (.iinc 7 1, 3) := dc_132 7 1 (lxX8_run 6 1 rfl) (lxX8_run 6 2 rfl) (lxX8_run 6 3 rfl)
set_option maxRecDepth 20000 in
theorem dX8_run_100 : decode cX8_run 100 = .ok (.goto (-26), 3) := dc_167 255 230 (lxX8_run 6 4 rfl) (lxX8_run 6 5 rfl) (lxX8_run 6 6 rfl)
set_option maxRecDepth 20000 in
theorem dX8_run_103 : decode cX8_run 103 = .ok (.aload_n 0, 1) := dc_42 (lxX8_run 6 7 rfl)
set_option maxRecDepth 20000 in
theorem dX8_run_104 : decode cX8_run 104 = .ok (.iload 6, 2) := dc_21 6 (lxX8_run 6 8 rfl) (lxX8_run 6 9 rfl)
set_option maxRecDepth 20000 in
theorem dX8_run_106 : decode cX8_run 106 = .ok (.invokevirtual 62, 3) := dc_182 0 62 (lxX8_run 6 10 rfl) (lxX8_run 6 11 rfl) (lxX8_run 6 12 rfl)
set_option maxRecDepth 20000 in
theorem dX8_run_109 : decode cX8_run 109 = .ok (.ireturn, 1) := dc_172 (lxX8_run 6 13 rfl)
def lb_sgX8_write_ : List (List UInt8) := [[42, 27, 184, 0, 77, 28, 155, 0, 13, 29, 3, 16, 20, 184, 0, 41], [153, 0, 7, 4, 167, 0, 4, 3, 182, 0, 81, 153, 0, 5, 3, 172], [42, 180, 0, 14, 27, 50, 58, 4, 29, 25, 4, 184, 0, 54, 184, 0], [97, 54, 5, 3, 54, 6, 21, 6, 21, 5, 162, 0, 21, 42, 25, 4], [28, 21, 6, 184, 0, 103, 182, 0, 93, 132, 6, 1, 167, 255, 234, 42], [21, 5, 182, 0, 62, 172]]
set_option maxRecDepth 100000 in
theorem lb_seX8_write_ : cX8_write_.data.toList = lb_sgX8_write_.flatten := by decide +kernel
theorem lb_lnX8_write_ : ∀ s ∈ lb_sgX8_write_.dropLast, s.length = 16 := by decide +kernel
theorem lxX8_write_ (k j : Nat) {b : UInt8} (h : (lb_sgX8_write_[k]?).bind (fun s => s[j]?) = some b) : lb_at cX8_write_ (16 * k + j) b := by
  unfold lb_at
  rw [lb_seX8_write_]
  exact lb_flat 16 lb_sgX8_write_ k j b lb_lnX8_write_ h
set_option maxRecDepth 20000 in
theorem dX8_write__0 : decode cX8_write_ 0 = .ok (.aload_n 0, 1) := dc_42 (lxX8_write_ 0 0 rfl)
set_option maxRecDepth 20000 in
theorem dX8_write__1 : decode cX8_write_ 1 = .ok (.iload_n 1, 1) := dc_27 (lxX8_write_ 0 1 rfl)
set_option maxRecDepth 20000 in
theorem dX8_write__2 : decode cX8_write_ 2 = .ok (.invokestatic 77, 3) := dc_184 0 77 (lxX8_write_ 0 2 rfl) (lxX8_write_ 0 3 rfl) (lxX8_write_ 0 4 rfl)
set_option maxRecDepth 20000 in
theorem dX8_write__5 : decode cX8_write_ 5 = .ok (.iload_n 2, 1) := dc_28 (lxX8_write_ 0 5 rfl)
set_option maxRecDepth 20000 in
theorem dX8_write__6 : decode cX8_write_ 6 = .ok (.ifCond .lt 13, 3) := dc_155 0 13 (lxX8_write_ 0 6 rfl) (lxX8_write_ 0 7 rfl) (lxX8_write_ 0 8 rfl)
set_option maxRecDepth 20000 in
theorem dX8_write__9 : decode cX8_write_ 9 = .ok (.iload_n 3, 1) := dc_29 (lxX8_write_ 0 9 rfl)
set_option maxRecDepth 20000 in
theorem dX8_write__10 : decode cX8_write_ 10 = .ok (.iconst 0, 1) := dc_3 (lxX8_write_ 0 10 rfl)
set_option maxRecDepth 20000 in
theorem dX8_write__11 : decode cX8_write_ 11 = .ok (.bipush 20, 2) := dc_16 20 (lxX8_write_ 0 11 rfl) (lxX8_write_ 0 12 rfl)
set_option maxRecDepth 20000 in
theorem dX8_write__13 : decode cX8_write_ 13 = .ok (.invokestatic 41, 3) := dc_184 0 41 (lxX8_write_ 0 13 rfl) (lxX8_write_ 0 14 rfl) (lxX8_write_ 0 15 rfl)
set_option maxRecDepth 20000 in
theorem dX8_write__16 : decode cX8_write_ 16 = .ok (.ifCond .eq 7, 3) := dc_153 0 7 (lxX8_write_ 1 0 rfl) (lxX8_write_ 1 1 rfl) (lxX8_write_ 1 2 rfl)
set_option maxRecDepth 20000 in
theorem dX8_write__19 : decode cX8_write_ 19 = .ok (.iconst 1, 1) := dc_4 (lxX8_write_ 1 3 rfl)
set_option maxRecDepth 20000 in
theorem dX8_write__20 : decode cX8_write_ 20 = .ok (.goto 4, 3) := dc_167 0 4 (lxX8_write_ 1 4 rfl) (lxX8_write_ 1 5 rfl) (lxX8_write_ 1 6 rfl)
set_option maxRecDepth 20000 in
theorem dX8_write__23 : decode cX8_write_ 23 = .ok (.iconst 0, 1) := dc_3 (lxX8_write_ 1 7 rfl)
set_option maxRecDepth 20000 in
theorem dX8_write__24 : decode cX8_write_ 24 = .ok (.invokevirtual 81, 3) := dc_182 0 81 (lxX8_write_ 1 8 rfl) (lxX8_write_ 1 9 rfl) (lxX8_write_ 1 10 rfl)
set_option maxRecDepth 20000 in
theorem dX8_write__27 : decode cX8_write_ 27 = .ok (.ifCond .eq 5, 3) := dc_153 0 5 (lxX8_write_ 1 11 rfl) (lxX8_write_ 1 12 rfl) (lxX8_write_ 1 13 rfl)
set_option maxRecDepth 20000 in
theorem dX8_write__30 : decode cX8_write_ 30 = .ok (.iconst 0, 1) := dc_3 (lxX8_write_ 1 14 rfl)
set_option maxRecDepth 20000 in
theorem dX8_write__31 : decode cX8_write_ 31 = .ok (.ireturn, 1) := dc_172 (lxX8_write_ 1 15 rfl)
set_option maxRecDepth 20000 in
theorem dX8_write__32 : decode cX8_write_ 32 = .ok (.aload_n 0, 1) := dc_42 (lxX8_write_ 2 0 rfl)
set_option maxRecDepth 20000 in
theorem dX8_write__33 : decode cX8_write_ 33 = .ok (.getfield 14, 3) := dc_180 0 14 (lxX8_write_ 2 1 rfl) (lxX8_write_ 2 2 rfl) (lxX8_write_ 2 3 rfl)
set_option maxRecDepth 20000 in
theorem dX8_write__36 : decode cX8_write_ 36 = .ok (.iload_n 1, 1) := dc_27 (lxX8_write_ 2 4 rfl)
set_option maxRecDepth 20000 in
theorem dX8_write__37 : decode cX8_write_ 37 = .ok (.aaload, 1) := dc_50 (lxX8_write_ 2 5 rfl)
set_option maxRecDepth 20000 in
theorem dX8_write__38 : decode cX8_write_ 38 = .ok (.astore 4, 2) := dc_58 4 (lxX8_write_ 2 6 rfl) (lxX8_write_ 2 7 rfl)
set_option maxRecDepth 20000 in
theorem dX8_write__40 : decode cX8_write_ 40 = .ok (.iload_n 3, 1) := dc_29 (lxX8_write_ 2 8 rfl)
set_option maxRecDepth 20000 in
theorem dX8_write__41 : decode cX8_write_ 41 = .ok (.aload 4, 2) := dc_25 4 (lxX8_write_ 2 9 rfl) (lxX8_write_ 2 10 rfl)
set_option maxRecDepth 20000 in
theorem dX8_write__43 : decode cX8_write_ 43 = .ok (.invokestatic 54, 3) := dc_184 0 54 (lxX8_write_ 2 11 rfl) (lxX8_write_ 2 12 rfl) (lxX8_write_ 2 13 rfl)
set_option maxRecDepth 20000 in
theorem dX8_write__46 : decode cX8_write_ 46 = .ok (.invokestatic 97, 3) := dc_184 0 97 (lxX8_write_ 2 14 rfl) (lxX8_write_ 2 15 rfl) (lxX8_write_ 3 0 rfl)
set_option maxRecDepth 20000 in
theorem dX8_write__49 : decode cX8_write_ 49 = .ok (.istore 5, 2) := dc_54 5 (lxX8_write_ 3 1 rfl) (lxX8_write_ 3 2 rfl)
set_option maxRecDepth 20000 in
theorem dX8_write__51 : decode cX8_write_ 51 = .ok (.iconst 0, 1) := dc_3 (lxX8_write_ 3 3 rfl)
set_option maxRecDepth 20000 in
theorem dX8_write__52 : decode cX8_write_ 52 = .ok (.istore 6, 2) := dc_54 6 (lxX8_write_ 3 4 rfl) (lxX8_write_ 3 5 rfl)
set_option maxRecDepth 20000 in
theorem dX8_write__54 : decode cX8_write_ 54 = .ok (.iload 6, 2) := dc_21 6 (lxX8_write_ 3 6 rfl) (lxX8_write_ 3 7 rfl)
set_option maxRecDepth 20000 in
theorem dX8_write__56 : decode cX8_write_ 56 = .ok (.iload 5, 2) := dc_21 5 (lxX8_write_ 3 8 rfl) (lxX8_write_ 3 9 rfl)
set_option maxRecDepth 20000 in
theorem dX8_write__58 : decode cX8_write_ 58 = .ok (.if_icmp .ge 21, 3) := dc_162 0 21 (lxX8_write_ 3 10 rfl) (lxX8_write_ 3 11 rfl) (lxX8_write_ 3 12 rfl)
set_option maxRecDepth 20000 in
theorem dX8_write__61 : decode cX8_write_ 61 = .ok (.aload_n 0, 1) := dc_42 (lxX8_write_ 3 13 rfl)
set_option maxRecDepth 20000 in
theorem dX8_write__62 : decode cX8_write_ 62 = .ok (.aload 4, 2) := dc_25 4 (lxX8_write_ 3 14 rfl) (lxX8_write_ 3 15 rfl)
set_option maxRecDepth 20000 in
theorem dX8_write__64 : decode cX8_write_ 64 = .ok (.iload_n 2, 1) := dc_28 (lxX8_write_ 4 0 rfl)
set_option maxRecDepth 20000 in
theorem dX8_write__65 : decode cX8_write_ 65 = .ok (.iload 6, 2) := dc_21 6 (lxX8_write_ 4 1 rfl) (lxX8_write_ 4 2 rfl)
set_option maxRecDepth 20000 in
theorem dX8_write__67 : decode cX8_write_ 67 = .ok (.invokestatic 103, 3) := dc_184 0 103 (lxX8_write_ 4 3 rfl) (lxX8_write_ 4 4 rfl) (lxX8_write_ 4 5 rfl)
set_option maxRecDepth 20000 in
theorem dX8_write__70 : decode cX8_write_ 70 = .ok (.invokevirtual 93, 3) := dc_182 0 93 (lxX8_write_ 4 6 rfl) (lxX8_write_ 4 7 rfl) (lxX8_write_ 4 8 rfl)
set_option maxRecDepth 20000 in
theorem dX8_write__73 : decode cX8_write_ 73 = .ok (.iinc 6 1, 3) := dc_132 6 1 (lxX8_write_ 4 9 rfl) (lxX8_write_ 4 10 rfl) (lxX8_write_ 4 11 rfl)
set_option maxRecDepth 20000 in
theorem dX8_write__76 : decode cX8_write_ 76 = .ok (.goto (-22), 3) := dc_167 255 234 (lxX8_write_ 4 12 rfl) (lxX8_write_ 4 13 rfl) (lxX8_write_ 4 14 rfl)
set_option maxRecDepth 20000 in
theorem dX8_write__79 : decode cX8_write_ 79 = .ok (.aload_n 0, 1) := dc_42 (lxX8_write_ 4 15 rfl)
set_option maxRecDepth 20000 in
theorem dX8_write__80 : decode cX8_write_ 80 = .ok (.iload 5, 2) := dc_21 5 (lxX8_write_ 5 0 rfl) (lxX8_write_ 5 1 rfl)
set_option maxRecDepth 20000 in
theorem dX8_write__82 : decode cX8_write_ 82 = .ok (.invokevirtual 62, 3) := dc_182 0 62 (lxX8_write_ 5 2 rfl) (lxX8_write_ 5 3 rfl) (lxX8_write_ 5 4 rfl)
set_option maxRecDepth 20000 in
theorem dX8_write__85 : decode cX8_write_ 85 = .ok (.ireturn, 1) := dc_172 (lxX8_write_ 5 5 rfl)
def lb_sgX8_get : List (List UInt8) := [[42, 27, 184, 0, 77, 3, 182, 0, 81, 153, 0, 5, 3, 172, 42, 180], [0, 14, 27, 50, 184, 0, 54, 154, 0, 10, 42, 182, 0, 89, 167, 0], [17, 42, 42, 42, 180, 0, 14, 27, 50, 182, 0, 106, 182, 0, 62, 172]]
set_option maxRecDepth 100000 in
theorem lb_seX8_get : cX8_get.data.toList = lb_sgX8_get.flatten := by decide +kernel
theorem lb_lnX8_get : ∀ s ∈ lb_sgX8_get.dropLast, s.length = 16 := by decide +kernel
theorem lxX8_get (k j : Nat) {b : UInt8} (h : (lb_sgX8_get[k]?).bind (fun s => s[j]?) = some b) : lb_at cX8_get (16 * k + j) b := by
  unfold lb_at
  rw [lb_seX8_get]
  exact lb_flat 16 lb_sgX8_get k j b lb_lnX8_get h
set_option maxRecDepth 20000 in
theorem dX8_get_0 : decode cX8_get 0 = .ok (.aload_n 0, 1) := dc_42 (lxX8_get 0 0 rfl)
set_option maxRecDepth 20000 in
theorem dX8_get_1 : decode cX8_get 1 = .ok (.iload_n 1, 1) := dc_27 (lxX8_get 0 1 rfl)
set_option maxRecDepth 20000 in
theorem dX8_get_2 : decode cX8_get 2 = .ok (.invokestatic 77, 3) := dc_184 0 77 (lxX8_get 0 2 rfl) (lxX8_get 0 3 rfl) (lxX8_get 0 4 rfl)
set_option maxRecDepth 20000 in
theorem dX8_get_5 : decode cX8_get 5 = .ok (.iconst 0, 1) := dc_3 (lxX8_get 0 5 rfl)
set_option maxRecDepth 20000 in
theorem dX8_get_6 : decode cX8_get 6 = .ok (.invokevirtual 81, 3) := dc_182 0 81 (lxX8_get 0 6 rfl) (lxX8_get 0 7 rfl) (lxX8_get 0 8 rfl)
set_option maxRecDepth 20000 in
theorem dX8_get_9 : decode cX8_get 9 = .ok (.ifCond .eq 5, 3) := dc_153 0 5 (lxX8_get 0 9 rfl) (lxX8_get 0 10 rfl) (lxX8_get 0 11 rfl)
set_option maxRecDepth 20000 in
theorem dX8_get_12 : decode cX8_get 12 = .ok (.iconst 0, 1) := dc_3 (lxX8_get 0 12 rfl)
set_option maxRecDepth 20000 in
theorem dX8_get_13 : decode cX8_get 13 = .ok (.ireturn, 1) := dc_172 (lxX8_get 0 13 rfl)
set_option maxRecDepth 20000 in
theorem dX8_get_14 : decode cX8_get 14 = .ok (.aload_n 0, 1) := dc_42 (lxX8_get 0 14 rfl)
set_option maxRecDepth 20000 in
theorem dX8_get_15 : decode cX8_get 15 = .ok (.getfield 14, 3) := dc_180 0 14 (lxX8_get 0 15 rfl) (lxX8_get 1 0 rfl) (lxX8_get 1 1 rfl)
set_option maxRecDepth 20000 in
theorem dX8_get_18 : decode cX8_get 18 = .ok (.iload_n 1, 1) := dc_27 (lxX8_get 1 2 rfl)
set_option maxRecDepth 20000 in
theorem dX8_get_19 : decode cX8_get 19 = .ok (.aaload, 1) := dc_50 (lxX8_get 1 3 rfl)
set_option maxRecDepth 20000 in
theorem dX8_get_20 : decode cX8_get 20 = .ok (.invokestatic 54, 3) := dc_184 0 54 (lxX8_get 1 4 rfl) (lxX8_get 1 5 rfl) (lxX8_get 1 6 rfl)
set_option maxRecDepth 20000 in
theorem dX8_get_23 : decode cX8_get 23 = .ok (.ifCond .ne 10, 3) := dc_154 0 10 (lxX8_get 1 7 rfl) (lxX8_get 1 8 rfl) (lxX8_get 1 9 rfl)
set_option maxRecDepth 20000 in
theorem dX8_get_26 : decode cX8_get 26 = .ok (.aload_n 0, 1) := dc_42 (lxX8_get 1 10 rfl)
set_option maxRecDepth 20000 in
theorem dX8_get_27 : decode cX8_get 27 = .ok (.invokevirtual 89, 3) := dc_182 0 89 (lxX8_get 1 11 rfl) (lxX8_get 1 12 rfl) (lxX8_get 1 13 rfl)
set_option maxRecDepth 20000 in
theorem dX8_get_30 : decode cX8_get 30 = .ok (.goto 17, 3) := dc_167 0 17 (lxX8_get 1 14 rfl) (lxX8_get 1 15 rfl) (lxX8_get 2 0 rfl)
set_option maxRecDepth 20000 in
theorem dX8_get_33 : decode cX8_get 33 = .ok (.aload_n 0, 1) := dc_42 (lxX8_get 2 1 rfl)
set_option maxRecDepth 20000 in
theorem dX8_get_34 : decode cX8_get 34 = .ok (.aload_n 0, 1) := dc_42 (lxX8_get 2 2 rfl)
set_option maxRecDepth 20000 in
theorem dX8_get_35 : decode cX8_get 35 = .ok (.aload_n 0, 1) := dc_42 (lxX8_get 2 3 rfl)
set_option maxRecDepth 20000 in
theorem dX8_get_36 : decode cX8_get 36 = .ok (.getfield 14, 3) := dc_180 0 14 (lxX8_get 2 4 rfl) (lxX8_get 2 5 rfl) (lxX8_get 2 6 rfl)
set_option maxRecDepth 20000 in
theorem dX8_get_39 : decode cX8_get 39 = .ok (.iload_n 1, 1) := dc_27 (lxX8_get 2 7 rfl)
set_option maxRecDepth 20000 in
theorem dX8_get_40 : decode cX8_get 40 = .ok (.aaload, 1) := dc_50 (lxX8_get 2 8 rfl)
set_option maxRecDepth 20000 in
theorem dX8_get_41 : decode cX8_get 41 = .ok (.invokevirtual 106, 3) := dc_182 0 106 (lxX8_get 2 9 rfl) (lxX8_get 2 10 rfl) (lxX8_get 2 11 rfl)
set_option maxRecDepth 20000 in
theorem dX8_get_44 : decode cX8_get 44 = .ok (.invokevirtual 62, 3) := dc_182 0 62 (lxX8_get 2 12 rfl) (lxX8_get 2 13 rfl) (lxX8_get 2 14 rfl)
set_option maxRecDepth 20000 in
theorem dX8_get_47 : decode cX8_get 47 = .ok (.ireturn, 1) := dc_172 (lxX8_get 2 15 rfl)
def lb_sgX8_read_ : List (List UInt8) := [[42, 27, 184, 0, 77, 28, 3, 16, 40, 184, 0, 41, 182, 0, 81, 153], [0, 6, 18, 109, 176, 42, 180, 0, 14, 27, 50, 78, 42, 45, 182, 0], [58, 58, 4, 28, 25, 4, 190, 184, 0, 97, 54, 5, 45, 6, 92, 46], [42, 21, 5, 182, 0, 62, 96, 79, 25, 4, 3, 21, 5, 184, 0, 111], [176]]
set_option maxRecDepth 100000 in
theorem lb_seX8_read_ : cX8_read_.data.toList = lb_sgX8_read_.flatten := by decide +kernel
theorem lb_lnX8_read_ : ∀ s ∈ lb_sgX8_read_.dropLast, s.length = 16 := by decide +kernel
theorem lxX8_read_ (k j : Nat) {b : UInt8} (h : (lb_sgX8_read_[k]?).bind (fun s => s[j]?) = some b) : lb_at cX8_read_ (16 * k + j) b := by
  unfold lb_at
  rw [lb_seX8_read_]
  exact lb_flat 16 lb_sgX8_read_ k j b lb_lnX8_read_ h
set_option maxRecDepth 20000 in
theorem dX8_read__0 : decode cX8_read_ 0 = .ok (.aload_n 0, 1) := dc_42 (lxX8_read_ 0 0 rfl)
set_option maxRecDepth 20000 in
theorem dX8_read__1 : decode cX8_read_ 1 = .ok (.iload_n 1, 1) := dc_27 (lxX8_read_ 0 1 rfl)
set_option maxRecDepth 20000 in
theorem dX8_read__2 : decode cX8_read_ 2 = .ok (.invokestatic 77, 3) := dc_184 0 77 (lxX8_read_ 0 2 rfl) (lxX8_read_ 0 3 rfl) (lxX8_read_ 0 4 rfl)
set_option maxRecDepth 20000 in
theorem dX8_read__5 : decode cX8_read_ 5 = .ok (.iload_n 2, 1) := dc_28 (lxX8_read_ 0 5 rfl)
set_option maxRecDepth 20000 in
theorem dX8_read__6 : decode cX8_read_ 6 = .ok (.iconst 0, 1) := dc_3 (lxX8_read_ 0 6 rfl)
set_option maxRecDepth 20000 in
theorem dX8_read__7 : decode cX8_read_ 7 = .ok (.bipush 40, 2) := dc_16 40 (lxX8_read_ 0 7 rfl) (lxX8_read_ 0 8 rfl)
set_option maxRecDepth 20000 in
theorem dX8_read__9 : decode cX8_read_ 9 = .ok (.invokestatic 41, 3) := dc_184 0 41 (lxX8_read_ 0 9 rfl) (lxX8_read_ 0 10 rfl) (lxX8_read_ 0 11 rfl)
set_option maxRecDepth 20000 in
theorem dX8_read__12 : decode cX8_read_ 12 = .ok (.invokevirtual 81, 3) := dc_182 0 81 (lxX8_read_ 0 12 rfl) (lxX8_read_ 0 13 rfl) (lxX8_read_ 0 14 rfl)
set_option maxRecDepth 20000 in
theorem dX8_read__15 : decode cX8_read_ 15 = .ok (.ifCond .eq 6, 3) := dc_153 0 6 (lxX8_read_ 0 15 rfl) (lxX8_read_ 1 0 rfl) (lxX8_read_ 1 1 rfl)
set_option maxRecDepth 20000 in
theorem dX8_read__18 : decode cX8_read_ 18 = .ok (.ldc 109, 2) := dc_18 109 (lxX8_read_ 1 2 rfl) (lxX8_read_ 1 3 rfl)
set_option maxRecDepth 20000 in
theorem dX8_read__20 : decode cX8_read_ 20 = .ok (.areturn, 1) := dc_176 (lxX8_read_ 1 4 rfl)
set_option maxRecDepth 20000 in
theorem dX8_read__21 : decode cX8_read_ 21 = .ok (.aload_n 0, 1) := dc_42 (lxX8_read_ 1 5 rfl)
set_option maxRecDepth 20000 in
theorem dX8_read__22 : decode cX8_read_ 22 = .ok (.getfield 14, 3) := dc_180 0 14 (lxX8_read_ 1 6 rfl) (lxX8_read_ 1 7 rfl) (lxX8_read_ 1 8 rfl)
set_option maxRecDepth 20000 in
theorem dX8_read__25 : decode cX8_read_ 25 = .ok (.iload_n 1, 1) := dc_27 (lxX8_read_ 1 9 rfl)
set_option maxRecDepth 20000 in
theorem dX8_read__26 : decode cX8_read_ 26 = .ok (.aaload, 1) := dc_50 (lxX8_read_ 1 10 rfl)
set_option maxRecDepth 20000 in
theorem dX8_read__27 : decode cX8_read_ 27 = .ok (.astore_n 3, 1) := dc_78 (lxX8_read_ 1 11 rfl)
set_option maxRecDepth 20000 in
theorem dX8_read__28 : decode cX8_read_ 28 = .ok (.aload_n 0, 1) := dc_42 (lxX8_read_ 1 12 rfl)
set_option maxRecDepth 20000 in
theorem dX8_read__29 : decode cX8_read_ 29 = .ok (.aload_n 3, 1) := dc_45 (lxX8_read_ 1 13 rfl)
set_option maxRecDepth 20000 in
theorem dX8_read__30 : decode cX8_read_ 30 = .ok (.invokevirtual 58, 3) := dc_182 0 58 (lxX8_read_ 1 14 rfl) (lxX8_read_ 1 15 rfl) (lxX8_read_ 2 0 rfl)
set_option maxRecDepth 20000 in
theorem dX8_read__33 : decode cX8_read_ 33 = .ok (.astore 4, 2) := dc_58 4 (lxX8_read_ 2 1 rfl) (lxX8_read_ 2 2 rfl)
set_option maxRecDepth 20000 in
theorem dX8_read__35 : decode cX8_read_ 35 = .ok (.iload_n 2, 1) := dc_28 (lxX8_read_ 2 3 rfl)
set_option maxRecDepth 20000 in
theorem dX8_read__36 : decode cX8_read_ 36 = .ok (.aload 4, 2) := dc_25 4 (lxX8_read_ 2 4 rfl) (lxX8_read_ 2 5 rfl)
set_option maxRecDepth 20000 in
theorem dX8_read__38 : decode cX8_read_ 38 = .ok (.arraylength, 1) := dc_190 (lxX8_read_ 2 6 rfl)
set_option maxRecDepth 20000 in
theorem dX8_read__39 : decode cX8_read_ 39 = .ok (.invokestatic 97, 3) := dc_184 0 97 (lxX8_read_ 2 7 rfl) (lxX8_read_ 2 8 rfl) (lxX8_read_ 2 9 rfl)
set_option maxRecDepth 20000 in
theorem dX8_read__42 : decode cX8_read_ 42 = .ok (.istore 5, 2) := dc_54 5 (lxX8_read_ 2 10 rfl) (lxX8_read_ 2 11 rfl)
set_option maxRecDepth 20000 in
theorem dX8_read__44 : decode cX8_read_ 44 = .ok (.aload_n 3, 1) := dc_45 (lxX8_read_ 2 12 rfl)
set_option maxRecDepth 20000 in
theorem dX8_read__45 : decode cX8_read_ 45 = .ok (.iconst 3, 1) := dc_6 (lxX8_read_ 2 13 rfl)
set_option maxRecDepth 20000 in
theorem dX8_read__46 : decode cX8_read_ 46 = .ok (.dup2, 1) := dc_92 (lxX8_read_ 2 14 rfl)
set_option maxRecDepth 20000 in
theorem dX8_read__47 : decode cX8_read_ 47 = .ok (.iaload, 1) := dc_46 (lxX8_read_ 2 15 rfl)
set_option maxRecDepth 20000 in
theorem dX8_read__48 : decode cX8_read_ 48 = .ok (.aload_n 0, 1) := dc_42 (lxX8_read_ 3 0 rfl)
set_option maxRecDepth 20000 in
theorem dX8_read__49 : decode cX8_read_ 49 = .ok (.iload 5, 2) := dc_21 5 (lxX8_read_ 3 1 rfl) (lxX8_read_ 3 2 rfl)
set_option maxRecDepth 20000 in
theorem dX8_read__51 : decode cX8_read_ 51 = .ok (.invokevirtual 62, 3) := dc_182 0 62 (lxX8_read_ 3 3 rfl) (lxX8_read_ 3 4 rfl) (lxX8_read_ 3 5 rfl)
set_option maxRecDepth 20000 in
theorem dX8_read__54 : decode cX8_read_ 54 = .ok (.iadd, 1) := dc_96 (lxX8_read_ 3 6 rfl)
set_option maxRecDepth 20000 in
theorem dX8_read__55 : decode cX8_read_ 55 = .ok (.iastore, 1) := dc_79 (lxX8_read_ 3 7 rfl)
set_option maxRecDepth 20000 in
theorem dX8_read__56 : decode cX8_read_ 56 = .ok (.aload 4, 2) := dc_25 4 (lxX8_read_ 3 8 rfl) (lxX8_read_ 3 9 rfl)
set_option maxRecDepth 20000 in
theorem dX8_read__58 : decode cX8_read_ 58 = .ok (.iconst 0, 1) := dc_3 (lxX8_read_ 3 10 rfl)
set_option maxRecDepth 20000 in
theorem dX8_read__59 : decode cX8_read_ 59 = .ok (.iload 5, 2) := dc_21 5 (lxX8_read_ 3 11 rfl) (lxX8_read_ 3 12 rfl)
set_option maxRecDepth 20000 in
theorem dX8_read__61 : decode cX8_read_ 61 = .ok (.invokestatic 111, 3) := dc_184 0 111 (lxX8_read_ 3 13 rfl) (lxX8_read_ 3 14 rfl) (lxX8_read_ 3 15 rfl)
set_option maxRecDepth 20000 in
theorem dX8_read__64 : decode cX8_read_ 64 = .ok (.areturn, 1) := dc_176 (lxX8_read_ 4 0 rfl)
def lb_sgX8_pour : List (List UInt8) := [[42, 27, 184, 0, 77, 154, 0, 10, 28, 184, 0, 77, 153, 0, 7, 4], [167, 0, 4, 3, 27, 28, 159, 0, 13, 29, 3, 16, 40, 184, 0, 41], [153, 0, 7, 4, 167, 0, 4, 3, 182, 0, 81, 153, 0, 5, 3, 172], [29, 42, 180, 0, 14, 27, 50, 184, 0, 54, 42, 180, 0, 14, 28, 50], [184, 0, 54, 184, 0, 97, 184, 0, 97, 54, 4, 3, 54, 5, 21, 5], [21, 4, 162, 0, 29, 42, 42, 180, 0, 14, 28, 50, 42, 42, 180, 0], [14, 27, 50, 182, 0, 106, 182, 0, 93, 132, 5, 1, 167, 255, 226, 42], [21, 4, 182, 0, 62, 172]]
set_option maxRecDepth 100000 in
theorem lb_seX8_pour : cX8_pour.data.toList = lb_sgX8_pour.flatten := by decide +kernel
theorem lb_lnX8_pour : ∀ s ∈ lb_sgX8_pour.dropLast, s.length = 16 := by decide +kernel
theorem lxX8_pour (k j : Nat) {b : UInt8} (h : (lb_sgX8_pour[k]?).bind (fun s => s[j]?) = some b) : lb_at cX8_pour (16 * k + j) b := by
  unfold lb_at
  rw [lb_seX8_pour]
  exact lb_flat 16 lb_sgX8_pour k j b lb_lnX8_pour h
set_option maxRecDepth 20000 in
theorem dX8_pour_0 : decode cX8_pour 0 = .ok (.aload_n 0, 1) := dc_42 (lxX8_pour 0 0 rfl)
set_option maxRecDepth 20000 in
theorem dX8_pour_1 : decode cX8_pour 1 = .ok (.iload_n 1, 1) := dc_27 (lxX8_pour 0 1 rfl)
set_option maxRecDepth 20000 in
theorem dX8_pour_2 : decode cX8_pour 2 = .ok (.invokestatic 77, 3) := dc_184 0 77 (lxX8_pour 0 2 rfl) (lxX8_pour 0 3 rfl) (lxX8_pour 0 4 rfl)
set_option maxRecDepth 20000 in
theorem dX8_pour_5 : decode cX8_pour 5 = .ok (.ifCond .ne 10, 3) := dc_154 0 10 (lxX8_pour 0 5 rfl) (lxX8_pour 0 6 rfl) (lxX8_pour 0 7 rfl)
set_option maxRecDepth 20000 in
theorem dX8_pour_8 : decode cX8_pour 8 = .ok (.iload_n 2, 1) := dc_28 (lxX8_pour 0 8 rfl)
set_option maxRecDepth 20000 in
theorem dX8_pour_9 : decode cX8_pour 9 = .ok (.invokestatic 77, 3) := dc_184 0 77 (lxX8_pour 0 9 rfl) (lxX8_pour 0 10 rfl) (lxX8_pour 0 11 rfl)
set_option maxRecDepth 20000 in
theorem dX8_pour_12 : decode cX8_pour 12 = .ok (.ifCond .eq 7, 3) := dc_153 0 7 (lxX8_pour 0 12 rfl) (lxX8_pour 0 13 rfl) (lxX8_pour 0 14 rfl)
set_option maxRecDepth 20000 in
theorem dX8_pour_15 : decode cX8_pour 15 = .ok (.iconst 1, 1) := dc_4 (lxX8_pour 0 15 rfl)
set_option maxRecDepth 20000 in
theorem dX8_pour_16 : decode cX8_pour 16 = .ok (.goto 4, 3) := dc_167 0 4 (lxX8_pour 1 0 rfl) (lxX8_pour 1 1 rfl) (lxX8_pour 1 2 rfl)
set_option maxRecDepth 20000 in
theorem dX8_pour_19 : decode cX8_pour 19 = .ok (.iconst 0, 1) := dc_3 (lxX8_pour 1 3 rfl)
set_option maxRecDepth 20000 in
theorem dX8_pour_20 : decode cX8_pour 20 = .ok (.iload_n 1, 1) := dc_27 (lxX8_pour 1 4 rfl)
set_option maxRecDepth 20000 in
theorem dX8_pour_21 : decode cX8_pour 21 = .ok (.iload_n 2, 1) := dc_28 (lxX8_pour 1 5 rfl)
set_option maxRecDepth 20000 in
theorem dX8_pour_22 : decode cX8_pour 22 = .ok (.if_icmp .eq 13, 3) := dc_159 0 13 (lxX8_pour 1 6 rfl) (lxX8_pour 1 7 rfl) (lxX8_pour 1 8 rfl)
set_option maxRecDepth 20000 in
theorem dX8_pour_25 : decode cX8_pour 25 = .ok (.iload_n 3, 1) := dc_29 (lxX8_pour 1 9 rfl)
set_option maxRecDepth 20000 in
theorem dX8_pour_26 : decode cX8_pour 26 = .ok (.iconst 0, 1) := dc_3 (lxX8_pour 1 10 rfl)
set_option maxRecDepth 20000 in
theorem dX8_pour_27 : decode cX8_pour 27 = .ok (.bipush 40, 2) := dc_16 40 (lxX8_pour 1 11 rfl) (lxX8_pour 1 12 rfl)
set_option maxRecDepth 20000 in
theorem dX8_pour_29 : decode cX8_pour 29 = .ok (.invokestatic 41, 3) := dc_184 0 41 (lxX8_pour 1 13 rfl) (lxX8_pour 1 14 rfl) (lxX8_pour 1 15 rfl)
set_option maxRecDepth 20000 in
theorem dX8_pour_32 : decode cX8_pour 32 = .ok (.ifCond .eq 7, 3) := dc_153 0 7 (lxX8_pour 2 0 rfl) (lxX8_pour 2 1 rfl) (lxX8_pour 2 2 rfl)
set_option maxRecDepth 20000 in
theorem dX8_pour_35 : decode cX8_pour 35 = .ok (.iconst 1, 1) := dc_4 (lxX8_pour 2 3 rfl)
set_option maxRecDepth 20000 in
theorem dX8_pour_36 : decode cX8_pour 36 = .ok (.goto 4, 3) := dc_167 0 4 (lxX8_pour 2 4 rfl) (lxX8_pour 2 5 rfl) (lxX8_pour 2 6 rfl)
set_option maxRecDepth 20000 in
theorem dX8_pour_39 : decode cX8_pour 39 = .ok (.iconst 0, 1) := dc_3 (lxX8_pour 2 7 rfl)
set_option maxRecDepth 20000 in
theorem dX8_pour_40 : decode cX8_pour 40 = .ok (.invokevirtual 81, 3) := dc_182 0 81 (lxX8_pour 2 8 rfl) (lxX8_pour 2 9 rfl) (lxX8_pour 2 10 rfl)
set_option maxRecDepth 20000 in
theorem dX8_pour_43 : decode cX8_pour 43 = .ok (.ifCond .eq 5, 3) := dc_153 0 5 (lxX8_pour 2 11 rfl) (lxX8_pour 2 12 rfl) (lxX8_pour 2 13 rfl)
set_option maxRecDepth 20000 in
theorem dX8_pour_46 : decode cX8_pour 46 = .ok (.iconst 0, 1) := dc_3 (lxX8_pour 2 14 rfl)
set_option maxRecDepth 20000 in
theorem dX8_pour_47 : decode cX8_pour 47 = .ok (.ireturn, 1) := dc_172 (lxX8_pour 2 15 rfl)
set_option maxRecDepth 20000 in
theorem dX8_pour_48 : decode cX8_pour 48 = .ok (.iload_n 3, 1) := dc_29 (lxX8_pour 3 0 rfl)
set_option maxRecDepth 20000 in
theorem dX8_pour_49 : decode cX8_pour 49 = .ok (.aload_n 0, 1) := dc_42 (lxX8_pour 3 1 rfl)
set_option maxRecDepth 20000 in
theorem dX8_pour_50 : decode cX8_pour 50 = .ok (.getfield 14, 3) := dc_180 0 14 (lxX8_pour 3 2 rfl) (lxX8_pour 3 3 rfl) (lxX8_pour 3 4 rfl)
set_option maxRecDepth 20000 in
theorem dX8_pour_53 : decode cX8_pour 53 = .ok (.iload_n 1, 1) := dc_27 (lxX8_pour 3 5 rfl)
set_option maxRecDepth 20000 in
theorem dX8_pour_54 : decode cX8_pour 54 = .ok (.aaload, 1) := dc_50 (lxX8_pour 3 6 rfl)
set_option maxRecDepth 20000 in
theorem dX8_pour_55 : decode cX8_pour 55 = .ok (.invokestatic 54, 3) := dc_184 0 54 (lxX8_pour 3 7 rfl) (lxX8_pour 3 8 rfl) (lxX8_pour 3 9 rfl)
set_option maxRecDepth 20000 in
theorem dX8_pour_58 : decode cX8_pour 58 = .ok (.aload_n 0, 1) := dc_42 (lxX8_pour 3 10 rfl)
set_option maxRecDepth 20000 in
theorem dX8_pour_59 : decode cX8_pour 59 = .ok (.getfield 14, 3) := dc_180 0 14 (lxX8_pour 3 11 rfl) (lxX8_pour 3 12 rfl) (lxX8_pour 3 13 rfl)
set_option maxRecDepth 20000 in
theorem dX8_pour_62 : decode cX8_pour 62 = .ok (.iload_n 2, 1) := dc_28 (lxX8_pour 3 14 rfl)
set_option maxRecDepth 20000 in
theorem dX8_pour_63 : decode cX8_pour 63 = .ok (.aaload, 1) := dc_50 (lxX8_pour 3 15 rfl)
set_option maxRecDepth 20000 in
theorem dX8_pour_64 : decode cX8_pour 64 = .ok (.invokestatic 54, 3) := dc_184 0 54 (lxX8_pour 4 0 rfl) (lxX8_pour 4 1 rfl) (lxX8_pour 4 2 rfl)
set_option maxRecDepth 20000 in
theorem dX8_pour_67 : decode cX8_pour 67 = .ok (.invokestatic 97, 3) := dc_184 0 97 (lxX8_pour 4 3 rfl) (lxX8_pour 4 4 rfl) (lxX8_pour 4 5 rfl)
set_option maxRecDepth 20000 in
theorem dX8_pour_70 : decode cX8_pour 70 = .ok (.invokestatic 97, 3) := dc_184 0 97 (lxX8_pour 4 6 rfl) (lxX8_pour 4 7 rfl) (lxX8_pour 4 8 rfl)
set_option maxRecDepth 20000 in
theorem dX8_pour_73 : decode cX8_pour 73 = .ok (.istore 4, 2) := dc_54 4 (lxX8_pour 4 9 rfl) (lxX8_pour 4 10 rfl)
set_option maxRecDepth 20000 in
theorem dX8_pour_75 : decode cX8_pour 75 = .ok (.iconst 0, 1) := dc_3 (lxX8_pour 4 11 rfl)
set_option maxRecDepth 20000 in
theorem dX8_pour_76 : decode cX8_pour 76 = .ok (.istore 5, 2) := dc_54 5 (lxX8_pour 4 12 rfl) (lxX8_pour 4 13 rfl)
set_option maxRecDepth 20000 in
theorem dX8_pour_78 : decode cX8_pour 78 = .ok (.iload 5, 2) := dc_21 5 (lxX8_pour 4 14 rfl) (lxX8_pour 4 15 rfl)
set_option maxRecDepth 20000 in
theorem dX8_pour_80 : decode cX8_pour 80 = .ok (.iload 4, 2) := dc_21 4 (lxX8_pour 5 0 rfl) (lxX8_pour 5 1 rfl)
set_option maxRecDepth 20000 in
theorem dX8_pour_82 : decode cX8_pour 82 = .ok (.if_icmp .ge 29, 3) := dc_162 0 29 (lxX8_pour 5 2 rfl) (lxX8_pour 5 3 rfl) (lxX8_pour 5 4 rfl)
set_option maxRecDepth 20000 in
theorem dX8_pour_85 : decode cX8_pour 85 = .ok (.aload_n 0, 1) := dc_42 (lxX8_pour 5 5 rfl)
set_option maxRecDepth 20000 in
theorem dX8_pour_86 : decode cX8_pour 86 = .ok (.aload_n 0, 1) := dc_42 (lxX8_pour 5 6 rfl)
set_option maxRecDepth 20000 in
theorem dX8_pour_87 : decode cX8_pour 87 = .ok (.getfield 14, 3) := dc_180 0 14 (lxX8_pour 5 7 rfl) (lxX8_pour 5 8 rfl) (lxX8_pour 5 9 rfl)
set_option maxRecDepth 20000 in
theorem dX8_pour_90 : decode cX8_pour 90 = .ok (.iload_n 2, 1) := dc_28 (lxX8_pour 5 10 rfl)
set_option maxRecDepth 20000 in
theorem dX8_pour_91 : decode cX8_pour 91 = .ok (.aaload, 1) := dc_50 (lxX8_pour 5 11 rfl)
set_option maxRecDepth 20000 in
theorem dX8_pour_92 : decode cX8_pour 92 = .ok (.aload_n 0, 1) := dc_42 (lxX8_pour 5 12 rfl)
set_option maxRecDepth 20000 in
theorem dX8_pour_93 : decode cX8_pour 93 = .ok (.aload_n 0, 1) := dc_42 (lxX8_pour 5 13 rfl)
set_option maxRecDepth 20000 in
theorem dX8_pour_94 : decode cX8_pour 94 = .ok (.getfield 14, 3) := dc_180 0 14 (lxX8_pour 5 14 rfl) (lxX8_pour 5 15 rfl) (lxX8_pour 6 0 rfl)
set_option maxRecDepth 20000 in
theorem dX8_pour_97 : decode cX8_pour 97 = .ok (.iload_n 1, 1) := dc_27 (lxX8_pour 6 1 rfl)
set_option maxRecDepth 20000 in
theorem dX8_pour_98 : decode cX8_pour 98 = .ok (.aaload, 1) := dc_50 (lxX8_pour 6 2 rfl)
set_option maxRecDepth 20000 in
theorem dX8_pour_99 : decode cX8_pour 99 = .ok (.invokevirtual 106, 3) := dc_182 0 106 (lxX8_pour 6 3 rfl) (lxX8_pour 6 4 rfl) (lxX8_pour 6 5 rfl)
set_option maxRecDepth 20000 in
theorem dX8_pour_102 : decode cX8_pour 102 = .ok (.invokevirtual 93, 3) := dc_182 0 93 (lxX8_pour 6 6 rfl) (lxX8_pour 6 7 rfl) (lxX8_pour 6 8 rfl)
set_option maxRecDepth 20000 in
theorem dX8_pour_105 : decode cX8_pour 105 = .ok (.iinc 5 1, 3) := dc_132 5 1 (lxX8_pour 6 9 rfl) (lxX8_pour 6 10 rfl) (lxX8_pour 6 11 rfl)
set_option maxRecDepth 20000 in
theorem dX8_pour_108 : decode cX8_pour 108 = .ok (.goto (-30), 3) := dc_167 255 226 (lxX8_pour 6 12 rfl) (lxX8_pour 6 13 rfl) (lxX8_pour 6 14 rfl)
set_option maxRecDepth 20000 in
theorem dX8_pour_111 : decode cX8_pour 111 = .ok (.aload_n 0, 1) := dc_42 (lxX8_pour 6 15 rfl)
set_option maxRecDepth 20000 in
theorem dX8_pour_112 : decode cX8_pour 112 = .ok (.iload 4, 2) := dc_21 4 (lxX8_pour 7 0 rfl) (lxX8_pour 7 1 rfl)
set_option maxRecDepth 20000 in
theorem dX8_pour_114 : decode cX8_pour 114 = .ok (.invokevirtual 62, 3) := dc_182 0 62 (lxX8_pour 7 2 rfl) (lxX8_pour 7 3 rfl) (lxX8_pour 7 4 rfl)
set_option maxRecDepth 20000 in
theorem dX8_pour_117 : decode cX8_pour 117 = .ok (.ireturn, 1) := dc_172 (lxX8_pour 7 5 rfl)
def lb_sgX8_mark : List (List UInt8) := [[42, 27, 184, 0, 77, 3, 182, 0, 81, 153, 0, 5, 3, 172, 42, 180], [0, 14, 27, 50, 77, 44, 7, 44, 6, 46, 79, 42, 44, 6, 46, 182], [0, 62, 172]]
set_option maxRecDepth 100000 in
theorem lb_seX8_mark : cX8_mark.data.toList = lb_sgX8_mark.flatten := by decide +kernel
theorem lb_lnX8_mark : ∀ s ∈ lb_sgX8_mark.dropLast, s.length = 16 := by decide +kernel
theorem lxX8_mark (k j : Nat) {b : UInt8} (h : (lb_sgX8_mark[k]?).bind (fun s => s[j]?) = some b) : lb_at cX8_mark (16 * k + j) b := by
  unfold lb_at
  rw [lb_seX8_mark]
  exact lb_flat 16 lb_sgX8_mark k j b lb_lnX8_mark h
set_option maxRecDepth 20000 in
theorem dX8_mark_0 : decode cX8_mark 0 = .ok (.aload_n 0, 1) := dc_42 (lxX8_mark 0 0 rfl)
set_option maxRecDepth 20000 in
theorem dX8_mark_1 : decode cX8_mark 1 = .ok (.iload_n 1, 1) := dc_27 (lxX8_mark 0 1 rfl)
set_option maxRecDepth 20000 in
theorem dX8_mark_2 : decode cX8_mark 2 = .ok (.invokestatic 77, 3) := dc_184 0 77 (lxX8_mark 0 2 rfl) (lxX8_mark 0 3 rfl) (lxX8_mark 0 4 rfl)
set_option maxRecDepth 20000 in
theorem dX8_mark_5 : decode cX8_mark 5 = .ok (.iconst 0, 1) := dc_3 (lxX8_mark 0 5 rfl)
set_option maxRecDepth 20000 in
theorem dX8_mark_6 : decode cX8_mark 6 = .ok (.invokevirtual 81, 3) := dc_182 0 81 (lxX8_mark 0 6 rfl) (lxX8_mark 0 7 rfl) (lxX8_mark 0 8 rfl)
set_option maxRecDepth 20000 in
theorem dX8_mark_9 : decode cX8_mark 9 = .ok (.ifCond .eq 5, 3) := dc_153 0 5 (lxX8_mark 0 9 rfl) (lxX8_mark 0 10 rfl) (lxX8_mark 0 11 rfl)
set_option maxRecDepth 20000 in
theorem dX8_mark_12 : decode cX8_mark 12 = .ok (.iconst 0, 1) := dc_3 (lxX8_mark 0 12 rfl)
set_option maxRecDepth 20000 in
theorem dX8_mark_13 : decode cX8_mark 13 = .ok (.ireturn, 1) := dc_172 (lxX8_mark 0 13 rfl)
set_option maxRecDepth 20000 in
theorem dX8_mark_14 : decode cX8_mark 14 = .ok (.aload_n 0, 1) := dc_42 (lxX8_mark 0 14 rfl)
set_option maxRecDepth 20000 in
theorem dX8_mark_15 : decode cX8_mark 15 = .ok (.getfield 14, 3) := dc_180 0 14 (lxX8_mark 0 15 rfl) (lxX8_mark 1 0 rfl) (lxX8_mark 1 1 rfl)
set_option maxRecDepth 20000 in
theorem dX8_mark_18 : decode cX8_mark 18 = .ok (.iload_n 1, 1) := dc_27 (lxX8_mark 1 2 rfl)
set_option maxRecDepth 20000 in
theorem dX8_mark_19 : decode cX8_mark 19 = .ok (.aaload, 1) := dc_50 (lxX8_mark 1 3 rfl)
set_option maxRecDepth 20000 in
theorem dX8_mark_20 : decode cX8_mark 20 = .ok (.astore_n 2, 1) := dc_77 (lxX8_mark 1 4 rfl)
set_option maxRecDepth 20000 in
theorem dX8_mark_21 : decode cX8_mark 21 = .ok (.aload_n 2, 1) := dc_44 (lxX8_mark 1 5 rfl)
set_option maxRecDepth 20000 in
theorem dX8_mark_22 : decode cX8_mark 22 = .ok (.iconst 4, 1) := dc_7 (lxX8_mark 1 6 rfl)
set_option maxRecDepth 20000 in
theorem dX8_mark_23 : decode cX8_mark 23 = .ok (.aload_n 2, 1) := dc_44 (lxX8_mark 1 7 rfl)
set_option maxRecDepth 20000 in
theorem dX8_mark_24 : decode cX8_mark 24 = .ok (.iconst 3, 1) := dc_6 (lxX8_mark 1 8 rfl)
set_option maxRecDepth 20000 in
theorem dX8_mark_25 : decode cX8_mark 25 = .ok (.iaload, 1) := dc_46 (lxX8_mark 1 9 rfl)
set_option maxRecDepth 20000 in
theorem dX8_mark_26 : decode cX8_mark 26 = .ok (.iastore, 1) := dc_79 (lxX8_mark 1 10 rfl)
set_option maxRecDepth 20000 in
theorem dX8_mark_27 : decode cX8_mark 27 = .ok (.aload_n 0, 1) := dc_42 (lxX8_mark 1 11 rfl)
set_option maxRecDepth 20000 in
theorem dX8_mark_28 : decode cX8_mark 28 = .ok (.aload_n 2, 1) := dc_44 (lxX8_mark 1 12 rfl)
set_option maxRecDepth 20000 in
theorem dX8_mark_29 : decode cX8_mark 29 = .ok (.iconst 3, 1) := dc_6 (lxX8_mark 1 13 rfl)
set_option maxRecDepth 20000 in
theorem dX8_mark_30 : decode cX8_mark 30 = .ok (.iaload, 1) := dc_46 (lxX8_mark 1 14 rfl)
set_option maxRecDepth 20000 in
theorem dX8_mark_31 : decode cX8_mark 31 = .ok (.invokevirtual 62, 3) := dc_182 0 62 (lxX8_mark 1 15 rfl) (lxX8_mark 2 0 rfl) (lxX8_mark 2 1 rfl)
set_option maxRecDepth 20000 in
theorem dX8_mark_34 : decode cX8_mark 34 = .ok (.ireturn, 1) := dc_172 (lxX8_mark 2 2 rfl)
def lb_sgX8_reset : List (List UInt8) := [[42, 27, 184, 0, 77, 3, 182, 0, 81, 153, 0, 5, 3, 172, 42, 180], [0, 14, 27, 50, 77, 44, 7, 46, 156, 0, 8, 42, 182, 0, 89, 172], [44, 6, 44, 7, 46, 79, 42, 44, 6, 46, 182, 0, 62, 172]]
set_option maxRecDepth 100000 in
theorem lb_seX8_reset : cX8_reset.data.toList = lb_sgX8_reset.flatten := by decide +kernel
theorem lb_lnX8_reset : ∀ s ∈ lb_sgX8_reset.dropLast, s.length = 16 := by decide +kernel
theorem lxX8_reset (k j : Nat) {b : UInt8} (h : (lb_sgX8_reset[k]?).bind (fun s => s[j]?) = some b) : lb_at cX8_reset (16 * k + j) b := by
  unfold lb_at
  rw [lb_seX8_reset]
  exact lb_flat 16 lb_sgX8_reset k j b lb_lnX8_reset h
set_option maxRecDepth 20000 in
theorem dX8_reset_0 : decode cX8_reset 0 = .ok (.aload_n 0, 1) := dc_42 (lxX8_reset 0 0 rfl)
set_option maxRecDepth 20000 in
theorem dX8_reset_1 : decode cX8_reset 1 = .ok (.iload_n 1, 1) := dc_27 (lxX8_reset 0 1 rfl)
set_option maxRecDepth 20000 in
theorem dX8_reset_2 : decode cX8_reset 2 = .ok (.invokestatic 77, 3) := dc_184 0 77 (lxX8_reset 0 2 rfl) (lxX8_reset 0 3 rfl) (lxX8_reset 0 4 rfl)
set_option maxRecDepth 20000 in
theorem dX8_reset_5 : decode cX8_reset 5 = .ok (.iconst 0, 1) := dc_3 (lxX8_reset 0 5 rfl)
set_option maxRecDepth 20000 in
theorem dX8_reset_6 : decode cX8_reset 6 = .ok (.invokevirtual 81, 3) := dc_182 0 81 (lxX8_reset 0 6 rfl) (lxX8_reset 0 7 rfl) (lxX8_reset 0 8 rfl)
set_option maxRecDepth 20000 in
theorem dX8_reset_9 : decode cX8_reset 9 = .ok (.ifCond .eq 5, 3) := dc_153 0 5 (lxX8_reset 0 9 rfl) (lxX8_reset 0 10 rfl) (lxX8_reset 0 11 rfl)
set_option maxRecDepth 20000 in
theorem dX8_reset_12 : decode cX8_reset 12 = .ok (.iconst 0, 1) := dc_3 (lxX8_reset 0 12 rfl)
set_option maxRecDepth 20000 in
theorem dX8_reset_13 : decode cX8_reset 13 = .ok (.ireturn, 1) := dc_172 (lxX8_reset 0 13 rfl)
set_option maxRecDepth 20000 in
theorem dX8_reset_14 : decode cX8_reset 14 = .ok (.aload_n 0, 1) := dc_42 (lxX8_reset 0 14 rfl)
set_option maxRecDepth 20000 in
theorem dX8_reset_15 : decode cX8_reset 15 = .ok (.getfield 14, 3) := dc_180 0 14 (lxX8_reset 0 15 rfl) (lxX8_reset 1 0 rfl) (lxX8_reset 1 1 rfl)
set_option maxRecDepth 20000 in
theorem dX8_reset_18 : decode cX8_reset 18 = .ok (.iload_n 1, 1) := dc_27 (lxX8_reset 1 2 rfl)
set_option maxRecDepth 20000 in
theorem dX8_reset_19 : decode cX8_reset 19 = .ok (.aaload, 1) := dc_50 (lxX8_reset 1 3 rfl)
set_option maxRecDepth 20000 in
theorem dX8_reset_20 : decode cX8_reset 20 = .ok (.astore_n 2, 1) := dc_77 (lxX8_reset 1 4 rfl)
set_option maxRecDepth 20000 in
theorem dX8_reset_21 : decode cX8_reset 21 = .ok (.aload_n 2, 1) := dc_44 (lxX8_reset 1 5 rfl)
set_option maxRecDepth 20000 in
theorem dX8_reset_22 : decode cX8_reset 22 = .ok (.iconst 4, 1) := dc_7 (lxX8_reset 1 6 rfl)
set_option maxRecDepth 20000 in
theorem dX8_reset_23 : decode cX8_reset 23 = .ok (.iaload, 1) := dc_46 (lxX8_reset 1 7 rfl)
set_option maxRecDepth 20000 in
theorem dX8_reset_24 : decode cX8_reset 24 = .ok (.ifCond .ge 8, 3) := dc_156 0 8 (lxX8_reset 1 8 rfl) (lxX8_reset 1 9 rfl) (lxX8_reset 1 10 rfl)
set_option maxRecDepth 20000 in
theorem dX8_reset_27 : decode cX8_reset 27 = .ok (.aload_n 0, 1) := dc_42 (lxX8_reset 1 11 rfl)
set_option maxRecDepth 20000 in
theorem dX8_reset_28 : decode cX8_reset 28 = .ok (.invokevirtual 89, 3) := dc_182 0 89 (lxX8_reset 1 12 rfl) (lxX8_reset 1 13 rfl) (lxX8_reset 1 14 rfl)
set_option maxRecDepth 20000 in
theorem dX8_reset_31 : decode cX8_reset 31 = .ok (.ireturn, 1) := dc_172 (lxX8_reset 1 15 rfl)
set_option maxRecDepth 20000 in
theorem dX8_reset_32 : decode cX8_reset 32 = .ok (.aload_n 2, 1) := dc_44 (lxX8_reset 2 0 rfl)
set_option maxRecDepth 20000 in
theorem dX8_reset_33 : decode cX8_reset 33 = .ok (.iconst 3, 1) := dc_6 (lxX8_reset 2 1 rfl)
set_option maxRecDepth 20000 in
theorem dX8_reset_34 : decode cX8_reset 34 = .ok (.aload_n 2, 1) := dc_44 (lxX8_reset 2 2 rfl)
set_option maxRecDepth 20000 in
theorem dX8_reset_35 : decode cX8_reset 35 = .ok (.iconst 4, 1) := dc_7 (lxX8_reset 2 3 rfl)
set_option maxRecDepth 20000 in
theorem dX8_reset_36 : decode cX8_reset 36 = .ok (.iaload, 1) := dc_46 (lxX8_reset 2 4 rfl)
set_option maxRecDepth 20000 in
theorem dX8_reset_37 : decode cX8_reset 37 = .ok (.iastore, 1) := dc_79 (lxX8_reset 2 5 rfl)
set_option maxRecDepth 20000 in
theorem dX8_reset_38 : decode cX8_reset 38 = .ok (.aload_n 0, 1) := dc_42 (lxX8_reset 2 6 rfl)
set_option maxRecDepth 20000 in
theorem dX8_reset_39 : decode cX8_reset 39 = .ok (.aload_n 2, 1) := dc_44 (lxX8_reset 2 7 rfl)
set_option maxRecDepth 20000 in
theorem dX8_reset_40 : decode cX8_reset 40 = .ok (.iconst 3, 1) := dc_6 (lxX8_reset 2 8 rfl)
set_option maxRecDepth 20000 in
theorem dX8_reset_41 : decode cX8_reset 41 = .ok (.iaload, 1) := dc_46 (lxX8_reset 2 9 rfl)
set_option maxRecDepth 20000 in
theorem dX8_reset_42 : decode cX8_reset 42 = .ok (.invokevirtual 62, 3) := dc_182 0 62 (lxX8_reset 2 10 rfl) (lxX8_reset 2 11 rfl) (lxX8_reset 2 12 rfl)
set_option maxRecDepth 20000 in
theorem dX8_reset_45 : decode cX8_reset 45 = .ok (.ireturn, 1) := dc_172 (lxX8_reset 2 13 rfl)
def lb_sgX8_rewind : List (List UInt8) := [[42, 27, 184, 0, 77, 3, 182, 0, 81, 153, 0, 5, 3, 172, 42, 180], [0, 14, 27, 50, 77, 44, 3, 44, 5, 46, 2, 184, 0, 115, 42, 44], [184, 0, 54, 182, 0, 62, 172]]
set_option maxRecDepth 100000 in
theorem lb_seX8_rewind : cX8_rewind.data.toList = lb_sgX8_rewind.flatten := by decide +kernel
theorem lb_lnX8_rewind : ∀ s ∈ lb_sgX8_rewind.dropLast, s.length = 16 := by decide +kernel
theorem lxX8_rewind (k j : Nat) {b : UInt8} (h : (lb_sgX8_rewind[k]?).bind (fun s => s[j]?) = some b) : lb_at cX8_rewind (16 * k + j) b := by
  unfold lb_at
  rw [lb_seX8_rewind]
  exact lb_flat 16 lb_sgX8_rewind k j b lb_lnX8_rewind h
set_option maxRecDepth 20000 in
theorem dX8_rewind_0 : decode cX8_rewind 0 = .ok (.aload_n 0, 1) := dc_42 (lxX8_rewind 0 0 rfl)
set_option maxRecDepth 20000 in
theorem dX8_rewind_1 : decode cX8_rewind 1 = .ok (.iload_n 1, 1) := dc_27 (lxX8_rewind 0 1 rfl)
set_option maxRecDepth 20000 in
theorem dX8_rewind_2 : decode cX8_rewind 2 = .ok (.invokestatic 77, 3) := dc_184 0 77 (lxX8_rewind 0 2 rfl) (lxX8_rewind 0 3 rfl) (lxX8_rewind 0 4 rfl)
set_option maxRecDepth 20000 in
theorem dX8_rewind_5 : decode cX8_rewind 5 = .ok (.iconst 0, 1) := dc_3 (lxX8_rewind 0 5 rfl)
set_option maxRecDepth 20000 in
theorem dX8_rewind_6 : decode cX8_rewind 6 = .ok (.invokevirtual 81, 3) := dc_182 0 81 (lxX8_rewind 0 6 rfl) (lxX8_rewind 0 7 rfl) (lxX8_rewind 0 8 rfl)
set_option maxRecDepth 20000 in
theorem dX8_rewind_9 : decode cX8_rewind 9 = .ok (.ifCond .eq 5, 3) := dc_153 0 5 (lxX8_rewind 0 9 rfl) (lxX8_rewind 0 10 rfl) (lxX8_rewind 0 11 rfl)
set_option maxRecDepth 20000 in
theorem dX8_rewind_12 : decode cX8_rewind 12 = .ok (.iconst 0, 1) := dc_3 (lxX8_rewind 0 12 rfl)
set_option maxRecDepth 20000 in
theorem dX8_rewind_13 : decode cX8_rewind 13 = .ok (.ireturn, 1) := dc_172 (lxX8_rewind 0 13 rfl)
set_option maxRecDepth 20000 in
theorem dX8_rewind_14 : decode cX8_rewind 14 = .ok (.aload_n 0, 1) := dc_42 (lxX8_rewind 0 14 rfl)
set_option maxRecDepth 20000 in
theorem dX8_rewind_15 : decode cX8_rewind 15 = .ok (.getfield 14, 3) := dc_180 0 14 (lxX8_rewind 0 15 rfl) (lxX8_rewind 1 0 rfl) (lxX8_rewind 1 1 rfl)
set_option maxRecDepth 20000 in
theorem dX8_rewind_18 : decode cX8_rewind 18 = .ok (.iload_n 1, 1) := dc_27 (lxX8_rewind 1 2 rfl)
set_option maxRecDepth 20000 in
theorem dX8_rewind_19 : decode cX8_rewind 19 = .ok (.aaload, 1) := dc_50 (lxX8_rewind 1 3 rfl)
set_option maxRecDepth 20000 in
theorem dX8_rewind_20 : decode cX8_rewind 20 = .ok (.astore_n 2, 1) := dc_77 (lxX8_rewind 1 4 rfl)
set_option maxRecDepth 20000 in
theorem dX8_rewind_21 : decode cX8_rewind 21 = .ok (.aload_n 2, 1) := dc_44 (lxX8_rewind 1 5 rfl)
set_option maxRecDepth 20000 in
theorem dX8_rewind_22 : decode cX8_rewind 22 = .ok (.iconst 0, 1) := dc_3 (lxX8_rewind 1 6 rfl)
set_option maxRecDepth 20000 in
theorem dX8_rewind_23 : decode cX8_rewind 23 = .ok (.aload_n 2, 1) := dc_44 (lxX8_rewind 1 7 rfl)
set_option maxRecDepth 20000 in
theorem dX8_rewind_24 : decode cX8_rewind 24 = .ok (.iconst 2, 1) := dc_5 (lxX8_rewind 1 8 rfl)
set_option maxRecDepth 20000 in
theorem dX8_rewind_25 : decode cX8_rewind 25 = .ok (.iaload, 1) := dc_46 (lxX8_rewind 1 9 rfl)
set_option maxRecDepth 20000 in
theorem dX8_rewind_26 : decode cX8_rewind 26 = .ok (.iconst (-1), 1) := dc_2 (lxX8_rewind 1 10 rfl)
set_option maxRecDepth 20000 in
theorem dX8_rewind_27 : decode cX8_rewind 27 = .ok (.invokestatic 115, 3) := dc_184 0 115 (lxX8_rewind 1 11 rfl) (lxX8_rewind 1 12 rfl) (lxX8_rewind 1 13 rfl)
set_option maxRecDepth 20000 in
theorem dX8_rewind_30 : decode cX8_rewind 30 = .ok (.aload_n 0, 1) := dc_42 (lxX8_rewind 1 14 rfl)
set_option maxRecDepth 20000 in
theorem dX8_rewind_31 : decode cX8_rewind 31 = .ok (.aload_n 2, 1) := dc_44 (lxX8_rewind 1 15 rfl)
set_option maxRecDepth 20000 in
theorem dX8_rewind_32 : decode cX8_rewind 32 = .ok (.invokestatic 54, 3) := dc_184 0 54 (lxX8_rewind 2 0 rfl) (lxX8_rewind 2 1 rfl) (lxX8_rewind 2 2 rfl)
set_option maxRecDepth 20000 in
theorem dX8_rewind_35 : decode cX8_rewind 35 = .ok (.invokevirtual 62, 3) := dc_182 0 62 (lxX8_rewind 2 3 rfl) (lxX8_rewind 2 4 rfl) (lxX8_rewind 2 5 rfl)
set_option maxRecDepth 20000 in
theorem dX8_rewind_38 : decode cX8_rewind 38 = .ok (.ireturn, 1) := dc_172 (lxX8_rewind 2 6 rfl)
def lb_sgX8_flip : List (List UInt8) := [[42, 27, 184, 0, 77, 3, 182, 0, 81, 153, 0, 5, 3, 172, 42, 180], [0, 14, 27, 50, 77, 44, 3, 44, 6, 46, 2, 184, 0, 115, 42, 44], [184, 0, 54, 182, 0, 62, 172]]
set_option maxRecDepth 100000 in
theorem lb_seX8_flip : cX8_flip.data.toList = lb_sgX8_flip.flatten := by decide +kernel
theorem lb_lnX8_flip : ∀ s ∈ lb_sgX8_flip.dropLast, s.length = 16 := by decide +kernel
theorem lxX8_flip (k j : Nat) {b : UInt8} (h : (lb_sgX8_flip[k]?).bind (fun s => s[j]?) = some b) : lb_at cX8_flip (16 * k + j) b := by
  unfold lb_at
  rw [lb_seX8_flip]
  exact lb_flat 16 lb_sgX8_flip k j b lb_lnX8_flip h
set_option maxRecDepth 20000 in
theorem dX8_flip_0 : decode cX8_flip 0 = .ok (.aload_n 0, 1) := dc_42 (lxX8_flip 0 0 rfl)
set_option maxRecDepth 20000 in
theorem dX8_flip_1 : decode cX8_flip 1 = .ok (.iload_n 1, 1) := dc_27 (lxX8_flip 0 1 rfl)
set_option maxRecDepth 20000 in
theorem dX8_flip_2 : decode cX8_flip 2 = .ok (.invokestatic 77, 3) := dc_184 0 77 (lxX8_flip 0 2 rfl) (lxX8_flip 0 3 rfl) (lxX8_flip 0 4 rfl)
set_option maxRecDepth 20000 in
theorem dX8_flip_5 : decode cX8_flip 5 = .ok (.iconst 0, 1) := dc_3 (lxX8_flip 0 5 rfl)
set_option maxRecDepth 20000 in
theorem dX8_flip_6 : decode cX8_flip 6 = .ok (.invokevirtual 81, 3) := dc_182 0 81 (lxX8_flip 0 6 rfl) (lxX8_flip 0 7 rfl) (lxX8_flip 0 8 rfl)
set_option maxRecDepth 20000 in
theorem dX8_flip_9 : decode cX8_flip 9 = .ok (.ifCond .eq 5, 3) := dc_153 0 5 (lxX8_flip 0 9 rfl) (lxX8_flip 0 10 rfl) (lxX8_flip 0 11 rfl)
set_option maxRecDepth 20000 in
theorem dX8_flip_12 : decode cX8_flip 12 = .ok (.iconst 0, 1) := dc_3 (lxX8_flip 0 12 rfl)
set_option maxRecDepth 20000 in
theorem dX8_flip_13 : decode cX8_flip 13 = .ok (.ireturn, 1) := dc_172 (lxX8_flip 0 13 rfl)
set_option maxRecDepth 20000 in
theorem dX8_flip_14 : decode cX8_flip 14 = .ok (.aload_n 0, 1) := dc_42 (lxX8_flip 0 14 rfl)
set_option maxRecDepth 20000 in
theorem dX8_flip_15 : decode cX8_flip 15 = .ok (.getfield 14, 3) := dc_180 0 14 (lxX8_flip 0 15 rfl) (lxX8_flip 1 0 rfl) (lxX8_flip 1 1 rfl)
set_option maxRecDepth 20000 in
theorem dX8_flip_18 : decode cX8_flip 18 = .ok (.iload_n 1, 1) := dc_27 (lxX8_flip 1 2 rfl)
set_option maxRecDepth 20000 in
theorem dX8_flip_19 : decode cX8_flip 19 = .ok (.aaload, 1) := dc_50 (lxX8_flip 1 3 rfl)
set_option maxRecDepth 20000 in
theorem dX8_flip_20 : decode cX8_flip 20 = .ok (.astore_n 2, 1) := dc_77 (lxX8_flip 1 4 rfl)
set_option maxRecDepth 20000 in
theorem dX8_flip_21 : decode cX8_flip 21 = .ok (.aload_n 2, 1) := dc_44 (lxX8_flip 1 5 rfl)
set_option maxRecDepth 20000 in
theorem dX8_flip_22 : decode cX8_flip 22 = .ok (.iconst 0, 1) := dc_3 (lxX8_flip 1 6 rfl)
set_option maxRecDepth 20000 in
theorem dX8_flip_23 : decode cX8_flip 23 = .ok (.aload_n 2, 1) := dc_44 (lxX8_flip 1 7 rfl)
set_option maxRecDepth 20000 in
theorem dX8_flip_24 : decode cX8_flip 24 = .ok (.iconst 3, 1) := dc_6 (lxX8_flip 1 8 rfl)
set_option maxRecDepth 20000 in
theorem dX8_flip_25 : decode cX8_flip 25 = .ok (.iaload, 1) := dc_46 (lxX8_flip 1 9 rfl)
set_option maxRecDepth 20000 in
theorem dX8_flip_26 : decode cX8_flip 26 = .ok (.iconst (-1), 1) := dc_2 (lxX8_flip 1 10 rfl)
set_option maxRecDepth 20000 in
theorem dX8_flip_27 : decode cX8_flip 27 = .ok (.invokestatic 115, 3) := dc_184 0 115 (lxX8_flip 1 11 rfl) (lxX8_flip 1 12 rfl) (lxX8_flip 1 13 rfl)
set_option maxRecDepth 20000 in
theorem dX8_flip_30 : decode cX8_flip 30 = .ok (.aload_n 0, 1) := dc_42 (lxX8_flip 1 14 rfl)
set_option maxRecDepth 20000 in
theorem dX8_flip_31 : decode cX8_flip 31 = .ok (.aload_n 2, 1) := dc_44 (lxX8_flip 1 15 rfl)
set_option maxRecDepth 20000 in
theorem dX8_flip_32 : decode cX8_flip 32 = .ok (.invokestatic 54, 3) := dc_184 0 54 (lxX8_flip 2 0 rfl) (lxX8_flip 2 1 rfl) (lxX8_flip 2 2 rfl)
set_option maxRecDepth 20000 in
theorem dX8_flip_35 : decode cX8_flip 35 = .ok (.invokevirtual 62, 3) := dc_182 0 62 (lxX8_flip 2 3 rfl) (lxX8_flip 2 4 rfl) (lxX8_flip 2 5 rfl)
set_option maxRecDepth 20000 in
theorem dX8_flip_38 : decode cX8_flip 38 = .ok (.ireturn, 1) := dc_172 (lxX8_flip 2 6 rfl)
def lb_sgX8_compact : List (List UInt8) := [[42, 27, 184, 0, 77, 3, 182, 0, 81, 153, 0, 5, 3, 172, 42, 180], [0, 14, 27, 50, 77, 42, 44, 182, 0, 58, 78, 3, 54, 4, 21, 4], [45, 190, 162, 0, 24, 42, 180, 0, 7, 44, 3, 46, 21, 4, 96, 45], [21, 4, 46, 79, 132, 4, 1, 167, 255, 231, 44, 45, 190, 44, 4, 46], [2, 184, 0, 115, 42, 45, 190, 182, 0, 62, 172]]
set_option maxRecDepth 100000 in
theorem lb_seX8_compact : cX8_compact.data.toList = lb_sgX8_compact.flatten := by decide +kernel
theorem lb_lnX8_compact : ∀ s ∈ lb_sgX8_compact.dropLast, s.length = 16 := by decide +kernel
theorem lxX8_compact (k j : Nat) {b : UInt8} (h : (lb_sgX8_compact[k]?).bind (fun s => s[j]?) = some b) : lb_at cX8_compact (16 * k + j) b := by
  unfold lb_at
  rw [lb_seX8_compact]
  exact lb_flat 16 lb_sgX8_compact k j b lb_lnX8_compact h
set_option maxRecDepth 20000 in
theorem dX8_compact_0 : decode cX8_compact 0 = .ok (.aload_n 0, 1) := dc_42 (lxX8_compact 0 0 rfl)
set_option maxRecDepth 20000 in
theorem dX8_compact_1 : decode cX8_compact 1 = .ok (.iload_n 1, 1) := dc_27 (lxX8_compact 0 1 rfl)
set_option maxRecDepth 20000 in
theorem dX8_compact_2 : decode cX8_compact 2 = .ok (.invokestatic 77, 3) := dc_184 0 77 (lxX8_compact 0 2 rfl) (lxX8_compact 0 3 rfl) (lxX8_compact 0 4 rfl)
set_option maxRecDepth 20000 in
theorem dX8_compact_5 : decode cX8_compact 5 = .ok (.iconst 0, 1) := dc_3 (lxX8_compact 0 5 rfl)
set_option maxRecDepth 20000 in
theorem dX8_compact_6 : decode cX8_compact 6 = .ok (.invokevirtual 81, 3) := dc_182 0 81 (lxX8_compact 0 6 rfl) (lxX8_compact 0 7 rfl) (lxX8_compact 0 8 rfl)
set_option maxRecDepth 20000 in
theorem dX8_compact_9 : decode cX8_compact 9 = .ok (.ifCond .eq 5, 3) := dc_153 0 5 (lxX8_compact 0 9 rfl) (lxX8_compact 0 10 rfl) (lxX8_compact 0 11 rfl)
set_option maxRecDepth 20000 in
theorem dX8_compact_12 : decode cX8_compact 12 = .ok (.iconst 0, 1) := dc_3 (lxX8_compact 0 12 rfl)
set_option maxRecDepth 20000 in
theorem dX8_compact_13 : decode cX8_compact 13 = .ok (.ireturn, 1) := dc_172 (lxX8_compact 0 13 rfl)
set_option maxRecDepth 20000 in
theorem dX8_compact_14 : decode cX8_compact 14 = .ok (.aload_n 0, 1) := dc_42 (lxX8_compact 0 14 rfl)
set_option maxRecDepth 20000 in
theorem dX8_compact_15 : decode cX8_compact 15 = .ok (.getfield 14, 3) := dc_180 0 14 (lxX8_compact 0 15 rfl) (lxX8_compact 1 0 rfl) (lxX8_compact 1 1 rfl)
set_option maxRecDepth 20000 in
theorem dX8_compact_18 : decode cX8_compact 18 = .ok (.iload_n 1, 1) := dc_27 (lxX8_compact 1 2 rfl)
set_option maxRecDepth 20000 in
theorem dX8_compact_19 : decode cX8_compact 19 = .ok (.aaload, 1) := dc_50 (lxX8_compact 1 3 rfl)
set_option maxRecDepth 20000 in
theorem dX8_compact_20 : decode cX8_compact 20 = .ok (.astore_n 2, 1) := dc_77 (lxX8_compact 1 4 rfl)
set_option maxRecDepth 20000 in
theorem dX8_compact_21 : decode cX8_compact 21 = .ok (.aload_n 0, 1) := dc_42 (lxX8_compact 1 5 rfl)
set_option maxRecDepth 20000 in
theorem dX8_compact_22 : decode cX8_compact 22 = .ok (.aload_n 2, 1) := dc_44 (lxX8_compact 1 6 rfl)
set_option maxRecDepth 20000 in
theorem dX8_compact_23 : decode cX8_compact 23 = .ok (.invokevirtual 58, 3) := dc_182 0 58 (lxX8_compact 1 7 rfl) (lxX8_compact 1 8 rfl) (lxX8_compact 1 9 rfl)
set_option maxRecDepth 20000 in
theorem dX8_compact_26 : decode cX8_compact 26 = .ok (.astore_n 3, 1) := dc_78 (lxX8_compact 1 10 rfl)
set_option maxRecDepth 20000 in
theorem dX8_compact_27 : decode cX8_compact 27 = .ok (.iconst 0, 1) := dc_3 (lxX8_compact 1 11 rfl)
set_option maxRecDepth 20000 in
theorem dX8_compact_28 : decode cX8_compact 28 = .ok (.istore 4, 2) := dc_54 4 (lxX8_compact 1 12 rfl) (lxX8_compact 1 13 rfl)
set_option maxRecDepth 20000 in
theorem dX8_compact_30 : decode cX8_compact 30 = .ok (.iload 4, 2) := dc_21 4 (lxX8_compact 1 14 rfl) (lxX8_compact 1 15 rfl)
set_option maxRecDepth 20000 in
theorem dX8_compact_32 : decode cX8_compact 32 = .ok (.aload_n 3, 1) := dc_45 (lxX8_compact 2 0 rfl)
set_option maxRecDepth 20000 in
theorem dX8_compact_33 : decode cX8_compact 33 = .ok (.arraylength, 1) := dc_190 (lxX8_compact 2 1 rfl)
set_option maxRecDepth 20000 in
theorem dX8_compact_34 : decode cX8_compact 34 = .ok (.if_icmp .ge 24, 3) := dc_162 0 24 (lxX8_compact 2 2 rfl) (lxX8_compact 2 3 rfl) (lxX8_compact 2 4 rfl)
set_option maxRecDepth 20000 in
theorem dX8_compact_37 : decode cX8_compact 37 = .ok (.aload_n 0, 1) := dc_42 (lxX8_compact 2 5 rfl)
set_option maxRecDepth 20000 in
theorem dX8_compact_38 : decode cX8_compact 38 = .ok (.getfield 7, 3) := dc_180 0 7 (lxX8_compact 2 6 rfl) (lxX8_compact 2 7 rfl) (lxX8_compact 2 8 rfl)
set_option maxRecDepth 20000 in
theorem dX8_compact_41 : decode cX8_compact 41 = .ok (.aload_n 2, 1) := dc_44 (lxX8_compact 2 9 rfl)
set_option maxRecDepth 20000 in
theorem dX8_compact_42 : decode cX8_compact 42 = .ok (.iconst 0, 1) := dc_3 (lxX8_compact 2 10 rfl)
set_option maxRecDepth 20000 in
theorem dX8_compact_43 : decode cX8_compact 43 = .ok (.iaload, 1) := dc_46 (lxX8_compact 2 11 rfl)
set_option maxRecDepth 20000 in
theorem dX8_compact_44 : decode cX8_compact 44 = .ok (.iload 4, 2) := dc_21 4 (lxX8_compact 2 12 rfl) (lxX8_compact 2 13 rfl)
set_option maxRecDepth 20000 in
theorem dX8_compact_46 : decode cX8_compact 46 = .ok (.iadd, 1) := dc_96 (lxX8_compact 2 14 rfl)
set_option maxRecDepth 20000 in
theorem dX8_compact_47 : decode cX8_compact 47 = .ok (.aload_n 3, 1) := dc_45 (lxX8_compact 2 15 rfl)
set_option maxRecDepth 20000 in
theorem dX8_compact_48 : decode cX8_compact 48 = .ok (.iload 4, 2) := dc_21 4 (lxX8_compact 3 0 rfl) (lxX8_compact 3 1 rfl)
set_option maxRecDepth 20000 in
theorem dX8_compact_50 : decode cX8_compact 50 = .ok (.iaload, 1) := dc_46 (lxX8_compact 3 2 rfl)
set_option maxRecDepth 20000 in
theorem dX8_compact_51 : decode cX8_compact 51 = .ok (.iastore, 1) := dc_79 (lxX8_compact 3 3 rfl)
set_option maxRecDepth 20000 in
theorem dX8_compact_52 : decode cX8_compact 52 = .ok (.iinc 4 1, 3) := dc_132 4 1 (lxX8_compact 3 4 rfl) (lxX8_compact 3 5 rfl) (lxX8_compact 3 6 rfl)
set_option maxRecDepth 20000 in
theorem dX8_compact_55 : decode cX8_compact 55 = .ok (.goto (-25), 3) := dc_167 255 231 (lxX8_compact 3 7 rfl) (lxX8_compact 3 8 rfl) (lxX8_compact 3 9 rfl)
set_option maxRecDepth 20000 in
theorem dX8_compact_58 : decode cX8_compact 58 = .ok (.aload_n 2, 1) := dc_44 (lxX8_compact 3 10 rfl)
set_option maxRecDepth 20000 in
theorem dX8_compact_59 : decode cX8_compact 59 = .ok (.aload_n 3, 1) := dc_45 (lxX8_compact 3 11 rfl)
set_option maxRecDepth 20000 in
theorem dX8_compact_60 : decode cX8_compact 60 = .ok (.arraylength, 1) := dc_190 (lxX8_compact 3 12 rfl)
set_option maxRecDepth 20000 in
theorem dX8_compact_61 : decode cX8_compact 61 = .ok (.aload_n 2, 1) := dc_44 (lxX8_compact 3 13 rfl)
set_option maxRecDepth 20000 in
theorem dX8_compact_62 : decode cX8_compact 62 = .ok (.iconst 1, 1) := dc_4 (lxX8_compact 3 14 rfl)
set_option maxRecDepth 20000 in
theorem dX8_compact_63 : decode cX8_compact 63 = .ok (.iaload, 1) := dc_46 (lxX8_compact 3 15 rfl)
set_option maxRecDepth 20000 in
theorem dX8_compact_64 : decode cX8_compact 64 = .ok (.iconst (-1), 1) := dc_2 (lxX8_compact 4 0 rfl)
set_option maxRecDepth 20000 in
theorem dX8_compact_65 : decode cX8_compact 65 = .ok (.invokestatic 115, 3) := dc_184 0 115 (lxX8_compact 4 1 rfl) (lxX8_compact 4 2 rfl) (lxX8_compact 4 3 rfl)
set_option maxRecDepth 20000 in
theorem dX8_compact_68 : decode cX8_compact 68 = .ok (.aload_n 0, 1) := dc_42 (lxX8_compact 4 4 rfl)
set_option maxRecDepth 20000 in
theorem dX8_compact_69 : decode cX8_compact 69 = .ok (.aload_n 3, 1) := dc_45 (lxX8_compact 4 5 rfl)
set_option maxRecDepth 20000 in
theorem dX8_compact_70 : decode cX8_compact 70 = .ok (.arraylength, 1) := dc_190 (lxX8_compact 4 6 rfl)
set_option maxRecDepth 20000 in
theorem dX8_compact_71 : decode cX8_compact 71 = .ok (.invokevirtual 62, 3) := dc_182 0 62 (lxX8_compact 4 7 rfl) (lxX8_compact 4 8 rfl) (lxX8_compact 4 9 rfl)
set_option maxRecDepth 20000 in
theorem dX8_compact_74 : decode cX8_compact 74 = .ok (.ireturn, 1) := dc_172 (lxX8_compact 4 10 rfl)
def lb_sgX8_open : List (List UInt8) := [[42, 27, 184, 0, 77, 3, 182, 0, 81, 153, 0, 5, 3, 172, 42, 180], [0, 14, 27, 50, 77, 44, 3, 44, 4, 46, 2, 184, 0, 115, 42, 44], [184, 0, 54, 182, 0, 62, 172]]
set_option maxRecDepth 100000 in
theorem lb_seX8_open : cX8_open.data.toList = lb_sgX8_open.flatten := by decide +kernel
theorem lb_lnX8_open : ∀ s ∈ lb_sgX8_open.dropLast, s.length = 16 := by decide +kernel
theorem lxX8_open (k j : Nat) {b : UInt8} (h : (lb_sgX8_open[k]?).bind (fun s => s[j]?) = some b) : lb_at cX8_open (16 * k + j) b := by
  unfold lb_at
  rw [lb_seX8_open]
  exact lb_flat 16 lb_sgX8_open k j b lb_lnX8_open h
set_option maxRecDepth 20000 in
theorem dX8_open_0 : decode cX8_open 0 = .ok (.aload_n 0, 1) := dc_42 (lxX8_open 0 0 rfl)
set_option maxRecDepth 20000 in
theorem dX8_open_1 : decode cX8_open 1 = .ok (.iload_n 1, 1) := dc_27 (lxX8_open 0 1 rfl)
set_option maxRecDepth 20000 in
theorem dX8_open_2 : decode cX8_open 2 = .ok (.invokestatic 77, 3) := dc_184 0 77 (lxX8_open 0 2 rfl) (lxX8_open 0 3 rfl) (lxX8_open 0 4 rfl)
set_option maxRecDepth 20000 in
theorem dX8_open_5 : decode cX8_open 5 = .ok (.iconst 0, 1) := dc_3 (lxX8_open 0 5 rfl)
set_option maxRecDepth 20000 in
theorem dX8_open_6 : decode cX8_open 6 = .ok (.invokevirtual 81, 3) := dc_182 0 81 (lxX8_open 0 6 rfl) (lxX8_open 0 7 rfl) (lxX8_open 0 8 rfl)
set_option maxRecDepth 20000 in
theorem dX8_open_9 : decode cX8_open 9 = .ok (.ifCond .eq 5, 3) := dc_153 0 5 (lxX8_open 0 9 rfl) (lxX8_open 0 10 rfl) (lxX8_open 0 11 rfl)
set_option maxRecDepth 20000 in
theorem dX8_open_12 : decode cX8_open 12 = .ok (.iconst 0, 1) := dc_3 (lxX8_open 0 12 rfl)
set_option maxRecDepth 20000 in
theorem dX8_open_13 : decode cX8_open 13 = .ok (.ireturn, 1) := dc_172 (lxX8_open 0 13 rfl)
set_option maxRecDepth 20000 in
theorem dX8_open_14 : decode cX8_open 14 = .ok (.aload_n 0, 1) := dc_42 (lxX8_open 0 14 rfl)
set_option maxRecDepth 20000 in
theorem dX8_open_15 : decode cX8_open 15 = .ok (.getfield 14, 3) := dc_180 0 14 (lxX8_open 0 15 rfl) (lxX8_open 1 0 rfl) (lxX8_open 1 1 rfl)
set_option maxRecDepth 20000 in
theorem dX8_open_18 : decode cX8_open 18 = .ok (.iload_n 1, 1) := dc_27 (lxX8_open 1 2 rfl)
set_option maxRecDepth 20000 in
theorem dX8_open_19 : decode cX8_open 19 = .ok (.aaload, 1) := dc_50 (lxX8_open 1 3 rfl)
set_option maxRecDepth 20000 in
theorem dX8_open_20 : decode cX8_open 20 = .ok (.astore_n 2, 1) := dc_77 (lxX8_open 1 4 rfl)
set_option maxRecDepth 20000 in
theorem dX8_open_21 : decode cX8_open 21 = .ok (.aload_n 2, 1) := dc_44 (lxX8_open 1 5 rfl)
set_option maxRecDepth 20000 in
theorem dX8_open_22 : decode cX8_open 22 = .ok (.iconst 0, 1) := dc_3 (lxX8_open 1 6 rfl)
set_option maxRecDepth 20000 in
theorem dX8_open_23 : decode cX8_open 23 = .ok (.aload_n 2, 1) := dc_44 (lxX8_open 1 7 rfl)
set_option maxRecDepth 20000 in
theorem dX8_open_24 : decode cX8_open 24 = .ok (.iconst 1, 1) := dc_4 (lxX8_open 1 8 rfl)
set_option maxRecDepth 20000 in
theorem dX8_open_25 : decode cX8_open 25 = .ok (.iaload, 1) := dc_46 (lxX8_open 1 9 rfl)
set_option maxRecDepth 20000 in
theorem dX8_open_26 : decode cX8_open 26 = .ok (.iconst (-1), 1) := dc_2 (lxX8_open 1 10 rfl)
set_option maxRecDepth 20000 in
theorem dX8_open_27 : decode cX8_open 27 = .ok (.invokestatic 115, 3) := dc_184 0 115 (lxX8_open 1 11 rfl) (lxX8_open 1 12 rfl) (lxX8_open 1 13 rfl)
set_option maxRecDepth 20000 in
theorem dX8_open_30 : decode cX8_open 30 = .ok (.aload_n 0, 1) := dc_42 (lxX8_open 1 14 rfl)
set_option maxRecDepth 20000 in
theorem dX8_open_31 : decode cX8_open 31 = .ok (.aload_n 2, 1) := dc_44 (lxX8_open 1 15 rfl)
set_option maxRecDepth 20000 in
theorem dX8_open_32 : decode cX8_open 32 = .ok (.invokestatic 54, 3) := dc_184 0 54 (lxX8_open 2 0 rfl) (lxX8_open 2 1 rfl) (lxX8_open 2 2 rfl)
set_option maxRecDepth 20000 in
theorem dX8_open_35 : decode cX8_open 35 = .ok (.invokevirtual 62, 3) := dc_182 0 62 (lxX8_open 2 3 rfl) (lxX8_open 2 4 rfl) (lxX8_open 2 5 rfl)
set_option maxRecDepth 20000 in
theorem dX8_open_38 : decode cX8_open 38 = .ok (.ireturn, 1) := dc_172 (lxX8_open 2 6 rfl)
def lb_sgX8_joined : List (List UInt8) := [[42, 190, 43, 190, 96, 188, 10, 77, 3, 62, 29, 44, 190, 162, 0, 30], [44, 29, 29, 42, 190, 162, 0, 9, 42, 29, 46, 167, 0, 9, 43, 29], [42, 190, 100, 46, 79, 132, 3, 1, 167, 255, 226, 44, 176]]
set_option maxRecDepth 100000 in
theorem lb_seX8_joined : cX8_joined.data.toList = lb_sgX8_joined.flatten := by decide +kernel
theorem lb_lnX8_joined : ∀ s ∈ lb_sgX8_joined.dropLast, s.length = 16 := by decide +kernel
theorem lxX8_joined (k j : Nat) {b : UInt8} (h : (lb_sgX8_joined[k]?).bind (fun s => s[j]?) = some b) : lb_at cX8_joined (16 * k + j) b := by
  unfold lb_at
  rw [lb_seX8_joined]
  exact lb_flat 16 lb_sgX8_joined k j b lb_lnX8_joined h
set_option maxRecDepth 20000 in
theorem dX8_joined_0 : decode cX8_joined 0 = .ok (.aload_n 0, 1) := dc_42 (lxX8_joined 0 0 rfl)
set_option maxRecDepth 20000 in
theorem dX8_joined_1 : decode cX8_joined 1 = .ok (.arraylength, 1) := dc_190 (lxX8_joined 0 1 rfl)
set_option maxRecDepth 20000 in
theorem dX8_joined_2 : decode cX8_joined 2 = .ok (.aload_n 1, 1) := dc_43 (lxX8_joined 0 2 rfl)
set_option maxRecDepth 20000 in
theorem dX8_joined_3 : decode cX8_joined 3 = .ok (.arraylength, 1) := dc_190 (lxX8_joined 0 3 rfl)
set_option maxRecDepth 20000 in
theorem dX8_joined_4 : decode cX8_joined 4 = .ok (.iadd, 1) := dc_96 (lxX8_joined 0 4 rfl)
theorem dX8_joined_5 : decode cX8_joined 5 = .ok (.newarray .int, 2) := by decide +kernel
set_option maxRecDepth 20000 in
theorem dX8_joined_7 : decode cX8_joined 7 = .ok (.astore_n 2, 1) := dc_77 (lxX8_joined 0 7 rfl)
set_option maxRecDepth 20000 in
theorem dX8_joined_8 : decode cX8_joined 8 = .ok (.iconst 0, 1) := dc_3 (lxX8_joined 0 8 rfl)
set_option maxRecDepth 20000 in
theorem dX8_joined_9 : decode cX8_joined 9 = .ok (.istore_n 3, 1) := dc_62 (lxX8_joined 0 9 rfl)
set_option maxRecDepth 20000 in
theorem dX8_joined_10 : decode cX8_joined 10 = .ok (.iload_n 3, 1) := dc_29 (lxX8_joined 0 10 rfl)
set_option maxRecDepth 20000 in
theorem dX8_joined_11 : decode cX8_joined 11 = .ok (.aload_n 2, 1) := dc_44 (lxX8_joined 0 11 rfl)
set_option maxRecDepth 20000 in
theorem dX8_joined_12 : decode cX8_joined 12 = .ok (.arraylength, 1) := dc_190 (lxX8_joined 0 12 rfl)
set_option maxRecDepth 20000 in
theorem dX8_joined_13 : decode cX8_joined 13 = .ok (.if_icmp .ge 30, 3) := dc_162 0 30 (lxX8_joined 0 13 rfl) (lxX8_joined 0 14 rfl) (lxX8_joined 0 15 rfl)
set_option maxRecDepth 20000 in
theorem dX8_joined_16 : decode cX8_joined 16 = .ok (.aload_n 2, 1) := dc_44 (lxX8_joined 1 0 rfl)
set_option maxRecDepth 20000 in
theorem dX8_joined_17 : decode cX8_joined 17 = .ok (.iload_n 3, 1) := dc_29 (lxX8_joined 1 1 rfl)
set_option maxRecDepth 20000 in
theorem dX8_joined_18 : decode cX8_joined 18 = .ok (.iload_n 3, 1) := dc_29 (lxX8_joined 1 2 rfl)
set_option maxRecDepth 20000 in
theorem dX8_joined_19 : decode cX8_joined 19 = .ok (.aload_n 0, 1) := dc_42 (lxX8_joined 1 3 rfl)
set_option maxRecDepth 20000 in
theorem dX8_joined_20 : decode cX8_joined 20 = .ok (.arraylength, 1) := dc_190 (lxX8_joined 1 4 rfl)
set_option maxRecDepth 20000 in
theorem dX8_joined_21 : decode cX8_joined 21 = .ok (.if_icmp .ge 9, 3) := dc_162 0 9 (lxX8_joined 1 5 rfl) (lxX8_joined 1 6 rfl) (lxX8_joined 1 7 rfl)
set_option maxRecDepth 20000 in
theorem dX8_joined_24 : decode cX8_joined 24 = .ok (.aload_n 0, 1) := dc_42 (lxX8_joined 1 8 rfl)
set_option maxRecDepth 20000 in
theorem dX8_joined_25 : decode cX8_joined 25 = .ok (.iload_n 3, 1) := dc_29 (lxX8_joined 1 9 rfl)
set_option maxRecDepth 20000 in
theorem dX8_joined_26 : decode cX8_joined 26 = .ok (.iaload, 1) := dc_46 (lxX8_joined 1 10 rfl)
set_option maxRecDepth 20000 in
theorem dX8_joined_27 : decode cX8_joined 27 = .ok (.goto 9, 3) := dc_167 0 9 (lxX8_joined 1 11 rfl) (lxX8_joined 1 12 rfl) (lxX8_joined 1 13 rfl)
set_option maxRecDepth 20000 in
theorem dX8_joined_30 : decode cX8_joined 30 = .ok (.aload_n 1, 1) := dc_43 (lxX8_joined 1 14 rfl)
set_option maxRecDepth 20000 in
theorem dX8_joined_31 : decode cX8_joined 31 = .ok (.iload_n 3, 1) := dc_29 (lxX8_joined 1 15 rfl)
set_option maxRecDepth 20000 in
theorem dX8_joined_32 : decode cX8_joined 32 = .ok (.aload_n 0, 1) := dc_42 (lxX8_joined 2 0 rfl)
set_option maxRecDepth 20000 in
theorem dX8_joined_33 : decode cX8_joined 33 = .ok (.arraylength, 1) := dc_190 (lxX8_joined 2 1 rfl)
set_option maxRecDepth 20000 in
theorem dX8_joined_34 : decode cX8_joined 34 = .ok (.isub, 1) := dc_100 (lxX8_joined 2 2 rfl)
set_option maxRecDepth 20000 in
theorem dX8_joined_35 : decode cX8_joined 35 = .ok (.iaload, 1) := dc_46 (lxX8_joined 2 3 rfl)
set_option maxRecDepth 20000 in
theorem dX8_joined_36 : decode cX8_joined 36 = .ok (.iastore, 1) := dc_79 (lxX8_joined 2 4 rfl)
set_option maxRecDepth 20000 in
theorem dX8_joined_37 : decode cX8_joined 37 = .ok (.iinc 3 1, 3) := dc_132 3 1 (lxX8_joined 2 5 rfl) (lxX8_joined 2 6 rfl) (lxX8_joined 2 7 rfl)
set_option maxRecDepth 20000 in
theorem dX8_joined_40 : decode cX8_joined 40 = .ok (.goto (-30), 3) := dc_167 255 226 (lxX8_joined 2 8 rfl) (lxX8_joined 2 9 rfl) (lxX8_joined 2 10 rfl)
set_option maxRecDepth 20000 in
theorem dX8_joined_43 : decode cX8_joined 43 = .ok (.aload_n 2, 1) := dc_44 (lxX8_joined 2 11 rfl)
set_option maxRecDepth 20000 in
theorem dX8_joined_44 : decode cX8_joined 44 = .ok (.areturn, 1) := dc_176 (lxX8_joined 2 12 rfl)
def lb_sgX8_keep : List (List UInt8) := [[42, 27, 184, 0, 119, 3, 182, 0, 81, 153, 0, 5, 3, 172, 42, 42], [27, 182, 0, 122, 3, 188, 10, 184, 0, 125, 181, 0, 21, 42, 42, 180], [0, 21, 190, 182, 0, 62, 172]]
set_option maxRecDepth 100000 in
theorem lb_seX8_keep : cX8_keep.data.toList = lb_sgX8_keep.flatten := by decide +kernel
theorem lb_lnX8_keep : ∀ s ∈ lb_sgX8_keep.dropLast, s.length = 16 := by decide +kernel
theorem lxX8_keep (k j : Nat) {b : UInt8} (h : (lb_sgX8_keep[k]?).bind (fun s => s[j]?) = some b) : lb_at cX8_keep (16 * k + j) b := by
  unfold lb_at
  rw [lb_seX8_keep]
  exact lb_flat 16 lb_sgX8_keep k j b lb_lnX8_keep h
set_option maxRecDepth 20000 in
theorem dX8_keep_0 : decode cX8_keep 0 = .ok (.aload_n 0, 1) := dc_42 (lxX8_keep 0 0 rfl)
set_option maxRecDepth 20000 in
theorem dX8_keep_1 : decode cX8_keep 1 = .ok (.iload_n 1, 1) := dc_27 (lxX8_keep 0 1 rfl)
set_option maxRecDepth 20000 in
theorem dX8_keep_2 : decode cX8_keep 2 = .ok (.invokestatic 119, 3) := dc_184 0 119 (lxX8_keep 0 2 rfl) (lxX8_keep 0 3 rfl) (lxX8_keep 0 4 rfl)
set_option maxRecDepth 20000 in
theorem dX8_keep_5 : decode cX8_keep 5 = .ok (.iconst 0, 1) := dc_3 (lxX8_keep 0 5 rfl)
set_option maxRecDepth 20000 in
theorem dX8_keep_6 : decode cX8_keep 6 = .ok (.invokevirtual 81, 3) := dc_182 0 81 (lxX8_keep 0 6 rfl) (lxX8_keep 0 7 rfl) (lxX8_keep 0 8 rfl)
set_option maxRecDepth 20000 in
theorem dX8_keep_9 : decode cX8_keep 9 = .ok (.ifCond .eq 5, 3) := dc_153 0 5 (lxX8_keep 0 9 rfl) (lxX8_keep 0 10 rfl) (lxX8_keep 0 11 rfl)
set_option maxRecDepth 20000 in
theorem dX8_keep_12 : decode cX8_keep 12 = .ok (.iconst 0, 1) := dc_3 (lxX8_keep 0 12 rfl)
set_option maxRecDepth 20000 in
theorem dX8_keep_13 : decode cX8_keep 13 = .ok (.ireturn, 1) := dc_172 (lxX8_keep 0 13 rfl)
set_option maxRecDepth 20000 in
theorem dX8_keep_14 : decode cX8_keep 14 = .ok (.aload_n 0, 1) := dc_42 (lxX8_keep 0 14 rfl)
set_option maxRecDepth 20000 in
theorem dX8_keep_15 : decode cX8_keep 15 = .ok (.aload_n 0, 1) := dc_42 (lxX8_keep 0 15 rfl)
set_option maxRecDepth 20000 in
theorem dX8_keep_16 : decode cX8_keep 16 = .ok (.iload_n 1, 1) := dc_27 (lxX8_keep 1 0 rfl)
set_option maxRecDepth 20000 in
theorem dX8_keep_17 : decode cX8_keep 17 = .ok (.invokevirtual 122, 3) := dc_182 0 122 (lxX8_keep 1 1 rfl) (lxX8_keep 1 2 rfl) (lxX8_keep 1 3 rfl)
set_option maxRecDepth 20000 in
theorem dX8_keep_20 : decode cX8_keep 20 = .ok (.iconst 0, 1) := dc_3 (lxX8_keep 1 4 rfl)
theorem dX8_keep_21 : decode cX8_keep 21 = .ok (.newarray .int, 2) := by decide +kernel
set_option maxRecDepth 20000 in
theorem dX8_keep_23 : decode cX8_keep 23 = .ok (.invokestatic 125, 3) := dc_184 0 125 (lxX8_keep 1 7 rfl) (lxX8_keep 1 8 rfl) (lxX8_keep 1 9 rfl)
set_option maxRecDepth 20000 in
theorem dX8_keep_26 : decode cX8_keep 26 = .ok (.putfield 21, 3) := dc_181 0 21 (lxX8_keep 1 10 rfl) (lxX8_keep 1 11 rfl) (lxX8_keep 1 12 rfl)
set_option maxRecDepth 20000 in
theorem dX8_keep_29 : decode cX8_keep 29 = .ok (.aload_n 0, 1) := dc_42 (lxX8_keep 1 13 rfl)
set_option maxRecDepth 20000 in
theorem dX8_keep_30 : decode cX8_keep 30 = .ok (.aload_n 0, 1) := dc_42 (lxX8_keep 1 14 rfl)
set_option maxRecDepth 20000 in
theorem dX8_keep_31 : decode cX8_keep 31 = .ok (.getfield 21, 3) := dc_180 0 21 (lxX8_keep 1 15 rfl) (lxX8_keep 2 0 rfl) (lxX8_keep 2 1 rfl)
set_option maxRecDepth 20000 in
theorem dX8_keep_34 : decode cX8_keep 34 = .ok (.arraylength, 1) := dc_190 (lxX8_keep 2 2 rfl)
set_option maxRecDepth 20000 in
theorem dX8_keep_35 : decode cX8_keep 35 = .ok (.invokevirtual 62, 3) := dc_182 0 62 (lxX8_keep 2 3 rfl) (lxX8_keep 2 4 rfl) (lxX8_keep 2 5 rfl)
set_option maxRecDepth 20000 in
theorem dX8_keep_38 : decode cX8_keep 38 = .ok (.ireturn, 1) := dc_172 (lxX8_keep 2 6 rfl)
def lb_sgX8_load : List (List UInt8) := [[42, 27, 184, 0, 119, 3, 182, 0, 81, 153, 0, 5, 3, 172, 42, 42], [27, 182, 0, 122, 3, 188, 10, 184, 0, 125, 181, 0, 18, 42, 42, 180], [0, 18, 190, 182, 0, 62, 172]]
set_option maxRecDepth 100000 in
theorem lb_seX8_load : cX8_load.data.toList = lb_sgX8_load.flatten := by decide +kernel
theorem lb_lnX8_load : ∀ s ∈ lb_sgX8_load.dropLast, s.length = 16 := by decide +kernel
theorem lxX8_load (k j : Nat) {b : UInt8} (h : (lb_sgX8_load[k]?).bind (fun s => s[j]?) = some b) : lb_at cX8_load (16 * k + j) b := by
  unfold lb_at
  rw [lb_seX8_load]
  exact lb_flat 16 lb_sgX8_load k j b lb_lnX8_load h
set_option maxRecDepth 20000 in
theorem dX8_load_0 : decode cX8_load 0 = .ok (.aload_n 0, 1) := dc_42 (lxX8_load 0 0 rfl)
set_option maxRecDepth 20000 in
theorem dX8_load_1 : decode cX8_load 1 = .ok (.iload_n 1, 1) := dc_27 (lxX8_load 0 1 rfl)
set_option maxRecDepth 20000 in
theorem dX8_load_2 : decode cX8_load 2 = .ok (.invokestatic 119, 3) := dc_184 0 119 (lxX8_load 0 2 rfl) (lxX8_load 0 3 rfl) (lxX8_load 0 4 rfl)
set_option maxRecDepth 20000 in
theorem dX8_load_5 : decode cX8_load 5 = .ok (.iconst 0, 1) := dc_3 (lxX8_load 0 5 rfl)
set_option maxRecDepth 20000 in
theorem dX8_load_6 : decode cX8_load 6 = .ok (.invokevirtual 81, 3) := dc_182 0 81 (lxX8_load 0 6 rfl) (lxX8_load 0 7 rfl) (lxX8_load 0 8 rfl)
set_option maxRecDepth 20000 in
theorem dX8_load_9 : decode cX8_load 9 = .ok (.ifCond .eq 5, 3) := dc_153 0 5 (lxX8_load 0 9 rfl) (lxX8_load 0 10 rfl) (lxX8_load 0 11 rfl)
set_option maxRecDepth 20000 in
theorem dX8_load_12 : decode cX8_load 12 = .ok (.iconst 0, 1) := dc_3 (lxX8_load 0 12 rfl)
set_option maxRecDepth 20000 in
theorem dX8_load_13 : decode cX8_load 13 = .ok (.ireturn, 1) := dc_172 (lxX8_load 0 13 rfl)
set_option maxRecDepth 20000 in
theorem dX8_load_14 : decode cX8_load 14 = .ok (.aload_n 0, 1) := dc_42 (lxX8_load 0 14 rfl)
set_option maxRecDepth 20000 in
theorem dX8_load_15 : decode cX8_load 15 = .ok (.aload_n 0, 1) := dc_42 (lxX8_load 0 15 rfl)
set_option maxRecDepth 20000 in
theorem dX8_load_16 : decode cX8_load 16 = .ok (.iload_n 1, 1) := dc_27 (lxX8_load 1 0 rfl)
set_option maxRecDepth 20000 in
theorem dX8_load_17 : decode cX8_load 17 = .ok (.invokevirtual 122, 3) := dc_182 0 122 (lxX8_load 1 1 rfl) (lxX8_load 1 2 rfl) (lxX8_load 1 3 rfl)
set_option maxRecDepth 20000 in
theorem dX8_load_20 : decode cX8_load 20 = .ok (.iconst 0, 1) := dc_3 (lxX8_load 1 4 rfl)
theorem dX8_load_21 : decode cX8_load 21 = .ok (.newarray .int, 2) := by decide +kernel
set_option maxRecDepth 20000 in
theorem dX8_load_23 : decode cX8_load 23 = .ok (.invokestatic 125, 3) := dc_184 0 125 (lxX8_load 1 7 rfl) (lxX8_load 1 8 rfl) (lxX8_load 1 9 rfl)
set_option maxRecDepth 20000 in
theorem dX8_load_26 : decode cX8_load 26 = .ok (.putfield 18, 3) := dc_181 0 18 (lxX8_load 1 10 rfl) (lxX8_load 1 11 rfl) (lxX8_load 1 12 rfl)
set_option maxRecDepth 20000 in
theorem dX8_load_29 : decode cX8_load 29 = .ok (.aload_n 0, 1) := dc_42 (lxX8_load 1 13 rfl)
set_option maxRecDepth 20000 in
theorem dX8_load_30 : decode cX8_load 30 = .ok (.aload_n 0, 1) := dc_42 (lxX8_load 1 14 rfl)
set_option maxRecDepth 20000 in
theorem dX8_load_31 : decode cX8_load 31 = .ok (.getfield 18, 3) := dc_180 0 18 (lxX8_load 1 15 rfl) (lxX8_load 2 0 rfl) (lxX8_load 2 1 rfl)
set_option maxRecDepth 20000 in
theorem dX8_load_34 : decode cX8_load 34 = .ok (.arraylength, 1) := dc_190 (lxX8_load 2 2 rfl)
set_option maxRecDepth 20000 in
theorem dX8_load_35 : decode cX8_load 35 = .ok (.invokevirtual 62, 3) := dc_182 0 62 (lxX8_load 2 3 rfl) (lxX8_load 2 4 rfl) (lxX8_load 2 5 rfl)
set_option maxRecDepth 20000 in
theorem dX8_load_38 : decode cX8_load 38 = .ok (.ireturn, 1) := dc_172 (lxX8_load 2 6 rfl)
def lb_sgX8_build : List (List UInt8) := [[42, 27, 184, 0, 119, 3, 182, 0, 81, 153, 0, 5, 3, 172, 42, 27], [182, 0, 122, 77, 42, 3, 42, 180, 0, 18, 190, 44, 190, 96, 16, 80], [164, 0, 7, 4, 167, 0, 4, 3, 182, 0, 81, 153, 0, 5, 3, 172], [42, 42, 180, 0, 18, 44, 184, 0, 125, 181, 0, 18, 42, 42, 180, 0], [18, 190, 182, 0, 62, 172]]
set_option maxRecDepth 100000 in
theorem lb_seX8_build : cX8_build.data.toList = lb_sgX8_build.flatten := by decide +kernel
theorem lb_lnX8_build : ∀ s ∈ lb_sgX8_build.dropLast, s.length = 16 := by decide +kernel
theorem lxX8_build (k j : Nat) {b : UInt8} (h : (lb_sgX8_build[k]?).bind (fun s => s[j]?) = some b) : lb_at cX8_build (16 * k + j) b := by
  unfold lb_at
  rw [lb_seX8_build]
  exact lb_flat 16 lb_sgX8_build k j b lb_lnX8_build h
set_option maxRecDepth 20000 in
theorem dX8_build_0 : decode cX8_build 0 = .ok (.aload_n 0, 1) := dc_42 (lxX8_build 0 0 rfl)
set_option maxRecDepth 20000 in
theorem dX8_build_1 : decode cX8_build 1 = .ok (.iload_n 1, 1) := dc_27 (lxX8_build 0 1 rfl)
set_option maxRecDepth 20000 in
theorem dX8_build_2 : decode cX8_build 2 = .ok (.invokestatic 119, 3) := dc_184 0 119 (lxX8_build 0 2 rfl) (lxX8_build 0 3 rfl) (lxX8_build 0 4 rfl)
set_option maxRecDepth 20000 in
theorem dX8_build_5 : decode cX8_build 5 = .ok (.iconst 0, 1) := dc_3 (lxX8_build 0 5 rfl)
set_option maxRecDepth 20000 in
theorem dX8_build_6 : decode cX8_build 6 = .ok (.invokevirtual 81, 3) := dc_182 0 81 (lxX8_build 0 6 rfl) (lxX8_build 0 7 rfl) (lxX8_build 0 8 rfl)
set_option maxRecDepth 20000 in
theorem dX8_build_9 : decode cX8_build 9 = .ok (.ifCond .eq 5, 3) := dc_153 0 5 (lxX8_build 0 9 rfl) (lxX8_build 0 10 rfl) (lxX8_build 0 11 rfl)
set_option maxRecDepth 20000 in
theorem dX8_build_12 : decode cX8_build 12 = .ok (.iconst 0, 1) := dc_3 (lxX8_build 0 12 rfl)
set_option maxRecDepth 20000 in
theorem dX8_build_13 : decode cX8_build 13 = .ok (.ireturn, 1) := dc_172 (lxX8_build 0 13 rfl)
set_option maxRecDepth 20000 in
theorem dX8_build_14 : decode cX8_build 14 = .ok (.aload_n 0, 1) := dc_42 (lxX8_build 0 14 rfl)
set_option maxRecDepth 20000 in
theorem dX8_build_15 : decode cX8_build 15 = .ok (.iload_n 1, 1) := dc_27 (lxX8_build 0 15 rfl)
set_option maxRecDepth 20000 in
theorem dX8_build_16 : decode cX8_build 16 = .ok (.invokevirtual 122, 3) := dc_182 0 122 (lxX8_build 1 0 rfl) (lxX8_build 1 1 rfl) (lxX8_build 1 2 rfl)
set_option maxRecDepth 20000 in
theorem dX8_build_19 : decode cX8_build 19 = .ok (.astore_n 2, 1) := dc_77 (lxX8_build 1 3 rfl)
set_option maxRecDepth 20000 in
theorem dX8_build_20 : decode cX8_build 20 = .ok (.aload_n 0, 1) := dc_42 (lxX8_build 1 4 rfl)
set_option maxRecDepth 20000 in
theorem dX8_build_21 : decode cX8_build 21 = .ok (.iconst 0, 1) := dc_3 (lxX8_build 1 5 rfl)
set_option maxRecDepth 20000 in
theorem dX8_build_22 : decode cX8_build 22 = .ok (.aload_n 0, 1) := dc_42 (lxX8_build 1 6 rfl)
set_option maxRecDepth 20000 in
theorem dX8_build_23 : decode cX8_build 23 = .ok (.getfield 18, 3) := dc_180 0 18 (lxX8_build 1 7 rfl) (lxX8_build 1 8 rfl) (lxX8_build 1 9 rfl)
set_option maxRecDepth 20000 in
theorem dX8_build_26 : decode cX8_build 26 = .ok (.arraylength, 1) := dc_190 (lxX8_build 1 10 rfl)
set_option maxRecDepth 20000 in
theorem dX8_build_27 : decode cX8_build 27 = .ok (.aload_n 2, 1) := dc_44 (lxX8_build 1 11 rfl)
set_option maxRecDepth 20000 in
theorem dX8_build_28 : decode cX8_build 28 = .ok (.arraylength, 1) := dc_190 (lxX8_build 1 12 rfl)
set_option maxRecDepth 20000 in
theorem dX8_build_29 : decode cX8_build 29 = .ok (.iadd, 1) := dc_96 (lxX8_build 1 13 rfl)
set_option maxRecDepth 20000 in
theorem dX8_build_30 : decode cX8_build 30 = .ok (.bipush 80, 2) := dc_16 80 (lxX8_build 1 14 rfl) (lxX8_build 1 15 rfl)
set_option maxRecDepth 20000 in
theorem dX8_build_32 : decode cX8_build 32 = .ok (.if_icmp .le 7, 3) := dc_164 0 7 (lxX8_build 2 0 rfl) (lxX8_build 2 1 rfl) (lxX8_build 2 2 rfl)
set_option maxRecDepth 20000 in
theorem dX8_build_35 : decode cX8_build 35 = .ok (.iconst 1, 1) := dc_4 (lxX8_build 2 3 rfl)
set_option maxRecDepth 20000 in
theorem dX8_build_36 : decode cX8_build 36 = .ok (.goto 4, 3) := dc_167 0 4 (lxX8_build 2 4 rfl) (lxX8_build 2 5 rfl) (lxX8_build 2 6 rfl)
set_option maxRecDepth 20000 in
theorem dX8_build_39 : decode cX8_build 39 = .ok (.iconst 0, 1) := dc_3 (lxX8_build 2 7 rfl)
set_option maxRecDepth 20000 in
theorem dX8_build_40 : decode cX8_build 40 = .ok (.invokevirtual 81, 3) := dc_182 0 81 (lxX8_build 2 8 rfl) (lxX8_build 2 9 rfl) (lxX8_build 2 10 rfl)
set_option maxRecDepth 20000 in
theorem dX8_build_43 : decode cX8_build 43 = .ok (.ifCond .eq 5, 3) := dc_153 0 5 (lxX8_build 2 11 rfl) (lxX8_build 2 12 rfl) (lxX8_build 2 13 rfl)
set_option maxRecDepth 20000 in
theorem dX8_build_46 : decode cX8_build 46 = .ok (.iconst 0, 1) := dc_3 (lxX8_build 2 14 rfl)
set_option maxRecDepth 20000 in
theorem dX8_build_47 : decode cX8_build 47 = .ok (.ireturn, 1) := dc_172 (lxX8_build 2 15 rfl)
set_option maxRecDepth 20000 in
theorem dX8_build_48 : decode cX8_build 48 = .ok (.aload_n 0, 1) := dc_42 (lxX8_build 3 0 rfl)
set_option maxRecDepth 20000 in
theorem dX8_build_49 : decode cX8_build 49 = .ok (.aload_n 0, 1) := dc_42 (lxX8_build 3 1 rfl)
set_option maxRecDepth 20000 in
theorem dX8_build_50 : decode cX8_build 50 = .ok (.getfield 18, 3) := dc_180 0 18 (lxX8_build 3 2 rfl) (lxX8_build 3 3 rfl) (lxX8_build 3 4 rfl)
set_option maxRecDepth 20000 in
theorem dX8_build_53 : decode cX8_build 53 = .ok (.aload_n 2, 1) := dc_44 (lxX8_build 3 5 rfl)
set_option maxRecDepth 20000 in
theorem dX8_build_54 : decode cX8_build 54 = .ok (.invokestatic 125, 3) := dc_184 0 125 (lxX8_build 3 6 rfl) (lxX8_build 3 7 rfl) (lxX8_build 3 8 rfl)
set_option maxRecDepth 20000 in
theorem dX8_build_57 : decode cX8_build 57 = .ok (.putfield 18, 3) := dc_181 0 18 (lxX8_build 3 9 rfl) (lxX8_build 3 10 rfl) (lxX8_build 3 11 rfl)
set_option maxRecDepth 20000 in
theorem dX8_build_60 : decode cX8_build 60 = .ok (.aload_n 0, 1) := dc_42 (lxX8_build 3 12 rfl)
set_option maxRecDepth 20000 in
theorem dX8_build_61 : decode cX8_build 61 = .ok (.aload_n 0, 1) := dc_42 (lxX8_build 3 13 rfl)
set_option maxRecDepth 20000 in
theorem dX8_build_62 : decode cX8_build 62 = .ok (.getfield 18, 3) := dc_180 0 18 (lxX8_build 3 14 rfl) (lxX8_build 3 15 rfl) (lxX8_build 4 0 rfl)
set_option maxRecDepth 20000 in
theorem dX8_build_65 : decode cX8_build 65 = .ok (.arraylength, 1) := dc_190 (lxX8_build 4 1 rfl)
set_option maxRecDepth 20000 in
theorem dX8_build_66 : decode cX8_build 66 = .ok (.invokevirtual 62, 3) := dc_182 0 62 (lxX8_build 4 2 rfl) (lxX8_build 4 3 rfl) (lxX8_build 4 4 rfl)
set_option maxRecDepth 20000 in
theorem dX8_build_69 : decode cX8_build 69 = .ok (.ireturn, 1) := dc_172 (lxX8_build 4 5 rfl)
def lb_sgX8_turn : List (List UInt8) := [[42, 3, 3, 182, 0, 81, 87, 42, 180, 0, 18, 190, 188, 10, 76, 3], [61, 28, 43, 190, 162, 0, 23, 43, 28, 42, 180, 0, 18, 43, 190, 4], [100, 28, 100, 46, 79, 132, 2, 1, 167, 255, 233, 42, 43, 181, 0, 18], [42, 43, 190, 182, 0, 62, 172]]
set_option maxRecDepth 100000 in
theorem lb_seX8_turn : cX8_turn.data.toList = lb_sgX8_turn.flatten := by decide +kernel
theorem lb_lnX8_turn : ∀ s ∈ lb_sgX8_turn.dropLast, s.length = 16 := by decide +kernel
theorem lxX8_turn (k j : Nat) {b : UInt8} (h : (lb_sgX8_turn[k]?).bind (fun s => s[j]?) = some b) : lb_at cX8_turn (16 * k + j) b := by
  unfold lb_at
  rw [lb_seX8_turn]
  exact lb_flat 16 lb_sgX8_turn k j b lb_lnX8_turn h
set_option maxRecDepth 20000 in
theorem dX8_turn_0 : decode cX8_turn 0 = .ok (.aload_n 0, 1) := dc_42 (lxX8_turn 0 0 rfl)
set_option maxRecDepth 20000 in
theorem dX8_turn_1 : decode cX8_turn 1 = .ok (.iconst 0, 1) := dc_3 (lxX8_turn 0 1 rfl)
set_option maxRecDepth 20000 in
theorem dX8_turn_2 : decode cX8_turn 2 = .ok (.iconst 0, 1) := dc_3 (lxX8_turn 0 2 rfl)
set_option maxRecDepth 20000 in
theorem dX8_turn_3 : decode cX8_turn 3 = .ok (.invokevirtual 81, 3) := dc_182 0 81 (lxX8_turn 0 3 rfl) (lxX8_turn 0 4 rfl) (lxX8_turn 0 5 rfl)
set_option maxRecDepth 20000 in
theorem dX8_turn_6 : decode cX8_turn 6 = .ok (.pop, 1) := dc_87 (lxX8_turn 0 6 rfl)
set_option maxRecDepth 20000 in
theorem dX8_turn_7 : decode cX8_turn 7 = .ok (.aload_n 0, 1) := dc_42 (lxX8_turn 0 7 rfl)
set_option maxRecDepth 20000 in
theorem dX8_turn_8 : decode cX8_turn 8 = .ok (.getfield 18, 3) := dc_180 0 18 (lxX8_turn 0 8 rfl) (lxX8_turn 0 9 rfl) (lxX8_turn 0 10 rfl)
set_option maxRecDepth 20000 in
theorem dX8_turn_11 : decode cX8_turn 11 = .ok (.arraylength, 1) := dc_190 (lxX8_turn 0 11 rfl)
theorem dX8_turn_12 : decode cX8_turn 12 = .ok (.newarray .int, 2) := by decide +kernel
set_option maxRecDepth 20000 in
theorem dX8_turn_14 : decode cX8_turn 14 = .ok (.astore_n 1, 1) := dc_76 (lxX8_turn 0 14 rfl)
set_option maxRecDepth 20000 in
theorem dX8_turn_15 : decode cX8_turn 15 = .ok (.iconst 0, 1) := dc_3 (lxX8_turn 0 15 rfl)
set_option maxRecDepth 20000 in
theorem dX8_turn_16 : decode cX8_turn 16 = .ok (.istore_n 2, 1) := dc_61 (lxX8_turn 1 0 rfl)
set_option maxRecDepth 20000 in
theorem dX8_turn_17 : decode cX8_turn 17 = .ok (.iload_n 2, 1) := dc_28 (lxX8_turn 1 1 rfl)
set_option maxRecDepth 20000 in
theorem dX8_turn_18 : decode cX8_turn 18 = .ok (.aload_n 1, 1) := dc_43 (lxX8_turn 1 2 rfl)
set_option maxRecDepth 20000 in
theorem dX8_turn_19 : decode cX8_turn 19 = .ok (.arraylength, 1) := dc_190 (lxX8_turn 1 3 rfl)
set_option maxRecDepth 20000 in
theorem dX8_turn_20 : decode cX8_turn 20 = .ok (.if_icmp .ge 23, 3) := dc_162 0 23 (lxX8_turn 1 4 rfl) (lxX8_turn 1 5 rfl) (lxX8_turn 1 6 rfl)
set_option maxRecDepth 20000 in
theorem dX8_turn_23 : decode cX8_turn 23 = .ok (.aload_n 1, 1) := dc_43 (lxX8_turn 1 7 rfl)
set_option maxRecDepth 20000 in
theorem dX8_turn_24 : decode cX8_turn 24 = .ok (.iload_n 2, 1) := dc_28 (lxX8_turn 1 8 rfl)
set_option maxRecDepth 20000 in
theorem dX8_turn_25 : decode cX8_turn 25 = .ok (.aload_n 0, 1) := dc_42 (lxX8_turn 1 9 rfl)
set_option maxRecDepth 20000 in
theorem dX8_turn_26 : decode cX8_turn 26 = .ok (.getfield 18, 3) := dc_180 0 18 (lxX8_turn 1 10 rfl) (lxX8_turn 1 11 rfl) (lxX8_turn 1 12 rfl)
set_option maxRecDepth 20000 in
theorem dX8_turn_29 : decode cX8_turn 29 = .ok (.aload_n 1, 1) := dc_43 (lxX8_turn 1 13 rfl)
set_option maxRecDepth 20000 in
theorem dX8_turn_30 : decode cX8_turn 30 = .ok (.arraylength, 1) := dc_190 (lxX8_turn 1 14 rfl)
set_option maxRecDepth 20000 in
theorem dX8_turn_31 : decode cX8_turn 31 = .ok (.iconst 1, 1) := dc_4 (lxX8_turn 1 15 rfl)
set_option maxRecDepth 20000 in
theorem dX8_turn_32 : decode cX8_turn 32 = .ok (.isub, 1) := dc_100 (lxX8_turn 2 0 rfl)
set_option maxRecDepth 20000 in
theorem dX8_turn_33 : decode cX8_turn 33 = .ok (.iload_n 2, 1) := dc_28 (lxX8_turn 2 1 rfl)
set_option maxRecDepth 20000 in
theorem dX8_turn_34 : decode cX8_turn 34 = .ok (.isub, 1) := dc_100 (lxX8_turn 2 2 rfl)
set_option maxRecDepth 20000 in
theorem dX8_turn_35 : decode cX8_turn 35 = .ok (.iaload, 1) := dc_46 (lxX8_turn 2 3 rfl)
set_option maxRecDepth 20000 in
theorem dX8_turn_36 : decode cX8_turn 36 = .ok (.iastore, 1) := dc_79 (lxX8_turn 2 4 rfl)
set_option maxRecDepth 20000 in
theorem dX8_turn_37 : decode cX8_turn 37 = .ok (.iinc 2 1, 3) := dc_132 2 1 (lxX8_turn 2 5 rfl) (lxX8_turn 2 6 rfl) (lxX8_turn 2 7 rfl)
set_option maxRecDepth 20000 in
theorem dX8_turn_40 : decode cX8_turn 40 = .ok (.goto (-23), 3) := dc_167 255 233 (lxX8_turn 2 8 rfl) (lxX8_turn 2 9 rfl) (lxX8_turn 2 10 rfl)
set_option maxRecDepth 20000 in
theorem dX8_turn_43 : decode cX8_turn 43 = .ok (.aload_n 0, 1) := dc_42 (lxX8_turn 2 11 rfl)
set_option maxRecDepth 20000 in
theorem dX8_turn_44 : decode cX8_turn 44 = .ok (.aload_n 1, 1) := dc_43 (lxX8_turn 2 12 rfl)
set_option maxRecDepth 20000 in
theorem dX8_turn_45 : decode cX8_turn 45 = .ok (.putfield 18, 3) := dc_181 0 18 (lxX8_turn 2 13 rfl) (lxX8_turn 2 14 rfl) (lxX8_turn 2 15 rfl)
set_option maxRecDepth 20000 in
theorem dX8_turn_48 : decode cX8_turn 48 = .ok (.aload_n 0, 1) := dc_42 (lxX8_turn 3 0 rfl)
set_option maxRecDepth 20000 in
theorem dX8_turn_49 : decode cX8_turn 49 = .ok (.aload_n 1, 1) := dc_43 (lxX8_turn 3 1 rfl)
set_option maxRecDepth 20000 in
theorem dX8_turn_50 : decode cX8_turn 50 = .ok (.arraylength, 1) := dc_190 (lxX8_turn 3 2 rfl)
set_option maxRecDepth 20000 in
theorem dX8_turn_51 : decode cX8_turn 51 = .ok (.invokevirtual 62, 3) := dc_182 0 62 (lxX8_turn 3 3 rfl) (lxX8_turn 3 4 rfl) (lxX8_turn 3 5 rfl)
set_option maxRecDepth 20000 in
theorem dX8_turn_54 : decode cX8_turn 54 = .ok (.ireturn, 1) := dc_172 (lxX8_turn 3 6 rfl)
def lb_sgX8_change : List (List UInt8) := [[42, 27, 3, 42, 180, 0, 18, 190, 4, 100, 184, 0, 41, 28, 3, 17], [0, 255, 184, 0, 41, 182, 0, 81, 153, 0, 5, 3, 172, 42, 180, 0], [18, 27, 46, 62, 42, 180, 0, 18, 27, 28, 79, 42, 29, 182, 0, 62], [172]]
set_option maxRecDepth 100000 in
theorem lb_seX8_change : cX8_change.data.toList = lb_sgX8_change.flatten := by decide +kernel
theorem lb_lnX8_change : ∀ s ∈ lb_sgX8_change.dropLast, s.length = 16 := by decide +kernel
theorem lxX8_change (k j : Nat) {b : UInt8} (h : (lb_sgX8_change[k]?).bind (fun s => s[j]?) = some b) : lb_at cX8_change (16 * k + j) b := by
  unfold lb_at
  rw [lb_seX8_change]
  exact lb_flat 16 lb_sgX8_change k j b lb_lnX8_change h
set_option maxRecDepth 20000 in
theorem dX8_change_0 : decode cX8_change 0 = .ok (.aload_n 0, 1) := dc_42 (lxX8_change 0 0 rfl)
set_option maxRecDepth 20000 in
theorem dX8_change_1 : decode cX8_change 1 = .ok (.iload_n 1, 1) := dc_27 (lxX8_change 0 1 rfl)
set_option maxRecDepth 20000 in
theorem dX8_change_2 : decode cX8_change 2 = .ok (.iconst 0, 1) := dc_3 (lxX8_change 0 2 rfl)
set_option maxRecDepth 20000 in
theorem dX8_change_3 : decode cX8_change 3 = .ok (.aload_n 0, 1) := dc_42 (lxX8_change 0 3 rfl)
set_option maxRecDepth 20000 in
theorem dX8_change_4 : decode cX8_change 4 = .ok (.getfield 18, 3) := dc_180 0 18 (lxX8_change 0 4 rfl) (lxX8_change 0 5 rfl) (lxX8_change 0 6 rfl)
set_option maxRecDepth 20000 in
theorem dX8_change_7 : decode cX8_change 7 = .ok (.arraylength, 1) := dc_190 (lxX8_change 0 7 rfl)
set_option maxRecDepth 20000 in
theorem dX8_change_8 : decode cX8_change 8 = .ok (.iconst 1, 1) := dc_4 (lxX8_change 0 8 rfl)
set_option maxRecDepth 20000 in
theorem dX8_change_9 : decode cX8_change 9 = .ok (.isub, 1) := dc_100 (lxX8_change 0 9 rfl)
set_option maxRecDepth 20000 in
theorem dX8_change_10 : decode cX8_change 10 = .ok (.invokestatic 41, 3) := dc_184 0 41 (lxX8_change 0 10 rfl) (lxX8_change 0 11 rfl) (lxX8_change 0 12 rfl)
set_option maxRecDepth 20000 in
theorem dX8_change_13 : decode cX8_change 13 = .ok (.iload_n 2, 1) := dc_28 (lxX8_change 0 13 rfl)
set_option maxRecDepth 20000 in
theorem dX8_change_14 : decode cX8_change 14 = .ok (.iconst 0, 1) := dc_3 (lxX8_change 0 14 rfl)
set_option maxRecDepth 20000 in
theorem dX8_change_15 : decode cX8_change 15 = .ok (.sipush 255, 3) := dc_17 0 255 (lxX8_change 0 15 rfl) (lxX8_change 1 0 rfl) (lxX8_change 1 1 rfl)
set_option maxRecDepth 20000 in
theorem dX8_change_18 : decode cX8_change 18 = .ok (.invokestatic 41, 3) := dc_184 0 41 (lxX8_change 1 2 rfl) (lxX8_change 1 3 rfl) (lxX8_change 1 4 rfl)
set_option maxRecDepth 20000 in
theorem dX8_change_21 : decode cX8_change 21 = .ok (.invokevirtual 81, 3) := dc_182 0 81 (lxX8_change 1 5 rfl) (lxX8_change 1 6 rfl) (lxX8_change 1 7 rfl)
set_option maxRecDepth 20000 in
theorem dX8_change_24 : decode cX8_change 24 = .ok (.ifCond .eq 5, 3) := dc_153 0 5 (lxX8_change 1 8 rfl) (lxX8_change 1 9 rfl) (lxX8_change 1 10 rfl)
set_option maxRecDepth 20000 in
theorem dX8_change_27 : decode cX8_change 27 = .ok (.iconst 0, 1) := dc_3 (lxX8_change 1 11 rfl)
set_option maxRecDepth 20000 in
theorem dX8_change_28 : decode cX8_change 28 = .ok (.ireturn, 1) := dc_172 (lxX8_change 1 12 rfl)
set_option maxRecDepth 20000 in
theorem dX8_change_29 : decode cX8_change 29 = .ok (.aload_n 0, 1) := dc_42 (lxX8_change 1 13 rfl)
set_option maxRecDepth 20000 in
theorem dX8_change_30 : decode cX8_change 30 = .ok (.getfield 18, 3) := dc_180 0 18 (lxX8_change 1 14 rfl) (lxX8_change 1 15 rfl) (lxX8_change 2 0 rfl)
set_option maxRecDepth 20000 in
theorem dX8_change_33 : decode cX8_change 33 = .ok (.iload_n 1, 1) := dc_27 (lxX8_change 2 1 rfl)
set_option maxRecDepth 20000 in
theorem dX8_change_34 : decode cX8_change 34 = .ok (.iaload, 1) := dc_46 (lxX8_change 2 2 rfl)
set_option maxRecDepth 20000 in
theorem dX8_change_35 : decode cX8_change 35 = .ok (.istore_n 3, 1) := dc_62 (lxX8_change 2 3 rfl)
set_option maxRecDepth 20000 in
theorem dX8_change_36 : decode cX8_change 36 = .ok (.aload_n 0, 1) := dc_42 (lxX8_change 2 4 rfl)
set_option maxRecDepth 20000 in
theorem dX8_change_37 : decode cX8_change 37 = .ok (.getfield 18, 3) := dc_180 0 18 (lxX8_change 2 5 rfl) (lxX8_change 2 6 rfl) (lxX8_change 2 7 rfl)
set_option maxRecDepth 20000 in
theorem dX8_change_40 : decode cX8_change 40 = .ok (.iload_n 1, 1) := dc_27 (lxX8_change 2 8 rfl)
set_option maxRecDepth 20000 in
theorem dX8_change_41 : decode cX8_change 41 = .ok (.iload_n 2, 1) := dc_28 (lxX8_change 2 9 rfl)
set_option maxRecDepth 20000 in
theorem dX8_change_42 : decode cX8_change 42 = .ok (.iastore, 1) := dc_79 (lxX8_change 2 10 rfl)
set_option maxRecDepth 20000 in
theorem dX8_change_43 : decode cX8_change 43 = .ok (.aload_n 0, 1) := dc_42 (lxX8_change 2 11 rfl)
set_option maxRecDepth 20000 in
theorem dX8_change_44 : decode cX8_change 44 = .ok (.iload_n 3, 1) := dc_29 (lxX8_change 2 12 rfl)
set_option maxRecDepth 20000 in
theorem dX8_change_45 : decode cX8_change 45 = .ok (.invokevirtual 62, 3) := dc_182 0 62 (lxX8_change 2 13 rfl) (lxX8_change 2 14 rfl) (lxX8_change 2 15 rfl)
set_option maxRecDepth 20000 in
theorem dX8_change_48 : decode cX8_change 48 = .ok (.ireturn, 1) := dc_172 (lxX8_change 3 0 rfl)
def lb_sgX8_pipe : List (List UInt8) := [[42, 27, 4, 16, 8, 184, 0, 41, 3, 182, 0, 81, 153, 0, 5, 3], [172, 42, 180, 0, 129, 42, 180, 0, 132, 100, 61, 42, 27, 181, 0, 27], [42, 3, 181, 0, 129, 42, 3, 181, 0, 132, 42, 28, 182, 0, 62, 172]]
set_option maxRecDepth 100000 in
theorem lb_seX8_pipe : cX8_pipe.data.toList = lb_sgX8_pipe.flatten := by decide +kernel
theorem lb_lnX8_pipe : ∀ s ∈ lb_sgX8_pipe.dropLast, s.length = 16 := by decide +kernel
theorem lxX8_pipe (k j : Nat) {b : UInt8} (h : (lb_sgX8_pipe[k]?).bind (fun s => s[j]?) = some b) : lb_at cX8_pipe (16 * k + j) b := by
  unfold lb_at
  rw [lb_seX8_pipe]
  exact lb_flat 16 lb_sgX8_pipe k j b lb_lnX8_pipe h
set_option maxRecDepth 20000 in
theorem dX8_pipe_0 : decode cX8_pipe 0 = .ok (.aload_n 0, 1) := dc_42 (lxX8_pipe 0 0 rfl)
set_option maxRecDepth 20000 in
theorem dX8_pipe_1 : decode cX8_pipe 1 = .ok (.iload_n 1, 1) := dc_27 (lxX8_pipe 0 1 rfl)
set_option maxRecDepth 20000 in
theorem dX8_pipe_2 : decode cX8_pipe 2 = .ok (.iconst 1, 1) := dc_4 (lxX8_pipe 0 2 rfl)
set_option maxRecDepth 20000 in
theorem dX8_pipe_3 : decode cX8_pipe 3 = .ok (.bipush 8, 2) := dc_16 8 (lxX8_pipe 0 3 rfl) (lxX8_pipe 0 4 rfl)
set_option maxRecDepth 20000 in
theorem dX8_pipe_5 : decode cX8_pipe 5 = .ok (.invokestatic 41, 3) := dc_184 0 41 (lxX8_pipe 0 5 rfl) (lxX8_pipe 0 6 rfl) (lxX8_pipe 0 7 rfl)
set_option maxRecDepth 20000 in
theorem dX8_pipe_8 : decode cX8_pipe 8 = .ok (.iconst 0, 1) := dc_3 (lxX8_pipe 0 8 rfl)
set_option maxRecDepth 20000 in
theorem dX8_pipe_9 : decode cX8_pipe 9 = .ok (.invokevirtual 81, 3) := dc_182 0 81 (lxX8_pipe 0 9 rfl) (lxX8_pipe 0 10 rfl) (lxX8_pipe 0 11 rfl)
set_option maxRecDepth 20000 in
theorem dX8_pipe_12 : decode cX8_pipe 12 = .ok (.ifCond .eq 5, 3) := dc_153 0 5 (lxX8_pipe 0 12 rfl) (lxX8_pipe 0 13 rfl) (lxX8_pipe 0 14 rfl)
set_option maxRecDepth 20000 in
theorem dX8_pipe_15 : decode cX8_pipe 15 = .ok (.iconst 0, 1) := dc_3 (lxX8_pipe 0 15 rfl)
set_option maxRecDepth 20000 in
theorem dX8_pipe_16 : decode cX8_pipe 16 = .ok (.ireturn, 1) := dc_172 (lxX8_pipe 1 0 rfl)
set_option maxRecDepth 20000 in
theorem dX8_pipe_17 : decode cX8_pipe 17 = .ok (.aload_n 0, 1) := dc_42 (lxX8_pipe 1 1 rfl)
set_option maxRecDepth 20000 in
theorem dX8_pipe_18 : decode cX8_pipe 18 = .ok (.getfield 129, 3) := dc_180 0 129 (lxX8_pipe 1 2 rfl) (lxX8_pipe 1 3 rfl) (lxX8_pipe 1 4 rfl)
set_option maxRecDepth 20000 in
theorem dX8_pipe_21 : decode cX8_pipe 21 = .ok (.aload_n 0, 1) := dc_42 (lxX8_pipe 1 5 rfl)
set_option maxRecDepth 20000 in
theorem dX8_pipe_22 : decode cX8_pipe 22 = .ok (.getfield 132, 3) := dc_180 0 132 (lxX8_pipe 1 6 rfl) (lxX8_pipe 1 7 rfl) (lxX8_pipe 1 8 rfl)
set_option maxRecDepth 20000 in
theorem dX8_pipe_25 : decode cX8_pipe 25 = .ok (.isub, 1) := dc_100 (lxX8_pipe 1 9 rfl)
set_option maxRecDepth 20000 in
theorem dX8_pipe_26 : decode cX8_pipe 26 = .ok (.istore_n 2, 1) := dc_61 (lxX8_pipe 1 10 rfl)
set_option maxRecDepth 20000 in
theorem dX8_pipe_27 : decode cX8_pipe 27 = .ok (.aload_n 0, 1) := dc_42 (lxX8_pipe 1 11 rfl)
set_option maxRecDepth 20000 in
theorem dX8_pipe_28 : decode cX8_pipe 28 = .ok (.iload_n 1, 1) := dc_27 (lxX8_pipe 1 12 rfl)
set_option maxRecDepth 20000 in
theorem dX8_pipe_29 : decode cX8_pipe 29 = .ok (.putfield 27, 3) := dc_181 0 27 (lxX8_pipe 1 13 rfl) (lxX8_pipe 1 14 rfl) (lxX8_pipe 1 15 rfl)
set_option maxRecDepth 20000 in
theorem dX8_pipe_32 : decode cX8_pipe 32 = .ok (.aload_n 0, 1) := dc_42 (lxX8_pipe 2 0 rfl)
set_option maxRecDepth 20000 in
theorem dX8_pipe_33 : decode cX8_pipe 33 = .ok (.iconst 0, 1) := dc_3 (lxX8_pipe 2 1 rfl)
set_option maxRecDepth 20000 in
theorem dX8_pipe_34 : decode cX8_pipe 34 = .ok (.putfield 129, 3) := dc_181 0 129 (lxX8_pipe 2 2 rfl) (lxX8_pipe 2 3 rfl) (lxX8_pipe 2 4 rfl)
set_option maxRecDepth 20000 in
theorem dX8_pipe_37 : decode cX8_pipe 37 = .ok (.aload_n 0, 1) := dc_42 (lxX8_pipe 2 5 rfl)
set_option maxRecDepth 20000 in
theorem dX8_pipe_38 : decode cX8_pipe 38 = .ok (.iconst 0, 1) := dc_3 (lxX8_pipe 2 6 rfl)
set_option maxRecDepth 20000 in
theorem dX8_pipe_39 : decode cX8_pipe 39 = .ok (.putfield 132, 3) := dc_181 0 132 (lxX8_pipe 2 7 rfl) (lxX8_pipe 2 8 rfl) (lxX8_pipe 2 9 rfl)
set_option maxRecDepth 20000 in
theorem dX8_pipe_42 : decode cX8_pipe 42 = .ok (.aload_n 0, 1) := dc_42 (lxX8_pipe 2 10 rfl)
set_option maxRecDepth 20000 in
theorem dX8_pipe_43 : decode cX8_pipe 43 = .ok (.iload_n 2, 1) := dc_28 (lxX8_pipe 2 11 rfl)
set_option maxRecDepth 20000 in
theorem dX8_pipe_44 : decode cX8_pipe 44 = .ok (.invokevirtual 62, 3) := dc_182 0 62 (lxX8_pipe 2 12 rfl) (lxX8_pipe 2 13 rfl) (lxX8_pipe 2 14 rfl)
set_option maxRecDepth 20000 in
theorem dX8_pipe_47 : decode cX8_pipe 47 = .ok (.ireturn, 1) := dc_172 (lxX8_pipe 2 15 rfl)
def lb_sgX8_feed : List (List UInt8) := [[42, 27, 155, 0, 13, 28, 3, 16, 20, 184, 0, 41, 153, 0, 7, 4], [167, 0, 4, 3, 3, 182, 0, 81, 153, 0, 5, 3, 172, 28, 42, 180], [0, 27, 42, 180, 0, 129, 42, 180, 0, 132, 100, 100, 17, 0, 160, 42], [180, 0, 129, 100, 184, 0, 97, 184, 0, 97, 62, 3, 54, 4, 21, 4], [29, 162, 0, 31, 42, 180, 0, 24, 42, 89, 180, 0, 129, 90, 4, 96], [181, 0, 129, 27, 21, 4, 184, 0, 103, 79, 132, 4, 1, 167, 255, 225], [42, 29, 182, 0, 62, 172]]
set_option maxRecDepth 100000 in
theorem lb_seX8_feed : cX8_feed.data.toList = lb_sgX8_feed.flatten := by decide +kernel
theorem lb_lnX8_feed : ∀ s ∈ lb_sgX8_feed.dropLast, s.length = 16 := by decide +kernel
theorem lxX8_feed (k j : Nat) {b : UInt8} (h : (lb_sgX8_feed[k]?).bind (fun s => s[j]?) = some b) : lb_at cX8_feed (16 * k + j) b := by
  unfold lb_at
  rw [lb_seX8_feed]
  exact lb_flat 16 lb_sgX8_feed k j b lb_lnX8_feed h
set_option maxRecDepth 20000 in
theorem dX8_feed_0 : decode cX8_feed 0 = .ok (.aload_n 0, 1) := dc_42 (lxX8_feed 0 0 rfl)
set_option maxRecDepth 20000 in
theorem dX8_feed_1 : decode cX8_feed 1 = .ok (.iload_n 1, 1) := dc_27 (lxX8_feed 0 1 rfl)
set_option maxRecDepth 20000 in
theorem dX8_feed_2 : decode cX8_feed 2 = .ok (.ifCond .lt 13, 3) := dc_155 0 13 (lxX8_feed 0 2 rfl) (lxX8_feed 0 3 rfl) (lxX8_feed 0 4 rfl)
set_option maxRecDepth 20000 in
theorem dX8_feed_5 : decode cX8_feed 5 = .ok (.iload_n 2, 1) := dc_28 (lxX8_feed 0 5 rfl)
set_option maxRecDepth 20000 in
theorem dX8_feed_6 : decode cX8_feed 6 = .ok (.iconst 0, 1) := dc_3 (lxX8_feed 0 6 rfl)
set_option maxRecDepth 20000 in
theorem dX8_feed_7 : decode cX8_feed 7 = .ok (.bipush 20, 2) := dc_16 20 (lxX8_feed 0 7 rfl) (lxX8_feed 0 8 rfl)
set_option maxRecDepth 20000 in
theorem dX8_feed_9 : decode cX8_feed 9 = .ok (.invokestatic 41, 3) := dc_184 0 41 (lxX8_feed 0 9 rfl) (lxX8_feed 0 10 rfl) (lxX8_feed 0 11 rfl)
set_option maxRecDepth 20000 in
theorem dX8_feed_12 : decode cX8_feed 12 = .ok (.ifCond .eq 7, 3) := dc_153 0 7 (lxX8_feed 0 12 rfl) (lxX8_feed 0 13 rfl) (lxX8_feed 0 14 rfl)
set_option maxRecDepth 20000 in
theorem dX8_feed_15 : decode cX8_feed 15 = .ok (.iconst 1, 1) := dc_4 (lxX8_feed 0 15 rfl)
set_option maxRecDepth 20000 in
theorem dX8_feed_16 : decode cX8_feed 16 = .ok (.goto 4, 3) := dc_167 0 4 (lxX8_feed 1 0 rfl) (lxX8_feed 1 1 rfl) (lxX8_feed 1 2 rfl)
set_option maxRecDepth 20000 in
theorem dX8_feed_19 : decode cX8_feed 19 = .ok (.iconst 0, 1) := dc_3 (lxX8_feed 1 3 rfl)
set_option maxRecDepth 20000 in
theorem dX8_feed_20 : decode cX8_feed 20 = .ok (.iconst 0, 1) := dc_3 (lxX8_feed 1 4 rfl)
set_option maxRecDepth 20000 in
theorem dX8_feed_21 : decode cX8_feed 21 = .ok (.invokevirtual 81, 3) := dc_182 0 81 (lxX8_feed 1 5 rfl) (lxX8_feed 1 6 rfl) (lxX8_feed 1 7 rfl)
set_option maxRecDepth 20000 in
theorem dX8_feed_24 : decode cX8_feed 24 = .ok (.ifCond .eq 5, 3) := dc_153 0 5 (lxX8_feed 1 8 rfl) (lxX8_feed 1 9 rfl) (lxX8_feed 1 10 rfl)
set_option maxRecDepth 20000 in
theorem dX8_feed_27 : decode cX8_feed 27 = .ok (.iconst 0, 1) := dc_3 (lxX8_feed 1 11 rfl)
set_option maxRecDepth 20000 in
theorem dX8_feed_28 : decode cX8_feed 28 = .ok (.ireturn, 1) := dc_172 (lxX8_feed 1 12 rfl)
set_option maxRecDepth 20000 in
theorem dX8_feed_29 : decode cX8_feed 29 = .ok (.iload_n 2, 1) := dc_28 (lxX8_feed 1 13 rfl)
set_option maxRecDepth 20000 in
theorem dX8_feed_30 : decode cX8_feed 30 = .ok (.aload_n 0, 1) := dc_42 (lxX8_feed 1 14 rfl)
set_option maxRecDepth 20000 in
theorem dX8_feed_31 : decode cX8_feed 31 = .ok (.getfield 27, 3) := dc_180 0 27 (lxX8_feed 1 15 rfl) (lxX8_feed 2 0 rfl) (lxX8_feed 2 1 rfl)
set_option maxRecDepth 20000 in
theorem dX8_feed_34 : decode cX8_feed 34 = .ok (.aload_n 0, 1) := dc_42 (lxX8_feed 2 2 rfl)
set_option maxRecDepth 20000 in
theorem dX8_feed_35 : decode cX8_feed 35 = .ok (.getfield 129, 3) := dc_180 0 129 (lxX8_feed 2 3 rfl) (lxX8_feed 2 4 rfl) (lxX8_feed 2 5 rfl)
set_option maxRecDepth 20000 in
theorem dX8_feed_38 : decode cX8_feed 38 = .ok (.aload_n 0, 1) := dc_42 (lxX8_feed 2 6 rfl)
set_option maxRecDepth 20000 in
theorem dX8_feed_39 : decode cX8_feed 39 = .ok (.getfield 132, 3) := dc_180 0 132 (lxX8_feed 2 7 rfl) (lxX8_feed 2 8 rfl) (lxX8_feed 2 9 rfl)
set_option maxRecDepth 20000 in
theorem dX8_feed_42 : decode cX8_feed 42 = .ok (.isub, 1) := dc_100 (lxX8_feed 2 10 rfl)
set_option maxRecDepth 20000 in
theorem dX8_feed_43 : decode cX8_feed 43 = .ok (.isub, 1) := dc_100 (lxX8_feed 2 11 rfl)
set_option maxRecDepth 20000 in
theorem dX8_feed_44 : decode cX8_feed 44 = .ok (.sipush 160, 3) := dc_17 0 160 (lxX8_feed 2 12 rfl) (lxX8_feed 2 13 rfl) (lxX8_feed 2 14 rfl)
set_option maxRecDepth 20000 in
theorem dX8_feed_47 : decode cX8_feed 47 = .ok (.aload_n 0, 1) := dc_42 (lxX8_feed 2 15 rfl)
set_option maxRecDepth 20000 in
theorem dX8_feed_48 : decode cX8_feed 48 = .ok (.getfield 129, 3) := dc_180 0 129 (lxX8_feed 3 0 rfl) (lxX8_feed 3 1 rfl) (lxX8_feed 3 2 rfl)
set_option maxRecDepth 20000 in
theorem dX8_feed_51 : decode cX8_feed 51 = .ok (.isub, 1) := dc_100 (lxX8_feed 3 3 rfl)
set_option maxRecDepth 20000 in
theorem dX8_feed_52 : decode cX8_feed 52 = .ok (.invokestatic 97, 3) := dc_184 0 97 (lxX8_feed 3 4 rfl) (lxX8_feed 3 5 rfl) (lxX8_feed 3 6 rfl)
set_option maxRecDepth 20000 in
theorem dX8_feed_55 : decode cX8_feed 55 = .ok (.invokestatic 97, 3) := dc_184 0 97 (lxX8_feed 3 7 rfl) (lxX8_feed 3 8 rfl) (lxX8_feed 3 9 rfl)
set_option maxRecDepth 20000 in
theorem dX8_feed_58 : decode cX8_feed 58 = .ok (.istore_n 3, 1) := dc_62 (lxX8_feed 3 10 rfl)
set_option maxRecDepth 20000 in
theorem dX8_feed_59 : decode cX8_feed 59 = .ok (.iconst 0, 1) := dc_3 (lxX8_feed 3 11 rfl)
set_option maxRecDepth 20000 in
theorem dX8_feed_60 : decode cX8_feed 60 = .ok (.istore 4, 2) := dc_54 4 (lxX8_feed 3 12 rfl) (lxX8_feed 3 13 rfl)
set_option maxRecDepth 20000 in
theorem dX8_feed_62 : decode cX8_feed 62 = .ok (.iload 4, 2) := dc_21 4 (lxX8_feed 3 14 rfl) (lxX8_feed 3 15 rfl)
set_option maxRecDepth 20000 in
theorem dX8_feed_64 : decode cX8_feed 64 = .ok (.iload_n 3, 1) := dc_29 (lxX8_feed 4 0 rfl)
set_option maxRecDepth 20000 in
theorem dX8_feed_65 : decode cX8_feed 65 = .ok (.if_icmp .ge 31, 3) := dc_162 0 31 (lxX8_feed 4 1 rfl) (lxX8_feed 4 2 rfl) (lxX8_feed 4 3 rfl)
set_option maxRecDepth 20000 in
theorem dX8_feed_68 : decode cX8_feed 68 = .ok (.aload_n 0, 1) := dc_42 (lxX8_feed 4 4 rfl)
set_option maxRecDepth 20000 in
theorem dX8_feed_69 : decode cX8_feed 69 = .ok (.getfield 24, 3) := dc_180 0 24 (lxX8_feed 4 5 rfl) (lxX8_feed 4 6 rfl) (lxX8_feed 4 7 rfl)
set_option maxRecDepth 20000 in
theorem dX8_feed_72 : decode cX8_feed 72 = .ok (.aload_n 0, 1) := dc_42 (lxX8_feed 4 8 rfl)
set_option maxRecDepth 20000 in
theorem dX8_feed_73 : decode cX8_feed 73 = .ok (.dup, 1) := dc_89 (lxX8_feed 4 9 rfl)
set_option maxRecDepth 20000 in
theorem dX8_feed_74 : decode cX8_feed 74 = .ok (.getfield 129, 3) := dc_180 0 129 (lxX8_feed 4 10 rfl) (lxX8_feed 4 11 rfl) (lxX8_feed 4 12 rfl)
set_option maxRecDepth 20000 in
theorem dX8_feed_77 : decode cX8_feed 77 = .ok (.dup_x1, 1) := dc_90 (lxX8_feed 4 13 rfl)
set_option maxRecDepth 20000 in
theorem dX8_feed_78 : decode cX8_feed 78 = .ok (.iconst 1, 1) := dc_4 (lxX8_feed 4 14 rfl)
set_option maxRecDepth 20000 in
theorem dX8_feed_79 : decode cX8_feed 79 = .ok (.iadd, 1) := dc_96 (lxX8_feed 4 15 rfl)
set_option maxRecDepth 20000 in
theorem dX8_feed_80 : decode cX8_feed 80 = .ok (.putfield 129, 3) := dc_181 0 129 (lxX8_feed 5 0 rfl) (lxX8_feed 5 1 rfl) (lxX8_feed 5 2 rfl)
set_option maxRecDepth 20000 in
theorem dX8_feed_83 : decode cX8_feed 83 = .ok (.iload_n 1, 1) := dc_27 (lxX8_feed 5 3 rfl)
set_option maxRecDepth 20000 in
theorem dX8_feed_84 : decode cX8_feed 84 = .ok (.iload 4, 2) := dc_21 4 (lxX8_feed 5 4 rfl) (lxX8_feed 5 5 rfl)
set_option maxRecDepth 20000 in
theorem dX8_feed_86 : decode cX8_feed 86 = .ok (.invokestatic 103, 3) := dc_184 0 103 (lxX8_feed 5 6 rfl) (lxX8_feed 5 7 rfl) (lxX8_feed 5 8 rfl)
set_option maxRecDepth 20000 in
theorem dX8_feed_89 : decode cX8_feed 89 = .ok (.iastore, 1) := dc_79 (lxX8_feed 5 9 rfl)
set_option maxRecDepth 20000 in
theorem dX8_feed_90 : decode cX8_feed 90 = .ok (.iinc 4 1, 3) := dc_132 4 1 (lxX8_feed 5 10 rfl) (lxX8_feed 5 11 rfl) (lxX8_feed 5 12 rfl)
set_option maxRecDepth 20000 in
theorem dX8_feed_93 : decode cX8_feed 93 = .ok (.goto (-31), 3) := dc_167 255 225 (lxX8_feed 5 13 rfl) (lxX8_feed 5 14 rfl) (lxX8_feed 5 15 rfl)
set_option maxRecDepth 20000 in
theorem dX8_feed_96 : decode cX8_feed 96 = .ok (.aload_n 0, 1) := dc_42 (lxX8_feed 6 0 rfl)
set_option maxRecDepth 20000 in
theorem dX8_feed_97 : decode cX8_feed 97 = .ok (.iload_n 3, 1) := dc_29 (lxX8_feed 6 1 rfl)
set_option maxRecDepth 20000 in
theorem dX8_feed_98 : decode cX8_feed 98 = .ok (.invokevirtual 62, 3) := dc_182 0 62 (lxX8_feed 6 2 rfl) (lxX8_feed 6 3 rfl) (lxX8_feed 6 4 rfl)
set_option maxRecDepth 20000 in
theorem dX8_feed_101 : decode cX8_feed 101 = .ok (.ireturn, 1) := dc_172 (lxX8_feed 6 5 rfl)
def lb_sgX8_drain : List (List UInt8) := [[42, 27, 3, 16, 8, 184, 0, 41, 3, 182, 0, 81, 153, 0, 6, 18], [109, 176, 42, 180, 0, 132, 61, 42, 89, 180, 0, 132, 27, 42, 180, 0], [129, 42, 180, 0, 132, 100, 184, 0, 97, 96, 181, 0, 132, 42, 3, 182], [0, 62, 87, 42, 180, 0, 24, 28, 42, 180, 0, 132, 184, 0, 111, 176]]
set_option maxRecDepth 100000 in
theorem lb_seX8_drain : cX8_drain.data.toList = lb_sgX8_drain.flatten := by decide +kernel
theorem lb_lnX8_drain : ∀ s ∈ lb_sgX8_drain.dropLast, s.length = 16 := by decide +kernel
theorem lxX8_drain (k j : Nat) {b : UInt8} (h : (lb_sgX8_drain[k]?).bind (fun s => s[j]?) = some b) : lb_at cX8_drain (16 * k + j) b := by
  unfold lb_at
  rw [lb_seX8_drain]
  exact lb_flat 16 lb_sgX8_drain k j b lb_lnX8_drain h
set_option maxRecDepth 20000 in
theorem dX8_drain_0 : decode cX8_drain 0 = .ok (.aload_n 0, 1) := dc_42 (lxX8_drain 0 0 rfl)
set_option maxRecDepth 20000 in
theorem dX8_drain_1 : decode cX8_drain 1 = .ok (.iload_n 1, 1) := dc_27 (lxX8_drain 0 1 rfl)
set_option maxRecDepth 20000 in
theorem dX8_drain_2 : decode cX8_drain 2 = .ok (.iconst 0, 1) := dc_3 (lxX8_drain 0 2 rfl)
set_option maxRecDepth 20000 in
theorem dX8_drain_3 : decode cX8_drain 3 = .ok (.bipush 8, 2) := dc_16 8 (lxX8_drain 0 3 rfl) (lxX8_drain 0 4 rfl)
set_option maxRecDepth 20000 in
theorem dX8_drain_5 : decode cX8_drain 5 = .ok (.invokestatic 41, 3) := dc_184 0 41 (lxX8_drain 0 5 rfl) (lxX8_drain 0 6 rfl) (lxX8_drain 0 7 rfl)
set_option maxRecDepth 20000 in
theorem dX8_drain_8 : decode cX8_drain 8 = .ok (.iconst 0, 1) := dc_3 (lxX8_drain 0 8 rfl)
set_option maxRecDepth 20000 in
theorem dX8_drain_9 : decode cX8_drain 9 = .ok (.invokevirtual 81, 3) := dc_182 0 81 (lxX8_drain 0 9 rfl) (lxX8_drain 0 10 rfl) (lxX8_drain 0 11 rfl)
set_option maxRecDepth 20000 in
theorem dX8_drain_12 : decode cX8_drain 12 = .ok (.ifCond .eq 6, 3) := dc_153 0 6 (lxX8_drain 0 12 rfl) (lxX8_drain 0 13 rfl) (lxX8_drain 0 14 rfl)
set_option maxRecDepth 20000 in
theorem dX8_drain_15 : decode cX8_drain 15 = .ok (.ldc 109, 2) := dc_18 109 (lxX8_drain 0 15 rfl) (lxX8_drain 1 0 rfl)
set_option maxRecDepth 20000 in
theorem dX8_drain_17 : decode cX8_drain 17 = .ok (.areturn, 1) := dc_176 (lxX8_drain 1 1 rfl)
set_option maxRecDepth 20000 in
theorem dX8_drain_18 : decode cX8_drain 18 = .ok (.aload_n 0, 1) := dc_42 (lxX8_drain 1 2 rfl)
set_option maxRecDepth 20000 in
theorem dX8_drain_19 : decode cX8_drain 19 = .ok (.getfield 132, 3) := dc_180 0 132 (lxX8_drain 1 3 rfl) (lxX8_drain 1 4 rfl) (lxX8_drain 1 5 rfl)
set_option maxRecDepth 20000 in
theorem dX8_drain_22 : decode cX8_drain 22 = .ok (.istore_n 2, 1) := dc_61 (lxX8_drain 1 6 rfl)
set_option maxRecDepth 20000 in
theorem dX8_drain_23 : decode cX8_drain 23 = .ok (.aload_n 0, 1) := dc_42 (lxX8_drain 1 7 rfl)
set_option maxRecDepth 20000 in
theorem dX8_drain_24 : decode cX8_drain 24 = .ok (.dup, 1) := dc_89 (lxX8_drain 1 8 rfl)
set_option maxRecDepth 20000 in
theorem dX8_drain_25 : decode cX8_drain 25 = .ok (.getfield 132, 3) := dc_180 0 132 (lxX8_drain 1 9 rfl) (lxX8_drain 1 10 rfl) (lxX8_drain 1 11 rfl)
set_option maxRecDepth 20000 in
theorem dX8_drain_28 : decode cX8_drain 28 = .ok (.iload_n 1, 1) := dc_27 (lxX8_drain 1 12 rfl)
set_option maxRecDepth 20000 in
theorem dX8_drain_29 : decode cX8_drain 29 = .ok (.aload_n 0, 1) := dc_42 (lxX8_drain 1 13 rfl)
set_option maxRecDepth 20000 in
theorem dX8_drain_30 : decode cX8_drain 30 = .ok (.getfield 129, 3) := dc_180 0 129 (lxX8_drain 1 14 rfl) (lxX8_drain 1 15 rfl) (lxX8_drain 2 0 rfl)
set_option maxRecDepth 20000 in
theorem dX8_drain_33 : decode cX8_drain 33 = .ok (.aload_n 0, 1) := dc_42 (lxX8_drain 2 1 rfl)
set_option maxRecDepth 20000 in
theorem dX8_drain_34 : decode cX8_drain 34 = .ok (.getfield 132, 3) := dc_180 0 132 (lxX8_drain 2 2 rfl) (lxX8_drain 2 3 rfl) (lxX8_drain 2 4 rfl)
set_option maxRecDepth 20000 in
theorem dX8_drain_37 : decode cX8_drain 37 = .ok (.isub, 1) := dc_100 (lxX8_drain 2 5 rfl)
set_option maxRecDepth 20000 in
theorem dX8_drain_38 : decode cX8_drain 38 = .ok (.invokestatic 97, 3) := dc_184 0 97 (lxX8_drain 2 6 rfl) (lxX8_drain 2 7 rfl) (lxX8_drain 2 8 rfl)
set_option maxRecDepth 20000 in
theorem dX8_drain_41 : decode cX8_drain 41 = .ok (.iadd, 1) := dc_96 (lxX8_drain 2 9 rfl)
set_option maxRecDepth 20000 in
theorem dX8_drain_42 : decode cX8_drain 42 = .ok (.putfield 132, 3) := dc_181 0 132 (lxX8_drain 2 10 rfl) (lxX8_drain 2 11 rfl) (lxX8_drain 2 12 rfl)
set_option maxRecDepth 20000 in
theorem dX8_drain_45 : decode cX8_drain 45 = .ok (.aload_n 0, 1) := dc_42 (lxX8_drain 2 13 rfl)
set_option maxRecDepth 20000 in
theorem dX8_drain_46 : decode cX8_drain 46 = .ok (.iconst 0, 1) := dc_3 (lxX8_drain 2 14 rfl)
set_option maxRecDepth 20000 in
theorem dX8_drain_47 : decode cX8_drain 47 = .ok (.invokevirtual 62, 3) := dc_182 0 62 (lxX8_drain 2 15 rfl) (lxX8_drain 3 0 rfl) (lxX8_drain 3 1 rfl)
set_option maxRecDepth 20000 in
theorem dX8_drain_50 : decode cX8_drain 50 = .ok (.pop, 1) := dc_87 (lxX8_drain 3 2 rfl)
set_option maxRecDepth 20000 in
theorem dX8_drain_51 : decode cX8_drain 51 = .ok (.aload_n 0, 1) := dc_42 (lxX8_drain 3 3 rfl)
set_option maxRecDepth 20000 in
theorem dX8_drain_52 : decode cX8_drain 52 = .ok (.getfield 24, 3) := dc_180 0 24 (lxX8_drain 3 4 rfl) (lxX8_drain 3 5 rfl) (lxX8_drain 3 6 rfl)
set_option maxRecDepth 20000 in
theorem dX8_drain_55 : decode cX8_drain 55 = .ok (.iload_n 2, 1) := dc_28 (lxX8_drain 3 7 rfl)
set_option maxRecDepth 20000 in
theorem dX8_drain_56 : decode cX8_drain 56 = .ok (.aload_n 0, 1) := dc_42 (lxX8_drain 3 8 rfl)
set_option maxRecDepth 20000 in
theorem dX8_drain_57 : decode cX8_drain 57 = .ok (.getfield 132, 3) := dc_180 0 132 (lxX8_drain 3 9 rfl) (lxX8_drain 3 10 rfl) (lxX8_drain 3 11 rfl)
set_option maxRecDepth 20000 in
theorem dX8_drain_60 : decode cX8_drain 60 = .ok (.invokestatic 111, 3) := dc_184 0 111 (lxX8_drain 3 12 rfl) (lxX8_drain 3 13 rfl) (lxX8_drain 3 14 rfl)
set_option maxRecDepth 20000 in
theorem dX8_drain_63 : decode cX8_drain 63 = .ok (.areturn, 1) := dc_176 (lxX8_drain 3 15 rfl)
