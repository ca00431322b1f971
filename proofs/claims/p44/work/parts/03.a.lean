theorem goodIn_s {big : List Cond} {sg : List (List Cond)} (he : sg.flatten = big) (ws : List Cond) (ps : List (Nat × Nat)) (hp : ws = ps.filterMap (fun p => (sg[p.1]?).bind (fun s => s[p.2]?))) (h : ws.all goodWord = true) : GoodIn big ws := by
  intro w hw
  have h1 := List.all_eq_true.mp h w hw
  rw [hp] at hw
  obtain ⟨i, -, hi⟩ := List.mem_filterMap.mp hw
  obtain ⟨s, hs, hj⟩ := Option.bind_eq_some_iff.mp hi
  refine ⟨?_, good_of_word h1⟩
  rw [← he]
  exact List.mem_flatten.mpr ⟨s, List.mem_of_getElem? hs, List.mem_of_getElem? hj⟩
/-! the law's instructions, read by segments of its code -/
theorem lb_flat {α : Type} (n : Nat) : ∀ (sg : List (List α)) (k j : Nat) (b : α), (∀ s ∈ sg.dropLast, s.length = n) → (sg[k]?).bind (fun s => s[j]?) = some b → sg.flatten[n * k + j]? = some b
  | [], k, j, b, _, h => by simp at h
  | s :: t, 0, j, b, _, h => by
    have h : s[j]? = some b := by simpa using h
    have hj : j < s.length := (List.getElem?_eq_some_iff.mp h).1
    rw [Nat.mul_zero, Nat.zero_add, List.flatten_cons, List.getElem?_append_left hj]
    exact h
  | s :: t, k + 1, j, b, hl, h => by
    have h : (t[k]?).bind (fun s => s[j]?) = some b := by simpa using h
    have ht : t ≠ [] := fun e => by
      rw [e] at h
      simp at h
    have hs : s.length = n := hl s (by
      cases t with
      | nil => exact absurd rfl ht
      | cons a r => exact List.mem_cons_self)
    have h2 := lb_flat n t k j b (fun x hx => hl x (by
      cases t with
      | nil => exact absurd rfl ht
      | cons a r => exact List.mem_cons_of_mem _ hx)) h
    have e : n * (k + 1) + j = s.length + (n * k + j) := by rw [hs, Nat.mul_add]; omega
    rw [e, List.flatten_cons, List.getElem?_append_right (by omega)]
    rw [show s.length + (n * k + j) - s.length = n * k + j by omega]
    exact h2
def lb_at (code : ByteArray) (p : Nat) (b : UInt8) : Prop := code.data.toList[p]? = some b
theorem u1_at {code : ByteArray} {p : Nat} {b : UInt8} (h : lb_at code p b) : (Reader.u1 : Decoder Nat).runAt code p = .ok (b.toNat, p + 1) := by
  obtain ⟨hp, hb⟩ := List.getElem?_eq_some_iff.mp h
  have hp2 : p < code.size := hp
  have hb2 : code[p] = b := hb
  show (if h : p < code.size then (do set (p + 1); pure code[p].toNat : Decoder Nat) else throw (HasTruncated.truncated p)).runAt code p = _
  rw [dif_pos hp2, hb2]
  rfl
theorem rd_bind {α β : Type} {m : Decoder α} {f : α → Decoder β} {code : ByteArray} {p s : Nat} {x : α} {r : Except DecodeError (β × Nat)} (h : m.runAt code p = .ok (x, s)) (h2 : (f x).runAt code s = r) : (m >>= f).runAt code p = r := by
  have e : (m >>= f).runAt code p = Except.bind (m.runAt code p) (fun v => (f v.1).runAt code v.2) := rfl
  rw [e, h]
  exact h2
theorem rd_map {α β : Type} {m : Decoder α} {f : α → β} {code : ByteArray} {p s : Nat} {x : α} (h : m.runAt code p = .ok (x, s)) : (f <$> m).runAt code p = .ok (f x, s) := by
  have e : (f <$> m).runAt code p = (fun v : α × Nat => (f v.1, v.2)) <$> (m.runAt code p) := rfl
  rw [e, h]
  rfl
theorem u2_at {code : ByteArray} {p : Nat} {a b : UInt8} (h : lb_at code p a) (h2 : lb_at code (p + 1) b) : (Reader.u2 : Decoder Nat).runAt code p = .ok (a.toNat * 256 + b.toNat, p + 2) := rd_bind (u1_at h) (rd_bind (u1_at h2) rfl)
theorem s1_at {code : ByteArray} {p : Nat} {a : UInt8} (h : lb_at code p a) : (Reader.s1 : Decoder Int).runAt code p = .ok (Reader.signed 8 a.toNat, p + 1) := rd_map (u1_at h)
theorem s2_at {code : ByteArray} {p : Nat} {a b : UInt8} (h : lb_at code p a) (h2 : lb_at code (p + 1) b) : (Reader.s2 : Decoder Int).runAt code p = .ok (Reader.signed 16 (a.toNat * 256 + b.toNat), p + 2) := rd_map (u2_at h h2)
theorem dc_of {code : ByteArray} {pc n : Nat} {i : Instr} (h : (Decoder.instr pc).runAt code pc = .ok (i, pc + n)) : decode code pc = .ok (i, n) := by
  have e : decode code pc = Except.bind ((Decoder.instr pc).runAt code pc) (fun v => Except.ok (v.1, v.2 - pc)) := rfl
  rw [e, h]
  show Except.ok (i, pc + n - pc) = _
  rw [Nat.add_sub_cancel_left]
theorem dc_1 {code : ByteArray} {pc : Nat} (h : lb_at code pc 1) : decode code pc = .ok (.aconst_null, 1) := dc_of (rd_bind (u1_at h) rfl)
theorem dc_2 {code : ByteArray} {pc : Nat} (h : lb_at code pc 2) : decode code pc = .ok (.iconst (-1), 1) := dc_of (rd_bind (u1_at h) rfl)
theorem dc_3 {code : ByteArray} {pc : Nat} (h : lb_at code pc 3) : decode code pc = .ok (.iconst 0, 1) := dc_of (rd_bind (u1_at h) rfl)
theorem dc_4 {code : ByteArray} {pc : Nat} (h : lb_at code pc 4) : decode code pc = .ok (.iconst 1, 1) := dc_of (rd_bind (u1_at h) rfl)
theorem dc_5 {code : ByteArray} {pc : Nat} (h : lb_at code pc 5) : decode code pc = .ok (.iconst 2, 1) := dc_of (rd_bind (u1_at h) rfl)
theorem dc_6 {code : ByteArray} {pc : Nat} (h : lb_at code pc 6) : decode code pc = .ok (.iconst 3, 1) := dc_of (rd_bind (u1_at h) rfl)
theorem dc_7 {code : ByteArray} {pc : Nat} (h : lb_at code pc 7) : decode code pc = .ok (.iconst 4, 1) := dc_of (rd_bind (u1_at h) rfl)
theorem dc_8 {code : ByteArray} {pc : Nat} (h : lb_at code pc 8) : decode code pc = .ok (.iconst 5, 1) := dc_of (rd_bind (u1_at h) rfl)
theorem dc_9 {code : ByteArray} {pc : Nat} (h : lb_at code pc 9) : decode code pc = .ok (.lconst 0, 1) := dc_of (rd_bind (u1_at h) rfl)
theorem dc_10 {code : ByteArray} {pc : Nat} (h : lb_at code pc 10) : decode code pc = .ok (.lconst 1, 1) := dc_of (rd_bind (u1_at h) rfl)
theorem dc_16 {code : ByteArray} {pc : Nat} (a : UInt8) (h : lb_at code pc 16) (ha : lb_at code (pc + 1) a) : decode code pc = .ok (.bipush (Reader.signed 8 a.toNat), 2) := dc_of (rd_bind (u1_at h) (rd_bind (s1_at ha) rfl))
theorem dc_17 {code : ByteArray} {pc : Nat} (a b : UInt8) (h : lb_at code pc 17) (ha : lb_at code (pc + 1) a) (hb : lb_at code (pc + 2) b) : decode code pc = .ok (.sipush (Reader.signed 16 (a.toNat * 256 + b.toNat)), 3) := dc_of (rd_bind (u1_at h) (rd_bind (s2_at ha hb) rfl))
theorem dc_18 {code : ByteArray} {pc : Nat} (a : UInt8) (h : lb_at code pc 18) (ha : lb_at code (pc + 1) a) : decode code pc = .ok (.ldc a.toNat, 2) := dc_of (rd_bind (u1_at h) (rd_bind (u1_at ha) rfl))
theorem dc_19 {code : ByteArray} {pc : Nat} (a b : UInt8) (h : lb_at code pc 19) (ha : lb_at code (pc + 1) a) (hb : lb_at code (pc + 2) b) : decode code pc = .ok (.ldc_w (a.toNat * 256 + b.toNat), 3) := dc_of (rd_bind (u1_at h) (rd_bind (u2_at ha hb) rfl))
theorem dc_20 {code : ByteArray} {pc : Nat} (a b : UInt8) (h : lb_at code pc 20) (ha : lb_at code (pc + 1) a) (hb : lb_at code (pc + 2) b) : decode code pc = .ok (.ldc2_w (a.toNat * 256 + b.toNat), 3) := dc_of (rd_bind (u1_at h) (rd_bind (u2_at ha hb) rfl))
theorem dc_21 {code : ByteArray} {pc : Nat} (a : UInt8) (h : lb_at code pc 21) (ha : lb_at code (pc + 1) a) : decode code pc = .ok (.iload a.toNat, 2) := dc_of (rd_bind (u1_at h) (rd_bind (u1_at ha) rfl))
theorem dc_22 {code : ByteArray} {pc : Nat} (a : UInt8) (h : lb_at code pc 22) (ha : lb_at code (pc + 1) a) : decode code pc = .ok (.lload a.toNat, 2) := dc_of (rd_bind (u1_at h) (rd_bind (u1_at ha) rfl))
theorem dc_25 {code : ByteArray} {pc : Nat} (a : UInt8) (h : lb_at code pc 25) (ha : lb_at code (pc + 1) a) : decode code pc = .ok (.aload a.toNat, 2) := dc_of (rd_bind (u1_at h) (rd_bind (u1_at ha) rfl))
theorem dc_26 {code : ByteArray} {pc : Nat} (h : lb_at code pc 26) : decode code pc = .ok (.iload_n 0, 1) := dc_of (rd_bind (u1_at h) rfl)
theorem dc_27 {code : ByteArray} {pc : Nat} (h : lb_at code pc 27) : decode code pc = .ok (.iload_n 1, 1) := dc_of (rd_bind (u1_at h) rfl)
theorem dc_28 {code : ByteArray} {pc : Nat} (h : lb_at code pc 28) : decode code pc = .ok (.iload_n 2, 1) := dc_of (rd_bind (u1_at h) rfl)
theorem dc_29 {code : ByteArray} {pc : Nat} (h : lb_at code pc 29) : decode code pc = .ok (.iload_n 3, 1) := dc_of (rd_bind (u1_at h) rfl)
theorem dc_30 {code : ByteArray} {pc : Nat} (h : lb_at code pc 30) : decode code pc = .ok (.lload_n 0, 1) := dc_of (rd_bind (u1_at h) rfl)
theorem dc_31 {code : ByteArray} {pc : Nat} (h : lb_at code pc 31) : decode code pc = .ok (.lload_n 1, 1) := dc_of (rd_bind (u1_at h) rfl)
theorem dc_32 {code : ByteArray} {pc : Nat} (h : lb_at code pc 32) : decode code pc = .ok (.lload_n 2, 1) := dc_of (rd_bind (u1_at h) rfl)
theorem dc_33 {code : ByteArray} {pc : Nat} (h : lb_at code pc 33) : decode code pc = .ok (.lload_n 3, 1) := dc_of (rd_bind (u1_at h) rfl)
theorem dc_42 {code : ByteArray} {pc : Nat} (h : lb_at code pc 42) : decode code pc = .ok (.aload_n 0, 1) := dc_of (rd_bind (u1_at h) rfl)
theorem dc_43 {code : ByteArray} {pc : Nat} (h : lb_at code pc 43) : decode code pc = .ok (.aload_n 1, 1) := dc_of (rd_bind (u1_at h) rfl)
theorem dc_44 {code : ByteArray} {pc : Nat} (h : lb_at code pc 44) : decode code pc = .ok (.aload_n 2, 1) := dc_of (rd_bind (u1_at h) rfl)
theorem dc_45 {code : ByteArray} {pc : Nat} (h : lb_at code pc 45) : decode code pc = .ok (.aload_n 3, 1) := dc_of (rd_bind (u1_at h) rfl)
theorem dc_46 {code : ByteArray} {pc : Nat} (h : lb_at code pc 46) : decode code pc = .ok (.iaload, 1) := dc_of (rd_bind (u1_at h) rfl)
theorem dc_50 {code : ByteArray} {pc : Nat} (h : lb_at code pc 50) : decode code pc = .ok (.aaload, 1) := dc_of (rd_bind (u1_at h) rfl)
theorem dc_51 {code : ByteArray} {pc : Nat} (h : lb_at code pc 51) : decode code pc = .ok (.baload, 1) := dc_of (rd_bind (u1_at h) rfl)
theorem dc_52 {code : ByteArray} {pc : Nat} (h : lb_at code pc 52) : decode code pc = .ok (.caload, 1) := dc_of (rd_bind (u1_at h) rfl)
theorem dc_54 {code : ByteArray} {pc : Nat} (a : UInt8) (h : lb_at code pc 54) (ha : lb_at code (pc + 1) a) : decode code pc = .ok (.istore a.toNat, 2) := dc_of (rd_bind (u1_at h) (rd_bind (u1_at ha) rfl))
theorem dc_55 {code : ByteArray} {pc : Nat} (a : UInt8) (h : lb_at code pc 55) (ha : lb_at code (pc + 1) a) : decode code pc = .ok (.lstore a.toNat, 2) := dc_of (rd_bind (u1_at h) (rd_bind (u1_at ha) rfl))
theorem dc_58 {code : ByteArray} {pc : Nat} (a : UInt8) (h : lb_at code pc 58) (ha : lb_at code (pc + 1) a) : decode code pc = .ok (.astore a.toNat, 2) := dc_of (rd_bind (u1_at h) (rd_bind (u1_at ha) rfl))
theorem dc_59 {code : ByteArray} {pc : Nat} (h : lb_at code pc 59) : decode code pc = .ok (.istore_n 0, 1) := dc_of (rd_bind (u1_at h) rfl)
theorem dc_60 {code : ByteArray} {pc : Nat} (h : lb_at code pc 60) : decode code pc = .ok (.istore_n 1, 1) := dc_of (rd_bind (u1_at h) rfl)
theorem dc_61 {code : ByteArray} {pc : Nat} (h : lb_at code pc 61) : decode code pc = .ok (.istore_n 2, 1) := dc_of (rd_bind (u1_at h) rfl)
theorem dc_62 {code : ByteArray} {pc : Nat} (h : lb_at code pc 62) : decode code pc = .ok (.istore_n 3, 1) := dc_of (rd_bind (u1_at h) rfl)
theorem dc_64 {code : ByteArray} {pc : Nat} (h : lb_at code pc 64) : decode code pc = .ok (.lstore_n 1, 1) := dc_of (rd_bind (u1_at h) rfl)
theorem dc_66 {code : ByteArray} {pc : Nat} (h : lb_at code pc 66) : decode code pc = .ok (.lstore_n 3, 1) := dc_of (rd_bind (u1_at h) rfl)
theorem dc_76 {code : ByteArray} {pc : Nat} (h : lb_at code pc 76) : decode code pc = .ok (.astore_n 1, 1) := dc_of (rd_bind (u1_at h) rfl)
theorem dc_77 {code : ByteArray} {pc : Nat} (h : lb_at code pc 77) : decode code pc = .ok (.astore_n 2, 1) := dc_of (rd_bind (u1_at h) rfl)
theorem dc_78 {code : ByteArray} {pc : Nat} (h : lb_at code pc 78) : decode code pc = .ok (.astore_n 3, 1) := dc_of (rd_bind (u1_at h) rfl)
theorem dc_79 {code : ByteArray} {pc : Nat} (h : lb_at code pc 79) : decode code pc = .ok (.iastore, 1) := dc_of (rd_bind (u1_at h) rfl)
theorem dc_83 {code : ByteArray} {pc : Nat} (h : lb_at code pc 83) : decode code pc = .ok (.aastore, 1) := dc_of (rd_bind (u1_at h) rfl)
theorem dc_84 {code : ByteArray} {pc : Nat} (h : lb_at code pc 84) : decode code pc = .ok (.bastore, 1) := dc_of (rd_bind (u1_at h) rfl)
theorem dc_85 {code : ByteArray} {pc : Nat} (h : lb_at code pc 85) : decode code pc = .ok (.castore, 1) := dc_of (rd_bind (u1_at h) rfl)
theorem dc_87 {code : ByteArray} {pc : Nat} (h : lb_at code pc 87) : decode code pc = .ok (.pop, 1) := dc_of (rd_bind (u1_at h) rfl)
theorem dc_88 {code : ByteArray} {pc : Nat} (h : lb_at code pc 88) : decode code pc = .ok (.pop2, 1) := dc_of (rd_bind (u1_at h) rfl)
theorem dc_89 {code : ByteArray} {pc : Nat} (h : lb_at code pc 89) : decode code pc = .ok (.dup, 1) := dc_of (rd_bind (u1_at h) rfl)
theorem dc_90 {code : ByteArray} {pc : Nat} (h : lb_at code pc 90) : decode code pc = .ok (.dup_x1, 1) := dc_of (rd_bind (u1_at h) rfl)
theorem dc_91 {code : ByteArray} {pc : Nat} (h : lb_at code pc 91) : decode code pc = .ok (.dup_x2, 1) := dc_of (rd_bind (u1_at h) rfl)
theorem dc_92 {code : ByteArray} {pc : Nat} (h : lb_at code pc 92) : decode code pc = .ok (.dup2, 1) := dc_of (rd_bind (u1_at h) rfl)
theorem dc_96 {code : ByteArray} {pc : Nat} (h : lb_at code pc 96) : decode code pc = .ok (.iadd, 1) := dc_of (rd_bind (u1_at h) rfl)
theorem dc_97 {code : ByteArray} {pc : Nat} (h : lb_at code pc 97) : decode code pc = .ok (.ladd, 1) := dc_of (rd_bind (u1_at h) rfl)
theorem dc_100 {code : ByteArray} {pc : Nat} (h : lb_at code pc 100) : decode code pc = .ok (.isub, 1) := dc_of (rd_bind (u1_at h) rfl)
theorem dc_104 {code : ByteArray} {pc : Nat} (h : lb_at code pc 104) : decode code pc = .ok (.imul, 1) := dc_of (rd_bind (u1_at h) rfl)
theorem dc_105 {code : ByteArray} {pc : Nat} (h : lb_at code pc 105) : decode code pc = .ok (.lmul, 1) := dc_of (rd_bind (u1_at h) rfl)
theorem dc_108 {code : ByteArray} {pc : Nat} (h : lb_at code pc 108) : decode code pc = .ok (.idiv, 1) := dc_of (rd_bind (u1_at h) rfl)
theorem dc_112 {code : ByteArray} {pc : Nat} (h : lb_at code pc 112) : decode code pc = .ok (.irem, 1) := dc_of (rd_bind (u1_at h) rfl)
theorem dc_116 {code : ByteArray} {pc : Nat} (h : lb_at code pc 116) : decode code pc = .ok (.ineg, 1) := dc_of (rd_bind (u1_at h) rfl)
theorem dc_120 {code : ByteArray} {pc : Nat} (h : lb_at code pc 120) : decode code pc = .ok (.ishl, 1) := dc_of (rd_bind (u1_at h) rfl)
theorem dc_122 {code : ByteArray} {pc : Nat} (h : lb_at code pc 122) : decode code pc = .ok (.ishr, 1) := dc_of (rd_bind (u1_at h) rfl)
theorem dc_124 {code : ByteArray} {pc : Nat} (h : lb_at code pc 124) : decode code pc = .ok (.iushr, 1) := dc_of (rd_bind (u1_at h) rfl)
theorem dc_126 {code : ByteArray} {pc : Nat} (h : lb_at code pc 126) : decode code pc = .ok (.iand, 1) := dc_of (rd_bind (u1_at h) rfl)
theorem dc_128 {code : ByteArray} {pc : Nat} (h : lb_at code pc 128) : decode code pc = .ok (.ior, 1) := dc_of (rd_bind (u1_at h) rfl)
theorem dc_132 {code : ByteArray} {pc : Nat} (a b : UInt8) (h : lb_at code pc 132) (ha : lb_at code (pc + 1) a) (hb : lb_at code (pc + 2) b) : decode code pc = .ok (.iinc a.toNat (Reader.signed 8 b.toNat), 3) := dc_of (rd_bind (u1_at h) (rd_bind (u1_at ha) (rd_bind (s1_at hb) rfl)))
theorem dc_133 {code : ByteArray} {pc : Nat} (h : lb_at code pc 133) : decode code pc = .ok (.i2l, 1) := dc_of (rd_bind (u1_at h) rfl)
theorem dc_145 {code : ByteArray} {pc : Nat} (h : lb_at code pc 145) : decode code pc = .ok (.i2b, 1) := dc_of (rd_bind (u1_at h) rfl)
theorem dc_146 {code : ByteArray} {pc : Nat} (h : lb_at code pc 146) : decode code pc = .ok (.i2c, 1) := dc_of (rd_bind (u1_at h) rfl)
theorem dc_148 {code : ByteArray} {pc : Nat} (h : lb_at code pc 148) : decode code pc = .ok (.lcmp, 1) := dc_of (rd_bind (u1_at h) rfl)
theorem dc_153 {code : ByteArray} {pc : Nat} (a b : UInt8) (h : lb_at code pc 153) (ha : lb_at code (pc + 1) a) (hb : lb_at code (pc + 2) b) : decode code pc = .ok (.ifCond .eq (Reader.signed 16 (a.toNat * 256 + b.toNat)), 3) := dc_of (rd_bind (u1_at h) (rd_bind (s2_at ha hb) rfl))
theorem dc_154 {code : ByteArray} {pc : Nat} (a b : UInt8) (h : lb_at code pc 154) (ha : lb_at code (pc + 1) a) (hb : lb_at code (pc + 2) b) : decode code pc = .ok (.ifCond .ne (Reader.signed 16 (a.toNat * 256 + b.toNat)), 3) := dc_of (rd_bind (u1_at h) (rd_bind (s2_at ha hb) rfl))
theorem dc_155 {code : ByteArray} {pc : Nat} (a b : UInt8) (h : lb_at code pc 155) (ha : lb_at code (pc + 1) a) (hb : lb_at code (pc + 2) b) : decode code pc = .ok (.ifCond .lt (Reader.signed 16 (a.toNat * 256 + b.toNat)), 3) := dc_of (rd_bind (u1_at h) (rd_bind (s2_at ha hb) rfl))
theorem dc_156 {code : ByteArray} {pc : Nat} (a b : UInt8) (h : lb_at code pc 156) (ha : lb_at code (pc + 1) a) (hb : lb_at code (pc + 2) b) : decode code pc = .ok (.ifCond .ge (Reader.signed 16 (a.toNat * 256 + b.toNat)), 3) := dc_of (rd_bind (u1_at h) (rd_bind (s2_at ha hb) rfl))
theorem dc_157 {code : ByteArray} {pc : Nat} (a b : UInt8) (h : lb_at code pc 157) (ha : lb_at code (pc + 1) a) (hb : lb_at code (pc + 2) b) : decode code pc = .ok (.ifCond .gt (Reader.signed 16 (a.toNat * 256 + b.toNat)), 3) := dc_of (rd_bind (u1_at h) (rd_bind (s2_at ha hb) rfl))
theorem dc_158 {code : ByteArray} {pc : Nat} (a b : UInt8) (h : lb_at code pc 158) (ha : lb_at code (pc + 1) a) (hb : lb_at code (pc + 2) b) : decode code pc = .ok (.ifCond .le (Reader.signed 16 (a.toNat * 256 + b.toNat)), 3) := dc_of (rd_bind (u1_at h) (rd_bind (s2_at ha hb) rfl))
theorem dc_159 {code : ByteArray} {pc : Nat} (a b : UInt8) (h : lb_at code pc 159) (ha : lb_at code (pc + 1) a) (hb : lb_at code (pc + 2) b) : decode code pc = .ok (.if_icmp .eq (Reader.signed 16 (a.toNat * 256 + b.toNat)), 3) := dc_of (rd_bind (u1_at h) (rd_bind (s2_at ha hb) rfl))
theorem dc_160 {code : ByteArray} {pc : Nat} (a b : UInt8) (h : lb_at code pc 160) (ha : lb_at code (pc + 1) a) (hb : lb_at code (pc + 2) b) : decode code pc = .ok (.if_icmp .ne (Reader.signed 16 (a.toNat * 256 + b.toNat)), 3) := dc_of (rd_bind (u1_at h) (rd_bind (s2_at ha hb) rfl))
theorem dc_161 {code : ByteArray} {pc : Nat} (a b : UInt8) (h : lb_at code pc 161) (ha : lb_at code (pc + 1) a) (hb : lb_at code (pc + 2) b) : decode code pc = .ok (.if_icmp .lt (Reader.signed 16 (a.toNat * 256 + b.toNat)), 3) := dc_of (rd_bind (u1_at h) (rd_bind (s2_at ha hb) rfl))
theorem dc_162 {code : ByteArray} {pc : Nat} (a b : UInt8) (h : lb_at code pc 162) (ha : lb_at code (pc + 1) a) (hb : lb_at code (pc + 2) b) : decode code pc = .ok (.if_icmp .ge (Reader.signed 16 (a.toNat * 256 + b.toNat)), 3) := dc_of (rd_bind (u1_at h) (rd_bind (s2_at ha hb) rfl))
theorem dc_163 {code : ByteArray} {pc : Nat} (a b : UInt8) (h : lb_at code pc 163) (ha : lb_at code (pc + 1) a) (hb : lb_at code (pc + 2) b) : decode code pc = .ok (.if_icmp .gt (Reader.signed 16 (a.toNat * 256 + b.toNat)), 3) := dc_of (rd_bind (u1_at h) (rd_bind (s2_at ha hb) rfl))
theorem dc_164 {code : ByteArray} {pc : Nat} (a b : UInt8) (h : lb_at code pc 164) (ha : lb_at code (pc + 1) a) (hb : lb_at code (pc + 2) b) : decode code pc = .ok (.if_icmp .le (Reader.signed 16 (a.toNat * 256 + b.toNat)), 3) := dc_of (rd_bind (u1_at h) (rd_bind (s2_at ha hb) rfl))
theorem dc_165 {code : ByteArray} {pc : Nat} (a b : UInt8) (h : lb_at code pc 165) (ha : lb_at code (pc + 1) a) (hb : lb_at code (pc + 2) b) : decode code pc = .ok (.if_acmp .eq (Reader.signed 16 (a.toNat * 256 + b.toNat)), 3) := dc_of (rd_bind (u1_at h) (rd_bind (s2_at ha hb) rfl))
theorem dc_167 {code : ByteArray} {pc : Nat} (a b : UInt8) (h : lb_at code pc 167) (ha : lb_at code (pc + 1) a) (hb : lb_at code (pc + 2) b) : decode code pc = .ok (.goto (Reader.signed 16 (a.toNat * 256 + b.toNat)), 3) := dc_of (rd_bind (u1_at h) (rd_bind (s2_at ha hb) rfl))
theorem dc_172 {code : ByteArray} {pc : Nat} (h : lb_at code pc 172) : decode code pc = .ok (.ireturn, 1) := dc_of (rd_bind (u1_at h) rfl)
theorem dc_173 {code : ByteArray} {pc : Nat} (h : lb_at code pc 173) : decode code pc = .ok (.lreturn, 1) := dc_of (rd_bind (u1_at h) rfl)
theorem dc_176 {code : ByteArray} {pc : Nat} (h : lb_at code pc 176) : decode code pc = .ok (.areturn, 1) := dc_of (rd_bind (u1_at h) rfl)
theorem dc_177 {code : ByteArray} {pc : Nat} (h : lb_at code pc 177) : decode code pc = .ok (.return_, 1) := dc_of (rd_bind (u1_at h) rfl)
theorem dc_178 {code : ByteArray} {pc : Nat} (a b : UInt8) (h : lb_at code pc 178) (ha : lb_at code (pc + 1) a) (hb : lb_at code (pc + 2) b) : decode code pc = .ok (.getstatic (a.toNat * 256 + b.toNat), 3) := dc_of (rd_bind (u1_at h) (rd_bind (u2_at ha hb) rfl))
theorem dc_180 {code : ByteArray} {pc : Nat} (a b : UInt8) (h : lb_at code pc 180) (ha : lb_at code (pc + 1) a) (hb : lb_at code (pc + 2) b) : decode code pc = .ok (.getfield (a.toNat * 256 + b.toNat), 3) := dc_of (rd_bind (u1_at h) (rd_bind (u2_at ha hb) rfl))
theorem dc_181 {code : ByteArray} {pc : Nat} (a b : UInt8) (h : lb_at code pc 181) (ha : lb_at code (pc + 1) a) (hb : lb_at code (pc + 2) b) : decode code pc = .ok (.putfield (a.toNat * 256 + b.toNat), 3) := dc_of (rd_bind (u1_at h) (rd_bind (u2_at ha hb) rfl))
theorem dc_182 {code : ByteArray} {pc : Nat} (a b : UInt8) (h : lb_at code pc 182) (ha : lb_at code (pc + 1) a) (hb : lb_at code (pc + 2) b) : decode code pc = .ok (.invokevirtual (a.toNat * 256 + b.toNat), 3) := dc_of (rd_bind (u1_at h) (rd_bind (u2_at ha hb) rfl))
theorem dc_183 {code : ByteArray} {pc : Nat} (a b : UInt8) (h : lb_at code pc 183) (ha : lb_at code (pc + 1) a) (hb : lb_at code (pc + 2) b) : decode code pc = .ok (.invokespecial (a.toNat * 256 + b.toNat), 3) := dc_of (rd_bind (u1_at h) (rd_bind (u2_at ha hb) rfl))
theorem dc_184 {code : ByteArray} {pc : Nat} (a b : UInt8) (h : lb_at code pc 184) (ha : lb_at code (pc + 1) a) (hb : lb_at code (pc + 2) b) : decode code pc = .ok (.invokestatic (a.toNat * 256 + b.toNat), 3) := dc_of (rd_bind (u1_at h) (rd_bind (u2_at ha hb) rfl))
theorem dc_187 {code : ByteArray} {pc : Nat} (a b : UInt8) (h : lb_at code pc 187) (ha : lb_at code (pc + 1) a) (hb : lb_at code (pc + 2) b) : decode code pc = .ok (.new (a.toNat * 256 + b.toNat), 3) := dc_of (rd_bind (u1_at h) (rd_bind (u2_at ha hb) rfl))
theorem dc_189 {code : ByteArray} {pc : Nat} (a b : UInt8) (h : lb_at code pc 189) (ha : lb_at code (pc + 1) a) (hb : lb_at code (pc + 2) b) : decode code pc = .ok (.anewarray (a.toNat * 256 + b.toNat), 3) := dc_of (rd_bind (u1_at h) (rd_bind (u2_at ha hb) rfl))
theorem dc_190 {code : ByteArray} {pc : Nat} (h : lb_at code pc 190) : decode code pc = .ok (.arraylength, 1) := dc_of (rd_bind (u1_at h) rfl)
theorem dc_191 {code : ByteArray} {pc : Nat} (h : lb_at code pc 191) : decode code pc = .ok (.athrow, 1) := dc_of (rd_bind (u1_at h) rfl)
theorem dc_192 {code : ByteArray} {pc : Nat} (a b : UInt8) (h : lb_at code pc 192) (ha : lb_at code (pc + 1) a) (hb : lb_at code (pc + 2) b) : decode code pc = .ok (.checkcast (a.toNat * 256 + b.toNat), 3) := dc_of (rd_bind (u1_at h) (rd_bind (u2_at ha hb) rfl))
theorem dc_199 {code : ByteArray} {pc : Nat} (a b : UInt8) (h : lb_at code pc 199) (ha : lb_at code (pc + 1) a) (hb : lb_at code (pc + 2) b) : decode code pc = .ok (.ifnonnull (Reader.signed 16 (a.toNat * 256 + b.toNat)), 3) := dc_of (rd_bind (u1_at h) (rd_bind (s2_at ha hb) rfl))
