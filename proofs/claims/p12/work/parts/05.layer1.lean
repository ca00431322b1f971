section ZR
variable {C : zC} {l0 : Launch} {Γ0 : zGam} {n0 : Nat} {own : String} {cc : ByteArray} {ws : List Cond} {d : Nat} {ret : Option FieldType} {Post : Option Value → zV → Prop} {V : zV} {kc ks pc : Nat} {lv : List (Nat × Value)} {rest : List Value}
theorem zr_bipush (X : zK C l0 Γ0 n0 own cc ws d ret Post) (n' : Nat) {n : Int} (v : Int) (hdg : decode cc pc = .ok (.bipush n, 2)) (hn : pc + 2 = n') (hv : (Int8.ofInt n).toInt32 = zI v) (kk : zG C V kc ks n' lv (.int (zI v) :: rest)) : zG C V kc ks pc lv (rest) := by
  obtain ⟨⟨p, l, e, R, s, m, args, below, meth, c⟩, Γ, ⟨nL, mc, ms⟩, Q⟩ := C
  subst hn
  intro H locs cells slots ls hV hS hl hc hs
  exact lv_bipush X.1 X.2.1 hdg hv (kk H locs cells slots ls hV hS hl hc hs)
theorem zr_sipush (X : zK C l0 Γ0 n0 own cc ws d ret Post) (n' : Nat) {n : Int} (v : Int) (hdg : decode cc pc = .ok (.sipush n, 3)) (hn : pc + 3 = n') (hv : (Int16.ofInt n).toInt32 = zI v) (kk : zG C V kc ks n' lv (.int (zI v) :: rest)) : zG C V kc ks pc lv (rest) := by
  obtain ⟨⟨p, l, e, R, s, m, args, below, meth, c⟩, Γ, ⟨nL, mc, ms⟩, Q⟩ := C
  subst hn
  intro H locs cells slots ls hV hS hl hc hs
  exact lv_sipush X.1 X.2.1 hdg hv (kk H locs cells slots ls hV hS hl hc hs)
theorem zr_lconst (X : zK C l0 Γ0 n0 own cc ws d ret Post) (n' : Nat) {n : Fin 2} {v : Int64} (hdg : decode cc pc = .ok (.lconst n, 1)) (hn : pc + 1 = n') (hv : Int64.ofNat (n : Nat) = v) (kk : zG C V kc ks n' lv (.long v :: rest)) : zG C V kc ks pc lv (rest) := by
  obtain ⟨⟨p, l, e, R, s, m, args, below, meth, c⟩, Γ, ⟨nL, mc, ms⟩, Q⟩ := C
  subst hn
  intro H locs cells slots ls hV hS hl hc hs
  exact lv_lconst X.1 X.2.1 hdg hv (kk H locs cells slots ls hV hS hl hc hs)
theorem zr_iload_n (X : zK C l0 Γ0 n0 own cc ws d ret Post) (n' : Nat) (q : Nat) {k : Fin 4} {x : Int32} (hdg : decode cc pc = .ok (.iload_n k, 1)) (hn : pc + 1 = n') (hlq : lv[q]? = some ((k : Nat), .int x)) (kk : zG C V kc ks n' lv (.int x :: rest)) : zG C V kc ks pc lv (rest) := by
  obtain ⟨⟨p, l, e, R, s, m, args, below, meth, c⟩, Γ, ⟨nL, mc, ms⟩, Q⟩ := C
  subst hn
  intro H locs cells slots ls hV hS hl hc hs
  exact lv_iload_n X.1 X.2.1 hdg rfl (lv_at ‹lv_has ls nL lv› q hlq) (kk H locs cells slots ls hV hS ‹lv_has ls nL lv› hc hs)
theorem zr_iload (X : zK C l0 Γ0 n0 own cc ws d ret Post) (n' : Nat) (q : Nat) {i : Nat} {x : Int32} (hdg : decode cc pc = .ok (.iload i, 2)) (hn : pc + 2 = n') (hlq : lv[q]? = some (i, .int x)) (kk : zG C V kc ks n' lv (.int x :: rest)) : zG C V kc ks pc lv (rest) := by
  obtain ⟨⟨p, l, e, R, s, m, args, below, meth, c⟩, Γ, ⟨nL, mc, ms⟩, Q⟩ := C
  subst hn
  intro H locs cells slots ls hV hS hl hc hs
  exact lv_iload X.1 X.2.1 hdg (lv_at ‹lv_has ls nL lv› q hlq) (kk H locs cells slots ls hV hS ‹lv_has ls nL lv› hc hs)
theorem zr_lload_n (X : zK C l0 Γ0 n0 own cc ws d ret Post) (n' : Nat) (q : Nat) {k : Fin 4} {x : Int64} (hdg : decode cc pc = .ok (.lload_n k, 1)) (hn : pc + 1 = n') (hlq : lv[q]? = some ((k : Nat), .long x)) (kk : zG C V kc ks n' lv (.long x :: rest)) : zG C V kc ks pc lv (rest) := by
  obtain ⟨⟨p, l, e, R, s, m, args, below, meth, c⟩, Γ, ⟨nL, mc, ms⟩, Q⟩ := C
  subst hn
  intro H locs cells slots ls hV hS hl hc hs
  exact lv_lload_n X.1 X.2.1 hdg rfl (lv_at ‹lv_has ls nL lv› q hlq) (kk H locs cells slots ls hV hS ‹lv_has ls nL lv› hc hs)
theorem zr_lload (X : zK C l0 Γ0 n0 own cc ws d ret Post) (n' : Nat) (q : Nat) {i : Nat} {x : Int64} (hdg : decode cc pc = .ok (.lload i, 2)) (hn : pc + 2 = n') (hlq : lv[q]? = some (i, .long x)) (kk : zG C V kc ks n' lv (.long x :: rest)) : zG C V kc ks pc lv (rest) := by
  obtain ⟨⟨p, l, e, R, s, m, args, below, meth, c⟩, Γ, ⟨nL, mc, ms⟩, Q⟩ := C
  subst hn
  intro H locs cells slots ls hV hS hl hc hs
  exact lv_lload X.1 X.2.1 hdg (lv_at ‹lv_has ls nL lv› q hlq) (kk H locs cells slots ls hV hS ‹lv_has ls nL lv› hc hs)
theorem zr_aload_n (X : zK C l0 Γ0 n0 own cc ws d ret Post) (n' : Nat) (q : Nat) {k : Fin 4} {x : Nat} (hdg : decode cc pc = .ok (.aload_n k, 1)) (hn : pc + 1 = n') (hlq : lv[q]? = some ((k : Nat), .ref x)) (kk : zG C V kc ks n' lv (.ref x :: rest)) : zG C V kc ks pc lv (rest) := by
  obtain ⟨⟨p, l, e, R, s, m, args, below, meth, c⟩, Γ, ⟨nL, mc, ms⟩, Q⟩ := C
  subst hn
  intro H locs cells slots ls hV hS hl hc hs
  exact lv_aload_n X.1 X.2.1 hdg rfl (lv_at ‹lv_has ls nL lv› q hlq) (kk H locs cells slots ls hV hS ‹lv_has ls nL lv› hc hs)
theorem zr_aload (X : zK C l0 Γ0 n0 own cc ws d ret Post) (n' : Nat) (q : Nat) {i : Nat} {x : Nat} (hdg : decode cc pc = .ok (.aload i, 2)) (hn : pc + 2 = n') (hlq : lv[q]? = some (i, .ref x)) (kk : zG C V kc ks n' lv (.ref x :: rest)) : zG C V kc ks pc lv (rest) := by
  obtain ⟨⟨p, l, e, R, s, m, args, below, meth, c⟩, Γ, ⟨nL, mc, ms⟩, Q⟩ := C
  subst hn
  intro H locs cells slots ls hV hS hl hc hs
  exact lv_aload X.1 X.2.1 hdg (lv_at ‹lv_has ls nL lv› q hlq) (kk H locs cells slots ls hV hS ‹lv_has ls nL lv› hc hs)
theorem zr_iadd (X : zK C l0 Γ0 n0 own cc ws d ret Post) (n' : Nat) {x y : Int} (hdg : decode cc pc = .ok (.iadd, 1)) (hn : pc + 1 = n')  (kk : zG C V kc ks n' lv (.int (zI (x + y)) :: rest)) : zG C V kc ks pc lv (.int (zI y) :: .int (zI x) :: rest) := by
  obtain ⟨⟨p, l, e, R, s, m, args, below, meth, c⟩, Γ, ⟨nL, mc, ms⟩, Q⟩ := C
  subst hn
  intro H locs cells slots ls hV hS hl hc hs
  exact lv_iadd X.1 X.2.1 hdg (by rw [zI_add]; exact (kk H locs cells slots ls hV hS hl hc hs))
theorem zr_isub (X : zK C l0 Γ0 n0 own cc ws d ret Post) (n' : Nat) {x y : Int} (hdg : decode cc pc = .ok (.isub, 1)) (hn : pc + 1 = n')  (kk : zG C V kc ks n' lv (.int (zI (x - y)) :: rest)) : zG C V kc ks pc lv (.int (zI y) :: .int (zI x) :: rest) := by
  obtain ⟨⟨p, l, e, R, s, m, args, below, meth, c⟩, Γ, ⟨nL, mc, ms⟩, Q⟩ := C
  subst hn
  intro H locs cells slots ls hV hS hl hc hs
  exact lv_isub X.1 X.2.1 hdg (by rw [zI_sub]; exact (kk H locs cells slots ls hV hS hl hc hs))
theorem zr_imul (X : zK C l0 Γ0 n0 own cc ws d ret Post) (n' : Nat) {x y : Int} (hdg : decode cc pc = .ok (.imul, 1)) (hn : pc + 1 = n')  (kk : zG C V kc ks n' lv (.int (zI (x * y)) :: rest)) : zG C V kc ks pc lv (.int (zI y) :: .int (zI x) :: rest) := by
  obtain ⟨⟨p, l, e, R, s, m, args, below, meth, c⟩, Γ, ⟨nL, mc, ms⟩, Q⟩ := C
  subst hn
  intro H locs cells slots ls hV hS hl hc hs
  exact lv_imul X.1 X.2.1 hdg (by rw [zI_mul]; exact (kk H locs cells slots ls hV hS hl hc hs))
theorem zr_ineg (X : zK C l0 Γ0 n0 own cc ws d ret Post) (n' : Nat) {x : Int} (hdg : decode cc pc = .ok (.ineg, 1)) (hn : pc + 1 = n')  (kk : zG C V kc ks n' lv (.int (zI (-x)) :: rest)) : zG C V kc ks pc lv (.int (zI x) :: rest) := by
  obtain ⟨⟨p, l, e, R, s, m, args, below, meth, c⟩, Γ, ⟨nL, mc, ms⟩, Q⟩ := C
  subst hn
  intro H locs cells slots ls hV hS hl hc hs
  exact lv_ineg X.1 X.2.1 hdg (by rw [zI_neg]; exact (kk H locs cells slots ls hV hS hl hc hs))
theorem zr_idiv (X : zK C l0 Γ0 n0 own cc ws d ret Post) (n' : Nat) {x y : Int} (hdg : decode cc pc = .ok (.idiv, 1)) (hn : pc + 1 = n') (hx : 0 ≤ x ∧ x ≤ 2147483647) (hy : 0 < y ∧ y ≤ 2147483647) (kk : zG C V kc ks n' lv (.int (zI (x / y)) :: rest)) : zG C V kc ks pc lv (.int (zI y) :: .int (zI x) :: rest) := by
  obtain ⟨⟨p, l, e, R, s, m, args, below, meth, c⟩, Γ, ⟨nL, mc, ms⟩, Q⟩ := C
  subst hn
  intro H locs cells slots ls hV hS hl hc hs
  exact lv_idiv X.1 X.2.1 hdg (fun h => by rw [← zI_0, zI_eq (by omega) (by omega)] at h; omega) (by rw [zI_div hx hy]; exact (kk H locs cells slots ls hV hS hl hc hs))
theorem zr_irem (X : zK C l0 Γ0 n0 own cc ws d ret Post) (n' : Nat) {x y : Int} (hdg : decode cc pc = .ok (.irem, 1)) (hn : pc + 1 = n') (hx : 0 ≤ x ∧ x ≤ 2147483647) (hy : 0 < y ∧ y ≤ 2147483647) (kk : zG C V kc ks n' lv (.int (zI (x % y)) :: rest)) : zG C V kc ks pc lv (.int (zI y) :: .int (zI x) :: rest) := by
  obtain ⟨⟨p, l, e, R, s, m, args, below, meth, c⟩, Γ, ⟨nL, mc, ms⟩, Q⟩ := C
  subst hn
  intro H locs cells slots ls hV hS hl hc hs
  exact lv_irem X.1 X.2.1 hdg (fun h => by rw [← zI_0, zI_eq (by omega) (by omega)] at h; omega) (by rw [zI_rem hx hy]; exact (kk H locs cells slots ls hV hS hl hc hs))
theorem zr_iand (X : zK C l0 Γ0 n0 own cc ws d ret Post) (n' : Nat) {x y : Int32} (hdg : decode cc pc = .ok (.iand, 1)) (hn : pc + 1 = n')  (kk : zG C V kc ks n' lv (.int (x &&& y) :: rest)) : zG C V kc ks pc lv (.int y :: .int x :: rest) := by
  obtain ⟨⟨p, l, e, R, s, m, args, below, meth, c⟩, Γ, ⟨nL, mc, ms⟩, Q⟩ := C
  subst hn
  intro H locs cells slots ls hV hS hl hc hs
  exact lv_iand X.1 X.2.1 hdg (kk H locs cells slots ls hV hS hl hc hs)
theorem zr_ior (X : zK C l0 Γ0 n0 own cc ws d ret Post) (n' : Nat) {x y : Int32} (hdg : decode cc pc = .ok (.ior, 1)) (hn : pc + 1 = n')  (kk : zG C V kc ks n' lv (.int (x ||| y) :: rest)) : zG C V kc ks pc lv (.int y :: .int x :: rest) := by
  obtain ⟨⟨p, l, e, R, s, m, args, below, meth, c⟩, Γ, ⟨nL, mc, ms⟩, Q⟩ := C
  subst hn
  intro H locs cells slots ls hV hS hl hc hs
  exact lv_ior X.1 X.2.1 hdg (kk H locs cells slots ls hV hS hl hc hs)
theorem zr_ixor (X : zK C l0 Γ0 n0 own cc ws d ret Post) (n' : Nat) {x y : Int32} (hdg : decode cc pc = .ok (.ixor, 1)) (hn : pc + 1 = n')  (kk : zG C V kc ks n' lv (.int (x ^^^ y) :: rest)) : zG C V kc ks pc lv (.int y :: .int x :: rest) := by
  obtain ⟨⟨p, l, e, R, s, m, args, below, meth, c⟩, Γ, ⟨nL, mc, ms⟩, Q⟩ := C
  subst hn
  intro H locs cells slots ls hV hS hl hc hs
  exact lv_ixor X.1 X.2.1 hdg (kk H locs cells slots ls hV hS hl hc hs)
theorem zr_ishl (X : zK C l0 Γ0 n0 own cc ws d ret Post) (n' : Nat) {x y : Int32} (hdg : decode cc pc = .ok (.ishl, 1)) (hn : pc + 1 = n')  (kk : zG C V kc ks n' lv (.int (x <<< (y &&& 31)) :: rest)) : zG C V kc ks pc lv (.int y :: .int x :: rest) := by
  obtain ⟨⟨p, l, e, R, s, m, args, below, meth, c⟩, Γ, ⟨nL, mc, ms⟩, Q⟩ := C
  subst hn
  intro H locs cells slots ls hV hS hl hc hs
  exact lv_ishl X.1 X.2.1 hdg (kk H locs cells slots ls hV hS hl hc hs)
theorem zr_ishr (X : zK C l0 Γ0 n0 own cc ws d ret Post) (n' : Nat) {x y : Int32} (hdg : decode cc pc = .ok (.ishr, 1)) (hn : pc + 1 = n')  (kk : zG C V kc ks n' lv (.int (x >>> (y &&& 31)) :: rest)) : zG C V kc ks pc lv (.int y :: .int x :: rest) := by
  obtain ⟨⟨p, l, e, R, s, m, args, below, meth, c⟩, Γ, ⟨nL, mc, ms⟩, Q⟩ := C
  subst hn
  intro H locs cells slots ls hV hS hl hc hs
  exact lv_ishr X.1 X.2.1 hdg (kk H locs cells slots ls hV hS hl hc hs)
theorem zr_ladd (X : zK C l0 Γ0 n0 own cc ws d ret Post) (n' : Nat) {x y : Int64} (hdg : decode cc pc = .ok (.ladd, 1)) (hn : pc + 1 = n')  (kk : zG C V kc ks n' lv (.long (x + y) :: rest)) : zG C V kc ks pc lv (.long y :: .long x :: rest) := by
  obtain ⟨⟨p, l, e, R, s, m, args, below, meth, c⟩, Γ, ⟨nL, mc, ms⟩, Q⟩ := C
  subst hn
  intro H locs cells slots ls hV hS hl hc hs
  exact lv_ladd X.1 X.2.1 hdg (kk H locs cells slots ls hV hS hl hc hs)
theorem zr_lmul (X : zK C l0 Γ0 n0 own cc ws d ret Post) (n' : Nat) {x y : Int64} (hdg : decode cc pc = .ok (.lmul, 1)) (hn : pc + 1 = n')  (kk : zG C V kc ks n' lv (.long (x * y) :: rest)) : zG C V kc ks pc lv (.long y :: .long x :: rest) := by
  obtain ⟨⟨p, l, e, R, s, m, args, below, meth, c⟩, Γ, ⟨nL, mc, ms⟩, Q⟩ := C
  subst hn
  intro H locs cells slots ls hV hS hl hc hs
  exact lv_lmul X.1 X.2.1 hdg (kk H locs cells slots ls hV hS hl hc hs)
theorem zr_i2l (X : zK C l0 Γ0 n0 own cc ws d ret Post) (n' : Nat) {x : Int32} (hdg : decode cc pc = .ok (.i2l, 1)) (hn : pc + 1 = n')  (kk : zG C V kc ks n' lv (.long x.toInt64 :: rest)) : zG C V kc ks pc lv (.int x :: rest) := by
  obtain ⟨⟨p, l, e, R, s, m, args, below, meth, c⟩, Γ, ⟨nL, mc, ms⟩, Q⟩ := C
  subst hn
  intro H locs cells slots ls hV hS hl hc hs
  exact lv_i2l X.1 X.2.1 hdg rfl (kk H locs cells slots ls hV hS hl hc hs)
theorem zr_i2b (X : zK C l0 Γ0 n0 own cc ws d ret Post) (n' : Nat) {x : Int32} (hdg : decode cc pc = .ok (.i2b, 1)) (hn : pc + 1 = n')  (kk : zG C V kc ks n' lv (.int x.toInt8.toInt32 :: rest)) : zG C V kc ks pc lv (.int x :: rest) := by
  obtain ⟨⟨p, l, e, R, s, m, args, below, meth, c⟩, Γ, ⟨nL, mc, ms⟩, Q⟩ := C
  subst hn
  intro H locs cells slots ls hV hS hl hc hs
  exact lv_i2b X.1 X.2.1 hdg rfl (kk H locs cells slots ls hV hS hl hc hs)
theorem zr_i2c (X : zK C l0 Γ0 n0 own cc ws d ret Post) (n' : Nat) {x : Int32} (hdg : decode cc pc = .ok (.i2c, 1)) (hn : pc + 1 = n')  (kk : zG C V kc ks n' lv (.int (x.toUInt32 % 65536).toInt32 :: rest)) : zG C V kc ks pc lv (.int x :: rest) := by
  obtain ⟨⟨p, l, e, R, s, m, args, below, meth, c⟩, Γ, ⟨nL, mc, ms⟩, Q⟩ := C
  subst hn
  intro H locs cells slots ls hV hS hl hc hs
  exact lv_i2c X.1 X.2.1 hdg rfl (kk H locs cells slots ls hV hS hl hc hs)
theorem zI_i2c {x : Int} (hr : 0 ≤ x ∧ x ≤ 65535) : ((zI x).toUInt32 % 65536).toInt32 = zI x := by
  obtain ⟨n, rfl⟩ := Int.eq_ofNat_of_zero_le hr.1
  have e : zI (n : Int) = nI n := (zI_nat n).symm
  rw [pk_char, e]
  congr 1
  show (n % 2 ^ 32) % 65536 = n
  omega
theorem zI_i2b {x : Int} (hr : 0 ≤ x ∧ x ≤ 255) : (zI x).toInt8.toInt32 = zI (if x < 128 then x else x - 256) := by
  rw [← Int32.toInt_inj, zI_toInt _ (by split <;> omega)]
  unfold zI
  rw [Int8.toInt_toInt32, Int32.toInt8_ofInt, Int8.toInt_ofInt]
  have e : ((Int8.size : Nat) : Int) = 256 := rfl
  rw [Int.bmod_def, e]
  split <;> split <;> omega
theorem zr_i2cI (X : zK C l0 Γ0 n0 own cc ws d ret Post) (n' : Nat) {x : Int} (hdg : decode cc pc = .ok (.i2c, 1)) (hn : pc + 1 = n') (hr : 0 ≤ x ∧ x ≤ 65535) (kk : zG C V kc ks n' lv (.int (zI x) :: rest)) : zG C V kc ks pc lv (.int (zI x) :: rest) := by
  obtain ⟨⟨p, l, e, R, s, m, args, below, meth, c⟩, Γ, ⟨nL, mc, ms⟩, Q⟩ := C
  subst hn
  intro H locs cells slots ls hV hS hl hc hs
  exact lv_i2c X.1 X.2.1 hdg (zI_i2c hr) (kk H locs cells slots ls hV hS hl hc hs)
theorem zr_i2bI (X : zK C l0 Γ0 n0 own cc ws d ret Post) (n' : Nat) {x : Int} (hdg : decode cc pc = .ok (.i2b, 1)) (hn : pc + 1 = n') (hr : 0 ≤ x ∧ x ≤ 255) (kk : zG C V kc ks n' lv (.int (zI (if x < 128 then x else x - 256)) :: rest)) : zG C V kc ks pc lv (.int (zI x) :: rest) := by
  obtain ⟨⟨p, l, e, R, s, m, args, below, meth, c⟩, Γ, ⟨nL, mc, ms⟩, Q⟩ := C
  subst hn
  intro H locs cells slots ls hV hS hl hc hs
  exact lv_i2b X.1 X.2.1 hdg (zI_i2b hr) (kk H locs cells slots ls hV hS hl hc hs)
theorem zr_dup (X : zK C l0 Γ0 n0 own cc ws d ret Post) (n' : Nat) {va : Value} (hdg : decode cc pc = .ok (.dup, 1)) (hn : pc + 1 = n') (h1 : va.category = 1) (kk : zG C V kc ks n' lv (va :: va :: rest)) : zG C V kc ks pc lv (va :: rest) := by
  obtain ⟨⟨p, l, e, R, s, m, args, below, meth, c⟩, Γ, ⟨nL, mc, ms⟩, Q⟩ := C
  subst hn
  intro H locs cells slots ls hV hS hl hc hs
  exact lv_dup X.1 X.2.1 hdg h1 (kk H locs cells slots ls hV hS hl hc hs)
theorem zr_pop (X : zK C l0 Γ0 n0 own cc ws d ret Post) (n' : Nat) {va : Value} (hdg : decode cc pc = .ok (.pop, 1)) (hn : pc + 1 = n') (h1 : va.category = 1) (kk : zG C V kc ks n' lv (rest)) : zG C V kc ks pc lv (va :: rest) := by
  obtain ⟨⟨p, l, e, R, s, m, args, below, meth, c⟩, Γ, ⟨nL, mc, ms⟩, Q⟩ := C
  subst hn
  intro H locs cells slots ls hV hS hl hc hs
  exact lv_pop X.1 X.2.1 hdg h1 (kk H locs cells slots ls hV hS hl hc hs)
theorem zr_pop2_2 (X : zK C l0 Γ0 n0 own cc ws d ret Post) (n' : Nat) {va : Value} (hdg : decode cc pc = .ok (.pop2, 1)) (hn : pc + 1 = n') (h1 : va.category = 2) (kk : zG C V kc ks n' lv (rest)) : zG C V kc ks pc lv (va :: rest) := by
  obtain ⟨⟨p, l, e, R, s, m, args, below, meth, c⟩, Γ, ⟨nL, mc, ms⟩, Q⟩ := C
  subst hn
  intro H locs cells slots ls hV hS hl hc hs
  exact lv_pop2_2 X.1 X.2.1 hdg h1 (kk H locs cells slots ls hV hS hl hc hs)
theorem zr_dup_x1 (X : zK C l0 Γ0 n0 own cc ws d ret Post) (n' : Nat) {va vb : Value} (hdg : decode cc pc = .ok (.dup_x1, 1)) (hn : pc + 1 = n') (h1 : va.category = 1) (h2 : vb.category = 1) (kk : zG C V kc ks n' lv (va :: vb :: va :: rest)) : zG C V kc ks pc lv (va :: vb :: rest) := by
  obtain ⟨⟨p, l, e, R, s, m, args, below, meth, c⟩, Γ, ⟨nL, mc, ms⟩, Q⟩ := C
  subst hn
  intro H locs cells slots ls hV hS hl hc hs
  exact lv_dup_x1 X.1 X.2.1 hdg h1 h2 (kk H locs cells slots ls hV hS hl hc hs)
theorem zr_dup_x2 (X : zK C l0 Γ0 n0 own cc ws d ret Post) (n' : Nat) {va vb vd : Value} (hdg : decode cc pc = .ok (.dup_x2, 1)) (hn : pc + 1 = n') (h1 : va.category = 1) (h2 : vb.category = 1) (h3 : vd.category = 1) (kk : zG C V kc ks n' lv (va :: vb :: vd :: va :: rest)) : zG C V kc ks pc lv (va :: vb :: vd :: rest) := by
  obtain ⟨⟨p, l, e, R, s, m, args, below, meth, c⟩, Γ, ⟨nL, mc, ms⟩, Q⟩ := C
  subst hn
  intro H locs cells slots ls hV hS hl hc hs
  exact lv_dup_x2 X.1 X.2.1 hdg h1 h2 h3 (kk H locs cells slots ls hV hS hl hc hs)
theorem zr_dup2 (X : zK C l0 Γ0 n0 own cc ws d ret Post) (n' : Nat) {va vb : Value} (hdg : decode cc pc = .ok (.dup2, 1)) (hn : pc + 1 = n') (h1 : va.category = 1) (h2 : vb.category = 1) (kk : zG C V kc ks n' lv (va :: vb :: va :: vb :: rest)) : zG C V kc ks pc lv (va :: vb :: rest) := by
  obtain ⟨⟨p, l, e, R, s, m, args, below, meth, c⟩, Γ, ⟨nL, mc, ms⟩, Q⟩ := C
  subst hn
  intro H locs cells slots ls hV hS hl hc hs
  exact lv_dup2_11 X.1 X.2.1 hdg h1 h2 (kk H locs cells slots ls hV hS hl hc hs)
theorem zr_ldc (X : zK C l0 Γ0 n0 own cc ws d ret Post) (n' : Nat) {i : Nat} {v : Int32} (hdg : decode cc pc = .ok (.ldc i, 2)) (hn : pc + 2 = n') (hw : Cond.constant own i v ∈ ws) (kk : zG C V kc ks n' lv (.int v :: rest)) : zG C V kc ks pc lv (rest) := by
  obtain ⟨⟨p, l, e, R, s, m, args, below, meth, c⟩, Γ, ⟨nL, mc, ms⟩, Q⟩ := C
  subst hn
  intro H locs cells slots ls hV hS hl hc hs
  exact lv_ldc X.1 X.2.1 X.2.2.2.1 (X.2.2.2.2.1 _ hw) hdg (kk H locs cells slots ls hV hS hl hc hs)
theorem zr_ldcw (X : zK C l0 Γ0 n0 own cc ws d ret Post) (n' : Nat) {i : Nat} {v : Int32} (hdg : decode cc pc = .ok (.ldc_w i, 3)) (hn : pc + 3 = n') (hw : Cond.constant own i v ∈ ws) (kk : zG C V kc ks n' lv (.int v :: rest)) : zG C V kc ks pc lv (rest) := by
  obtain ⟨⟨p, l, e, R, s, m, args, below, meth, c⟩, Γ, ⟨nL, mc, ms⟩, Q⟩ := C
  subst hn
  intro H locs cells slots ls hV hS hl hc hs
  exact lv_ldcw X.1 X.2.1 X.2.2.2.1 (X.2.2.2.2.1 _ hw) hdg (kk H locs cells slots ls hV hS hl hc hs)
theorem zr_ldc2 (X : zK C l0 Γ0 n0 own cc ws d ret Post) (n' : Nat) {i : Nat} {v : Int64} (hdg : decode cc pc = .ok (.ldc2_w i, 3)) (hn : pc + 3 = n') (hw : Cond.constantLong own i v ∈ ws) (kk : zG C V kc ks n' lv (.long v :: rest)) : zG C V kc ks pc lv (rest) := by
  obtain ⟨⟨p, l, e, R, s, m, args, below, meth, c⟩, Γ, ⟨nL, mc, ms⟩, Q⟩ := C
  subst hn
  intro H locs cells slots ls hV hS hl hc hs
  exact lv_ldc2 X.1 X.2.1 X.2.2.2.1 (X.2.2.2.2.1 _ hw) hdg (kk H locs cells slots ls hV hS hl hc hs)
theorem zr_istore_n (X : zK C l0 Γ0 n0 own cc ws d ret Post) (n' : Nat) (lv' : List (Nat × Value)) {k : Fin 4} {x : Int32} (hdg : decode cc pc = .ok (.istore_n k, 1)) (hn : pc + 1 = n') (hi : (k : Nat) < n0) (hlv : ((k : Nat), Value.int x) :: lv.filter (fun q => !(q.1 == (k : Nat)) && !(q.1 + 1 == (k : Nat) && q.2.category == 2)) = lv') (kk : zG C V kc ks n' lv' rest) : zG C V kc ks pc lv (.int x :: rest) := by
  obtain ⟨⟨p, l, e, R, s, m, args, below, meth, c⟩, Γ, ⟨nL, mc, ms⟩, Q⟩ := C
  subst hn
  have hnL : nL = n0 := X.2.2.2.2.2.2.2.2.2.2.2.2.2.2.2.2
  intro H locs cells slots ls hV hS hl hc hs
  exact lv_istore_n X.1 X.2.1 hdg rfl hl (by rw [hnL]; exact hi) hlv (fun ls' hl' => kk H locs cells slots ls' hV hS hl' hc hs)
theorem zr_istore (X : zK C l0 Γ0 n0 own cc ws d ret Post) (n' : Nat) (lv' : List (Nat × Value)) {i : Nat} {x : Int32} (hdg : decode cc pc = .ok (.istore i, 2)) (hn : pc + 2 = n') (hi : i < n0) (hlv : (i, Value.int x) :: lv.filter (fun q => !(q.1 == i) && !(q.1 + 1 == i && q.2.category == 2)) = lv') (kk : zG C V kc ks n' lv' rest) : zG C V kc ks pc lv (.int x :: rest) := by
  obtain ⟨⟨p, l, e, R, s, m, args, below, meth, c⟩, Γ, ⟨nL, mc, ms⟩, Q⟩ := C
  subst hn
  have hnL : nL = n0 := X.2.2.2.2.2.2.2.2.2.2.2.2.2.2.2.2
  intro H locs cells slots ls hV hS hl hc hs
  exact lv_istore X.1 X.2.1 hdg hl (by rw [hnL]; exact hi) hlv (fun ls' hl' => kk H locs cells slots ls' hV hS hl' hc hs)
theorem zr_astore_n (X : zK C l0 Γ0 n0 own cc ws d ret Post) (n' : Nat) (lv' : List (Nat × Value)) {k : Fin 4} {x : Nat} (hdg : decode cc pc = .ok (.astore_n k, 1)) (hn : pc + 1 = n') (hi : (k : Nat) < n0) (hlv : ((k : Nat), Value.ref x) :: lv.filter (fun q => !(q.1 == (k : Nat)) && !(q.1 + 1 == (k : Nat) && q.2.category == 2)) = lv') (kk : zG C V kc ks n' lv' rest) : zG C V kc ks pc lv (.ref x :: rest) := by
  obtain ⟨⟨p, l, e, R, s, m, args, below, meth, c⟩, Γ, ⟨nL, mc, ms⟩, Q⟩ := C
  subst hn
  have hnL : nL = n0 := X.2.2.2.2.2.2.2.2.2.2.2.2.2.2.2.2
  intro H locs cells slots ls hV hS hl hc hs
  exact lv_astore_n X.1 X.2.1 hdg rfl hl (by rw [hnL]; exact hi) hlv (fun ls' hl' => kk H locs cells slots ls' hV hS hl' hc hs)
theorem zr_astore (X : zK C l0 Γ0 n0 own cc ws d ret Post) (n' : Nat) (lv' : List (Nat × Value)) {i : Nat} {x : Nat} (hdg : decode cc pc = .ok (.astore i, 2)) (hn : pc + 2 = n') (hi : i < n0) (hlv : (i, Value.ref x) :: lv.filter (fun q => !(q.1 == i) && !(q.1 + 1 == i && q.2.category == 2)) = lv') (kk : zG C V kc ks n' lv' rest) : zG C V kc ks pc lv (.ref x :: rest) := by
  obtain ⟨⟨p, l, e, R, s, m, args, below, meth, c⟩, Γ, ⟨nL, mc, ms⟩, Q⟩ := C
  subst hn
  have hnL : nL = n0 := X.2.2.2.2.2.2.2.2.2.2.2.2.2.2.2.2
  intro H locs cells slots ls hV hS hl hc hs
  exact lv_astore X.1 X.2.1 hdg hl (by rw [hnL]; exact hi) hlv (fun ls' hl' => kk H locs cells slots ls' hV hS hl' hc hs)
theorem zr_lstore_n (X : zK C l0 Γ0 n0 own cc ws d ret Post) (n' : Nat) (lv' : List (Nat × Value)) {k : Fin 4} {x : Int64} (hdg : decode cc pc = .ok (.lstore_n k, 1)) (hn : pc + 1 = n') (hi : (k : Nat) + 1 < n0) (hlv : ((k : Nat), Value.long x) :: lv.filter (fun q => !(q.1 == (k : Nat)) && (!(q.1 == (k : Nat) + 1) && !(q.1 + 1 == (k : Nat) && q.2.category == 2))) = lv') (kk : zG C V kc ks n' lv' rest) : zG C V kc ks pc lv (.long x :: rest) := by
  obtain ⟨⟨p, l, e, R, s, m, args, below, meth, c⟩, Γ, ⟨nL, mc, ms⟩, Q⟩ := C
  subst hn
  have hnL : nL = n0 := X.2.2.2.2.2.2.2.2.2.2.2.2.2.2.2.2
  intro H locs cells slots ls hV hS hl hc hs
  exact lv_lstore_n X.1 X.2.1 hdg rfl hl (by rw [hnL]; exact hi) hlv (fun ls' hl' => kk H locs cells slots ls' hV hS hl' hc hs)
theorem zr_lstore (X : zK C l0 Γ0 n0 own cc ws d ret Post) (n' : Nat) (lv' : List (Nat × Value)) {i : Nat} {x : Int64} (hdg : decode cc pc = .ok (.lstore i, 2)) (hn : pc + 2 = n') (hi : i + 1 < n0) (hlv : (i, Value.long x) :: lv.filter (fun q => !(q.1 == i) && (!(q.1 == i + 1) && !(q.1 + 1 == i && q.2.category == 2))) = lv') (kk : zG C V kc ks n' lv' rest) : zG C V kc ks pc lv (.long x :: rest) := by
  obtain ⟨⟨p, l, e, R, s, m, args, below, meth, c⟩, Γ, ⟨nL, mc, ms⟩, Q⟩ := C
  subst hn
  have hnL : nL = n0 := X.2.2.2.2.2.2.2.2.2.2.2.2.2.2.2.2
  intro H locs cells slots ls hV hS hl hc hs
  exact lv_lstore X.1 X.2.1 hdg hl (by rw [hnL]; exact hi) hlv (fun ls' hl' => kk H locs cells slots ls' hV hS hl' hc hs)
theorem zr_iinc (X : zK C l0 Γ0 n0 own cc ws d ret Post) (n' q : Nat) (lv' : List (Nat × Value)) {i : Nat} {n x : Int} (hdg : decode cc pc = .ok (.iinc i n, 3)) (hn : pc + 3 = n') (hk : lv[q]? = some (i, .int (zI x))) (hi : i < n0) (hlv : (i, Value.int (zI (x + n))) :: lv.filter (fun q => !(q.1 == i) && !(q.1 + 1 == i && q.2.category == 2)) = lv') (kk : zG C V kc ks n' lv' rest) : zG C V kc ks pc lv rest := by
  obtain ⟨⟨p, l, e, R, s, m, args, below, meth, c⟩, Γ, ⟨nL, mc, ms⟩, Q⟩ := C
  subst hn
  have hnL : nL = n0 := X.2.2.2.2.2.2.2.2.2.2.2.2.2.2.2.2
  intro H locs cells slots ls hV hS hl hc hs
  exact lv_iinc X.1 X.2.1 hdg hl hk (zI_add x n) (by rw [hnL]; exact hi) hlv (fun ls' hl' => kk H locs cells slots ls' hV hS hl' hc hs)
theorem zr_sub (ps : List Nat) (lv' : List (Nat × Value)) (h : lv_pick lv ps = lv') (kk : zG C V kc ks pc lv' rest) : zG C V kc ks pc lv rest := by
  obtain ⟨⟨p, l, e, R, s, m, args, below, meth, c⟩, Γ, ⟨nL, mc, ms⟩, Q⟩ := C
  intro H locs cells slots ls hV hS hl hc hs
  exact kk H locs cells slots ls hV hS (lv_sub hl ps h) hc hs
theorem zr_room (kc' ks' : Nat) (h1 : kc' ≤ kc) (h2 : ks' ≤ ks) (kk : zG C V kc' ks' pc lv rest) : zG C V kc ks pc lv rest := by
  obtain ⟨⟨p, l, e, R, s, m, args, below, meth, c⟩, Γ, ⟨nL, mc, ms⟩, Q⟩ := C
  intro H locs cells slots ls hV hS hl hc hs
  exact kk H locs cells slots ls hV hS hl (by omega) (by omega)
theorem zr_view {V' : zV} (h : V = V') (kk : zG C V' kc ks pc lv rest) : zG C V kc ks pc lv rest := by rw [h]; exact kk
end ZR
