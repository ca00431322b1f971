/-! the start: what the tables and the narrow words give -/
theorem zs_arr {args : Array Value} {s : State} {ty : FieldType} (h : (Cond.arrayClass ty).before args s = true) (ht : ∀ C, ty ≠ .object C) : ∃ cA : ClassId, ArrOfT s cA ty ∧ va_RA s cA ty := by
  obtain ⟨cA, kA, comp, h1, h2, h3⟩ := Cond.arrayClass_spec h
  refine ⟨cA, fun n z => ⟨(fun k h => by cases h), kA, h2, comp, h3⟩, ?_⟩
  cases ty with
  | object C => exact absurd rfl (ht C)
  | _ => exact h1
theorem zs_obj {s : State} {C : String} (h : va_AO C s) : ∃ cA : ClassId, ArrOfT s cA (.object C) ∧ va_RA s cA (.object C) := by
  obtain ⟨comp, cA, kA, h1, h2, h3, h4, h5⟩ := Cond.arrayOver_spec h
  exact ⟨cA, fun n z => ⟨(fun k h => by cases h), kA, h3, comp, h4⟩, kA, comp, h3, h4, h1, h5⟩
theorem zs_aoi {s : State} (h : zAO2 s) : ∃ cA : ClassId, ArrOfT s cA (.array .int) ∧ va_RA s cA (.array .int) := by
  obtain ⟨comp, cA, kA, h1, h2, h3, h4, h5⟩ := arrayOverA_spec h
  exact ⟨cA, fun n z => ⟨(fun k h => by cases h), kA, h3, comp, h4⟩, h5⟩
theorem zs_str {args : Array Value} {s : State} {own tx : String} {k : Nat} (h1 : (Cond.stringRef own k tx).before args s = true) (h2 : (Cond.exactly (.string own k) "java/lang/String").before args s = true) : ∃ a : Nat, vk_R own k tx a s := by
  obtain ⟨a, c, cell, k2, e1, -⟩ := Cond.exactly_spec h2
  exact ⟨a, h1, e1⟩
theorem zs_dig {args : Array Value} {s : State} {nm : String} {f : Nat → Int} {A : Nat → Prop} (hl : (Cond.laysStatic "java/lang/Integer" nm "[B").before args s = true) (hi : (Cond.initialized "java/lang/Integer").before args s = true) (ha : (Cond.arrayOf (.static "java/lang/Integer" nm "[B") .byte).before args s = true)
    (hn : (Cond.eq (.length (.static "java/lang/Integer" nm "[B")) (.int 100)).before args s = true) (hel : ∀ j, j < 100 → (Cond.eq (.elem (.static "java/lang/Integer" nm "[B") (.int (Int32.ofNat j))) (.int (zI (f j)))).before args s = true) (hA : ∀ a : Nat, a < s.heap.size → ¬ A a) :
    ∃ t : Nat, va_Z "java/lang/Integer" nm "[B" (.ref t) A s s.heap ∧ va_T .byte t 100 (fun j => .int (zI (f j))) A s s.heap := by
  obtain ⟨t, h1, h2⟩ := va_Tof (N := 100) (f := fun j => .int (zI (f j))) (by decide) ha (va_eqt hn) (fun j hj => va_eqt (hel j hj)) hA
  exact ⟨t, va_Zref hl hi h1 hA, h2⟩
theorem zs_l1 : ((flatC (Jvm.Cond.and given_1 narrow_1)).drop 14).take 100 = (List.range 100).map (fun j => Cond.eq (.elem (.static "java/lang/Integer" "DigitOnes" "[B") (.int (Int32.ofNat j))) (.int (zI (48 + (j : Int) % 10)))) := by decide +kernel
theorem zs_l2 : ((flatC (Jvm.Cond.and given_1 narrow_1)).drop 117).take 100 = (List.range 100).map (fun j => Cond.eq (.elem (.static "java/lang/Integer" "DigitTens" "[B") (.int (Int32.ofNat j))) (.int (zI (48 + ((j : Int) / 10) % 10)))) := by decide +kernel
theorem zs_k1 (j : Nat) (hj : j < 100) : (Cond.eq (.elem (.static "java/lang/Integer" "DigitOnes" "[B") (.int (Int32.ofNat j))) (.int (zI (48 + (j : Int) % 10)))) ∈ flatC (Jvm.Cond.and given_1 narrow_1) :=
  List.mem_of_mem_drop (List.mem_of_mem_take (by rw [zs_l1]; exact List.mem_map.mpr ⟨j, List.mem_range.mpr hj, rfl⟩))
theorem zs_k2 (j : Nat) (hj : j < 100) : (Cond.eq (.elem (.static "java/lang/Integer" "DigitTens" "[B") (.int (Int32.ofNat j))) (.int (zI (48 + ((j : Int) / 10) % 10)))) ∈ flatC (Jvm.Cond.and given_1 narrow_1) :=
  List.mem_of_mem_drop (List.mem_of_mem_take (by rw [zs_l2]; exact List.mem_map.mpr ⟨j, List.mem_range.mpr hj, rfl⟩))
theorem zs_f : ∀ q ∈ zxf, Cond.fieldLinkNest q.1 q.2.1 q.2.2.1 q.2.2.2.1 q.2.2.2.2.1 q.2.2.2.2.2 ∈ zs_tbl := by decide +kernel
theorem zs_m : ∀ q ∈ zxm, Cond.methodLinkNest q.1 q.2.1 q.2.2.1 q.2.2.2 ∈ zs_tbl := by decide +kernel
theorem zs_d : ∀ y ∈ zxd, Cond.declares y ∈ zs_tbl := by decide +kernel
theorem zs_c : ∀ X ∈ (["java/lang/IndexOutOfBoundsException", "java/lang/IllegalArgumentException", "java/lang/IllegalStateException"] : List String), Cond.castable X X ∈ zs_tbl := by decide +kernel
theorem zs_n : ∀ q ∈ zxn, Cond.not (.castable q.1 q.2) ∈ flatC (Jvm.Cond.and given_1 narrow_1) := by decide +kernel
set_option maxRecDepth 100000 in
theorem zs_O {s : State} {b : Addr} (hts : ∀ w ∈ zs_tbl, w.before #[Value.ref b] s = true) (hgv : (Jvm.Cond.and given_1 narrow_1).before #[Value.ref b] s = true) : ∃ Γ : zGam, zO Γ s s.heap ∧ Γ.2.2.2 = s.heap.size := by
  have hs := flat_of_before _ hgv
  have hA : ∀ a : Nat, a < s.heap.size → ¬ zA s.heap.size a := fun a h1 h2 => by
    unfold zA at h2
    omega
  obtain ⟨c0, i0, k0⟩ := u_known (C := RJ0) (T := TJ0) (N := 4) (n := 4) hts inJ0 (hts (.instantiable RJ0 4) (by decide +kernel))
  obtain ⟨c1, i1, k1⟩ := u_known (C := RJ4) (T := TJ4) (N := 4) (n := 4) hts inJ4 (hts (.instantiable RJ4 4) (by decide +kernel))
  obtain ⟨c2, i2, k2⟩ := u_known (C := RX0) (T := TX0) (N := 3) (n := 3) hts inX0 (hts (.instantiable RX0 3) (by decide +kernel))
  obtain ⟨c3, i3, k3⟩ := u_known (C := RX1) (T := TX1) (N := 4) (n := 4) hts inX1 (hts (.instantiable RX1 4) (by decide +kernel))
  obtain ⟨c4, i4, k4⟩ := u_known (C := RX2) (T := TX2) (N := 2) (n := 2) hts inX2 (hts (.instantiable RX2 2) (by decide +kernel))
  obtain ⟨c5, i5, k5⟩ := u_known (C := RX3) (T := TX3) (N := 3) (n := 3) hts inX3 (hts (.instantiable RX3 3) (by decide +kernel))
  obtain ⟨c6, i6, k6⟩ := u_known (C := RX5) (T := TX5) (N := 6) (n := 6) hts inX5 (hts (.instantiable RX5 6) (by decide +kernel))
  obtain ⟨c7, i7, k7⟩ := u_known (C := RX6) (T := TX6) (N := 14) (n := 14) hts inX6 (hts (.instantiable RX6 14) (by decide +kernel))
  obtain ⟨c8, i8, k8⟩ := u_known (C := RX7) (T := TX7) (N := 2) (n := 2) hts inX7 (hts (.instantiable RX7 2) (by decide +kernel))
  obtain ⟨c9, i9, k9⟩ := u_known (C := RX8) (T := TX8) (N := 11) (n := 11) hts inX8 (hts (.instantiable RX8 11) (by decide +kernel))
  obtain ⟨a0, r0⟩ := zs_arr (ty := .int) (hts (.arrayClass .int) (by decide +kernel)) (fun _ h => by cases h)
  obtain ⟨a1, r1⟩ := zs_arr (ty := .char) (hts (.arrayClass .char) (by decide +kernel)) (fun _ h => by cases h)
  obtain ⟨a2, r2⟩ := zs_arr (ty := .byte) (hts (.arrayClass .byte) (by decide +kernel)) (fun _ h => by cases h)
  have hao : va_AO RX5 s := va_AO.of (hts (.arrayOver (.object RX5)) (by decide +kernel))
  have hao2 : zAO2 s := hts (.arrayOver (.array .int)) (by decide +kernel)
  obtain ⟨a3, r3⟩ := zs_obj hao
  obtain ⟨a4, r4⟩ := zs_aoi hao2
  obtain ⟨q0, s0⟩ := zs_str (own := RX6) (k := 304) (tx := "a window is 0 to 5") (hts _ (by decide +kernel)) (hs _ (by decide +kernel))
  obtain ⟨q1, s1⟩ := zs_str (own := RX6) (k := 309) (tx := "a source is 0 to 7") (hts _ (by decide +kernel)) (hs _ (by decide +kernel))
  obtain ⟨q2, s2⟩ := zs_str (own := RX6) (k := 311) (tx := "no such place in the builder") (hts _ (by decide +kernel)) (hs _ (by decide +kernel))
  obtain ⟨q3, s3⟩ := zs_str (own := RX6) (k := 315) (tx := "the arguments do not fit together") (hts _ (by decide +kernel)) (hs _ (by decide +kernel))
  obtain ⟨q4, s4⟩ := zs_str (own := RX6) (k := 318) (tx := "a number is outside its bounds") (hts _ (by decide +kernel)) (hs _ (by decide +kernel))
  obtain ⟨q5, s5⟩ := zs_str (own := RX6) (k := 325) (tx := "there is no room for so many signs") (hts _ (by decide +kernel)) (hs _ (by decide +kernel))
  obtain ⟨q6, s6⟩ := zs_str (own := RX8) (k := 109) (tx := "") (hts _ (by decide +kernel)) (hs _ (by decide +kernel))
  obtain ⟨d1, z1, y1⟩ := zs_dig (nm := "DigitOnes") (f := fun j => 48 + (j : Int) % 10) (hts (.laysStatic "java/lang/Integer" "DigitOnes" "[B") (by decide +kernel)) (hts (.initialized "java/lang/Integer") (by decide +kernel)) (hs (.arrayOf (.static "java/lang/Integer" "DigitOnes" "[B") .byte) (by decide +kernel)) (hs (.eq (.length (.static "java/lang/Integer" "DigitOnes" "[B")) (.int 100)) (by decide +kernel)) (fun j hj => hs _ (zs_k1 j hj)) hA
  obtain ⟨d2, z2, y2⟩ := zs_dig (nm := "DigitTens") (f := fun j => 48 + ((j : Int) / 10) % 10) (hts (.laysStatic "java/lang/Integer" "DigitTens" "[B") (by decide +kernel)) (hts (.initialized "java/lang/Integer") (by decide +kernel)) (hs (.arrayOf (.static "java/lang/Integer" "DigitTens" "[B") .byte) (by decide +kernel)) (hs (.eq (.length (.static "java/lang/Integer" "DigitTens" "[B")) (.int 100)) (by decide +kernel)) (fun j hj => hs _ (zs_k2 j hj)) hA
  refine ⟨((fun k => if k = 0 then c0 else if k = 1 then c1 else if k = 2 then c2 else if k = 3 then c3 else if k = 4 then c4 else if k = 5 then c5 else if k = 6 then c6 else if k = 7 then c7 else if k = 8 then c8 else c9, fun k => if k = 0 then i0 else if k = 1 then i1 else if k = 2 then i2 else if k = 3 then i3 else if k = 4 then i4 else if k = 5 then i5 else if k = 6 then i6 else if k = 7 then i7 else if k = 8 then i8 else i9), fun k => if k = 0 then a0 else if k = 1 then a1 else if k = 2 then a2 else if k = 3 then a3 else a4, fun k => if k = 0 then q0 else if k = 1 then q1 else if k = 2 then q2 else if k = 3 then q3 else if k = 4 then q4 else if k = 5 then q5 else if k = 6 then q6 else if k = 20 then d1 else d2, s.heap.size), ⟨⟨?_, ?_⟩, ?_, ?_, ?_, ?_, ?_, ?_, ?_, ?_, ?_, hao, hao2, ?_, ?_, ?_⟩, rfl⟩
  · intro k q hq
    match k, hq with
    | 0, hq => cases hq; exact k0
    | 1, hq => cases hq; exact k1
    | 2, hq => cases hq; exact k2
    | 3, hq => cases hq; exact k3
    | 4, hq => cases hq; exact k4
    | 5, hq => cases hq; exact k5
    | 6, hq => cases hq; exact k6
    | 7, hq => cases hq; exact k7
    | 8, hq => cases hq; exact k8
    | 9, hq => cases hq; exact k9
    | k + 10, hq => simp [vwCl] at hq
  · intro k q hq
    match k, hq with
    | 0, hq => cases hq; exact r0
    | 1, hq => cases hq; exact r1
    | 2, hq => cases hq; exact r2
    | 3, hq => cases hq; exact r3
    | 4, hq => cases hq; exact r4
    | k + 5, hq => simp [zt] at hq
  · exact vx_Zqof (hts (.laysStatic "java/lang/Throwable" "UNASSIGNED_STACK" "[Ljava/lang/StackTraceElement;") (by decide +kernel)) (hts (.initialized "java/lang/Throwable") (by decide +kernel)) (hs (.isRef (.static "java/lang/Throwable" "UNASSIGNED_STACK" "[Ljava/lang/StackTraceElement;")) (by decide +kernel)) hA
  · exact vx_Zqof (hts (.laysStatic "java/lang/Throwable" "SUPPRESSED_SENTINEL" "Ljava/util/List;") (by decide +kernel)) (hts (.initialized "java/lang/Throwable") (by decide +kernel)) (hs (.isRef (.static "java/lang/Throwable" "SUPPRESSED_SENTINEL" "Ljava/util/List;")) (by decide +kernel)) hA
  · exact va_Zof (hts (.laysStatic RJ0 "COMPACT_STRINGS" "Z") (by decide +kernel)) (hts (.initialized RJ0) (by decide +kernel)) (va_eqi (hs (.eq (.static RJ0 "COMPACT_STRINGS" "Z") (.int 1)) (by decide +kernel))) hA
  · intro i q hq
    match i, hq with
    | 0, hq => cases hq; exact s0
    | 1, hq => cases hq; exact s1
    | 2, hq => cases hq; exact s2
    | 3, hq => cases hq; exact s3
    | 4, hq => cases hq; exact s4
    | 5, hq => cases hq; exact s5
    | 6, hq => cases hq; exact s6
    | k + 7, hq => simp [zstr] at hq
  · exact fun X hX => va_Nw.of rfl (hts _ (zs_c X hX))
  · exact fun q hq => va_Nc.of (hs _ (zs_n q hq))
  · exact fun y hy => va_Nw.of rfl (hts _ (zs_d y hy))
  · exact fun q hq => va_Nw.of rfl (hts _ (zs_f q hq))
  · exact fun q hq => va_Nw.of rfl (hts _ (zs_m q hq))
  · exact va_Nw.of rfl (hts (.castable "[B" "java/lang/Cloneable") (by decide +kernel))
  · exact ⟨z1, _, fun j => by omega, y1⟩
  · exact ⟨z2, _, fun j => by omega, y2⟩
