/-! Sashwords' constructor -/
def zad (L : List Nat) : Nat → Nat := fun t => L.getD t 0
def zs0 : Nat → Int := fun j => ([12, 12, 0, -9, 12, 12, 0, -9, 12, 12, 0, -9, 12, 12, 0, -9, 12, 12, 0, -9, 12, 12, 0, -9, 0, 0, 4, 0, 0, 0, 0, 0, 0, 0, 0, 0, 0, 0, 0, 0, 0, 12, 24, 36, 48, 60, 72] : List Int).getD j 0
theorem zs0_hi {j : Nat} (h : 47 ≤ j) : zs0 j = 0 := by
  unfold zs0
  rw [List.getD_eq_getElem?_getD, List.getElem?_eq_none (show _ ≤ _ from h)]
  rfl
theorem zu_none {V : zV} {q t r : Nat} {e : va_E} (h : zu V q t e r = none) : V r = none := by
  by_cases c : r = q
  · rw [c, zu_eq] at h
    cases h
  · rw [zu_ne c] at h
    exact h
def zp12 : Nat → Prop := fun t => t ≠ 1 ∧ t ≠ 2
set_option maxRecDepth 100000 in
set_option maxHeartbeats 4000000 in
theorem m_X6_init (l : Launch) (Γ : zGam) {V : zV} {x : Nat} (hb : V x = some (1, .inr (7, [.null, .null, .null, .null, .null, .null, .null, .null, .null, .null, .int (zI (0)), .int (zI (0)), .int (zI (0)), .int (zI (0))])))  : zM l Γ 6 yX6_init wsX6_init 60 1600 V [.ref x] (fun rv V' => rv = none ∧ ∃ ad, ad 1 = x ∧ zS Γ V' ad zs0 ∧ zag zp12 V V') := by
  have w0 : Cond.methodLink RX6 1 objectInit ∈ wsX6_init := by decide +kernel
  have w1 : Cond.instanceMethod objectInit ∈ wsX6_init := by decide +kernel
  have w2 : Cond.code objectInit ⟨#[0xb1]⟩ 1 none ∈ wsX6_init := by decide +kernel
  have w3 : Cond.classLink RX6 9 RX5 ∈ wsX6_init := by decide +kernel
  have w4 : Cond.fieldLink RX6 11 "Sashwords" "windows" "[LSashwords$Window;" ∈ wsX6_init := by decide +kernel
  have iX6 : ∀ w ∈ u_ws RX6 TX6 14, w ∈ wsX6_init := by decide +kernel
  have w6 : Cond.classLink RX6 15 RX2 ∈ wsX6_init := by decide +kernel
  have w7 : Cond.instantiable RX2 2 ∈ wsX6_init := by decide +kernel
  have w8 : Cond.initialized RX2 ∈ wsX6_init := by decide +kernel
  have iX2 : ∀ w ∈ u_ws RX2 TX2 2, w ∈ wsX6_init := by decide +kernel
  have w10 : Cond.initialized yX2_init.cls ∈ wsX6_init := by decide +kernel
  have w11 : Cond.instanceMethod yX2_init ∈ wsX6_init := by decide +kernel
  have w12 : Cond.methodLink RX6 17 yX2_init ∈ wsX6_init := by decide +kernel
  have w13 : Cond.fieldLink RX6 20 "Sashwords" "builder" "LSashwords$Script;" ∈ wsX6_init := by decide +kernel
  have w14 : Cond.fieldLink RX6 24 "Sashwords" "kept" "LSashwords$Script;" ∈ wsX6_init := by decide +kernel
  have w15 : Cond.classLink RX6 27 RX1 ∈ wsX6_init := by decide +kernel
  have w16 : Cond.instantiable RX1 4 ∈ wsX6_init := by decide +kernel
  have w17 : Cond.initialized RX1 ∈ wsX6_init := by decide +kernel
  have iX1 : ∀ w ∈ u_ws RX1 TX1 4, w ∈ wsX6_init := by decide +kernel
  have w19 : Cond.initialized yX1_init.cls ∈ wsX6_init := by decide +kernel
  have w20 : Cond.instanceMethod yX1_init ∈ wsX6_init := by decide +kernel
  have w21 : Cond.fieldLink RX6 30 "Sashwords" "line" "LSashwords$Pipe;" ∈ wsX6_init := by decide +kernel
  have w22 : Cond.instantiable RX5 6 ∈ wsX6_init := by decide +kernel
  have w23 : Cond.initialized RX5 ∈ wsX6_init := by decide +kernel
  have iX5 : ∀ w ∈ u_ws RX5 TX5 6, w ∈ wsX6_init := by decide +kernel
  have w25 : Cond.initialized yX5_init.cls ∈ wsX6_init := by decide +kernel
  have w26 : Cond.instanceMethod yX5_init ∈ wsX6_init := by decide +kernel
  have w27 : Cond.methodLink RX6 34 yX5_init ∈ wsX6_init := by decide +kernel
  have w28 : Cond.fieldLink RX6 35 "Sashwords" "aside" "LSashwords$Window;" ∈ wsX6_init := by decide +kernel
  have w29 : Cond.fieldLink RX6 39 "Sashwords" "draft" "LSashwords$Script;" ∈ wsX6_init := by decide +kernel
  have w30 : Cond.fieldLink RX6 42 "Sashwords" "secondDraft" "LSashwords$Script;" ∈ wsX6_init := by decide +kernel
  have w31 : Cond.classLink RX6 45 RX3 ∈ wsX6_init := by decide +kernel
  have w32 : Cond.instantiable RX3 3 ∈ wsX6_init := by decide +kernel
  have w33 : Cond.initialized RX3 ∈ wsX6_init := by decide +kernel
  have iX3 : ∀ w ∈ u_ws RX3 TX3 3, w ∈ wsX6_init := by decide +kernel
  have w35 : Cond.initialized yX3_init.cls ∈ wsX6_init := by decide +kernel
  have w36 : Cond.instanceMethod yX3_init ∈ wsX6_init := by decide +kernel
  have w37 : Cond.fieldLink RX6 48 "Sashwords" "road" "LSashwords$Seeker;" ∈ wsX6_init := by decide +kernel
  have w38 : Cond.fieldLink RX6 52 "Sashwords" "secondRoad" "LSashwords$Seeker;" ∈ wsX6_init := by decide +kernel
  have w39 : Cond.classLink RX6 55 RX0 ∈ wsX6_init := by decide +kernel
  have w40 : Cond.instantiable RX0 3 ∈ wsX6_init := by decide +kernel
  have w41 : Cond.initialized RX0 ∈ wsX6_init := by decide +kernel
  have iX0 : ∀ w ∈ u_ws RX0 TX0 3, w ∈ wsX6_init := by decide +kernel
  have w43 : Cond.initialized yX0_init.cls ∈ wsX6_init := by decide +kernel
  have w44 : Cond.instanceMethod yX0_init ∈ wsX6_init := by decide +kernel
  have w45 : Cond.fieldLink RX6 58 "Sashwords" "table" "LSashwords$Borders;" ∈ wsX6_init := by decide +kernel
  refine zM_of (cc := cX6_init) (nL := 2) (ret := none) (own := RX6) (by decide +kernel) rfl rfl (Nat.le_of_ble_eq_true rfl) (fun C X hi0 => ?_)
  have hi0 := hi0 rfl
  show zG C V 60 1600 0 [(0, .ref x)] []
  refine zr_aload_n X 1 0 dX6_init_0 rfl rfl ?_
  refine zr_objInit X 4 hb rfl w0 w1 w2 (by decide) (Nat.le_of_ble_eq_true rfl) dX6_init_1 rfl ?_
  refine zr_aload_n X 5 0 dX6_init_4 rfl rfl ?_
  refine zr_bipush X 7 (6) dX6_init_5 rfl (by decide) ?_
  refine zr_newq (kc' := (60 - 1)) (ks' := (1600 - (6 : Int).toNat)) X 10 2 w3 (by omega) dX6_init_7 rfl (by omega) (by omega) (fun wa hwa => ?_)
  refine zr_putF X 13 7 0 [.ref wa, .null, .null, .null, .null, .null, .null, .null, .null, .null, .int (zI (0)), .int (zI (0)), .int (zI (0)), .int (zI (0))] tyX6 hi0 ((zu_ne (zne_new hb hwa)).trans hb) rfl iX6 tyX6_ok nmX6 (by decide) w4 rfl rfl rfl rfl rfl (Nat.le_of_ble_eq_true rfl) rfl dX6_init_10 rfl ?_
  refine zr_aload_n X 14 0 dX6_init_13 rfl rfl ?_
  refine zr_new (kc' := ((60 - 1) - 1)) (ks' := ((1600 - (6 : Int).toNat) - 2)) X 17 4 20 [.null, .int (zI (0))] tyX2 rfl iX2 tyX2_ok w6 w7 w8 (zdf_X2) dX6_init_14 rfl (by omega) (by omega) (fun q1 hq2 => ?_)
  refine zr_dup X 18 dX6_init_17 rfl rfl ?_
  refine zr_bipush X 20 (80) dX6_init_18 rfl (by decide) ?_
  refine zr_callI (kc' := (((60 - 1) - 1) - 1)) (ks' := (((1600 - (6 : Int).toNat) - 2) - ((80 : Int).toNat))) X 23 1 (m_X2_init l Γ (tg := 21) (n := 80) (zu_eq _ _ _ _) (by omega)) gX6_init_X2_init rfl w10 w12 w11 rfl (by decide +kernel) rfl (by decide) rfl (Nat.le_of_ble_eq_true rfl) dX6_init_20 rfl (by omega) (by omega) (fun rv3 V4 hp5 => ?_)
  obtain ⟨hp5e, hp5g, hp5s, hp5f⟩ := hp5
  rw [hp5e]
  have fr6 : zag zal (zu (zu V wa 2 (zq Γ.2.1 3 ((6 : Int).toNat) (fun _ => none))) x 1 (.inr (7, [.ref wa, .null, .null, .null, .null, .null, .null, .null, .null, .null, .int (zI (0)), .int (zI (0)), .int (zI (0)), .int (zI (0))]))) V4 := zbt.new hq2 hp5f
  have hc7 : V4 x = some (1, .inr (7, [.ref wa, .null, .null, .null, .null, .null, .null, .null, .null, .null, .int (zI (0)), .int (zI (0)), .int (zI (0)), .int (zI (0))])) := fr6 _ _ _ (zu_eq _ _ _ _) trivial
  have hc8 : V4 wa = some (2, zq Γ.2.1 3 ((6 : Int).toNat) (fun _ => none)) := fr6 _ _ _ ((zu_ne (Ne.symm (zne_new hb hwa))).trans (zu_eq _ _ _ _)) trivial
  show zG C V4 (((60 - 1) - 1) - 1) (((1600 - (6 : Int).toNat) - 2) - ((80 : Int).toNat)) 23 [(0, .ref x)] [.ref q1, .ref x]
  refine zr_putF X 26 7 1 [.ref wa, .ref q1, .null, .null, .null, .null, .null, .null, .null, .null, .int (zI (0)), .int (zI (0)), .int (zI (0)), .int (zI (0))] tyX6 hi0 hc7 rfl iX6 tyX6_ok nmX6 (by decide) w13 rfl rfl rfl rfl rfl (Nat.le_of_ble_eq_true rfl) rfl dX6_init_23 rfl ?_
  refine zr_aload_n X 27 0 dX6_init_26 rfl rfl ?_
  refine zr_new (kc' := ((((60 - 1) - 1) - 1) - 1)) (ks' := ((((1600 - (6 : Int).toNat) - 2) - ((80 : Int).toNat)) - 2)) X 30 4 22 [.null, .int (zI (0))] tyX2 rfl iX2 tyX2_ok w6 w7 w8 (zdf_X2) dX6_init_27 rfl (by omega) (by omega) (fun q9 hq10 => ?_)
  refine zr_dup X 31 dX6_init_30 rfl rfl ?_
  refine zr_bipush X 33 (80) dX6_init_31 rfl (by decide) ?_
  refine zr_callI (kc' := (((((60 - 1) - 1) - 1) - 1) - 1)) (ks' := (((((1600 - (6 : Int).toNat) - 2) - ((80 : Int).toNat)) - 2) - ((80 : Int).toNat))) X 36 1 (m_X2_init l Γ (tg := 23) (n := 80) (zu_eq _ _ _ _) (by omega)) gX6_init_X2_init rfl w10 w12 w11 rfl (by decide +kernel) rfl (by decide) rfl (Nat.le_of_ble_eq_true rfl) dX6_init_33 rfl (by omega) (by omega) (fun rv11 V12 hp13 => ?_)
  obtain ⟨hp13e, hp13g, hp13s, hp13f⟩ := hp13
  rw [hp13e]
  have fr14 : zag zal (zu V4 x 1 (.inr (7, [.ref wa, .ref q1, .null, .null, .null, .null, .null, .null, .null, .null, .int (zI (0)), .int (zI (0)), .int (zI (0)), .int (zI (0))]))) V12 := zbt.new hq10 hp13f
  have hc15 : V12 x = some (1, .inr (7, [.ref wa, .ref q1, .null, .null, .null, .null, .null, .null, .null, .null, .int (zI (0)), .int (zI (0)), .int (zI (0)), .int (zI (0))])) := fr14 _ _ _ (zu_eq _ _ _ _) trivial
  have hc16 : V12 wa = some (2, zq Γ.2.1 3 ((6 : Int).toNat) (fun _ => none)) := fr14 _ _ _ ((zu_ne (Ne.symm (zne_oq hc7 hc8))).trans hc8) trivial
  show zG C V12 (((((60 - 1) - 1) - 1) - 1) - 1) (((((1600 - (6 : Int).toNat) - 2) - ((80 : Int).toNat)) - 2) - ((80 : Int).toNat)) 36 [(0, .ref x)] [.ref q9, .ref x]
  refine zr_putF X 39 7 2 [.ref wa, .ref q1, .ref q9, .null, .null, .null, .null, .null, .null, .null, .int (zI (0)), .int (zI (0)), .int (zI (0)), .int (zI (0))] tyX6 hi0 hc15 rfl iX6 tyX6_ok nmX6 (by decide) w14 rfl rfl rfl rfl rfl (Nat.le_of_ble_eq_true rfl) rfl dX6_init_36 rfl ?_
  refine zr_aload_n X 40 0 dX6_init_39 rfl rfl ?_
  refine zr_new (kc' := ((((((60 - 1) - 1) - 1) - 1) - 1) - 1)) (ks' := ((((((1600 - (6 : Int).toNat) - 2) - ((80 : Int).toNat)) - 2) - ((80 : Int).toNat)) - 4)) X 43 3 24 [.null, .null, .null, .int (zI (0))] tyX1 rfl iX1 tyX1_ok w15 w16 w17 (zdf_X1) dX6_init_40 rfl (by omega) (by omega) (fun q17 hq18 => ?_)
  refine zr_dup X 44 dX6_init_43 rfl rfl ?_
  refine zr_callIN (kc' := (((((((60 - 1) - 1) - 1) - 1) - 1) - 1) - 9)) (ks' := (((((((1600 - (6 : Int).toNat) - 2) - ((80 : Int).toNat)) - 2) - ((80 : Int).toNat)) - 4) - 343)) X 47 0 1 (m_X1_init l Γ (zu_eq _ _ _ _)) gX6_init_X1_init_n29 rfl w19 rfl w20 rfl (by decide +kernel) rfl (by decide) rfl (Nat.le_of_ble_eq_true rfl) dX6_init_44 rfl (by omega) (by omega) (fun rv19 V20 hp21 => ?_)
  obtain ⟨hp21e, hp21a1, hp21a2, hp21a3, hp21g1, hp21g2, hp21g3, hp21c, hp21s1, hp21s2, hp21s3, hp21f⟩ := hp21
  rw [hp21e]
  have fr22 : zag zal (zu V12 x 1 (.inr (7, [.ref wa, .ref q1, .ref q9, .null, .null, .null, .null, .null, .null, .null, .int (zI (0)), .int (zI (0)), .int (zI (0)), .int (zI (0))]))) V20 := zbt.new hq18 hp21f
  have hc23 : V20 x = some (1, .inr (7, [.ref wa, .ref q1, .ref q9, .null, .null, .null, .null, .null, .null, .null, .int (zI (0)), .int (zI (0)), .int (zI (0)), .int (zI (0))])) := fr22 _ _ _ (zu_eq _ _ _ _) trivial
  have hc24 : V20 wa = some (2, zq Γ.2.1 3 ((6 : Int).toNat) (fun _ => none)) := fr22 _ _ _ ((zu_ne (Ne.symm (zne_oq hc15 hc16))).trans hc16) trivial
  show zG C V20 (((((((60 - 1) - 1) - 1) - 1) - 1) - 1) - 9) (((((((1600 - (6 : Int).toNat) - 2) - ((80 : Int).toNat)) - 2) - ((80 : Int).toNat)) - 4) - 343) 47 [(0, .ref x)] [.ref q17, .ref x]
  refine zr_putF X 50 7 3 [.ref wa, .ref q1, .ref q9, .ref q17, .null, .null, .null, .null, .null, .null, .int (zI (0)), .int (zI (0)), .int (zI (0)), .int (zI (0))] tyX6 hi0 hc23 rfl iX6 tyX6_ok nmX6 (by decide) w21 rfl rfl rfl rfl rfl (Nat.le_of_ble_eq_true rfl) rfl dX6_init_47 rfl ?_
  refine zr_aload_n X 51 0 dX6_init_50 rfl rfl ?_
  refine zr_new (kc' := ((((((((60 - 1) - 1) - 1) - 1) - 1) - 1) - 9) - 1)) (ks' := ((((((((1600 - (6 : Int).toNat) - 2) - ((80 : Int).toNat)) - 2) - ((80 : Int).toNat)) - 4) - 343) - 6)) X 54 6 16 [.null, .int (zI (0)), .int (zI (0)), .int (zI (0)), .int (zI (0)), .int (zI (0))] tyX5 rfl iX5 tyX5_ok w3 w22 w23 (zdf_X5) dX6_init_51 rfl (by omega) (by omega) (fun q25 hq26 => ?_)
  refine zr_dup X 55 dX6_init_54 rfl rfl ?_
  refine zr_iconst X 56 dX6_init_55 rfl ?_
  refine zr_callI (kc' := (((((((((60 - 1) - 1) - 1) - 1) - 1) - 1) - 9) - 1) - 1)) (ks' := (((((((((1600 - (6 : Int).toNat) - 2) - ((80 : Int).toNat)) - 2) - ((80 : Int).toNat)) - 4) - 343) - 6) - ((0 : Int).toNat))) X 59 1 (m_X5_init l Γ (n := 0) (zu_eq _ _ _ _) (by omega)) gX6_init_X5_init rfl w25 w27 w26 rfl (by decide +kernel) rfl (by decide) rfl (Nat.le_of_ble_eq_true rfl) dX6_init_56 rfl (by omega) (by omega) (fun rv27 V28 hp29 => ?_)
  obtain ⟨hp29e, hp29s, hp29f, hp29w⟩ := hp29
  rw [hp29e]
  have fr30 : zag zal (zu V20 x 1 (.inr (7, [.ref wa, .ref q1, .ref q9, .ref q17, .null, .null, .null, .null, .null, .null, .int (zI (0)), .int (zI (0)), .int (zI (0)), .int (zI (0))]))) V28 := zbt.new hq26 hp29f
  have hc31 : V28 x = some (1, .inr (7, [.ref wa, .ref q1, .ref q9, .ref q17, .null, .null, .null, .null, .null, .null, .int (zI (0)), .int (zI (0)), .int (zI (0)), .int (zI (0))])) := fr30 _ _ _ (zu_eq _ _ _ _) trivial
  have hc32 : V28 wa = some (2, zq Γ.2.1 3 ((6 : Int).toNat) (fun _ => none)) := fr30 _ _ _ ((zu_ne (Ne.symm (zne_oq hc23 hc24))).trans hc24) trivial
  show zG C V28 (((((((((60 - 1) - 1) - 1) - 1) - 1) - 1) - 9) - 1) - 1) (((((((((1600 - (6 : Int).toNat) - 2) - ((80 : Int).toNat)) - 2) - ((80 : Int).toNat)) - 4) - 343) - 6) - ((0 : Int).toNat)) 59 [(0, .ref x)] [.ref q25, .ref x]
  refine zr_putF X 62 7 4 [.ref wa, .ref q1, .ref q9, .ref q17, .ref q25, .null, .null, .null, .null, .null, .int (zI (0)), .int (zI (0)), .int (zI (0)), .int (zI (0))] tyX6 hi0 hc31 rfl iX6 tyX6_ok nmX6 (by decide) w28 rfl rfl rfl rfl rfl (Nat.le_of_ble_eq_true rfl) rfl dX6_init_59 rfl ?_
  refine zr_aload_n X 63 0 dX6_init_62 rfl rfl ?_
  refine zr_new (kc' := ((((((((((60 - 1) - 1) - 1) - 1) - 1) - 1) - 9) - 1) - 1) - 1)) (ks' := ((((((((((1600 - (6 : Int).toNat) - 2) - ((80 : Int).toNat)) - 2) - ((80 : Int).toNat)) - 4) - 343) - 6) - ((0 : Int).toNat)) - 2)) X 66 4 31 [.null, .int (zI (0))] tyX2 rfl iX2 tyX2_ok w6 w7 w8 (zdf_X2) dX6_init_63 rfl (by omega) (by omega) (fun q33 hq34 => ?_)
  refine zr_dup X 67 dX6_init_66 rfl rfl ?_
  refine zr_bipush X 69 (80) dX6_init_67 rfl (by decide) ?_
  refine zr_callI (kc' := (((((((((((60 - 1) - 1) - 1) - 1) - 1) - 1) - 9) - 1) - 1) - 1) - 1)) (ks' := (((((((((((1600 - (6 : Int).toNat) - 2) - ((80 : Int).toNat)) - 2) - ((80 : Int).toNat)) - 4) - 343) - 6) - ((0 : Int).toNat)) - 2) - ((80 : Int).toNat))) X 72 1 (m_X2_init l Γ (tg := 32) (n := 80) (zu_eq _ _ _ _) (by omega)) gX6_init_X2_init rfl w10 w12 w11 rfl (by decide +kernel) rfl (by decide) rfl (Nat.le_of_ble_eq_true rfl) dX6_init_69 rfl (by omega) (by omega) (fun rv35 V36 hp37 => ?_)
  obtain ⟨hp37e, hp37g, hp37s, hp37f⟩ := hp37
  rw [hp37e]
  have fr38 : zag zal (zu V28 x 1 (.inr (7, [.ref wa, .ref q1, .ref q9, .ref q17, .ref q25, .null, .null, .null, .null, .null, .int (zI (0)), .int (zI (0)), .int (zI (0)), .int (zI (0))]))) V36 := zbt.new hq34 hp37f
  have hc39 : V36 x = some (1, .inr (7, [.ref wa, .ref q1, .ref q9, .ref q17, .ref q25, .null, .null, .null, .null, .null, .int (zI (0)), .int (zI (0)), .int (zI (0)), .int (zI (0))])) := fr38 _ _ _ (zu_eq _ _ _ _) trivial
  have hc40 : V36 wa = some (2, zq Γ.2.1 3 ((6 : Int).toNat) (fun _ => none)) := fr38 _ _ _ ((zu_ne (Ne.symm (zne_oq hc31 hc32))).trans hc32) trivial
  show zG C V36 (((((((((((60 - 1) - 1) - 1) - 1) - 1) - 1) - 9) - 1) - 1) - 1) - 1) (((((((((((1600 - (6 : Int).toNat) - 2) - ((80 : Int).toNat)) - 2) - ((80 : Int).toNat)) - 4) - 343) - 6) - ((0 : Int).toNat)) - 2) - ((80 : Int).toNat)) 72 [(0, .ref x)] [.ref q33, .ref x]
  refine zr_putF X 75 7 5 [.ref wa, .ref q1, .ref q9, .ref q17, .ref q25, .ref q33, .null, .null, .null, .null, .int (zI (0)), .int (zI (0)), .int (zI (0)), .int (zI (0))] tyX6 hi0 hc39 rfl iX6 tyX6_ok nmX6 (by decide) w29 rfl rfl rfl rfl rfl (Nat.le_of_ble_eq_true rfl) rfl dX6_init_72 rfl ?_
  refine zr_aload_n X 76 0 dX6_init_75 rfl rfl ?_
  refine zr_new (kc' := ((((((((((((60 - 1) - 1) - 1) - 1) - 1) - 1) - 9) - 1) - 1) - 1) - 1) - 1)) (ks' := ((((((((((((1600 - (6 : Int).toNat) - 2) - ((80 : Int).toNat)) - 2) - ((80 : Int).toNat)) - 4) - 343) - 6) - ((0 : Int).toNat)) - 2) - ((80 : Int).toNat)) - 2)) X 79 4 33 [.null, .int (zI (0))] tyX2 rfl iX2 tyX2_ok w6 w7 w8 (zdf_X2) dX6_init_76 rfl (by omega) (by omega) (fun q41 hq42 => ?_)
  refine zr_dup X 80 dX6_init_79 rfl rfl ?_
  refine zr_bipush X 82 (80) dX6_init_80 rfl (by decide) ?_
  refine zr_callI (kc' := (((((((((((((60 - 1) - 1) - 1) - 1) - 1) - 1) - 9) - 1) - 1) - 1) - 1) - 1) - 1)) (ks' := (((((((((((((1600 - (6 : Int).toNat) - 2) - ((80 : Int).toNat)) - 2) - ((80 : Int).toNat)) - 4) - 343) - 6) - ((0 : Int).toNat)) - 2) - ((80 : Int).toNat)) - 2) - ((80 : Int).toNat))) X 85 1 (m_X2_init l Γ (tg := 34) (n := 80) (zu_eq _ _ _ _) (by omega)) gX6_init_X2_init rfl w10 w12 w11 rfl (by decide +kernel) rfl (by decide) rfl (Nat.le_of_ble_eq_true rfl) dX6_init_82 rfl (by omega) (by omega) (fun rv43 V44 hp45 => ?_)
  obtain ⟨hp45e, hp45g, hp45s, hp45f⟩ := hp45
  rw [hp45e]
  have fr46 : zag zal (zu V36 x 1 (.inr (7, [.ref wa, .ref q1, .ref q9, .ref q17, .ref q25, .ref q33, .null, .null, .null, .null, .int (zI (0)), .int (zI (0)), .int (zI (0)), .int (zI (0))]))) V44 := zbt.new hq42 hp45f
  have hc47 : V44 x = some (1, .inr (7, [.ref wa, .ref q1, .ref q9, .ref q17, .ref q25, .ref q33, .null, .null, .null, .null, .int (zI (0)), .int (zI (0)), .int (zI (0)), .int (zI (0))])) := fr46 _ _ _ (zu_eq _ _ _ _) trivial
  have hc48 : V44 wa = some (2, zq Γ.2.1 3 ((6 : Int).toNat) (fun _ => none)) := fr46 _ _ _ ((zu_ne (Ne.symm (zne_oq hc39 hc40))).trans hc40) trivial
  show zG C V44 (((((((((((((60 - 1) - 1) - 1) - 1) - 1) - 1) - 9) - 1) - 1) - 1) - 1) - 1) - 1) (((((((((((((1600 - (6 : Int).toNat) - 2) - ((80 : Int).toNat)) - 2) - ((80 : Int).toNat)) - 4) - 343) - 6) - ((0 : Int).toNat)) - 2) - ((80 : Int).toNat)) - 2) - ((80 : Int).toNat)) 85 [(0, .ref x)] [.ref q41, .ref x]
  refine zr_putF X 88 7 6 [.ref wa, .ref q1, .ref q9, .ref q17, .ref q25, .ref q33, .ref q41, .null, .null, .null, .int (zI (0)), .int (zI (0)), .int (zI (0)), .int (zI (0))] tyX6 hi0 hc47 rfl iX6 tyX6_ok nmX6 (by decide) w30 rfl rfl rfl rfl rfl (Nat.le_of_ble_eq_true rfl) rfl dX6_init_85 rfl ?_
  refine zr_aload_n X 89 0 dX6_init_88 rfl rfl ?_
  refine zr_new (kc' := ((((((((((((((60 - 1) - 1) - 1) - 1) - 1) - 1) - 9) - 1) - 1) - 1) - 1) - 1) - 1) - 1)) (ks' := ((((((((((((((1600 - (6 : Int).toNat) - 2) - ((80 : Int).toNat)) - 2) - ((80 : Int).toNat)) - 4) - 343) - 6) - ((0 : Int).toNat)) - 2) - ((80 : Int).toNat)) - 2) - ((80 : Int).toNat)) - 3)) X 92 5 35 [.null, .null, .int (zI (0))] tyX3 rfl iX3 tyX3_ok w31 w32 w33 (zdf_X3) dX6_init_89 rfl (by omega) (by omega) (fun q49 hq50 => ?_)
  refine zr_dup X 93 dX6_init_92 rfl rfl ?_
  refine zr_callIN (kc' := (((((((((((((((60 - 1) - 1) - 1) - 1) - 1) - 1) - 9) - 1) - 1) - 1) - 1) - 1) - 1) - 1) - 4)) (ks' := (((((((((((((((1600 - (6 : Int).toNat) - 2) - ((80 : Int).toNat)) - 2) - ((80 : Int).toNat)) - 4) - 343) - 6) - ((0 : Int).toNat)) - 2) - ((80 : Int).toNat)) - 2) - ((80 : Int).toNat)) - 3) - 245)) X 96 0 3 (m_X3_init l Γ (tp := 39) (tt := 36) (ta := 37) (tc := 38) (zu_eq _ _ _ _) (by decide)) gX6_init_X3_init_n47 rfl w35 rfl w36 rfl (by decide +kernel) rfl (by decide) rfl (Nat.le_of_ble_eq_true rfl) dX6_init_93 rfl (by omega) (by omega) (fun rv51 V52 hp53 => ?_)
  obtain ⟨hp53e, hp53p, hp53b, hp53g, hp53c, hp53k, hp53s, hp53f⟩ := hp53
  rw [hp53e]
  have fr54 : zag zal (zu V44 x 1 (.inr (7, [.ref wa, .ref q1, .ref q9, .ref q17, .ref q25, .ref q33, .ref q41, .null, .null, .null, .int (zI (0)), .int (zI (0)), .int (zI (0)), .int (zI (0))]))) V52 := zbt.new hq50 hp53f
  have hc55 : V52 x = some (1, .inr (7, [.ref wa, .ref q1, .ref q9, .ref q17, .ref q25, .ref q33, .ref q41, .null, .null, .null, .int (zI (0)), .int (zI (0)), .int (zI (0)), .int (zI (0))])) := fr54 _ _ _ (zu_eq _ _ _ _) trivial
  have hc56 : V52 wa = some (2, zq Γ.2.1 3 ((6 : Int).toNat) (fun _ => none)) := fr54 _ _ _ ((zu_ne (Ne.symm (zne_oq hc47 hc48))).trans hc48) trivial
  show zG C V52 (((((((((((((((60 - 1) - 1) - 1) - 1) - 1) - 1) - 9) - 1) - 1) - 1) - 1) - 1) - 1) - 1) - 4) (((((((((((((((1600 - (6 : Int).toNat) - 2) - ((80 : Int).toNat)) - 2) - ((80 : Int).toNat)) - 4) - 343) - 6) - ((0 : Int).toNat)) - 2) - ((80 : Int).toNat)) - 2) - ((80 : Int).toNat)) - 3) - 245) 96 [(0, .ref x)] [.ref q49, .ref x]
  refine zr_putF X 99 7 7 [.ref wa, .ref q1, .ref q9, .ref q17, .ref q25, .ref q33, .ref q41, .ref q49, .null, .null, .int (zI (0)), .int (zI (0)), .int (zI (0)), .int (zI (0))] tyX6 hi0 hc55 rfl iX6 tyX6_ok nmX6 (by decide) w37 rfl rfl rfl rfl rfl (Nat.le_of_ble_eq_true rfl) rfl dX6_init_96 rfl ?_
  refine zr_aload_n X 100 0 dX6_init_99 rfl rfl ?_
  refine zr_new (kc' := ((((((((((((((((60 - 1) - 1) - 1) - 1) - 1) - 1) - 9) - 1) - 1) - 1) - 1) - 1) - 1) - 1) - 4) - 1)) (ks' := ((((((((((((((((1600 - (6 : Int).toNat) - 2) - ((80 : Int).toNat)) - 2) - ((80 : Int).toNat)) - 4) - 343) - 6) - ((0 : Int).toNat)) - 2) - ((80 : Int).toNat)) - 2) - ((80 : Int).toNat)) - 3) - 245) - 3)) X 103 5 40 [.null, .null, .int (zI (0))] tyX3 rfl iX3 tyX3_ok w31 w32 w33 (zdf_X3) dX6_init_100 rfl (by omega) (by omega) (fun q57 hq58 => ?_)
  refine zr_dup X 104 dX6_init_103 rfl rfl ?_
  refine zr_callIN (kc' := (((((((((((((((((60 - 1) - 1) - 1) - 1) - 1) - 1) - 9) - 1) - 1) - 1) - 1) - 1) - 1) - 1) - 4) - 1) - 4)) (ks' := (((((((((((((((((1600 - (6 : Int).toNat) - 2) - ((80 : Int).toNat)) - 2) - ((80 : Int).toNat)) - 4) - 343) - 6) - ((0 : Int).toNat)) - 2) - ((80 : Int).toNat)) - 2) - ((80 : Int).toNat)) - 3) - 245) - 3) - 245)) X 107 0 3 (m_X3_init l Γ (tp := 44) (tt := 41) (ta := 42) (tc := 43) (zu_eq _ _ _ _) (by decide)) gX6_init_X3_init_n47 rfl w35 rfl w36 rfl (by decide +kernel) rfl (by decide) rfl (Nat.le_of_ble_eq_true rfl) dX6_init_104 rfl (by omega) (by omega) (fun rv59 V60 hp61 => ?_)
  obtain ⟨hp61e, hp61p, hp61b, hp61g, hp61c, hp61k, hp61s, hp61f⟩ := hp61
  rw [hp61e]
  have fr62 : zag zal (zu V52 x 1 (.inr (7, [.ref wa, .ref q1, .ref q9, .ref q17, .ref q25, .ref q33, .ref q41, .ref q49, .null, .null, .int (zI (0)), .int (zI (0)), .int (zI (0)), .int (zI (0))]))) V60 := zbt.new hq58 hp61f
  have hc63 : V60 x = some (1, .inr (7, [.ref wa, .ref q1, .ref q9, .ref q17, .ref q25, .ref q33, .ref q41, .ref q49, .null, .null, .int (zI (0)), .int (zI (0)), .int (zI (0)), .int (zI (0))])) := fr62 _ _ _ (zu_eq _ _ _ _) trivial
  have hc64 : V60 wa = some (2, zq Γ.2.1 3 ((6 : Int).toNat) (fun _ => none)) := fr62 _ _ _ ((zu_ne (Ne.symm (zne_oq hc55 hc56))).trans hc56) trivial
  show zG C V60 (((((((((((((((((60 - 1) - 1) - 1) - 1) - 1) - 1) - 9) - 1) - 1) - 1) - 1) - 1) - 1) - 1) - 4) - 1) - 4) (((((((((((((((((1600 - (6 : Int).toNat) - 2) - ((80 : Int).toNat)) - 2) - ((80 : Int).toNat)) - 4) - 343) - 6) - ((0 : Int).toNat)) - 2) - ((80 : Int).toNat)) - 2) - ((80 : Int).toNat)) - 3) - 245) - 3) - 245) 107 [(0, .ref x)] [.ref q57, .ref x]
  refine zr_putF X 110 7 8 [.ref wa, .ref q1, .ref q9, .ref q17, .ref q25, .ref q33, .ref q41, .ref q49, .ref q57, .null, .int (zI (0)), .int (zI (0)), .int (zI (0)), .int (zI (0))] tyX6 hi0 hc63 rfl iX6 tyX6_ok nmX6 (by decide) w38 rfl rfl rfl rfl rfl (Nat.le_of_ble_eq_true rfl) rfl dX6_init_107 rfl ?_
  refine zr_aload_n X 111 0 dX6_init_110 rfl rfl ?_
  refine zr_new (kc' := ((((((((((((((((((60 - 1) - 1) - 1) - 1) - 1) - 1) - 9) - 1) - 1) - 1) - 1) - 1) - 1) - 1) - 4) - 1) - 4) - 1)) (ks' := ((((((((((((((((((1600 - (6 : Int).toNat) - 2) - ((80 : Int).toNat)) - 2) - ((80 : Int).toNat)) - 4) - 343) - 6) - ((0 : Int).toNat)) - 2) - ((80 : Int).toNat)) - 2) - ((80 : Int).toNat)) - 3) - 245) - 3) - 245) - 3)) X 114 2 45 [.null, .null, .int (zI (0))] tyX0 rfl iX0 tyX0_ok w39 w40 w41 (zdf_X0) dX6_init_111 rfl (by omega) (by omega) (fun q65 hq66 => ?_)
  refine zr_dup X 115 dX6_init_114 rfl rfl ?_
  refine zr_callIN (kc' := (((((((((((((((((((60 - 1) - 1) - 1) - 1) - 1) - 1) - 9) - 1) - 1) - 1) - 1) - 1) - 1) - 1) - 4) - 1) - 4) - 1) - 2)) (ks' := (((((((((((((((((((1600 - (6 : Int).toNat) - 2) - ((80 : Int).toNat)) - 2) - ((80 : Int).toNat)) - 4) - 343) - 6) - ((0 : Int).toNat)) - 2) - ((80 : Int).toNat)) - 2) - ((80 : Int).toNat)) - 3) - 245) - 3) - 245) - 3) - 161)) X 118 0 5 (m_X0_init l Γ (ta := 46) (tc := 47) (zu_eq _ _ _ _) (by decide)) gX6_init_X0_init_n57 rfl w43 rfl w44 rfl (by decide +kernel) rfl (by decide) rfl (Nat.le_of_ble_eq_true rfl) dX6_init_115 rfl (by omega) (by omega) (fun rv67 V68 hp69 => ?_)
  obtain ⟨hp69e, hp69g, hp69c, hp69s, hp69f⟩ := hp69
  rw [hp69e]
  have fr70 : zag zal (zu V60 x 1 (.inr (7, [.ref wa, .ref q1, .ref q9, .ref q17, .ref q25, .ref q33, .ref q41, .ref q49, .ref q57, .null, .int (zI (0)), .int (zI (0)), .int (zI (0)), .int (zI (0))]))) V68 := zbt.new hq66 hp69f
  have hc71 : V68 x = some (1, .inr (7, [.ref wa, .ref q1, .ref q9, .ref q17, .ref q25, .ref q33, .ref q41, .ref q49, .ref q57, .null, .int (zI (0)), .int (zI (0)), .int (zI (0)), .int (zI (0))])) := fr70 _ _ _ (zu_eq _ _ _ _) trivial
  have hc72 : V68 wa = some (2, zq Γ.2.1 3 ((6 : Int).toNat) (fun _ => none)) := fr70 _ _ _ ((zu_ne (Ne.symm (zne_oq hc63 hc64))).trans hc64) trivial
  show zG C V68 (((((((((((((((((((60 - 1) - 1) - 1) - 1) - 1) - 1) - 9) - 1) - 1) - 1) - 1) - 1) - 1) - 1) - 4) - 1) - 4) - 1) - 2) (((((((((((((((((((1600 - (6 : Int).toNat) - 2) - ((80 : Int).toNat)) - 2) - ((80 : Int).toNat)) - 4) - 343) - 6) - ((0 : Int).toNat)) - 2) - ((80 : Int).toNat)) - 2) - ((80 : Int).toNat)) - 3) - 245) - 3) - 245) - 3) - 161) 118 [(0, .ref x)] [.ref q65, .ref x]
  refine zr_putF X 121 7 9 [.ref wa, .ref q1, .ref q9, .ref q17, .ref q25, .ref q33, .ref q41, .ref q49, .ref q57, .ref q65, .int (zI (0)), .int (zI (0)), .int (zI (0)), .int (zI (0))] tyX6 hi0 hc71 rfl iX6 tyX6_ok nmX6 (by decide) w45 rfl rfl rfl rfl rfl (Nat.le_of_ble_eq_true rfl) rfl dX6_init_118 rfl ?_
  refine zr_iconst X 122 dX6_init_121 rfl ?_
  refine zr_istore_n X 123 [(1, .int (zI (0))), (0, .ref x)] dX6_init_122 rfl (by decide) rfl ?_
  refine zr_iload_n X 124 0 dX6_init_123 rfl rfl ?_
  refine zr_aload_n X 125 1 dX6_init_124 rfl rfl ?_
  refine zr_get X 128 7 0 (zu_eq _ _ _ _) rfl iX6 (by decide) w4 rfl rfl dX6_init_125 rfl ?_
  refine zr_alenq X 129 3 ((zu_ne (Ne.symm (zne_oq hc71 hc72))).trans hc72) (by decide) dX6_init_128 rfl ?_
  refine zr_icmp_ge X 153 132 dX6_init_129 rfl rfl (by omega) (by omega) (fun h73 => absurd h73 (by omega)) (fun h73 => ?_)
  refine zr_aload_n X 133 1 dX6_init_132 rfl rfl ?_
  refine zr_get X 136 7 0 (zu_eq _ _ _ _) rfl iX6 (by decide) w4 rfl rfl dX6_init_133 rfl ?_
  refine zr_iload_n X 137 0 dX6_init_136 rfl rfl ?_
  refine zr_new (kc' := ((((((((((((((((((((60 - 1) - 1) - 1) - 1) - 1) - 1) - 9) - 1) - 1) - 1) - 1) - 1) - 1) - 1) - 4) - 1) - 4) - 1) - 2) - 1)) (ks' := ((((((((((((((((((((1600 - (6 : Int).toNat) - 2) - ((80 : Int).toNat)) - 2) - ((80 : Int).toNat)) - 4) - 343) - 6) - ((0 : Int).toNat)) - 2) - ((80 : Int).toNat)) - 2) - ((80 : Int).toNat)) - 3) - 245) - 3) - 245) - 3) - 161) - 6)) X 140 6 10 [.null, .int (zI (0)), .int (zI (0)), .int (zI (0)), .int (zI (0)), .int (zI (0))] tyX5 rfl iX5 tyX5_ok w3 w22 w23 (zdf_X5) dX6_init_137 rfl (by omega) (by omega) (fun q74 hq75 => ?_)
  refine zr_dup X 141 dX6_init_140 rfl rfl ?_
  refine zr_bipush X 143 (12) dX6_init_141 rfl (by decide) ?_
  refine zr_callI (kc' := (((((((((((((((((((((60 - 1) - 1) - 1) - 1) - 1) - 1) - 9) - 1) - 1) - 1) - 1) - 1) - 1) - 1) - 4) - 1) - 4) - 1) - 2) - 1) - 1)) (ks' := (((((((((((((((((((((1600 - (6 : Int).toNat) - 2) - ((80 : Int).toNat)) - 2) - ((80 : Int).toNat)) - 4) - 343) - 6) - ((0 : Int).toNat)) - 2) - ((80 : Int).toNat)) - 2) - ((80 : Int).toNat)) - 3) - 245) - 3) - 245) - 3) - 161) - 6) - ((12 : Int).toNat))) X 146 1 (m_X5_init l Γ (n := 12) (zu_eq _ _ _ _) (by omega)) gX6_init_X5_init rfl w25 w27 w26 rfl (by decide +kernel) rfl (by decide) rfl (Nat.le_of_ble_eq_true rfl) dX6_init_143 rfl (by omega) (by omega) (fun rv76 V77 hp78 => ?_)
  obtain ⟨hp78e, hp78s, hp78f, hp78w⟩ := hp78
  rw [hp78e]
  have fr79 : zag zal (zu V68 x 1 (.inr (7, [.ref wa, .ref q1, .ref q9, .ref q17, .ref q25, .ref q33, .ref q41, .ref q49, .ref q57, .ref q65, .int (zI (0)), .int (zI (0)), .int (zI (0)), .int (zI (0))]))) V77 := zbt.new hq75 hp78f
  have hc80 : V77 x = some (1, .inr (7, [.ref wa, .ref q1, .ref q9, .ref q17, .ref q25, .ref q33, .ref q41, .ref q49, .ref q57, .ref q65, .int (zI (0)), .int (zI (0)), .int (zI (0)), .int (zI (0))])) := fr79 _ _ _ (zu_eq _ _ _ _) trivial
  have hc81 : V77 wa = some (2, zq Γ.2.1 3 ((6 : Int).toNat) (fun _ => none)) := fr79 _ _ _ ((zu_ne (Ne.symm (zne_oq hc71 hc72))).trans hc72) trivial
  show zG C V77 (((((((((((((((((((((60 - 1) - 1) - 1) - 1) - 1) - 1) - 9) - 1) - 1) - 1) - 1) - 1) - 1) - 1) - 4) - 1) - 4) - 1) - 2) - 1) - 1) (((((((((((((((((((((1600 - (6 : Int).toNat) - 2) - ((80 : Int).toNat)) - 2) - ((80 : Int).toNat)) - 4) - 343) - 6) - ((0 : Int).toNat)) - 2) - ((80 : Int).toNat)) - 2) - ((80 : Int).toNat)) - 3) - 245) - 3) - 245) - 3) - 161) - 6) - ((12 : Int).toNat)) 146 [(1, .int (zI (0))), (0, .ref x)] [.ref q74, .int (zI (0)), .ref wa]
  obtain ⟨ow82r, ow82n, ow82s, ow82f, ow82k, -⟩ := id hp78s
  refine zr_aast X 147 hc81 ow82k (by omega) dX6_init_146 rfl ?_
  refine zr_iinc X 150 0 [(1, .int (zI (0 + 1))), (0, .ref x)] dX6_init_147 rfl rfl (by decide) rfl ?_
  show zG C (zu V77 wa 2 (zq Γ.2.1 3 ((6 : Int).toNat) (zg (fun _ => none) (0 : Int).toNat q74))) (((((((((((((((((((((60 - 1) - 1) - 1) - 1) - 1) - 1) - 9) - 1) - 1) - 1) - 1) - 1) - 1) - 1) - 4) - 1) - 4) - 1) - 2) - 1) - 1) (((((((((((((((((((((1600 - (6 : Int).toNat) - 2) - ((80 : Int).toNat)) - 2) - ((80 : Int).toNat)) - 4) - 343) - 6) - ((0 : Int).toNat)) - 2) - ((80 : Int).toNat)) - 2) - ((80 : Int).toNat)) - 3) - 245) - 3) - 245) - 3) - 161) - 6) - ((12 : Int).toNat)) 150 [(1, .int (zI (1))), (0, .ref x)] []
  refine zr_goto X 123 dX6_init_150 rfl ?_
  refine zr_iload_n X 124 0 dX6_init_123 rfl rfl ?_
  refine zr_aload_n X 125 1 dX6_init_124 rfl rfl ?_
  refine zr_get X 128 7 0 ((zu_ne (zne_oq hc80 hc81)).trans hc80) rfl iX6 (by decide) w4 rfl rfl dX6_init_125 rfl ?_
  refine zr_alenq X 129 3 (zu_eq _ _ _ _) (by decide) dX6_init_128 rfl ?_
  refine zr_icmp_ge X 153 132 dX6_init_129 rfl rfl (by omega) (by omega) (fun h83 => absurd h83 (by omega)) (fun h83 => ?_)
  refine zr_aload_n X 133 1 dX6_init_132 rfl rfl ?_
  refine zr_get X 136 7 0 ((zu_ne (zne_oq hc80 hc81)).trans hc80) rfl iX6 (by decide) w4 rfl rfl dX6_init_133 rfl ?_
  refine zr_iload_n X 137 0 dX6_init_136 rfl rfl ?_
  refine zr_new (kc' := ((((((((((((((((((((((60 - 1) - 1) - 1) - 1) - 1) - 1) - 9) - 1) - 1) - 1) - 1) - 1) - 1) - 1) - 4) - 1) - 4) - 1) - 2) - 1) - 1) - 1)) (ks' := ((((((((((((((((((((((1600 - (6 : Int).toNat) - 2) - ((80 : Int).toNat)) - 2) - ((80 : Int).toNat)) - 4) - 343) - 6) - ((0 : Int).toNat)) - 2) - ((80 : Int).toNat)) - 2) - ((80 : Int).toNat)) - 3) - 245) - 3) - 245) - 3) - 161) - 6) - ((12 : Int).toNat)) - 6)) X 140 6 11 [.null, .int (zI (0)), .int (zI (0)), .int (zI (0)), .int (zI (0)), .int (zI (0))] tyX5 rfl iX5 tyX5_ok w3 w22 w23 (zdf_X5) dX6_init_137 rfl (by omega) (by omega) (fun q84 hq85 => ?_)
  refine zr_dup X 141 dX6_init_140 rfl rfl ?_
  refine zr_bipush X 143 (12) dX6_init_141 rfl (by decide) ?_
  refine zr_callI (kc' := (((((((((((((((((((((((60 - 1) - 1) - 1) - 1) - 1) - 1) - 9) - 1) - 1) - 1) - 1) - 1) - 1) - 1) - 4) - 1) - 4) - 1) - 2) - 1) - 1) - 1) - 1)) (ks' := (((((((((((((((((((((((1600 - (6 : Int).toNat) - 2) - ((80 : Int).toNat)) - 2) - ((80 : Int).toNat)) - 4) - 343) - 6) - ((0 : Int).toNat)) - 2) - ((80 : Int).toNat)) - 2) - ((80 : Int).toNat)) - 3) - 245) - 3) - 245) - 3) - 161) - 6) - ((12 : Int).toNat)) - 6) - ((12 : Int).toNat))) X 146 1 (m_X5_init l Γ (n := 12) (zu_eq _ _ _ _) (by omega)) gX6_init_X5_init rfl w25 w27 w26 rfl (by decide +kernel) rfl (by decide) rfl (Nat.le_of_ble_eq_true rfl) dX6_init_143 rfl (by omega) (by omega) (fun rv86 V87 hp88 => ?_)
  obtain ⟨hp88e, hp88s, hp88f, hp88w⟩ := hp88
  rw [hp88e]
  have fr89 : zag zal (zu V77 wa 2 (zq Γ.2.1 3 ((6 : Int).toNat) (zg (fun _ => none) (0 : Int).toNat q74))) V87 := zbt.new hq85 hp88f
  have hc90 : V87 x = some (1, .inr (7, [.ref wa, .ref q1, .ref q9, .ref q17, .ref q25, .ref q33, .ref q41, .ref q49, .ref q57, .ref q65, .int (zI (0)), .int (zI (0)), .int (zI (0)), .int (zI (0))])) := fr89 _ _ _ ((zu_ne (zne_oq hc80 hc81)).trans hc80) trivial
  have hc91 : V87 wa = some (2, zq Γ.2.1 3 ((6 : Int).toNat) (zg (fun _ => none) (0 : Int).toNat q74)) := fr89 _ _ _ (zu_eq _ _ _ _) trivial
  show zG C V87 (((((((((((((((((((((((60 - 1) - 1) - 1) - 1) - 1) - 1) - 9) - 1) - 1) - 1) - 1) - 1) - 1) - 1) - 4) - 1) - 4) - 1) - 2) - 1) - 1) - 1) - 1) (((((((((((((((((((((((1600 - (6 : Int).toNat) - 2) - ((80 : Int).toNat)) - 2) - ((80 : Int).toNat)) - 4) - 343) - 6) - ((0 : Int).toNat)) - 2) - ((80 : Int).toNat)) - 2) - ((80 : Int).toNat)) - 3) - 245) - 3) - 245) - 3) - 161) - 6) - ((12 : Int).toNat)) - 6) - ((12 : Int).toNat)) 146 [(1, .int (zI (1))), (0, .ref x)] [.ref q84, .int (zI (1)), .ref wa]
  obtain ⟨ow92r, ow92n, ow92s, ow92f, ow92k, -⟩ := id hp88s
  refine zr_aast X 147 hc91 ow92k (by omega) dX6_init_146 rfl ?_
  refine zr_iinc X 150 0 [(1, .int (zI (1 + 1))), (0, .ref x)] dX6_init_147 rfl rfl (by decide) rfl ?_
  show zG C (zu V87 wa 2 (zq Γ.2.1 3 ((6 : Int).toNat) (zg (zg (fun _ => none) (0 : Int).toNat q74) (1 : Int).toNat q84))) (((((((((((((((((((((((60 - 1) - 1) - 1) - 1) - 1) - 1) - 9) - 1) - 1) - 1) - 1) - 1) - 1) - 1) - 4) - 1) - 4) - 1) - 2) - 1) - 1) - 1) - 1) (((((((((((((((((((((((1600 - (6 : Int).toNat) - 2) - ((80 : Int).toNat)) - 2) - ((80 : Int).toNat)) - 4) - 343) - 6) - ((0 : Int).toNat)) - 2) - ((80 : Int).toNat)) - 2) - ((80 : Int).toNat)) - 3) - 245) - 3) - 245) - 3) - 161) - 6) - ((12 : Int).toNat)) - 6) - ((12 : Int).toNat)) 150 [(1, .int (zI (2))), (0, .ref x)] []
  refine zr_goto X 123 dX6_init_150 rfl ?_
  refine zr_iload_n X 124 0 dX6_init_123 rfl rfl ?_
  refine zr_aload_n X 125 1 dX6_init_124 rfl rfl ?_
  refine zr_get X 128 7 0 ((zu_ne (zne_oq hc90 hc91)).trans hc90) rfl iX6 (by decide) w4 rfl rfl dX6_init_125 rfl ?_
  refine zr_alenq X 129 3 (zu_eq _ _ _ _) (by decide) dX6_init_128 rfl ?_
  refine zr_icmp_ge X 153 132 dX6_init_129 rfl rfl (by omega) (by omega) (fun h93 => absurd h93 (by omega)) (fun h93 => ?_)
  refine zr_aload_n X 133 1 dX6_init_132 rfl rfl ?_
  refine zr_get X 136 7 0 ((zu_ne (zne_oq hc90 hc91)).trans hc90) rfl iX6 (by decide) w4 rfl rfl dX6_init_133 rfl ?_
  refine zr_iload_n X 137 0 dX6_init_136 rfl rfl ?_
  refine zr_new (kc' := ((((((((((((((((((((((((60 - 1) - 1) - 1) - 1) - 1) - 1) - 9) - 1) - 1) - 1) - 1) - 1) - 1) - 1) - 4) - 1) - 4) - 1) - 2) - 1) - 1) - 1) - 1) - 1)) (ks' := ((((((((((((((((((((((((1600 - (6 : Int).toNat) - 2) - ((80 : Int).toNat)) - 2) - ((80 : Int).toNat)) - 4) - 343) - 6) - ((0 : Int).toNat)) - 2) - ((80 : Int).toNat)) - 2) - ((80 : Int).toNat)) - 3) - 245) - 3) - 245) - 3) - 161) - 6) - ((12 : Int).toNat)) - 6) - ((12 : Int).toNat)) - 6)) X 140 6 12 [.null, .int (zI (0)), .int (zI (0)), .int (zI (0)), .int (zI (0)), .int (zI (0))] tyX5 rfl iX5 tyX5_ok w3 w22 w23 (zdf_X5) dX6_init_137 rfl (by omega) (by omega) (fun q94 hq95 => ?_)
  refine zr_dup X 141 dX6_init_140 rfl rfl ?_
  refine zr_bipush X 143 (12) dX6_init_141 rfl (by decide) ?_
  refine zr_callI (kc' := (((((((((((((((((((((((((60 - 1) - 1) - 1) - 1) - 1) - 1) - 9) - 1) - 1) - 1) - 1) - 1) - 1) - 1) - 4) - 1) - 4) - 1) - 2) - 1) - 1) - 1) - 1) - 1) - 1)) (ks' := (((((((((((((((((((((((((1600 - (6 : Int).toNat) - 2) - ((80 : Int).toNat)) - 2) - ((80 : Int).toNat)) - 4) - 343) - 6) - ((0 : Int).toNat)) - 2) - ((80 : Int).toNat)) - 2) - ((80 : Int).toNat)) - 3) - 245) - 3) - 245) - 3) - 161) - 6) - ((12 : Int).toNat)) - 6) - ((12 : Int).toNat)) - 6) - ((12 : Int).toNat))) X 146 1 (m_X5_init l Γ (n := 12) (zu_eq _ _ _ _) (by omega)) gX6_init_X5_init rfl w25 w27 w26 rfl (by decide +kernel) rfl (by decide) rfl (Nat.le_of_ble_eq_true rfl) dX6_init_143 rfl (by omega) (by omega) (fun rv96 V97 hp98 => ?_)
  obtain ⟨hp98e, hp98s, hp98f, hp98w⟩ := hp98
  rw [hp98e]
  have fr99 : zag zal (zu V87 wa 2 (zq Γ.2.1 3 ((6 : Int).toNat) (zg (zg (fun _ => none) (0 : Int).toNat q74) (1 : Int).toNat q84))) V97 := zbt.new hq95 hp98f
  have hc100 : V97 x = some (1, .inr (7, [.ref wa, .ref q1, .ref q9, .ref q17, .ref q25, .ref q33, .ref q41, .ref q49, .ref q57, .ref q65, .int (zI (0)), .int (zI (0)), .int (zI (0)), .int (zI (0))])) := fr99 _ _ _ ((zu_ne (zne_oq hc90 hc91)).trans hc90) trivial
  have hc101 : V97 wa = some (2, zq Γ.2.1 3 ((6 : Int).toNat) (zg (zg (fun _ => none) (0 : Int).toNat q74) (1 : Int).toNat q84)) := fr99 _ _ _ (zu_eq _ _ _ _) trivial
  show zG C V97 (((((((((((((((((((((((((60 - 1) - 1) - 1) - 1) - 1) - 1) - 9) - 1) - 1) - 1) - 1) - 1) - 1) - 1) - 4) - 1) - 4) - 1) - 2) - 1) - 1) - 1) - 1) - 1) - 1) (((((((((((((((((((((((((1600 - (6 : Int).toNat) - 2) - ((80 : Int).toNat)) - 2) - ((80 : Int).toNat)) - 4) - 343) - 6) - ((0 : Int).toNat)) - 2) - ((80 : Int).toNat)) - 2) - ((80 : Int).toNat)) - 3) - 245) - 3) - 245) - 3) - 161) - 6) - ((12 : Int).toNat)) - 6) - ((12 : Int).toNat)) - 6) - ((12 : Int).toNat)) 146 [(1, .int (zI (2))), (0, .ref x)] [.ref q94, .int (zI (2)), .ref wa]
  obtain ⟨ow102r, ow102n, ow102s, ow102f, ow102k, -⟩ := id hp98s
  refine zr_aast X 147 hc101 ow102k (by omega) dX6_init_146 rfl ?_
  refine zr_iinc X 150 0 [(1, .int (zI (2 + 1))), (0, .ref x)] dX6_init_147 rfl rfl (by decide) rfl ?_
  show zG C (zu V97 wa 2 (zq Γ.2.1 3 ((6 : Int).toNat) (zg (zg (zg (fun _ => none) (0 : Int).toNat q74) (1 : Int).toNat q84) (2 : Int).toNat q94))) (((((((((((((((((((((((((60 - 1) - 1) - 1) - 1) - 1) - 1) - 9) - 1) - 1) - 1) - 1) - 1) - 1) - 1) - 4) - 1) - 4) - 1) - 2) - 1) - 1) - 1) - 1) - 1) - 1) (((((((((((((((((((((((((1600 - (6 : Int).toNat) - 2) - ((80 : Int).toNat)) - 2) - ((80 : Int).toNat)) - 4) - 343) - 6) - ((0 : Int).toNat)) - 2) - ((80 : Int).toNat)) - 2) - ((80 : Int).toNat)) - 3) - 245) - 3) - 245) - 3) - 161) - 6) - ((12 : Int).toNat)) - 6) - ((12 : Int).toNat)) - 6) - ((12 : Int).toNat)) 150 [(1, .int (zI (3))), (0, .ref x)] []
  refine zr_goto X 123 dX6_init_150 rfl ?_
  refine zr_iload_n X 124 0 dX6_init_123 rfl rfl ?_
  refine zr_aload_n X 125 1 dX6_init_124 rfl rfl ?_
  refine zr_get X 128 7 0 ((zu_ne (zne_oq hc100 hc101)).trans hc100) rfl iX6 (by decide) w4 rfl rfl dX6_init_125 rfl ?_
  refine zr_alenq X 129 3 (zu_eq _ _ _ _) (by decide) dX6_init_128 rfl ?_
  refine zr_icmp_ge X 153 132 dX6_init_129 rfl rfl (by omega) (by omega) (fun h103 => absurd h103 (by omega)) (fun h103 => ?_)
  refine zr_aload_n X 133 1 dX6_init_132 rfl rfl ?_
  refine zr_get X 136 7 0 ((zu_ne (zne_oq hc100 hc101)).trans hc100) rfl iX6 (by decide) w4 rfl rfl dX6_init_133 rfl ?_
  refine zr_iload_n X 137 0 dX6_init_136 rfl rfl ?_
  refine zr_new (kc' := ((((((((((((((((((((((((((60 - 1) - 1) - 1) - 1) - 1) - 1) - 9) - 1) - 1) - 1) - 1) - 1) - 1) - 1) - 4) - 1) - 4) - 1) - 2) - 1) - 1) - 1) - 1) - 1) - 1) - 1)) (ks' := ((((((((((((((((((((((((((1600 - (6 : Int).toNat) - 2) - ((80 : Int).toNat)) - 2) - ((80 : Int).toNat)) - 4) - 343) - 6) - ((0 : Int).toNat)) - 2) - ((80 : Int).toNat)) - 2) - ((80 : Int).toNat)) - 3) - 245) - 3) - 245) - 3) - 161) - 6) - ((12 : Int).toNat)) - 6) - ((12 : Int).toNat)) - 6) - ((12 : Int).toNat)) - 6)) X 140 6 13 [.null, .int (zI (0)), .int (zI (0)), .int (zI (0)), .int (zI (0)), .int (zI (0))] tyX5 rfl iX5 tyX5_ok w3 w22 w23 (zdf_X5) dX6_init_137 rfl (by omega) (by omega) (fun q104 hq105 => ?_)
  refine zr_dup X 141 dX6_init_140 rfl rfl ?_
  refine zr_bipush X 143 (12) dX6_init_141 rfl (by decide) ?_
  refine zr_callI (kc' := (((((((((((((((((((((((((((60 - 1) - 1) - 1) - 1) - 1) - 1) - 9) - 1) - 1) - 1) - 1) - 1) - 1) - 1) - 4) - 1) - 4) - 1) - 2) - 1) - 1) - 1) - 1) - 1) - 1) - 1) - 1)) (ks' := (((((((((((((((((((((((((((1600 - (6 : Int).toNat) - 2) - ((80 : Int).toNat)) - 2) - ((80 : Int).toNat)) - 4) - 343) - 6) - ((0 : Int).toNat)) - 2) - ((80 : Int).toNat)) - 2) - ((80 : Int).toNat)) - 3) - 245) - 3) - 245) - 3) - 161) - 6) - ((12 : Int).toNat)) - 6) - ((12 : Int).toNat)) - 6) - ((12 : Int).toNat)) - 6) - ((12 : Int).toNat))) X 146 1 (m_X5_init l Γ (n := 12) (zu_eq _ _ _ _) (by omega)) gX6_init_X5_init rfl w25 w27 w26 rfl (by decide +kernel) rfl (by decide) rfl (Nat.le_of_ble_eq_true rfl) dX6_init_143 rfl (by omega) (by omega) (fun rv106 V107 hp108 => ?_)
  obtain ⟨hp108e, hp108s, hp108f, hp108w⟩ := hp108
  rw [hp108e]
  have fr109 : zag zal (zu V97 wa 2 (zq Γ.2.1 3 ((6 : Int).toNat) (zg (zg (zg (fun _ => none) (0 : Int).toNat q74) (1 : Int).toNat q84) (2 : Int).toNat q94))) V107 := zbt.new hq105 hp108f
  have hc110 : V107 x = some (1, .inr (7, [.ref wa, .ref q1, .ref q9, .ref q17, .ref q25, .ref q33, .ref q41, .ref q49, .ref q57, .ref q65, .int (zI (0)), .int (zI (0)), .int (zI (0)), .int (zI (0))])) := fr109 _ _ _ ((zu_ne (zne_oq hc100 hc101)).trans hc100) trivial
  have hc111 : V107 wa = some (2, zq Γ.2.1 3 ((6 : Int).toNat) (zg (zg (zg (fun _ => none) (0 : Int).toNat q74) (1 : Int).toNat q84) (2 : Int).toNat q94)) := fr109 _ _ _ (zu_eq _ _ _ _) trivial
  show zG C V107 (((((((((((((((((((((((((((60 - 1) - 1) - 1) - 1) - 1) - 1) - 9) - 1) - 1) - 1) - 1) - 1) - 1) - 1) - 4) - 1) - 4) - 1) - 2) - 1) - 1) - 1) - 1) - 1) - 1) - 1) - 1) (((((((((((((((((((((((((((1600 - (6 : Int).toNat) - 2) - ((80 : Int).toNat)) - 2) - ((80 : Int).toNat)) - 4) - 343) - 6) - ((0 : Int).toNat)) - 2) - ((80 : Int).toNat)) - 2) - ((80 : Int).toNat)) - 3) - 245) - 3) - 245) - 3) - 161) - 6) - ((12 : Int).toNat)) - 6) - ((12 : Int).toNat)) - 6) - ((12 : Int).toNat)) - 6) - ((12 : Int).toNat)) 146 [(1, .int (zI (3))), (0, .ref x)] [.ref q104, .int (zI (3)), .ref wa]
  obtain ⟨ow112r, ow112n, ow112s, ow112f, ow112k, -⟩ := id hp108s
  refine zr_aast X 147 hc111 ow112k (by omega) dX6_init_146 rfl ?_
  refine zr_iinc X 150 0 [(1, .int (zI (3 + 1))), (0, .ref x)] dX6_init_147 rfl rfl (by decide) rfl ?_
  show zG C (zu V107 wa 2 (zq Γ.2.1 3 ((6 : Int).toNat) (zg (zg (zg (zg (fun _ => none) (0 : Int).toNat q74) (1 : Int).toNat q84) (2 : Int).toNat q94) (3 : Int).toNat q104))) (((((((((((((((((((((((((((60 - 1) - 1) - 1) - 1) - 1) - 1) - 9) - 1) - 1) - 1) - 1) - 1) - 1) - 1) - 4) - 1) - 4) - 1) - 2) - 1) - 1) - 1) - 1) - 1) - 1) - 1) - 1) (((((((((((((((((((((((((((1600 - (6 : Int).toNat) - 2) - ((80 : Int).toNat)) - 2) - ((80 : Int).toNat)) - 4) - 343) - 6) - ((0 : Int).toNat)) - 2) - ((80 : Int).toNat)) - 2) - ((80 : Int).toNat)) - 3) - 245) - 3) - 245) - 3) - 161) - 6) - ((12 : Int).toNat)) - 6) - ((12 : Int).toNat)) - 6) - ((12 : Int).toNat)) - 6) - ((12 : Int).toNat)) 150 [(1, .int (zI (4))), (0, .ref x)] []
  refine zr_goto X 123 dX6_init_150 rfl ?_
  refine zr_iload_n X 124 0 dX6_init_123 rfl rfl ?_
  refine zr_aload_n X 125 1 dX6_init_124 rfl rfl ?_
  refine zr_get X 128 7 0 ((zu_ne (zne_oq hc110 hc111)).trans hc110) rfl iX6 (by decide) w4 rfl rfl dX6_init_125 rfl ?_
  refine zr_alenq X 129 3 (zu_eq _ _ _ _) (by decide) dX6_init_128 rfl ?_
  refine zr_icmp_ge X 153 132 dX6_init_129 rfl rfl (by omega) (by omega) (fun h113 => absurd h113 (by omega)) (fun h113 => ?_)
  refine zr_aload_n X 133 1 dX6_init_132 rfl rfl ?_
  refine zr_get X 136 7 0 ((zu_ne (zne_oq hc110 hc111)).trans hc110) rfl iX6 (by decide) w4 rfl rfl dX6_init_133 rfl ?_
  refine zr_iload_n X 137 0 dX6_init_136 rfl rfl ?_
  refine zr_new (kc' := ((((((((((((((((((((((((((((60 - 1) - 1) - 1) - 1) - 1) - 1) - 9) - 1) - 1) - 1) - 1) - 1) - 1) - 1) - 4) - 1) - 4) - 1) - 2) - 1) - 1) - 1) - 1) - 1) - 1) - 1) - 1) - 1)) (ks' := ((((((((((((((((((((((((((((1600 - (6 : Int).toNat) - 2) - ((80 : Int).toNat)) - 2) - ((80 : Int).toNat)) - 4) - 343) - 6) - ((0 : Int).toNat)) - 2) - ((80 : Int).toNat)) - 2) - ((80 : Int).toNat)) - 3) - 245) - 3) - 245) - 3) - 161) - 6) - ((12 : Int).toNat)) - 6) - ((12 : Int).toNat)) - 6) - ((12 : Int).toNat)) - 6) - ((12 : Int).toNat)) - 6)) X 140 6 14 [.null, .int (zI (0)), .int (zI (0)), .int (zI (0)), .int (zI (0)), .int (zI (0))] tyX5 rfl iX5 tyX5_ok w3 w22 w23 (zdf_X5) dX6_init_137 rfl (by omega) (by omega) (fun q114 hq115 => ?_)
  refine zr_dup X 141 dX6_init_140 rfl rfl ?_
  refine zr_bipush X 143 (12) dX6_init_141 rfl (by decide) ?_
  refine zr_callI (kc' := (((((((((((((((((((((((((((((60 - 1) - 1) - 1) - 1) - 1) - 1) - 9) - 1) - 1) - 1) - 1) - 1) - 1) - 1) - 4) - 1) - 4) - 1) - 2) - 1) - 1) - 1) - 1) - 1) - 1) - 1) - 1) - 1) - 1)) (ks' := (((((((((((((((((((((((((((((1600 - (6 : Int).toNat) - 2) - ((80 : Int).toNat)) - 2) - ((80 : Int).toNat)) - 4) - 343) - 6) - ((0 : Int).toNat)) - 2) - ((80 : Int).toNat)) - 2) - ((80 : Int).toNat)) - 3) - 245) - 3) - 245) - 3) - 161) - 6) - ((12 : Int).toNat)) - 6) - ((12 : Int).toNat)) - 6) - ((12 : Int).toNat)) - 6) - ((12 : Int).toNat)) - 6) - ((12 : Int).toNat))) X 146 1 (m_X5_init l Γ (n := 12) (zu_eq _ _ _ _) (by omega)) gX6_init_X5_init rfl w25 w27 w26 rfl (by decide +kernel) rfl (by decide) rfl (Nat.le_of_ble_eq_true rfl) dX6_init_143 rfl (by omega) (by omega) (fun rv116 V117 hp118 => ?_)
  obtain ⟨hp118e, hp118s, hp118f, hp118w⟩ := hp118
  rw [hp118e]
  have fr119 : zag zal (zu V107 wa 2 (zq Γ.2.1 3 ((6 : Int).toNat) (zg (zg (zg (zg (fun _ => none) (0 : Int).toNat q74) (1 : Int).toNat q84) (2 : Int).toNat q94) (3 : Int).toNat q104))) V117 := zbt.new hq115 hp118f
  have hc120 : V117 x = some (1, .inr (7, [.ref wa, .ref q1, .ref q9, .ref q17, .ref q25, .ref q33, .ref q41, .ref q49, .ref q57, .ref q65, .int (zI (0)), .int (zI (0)), .int (zI (0)), .int (zI (0))])) := fr119 _ _ _ ((zu_ne (zne_oq hc110 hc111)).trans hc110) trivial
  have hc121 : V117 wa = some (2, zq Γ.2.1 3 ((6 : Int).toNat) (zg (zg (zg (zg (fun _ => none) (0 : Int).toNat q74) (1 : Int).toNat q84) (2 : Int).toNat q94) (3 : Int).toNat q104)) := fr119 _ _ _ (zu_eq _ _ _ _) trivial
  show zG C V117 (((((((((((((((((((((((((((((60 - 1) - 1) - 1) - 1) - 1) - 1) - 9) - 1) - 1) - 1) - 1) - 1) - 1) - 1) - 4) - 1) - 4) - 1) - 2) - 1) - 1) - 1) - 1) - 1) - 1) - 1) - 1) - 1) - 1) (((((((((((((((((((((((((((((1600 - (6 : Int).toNat) - 2) - ((80 : Int).toNat)) - 2) - ((80 : Int).toNat)) - 4) - 343) - 6) - ((0 : Int).toNat)) - 2) - ((80 : Int).toNat)) - 2) - ((80 : Int).toNat)) - 3) - 245) - 3) - 245) - 3) - 161) - 6) - ((12 : Int).toNat)) - 6) - ((12 : Int).toNat)) - 6) - ((12 : Int).toNat)) - 6) - ((12 : Int).toNat)) - 6) - ((12 : Int).toNat)) 146 [(1, .int (zI (4))), (0, .ref x)] [.ref q114, .int (zI (4)), .ref wa]
  obtain ⟨ow122r, ow122n, ow122s, ow122f, ow122k, -⟩ := id hp118s
  refine zr_aast X 147 hc121 ow122k (by omega) dX6_init_146 rfl ?_
  refine zr_iinc X 150 0 [(1, .int (zI (4 + 1))), (0, .ref x)] dX6_init_147 rfl rfl (by decide) rfl ?_
  show zG C (zu V117 wa 2 (zq Γ.2.1 3 ((6 : Int).toNat) (zg (zg (zg (zg (zg (fun _ => none) (0 : Int).toNat q74) (1 : Int).toNat q84) (2 : Int).toNat q94) (3 : Int).toNat q104) (4 : Int).toNat q114))) (((((((((((((((((((((((((((((60 - 1) - 1) - 1) - 1) - 1) - 1) - 9) - 1) - 1) - 1) - 1) - 1) - 1) - 1) - 4) - 1) - 4) - 1) - 2) - 1) - 1) - 1) - 1) - 1) - 1) - 1) - 1) - 1) - 1) (((((((((((((((((((((((((((((1600 - (6 : Int).toNat) - 2) - ((80 : Int).toNat)) - 2) - ((80 : Int).toNat)) - 4) - 343) - 6) - ((0 : Int).toNat)) - 2) - ((80 : Int).toNat)) - 2) - ((80 : Int).toNat)) - 3) - 245) - 3) - 245) - 3) - 161) - 6) - ((12 : Int).toNat)) - 6) - ((12 : Int).toNat)) - 6) - ((12 : Int).toNat)) - 6) - ((12 : Int).toNat)) - 6) - ((12 : Int).toNat)) 150 [(1, .int (zI (5))), (0, .ref x)] []
  refine zr_goto X 123 dX6_init_150 rfl ?_
  refine zr_iload_n X 124 0 dX6_init_123 rfl rfl ?_
  refine zr_aload_n X 125 1 dX6_init_124 rfl rfl ?_
  refine zr_get X 128 7 0 ((zu_ne (zne_oq hc120 hc121)).trans hc120) rfl iX6 (by decide) w4 rfl rfl dX6_init_125 rfl ?_
  refine zr_alenq X 129 3 (zu_eq _ _ _ _) (by decide) dX6_init_128 rfl ?_
  refine zr_icmp_ge X 153 132 dX6_init_129 rfl rfl (by omega) (by omega) (fun h123 => absurd h123 (by omega)) (fun h123 => ?_)
  refine zr_aload_n X 133 1 dX6_init_132 rfl rfl ?_
  refine zr_get X 136 7 0 ((zu_ne (zne_oq hc120 hc121)).trans hc120) rfl iX6 (by decide) w4 rfl rfl dX6_init_133 rfl ?_
  refine zr_iload_n X 137 0 dX6_init_136 rfl rfl ?_
  refine zr_new (kc' := ((((((((((((((((((((((((((((((60 - 1) - 1) - 1) - 1) - 1) - 1) - 9) - 1) - 1) - 1) - 1) - 1) - 1) - 1) - 4) - 1) - 4) - 1) - 2) - 1) - 1) - 1) - 1) - 1) - 1) - 1) - 1) - 1) - 1) - 1)) (ks' := ((((((((((((((((((((((((((((((1600 - (6 : Int).toNat) - 2) - ((80 : Int).toNat)) - 2) - ((80 : Int).toNat)) - 4) - 343) - 6) - ((0 : Int).toNat)) - 2) - ((80 : Int).toNat)) - 2) - ((80 : Int).toNat)) - 3) - 245) - 3) - 245) - 3) - 161) - 6) - ((12 : Int).toNat)) - 6) - ((12 : Int).toNat)) - 6) - ((12 : Int).toNat)) - 6) - ((12 : Int).toNat)) - 6) - ((12 : Int).toNat)) - 6)) X 140 6 15 [.null, .int (zI (0)), .int (zI (0)), .int (zI (0)), .int (zI (0)), .int (zI (0))] tyX5 rfl iX5 tyX5_ok w3 w22 w23 (zdf_X5) dX6_init_137 rfl (by omega) (by omega) (fun q124 hq125 => ?_)
  refine zr_dup X 141 dX6_init_140 rfl rfl ?_
  refine zr_bipush X 143 (12) dX6_init_141 rfl (by decide) ?_
  refine zr_callI (kc' := (((((((((((((((((((((((((((((((60 - 1) - 1) - 1) - 1) - 1) - 1) - 9) - 1) - 1) - 1) - 1) - 1) - 1) - 1) - 4) - 1) - 4) - 1) - 2) - 1) - 1) - 1) - 1) - 1) - 1) - 1) - 1) - 1) - 1) - 1) - 1)) (ks' := (((((((((((((((((((((((((((((((1600 - (6 : Int).toNat) - 2) - ((80 : Int).toNat)) - 2) - ((80 : Int).toNat)) - 4) - 343) - 6) - ((0 : Int).toNat)) - 2) - ((80 : Int).toNat)) - 2) - ((80 : Int).toNat)) - 3) - 245) - 3) - 245) - 3) - 161) - 6) - ((12 : Int).toNat)) - 6) - ((12 : Int).toNat)) - 6) - ((12 : Int).toNat)) - 6) - ((12 : Int).toNat)) - 6) - ((12 : Int).toNat)) - 6) - ((12 : Int).toNat))) X 146 1 (m_X5_init l Γ (n := 12) (zu_eq _ _ _ _) (by omega)) gX6_init_X5_init rfl w25 w27 w26 rfl (by decide +kernel) rfl (by decide) rfl (Nat.le_of_ble_eq_true rfl) dX6_init_143 rfl (by omega) (by omega) (fun rv126 V127 hp128 => ?_)
  obtain ⟨hp128e, hp128s, hp128f, hp128w⟩ := hp128
  rw [hp128e]
  have fr129 : zag zal (zu V117 wa 2 (zq Γ.2.1 3 ((6 : Int).toNat) (zg (zg (zg (zg (zg (fun _ => none) (0 : Int).toNat q74) (1 : Int).toNat q84) (2 : Int).toNat q94) (3 : Int).toNat q104) (4 : Int).toNat q114))) V127 := zbt.new hq125 hp128f
  have hc130 : V127 x = some (1, .inr (7, [.ref wa, .ref q1, .ref q9, .ref q17, .ref q25, .ref q33, .ref q41, .ref q49, .ref q57, .ref q65, .int (zI (0)), .int (zI (0)), .int (zI (0)), .int (zI (0))])) := fr129 _ _ _ ((zu_ne (zne_oq hc120 hc121)).trans hc120) trivial
  have hc131 : V127 wa = some (2, zq Γ.2.1 3 ((6 : Int).toNat) (zg (zg (zg (zg (zg (fun _ => none) (0 : Int).toNat q74) (1 : Int).toNat q84) (2 : Int).toNat q94) (3 : Int).toNat q104) (4 : Int).toNat q114)) := fr129 _ _ _ (zu_eq _ _ _ _) trivial
  show zG C V127 (((((((((((((((((((((((((((((((60 - 1) - 1) - 1) - 1) - 1) - 1) - 9) - 1) - 1) - 1) - 1) - 1) - 1) - 1) - 4) - 1) - 4) - 1) - 2) - 1) - 1) - 1) - 1) - 1) - 1) - 1) - 1) - 1) - 1) - 1) - 1) (((((((((((((((((((((((((((((((1600 - (6 : Int).toNat) - 2) - ((80 : Int).toNat)) - 2) - ((80 : Int).toNat)) - 4) - 343) - 6) - ((0 : Int).toNat)) - 2) - ((80 : Int).toNat)) - 2) - ((80 : Int).toNat)) - 3) - 245) - 3) - 245) - 3) - 161) - 6) - ((12 : Int).toNat)) - 6) - ((12 : Int).toNat)) - 6) - ((12 : Int).toNat)) - 6) - ((12 : Int).toNat)) - 6) - ((12 : Int).toNat)) - 6) - ((12 : Int).toNat)) 146 [(1, .int (zI (5))), (0, .ref x)] [.ref q124, .int (zI (5)), .ref wa]
  obtain ⟨ow132r, ow132n, ow132s, ow132f, ow132k, -⟩ := id hp128s
  refine zr_aast X 147 hc131 ow132k (by omega) dX6_init_146 rfl ?_
  refine zr_iinc X 150 0 [(1, .int (zI (5 + 1))), (0, .ref x)] dX6_init_147 rfl rfl (by decide) rfl ?_
  show zG C (zu V127 wa 2 (zq Γ.2.1 3 ((6 : Int).toNat) (zg (zg (zg (zg (zg (zg (fun _ => none) (0 : Int).toNat q74) (1 : Int).toNat q84) (2 : Int).toNat q94) (3 : Int).toNat q104) (4 : Int).toNat q114) (5 : Int).toNat q124))) (((((((((((((((((((((((((((((((60 - 1) - 1) - 1) - 1) - 1) - 1) - 9) - 1) - 1) - 1) - 1) - 1) - 1) - 1) - 4) - 1) - 4) - 1) - 2) - 1) - 1) - 1) - 1) - 1) - 1) - 1) - 1) - 1) - 1) - 1) - 1) (((((((((((((((((((((((((((((((1600 - (6 : Int).toNat) - 2) - ((80 : Int).toNat)) - 2) - ((80 : Int).toNat)) - 4) - 343) - 6) - ((0 : Int).toNat)) - 2) - ((80 : Int).toNat)) - 2) - ((80 : Int).toNat)) - 3) - 245) - 3) - 245) - 3) - 161) - 6) - ((12 : Int).toNat)) - 6) - ((12 : Int).toNat)) - 6) - ((12 : Int).toNat)) - 6) - ((12 : Int).toNat)) - 6) - ((12 : Int).toNat)) - 6) - ((12 : Int).toNat)) 150 [(1, .int (zI (6))), (0, .ref x)] []
  refine zr_goto X 123 dX6_init_150 rfl ?_
  refine zr_iload_n X 124 0 dX6_init_123 rfl rfl ?_
  refine zr_aload_n X 125 1 dX6_init_124 rfl rfl ?_
  refine zr_get X 128 7 0 ((zu_ne (zne_oq hc130 hc131)).trans hc130) rfl iX6 (by decide) w4 rfl rfl dX6_init_125 rfl ?_
  refine zr_alenq X 129 3 (zu_eq _ _ _ _) (by decide) dX6_init_128 rfl ?_
  refine zr_icmp_ge X 153 132 dX6_init_129 rfl rfl (by omega) (by omega) (fun h133 => ?_) (fun h133 => absurd (show (6 : Int) ≥ ((6 : Int).toNat : Nat) by omega) h133)
  refine zr_same X (fun i => some ((zad [0, x, wa, 0, 0, 0, 0, 0, 0, 0, q74, q84, q94, q104, q114, q124, q25, 0, 0, 0, q1, hp5g, q9, hp13g, q17, hp21a1, hp21g1, hp21a2, hp21g2, hp21a3, hp21g3, q33, hp37g, q41, hp45g, q49, hp53b, hp53g, hp53c, hp53p, q57, hp61b, hp61g, hp61c, hp61p, q65, hp69g, hp69c, 0, 0, 0]) (10 + i))) (zu_eq _ _ _ _) (fun i hi => by
    rcases (by omega : i = 0 ∨ i = 1 ∨ i = 2 ∨ i = 3 ∨ i = 4 ∨ i = 5) with rfl | rfl | rfl | rfl | rfl | rfl <;> rfl) ?_
  refine zr_view (zu_zu _ _ _ _ _ _) ?_
  have en134 : zag zp12 V127 (zu V127 wa 2 (zq Γ.2.1 3 (6 : Int).toNat (fun i => some ((zad [0, x, wa, 0, 0, 0, 0, 0, 0, 0, q74, q84, q94, q104, q114, q124, q25, 0, 0, 0, q1, hp5g, q9, hp13g, q17, hp21a1, hp21g1, hp21a2, hp21g2, hp21a3, hp21g3, q33, hp37g, q41, hp45g, q49, hp53b, hp53g, hp53c, hp53p, q57, hp61b, hp61g, hp61c, hp61p, q65, hp69g, hp69c, 0, 0, 0]) (10 + i))))) := zag.set (zag.rf) hc131 (fun z9 => z9.2 rfl)
  have en135 : zag zp12 V117 (zu V127 wa 2 (zq Γ.2.1 3 (6 : Int).toNat (fun i => some ((zad [0, x, wa, 0, 0, 0, 0, 0, 0, 0, q74, q84, q94, q104, q114, q124, q25, 0, 0, 0, q1, hp5g, q9, hp13g, q17, hp21a1, hp21g1, hp21a2, hp21g2, hp21a3, hp21g3, q33, hp37g, q41, hp45g, q49, hp53b, hp53g, hp53c, hp53p, q57, hp61b, hp61g, hp61c, hp61p, q65, hp69g, hp69c, 0, 0, 0]) (10 + i))))) := (zag.tr (zag.set (zag.rf) hc121 (fun z9 => z9.2 rfl)) (fr129.mono (fun _ _ => trivial))).tr en134
  have en136 : zag zp12 V107 (zu V127 wa 2 (zq Γ.2.1 3 (6 : Int).toNat (fun i => some ((zad [0, x, wa, 0, 0, 0, 0, 0, 0, 0, q74, q84, q94, q104, q114, q124, q25, 0, 0, 0, q1, hp5g, q9, hp13g, q17, hp21a1, hp21g1, hp21a2, hp21g2, hp21a3, hp21g3, q33, hp37g, q41, hp45g, q49, hp53b, hp53g, hp53c, hp53p, q57, hp61b, hp61g, hp61c, hp61p, q65, hp69g, hp69c, 0, 0, 0]) (10 + i))))) := (zag.tr (zag.set (zag.rf) hc111 (fun z9 => z9.2 rfl)) (fr119.mono (fun _ _ => trivial))).tr en135
  have en137 : zag zp12 V97 (zu V127 wa 2 (zq Γ.2.1 3 (6 : Int).toNat (fun i => some ((zad [0, x, wa, 0, 0, 0, 0, 0, 0, 0, q74, q84, q94, q104, q114, q124, q25, 0, 0, 0, q1, hp5g, q9, hp13g, q17, hp21a1, hp21g1, hp21a2, hp21g2, hp21a3, hp21g3, q33, hp37g, q41, hp45g, q49, hp53b, hp53g, hp53c, hp53p, q57, hp61b, hp61g, hp61c, hp61p, q65, hp69g, hp69c, 0, 0, 0]) (10 + i))))) := (zag.tr (zag.set (zag.rf) hc101 (fun z9 => z9.2 rfl)) (fr109.mono (fun _ _ => trivial))).tr en136
  have en138 : zag zp12 V87 (zu V127 wa 2 (zq Γ.2.1 3 (6 : Int).toNat (fun i => some ((zad [0, x, wa, 0, 0, 0, 0, 0, 0, 0, q74, q84, q94, q104, q114, q124, q25, 0, 0, 0, q1, hp5g, q9, hp13g, q17, hp21a1, hp21g1, hp21a2, hp21g2, hp21a3, hp21g3, q33, hp37g, q41, hp45g, q49, hp53b, hp53g, hp53c, hp53p, q57, hp61b, hp61g, hp61c, hp61p, q65, hp69g, hp69c, 0, 0, 0]) (10 + i))))) := (zag.tr (zag.set (zag.rf) hc91 (fun z9 => z9.2 rfl)) (fr99.mono (fun _ _ => trivial))).tr en137
  have en139 : zag zp12 V77 (zu V127 wa 2 (zq Γ.2.1 3 (6 : Int).toNat (fun i => some ((zad [0, x, wa, 0, 0, 0, 0, 0, 0, 0, q74, q84, q94, q104, q114, q124, q25, 0, 0, 0, q1, hp5g, q9, hp13g, q17, hp21a1, hp21g1, hp21a2, hp21g2, hp21a3, hp21g3, q33, hp37g, q41, hp45g, q49, hp53b, hp53g, hp53c, hp53p, q57, hp61b, hp61g, hp61c, hp61p, q65, hp69g, hp69c, 0, 0, 0]) (10 + i))))) := (zag.tr (zag.set (zag.rf) hc81 (fun z9 => z9.2 rfl)) (fr89.mono (fun _ _ => trivial))).tr en138
  have en140 : zag zp12 V68 (zu V127 wa 2 (zq Γ.2.1 3 (6 : Int).toNat (fun i => some ((zad [0, x, wa, 0, 0, 0, 0, 0, 0, 0, q74, q84, q94, q104, q114, q124, q25, 0, 0, 0, q1, hp5g, q9, hp13g, q17, hp21a1, hp21g1, hp21a2, hp21g2, hp21a3, hp21g3, q33, hp37g, q41, hp45g, q49, hp53b, hp53g, hp53c, hp53p, q57, hp61b, hp61g, hp61c, hp61p, q65, hp69g, hp69c, 0, 0, 0]) (10 + i))))) := (zag.tr (zag.set (zag.rf) hc71 (fun z9 => z9.1 rfl)) (fr79.mono (fun _ _ => trivial))).tr en139
  have en141 : zag zp12 V60 (zu V127 wa 2 (zq Γ.2.1 3 (6 : Int).toNat (fun i => some ((zad [0, x, wa, 0, 0, 0, 0, 0, 0, 0, q74, q84, q94, q104, q114, q124, q25, 0, 0, 0, q1, hp5g, q9, hp13g, q17, hp21a1, hp21g1, hp21a2, hp21g2, hp21a3, hp21g3, q33, hp37g, q41, hp45g, q49, hp53b, hp53g, hp53c, hp53p, q57, hp61b, hp61g, hp61c, hp61p, q65, hp69g, hp69c, 0, 0, 0]) (10 + i))))) := (zag.tr (zag.set (zag.rf) hc63 (fun z9 => z9.1 rfl)) (fr70.mono (fun _ _ => trivial))).tr en140
  have en142 : zag zp12 V52 (zu V127 wa 2 (zq Γ.2.1 3 (6 : Int).toNat (fun i => some ((zad [0, x, wa, 0, 0, 0, 0, 0, 0, 0, q74, q84, q94, q104, q114, q124, q25, 0, 0, 0, q1, hp5g, q9, hp13g, q17, hp21a1, hp21g1, hp21a2, hp21g2, hp21a3, hp21g3, q33, hp37g, q41, hp45g, q49, hp53b, hp53g, hp53c, hp53p, q57, hp61b, hp61g, hp61c, hp61p, q65, hp69g, hp69c, 0, 0, 0]) (10 + i))))) := (zag.tr (zag.set (zag.rf) hc55 (fun z9 => z9.1 rfl)) (fr62.mono (fun _ _ => trivial))).tr en141
  have en143 : zag zp12 V44 (zu V127 wa 2 (zq Γ.2.1 3 (6 : Int).toNat (fun i => some ((zad [0, x, wa, 0, 0, 0, 0, 0, 0, 0, q74, q84, q94, q104, q114, q124, q25, 0, 0, 0, q1, hp5g, q9, hp13g, q17, hp21a1, hp21g1, hp21a2, hp21g2, hp21a3, hp21g3, q33, hp37g, q41, hp45g, q49, hp53b, hp53g, hp53c, hp53p, q57, hp61b, hp61g, hp61c, hp61p, q65, hp69g, hp69c, 0, 0, 0]) (10 + i))))) := (zag.tr (zag.set (zag.rf) hc47 (fun z9 => z9.1 rfl)) (fr54.mono (fun _ _ => trivial))).tr en142
  have en144 : zag zp12 V36 (zu V127 wa 2 (zq Γ.2.1 3 (6 : Int).toNat (fun i => some ((zad [0, x, wa, 0, 0, 0, 0, 0, 0, 0, q74, q84, q94, q104, q114, q124, q25, 0, 0, 0, q1, hp5g, q9, hp13g, q17, hp21a1, hp21g1, hp21a2, hp21g2, hp21a3, hp21g3, q33, hp37g, q41, hp45g, q49, hp53b, hp53g, hp53c, hp53p, q57, hp61b, hp61g, hp61c, hp61p, q65, hp69g, hp69c, 0, 0, 0]) (10 + i))))) := (zag.tr (zag.set (zag.rf) hc39 (fun z9 => z9.1 rfl)) (fr46.mono (fun _ _ => trivial))).tr en143
  have en145 : zag zp12 V28 (zu V127 wa 2 (zq Γ.2.1 3 (6 : Int).toNat (fun i => some ((zad [0, x, wa, 0, 0, 0, 0, 0, 0, 0, q74, q84, q94, q104, q114, q124, q25, 0, 0, 0, q1, hp5g, q9, hp13g, q17, hp21a1, hp21g1, hp21a2, hp21g2, hp21a3, hp21g3, q33, hp37g, q41, hp45g, q49, hp53b, hp53g, hp53c, hp53p, q57, hp61b, hp61g, hp61c, hp61p, q65, hp69g, hp69c, 0, 0, 0]) (10 + i))))) := (zag.tr (zag.set (zag.rf) hc31 (fun z9 => z9.1 rfl)) (fr38.mono (fun _ _ => trivial))).tr en144
  have en146 : zag zp12 V20 (zu V127 wa 2 (zq Γ.2.1 3 (6 : Int).toNat (fun i => some ((zad [0, x, wa, 0, 0, 0, 0, 0, 0, 0, q74, q84, q94, q104, q114, q124, q25, 0, 0, 0, q1, hp5g, q9, hp13g, q17, hp21a1, hp21g1, hp21a2, hp21g2, hp21a3, hp21g3, q33, hp37g, q41, hp45g, q49, hp53b, hp53g, hp53c, hp53p, q57, hp61b, hp61g, hp61c, hp61p, q65, hp69g, hp69c, 0, 0, 0]) (10 + i))))) := (zag.tr (zag.set (zag.rf) hc23 (fun z9 => z9.1 rfl)) (fr30.mono (fun _ _ => trivial))).tr en145
  have en147 : zag zp12 V12 (zu V127 wa 2 (zq Γ.2.1 3 (6 : Int).toNat (fun i => some ((zad [0, x, wa, 0, 0, 0, 0, 0, 0, 0, q74, q84, q94, q104, q114, q124, q25, 0, 0, 0, q1, hp5g, q9, hp13g, q17, hp21a1, hp21g1, hp21a2, hp21g2, hp21a3, hp21g3, q33, hp37g, q41, hp45g, q49, hp53b, hp53g, hp53c, hp53p, q57, hp61b, hp61g, hp61c, hp61p, q65, hp69g, hp69c, 0, 0, 0]) (10 + i))))) := (zag.tr (zag.set (zag.rf) hc15 (fun z9 => z9.1 rfl)) (fr22.mono (fun _ _ => trivial))).tr en146
  have en148 : zag zp12 V4 (zu V127 wa 2 (zq Γ.2.1 3 (6 : Int).toNat (fun i => some ((zad [0, x, wa, 0, 0, 0, 0, 0, 0, 0, q74, q84, q94, q104, q114, q124, q25, 0, 0, 0, q1, hp5g, q9, hp13g, q17, hp21a1, hp21g1, hp21a2, hp21g2, hp21a3, hp21g3, q33, hp37g, q41, hp45g, q49, hp53b, hp53g, hp53c, hp53p, q57, hp61b, hp61g, hp61c, hp61p, q65, hp69g, hp69c, 0, 0, 0]) (10 + i))))) := (zag.tr (zag.set (zag.rf) hc7 (fun z9 => z9.1 rfl)) (fr14.mono (fun _ _ => trivial))).tr en147
  have en149 : zag zp12 V (zu V127 wa 2 (zq Γ.2.1 3 (6 : Int).toNat (fun i => some ((zad [0, x, wa, 0, 0, 0, 0, 0, 0, 0, q74, q84, q94, q104, q114, q124, q25, 0, 0, 0, q1, hp5g, q9, hp13g, q17, hp21a1, hp21g1, hp21a2, hp21g2, hp21a3, hp21g3, q33, hp37g, q41, hp45g, q49, hp53b, hp53g, hp53c, hp53p, q57, hp61b, hp61g, hp61c, hp61p, q65, hp69g, hp69c, 0, 0, 0]) (10 + i))))) := (zag.tr (zag.set (zag.new (zag.rf) hwa) ((zu_ne (zne_new hb hwa)).trans hb) (fun z9 => z9.1 rfl)) (fr6.mono (fun _ _ => trivial))).tr en148
  have fs150w0 := hp78s.kept en139 ⟨by decide, by decide⟩ ⟨by decide, by decide⟩
  have fs150w1 := hp88s.kept en138 ⟨by decide, by decide⟩ ⟨by decide, by decide⟩
  have fs150w2 := hp98s.kept en137 ⟨by decide, by decide⟩ ⟨by decide, by decide⟩
  have fs150w3 := hp108s.kept en136 ⟨by decide, by decide⟩ ⟨by decide, by decide⟩
  have fs150w4 := hp118s.kept en135 ⟨by decide, by decide⟩ ⟨by decide, by decide⟩
  have fs150w5 := hp128s.kept en134 ⟨by decide, by decide⟩ ⟨by decide, by decide⟩
  have fs150d := hp29s.kept en145 ⟨by decide, by decide⟩ ⟨by decide, by decide⟩
  have fs150t0 := hp5s.kept en148 ⟨by decide, by decide⟩ ⟨by decide, by decide⟩
  have fs150t1 := hp13s.kept en147 ⟨by decide, by decide⟩ ⟨by decide, by decide⟩
  have fs150t4 := hp37s.kept en144 ⟨by decide, by decide⟩ ⟨by decide, by decide⟩
  have fs150t5 := hp45s.kept en143 ⟨by decide, by decide⟩ ⟨by decide, by decide⟩
  have fs150p := en146 _ _ _ hp21c ⟨by decide, by decide⟩
  have fs150p1 := hp21s1.kept en146 ⟨by decide, by decide⟩ ⟨by decide, by decide⟩
  have fs150p2 := hp21s2.kept en146 ⟨by decide, by decide⟩ ⟨by decide, by decide⟩
  have fs150p3 := hp21s3.kept en146 ⟨by decide, by decide⟩ ⟨by decide, by decide⟩
  have fs150k6 := hp53k.kept en142 ⟨by decide, by decide⟩ ⟨by decide, by decide⟩
  have fs150b6 := hp53s.kept en142 ⟨by decide, by decide⟩ ⟨by decide, by decide⟩ ⟨by decide, by decide⟩
  have fs150k7 := hp61k.kept en141 ⟨by decide, by decide⟩ ⟨by decide, by decide⟩
  have fs150b7 := hp61s.kept en141 ⟨by decide, by decide⟩ ⟨by decide, by decide⟩ ⟨by decide, by decide⟩
  have fs150b8 := hp69s.kept en140 ⟨by decide, by decide⟩ ⟨by decide, by decide⟩ ⟨by decide, by decide⟩
  have fs1500 : zag zp12 V (zu V127 wa 2 (zq Γ.2.1 3 (6 : Int).toNat (fun i => some ((zad [0, x, wa, 0, 0, 0, 0, 0, 0, 0, q74, q84, q94, q104, q114, q124, q25, 0, 0, 0, q1, hp5g, q9, hp13g, q17, hp21a1, hp21g1, hp21a2, hp21g2, hp21a3, hp21g3, q33, hp37g, q41, hp45g, q49, hp53b, hp53g, hp53c, hp53p, q57, hp61b, hp61g, hp61c, hp61p, q65, hp69g, hp69c, 0, 0, 0]) (10 + i))))) := en149
  have fs150w : zSw Γ (zu V127 wa 2 (zq Γ.2.1 3 (6 : Int).toNat (fun i => some ((zad [0, x, wa, 0, 0, 0, 0, 0, 0, 0, q74, q84, q94, q104, q114, q124, q25, 0, 0, 0, q1, hp5g, q9, hp13g, q17, hp21a1, hp21g1, hp21a2, hp21g2, hp21a3, hp21g3, q33, hp37g, q41, hp45g, q49, hp53b, hp53g, hp53c, hp53p, q57, hp61b, hp61g, hp61c, hp61p, q65, hp69g, hp69c, 0, 0, 0]) (10 + i))))) (zad [0, x, wa, 0, 0, 0, 0, 0, 0, 0, q74, q84, q94, q104, q114, q124, q25, 0, 0, 0, q1, hp5g, q9, hp13g, q17, hp21a1, hp21g1, hp21a2, hp21g2, hp21a3, hp21g3, q33, hp37g, q41, hp45g, q49, hp53b, hp53g, hp53c, hp53p, q57, hp61b, hp61g, hp61c, hp61p, q65, hp69g, hp69c, 0, 0, 0]) zs0 := by
    intro i hi
    rcases (by omega : i = 0 ∨ i = 1 ∨ i = 2 ∨ i = 3 ∨ i = 4 ∨ i = 5) with rfl | rfl | rfl | rfl | rfl | rfl
    · exact fs150w0
    · exact fs150w1
    · exact fs150w2
    · exact fs150w3
    · exact fs150w4
    · exact fs150w5
  obtain ⟨fs150r0, fs150o0, fs150c0, fs150x0⟩ := hp78w
  have fs150o0 := zu_none fs150o0
  have fs150C0 := en139 _ _ _ fs150c0 ⟨by decide, by decide⟩
  have fs150X0 := en139 _ _ _ fs150x0 ⟨by decide, by decide⟩
  obtain ⟨fs150r1, fs150o1, fs150c1, fs150x1⟩ := hp88w
  have fs150o1 := zu_none fs150o1
  have fs150a1 : zag zp12 V77 (zu V77 wa 2 (zq Γ.2.1 3 ((6 : Int).toNat) (zg (fun _ => none) (0 : Int).toNat q74))) := zag.set (zag.rf) hc81 (fun z9 => z9.2 rfl)
  have fs150p0_1 := fs150a1 _ _ _ fs150x0 ⟨by decide, by decide⟩
  have fs150n0_1 : fs150r0 ≠ fs150r1 := fun h => by
    rw [h, fs150o1] at fs150p0_1
    cases fs150p0_1
  have ro151 := fr89 _ _ _ fs150p0_1 trivial
  have fs150C1 := en138 _ _ _ fs150c1 ⟨by decide, by decide⟩
  have fs150X1 := en138 _ _ _ fs150x1 ⟨by decide, by decide⟩
  obtain ⟨fs150r2, fs150o2, fs150c2, fs150x2⟩ := hp98w
  have fs150o2 := zu_none fs150o2
  have fs150a2 : zag zp12 V87 (zu V87 wa 2 (zq Γ.2.1 3 ((6 : Int).toNat) (zg (zg (fun _ => none) (0 : Int).toNat q74) (1 : Int).toNat q84))) := zag.set (zag.rf) hc91 (fun z9 => z9.2 rfl)
  have fs150p0_2 := fs150a2 _ _ _ ro151 ⟨by decide, by decide⟩
  have fs150n0_2 : fs150r0 ≠ fs150r2 := fun h => by
    rw [h, fs150o2] at fs150p0_2
    cases fs150p0_2
  have ro152 := fr99 _ _ _ fs150p0_2 trivial
  have fs150p1_2 := fs150a2 _ _ _ fs150x1 ⟨by decide, by decide⟩
  have fs150n1_2 : fs150r1 ≠ fs150r2 := fun h => by
    rw [h, fs150o2] at fs150p1_2
    cases fs150p1_2
  have ro153 := fr99 _ _ _ fs150p1_2 trivial
  have fs150C2 := en137 _ _ _ fs150c2 ⟨by decide, by decide⟩
  have fs150X2 := en137 _ _ _ fs150x2 ⟨by decide, by decide⟩
  obtain ⟨fs150r3, fs150o3, fs150c3, fs150x3⟩ := hp108w
  have fs150o3 := zu_none fs150o3
  have fs150a3 : zag zp12 V97 (zu V97 wa 2 (zq Γ.2.1 3 ((6 : Int).toNat) (zg (zg (zg (fun _ => none) (0 : Int).toNat q74) (1 : Int).toNat q84) (2 : Int).toNat q94))) := zag.set (zag.rf) hc101 (fun z9 => z9.2 rfl)
  have fs150p0_3 := fs150a3 _ _ _ ro152 ⟨by decide, by decide⟩
  have fs150n0_3 : fs150r0 ≠ fs150r3 := fun h => by
    rw [h, fs150o3] at fs150p0_3
    cases fs150p0_3
  have ro154 := fr109 _ _ _ fs150p0_3 trivial
  have fs150p1_3 := fs150a3 _ _ _ ro153 ⟨by decide, by decide⟩
  have fs150n1_3 : fs150r1 ≠ fs150r3 := fun h => by
    rw [h, fs150o3] at fs150p1_3
    cases fs150p1_3
  have ro155 := fr109 _ _ _ fs150p1_3 trivial
  have fs150p2_3 := fs150a3 _ _ _ fs150x2 ⟨by decide, by decide⟩
  have fs150n2_3 : fs150r2 ≠ fs150r3 := fun h => by
    rw [h, fs150o3] at fs150p2_3
    cases fs150p2_3
  have ro156 := fr109 _ _ _ fs150p2_3 trivial
  have fs150C3 := en136 _ _ _ fs150c3 ⟨by decide, by decide⟩
  have fs150X3 := en136 _ _ _ fs150x3 ⟨by decide, by decide⟩
  obtain ⟨fs150r4, fs150o4, fs150c4, fs150x4⟩ := hp118w
  have fs150o4 := zu_none fs150o4
  have fs150a4 : zag zp12 V107 (zu V107 wa 2 (zq Γ.2.1 3 ((6 : Int).toNat) (zg (zg (zg (zg (fun _ => none) (0 : Int).toNat q74) (1 : Int).toNat q84) (2 : Int).toNat q94) (3 : Int).toNat q104))) := zag.set (zag.rf) hc111 (fun z9 => z9.2 rfl)
  have fs150p0_4 := fs150a4 _ _ _ ro154 ⟨by decide, by decide⟩
  have fs150n0_4 : fs150r0 ≠ fs150r4 := fun h => by
    rw [h, fs150o4] at fs150p0_4
    cases fs150p0_4
  have ro157 := fr119 _ _ _ fs150p0_4 trivial
  have fs150p1_4 := fs150a4 _ _ _ ro155 ⟨by decide, by decide⟩
  have fs150n1_4 : fs150r1 ≠ fs150r4 := fun h => by
    rw [h, fs150o4] at fs150p1_4
    cases fs150p1_4
  have ro158 := fr119 _ _ _ fs150p1_4 trivial
  have fs150p2_4 := fs150a4 _ _ _ ro156 ⟨by decide, by decide⟩
  have fs150n2_4 : fs150r2 ≠ fs150r4 := fun h => by
    rw [h, fs150o4] at fs150p2_4
    cases fs150p2_4
  have ro159 := fr119 _ _ _ fs150p2_4 trivial
  have fs150p3_4 := fs150a4 _ _ _ fs150x3 ⟨by decide, by decide⟩
  have fs150n3_4 : fs150r3 ≠ fs150r4 := fun h => by
    rw [h, fs150o4] at fs150p3_4
    cases fs150p3_4
  have ro160 := fr119 _ _ _ fs150p3_4 trivial
  have fs150C4 := en135 _ _ _ fs150c4 ⟨by decide, by decide⟩
  have fs150X4 := en135 _ _ _ fs150x4 ⟨by decide, by decide⟩
  obtain ⟨fs150r5, fs150o5, fs150c5, fs150x5⟩ := hp128w
  have fs150o5 := zu_none fs150o5
  have fs150a5 : zag zp12 V117 (zu V117 wa 2 (zq Γ.2.1 3 ((6 : Int).toNat) (zg (zg (zg (zg (zg (fun _ => none) (0 : Int).toNat q74) (1 : Int).toNat q84) (2 : Int).toNat q94) (3 : Int).toNat q104) (4 : Int).toNat q114))) := zag.set (zag.rf) hc121 (fun z9 => z9.2 rfl)
  have fs150p0_5 := fs150a5 _ _ _ ro157 ⟨by decide, by decide⟩
  have fs150n0_5 : fs150r0 ≠ fs150r5 := fun h => by
    rw [h, fs150o5] at fs150p0_5
    cases fs150p0_5
  have ro161 := fr129 _ _ _ fs150p0_5 trivial
  have fs150p1_5 := fs150a5 _ _ _ ro158 ⟨by decide, by decide⟩
  have fs150n1_5 : fs150r1 ≠ fs150r5 := fun h => by
    rw [h, fs150o5] at fs150p1_5
    cases fs150p1_5
  have ro162 := fr129 _ _ _ fs150p1_5 trivial
  have fs150p2_5 := fs150a5 _ _ _ ro159 ⟨by decide, by decide⟩
  have fs150n2_5 : fs150r2 ≠ fs150r5 := fun h => by
    rw [h, fs150o5] at fs150p2_5
    cases fs150p2_5
  have ro163 := fr129 _ _ _ fs150p2_5 trivial
  have fs150p3_5 := fs150a5 _ _ _ ro160 ⟨by decide, by decide⟩
  have fs150n3_5 : fs150r3 ≠ fs150r5 := fun h => by
    rw [h, fs150o5] at fs150p3_5
    cases fs150p3_5
  have ro164 := fr129 _ _ _ fs150p3_5 trivial
  have fs150p4_5 := fs150a5 _ _ _ fs150x4 ⟨by decide, by decide⟩
  have fs150n4_5 : fs150r4 ≠ fs150r5 := fun h => by
    rw [h, fs150o5] at fs150p4_5
    cases fs150p4_5
  have ro165 := fr129 _ _ _ fs150p4_5 trivial
  have fs150C5 := en134 _ _ _ fs150c5 ⟨by decide, by decide⟩
  have fs150X5 := en134 _ _ _ fs150x5 ⟨by decide, by decide⟩
  have fs150Z : zCw Γ (zu V127 wa 2 (zq Γ.2.1 3 (6 : Int).toNat (fun i => some ((zad [0, x, wa, 0, 0, 0, 0, 0, 0, 0, q74, q84, q94, q104, q114, q124, q25, 0, 0, 0, q1, hp5g, q9, hp13g, q17, hp21a1, hp21g1, hp21a2, hp21g2, hp21a3, hp21g3, q33, hp37g, q41, hp45g, q49, hp53b, hp53g, hp53c, hp53p, q57, hp61b, hp61g, hp61c, hp61p, q65, hp69g, hp69c, 0, 0, 0]) (10 + i))))) (zad [0, x, wa, 0, 0, 0, 0, 0, 0, 0, q74, q84, q94, q104, q114, q124, q25, 0, 0, 0, q1, hp5g, q9, hp13g, q17, hp21a1, hp21g1, hp21a2, hp21g2, hp21a3, hp21g3, q33, hp37g, q41, hp45g, q49, hp53b, hp53g, hp53c, hp53p, q57, hp61b, hp61g, hp61c, hp61p, q65, hp69g, hp69c, 0, 0, 0]) zs0 (zad [fs150r0, fs150r1, fs150r2, fs150r3, fs150r4, fs150r5]) (fun _ => 12) (fun i => 12 * i) := by
    refine ⟨fun i hi => ?_, fun i j hi hj => ?_⟩
    · rcases (by omega : i = 0 ∨ i = 1 ∨ i = 2 ∨ i = 3 ∨ i = 4 ∨ i = 5) with rfl | rfl | rfl | rfl | rfl | rfl
      · exact ⟨0, fun _ => 0, fs150C0, fs150X0, by unfold zWb; decide, zc_zero, by decide, by decide, by decide, fun k hk => (zs0_hi (by omega)).symm⟩
      · exact ⟨0, fun _ => 0, fs150C1, fs150X1, by unfold zWb; decide, zc_zero, by decide, by decide, by decide, fun k hk => (zs0_hi (by omega)).symm⟩
      · exact ⟨0, fun _ => 0, fs150C2, fs150X2, by unfold zWb; decide, zc_zero, by decide, by decide, by decide, fun k hk => (zs0_hi (by omega)).symm⟩
      · exact ⟨0, fun _ => 0, fs150C3, fs150X3, by unfold zWb; decide, zc_zero, by decide, by decide, by decide, fun k hk => (zs0_hi (by omega)).symm⟩
      · exact ⟨0, fun _ => 0, fs150C4, fs150X4, by unfold zWb; decide, zc_zero, by decide, by decide, by decide, fun k hk => (zs0_hi (by omega)).symm⟩
      · exact ⟨0, fun _ => 0, fs150C5, fs150X5, by unfold zWb; decide, zc_zero, by decide, by decide, by decide, fun k hk => (zs0_hi (by omega)).symm⟩
    · rcases (by omega : i = 0 ∨ i = 1 ∨ i = 2 ∨ i = 3 ∨ i = 4 ∨ i = 5) with rfl | rfl | rfl | rfl | rfl | rfl
      · rcases (by omega : j = 0 ∨ j = 1 ∨ j = 2 ∨ j = 3 ∨ j = 4 ∨ j = 5) with rfl | rfl | rfl | rfl | rfl | rfl
        · exact Or.inl ⟨rfl, rfl, rfl⟩
        · exact Or.inr ⟨fs150n0_1, by decide⟩
        · exact Or.inr ⟨fs150n0_2, by decide⟩
        · exact Or.inr ⟨fs150n0_3, by decide⟩
        · exact Or.inr ⟨fs150n0_4, by decide⟩
        · exact Or.inr ⟨fs150n0_5, by decide⟩
      · rcases (by omega : j = 0 ∨ j = 1 ∨ j = 2 ∨ j = 3 ∨ j = 4 ∨ j = 5) with rfl | rfl | rfl | rfl | rfl | rfl
        · exact Or.inr ⟨Ne.symm fs150n0_1, by decide⟩
        · exact Or.inl ⟨rfl, rfl, rfl⟩
        · exact Or.inr ⟨fs150n1_2, by decide⟩
        · exact Or.inr ⟨fs150n1_3, by decide⟩
        · exact Or.inr ⟨fs150n1_4, by decide⟩
        · exact Or.inr ⟨fs150n1_5, by decide⟩
      · rcases (by omega : j = 0 ∨ j = 1 ∨ j = 2 ∨ j = 3 ∨ j = 4 ∨ j = 5) with rfl | rfl | rfl | rfl | rfl | rfl
        · exact Or.inr ⟨Ne.symm fs150n0_2, by decide⟩
        · exact Or.inr ⟨Ne.symm fs150n1_2, by decide⟩
        · exact Or.inl ⟨rfl, rfl, rfl⟩
        · exact Or.inr ⟨fs150n2_3, by decide⟩
        · exact Or.inr ⟨fs150n2_4, by decide⟩
        · exact Or.inr ⟨fs150n2_5, by decide⟩
      · rcases (by omega : j = 0 ∨ j = 1 ∨ j = 2 ∨ j = 3 ∨ j = 4 ∨ j = 5) with rfl | rfl | rfl | rfl | rfl | rfl
        · exact Or.inr ⟨Ne.symm fs150n0_3, by decide⟩
        · exact Or.inr ⟨Ne.symm fs150n1_3, by decide⟩
        · exact Or.inr ⟨Ne.symm fs150n2_3, by decide⟩
        · exact Or.inl ⟨rfl, rfl, rfl⟩
        · exact Or.inr ⟨fs150n3_4, by decide⟩
        · exact Or.inr ⟨fs150n3_5, by decide⟩
      · rcases (by omega : j = 0 ∨ j = 1 ∨ j = 2 ∨ j = 3 ∨ j = 4 ∨ j = 5) with rfl | rfl | rfl | rfl | rfl | rfl
        · exact Or.inr ⟨Ne.symm fs150n0_4, by decide⟩
        · exact Or.inr ⟨Ne.symm fs150n1_4, by decide⟩
        · exact Or.inr ⟨Ne.symm fs150n2_4, by decide⟩
        · exact Or.inr ⟨Ne.symm fs150n3_4, by decide⟩
        · exact Or.inl ⟨rfl, rfl, rfl⟩
        · exact Or.inr ⟨fs150n4_5, by decide⟩
      · rcases (by omega : j = 0 ∨ j = 1 ∨ j = 2 ∨ j = 3 ∨ j = 4 ∨ j = 5) with rfl | rfl | rfl | rfl | rfl | rfl
        · exact Or.inr ⟨Ne.symm fs150n0_5, by decide⟩
        · exact Or.inr ⟨Ne.symm fs150n1_5, by decide⟩
        · exact Or.inr ⟨Ne.symm fs150n2_5, by decide⟩
        · exact Or.inr ⟨Ne.symm fs150n3_5, by decide⟩
        · exact Or.inr ⟨Ne.symm fs150n4_5, by decide⟩
        · exact Or.inl ⟨rfl, rfl, rfl⟩
  obtain ⟨fs150bf, fs150b1, fs150b2, fs150b3, -⟩ := id fs150t0
  obtain ⟨fs150kf, fs150k1, fs150k2, fs150k3, -⟩ := id fs150t1
  have fs150T : zCt Γ (zu V127 wa 2 (zq Γ.2.1 3 (6 : Int).toNat (fun i => some ((zad [0, x, wa, 0, 0, 0, 0, 0, 0, 0, q74, q84, q94, q104, q114, q124, q25, 0, 0, 0, q1, hp5g, q9, hp13g, q17, hp21a1, hp21g1, hp21a2, hp21g2, hp21a3, hp21g3, q33, hp37g, q41, hp45g, q49, hp53b, hp53g, hp53c, hp53p, q57, hp61b, hp61g, hp61c, hp61p, q65, hp69g, hp69c, 0, 0, 0]) (10 + i))))) (zad [0, x, wa, 0, 0, 0, 0, 0, 0, 0, q74, q84, q94, q104, q114, q124, q25, 0, 0, 0, q1, hp5g, q9, hp13g, q17, hp21a1, hp21g1, hp21a2, hp21g2, hp21a3, hp21g3, q33, hp37g, q41, hp45g, q49, hp53b, hp53g, hp53c, hp53p, q57, hp61b, hp61g, hp61c, hp61p, q65, hp69g, hp69c, 0, 0, 0]) zs0 := ⟨⟨⟨_, _, _, fs150Z⟩, fun a _ => zs0_hi (by omega)⟩, ⟨fs150bf, fs150b2, fs150b3, fun k _ hk => absurd (show (k : Int) < 0 from hk) (by omega)⟩, ⟨fs150kf, fs150k2, fs150k3, fun k _ hk => absurd (show (k : Int) < 0 from hk) (by omega)⟩⟩
  exact zr_vret X rfl ⟨rfl, zad [0, x, wa, 0, 0, 0, 0, 0, 0, 0, q74, q84, q94, q104, q114, q124, q25, 0, 0, 0, q1, hp5g, q9, hp13g, q17, hp21a1, hp21g1, hp21a2, hp21g2, hp21a3, hp21g3, q33, hp37g, q41, hp45g, q49, hp53b, hp53g, hp53c, hp53p, q57, hp61b, hp61g, hp61c, hp61p, q65, hp69g, hp69c, 0, 0, 0], rfl, ⟨((zu_ne (zne_oq hc130 hc131)).trans hc130), ⟨(zu_eq _ _ _ _), fs150T⟩, fs150w, ⟨_, _, _, _, fs150d⟩, ⟨fs150t0, fs150t1, ⟨_, fs150t4⟩, ⟨_, fs150t5⟩⟩, ⟨fs150p, fs150p1, fs150p2, fs150p3, by decide, by decide, by decide, by decide⟩, ⟨fs150k6, fs150b6, fs150k7, fs150b7, fs150b8⟩⟩, fs1500⟩ dX6_init_153
