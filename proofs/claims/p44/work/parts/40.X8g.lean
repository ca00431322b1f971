/-! the model: pump -/
def zm1 (m a b c : Int) : Prop := m = min a (min b c)
set_option maxRecDepth 100000 in
set_option maxHeartbeats 4000000 in
theorem m_X8_pump (l : Launch) (Γ : zGam) {V : zV} {c md : Nat → Nat} {τ κ : Nat → Int} {E : Int} {q a b : Int} (hM : zMo Γ V c md τ κ E) (hq : -2147483648 ≤ q ∧ q ≤ 2147483647) (ha : -2147483648 ≤ a ∧ a ≤ 2147483647) (hb : -2147483648 ≤ b ∧ b ≤ 2147483647) : zM l Γ 10 yX8_pump wsX8_pump 3011 6340 V [.ref (c 60), .int (zI (q)), .int (zI (a)), .int (zI (b))] (fun rv V' => ∃ (zr : Nat) (md' : Nat → Nat) (τ' κ' : Nat → Int), rv = some (.ref zr) ∧ zMo Γ V' c md' τ' κ' (E + 40) ∧ zfm V V' ∧ ((¬ (0 ≤ q ∧ q ≤ 7) ∧ τ' = zf τ 36 1) ∨ ((0 ≤ q ∧ q ≤ 7) ∧ ¬ (1 ≤ a ∧ a ≤ 8 ∧ 1 ≤ b ∧ b ≤ 8) ∧ τ' = zf τ 36 2) ∨ ((0 ≤ q ∧ q ≤ 7 ∧ 1 ≤ a ∧ a ≤ 8 ∧ 1 ≤ b ∧ b ≤ 8) ∧ ¬ ((zf τ 36 0) 28 + zsz (zf τ 36 0) q ≤ 160) ∧ τ' = zf τ 36 3) ∨ ((0 ≤ q ∧ q ≤ 7 ∧ 1 ≤ a ∧ a ≤ 8 ∧ 1 ≤ b ∧ b ≤ 8) ∧ (zf τ 36 0) 28 + zsz (zf τ 36 0) q ≤ 160 ∧ (∀ j, ¬ (26 ≤ j ∧ j ≤ 29) → j ≠ 30 → j ≠ 33 → j ≠ 36 → τ' j = τ j) ∧ τ' 26 = τ 26 ∧ τ' 30 = τ 30 + 1 ∧ (τ' 27, τ' 28, τ' 29, τ' 33) = zpm a b ((zf τ 36 0) 26) (zsz (zf τ 36 0) q) (zsz (zf τ 36 0) q + (zf τ 36 0) 27).toNat 0 ((zf τ 36 0) 27) ((zf τ 36 0) 28) ((zf τ 36 0) 29) ((zf τ 36 0) 33)))) := by
  have w0 : Cond.fieldLink RX8 129 "SashwordsModel" "in" "I" ∈ wsX8_pump := by decide +kernel
  have iX8 : ∀ w ∈ u_ws RX8 TX8 11, w ∈ wsX8_pump := by decide +kernel
  have w2 : Cond.fieldLink RX8 132 "SashwordsModel" "out" "I" ∈ wsX8_pump := by decide +kernel
  have w3 : Cond.fieldLink RX8 27 "SashwordsModel" "size" "I" ∈ wsX8_pump := by decide +kernel
  have w4 : Cond.methodLink RX8 97 Lib.Math.min.name ∈ wsX8_pump := by decide +kernel
  have w5 : Cond.static Lib.Math.min.name ∈ wsX8_pump := by decide +kernel
  have w6 : Cond.initialized "java/lang/Math" ∈ wsX8_pump := by decide +kernel
  have w7 : Cond.code Lib.Math.min.name Lib.Math.min.code 2 (some .int) ∈ wsX8_pump := by decide +kernel
  have w8 : Cond.fieldLink RX8 31 "SashwordsModel" "tallies" "[I" ∈ wsX8_pump := by decide +kernel
  have w9 : Cond.fieldLink RX8 24 "SashwordsModel" "sent" "[I" ∈ wsX8_pump := by decide +kernel
  have w10 : Cond.fieldLink RX8 38 "SashwordsModel" "thrown" "I" ∈ wsX8_pump := by decide +kernel
  refine zM_of (cc := cX8_pump) (nL := 9) (ret := (some (.object "java/lang/String"))) (own := RX8) (by decide +kernel) rfl rfl (Nat.le_of_ble_eq_true rfl) (fun C X hi0 => ?_)
  have nn1 : (0 ≤ κ 0 ∧ κ 0 ≤ κ 1 ∧ κ 0 ≤ E ∧ κ 1 ≤ 7000) ∧ (0 ≤ τ 24 ∧ τ 24 ≤ 80 ∧ 0 ≤ τ 25 ∧ τ 25 ≤ 80) ∧ 1 ≤ τ 26 ∧ τ 26 ≤ 8 ∧ 0 ≤ τ 29 ∧ τ 29 ≤ τ 28 ∧ τ 28 ≤ 160 ∧ τ 27 ≤ τ 26 ∧ τ 27 = τ 28 - τ 29 := hM.n
  show zG C V 3011 6340 0 [(0, .ref (c 60)), (1, .int (zI (q))), (2, .int (zI (a))), (3, .int (zI (b)))] []
  refine zr_aload_n X 1 0 dX8_pump_0 rfl rfl ?_
  refine zr_iload_n X 2 1 dX8_pump_1 rfl rfl ?_
  refine zr_callS (kc' := 3011) (ks' := 6340) X 5 1 (m_X8_isNoSource l Γ (V := V) (x := q) (by omega)) gX8_pump_X8_isNoSource rfl (by decide +kernel) rfl (by decide) rfl (Nat.le_of_ble_eq_true rfl) dX8_pump_2 rfl (by omega) (by omega) (fun rv2 V3 hp4 => ?_)
  obtain ⟨⟨no5, no5e, no5a⟩, no5v⟩ := hp4
  rw [no5e, no5v]
  show zG C V 3011 6340 5 [(0, .ref (c 60)), (1, .int (zI (q))), (2, .int (zI (a))), (3, .int (zI (b)))] [.int (zI (no5)), .ref (c 60)]
  refine zr_iload_n X 6 2 dX8_pump_5 rfl rfl ?_
  refine zr_iconst X 7 dX8_pump_6 rfl ?_
  refine zr_bipush X 9 (8) dX8_pump_7 rfl (by decide) ?_
  refine zr_callS (kc' := 3011) (ks' := 6340) X 12 3 (m_X8_isNo l Γ (V := V) (x := a) (a := 1) (b := 8) (by omega) (by omega) (by omega)) gX8_pump_X8_isNo rfl (by decide +kernel) rfl (by decide) rfl (Nat.le_of_ble_eq_true rfl) dX8_pump_9 rfl (by omega) (by omega) (fun rv6 V7 hp8 => ?_)
  obtain ⟨⟨no9, no9e, no9a⟩, no9v⟩ := hp8
  rw [no9e, no9v]
  show zG C V 3011 6340 12 [(0, .ref (c 60)), (1, .int (zI (q))), (2, .int (zI (a))), (3, .int (zI (b)))] [.int (zI (no9)), .int (zI (no5)), .ref (c 60)]
  refine zr_if_ne X 25 15 dX8_pump_12 rfl rfl (by omega) (fun bq10 => ?_) (fun bq10 => ?_)
  · refine zr_iconst X 26 dX8_pump_25 rfl ?_
    refine zr_goto X 30 dX8_pump_26 rfl ?_
    refine zr_callVe (kc' := 3011) (ks' := 6340) X 33 2 (m_X8_isThrown l Γ hM (a := no5) (b := 1) (by omega) (by omega)) gX8_pump_X8_isThrown rfl (by decide +kernel) rfl (by decide) ⟨_, _, hM.1⟩ rfl rfl (Nat.le_of_ble_eq_true rfl) dX8_pump_30 rfl (by omega) (by omega) (fun rv11 V12 hp13 => ?_)
    obtain ⟨⟨hp13x, hp13k, hp13e, hp13c, hp13m⟩, hp13g⟩ := hp13
    rw [hp13e]
    rcases hp13c with ⟨tc14a, tc14k, tc14x⟩ | ⟨tc14a, tc14b, tc14k, tc14x⟩ | ⟨tc14a, tc14b, tc14k, tc14x⟩
    · skip
      subst tc14k tc14x
      have fx15 : zfm V V12 := (hp13g.mono (fun t ht => by omega))
      obtain ⟨τ16, τ16e⟩ : ∃ zz9 : Nat → Int, zz9 = zf τ 36 1 := ⟨_, rfl⟩
      rw [← τ16e] at hp13m
      have τ16_24 : τ16 24 = τ 24 := by rw [τ16e]; exact rfl
      have τ16_25 : τ16 25 = τ 25 := by rw [τ16e]; exact rfl
      have τ16_26 : τ16 26 = τ 26 := by rw [τ16e]; exact rfl
      have τ16_27 : τ16 27 = τ 27 := by rw [τ16e]; exact rfl
      have τ16_28 : τ16 28 = τ 28 := by rw [τ16e]; exact rfl
      have τ16_29 : τ16 29 = τ 29 := by rw [τ16e]; exact rfl
      have τ16_30 : τ16 30 = τ 30 := by rw [τ16e]; exact rfl
      have τ16_31 : τ16 31 = τ 31 := by rw [τ16e]; exact rfl
      have τ16_32 : τ16 32 = τ 32 := by rw [τ16e]; exact rfl
      have τ16_33 : τ16 33 = τ 33 := by rw [τ16e]; exact rfl
      have τ16_36 : τ16 36 = 1 := by rw [τ16e]; exact rfl
      show zG C V12 3011 6340 33 [(0, .ref (c 60)), (1, .int (zI (q))), (2, .int (zI (a))), (3, .int (zI (b)))] [.int (zI (1))]
      refine zr_if_eq X 39 36 dX8_pump_33 rfl rfl (by omega) (fun bq17 => absurd bq17 (by omega)) (fun bq17 => ?_)
      refine zr_ldcS X 38 6 rfl dX8_pump_36 rfl ?_
      exact zr_aret X rfl (Or.inl ⟨_, rfl⟩) ⟨Γ.2.2.1 6, md, τ16, κ, rfl, hp13m.le (by omega), fx15, Or.inl ⟨by omega, τ16e⟩⟩ dX8_pump_38
    · skip
      subst tc14k tc14x
      have fx18 : zfm V V12 := (hp13g.mono (fun t ht => by omega))
      obtain ⟨τ19, τ19e⟩ : ∃ zz9 : Nat → Int, zz9 = zf τ 36 2 := ⟨_, rfl⟩
      rw [← τ19e] at hp13m
      have τ19_24 : τ19 24 = τ 24 := by rw [τ19e]; exact rfl
      have τ19_25 : τ19 25 = τ 25 := by rw [τ19e]; exact rfl
      have τ19_26 : τ19 26 = τ 26 := by rw [τ19e]; exact rfl
      have τ19_27 : τ19 27 = τ 27 := by rw [τ19e]; exact rfl
      have τ19_28 : τ19 28 = τ 28 := by rw [τ19e]; exact rfl
      have τ19_29 : τ19 29 = τ 29 := by rw [τ19e]; exact rfl
      have τ19_30 : τ19 30 = τ 30 := by rw [τ19e]; exact rfl
      have τ19_31 : τ19 31 = τ 31 := by rw [τ19e]; exact rfl
      have τ19_32 : τ19 32 = τ 32 := by rw [τ19e]; exact rfl
      have τ19_33 : τ19 33 = τ 33 := by rw [τ19e]; exact rfl
      have τ19_36 : τ19 36 = 2 := by rw [τ19e]; exact rfl
      show zG C V12 3011 6340 33 [(0, .ref (c 60)), (1, .int (zI (q))), (2, .int (zI (a))), (3, .int (zI (b)))] [.int (zI (1))]
      refine zr_if_eq X 39 36 dX8_pump_33 rfl rfl (by omega) (fun bq20 => absurd bq20 (by omega)) (fun bq20 => ?_)
      refine zr_ldcS X 38 6 rfl dX8_pump_36 rfl ?_
      exact zr_aret X rfl (Or.inl ⟨_, rfl⟩) ⟨Γ.2.2.1 6, md, τ19, κ, rfl, hp13m.le (by omega), fx18, Or.inr (Or.inl ⟨by omega, by omega, τ19e⟩)⟩ dX8_pump_38
    · exact absurd tc14b (by decide)
  · refine zr_iload_n X 16 3 dX8_pump_15 rfl rfl ?_
    refine zr_iconst X 17 dX8_pump_16 rfl ?_
    refine zr_bipush X 19 (8) dX8_pump_17 rfl (by decide) ?_
    refine zr_callS (kc' := 3011) (ks' := 6340) X 22 3 (m_X8_isNo l Γ (V := V) (x := b) (a := 1) (b := 8) (by omega) (by omega) (by omega)) gX8_pump_X8_isNo rfl (by decide +kernel) rfl (by decide) rfl (Nat.le_of_ble_eq_true rfl) dX8_pump_19 rfl (by omega) (by omega) (fun rv21 V22 hp23 => ?_)
    obtain ⟨⟨no24, no24e, no24a⟩, no24v⟩ := hp23
    rw [no24e, no24v]
    show zG C V 3011 6340 22 [(0, .ref (c 60)), (1, .int (zI (q))), (2, .int (zI (a))), (3, .int (zI (b)))] [.int (zI (no24)), .int (zI (no5)), .ref (c 60)]
    refine zr_if_eq X 29 25 dX8_pump_22 rfl rfl (by omega) (fun bq25 => ?_) (fun bq25 => ?_)
    · refine zr_iconst X 30 dX8_pump_29 rfl ?_
      refine zr_callVe (kc' := 3011) (ks' := 6340) X 33 2 (m_X8_isThrown l Γ hM (a := no5) (b := 0) (by omega) (by omega)) gX8_pump_X8_isThrown rfl (by decide +kernel) rfl (by decide) ⟨_, _, hM.1⟩ rfl rfl (Nat.le_of_ble_eq_true rfl) dX8_pump_30 rfl (by omega) (by omega) (fun rv26 V27 hp28 => ?_)
      obtain ⟨⟨hp28x, hp28k, hp28e, hp28c, hp28m⟩, hp28g⟩ := hp28
      rw [hp28e]
      rcases hp28c with ⟨tc29a, tc29k, tc29x⟩ | ⟨tc29a, tc29b, tc29k, tc29x⟩ | ⟨tc29a, tc29b, tc29k, tc29x⟩
      · skip
        subst tc29k tc29x
        have fx30 : zfm V V27 := (hp28g.mono (fun t ht => by omega))
        obtain ⟨τ31, τ31e⟩ : ∃ zz9 : Nat → Int, zz9 = zf τ 36 1 := ⟨_, rfl⟩
        rw [← τ31e] at hp28m
        have τ31_24 : τ31 24 = τ 24 := by rw [τ31e]; exact rfl
        have τ31_25 : τ31 25 = τ 25 := by rw [τ31e]; exact rfl
        have τ31_26 : τ31 26 = τ 26 := by rw [τ31e]; exact rfl
        have τ31_27 : τ31 27 = τ 27 := by rw [τ31e]; exact rfl
        have τ31_28 : τ31 28 = τ 28 := by rw [τ31e]; exact rfl
        have τ31_29 : τ31 29 = τ 29 := by rw [τ31e]; exact rfl
        have τ31_30 : τ31 30 = τ 30 := by rw [τ31e]; exact rfl
        have τ31_31 : τ31 31 = τ 31 := by rw [τ31e]; exact rfl
        have τ31_32 : τ31 32 = τ 32 := by rw [τ31e]; exact rfl
        have τ31_33 : τ31 33 = τ 33 := by rw [τ31e]; exact rfl
        have τ31_36 : τ31 36 = 1 := by rw [τ31e]; exact rfl
        show zG C V27 3011 6340 33 [(0, .ref (c 60)), (1, .int (zI (q))), (2, .int (zI (a))), (3, .int (zI (b)))] [.int (zI (1))]
        refine zr_if_eq X 39 36 dX8_pump_33 rfl rfl (by omega) (fun bq32 => absurd bq32 (by omega)) (fun bq32 => ?_)
        refine zr_ldcS X 38 6 rfl dX8_pump_36 rfl ?_
        exact zr_aret X rfl (Or.inl ⟨_, rfl⟩) ⟨Γ.2.2.1 6, md, τ31, κ, rfl, hp28m.le (by omega), fx30, Or.inl ⟨by omega, τ31e⟩⟩ dX8_pump_38
      · exact absurd tc29b (by decide)
      · skip
        subst tc29k tc29x
        have fx33 : zfm V V27 := (hp28g.mono (fun t ht => by omega))
        obtain ⟨τ34, τ34e⟩ : ∃ zz9 : Nat → Int, zz9 = zf τ 36 0 := ⟨_, rfl⟩
        rw [← τ34e] at hp28m
        have τ34_24 : τ34 24 = τ 24 := by rw [τ34e]; exact rfl
        have τ34_25 : τ34 25 = τ 25 := by rw [τ34e]; exact rfl
        have τ34_26 : τ34 26 = τ 26 := by rw [τ34e]; exact rfl
        have τ34_27 : τ34 27 = τ 27 := by rw [τ34e]; exact rfl
        have τ34_28 : τ34 28 = τ 28 := by rw [τ34e]; exact rfl
        have τ34_29 : τ34 29 = τ 29 := by rw [τ34e]; exact rfl
        have τ34_30 : τ34 30 = τ 30 := by rw [τ34e]; exact rfl
        have τ34_31 : τ34 31 = τ 31 := by rw [τ34e]; exact rfl
        have τ34_32 : τ34 32 = τ 32 := by rw [τ34e]; exact rfl
        have τ34_33 : τ34 33 = τ 33 := by rw [τ34e]; exact rfl
        have τ34_36 : τ34 36 = 0 := by rw [τ34e]; exact rfl
        show zG C V27 3011 6340 33 [(0, .ref (c 60)), (1, .int (zI (q))), (2, .int (zI (a))), (3, .int (zI (b)))] [.int (zI (0))]
        refine zr_if_eq X 39 36 dX8_pump_33 rfl rfl (by omega) (fun bq35 => ?_) (fun bq35 => absurd bq35 (by omega))
        refine zr_aload_n X 40 0 dX8_pump_39 rfl rfl ?_
        refine zr_iload_n X 41 1 dX8_pump_40 rfl rfl ?_
        refine zr_callVe (kc' := (3011 - 1)) (ks' := (6340 - 40)) X 44 1 (m_X8_textOf l Γ (tg := 76) (q := q) hp28m (by omega)) gX8_pump_X8_textOf rfl (by decide +kernel) rfl (by decide) ⟨_, _, hp28m.1⟩ rfl rfl (Nat.le_of_ble_eq_true rfl) dX8_pump_41 rfl (by omega) (by omega) (fun rv36 V37 hp38 => ?_)
        obtain ⟨hp38q, hp38t, hp38f, hp38e, hp38h, hp38c, hp38a, hp38n1, hp38n2, hp38g, hp38z⟩ := hp38
        rw [hp38e]
        have hp38m := hp28m.kept hp38g (fun _ _ _ => trivial)
        have fx39 : zfm V V37 := zag.tr fx33 (hp38g.mono (fun _ _ => trivial))
        show zG C V37 (3011 - 1) (6340 - 40) 44 [(0, .ref (c 60)), (1, .int (zI (q))), (2, .int (zI (a))), (3, .int (zI (b)))] [.ref hp38q]
        refine zr_astore X 46 [(4, .ref hp38q), (0, .ref (c 60)), (1, .int (zI (q))), (2, .int (zI (a))), (3, .int (zI (b)))] dX8_pump_44 rfl (by decide) rfl ?_
        refine zr_aload_n X 47 1 dX8_pump_46 rfl rfl ?_
        have c840 : V37 (c 60) = some (60, .inr (9, [.ref (md 61), .int (zI (κ 0)), .ref (c 62), .ref (md 63), .ref (md 64), .ref (c 65), .int (zI (τ34 26)), .int (zI (τ34 28)), .int (zI (τ34 29)), .ref (c 66), .int (zI (τ34 36))])) := hp38m.1
        refine zr_get X 50 9 7 c840 rfl iX8 (by decide) w0 rfl rfl dX8_pump_47 rfl ?_
        refine zr_aload X 52 0 dX8_pump_50 rfl rfl ?_
        refine zr_alen X 53 0 hp38h (by decide) dX8_pump_52 rfl ?_
        refine zr_iadd X 54 dX8_pump_53 rfl ?_
        refine zr_sipush X 57 (160) dX8_pump_54 rfl (by decide) ?_
        refine zr_icmp_le X 68 60 dX8_pump_57 rfl rfl (by omega) (by omega) (fun bq41 => ?_) (fun bq41 => ?_)
        · refine zr_aload_n X 69 1 dX8_pump_68 rfl rfl ?_
          refine zr_get X 72 9 8 c840 rfl iX8 (by decide) w2 rfl rfl dX8_pump_69 rfl ?_
          refine zr_istore X 74 [(5, .int (zI (τ34 29))), (4, .ref hp38q), (0, .ref (c 60)), (1, .int (zI (q))), (2, .int (zI (a))), (3, .int (zI (b)))] dX8_pump_72 rfl (by decide) rfl ?_
          refine zr_iconst X 75 dX8_pump_74 rfl ?_
          refine zr_istore X 77 [(6, .int (zI (0))), (5, .int (zI (τ34 29))), (4, .ref hp38q), (0, .ref (c 60)), (1, .int (zI (q))), (2, .int (zI (a))), (3, .int (zI (b)))] dX8_pump_75 rfl (by decide) rfl ?_
          obtain ⟨ln, lne⟩ : ∃ z9 : Nat, z9 = (zsz τ34 q).toNat := ⟨_, rfl⟩
          have hln : ln ≤ 80 ∧ 1 ≤ a ∧ a ≤ 8 ∧ 1 ≤ b ∧ b ≤ 8 ∧ 0 ≤ τ34 29 ∧ τ34 29 ≤ τ34 28 ∧ τ34 28 + ln ≤ 160 ∧ τ34 26 = τ 26 ∧ 0 ≤ q ∧ q ≤ 7 ∧ (ln : Int) = zsz τ34 q ∧ τ34 27 = τ34 28 - τ34 29 := by omega
          have lc42 := hp38h
          rw [← lne] at lc42
          refine zr_sub [0, 1, 2, 6, 5, 4, 3] [(6, .int (zI (0))), (5, .int (zI (τ34 29))), (4, .ref hp38q), (3, .int (zI (b))), (2, .int (zI (a))), (1, .int (zI (q))), (0, .ref (c 60))] rfl ?_
          have loop : ∀ (N : Nat) (V1 : zV) (τ1 : Nat → Int) (nx : Int), zMo Γ V1 c md τ1 κ E ∧ zfm V V1 ∧ V1 hp38q = some (hp38t, za Γ.2.1 0 ln hp38f) ∧ (∀ j, ¬ (26 ≤ j ∧ j ≤ 29) → j ≠ 33 → j ≠ 36 → τ1 j = τ34 j) ∧ τ1 26 = τ34 26 ∧ 0 ≤ nx ∧ nx ≤ ((ln : Nat) : Int) ∧ τ1 28 + (((ln : Nat) : Int) - nx) ≤ 160 ∧ τ34 29 ≤ τ1 29 ∧ (∃ F : Nat, (ln : Int) - nx + τ1 27 ≤ (F : Int) ∧ zpm a b (τ34 26) (ln : Int) F nx (τ1 27) (τ1 28) (τ1 29) (τ1 33) = zpm a b (τ34 26) (ln : Int) ((ln : Int) + τ34 27).toNat 0 (τ34 27) (τ34 28) (τ34 29) (τ34 33)) → (2 * (((ln : Nat) : Int) - nx) + (τ1 28 - τ1 29)).toNat = N → zG C V1 (3011 - 1) (6340 - 40) 77 [(6, .int (zI (nx))), (5, .int (zI (τ34 29))), (4, .ref hp38q), (3, .int (zI (b))), (2, .int (zI (a))), (1, .int (zI (q))), (0, .ref (c 60))] [] := by
            intro N
            induction N using Nat.strongRecOn with
            | _ N ih =>
            intro V1 τ1 nx hI hN
            obtain ⟨hI1, hI2, hI3, hI4, hI5, hI6, hI7, hI8, hI9, ⟨hF, hF1, hF2⟩⟩ := id hI
            try clear nn1
            try clear no5a
            try clear no9a
            try clear bq10
            try clear tc14a
            try clear tc14b
            try clear τ16_24
            try clear τ16_25
            try clear τ16_26
            try clear τ16_27
            try clear τ16_28
            try clear τ16_29
            try clear τ16_30
            try clear τ16_31
            try clear τ16_32
            try clear τ16_33
            try clear τ16_36
            try clear bq17
            try clear τ19_24
            try clear τ19_25
            try clear τ19_26
            try clear τ19_27
            try clear τ19_28
            try clear τ19_29
            try clear τ19_30
            try clear τ19_31
            try clear τ19_32
            try clear τ19_33
            try clear τ19_36
            try clear bq20
            try clear no24a
            try clear bq25
            try clear tc29a
            try clear tc29b
            try clear τ31_24
            try clear τ31_25
            try clear τ31_26
            try clear τ31_27
            try clear τ31_28
            try clear τ31_29
            try clear τ31_30
            try clear τ31_31
            try clear τ31_32
            try clear τ31_33
            try clear τ31_36
            try clear bq32
            try clear τ34_24
            try clear τ34_25
            try clear τ34_26
            try clear τ34_27
            try clear τ34_28
            try clear τ34_29
            try clear τ34_30
            try clear τ34_31
            try clear τ34_32
            try clear τ34_33
            try clear τ34_36
            try clear bq35
            try clear hp38n1
            try clear hp38n2
            try clear bq41
            try clear lne
            have nn43 : (0 ≤ κ 0 ∧ κ 0 ≤ κ 1 ∧ κ 0 ≤ E ∧ κ 1 ≤ 7000) ∧ (0 ≤ τ1 24 ∧ τ1 24 ≤ 80 ∧ 0 ≤ τ1 25 ∧ τ1 25 ≤ 80) ∧ 1 ≤ τ1 26 ∧ τ1 26 ≤ 8 ∧ 0 ≤ τ1 29 ∧ τ1 29 ≤ τ1 28 ∧ τ1 28 ≤ 160 ∧ τ1 27 ≤ τ1 26 ∧ τ1 27 = τ1 28 - τ1 29 := hI1.n
            refine zr_iload X 79 0 dX8_pump_77 rfl rfl ?_
            refine zr_aload X 81 2 dX8_pump_79 rfl rfl ?_
            refine zr_alen X 82 0 hI3 (by decide) dX8_pump_81 rfl ?_
            refine zr_icmp_lt X 96 85 dX8_pump_82 rfl rfl (by omega) (by omega) (fun bq44 => ?_) (fun bq44 => ?_)
            · refine zr_iload_n X 97 4 dX8_pump_96 rfl rfl ?_
              refine zr_aload X 99 2 dX8_pump_97 rfl rfl ?_
              refine zr_alen X 100 0 hI3 (by decide) dX8_pump_99 rfl ?_
              refine zr_iload X 102 0 dX8_pump_100 rfl rfl ?_
              refine zr_isub X 103 dX8_pump_102 rfl ?_
              refine zr_aload_n X 104 6 dX8_pump_103 rfl rfl ?_
              have c845 : V1 (c 60) = some (60, .inr (9, [.ref (md 61), .int (zI (κ 0)), .ref (c 62), .ref (md 63), .ref (md 64), .ref (c 65), .int (zI (τ1 26)), .int (zI (τ1 28)), .int (zI (τ1 29)), .ref (c 66), .int (zI (τ1 36))])) := hI1.1
              refine zr_get X 107 9 6 c845 rfl iX8 (by decide) w3 rfl rfl dX8_pump_104 rfl ?_
              refine zr_aload_n X 108 6 dX8_pump_107 rfl rfl ?_
              refine zr_get X 111 9 7 c845 rfl iX8 (by decide) w0 rfl rfl dX8_pump_108 rfl ?_
              refine zr_aload_n X 112 6 dX8_pump_111 rfl rfl ?_
              refine zr_get X 115 9 8 c845 rfl iX8 (by decide) w2 rfl rfl dX8_pump_112 rfl ?_
              refine zr_isub X 116 dX8_pump_115 rfl ?_
              refine zr_isub X 117 dX8_pump_116 rfl ?_
              obtain ⟨mz46, mz46e, mz46a⟩ : ∃ z9 : Int, z9 = (if (τ1 26) - ((τ1 28) - (τ1 29)) < ((ln : Nat) - nx : Int) then (τ1 26) - ((τ1 28) - (τ1 29)) else ((ln : Nat) - nx : Int)) ∧ (((τ1 26) - ((τ1 28) - (τ1 29)) < ((ln : Nat) - nx : Int) ∧ z9 = (τ1 26) - ((τ1 28) - (τ1 29))) ∨ (¬ (τ1 26) - ((τ1 28) - (τ1 29)) < ((ln : Nat) - nx : Int) ∧ z9 = ((ln : Nat) - nx : Int))) := zmine _ _
              refine zr_mmin X 120 (mz46) w4 w5 w6 w7 (by decide) (Nat.le_of_ble_eq_true rfl) (by omega) (by omega) mz46e dX8_pump_117 rfl ?_
              clear mz46e
              obtain ⟨mz47, mz47e, mz47a⟩ : ∃ z9 : Int, z9 = (if mz46 < a then mz46 else a) ∧ ((mz46 < a ∧ z9 = mz46) ∨ (¬ mz46 < a ∧ z9 = a)) := zmine _ _
              refine zr_mmin X 123 (mz47) w4 w5 w6 w7 (by decide) (Nat.le_of_ble_eq_true rfl) (by omega) (by omega) mz47e dX8_pump_120 rfl ?_
              clear mz47e
              refine zr_istore X 125 [(7, .int (zI (mz47))), (6, .int (zI (nx))), (5, .int (zI (τ34 29))), (4, .ref hp38q), (3, .int (zI (b))), (2, .int (zI (a))), (1, .int (zI (q))), (0, .ref (c 60))] dX8_pump_123 rfl (by decide) rfl ?_
              refine zr_iconst X 126 dX8_pump_125 rfl ?_
              refine zr_istore X 128 [(8, .int (zI (0))), (7, .int (zI (mz47))), (6, .int (zI (nx))), (5, .int (zI (τ34 29))), (4, .ref hp38q), (3, .int (zI (b))), (2, .int (zI (a))), (1, .int (zI (q))), (0, .ref (c 60))] dX8_pump_126 rfl (by decide) rfl ?_
              have hmz : 0 ≤ mz47 ∧ mz47 ≤ (ln : Int) - nx ∧ mz47 ≤ τ1 26 - (τ1 28 - τ1 29) ∧ (mz47 ≤ 0 → τ1 29 < τ1 28) := by omega
              have hmn : zm1 mz47 a ((ln : Int) - nx) (τ1 26 - (τ1 28 - τ1 29)) := by
                unfold zm1
                omega
              have hr1 : 1 ≤ τ1 26 ∧ τ1 26 ≤ 8 ∧ 0 ≤ τ1 29 ∧ τ1 29 ≤ τ1 28 ∧ τ1 28 ≤ 160 ∧ τ1 27 = τ1 28 - τ1 29 := by omega
              have loop2 : ∀ (N : Nat) (V2 : zV) (τ2 : Nat → Int) (j2 : Int) (n2 : Int), zMo Γ V2 c md τ2 κ E ∧ zfm V V2 ∧ V2 hp38q = some (hp38t, za Γ.2.1 0 ln hp38f) ∧ (∀ j, ¬ (26 ≤ j ∧ j ≤ 29) → j ≠ 33 → j ≠ 36 → τ2 j = τ1 j) ∧ τ2 26 = τ1 26 ∧ τ2 28 = τ1 28 + j2 ∧ τ2 29 = τ1 29 ∧ 0 ≤ j2 ∧ (j2 ≤ mz47 ∨ j2 = 0) ∧ n2 = nx + j2 ∧ τ2 33 = τ1 33 → (mz47 - j2).toNat = N → zG C V2 (3011 - 1) (6340 - 40) 128 [(8, .int (zI (j2))), (7, .int (zI (mz47))), (6, .int (zI (n2))), (5, .int (zI (τ34 29))), (4, .ref hp38q), (3, .int (zI (b))), (2, .int (zI (a))), (1, .int (zI (q))), (0, .ref (c 60))] [] := by
                intro N2
                induction N2 using Nat.strongRecOn with
                | _ N2 ih2 =>
                intro V2 τ2 j2 n2 hI2 hN2
                obtain ⟨hK1, hK2, hK3, hK4, hK5, hK6, hK7, hK8, hK9, hK10, hK11⟩ := id hI2
                try clear nn1
                try clear no5a
                try clear no9a
                try clear bq10
                try clear tc14a
                try clear tc14b
                try clear τ16_24
                try clear τ16_25
                try clear τ16_26
                try clear τ16_27
                try clear τ16_28
                try clear τ16_29
                try clear τ16_30
                try clear τ16_31
                try clear τ16_32
                try clear τ16_33
                try clear τ16_36
                try clear bq17
                try clear τ19_24
                try clear τ19_25
                try clear τ19_26
                try clear τ19_27
                try clear τ19_28
                try clear τ19_29
                try clear τ19_30
                try clear τ19_31
                try clear τ19_32
                try clear τ19_33
                try clear τ19_36
                try clear bq20
                try clear no24a
                try clear bq25
                try clear tc29a
                try clear tc29b
                try clear τ31_24
                try clear τ31_25
                try clear τ31_26
                try clear τ31_27
                try clear τ31_28
                try clear τ31_29
                try clear τ31_30
                try clear τ31_31
                try clear τ31_32
                try clear τ31_33
                try clear τ31_36
                try clear bq32
                try clear τ34_24
                try clear τ34_25
                try clear τ34_26
                try clear τ34_27
                try clear τ34_28
                try clear τ34_29
                try clear τ34_30
                try clear τ34_31
                try clear τ34_32
                try clear τ34_33
                try clear τ34_36
                try clear bq35
                try clear hp38n1
                try clear hp38n2
                try clear bq41
                try clear lne
                try clear nn43
                try clear bq44
                try clear mz46a
                try clear mz47a
                have nn48 : (0 ≤ κ 0 ∧ κ 0 ≤ κ 1 ∧ κ 0 ≤ E ∧ κ 1 ≤ 7000) ∧ (0 ≤ τ2 24 ∧ τ2 24 ≤ 80 ∧ 0 ≤ τ2 25 ∧ τ2 25 ≤ 80) ∧ 1 ≤ τ2 26 ∧ τ2 26 ≤ 8 ∧ 0 ≤ τ2 29 ∧ τ2 29 ≤ τ2 28 ∧ τ2 28 ≤ 160 ∧ τ2 27 ≤ τ2 26 ∧ τ2 27 = τ2 28 - τ2 29 := hK1.n
                refine zr_iload X 130 0 dX8_pump_128 rfl rfl ?_
                refine zr_iload X 132 1 dX8_pump_130 rfl rfl ?_
                refine zr_icmp_ge X 165 135 dX8_pump_132 rfl rfl (by omega) (by omega) (fun bq49 => ?_) (fun bq49 => ?_)
                · refine zr_aload_n X 166 8 dX8_pump_165 rfl rfl ?_
                  refine zr_dup X 167 dX8_pump_166 rfl rfl ?_
                  have c850 : V2 (c 60) = some (60, .inr (9, [.ref (md 61), .int (zI (κ 0)), .ref (c 62), .ref (md 63), .ref (md 64), .ref (c 65), .int (zI (τ2 26)), .int (zI (τ2 28)), .int (zI (τ2 29)), .ref (c 66), .int (zI (τ2 36))])) := hK1.1
                  refine zr_get X 170 9 8 c850 rfl iX8 (by decide) w2 rfl rfl dX8_pump_167 rfl ?_
                  refine zr_iload_n X 171 5 dX8_pump_170 rfl rfl ?_
                  refine zr_aload_n X 172 8 dX8_pump_171 rfl rfl ?_
                  refine zr_get X 175 9 7 c850 rfl iX8 (by decide) w0 rfl rfl dX8_pump_172 rfl ?_
                  refine zr_aload_n X 176 8 dX8_pump_175 rfl rfl ?_
                  refine zr_get X 179 9 8 c850 rfl iX8 (by decide) w2 rfl rfl dX8_pump_176 rfl ?_
                  refine zr_isub X 180 dX8_pump_179 rfl ?_
                  obtain ⟨mz51, mz51e, mz51a⟩ : ∃ z9 : Int, z9 = (if (τ2 28) - (τ2 29) < b then (τ2 28) - (τ2 29) else b) ∧ (((τ2 28) - (τ2 29) < b ∧ z9 = (τ2 28) - (τ2 29)) ∨ (¬ (τ2 28) - (τ2 29) < b ∧ z9 = b)) := zmine _ _
                  refine zr_mmin X 183 (mz51) w4 w5 w6 w7 (by decide) (Nat.le_of_ble_eq_true rfl) (by omega) (by omega) mz51e dX8_pump_180 rfl ?_
                  clear mz51e
                  refine zr_iadd X 184 dX8_pump_183 rfl ?_
                  refine zr_put X 187 9 8 [.ref (md 61), .int (zI (κ 0)), .ref (c 62), .ref (md 63), .ref (md 64), .ref (c 65), .int (zI (τ2 26)), .int (zI (τ2 28)), .int (zI ((τ2 29) + mz51)), .ref (c 66), .int (zI (τ2 36))] tyX8 c850 rfl iX8 tyX8_ok nmX8 (by decide) w2 rfl rfl rfl rfl (Nat.le_of_ble_eq_true rfl) rfl dX8_pump_184 rfl ?_
                  obtain ⟨cm52h, cm52f⟩ := hK1.setM (τ2 26) (τ2 28) ((τ2 29) + mz51) (τ2 36) (by omega)
                  obtain ⟨cm52V, cm52e⟩ : ∃ zz9 : zV, zz9 = (zu V2 (c 60) 60 (.inr (9, [.ref (md 61), .int (zI (κ 0)), .ref (c 62), .ref (md 63), .ref (md 64), .ref (c 65), .int (zI (τ2 26)), .int (zI (τ2 28)), .int (zI ((τ2 29) + mz51)), .ref (c 66), .int (zI (τ2 36))]))) := ⟨_, rfl⟩
                  have cm52m : zMo Γ cm52V c md (zmf τ2 (τ2 26) (τ2 28) ((τ2 29) + mz51) (τ2 36)) κ E := by
                    rw [cm52e]
                    exact cm52h
                  have cm52g : zag (fun x => x ≠ 60) V2 cm52V := by
                    rw [cm52e]
                    exact cm52f
                  refine zr_view (cm52e).symm ?_
                  have lc53 := cm52g _ _ _ hK3 (by omega)
                  have fx54 : zfm V cm52V := zag.tr hK2 (cm52g.mono (fun t ht => by omega))
                  obtain ⟨τ55, τ55e⟩ : ∃ zz9 : Nat → Int, zz9 = zmf τ2 (τ2 26) (τ2 28) ((τ2 29) + mz51) (τ2 36) := ⟨_, rfl⟩
                  rw [← τ55e] at cm52m
                  have τ55_24 : τ55 24 = τ2 24 := by rw [τ55e]; exact rfl
                  have τ55_25 : τ55 25 = τ2 25 := by rw [τ55e]; exact rfl
                  have τ55_26 : τ55 26 = τ2 26 := by rw [τ55e]; exact rfl
                  have τ55_27 : τ55 27 = (τ2 28) - ((τ2 29) + mz51) := by rw [τ55e]; exact rfl
                  have τ55_28 : τ55 28 = τ2 28 := by rw [τ55e]; exact rfl
                  have τ55_29 : τ55 29 = (τ2 29) + mz51 := by rw [τ55e]; exact rfl
                  have τ55_30 : τ55 30 = τ2 30 := by rw [τ55e]; exact rfl
                  have τ55_31 : τ55 31 = τ2 31 := by rw [τ55e]; exact rfl
                  have τ55_32 : τ55 32 = τ2 32 := by rw [τ55e]; exact rfl
                  have τ55_33 : τ55 33 = τ2 33 := by rw [τ55e]; exact rfl
                  have τ55_36 : τ55 36 = τ2 36 := by rw [τ55e]; exact rfl
                  show zG C cm52V (3011 - 1) (6340 - 40) 187 [(8, .int (zI (j2))), (7, .int (zI (mz47))), (6, .int (zI (n2))), (5, .int (zI (τ34 29))), (4, .ref hp38q), (3, .int (zI (b))), (2, .int (zI (a))), (1, .int (zI (q))), (0, .ref (c 60))] []
                  refine zr_aload_n X 188 8 dX8_pump_187 rfl rfl ?_
                  have c856 : cm52V (c 60) = some (60, .inr (9, [.ref (md 61), .int (zI (κ 0)), .ref (c 62), .ref (md 63), .ref (md 64), .ref (c 65), .int (zI (τ55 26)), .int (zI (τ55 28)), .int (zI (τ55 29)), .ref (c 66), .int (zI (τ55 36))])) := cm52m.1
                  refine zr_get X 191 9 9 c856 rfl iX8 (by decide) w8 rfl rfl dX8_pump_188 rfl ?_
                  refine zr_iconst X 192 dX8_pump_191 rfl ?_
                  refine zr_dup2 X 193 dX8_pump_192 rfl rfl rfl ?_
                  obtain ⟨c857f, c857, c8570, c8571, c8572, c8573⟩ := cm52m.2.2.2.2.2.2.2.1
                  refine zr_iald X 194 c857 (by omega) dX8_pump_193 rfl ?_
                  show zG C cm52V (3011 - 1) (6340 - 40) 194 [(8, .int (zI (j2))), (7, .int (zI (mz47))), (6, .int (zI (n2))), (5, .int (zI (τ34 29))), (4, .ref hp38q), (3, .int (zI (b))), (2, .int (zI (a))), (1, .int (zI (q))), (0, .ref (c 60))] [.int (zI (c857f (3 : Int).toNat)), .int (zI (3)), .ref (c 66)]
                  refine zr_iconst X 195 dX8_pump_194 rfl ?_
                  refine zr_iadd X 196 dX8_pump_195 rfl ?_
                  refine zr_iast X 197 c857 (by omega) dX8_pump_196 rfl ?_
                  have c857x : c857f (3 : Int).toNat + 1 = τ55 33 + 1 := by
                    show c857f 3 + 1 = τ55 33 + 1
                    rw [c8573]
                  have c857y := cm52m.setTal c857 ⟨c8570, c8571, c8572, c8573⟩ 3 (by decide) (c857f (3 : Int).toNat + 1)
                  rw [show zf τ55 (30 + 3) (c857f (3 : Int).toNat + 1) = zf τ55 (30 + 3) (τ55 33 + 1) by rw [c857x]] at c857y
                  obtain ⟨cm58h, cm58f⟩ := c857y
                  obtain ⟨cm58V, cm58e⟩ : ∃ zz9 : zV, zz9 = (zu cm52V (c 66) 66 (za Γ.2.1 0 4 (zf c857f (3 : Int).toNat ((c857f (3 : Int).toNat) + 1)))) := ⟨_, rfl⟩
                  have cm58m : zMo Γ cm58V c md (zf τ55 33 (τ55 33 + 1)) κ E := by
                    rw [cm58e]
                    exact cm58h
                  have cm58g : zag (fun x => x ≠ 66) cm52V cm58V := by
                    rw [cm58e]
                    exact cm58f
                  refine zr_view (cm58e).symm ?_
                  have lc59 := cm58g _ _ _ lc53 (by omega)
                  have fx60 : zfm V cm58V := zag.tr fx54 (cm58g.mono (fun t ht => by omega))
                  obtain ⟨τ61, τ61e⟩ : ∃ zz9 : Nat → Int, zz9 = zf τ55 33 (τ55 33 + 1) := ⟨_, rfl⟩
                  rw [← τ61e] at cm58m
                  have τ61_24 : τ61 24 = τ55 24 := by rw [τ61e]; exact rfl
                  have τ61_25 : τ61 25 = τ55 25 := by rw [τ61e]; exact rfl
                  have τ61_26 : τ61 26 = τ55 26 := by rw [τ61e]; exact rfl
                  have τ61_27 : τ61 27 = τ55 27 := by rw [τ61e]; exact rfl
                  have τ61_28 : τ61 28 = τ55 28 := by rw [τ61e]; exact rfl
                  have τ61_29 : τ61 29 = τ55 29 := by rw [τ61e]; exact rfl
                  have τ61_30 : τ61 30 = τ55 30 := by rw [τ61e]; exact rfl
                  have τ61_31 : τ61 31 = τ55 31 := by rw [τ61e]; exact rfl
                  have τ61_32 : τ61 32 = τ55 32 := by rw [τ61e]; exact rfl
                  have τ61_33 : τ61 33 = τ55 33 + 1 := by rw [τ61e]; exact rfl
                  have τ61_36 : τ61 36 = τ55 36 := by rw [τ61e]; exact rfl
                  show zG C cm58V (3011 - 1) (6340 - 40) 197 [(8, .int (zI (j2))), (7, .int (zI (mz47))), (6, .int (zI (n2))), (5, .int (zI (τ34 29))), (4, .ref hp38q), (3, .int (zI (b))), (2, .int (zI (a))), (1, .int (zI (q))), (0, .ref (c 60))] []
                  refine zr_goto X 77 dX8_pump_197 rfl ?_
                  refine zr_sub [2, 3, 4, 5, 6, 7, 8] [(6, .int (zI (n2))), (5, .int (zI (τ34 29))), (4, .ref hp38q), (3, .int (zI (b))), (2, .int (zI (a))), (1, .int (zI (q))), (0, .ref (c 60))] rfl ?_
                  have ag62 : (∀ j, ¬ (26 ≤ j ∧ j ≤ 29) → j ≠ 33 → j ≠ 36 → τ61 j = τ34 j) := fun j h1 h3 h4 => by
                    rw [τ61e, zf_ne h3, τ55e, zmf_ne ⟨h1, by omega⟩]
                    exact (hK4 j h1 h3 h4).trans (hI4 j h1 h3 h4)
                  obtain ⟨fz63, fz63e⟩ : ∃ z9 : Nat, hF = z9 + 1 := ⟨hF - 1, by omega⟩
                  have fz63_27 : τ61 27 = τ1 27 + j2 - mz51 := by omega
                  have fz63_28 : τ61 28 = τ1 28 + j2 := by omega
                  have fz63_29 : τ61 29 = τ1 29 + mz51 := by omega
                  have fz63_33 : τ61 33 = τ1 33 + 1 := by omega
                  have fz63j : j2 = mz47 := by omega
                  have fz63w : τ34 26 - τ1 27 = τ1 26 - (τ1 28 - τ1 29) := by omega
                  have fz63m : zm1 j2 a ((ln : Int) - nx) (τ34 26 - τ1 27) := by
                    rw [fz63j, fz63w]
                    exact hmn
                  have fz63z := (zpm_step j2 mz51 fz63e (by omega) fz63m (by omega) hK10 fz63_27 fz63_28 fz63_29 fz63_33).symm.trans hF2
                  exact ih _ (by omega) cm58V τ61 n2 ⟨cm58m, fx60, lc59, ag62, by omega, by omega, by omega, by omega, by omega, ⟨fz63, by omega, fz63z⟩⟩ rfl
                · refine zr_aload_n X 136 8 dX8_pump_135 rfl rfl ?_
                  have c864 : V2 (c 60) = some (60, .inr (9, [.ref (md 61), .int (zI (κ 0)), .ref (c 62), .ref (md 63), .ref (md 64), .ref (c 65), .int (zI (τ2 26)), .int (zI (τ2 28)), .int (zI (τ2 29)), .ref (c 66), .int (zI (τ2 36))])) := hK1.1
                  refine zr_get X 139 9 5 c864 rfl iX8 (by decide) w9 rfl rfl dX8_pump_136 rfl ?_
                  refine zr_aload_n X 140 8 dX8_pump_139 rfl rfl ?_
                  refine zr_dup X 141 dX8_pump_140 rfl rfl ?_
                  refine zr_get X 144 9 7 c864 rfl iX8 (by decide) w0 rfl rfl dX8_pump_141 rfl ?_
                  refine zr_dup_x1 X 145 dX8_pump_144 rfl rfl rfl ?_
                  refine zr_iconst X 146 dX8_pump_145 rfl ?_
                  refine zr_iadd X 147 dX8_pump_146 rfl ?_
                  refine zr_put X 150 9 7 [.ref (md 61), .int (zI (κ 0)), .ref (c 62), .ref (md 63), .ref (md 64), .ref (c 65), .int (zI (τ2 26)), .int (zI ((τ2 28) + 1)), .int (zI (τ2 29)), .ref (c 66), .int (zI (τ2 36))] tyX8 c864 rfl iX8 tyX8_ok nmX8 (by decide) w0 rfl rfl rfl rfl (Nat.le_of_ble_eq_true rfl) rfl dX8_pump_147 rfl ?_
                  obtain ⟨cm65h, cm65f⟩ := hK1.setM (τ2 26) ((τ2 28) + 1) (τ2 29) (τ2 36) (by omega)
                  obtain ⟨cm65V, cm65e⟩ : ∃ zz9 : zV, zz9 = (zu V2 (c 60) 60 (.inr (9, [.ref (md 61), .int (zI (κ 0)), .ref (c 62), .ref (md 63), .ref (md 64), .ref (c 65), .int (zI (τ2 26)), .int (zI ((τ2 28) + 1)), .int (zI (τ2 29)), .ref (c 66), .int (zI (τ2 36))]))) := ⟨_, rfl⟩
                  have cm65m : zMo Γ cm65V c md (zmf τ2 (τ2 26) ((τ2 28) + 1) (τ2 29) (τ2 36)) κ E := by
                    rw [cm65e]
                    exact cm65h
                  have cm65g : zag (fun x => x ≠ 60) V2 cm65V := by
                    rw [cm65e]
                    exact cm65f
                  refine zr_view (cm65e).symm ?_
                  have lc66 := cm65g _ _ _ hK3 (by omega)
                  have fx67 : zfm V cm65V := zag.tr hK2 (cm65g.mono (fun t ht => by omega))
                  obtain ⟨τ68, τ68e⟩ : ∃ zz9 : Nat → Int, zz9 = zmf τ2 (τ2 26) ((τ2 28) + 1) (τ2 29) (τ2 36) := ⟨_, rfl⟩
                  rw [← τ68e] at cm65m
                  have τ68_24 : τ68 24 = τ2 24 := by rw [τ68e]; exact rfl
                  have τ68_25 : τ68 25 = τ2 25 := by rw [τ68e]; exact rfl
                  have τ68_26 : τ68 26 = τ2 26 := by rw [τ68e]; exact rfl
                  have τ68_27 : τ68 27 = ((τ2 28) + 1) - (τ2 29) := by rw [τ68e]; exact rfl
                  have τ68_28 : τ68 28 = (τ2 28) + 1 := by rw [τ68e]; exact rfl
                  have τ68_29 : τ68 29 = τ2 29 := by rw [τ68e]; exact rfl
                  have τ68_30 : τ68 30 = τ2 30 := by rw [τ68e]; exact rfl
                  have τ68_31 : τ68 31 = τ2 31 := by rw [τ68e]; exact rfl
                  have τ68_32 : τ68 32 = τ2 32 := by rw [τ68e]; exact rfl
                  have τ68_33 : τ68 33 = τ2 33 := by rw [τ68e]; exact rfl
                  have τ68_36 : τ68 36 = τ2 36 := by rw [τ68e]; exact rfl
                  show zG C cm65V (3011 - 1) (6340 - 40) 150 [(8, .int (zI (j2))), (7, .int (zI (mz47))), (6, .int (zI (n2))), (5, .int (zI (τ34 29))), (4, .ref hp38q), (3, .int (zI (b))), (2, .int (zI (a))), (1, .int (zI (q))), (0, .ref (c 60))] [.int (zI (τ2 28)), .ref (c 65)]
                  refine zr_aload X 152 4 dX8_pump_150 rfl rfl ?_
                  refine zr_iload X 154 2 dX8_pump_152 rfl rfl ?_
                  refine zr_iinc X 157 2 [(6, .int (zI (n2 + 1))), (8, .int (zI (j2))), (7, .int (zI (mz47))), (5, .int (zI (τ34 29))), (4, .ref hp38q), (3, .int (zI (b))), (2, .int (zI (a))), (1, .int (zI (q))), (0, .ref (c 60))] dX8_pump_154 rfl rfl (by decide) rfl ?_
                  refine zr_iald X 158 lc66 (by omega) dX8_pump_157 rfl ?_
                  have zb69 := zc.b hp38c (n2).toNat
                  obtain ⟨c870f, c870, c870c⟩ := cm65m.2.2.2.2.2.2.1
                  refine zr_iast X 159 c870 (by omega) dX8_pump_158 rfl ?_
                  obtain ⟨cm71h, cm71f⟩ := cm65m.setSent (f := zf c870f (τ2 28).toNat (hp38f (n2).toNat)) (zc_zf c870c (by omega))
                  obtain ⟨cm71V, cm71e⟩ : ∃ zz9 : zV, zz9 = (zu cm65V (c 65) 65 (za Γ.2.1 0 160 (zf c870f (τ2 28).toNat (hp38f (n2).toNat)))) := ⟨_, rfl⟩
                  have cm71m : zMo Γ cm71V c md (τ68) κ E := by
                    rw [cm71e]
                    exact cm71h
                  have cm71g : zag (fun x => x ≠ 65) cm65V cm71V := by
                    rw [cm71e]
                    exact cm71f
                  refine zr_view (cm71e).symm ?_
                  have lc72 := cm71g _ _ _ lc66 (by omega)
                  have fx73 : zfm V cm71V := zag.tr fx67 (cm71g.mono (fun t ht => by omega))
                  show zG C cm71V (3011 - 1) (6340 - 40) 159 [(6, .int (zI (n2 + 1))), (8, .int (zI (j2))), (7, .int (zI (mz47))), (5, .int (zI (τ34 29))), (4, .ref hp38q), (3, .int (zI (b))), (2, .int (zI (a))), (1, .int (zI (q))), (0, .ref (c 60))] []
                  refine zr_iinc X 162 1 [(8, .int (zI (j2 + 1))), (6, .int (zI (n2 + 1))), (7, .int (zI (mz47))), (5, .int (zI (τ34 29))), (4, .ref hp38q), (3, .int (zI (b))), (2, .int (zI (a))), (1, .int (zI (q))), (0, .ref (c 60))] dX8_pump_159 rfl rfl (by decide) rfl ?_
                  refine zr_goto X 128 dX8_pump_162 rfl ?_
                  refine zr_sub [0, 2, 1, 3, 4, 5, 6, 7, 8] [(8, .int (zI (j2 + 1))), (7, .int (zI (mz47))), (6, .int (zI (n2 + 1))), (5, .int (zI (τ34 29))), (4, .ref hp38q), (3, .int (zI (b))), (2, .int (zI (a))), (1, .int (zI (q))), (0, .ref (c 60))] rfl ?_
                  have ag74 : (∀ j, ¬ (26 ≤ j ∧ j ≤ 29) → j ≠ 33 → j ≠ 36 → τ68 j = τ1 j) := fun j h1 h3 h4 => by
                    rw [τ68e, zmf_ne ⟨h1, by omega⟩]
                    exact hK4 j h1 h3 h4
                  exact ih2 _ (by omega) cm71V τ68 (j2 + 1) (n2 + 1) ⟨cm71m, fx73, lc72, ag74, by omega, by omega, by omega, by omega, by omega, by omega, by omega⟩ rfl
              exact loop2 _ V1 τ1 0 nx ⟨hI1, hI2, hI3, fun _ _ _ _ => rfl, rfl, by omega, rfl, by omega, by omega, by omega, rfl⟩ rfl
            · refine zr_aload_n X 86 6 dX8_pump_85 rfl rfl ?_
              have c875 : V1 (c 60) = some (60, .inr (9, [.ref (md 61), .int (zI (κ 0)), .ref (c 62), .ref (md 63), .ref (md 64), .ref (c 65), .int (zI (τ1 26)), .int (zI (τ1 28)), .int (zI (τ1 29)), .ref (c 66), .int (zI (τ1 36))])) := hI1.1
              refine zr_get X 89 9 7 c875 rfl iX8 (by decide) w0 rfl rfl dX8_pump_86 rfl ?_
              refine zr_aload_n X 90 6 dX8_pump_89 rfl rfl ?_
              refine zr_get X 93 9 8 c875 rfl iX8 (by decide) w2 rfl rfl dX8_pump_90 rfl ?_
              refine zr_icmp_le X 200 96 dX8_pump_93 rfl rfl (by omega) (by omega) (fun bq76 => ?_) (fun bq76 => ?_)
              · refine zr_aload_n X 201 6 dX8_pump_200 rfl rfl ?_
                refine zr_iconst X 202 dX8_pump_201 rfl ?_
                refine zr_callVe (kc' := (3011 - 1)) (ks' := (6340 - 40)) X 205 1 (m_X8_done l Γ hI1) gX8_pump_X8_done rfl (by decide +kernel) rfl (by decide) ⟨_, _, hI1.1⟩ rfl rfl (Nat.le_of_ble_eq_true rfl) dX8_pump_202 rfl (by omega) (by omega) (fun rv77 V78 hp79 => ?_)
                obtain ⟨hp79e, hp79m, hp79g⟩ := hp79
                rw [hp79e]
                have lc80 := hp79g _ _ _ hI3 (by omega)
                have fx81 : zfm V V78 := zag.tr hI2 (hp79g.mono (fun t ht => by omega))
                obtain ⟨τ82, τ82e⟩ : ∃ zz9 : Nat → Int, zz9 = zdn τ1 := ⟨_, rfl⟩
                rw [← τ82e] at hp79m
                have τ82_24 : τ82 24 = τ1 24 := by rw [τ82e]; exact rfl
                have τ82_25 : τ82 25 = τ1 25 := by rw [τ82e]; exact rfl
                have τ82_26 : τ82 26 = τ1 26 := by rw [τ82e]; exact rfl
                have τ82_27 : τ82 27 = τ1 27 := by rw [τ82e]; exact rfl
                have τ82_28 : τ82 28 = τ1 28 := by rw [τ82e]; exact rfl
                have τ82_29 : τ82 29 = τ1 29 := by rw [τ82e]; exact rfl
                have τ82_30 : τ82 30 = τ1 30 + 1 := by rw [τ82e]; exact rfl
                have τ82_31 : τ82 31 = τ1 31 := by rw [τ82e]; exact rfl
                have τ82_32 : τ82 32 = τ1 32 := by rw [τ82e]; exact rfl
                have τ82_33 : τ82 33 = τ1 33 := by rw [τ82e]; exact rfl
                have τ82_36 : τ82 36 = τ1 36 := by rw [τ82e]; exact rfl
                show zG C V78 (3011 - 1) (6340 - 40) 205 [(6, .int (zI (nx))), (5, .int (zI (τ34 29))), (4, .ref hp38q), (3, .int (zI (b))), (2, .int (zI (a))), (1, .int (zI (q))), (0, .ref (c 60))] [.int (zI (0))]
                refine zr_pop X 206 dX8_pump_205 rfl rfl ?_
                refine zr_aload_n X 207 6 dX8_pump_206 rfl rfl ?_
                have c883 : V78 (c 60) = some (60, .inr (9, [.ref (md 61), .int (zI (κ 0)), .ref (c 62), .ref (md 63), .ref (md 64), .ref (c 65), .int (zI (τ82 26)), .int (zI (τ82 28)), .int (zI (τ82 29)), .ref (c 66), .int (zI (τ82 36))])) := hp79m.1
                refine zr_get X 210 9 5 c883 rfl iX8 (by decide) w9 rfl rfl dX8_pump_207 rfl ?_
                refine zr_iload X 212 1 dX8_pump_210 rfl rfl ?_
                refine zr_aload_n X 213 6 dX8_pump_212 rfl rfl ?_
                refine zr_get X 216 9 8 c883 rfl iX8 (by decide) w2 rfl rfl dX8_pump_213 rfl ?_
                obtain ⟨c884f, c884, c884c⟩ := hp79m.2.2.2.2.2.2.1
                refine zr_callS (kc' := (3011 - 1) - 3010) (ks' := (6340 - 40) - 6300) X 219 3 (m_X8_told l Γ (fr := τ34 29) (to := τ82 29) c884 c884c (by omega) (by omega) (by omega)) gX8_pump_X8_told rfl (by decide +kernel) rfl (by decide) rfl (Nat.le_of_ble_eq_true rfl) dX8_pump_216 rfl (by omega) (by omega) (fun rv85 V86 hp87 => ?_)
                obtain ⟨hp87z, hp87e, hp87f⟩ := hp87
                rw [hp87e]
                have hp87g : zag (fun x => x ≠ 7) V78 V86 := hp87f
                have hp87m := hp79m.kept hp87g (fun t h1 h2 => by omega)
                have lc88 := hp87g _ _ _ lc80 (by omega)
                have fx89 : zfm V V86 := zag.tr fx81 (hp87g.mono (fun t ht => by omega))
                show zG C V86 ((3011 - 1) - 3010) ((6340 - 40) - 6300) 219 [(6, .int (zI (nx))), (5, .int (zI (τ34 29))), (4, .ref hp38q), (3, .int (zI (b))), (2, .int (zI (a))), (1, .int (zI (q))), (0, .ref (c 60))] [.ref hp87z]
                have hlz : (ln : Int) = zsz τ34 q := by omega
                have hlr : (zf τ 36 0) 28 + zsz (zf τ 36 0) q ≤ 160 := by
                  rw [← τ34e, ← hlz]
                  omega
                exact zr_aret X rfl (Or.inl ⟨_, rfl⟩) ⟨hp87z, md, τ82, κ, rfl, hp87m.le (by omega), fx89, Or.inr (Or.inr (Or.inr ⟨by omega, hlr, (fun j h1 h2 h3 h4 => by rw [τ82e, zdn_ne h2, hI4 j h1 h3 h4, τ34e]; exact zf_ne (by omega)), by omega, by rw [τ82e]; show τ1 30 + 1 = τ 30 + 1; rw [hI4 30 (by omega) (by omega) (by omega), τ34e]; rfl, (by rw [← τ34e, ← hlz, τ82e]; show (τ1 27, τ1 28, τ1 29, τ1 33) = _; exact (zpm_fin (n := hF) (Or.inr ⟨by omega, by omega⟩)).symm.trans hF2)⟩))⟩ dX8_pump_219
              · refine zr_iload_n X 97 4 dX8_pump_96 rfl rfl ?_
                refine zr_aload X 99 2 dX8_pump_97 rfl rfl ?_
                refine zr_alen X 100 0 hI3 (by decide) dX8_pump_99 rfl ?_
                refine zr_iload X 102 0 dX8_pump_100 rfl rfl ?_
                refine zr_isub X 103 dX8_pump_102 rfl ?_
                refine zr_aload_n X 104 6 dX8_pump_103 rfl rfl ?_
                refine zr_get X 107 9 6 c875 rfl iX8 (by decide) w3 rfl rfl dX8_pump_104 rfl ?_
                refine zr_aload_n X 108 6 dX8_pump_107 rfl rfl ?_
                refine zr_get X 111 9 7 c875 rfl iX8 (by decide) w0 rfl rfl dX8_pump_108 rfl ?_
                refine zr_aload_n X 112 6 dX8_pump_111 rfl rfl ?_
                refine zr_get X 115 9 8 c875 rfl iX8 (by decide) w2 rfl rfl dX8_pump_112 rfl ?_
                refine zr_isub X 116 dX8_pump_115 rfl ?_
                refine zr_isub X 117 dX8_pump_116 rfl ?_
                obtain ⟨mz90, mz90e, mz90a⟩ : ∃ z9 : Int, z9 = (if (τ1 26) - ((τ1 28) - (τ1 29)) < ((ln : Nat) - nx : Int) then (τ1 26) - ((τ1 28) - (τ1 29)) else ((ln : Nat) - nx : Int)) ∧ (((τ1 26) - ((τ1 28) - (τ1 29)) < ((ln : Nat) - nx : Int) ∧ z9 = (τ1 26) - ((τ1 28) - (τ1 29))) ∨ (¬ (τ1 26) - ((τ1 28) - (τ1 29)) < ((ln : Nat) - nx : Int) ∧ z9 = ((ln : Nat) - nx : Int))) := zmine _ _
                refine zr_mmin X 120 (mz90) w4 w5 w6 w7 (by decide) (Nat.le_of_ble_eq_true rfl) (by omega) (by omega) mz90e dX8_pump_117 rfl ?_
                clear mz90e
                obtain ⟨mz91, mz91e, mz91a⟩ : ∃ z9 : Int, z9 = (if mz90 < a then mz90 else a) ∧ ((mz90 < a ∧ z9 = mz90) ∨ (¬ mz90 < a ∧ z9 = a)) := zmine _ _
                refine zr_mmin X 123 (mz91) w4 w5 w6 w7 (by decide) (Nat.le_of_ble_eq_true rfl) (by omega) (by omega) mz91e dX8_pump_120 rfl ?_
                clear mz91e
                refine zr_istore X 125 [(7, .int (zI (mz91))), (6, .int (zI (nx))), (5, .int (zI (τ34 29))), (4, .ref hp38q), (3, .int (zI (b))), (2, .int (zI (a))), (1, .int (zI (q))), (0, .ref (c 60))] dX8_pump_123 rfl (by decide) rfl ?_
                refine zr_iconst X 126 dX8_pump_125 rfl ?_
                refine zr_istore X 128 [(8, .int (zI (0))), (7, .int (zI (mz91))), (6, .int (zI (nx))), (5, .int (zI (τ34 29))), (4, .ref hp38q), (3, .int (zI (b))), (2, .int (zI (a))), (1, .int (zI (q))), (0, .ref (c 60))] dX8_pump_126 rfl (by decide) rfl ?_
                have hmz : 0 ≤ mz91 ∧ mz91 ≤ (ln : Int) - nx ∧ mz91 ≤ τ1 26 - (τ1 28 - τ1 29) ∧ (mz91 ≤ 0 → τ1 29 < τ1 28) := by omega
                have hmn : zm1 mz91 a ((ln : Int) - nx) (τ1 26 - (τ1 28 - τ1 29)) := by
                  unfold zm1
                  omega
                have hr1 : 1 ≤ τ1 26 ∧ τ1 26 ≤ 8 ∧ 0 ≤ τ1 29 ∧ τ1 29 ≤ τ1 28 ∧ τ1 28 ≤ 160 ∧ τ1 27 = τ1 28 - τ1 29 := by omega
                have loop2 : ∀ (N : Nat) (V2 : zV) (τ2 : Nat → Int) (j2 : Int) (n2 : Int), zMo Γ V2 c md τ2 κ E ∧ zfm V V2 ∧ V2 hp38q = some (hp38t, za Γ.2.1 0 ln hp38f) ∧ (∀ j, ¬ (26 ≤ j ∧ j ≤ 29) → j ≠ 33 → j ≠ 36 → τ2 j = τ1 j) ∧ τ2 26 = τ1 26 ∧ τ2 28 = τ1 28 + j2 ∧ τ2 29 = τ1 29 ∧ 0 ≤ j2 ∧ (j2 ≤ mz91 ∨ j2 = 0) ∧ n2 = nx + j2 ∧ τ2 33 = τ1 33 → (mz91 - j2).toNat = N → zG C V2 (3011 - 1) (6340 - 40) 128 [(8, .int (zI (j2))), (7, .int (zI (mz91))), (6, .int (zI (n2))), (5, .int (zI (τ34 29))), (4, .ref hp38q), (3, .int (zI (b))), (2, .int (zI (a))), (1, .int (zI (q))), (0, .ref (c 60))] [] := by
                  intro N2
                  induction N2 using Nat.strongRecOn with
                  | _ N2 ih2 =>
                  intro V2 τ2 j2 n2 hI2 hN2
                  obtain ⟨hK1, hK2, hK3, hK4, hK5, hK6, hK7, hK8, hK9, hK10, hK11⟩ := id hI2
                  try clear nn1
                  try clear no5a
                  try clear no9a
                  try clear bq10
                  try clear tc14a
                  try clear tc14b
                  try clear τ16_24
                  try clear τ16_25
                  try clear τ16_26
                  try clear τ16_27
                  try clear τ16_28
                  try clear τ16_29
                  try clear τ16_30
                  try clear τ16_31
                  try clear τ16_32
                  try clear τ16_33
                  try clear τ16_36
                  try clear bq17
                  try clear τ19_24
                  try clear τ19_25
                  try clear τ19_26
                  try clear τ19_27
                  try clear τ19_28
                  try clear τ19_29
                  try clear τ19_30
                  try clear τ19_31
                  try clear τ19_32
                  try clear τ19_33
                  try clear τ19_36
                  try clear bq20
                  try clear no24a
                  try clear bq25
                  try clear tc29a
                  try clear tc29b
                  try clear τ31_24
                  try clear τ31_25
                  try clear τ31_26
                  try clear τ31_27
                  try clear τ31_28
                  try clear τ31_29
                  try clear τ31_30
                  try clear τ31_31
                  try clear τ31_32
                  try clear τ31_33
                  try clear τ31_36
                  try clear bq32
                  try clear τ34_24
                  try clear τ34_25
                  try clear τ34_26
                  try clear τ34_27
                  try clear τ34_28
                  try clear τ34_29
                  try clear τ34_30
                  try clear τ34_31
                  try clear τ34_32
                  try clear τ34_33
                  try clear τ34_36
                  try clear bq35
                  try clear hp38n1
                  try clear hp38n2
                  try clear bq41
                  try clear lne
                  try clear nn43
                  try clear bq44
                  try clear mz46a
                  try clear mz47a
                  try clear nn48
                  try clear bq49
                  try clear mz51a
                  try clear τ55_24
                  try clear τ55_25
                  try clear τ55_26
                  try clear τ55_27
                  try clear τ55_28
                  try clear τ55_29
                  try clear τ55_30
                  try clear τ55_31
                  try clear τ55_32
                  try clear τ55_33
                  try clear τ55_36
                  try clear τ61_24
                  try clear τ61_25
                  try clear τ61_26
                  try clear τ61_27
                  try clear τ61_28
                  try clear τ61_29
                  try clear τ61_30
                  try clear τ61_31
                  try clear τ61_32
                  try clear τ61_33
                  try clear τ61_36
                  try clear τ68_24
                  try clear τ68_25
                  try clear τ68_26
                  try clear τ68_27
                  try clear τ68_28
                  try clear τ68_29
                  try clear τ68_30
                  try clear τ68_31
                  try clear τ68_32
                  try clear τ68_33
                  try clear τ68_36
                  try clear bq76
                  try clear τ82_24
                  try clear τ82_25
                  try clear τ82_26
                  try clear τ82_27
                  try clear τ82_28
                  try clear τ82_29
                  try clear τ82_30
                  try clear τ82_31
                  try clear τ82_32
                  try clear τ82_33
                  try clear τ82_36
                  try clear mz90a
                  try clear mz91a
                  have nn92 : (0 ≤ κ 0 ∧ κ 0 ≤ κ 1 ∧ κ 0 ≤ E ∧ κ 1 ≤ 7000) ∧ (0 ≤ τ2 24 ∧ τ2 24 ≤ 80 ∧ 0 ≤ τ2 25 ∧ τ2 25 ≤ 80) ∧ 1 ≤ τ2 26 ∧ τ2 26 ≤ 8 ∧ 0 ≤ τ2 29 ∧ τ2 29 ≤ τ2 28 ∧ τ2 28 ≤ 160 ∧ τ2 27 ≤ τ2 26 ∧ τ2 27 = τ2 28 - τ2 29 := hK1.n
                  refine zr_iload X 130 0 dX8_pump_128 rfl rfl ?_
                  refine zr_iload X 132 1 dX8_pump_130 rfl rfl ?_
                  refine zr_icmp_ge X 165 135 dX8_pump_132 rfl rfl (by omega) (by omega) (fun bq93 => ?_) (fun bq93 => ?_)
                  · refine zr_aload_n X 166 8 dX8_pump_165 rfl rfl ?_
                    refine zr_dup X 167 dX8_pump_166 rfl rfl ?_
                    have c894 : V2 (c 60) = some (60, .inr (9, [.ref (md 61), .int (zI (κ 0)), .ref (c 62), .ref (md 63), .ref (md 64), .ref (c 65), .int (zI (τ2 26)), .int (zI (τ2 28)), .int (zI (τ2 29)), .ref (c 66), .int (zI (τ2 36))])) := hK1.1
                    refine zr_get X 170 9 8 c894 rfl iX8 (by decide) w2 rfl rfl dX8_pump_167 rfl ?_
                    refine zr_iload_n X 171 5 dX8_pump_170 rfl rfl ?_
                    refine zr_aload_n X 172 8 dX8_pump_171 rfl rfl ?_
                    refine zr_get X 175 9 7 c894 rfl iX8 (by decide) w0 rfl rfl dX8_pump_172 rfl ?_
                    refine zr_aload_n X 176 8 dX8_pump_175 rfl rfl ?_
                    refine zr_get X 179 9 8 c894 rfl iX8 (by decide) w2 rfl rfl dX8_pump_176 rfl ?_
                    refine zr_isub X 180 dX8_pump_179 rfl ?_
                    obtain ⟨mz95, mz95e, mz95a⟩ : ∃ z9 : Int, z9 = (if (τ2 28) - (τ2 29) < b then (τ2 28) - (τ2 29) else b) ∧ (((τ2 28) - (τ2 29) < b ∧ z9 = (τ2 28) - (τ2 29)) ∨ (¬ (τ2 28) - (τ2 29) < b ∧ z9 = b)) := zmine _ _
                    refine zr_mmin X 183 (mz95) w4 w5 w6 w7 (by decide) (Nat.le_of_ble_eq_true rfl) (by omega) (by omega) mz95e dX8_pump_180 rfl ?_
                    clear mz95e
                    refine zr_iadd X 184 dX8_pump_183 rfl ?_
                    refine zr_put X 187 9 8 [.ref (md 61), .int (zI (κ 0)), .ref (c 62), .ref (md 63), .ref (md 64), .ref (c 65), .int (zI (τ2 26)), .int (zI (τ2 28)), .int (zI ((τ2 29) + mz95)), .ref (c 66), .int (zI (τ2 36))] tyX8 c894 rfl iX8 tyX8_ok nmX8 (by decide) w2 rfl rfl rfl rfl (Nat.le_of_ble_eq_true rfl) rfl dX8_pump_184 rfl ?_
                    obtain ⟨cm96h, cm96f⟩ := hK1.setM (τ2 26) (τ2 28) ((τ2 29) + mz95) (τ2 36) (by omega)
                    obtain ⟨cm96V, cm96e⟩ : ∃ zz9 : zV, zz9 = (zu V2 (c 60) 60 (.inr (9, [.ref (md 61), .int (zI (κ 0)), .ref (c 62), .ref (md 63), .ref (md 64), .ref (c 65), .int (zI (τ2 26)), .int (zI (τ2 28)), .int (zI ((τ2 29) + mz95)), .ref (c 66), .int (zI (τ2 36))]))) := ⟨_, rfl⟩
                    have cm96m : zMo Γ cm96V c md (zmf τ2 (τ2 26) (τ2 28) ((τ2 29) + mz95) (τ2 36)) κ E := by
                      rw [cm96e]
                      exact cm96h
                    have cm96g : zag (fun x => x ≠ 60) V2 cm96V := by
                      rw [cm96e]
                      exact cm96f
                    refine zr_view (cm96e).symm ?_
                    have lc97 := cm96g _ _ _ hK3 (by omega)
                    have fx98 : zfm V cm96V := zag.tr hK2 (cm96g.mono (fun t ht => by omega))
                    obtain ⟨τ99, τ99e⟩ : ∃ zz9 : Nat → Int, zz9 = zmf τ2 (τ2 26) (τ2 28) ((τ2 29) + mz95) (τ2 36) := ⟨_, rfl⟩
                    rw [← τ99e] at cm96m
                    have τ99_24 : τ99 24 = τ2 24 := by rw [τ99e]; exact rfl
                    have τ99_25 : τ99 25 = τ2 25 := by rw [τ99e]; exact rfl
                    have τ99_26 : τ99 26 = τ2 26 := by rw [τ99e]; exact rfl
                    have τ99_27 : τ99 27 = (τ2 28) - ((τ2 29) + mz95) := by rw [τ99e]; exact rfl
                    have τ99_28 : τ99 28 = τ2 28 := by rw [τ99e]; exact rfl
                    have τ99_29 : τ99 29 = (τ2 29) + mz95 := by rw [τ99e]; exact rfl
                    have τ99_30 : τ99 30 = τ2 30 := by rw [τ99e]; exact rfl
                    have τ99_31 : τ99 31 = τ2 31 := by rw [τ99e]; exact rfl
                    have τ99_32 : τ99 32 = τ2 32 := by rw [τ99e]; exact rfl
                    have τ99_33 : τ99 33 = τ2 33 := by rw [τ99e]; exact rfl
                    have τ99_36 : τ99 36 = τ2 36 := by rw [τ99e]; exact rfl
                    show zG C cm96V (3011 - 1) (6340 - 40) 187 [(8, .int (zI (j2))), (7, .int (zI (mz91))), (6, .int (zI (n2))), (5, .int (zI (τ34 29))), (4, .ref hp38q), (3, .int (zI (b))), (2, .int (zI (a))), (1, .int (zI (q))), (0, .ref (c 60))] []
                    refine zr_aload_n X 188 8 dX8_pump_187 rfl rfl ?_
                    have c8100 : cm96V (c 60) = some (60, .inr (9, [.ref (md 61), .int (zI (κ 0)), .ref (c 62), .ref (md 63), .ref (md 64), .ref (c 65), .int (zI (τ99 26)), .int (zI (τ99 28)), .int (zI (τ99 29)), .ref (c 66), .int (zI (τ99 36))])) := cm96m.1
                    refine zr_get X 191 9 9 c8100 rfl iX8 (by decide) w8 rfl rfl dX8_pump_188 rfl ?_
                    refine zr_iconst X 192 dX8_pump_191 rfl ?_
                    refine zr_dup2 X 193 dX8_pump_192 rfl rfl rfl ?_
                    obtain ⟨c8101f, c8101, c81010, c81011, c81012, c81013⟩ := cm96m.2.2.2.2.2.2.2.1
                    refine zr_iald X 194 c8101 (by omega) dX8_pump_193 rfl ?_
                    show zG C cm96V (3011 - 1) (6340 - 40) 194 [(8, .int (zI (j2))), (7, .int (zI (mz91))), (6, .int (zI (n2))), (5, .int (zI (τ34 29))), (4, .ref hp38q), (3, .int (zI (b))), (2, .int (zI (a))), (1, .int (zI (q))), (0, .ref (c 60))] [.int (zI (c8101f (3 : Int).toNat)), .int (zI (3)), .ref (c 66)]
                    refine zr_iconst X 195 dX8_pump_194 rfl ?_
                    refine zr_iadd X 196 dX8_pump_195 rfl ?_
                    refine zr_iast X 197 c8101 (by omega) dX8_pump_196 rfl ?_
                    have c8101x : c8101f (3 : Int).toNat + 1 = τ99 33 + 1 := by
                      show c8101f 3 + 1 = τ99 33 + 1
                      rw [c81013]
                    have c8101y := cm96m.setTal c8101 ⟨c81010, c81011, c81012, c81013⟩ 3 (by decide) (c8101f (3 : Int).toNat + 1)
                    rw [show zf τ99 (30 + 3) (c8101f (3 : Int).toNat + 1) = zf τ99 (30 + 3) (τ99 33 + 1) by rw [c8101x]] at c8101y
                    obtain ⟨cm102h, cm102f⟩ := c8101y
                    obtain ⟨cm102V, cm102e⟩ : ∃ zz9 : zV, zz9 = (zu cm96V (c 66) 66 (za Γ.2.1 0 4 (zf c8101f (3 : Int).toNat ((c8101f (3 : Int).toNat) + 1)))) := ⟨_, rfl⟩
                    have cm102m : zMo Γ cm102V c md (zf τ99 33 (τ99 33 + 1)) κ E := by
                      rw [cm102e]
                      exact cm102h
                    have cm102g : zag (fun x => x ≠ 66) cm96V cm102V := by
                      rw [cm102e]
                      exact cm102f
                    refine zr_view (cm102e).symm ?_
                    have lc103 := cm102g _ _ _ lc97 (by omega)
                    have fx104 : zfm V cm102V := zag.tr fx98 (cm102g.mono (fun t ht => by omega))
                    obtain ⟨τ105, τ105e⟩ : ∃ zz9 : Nat → Int, zz9 = zf τ99 33 (τ99 33 + 1) := ⟨_, rfl⟩
                    rw [← τ105e] at cm102m
                    have τ105_24 : τ105 24 = τ99 24 := by rw [τ105e]; exact rfl
                    have τ105_25 : τ105 25 = τ99 25 := by rw [τ105e]; exact rfl
                    have τ105_26 : τ105 26 = τ99 26 := by rw [τ105e]; exact rfl
                    have τ105_27 : τ105 27 = τ99 27 := by rw [τ105e]; exact rfl
                    have τ105_28 : τ105 28 = τ99 28 := by rw [τ105e]; exact rfl
                    have τ105_29 : τ105 29 = τ99 29 := by rw [τ105e]; exact rfl
                    have τ105_30 : τ105 30 = τ99 30 := by rw [τ105e]; exact rfl
                    have τ105_31 : τ105 31 = τ99 31 := by rw [τ105e]; exact rfl
                    have τ105_32 : τ105 32 = τ99 32 := by rw [τ105e]; exact rfl
                    have τ105_33 : τ105 33 = τ99 33 + 1 := by rw [τ105e]; exact rfl
                    have τ105_36 : τ105 36 = τ99 36 := by rw [τ105e]; exact rfl
                    show zG C cm102V (3011 - 1) (6340 - 40) 197 [(8, .int (zI (j2))), (7, .int (zI (mz91))), (6, .int (zI (n2))), (5, .int (zI (τ34 29))), (4, .ref hp38q), (3, .int (zI (b))), (2, .int (zI (a))), (1, .int (zI (q))), (0, .ref (c 60))] []
                    refine zr_goto X 77 dX8_pump_197 rfl ?_
                    refine zr_sub [2, 3, 4, 5, 6, 7, 8] [(6, .int (zI (n2))), (5, .int (zI (τ34 29))), (4, .ref hp38q), (3, .int (zI (b))), (2, .int (zI (a))), (1, .int (zI (q))), (0, .ref (c 60))] rfl ?_
                    have ag106 : (∀ j, ¬ (26 ≤ j ∧ j ≤ 29) → j ≠ 33 → j ≠ 36 → τ105 j = τ34 j) := fun j h1 h3 h4 => by
                      rw [τ105e, zf_ne h3, τ99e, zmf_ne ⟨h1, by omega⟩]
                      exact (hK4 j h1 h3 h4).trans (hI4 j h1 h3 h4)
                    obtain ⟨fz107, fz107e⟩ : ∃ z9 : Nat, hF = z9 + 1 := ⟨hF - 1, by omega⟩
                    have fz107_27 : τ105 27 = τ1 27 + j2 - mz95 := by omega
                    have fz107_28 : τ105 28 = τ1 28 + j2 := by omega
                    have fz107_29 : τ105 29 = τ1 29 + mz95 := by omega
                    have fz107_33 : τ105 33 = τ1 33 + 1 := by omega
                    have fz107j : j2 = mz91 := by omega
                    have fz107w : τ34 26 - τ1 27 = τ1 26 - (τ1 28 - τ1 29) := by omega
                    have fz107m : zm1 j2 a ((ln : Int) - nx) (τ34 26 - τ1 27) := by
                      rw [fz107j, fz107w]
                      exact hmn
                    have fz107z := (zpm_step j2 mz95 fz107e (by omega) fz107m (by omega) hK10 fz107_27 fz107_28 fz107_29 fz107_33).symm.trans hF2
                    exact ih _ (by omega) cm102V τ105 n2 ⟨cm102m, fx104, lc103, ag106, by omega, by omega, by omega, by omega, by omega, ⟨fz107, by omega, fz107z⟩⟩ rfl
                  · refine zr_aload_n X 136 8 dX8_pump_135 rfl rfl ?_
                    have c8108 : V2 (c 60) = some (60, .inr (9, [.ref (md 61), .int (zI (κ 0)), .ref (c 62), .ref (md 63), .ref (md 64), .ref (c 65), .int (zI (τ2 26)), .int (zI (τ2 28)), .int (zI (τ2 29)), .ref (c 66), .int (zI (τ2 36))])) := hK1.1
                    refine zr_get X 139 9 5 c8108 rfl iX8 (by decide) w9 rfl rfl dX8_pump_136 rfl ?_
                    refine zr_aload_n X 140 8 dX8_pump_139 rfl rfl ?_
                    refine zr_dup X 141 dX8_pump_140 rfl rfl ?_
                    refine zr_get X 144 9 7 c8108 rfl iX8 (by decide) w0 rfl rfl dX8_pump_141 rfl ?_
                    refine zr_dup_x1 X 145 dX8_pump_144 rfl rfl rfl ?_
                    refine zr_iconst X 146 dX8_pump_145 rfl ?_
                    refine zr_iadd X 147 dX8_pump_146 rfl ?_
                    refine zr_put X 150 9 7 [.ref (md 61), .int (zI (κ 0)), .ref (c 62), .ref (md 63), .ref (md 64), .ref (c 65), .int (zI (τ2 26)), .int (zI ((τ2 28) + 1)), .int (zI (τ2 29)), .ref (c 66), .int (zI (τ2 36))] tyX8 c8108 rfl iX8 tyX8_ok nmX8 (by decide) w0 rfl rfl rfl rfl (Nat.le_of_ble_eq_true rfl) rfl dX8_pump_147 rfl ?_
                    obtain ⟨cm109h, cm109f⟩ := hK1.setM (τ2 26) ((τ2 28) + 1) (τ2 29) (τ2 36) (by omega)
                    obtain ⟨cm109V, cm109e⟩ : ∃ zz9 : zV, zz9 = (zu V2 (c 60) 60 (.inr (9, [.ref (md 61), .int (zI (κ 0)), .ref (c 62), .ref (md 63), .ref (md 64), .ref (c 65), .int (zI (τ2 26)), .int (zI ((τ2 28) + 1)), .int (zI (τ2 29)), .ref (c 66), .int (zI (τ2 36))]))) := ⟨_, rfl⟩
                    have cm109m : zMo Γ cm109V c md (zmf τ2 (τ2 26) ((τ2 28) + 1) (τ2 29) (τ2 36)) κ E := by
                      rw [cm109e]
                      exact cm109h
                    have cm109g : zag (fun x => x ≠ 60) V2 cm109V := by
                      rw [cm109e]
                      exact cm109f
                    refine zr_view (cm109e).symm ?_
                    have lc110 := cm109g _ _ _ hK3 (by omega)
                    have fx111 : zfm V cm109V := zag.tr hK2 (cm109g.mono (fun t ht => by omega))
                    obtain ⟨τ112, τ112e⟩ : ∃ zz9 : Nat → Int, zz9 = zmf τ2 (τ2 26) ((τ2 28) + 1) (τ2 29) (τ2 36) := ⟨_, rfl⟩
                    rw [← τ112e] at cm109m
                    have τ112_24 : τ112 24 = τ2 24 := by rw [τ112e]; exact rfl
                    have τ112_25 : τ112 25 = τ2 25 := by rw [τ112e]; exact rfl
                    have τ112_26 : τ112 26 = τ2 26 := by rw [τ112e]; exact rfl
                    have τ112_27 : τ112 27 = ((τ2 28) + 1) - (τ2 29) := by rw [τ112e]; exact rfl
                    have τ112_28 : τ112 28 = (τ2 28) + 1 := by rw [τ112e]; exact rfl
                    have τ112_29 : τ112 29 = τ2 29 := by rw [τ112e]; exact rfl
                    have τ112_30 : τ112 30 = τ2 30 := by rw [τ112e]; exact rfl
                    have τ112_31 : τ112 31 = τ2 31 := by rw [τ112e]; exact rfl
                    have τ112_32 : τ112 32 = τ2 32 := by rw [τ112e]; exact rfl
                    have τ112_33 : τ112 33 = τ2 33 := by rw [τ112e]; exact rfl
                    have τ112_36 : τ112 36 = τ2 36 := by rw [τ112e]; exact rfl
                    show zG C cm109V (3011 - 1) (6340 - 40) 150 [(8, .int (zI (j2))), (7, .int (zI (mz91))), (6, .int (zI (n2))), (5, .int (zI (τ34 29))), (4, .ref hp38q), (3, .int (zI (b))), (2, .int (zI (a))), (1, .int (zI (q))), (0, .ref (c 60))] [.int (zI (τ2 28)), .ref (c 65)]
                    refine zr_aload X 152 4 dX8_pump_150 rfl rfl ?_
                    refine zr_iload X 154 2 dX8_pump_152 rfl rfl ?_
                    refine zr_iinc X 157 2 [(6, .int (zI (n2 + 1))), (8, .int (zI (j2))), (7, .int (zI (mz91))), (5, .int (zI (τ34 29))), (4, .ref hp38q), (3, .int (zI (b))), (2, .int (zI (a))), (1, .int (zI (q))), (0, .ref (c 60))] dX8_pump_154 rfl rfl (by decide) rfl ?_
                    refine zr_iald X 158 lc110 (by omega) dX8_pump_157 rfl ?_
                    have zb113 := zc.b hp38c (n2).toNat
                    obtain ⟨c8114f, c8114, c8114c⟩ := cm109m.2.2.2.2.2.2.1
                    refine zr_iast X 159 c8114 (by omega) dX8_pump_158 rfl ?_
                    obtain ⟨cm115h, cm115f⟩ := cm109m.setSent (f := zf c8114f (τ2 28).toNat (hp38f (n2).toNat)) (zc_zf c8114c (by omega))
                    obtain ⟨cm115V, cm115e⟩ : ∃ zz9 : zV, zz9 = (zu cm109V (c 65) 65 (za Γ.2.1 0 160 (zf c8114f (τ2 28).toNat (hp38f (n2).toNat)))) := ⟨_, rfl⟩
                    have cm115m : zMo Γ cm115V c md (τ112) κ E := by
                      rw [cm115e]
                      exact cm115h
                    have cm115g : zag (fun x => x ≠ 65) cm109V cm115V := by
                      rw [cm115e]
                      exact cm115f
                    refine zr_view (cm115e).symm ?_
                    have lc116 := cm115g _ _ _ lc110 (by omega)
                    have fx117 : zfm V cm115V := zag.tr fx111 (cm115g.mono (fun t ht => by omega))
                    show zG C cm115V (3011 - 1) (6340 - 40) 159 [(6, .int (zI (n2 + 1))), (8, .int (zI (j2))), (7, .int (zI (mz91))), (5, .int (zI (τ34 29))), (4, .ref hp38q), (3, .int (zI (b))), (2, .int (zI (a))), (1, .int (zI (q))), (0, .ref (c 60))] []
                    refine zr_iinc X 162 1 [(8, .int (zI (j2 + 1))), (6, .int (zI (n2 + 1))), (7, .int (zI (mz91))), (5, .int (zI (τ34 29))), (4, .ref hp38q), (3, .int (zI (b))), (2, .int (zI (a))), (1, .int (zI (q))), (0, .ref (c 60))] dX8_pump_159 rfl rfl (by decide) rfl ?_
                    refine zr_goto X 128 dX8_pump_162 rfl ?_
                    refine zr_sub [0, 2, 1, 3, 4, 5, 6, 7, 8] [(8, .int (zI (j2 + 1))), (7, .int (zI (mz91))), (6, .int (zI (n2 + 1))), (5, .int (zI (τ34 29))), (4, .ref hp38q), (3, .int (zI (b))), (2, .int (zI (a))), (1, .int (zI (q))), (0, .ref (c 60))] rfl ?_
                    have ag118 : (∀ j, ¬ (26 ≤ j ∧ j ≤ 29) → j ≠ 33 → j ≠ 36 → τ112 j = τ1 j) := fun j h1 h3 h4 => by
                      rw [τ112e, zmf_ne ⟨h1, by omega⟩]
                      exact hK4 j h1 h3 h4
                    exact ih2 _ (by omega) cm115V τ112 (j2 + 1) (n2 + 1) ⟨cm115m, fx117, lc116, ag118, by omega, by omega, by omega, by omega, by omega, by omega, by omega⟩ rfl
                exact loop2 _ V1 τ1 0 nx ⟨hI1, hI2, hI3, fun _ _ _ _ => rfl, rfl, by omega, rfl, by omega, by omega, by omega, rfl⟩ rfl
          exact loop _ V37 τ34 0 ⟨hp38m, fx39, lc42, fun _ _ _ _ => rfl, rfl, by omega, by omega, by omega, by omega, ⟨((ln : Int) + τ34 27).toNat, by omega, rfl⟩⟩ rfl
        · refine zr_aload_n X 61 1 dX8_pump_60 rfl rfl ?_
          refine zr_iconst X 62 dX8_pump_61 rfl ?_
          refine zr_put X 65 9 10 [.ref (md 61), .int (zI (κ 0)), .ref (c 62), .ref (md 63), .ref (md 64), .ref (c 65), .int (zI (τ34 26)), .int (zI (τ34 28)), .int (zI (τ34 29)), .ref (c 66), .int (zI (3))] tyX8 c840 rfl iX8 tyX8_ok nmX8 (by decide) w10 rfl rfl rfl rfl (Nat.le_of_ble_eq_true rfl) rfl dX8_pump_62 rfl ?_
          have th119 := hp38m.setM (τ34 26) (τ34 28) (τ34 29) (3) (by omega)
          rw [zmf_36 (by omega)] at th119
          obtain ⟨cm120h, cm120f⟩ := th119
          obtain ⟨cm120V, cm120e⟩ : ∃ zz9 : zV, zz9 = (zu V37 (c 60) 60 (.inr (9, [.ref (md 61), .int (zI (κ 0)), .ref (c 62), .ref (md 63), .ref (md 64), .ref (c 65), .int (zI (τ34 26)), .int (zI (τ34 28)), .int (zI (τ34 29)), .ref (c 66), .int (zI (3))]))) := ⟨_, rfl⟩
          have cm120m : zMo Γ cm120V c md (zf τ34 36 (3)) κ E := by
            rw [cm120e]
            exact cm120h
          have cm120g : zag (fun x => x ≠ 60) V37 cm120V := by
            rw [cm120e]
            exact cm120f
          refine zr_view (cm120e).symm ?_
          have lc121 := cm120g _ _ _ hp38h (by omega)
          have fx122 : zfm V cm120V := zag.tr fx39 (cm120g.mono (fun t ht => by omega))
          obtain ⟨τ123, τ123e⟩ : ∃ zz9 : Nat → Int, zz9 = zf τ34 36 (3) := ⟨_, rfl⟩
          rw [← τ123e] at cm120m
          have τ123_24 : τ123 24 = τ34 24 := by rw [τ123e]; exact rfl
          have τ123_25 : τ123 25 = τ34 25 := by rw [τ123e]; exact rfl
          have τ123_26 : τ123 26 = τ34 26 := by rw [τ123e]; exact rfl
          have τ123_27 : τ123 27 = τ34 27 := by rw [τ123e]; exact rfl
          have τ123_28 : τ123 28 = τ34 28 := by rw [τ123e]; exact rfl
          have τ123_29 : τ123 29 = τ34 29 := by rw [τ123e]; exact rfl
          have τ123_30 : τ123 30 = τ34 30 := by rw [τ123e]; exact rfl
          have τ123_31 : τ123 31 = τ34 31 := by rw [τ123e]; exact rfl
          have τ123_32 : τ123 32 = τ34 32 := by rw [τ123e]; exact rfl
          have τ123_33 : τ123 33 = τ34 33 := by rw [τ123e]; exact rfl
          have τ123_36 : τ123 36 = 3 := by rw [τ123e]; exact rfl
          show zG C cm120V (3011 - 1) (6340 - 40) 65 [(4, .ref hp38q), (0, .ref (c 60)), (1, .int (zI (q))), (2, .int (zI (a))), (3, .int (zI (b)))] []
          refine zr_ldcS X 67 6 rfl dX8_pump_65 rfl ?_
          exact zr_aret X rfl (Or.inl ⟨_, rfl⟩) ⟨Γ.2.2.1 6, md, τ123, κ, rfl, cm120m.le (by omega), fx122, Or.inr (Or.inr (Or.inl ⟨by omega, by rw [← τ34e]; omega, by rw [τ123e, τ34e, zf_zf]⟩))⟩ dX8_pump_67
    · refine zr_iconst X 26 dX8_pump_25 rfl ?_
      refine zr_goto X 30 dX8_pump_26 rfl ?_
      refine zr_callVe (kc' := 3011) (ks' := 6340) X 33 2 (m_X8_isThrown l Γ hM (a := no5) (b := 1) (by omega) (by omega)) gX8_pump_X8_isThrown rfl (by decide +kernel) rfl (by decide) ⟨_, _, hM.1⟩ rfl rfl (Nat.le_of_ble_eq_true rfl) dX8_pump_30 rfl (by omega) (by omega) (fun rv124 V125 hp126 => ?_)
      obtain ⟨⟨hp126x, hp126k, hp126e, hp126c, hp126m⟩, hp126g⟩ := hp126
      rw [hp126e]
      rcases hp126c with ⟨tc127a, tc127k, tc127x⟩ | ⟨tc127a, tc127b, tc127k, tc127x⟩ | ⟨tc127a, tc127b, tc127k, tc127x⟩
      · skip
        subst tc127k tc127x
        have fx128 : zfm V V125 := (hp126g.mono (fun t ht => by omega))
        obtain ⟨τ129, τ129e⟩ : ∃ zz9 : Nat → Int, zz9 = zf τ 36 1 := ⟨_, rfl⟩
        rw [← τ129e] at hp126m
        have τ129_24 : τ129 24 = τ 24 := by rw [τ129e]; exact rfl
        have τ129_25 : τ129 25 = τ 25 := by rw [τ129e]; exact rfl
        have τ129_26 : τ129 26 = τ 26 := by rw [τ129e]; exact rfl
        have τ129_27 : τ129 27 = τ 27 := by rw [τ129e]; exact rfl
        have τ129_28 : τ129 28 = τ 28 := by rw [τ129e]; exact rfl
        have τ129_29 : τ129 29 = τ 29 := by rw [τ129e]; exact rfl
        have τ129_30 : τ129 30 = τ 30 := by rw [τ129e]; exact rfl
        have τ129_31 : τ129 31 = τ 31 := by rw [τ129e]; exact rfl
        have τ129_32 : τ129 32 = τ 32 := by rw [τ129e]; exact rfl
        have τ129_33 : τ129 33 = τ 33 := by rw [τ129e]; exact rfl
        have τ129_36 : τ129 36 = 1 := by rw [τ129e]; exact rfl
        show zG C V125 3011 6340 33 [(0, .ref (c 60)), (1, .int (zI (q))), (2, .int (zI (a))), (3, .int (zI (b)))] [.int (zI (1))]
        refine zr_if_eq X 39 36 dX8_pump_33 rfl rfl (by omega) (fun bq130 => absurd bq130 (by omega)) (fun bq130 => ?_)
        refine zr_ldcS X 38 6 rfl dX8_pump_36 rfl ?_
        exact zr_aret X rfl (Or.inl ⟨_, rfl⟩) ⟨Γ.2.2.1 6, md, τ129, κ, rfl, hp126m.le (by omega), fx128, Or.inl ⟨by omega, τ129e⟩⟩ dX8_pump_38
      · skip
        subst tc127k tc127x
        have fx131 : zfm V V125 := (hp126g.mono (fun t ht => by omega))
        obtain ⟨τ132, τ132e⟩ : ∃ zz9 : Nat → Int, zz9 = zf τ 36 2 := ⟨_, rfl⟩
        rw [← τ132e] at hp126m
        have τ132_24 : τ132 24 = τ 24 := by rw [τ132e]; exact rfl
        have τ132_25 : τ132 25 = τ 25 := by rw [τ132e]; exact rfl
        have τ132_26 : τ132 26 = τ 26 := by rw [τ132e]; exact rfl
        have τ132_27 : τ132 27 = τ 27 := by rw [τ132e]; exact rfl
        have τ132_28 : τ132 28 = τ 28 := by rw [τ132e]; exact rfl
        have τ132_29 : τ132 29 = τ 29 := by rw [τ132e]; exact rfl
        have τ132_30 : τ132 30 = τ 30 := by rw [τ132e]; exact rfl
        have τ132_31 : τ132 31 = τ 31 := by rw [τ132e]; exact rfl
        have τ132_32 : τ132 32 = τ 32 := by rw [τ132e]; exact rfl
        have τ132_33 : τ132 33 = τ 33 := by rw [τ132e]; exact rfl
        have τ132_36 : τ132 36 = 2 := by rw [τ132e]; exact rfl
        show zG C V125 3011 6340 33 [(0, .ref (c 60)), (1, .int (zI (q))), (2, .int (zI (a))), (3, .int (zI (b)))] [.int (zI (1))]
        refine zr_if_eq X 39 36 dX8_pump_33 rfl rfl (by omega) (fun bq133 => absurd bq133 (by omega)) (fun bq133 => ?_)
        refine zr_ldcS X 38 6 rfl dX8_pump_36 rfl ?_
        exact zr_aret X rfl (Or.inl ⟨_, rfl⟩) ⟨Γ.2.2.1 6, md, τ132, κ, rfl, hp126m.le (by omega), fx131, Or.inr (Or.inl ⟨by omega, by omega, τ132e⟩)⟩ dX8_pump_38
      · exact absurd tc127b (by decide)
