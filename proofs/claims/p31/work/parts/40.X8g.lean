/-! the model: pump -/
set_option maxRecDepth 100000 in
set_option maxHeartbeats 4000000 in
theorem m_X8_pump (l : Launch) (Γ : zGam) {V : zV} {c md : Nat → Nat} {τ κ : Nat → Int} {E : Int} {q a b : Int} (hM : zMo Γ V c md τ κ E) (hq : -2147483648 ≤ q ∧ q ≤ 2147483647) (ha : -2147483648 ≤ a ∧ a ≤ 2147483647) (hb : -2147483648 ≤ b ∧ b ≤ 2147483647) : zM l Γ 10 yX8_pump wsX8_pump 3011 6340 V [.ref (c 60), .int (zI (q)), .int (zI (a)), .int (zI (b))] (fun rv V' => ∃ (zr : Nat) (md' : Nat → Nat) (τ' κ' : Nat → Int), rv = some (.ref zr) ∧ zMo Γ V' c md' τ' κ' (E + 40) ∧ zfm V V' ∧ ((∀ j, ¬ (26 ≤ j ∧ j ≤ 29) → j ≠ 30 → j ≠ 33 → j < 36 → τ' j = τ j) ∧ τ' 26 = τ 26)) := by
  have w0 : Cond.fieldLink RX8 129 "SashwordsModel" "in" "I" ∈ wsX8_pump := by decide +kernel
  have iX8 : ∀ w ∈ u_ws RX8 TX8 11, w ∈ wsX8_pump := by decide +kernel
  have w2 : Cond.fieldLink RX8 132 "SashwordsModel" "out" "I" ∈ wsX8_pump := by decide +kernel
  have w3 : Cond.fieldLink RX8 27 "SashwordsModel" "size" "I" ∈ wsX8_pump := by decide +kernel
  have w4 : Cond.methodLink RX8 97 Lib.Math.min.name ∈ wsX8_pump := by decide +kernel
  have w5 : Cond.static Lib.Math.min.name ∈ wsX8_pump := by decide +kernel
  have w6 : Cond.initialized "java/lang/Math" ∈ wsX8_pump := by decide +kernel
  have w7 : Cond.code Lib.Math.min.name Lib.Math.min.code 2 (some .int) ∈ wsX8_pump := by decide +kernel
  have w8 : Cond.fieldLink RX8 31 "SashwordsModel" "tallies" "[I" ∈ wsX8_pump := by decide +kernel
  have w9 : Cond.fieldLink RX8 24 "SashwordsModel" "sent" "[I" ∈ wsX8_pump := by decide +kernel
  have w10 : Cond.fieldLink RX8 38 "SashwordsModel" "thrown" "I" ∈ wsX8_pump := by decide +kernel
  refine zM_of (cc := cX8_pump) (nL := 9) (ret := (some (.object "java/lang/String"))) (own := RX8) (by decide +kernel) rfl rfl (Nat.le_of_ble_eq_true rfl) (fun C X hi0 => ?_)
  have nn1 : (0 ≤ κ 0 ∧ κ 0 ≤ κ 1 ∧ κ 0 ≤ E ∧ κ 1 ≤ 7000) ∧ (0 ≤ τ 24 ∧ τ 24 ≤ 80 ∧ 0 ≤ τ 25 ∧ τ 25 ≤ 80) ∧ 1 ≤ τ 26 ∧ τ 26 ≤ 8 ∧ 0 ≤ τ 29 ∧ τ 29 ≤ τ 28 ∧ τ 28 ≤ 160 ∧ τ 27 ≤ τ 26 ∧ τ 27 = τ 28 - τ 29 := hM.n
  show zG C V 3011 6340 0 [(0, .ref (c 60)), (1, .int (zI (q))), (2, .int (zI (a))), (3, .int (zI (b)))] []
  refine zr_aload_n X 1 0 dX8_pump_0 rfl rfl ?_
  refine zr_iload_n X 2 1 dX8_pump_1 rfl rfl ?_
  refine zr_callS (kc' := 3011) (ks' := 6340) X 5 1 (m_X8_isNoSource l Γ (V := V) (x := q) (by omega)) gX8_pump_X8_isNoSource rfl (by decide +kernel) rfl (by decide) rfl (Nat.le_of_ble_eq_true rfl) dX8_pump_2 rfl (by omega) (by omega) (fun rv2 V3 hp4 => ?_)
  obtain ⟨⟨no5, no5e, no5a⟩, no5v⟩ := hp4
  rw [no5e, no5v]
  show zG C V 3011 6340 5 [(0, .ref (c 60)), (1, .int (zI (q))), (2, .int (zI (a))), (3, .int (zI (b)))] [.int (zI (no5)), .ref (c 60)]
  refine zr_iload_n X 6 2 dX8_pump_5 rfl rfl ?_
  refine zr_iconst X 7 dX8_pump_6 rfl ?_
  refine zr_bipush X 9 (8) dX8_pump_7 rfl (by decide) ?_
  refine zr_callS (kc' := 3011) (ks' := 6340) X 12 3 (m_X8_isNo l Γ (V := V) (x := a) (a := 1) (b := 8) (by omega) (by omega) (by omega)) gX8_pump_X8_isNo rfl (by decide +kernel) rfl (by decide) rfl (Nat.le_of_ble_eq_true rfl) dX8_pump_9 rfl (by omega) (by omega) (fun rv6 V7 hp8 => ?_)
  obtain ⟨⟨no9, no9e, no9a⟩, no9v⟩ := hp8
  rw [no9e, no9v]
  show zG C V 3011 6340 12 [(0, .ref (c 60)), (1, .int (zI (q))), (2, .int (zI (a))), (3, .int (zI (b)))] [.int (zI (no9)), .int (zI (no5)), .ref (c 60)]
  refine zr_if_ne X 25 15 dX8_pump_12 rfl rfl (by omega) (fun bq10 => ?_) (fun bq10 => ?_)
  · refine zr_iconst X 26 dX8_pump_25 rfl ?_
    refine zr_goto X 30 dX8_pump_26 rfl ?_
    refine zr_callVe (kc' := 3011) (ks' := 6340) X 33 2 (m_X8_isThrown l Γ hM (a := no5) (b := 1) (by omega) (by omega)) gX8_pump_X8_isThrown rfl (by decide +kernel) rfl (by decide) ⟨_, _, hM.1⟩ rfl rfl (Nat.le_of_ble_eq_true rfl) dX8_pump_30 rfl (by omega) (by omega) (fun rv11 V12 hp13 => ?_)
    obtain ⟨⟨hp13x, hp13k, hp13e, hp13c, hp13m⟩, hp13g⟩ := hp13
    rw [hp13e]
    rcases hp13c with ⟨tc14a, tc14k, tc14x⟩ | ⟨tc14a, tc14b, tc14k, tc14x⟩ | ⟨tc14a, tc14b, tc14k, tc14x⟩
    · skip
      subst tc14k tc14x
      have fx15 : zfm V V12 := (hp13g.mono (fun t ht => by omega))
      obtain ⟨τ16, τ16e⟩ : ∃ zz9 : Nat → Int, zz9 = zf τ 36 1 := ⟨_, rfl⟩
      rw [← τ16e] at hp13m
      have τ16_24 : τ16 24 = τ 24 := by rw [τ16e]; exact rfl
      have τ16_25 : τ16 25 = τ 25 := by rw [τ16e]; exact rfl
      have τ16_26 : τ16 26 = τ 26 := by rw [τ16e]; exact rfl
      have τ16_27 : τ16 27 = τ 27 := by rw [τ16e]; exact rfl
      have τ16_28 : τ16 28 = τ 28 := by rw [τ16e]; exact rfl
      have τ16_29 : τ16 29 = τ 29 := by rw [τ16e]; exact rfl
      have τ16_30 : τ16 30 = τ 30 := by rw [τ16e]; exact rfl
      have τ16_31 : τ16 31 = τ 31 := by rw [τ16e]; exact rfl
      have τ16_32 : τ16 32 = τ 32 := by rw [τ16e]; exact rfl
      have τ16_33 : τ16 33 = τ 33 := by rw [τ16e]; exact rfl
      have τ16_36 : τ16 36 = 1 := by rw [τ16e]; exact rfl
      show zG C V12 3011 6340 33 [(0, .ref (c 60)), (1, .int (zI (q))), (2, .int (zI (a))), (3, .int (zI (b)))] [.int (zI (1))]
      refine zr_if_eq X 39 36 dX8_pump_33 rfl rfl (by omega) (fun bq17 => absurd bq17 (by omega)) (fun bq17 => ?_)
      refine zr_ldcS X 38 6 rfl dX8_pump_36 rfl ?_
      exact zr_aret X rfl (Or.inl ⟨_, rfl⟩) ⟨Γ.2.2.1 6, md, τ16, κ, rfl, hp13m.le (by omega), fx15, (fun j h1 h2 h3 h4 => by rw [τ16e, zf_ne (by omega)]), by omega⟩ dX8_pump_38
    · skip
      subst tc14k tc14x
      have fx18 : zfm V V12 := (hp13g.mono (fun t ht => by omega))
      obtain ⟨τ19, τ19e⟩ : ∃ zz9 : Nat → Int, zz9 = zf τ 36 2 := ⟨_, rfl⟩
      rw [← τ19e] at hp13m
      have τ19_24 : τ19 24 = τ 24 := by rw [τ19e]; exact rfl
      have τ19_25 : τ19 25 = τ 25 := by rw [τ19e]; exact rfl
      have τ19_26 : τ19 26 = τ 26 := by rw [τ19e]; exact rfl
      have τ19_27 : τ19 27 = τ 27 := by rw [τ19e]; exact rfl
      have τ19_28 : τ19 28 = τ 28 := by rw [τ19e]; exact rfl
      have τ19_29 : τ19 29 = τ 29 := by rw [τ19e]; exact rfl
      have τ19_30 : τ19 30 = τ 30 := by rw [τ19e]; exact rfl
      have τ19_31 : τ19 31 = τ 31 := by rw [τ19e]; exact rfl
      have τ19_32 : τ19 32 = τ 32 := by rw [τ19e]; exact rfl
      have τ19_33 : τ19 33 = τ 33 := by rw [τ19e]; exact rfl
      have τ19_36 : τ19 36 = 2 := by rw [τ19e]; exact rfl
      show zG C V12 3011 6340 33 [(0, .ref (c 60)), (1, .int (zI (q))), (2, .int (zI (a))), (3, .int (zI (b)))] [.int (zI (1))]
      refine zr_if_eq X 39 36 dX8_pump_33 rfl rfl (by omega) (fun bq20 => absurd bq20 (by omega)) (fun bq20 => ?_)
      refine zr_ldcS X 38 6 rfl dX8_pump_36 rfl ?_
      exact zr_aret X rfl (Or.inl ⟨_, rfl⟩) ⟨Γ.2.2.1 6, md, τ19, κ, rfl, hp13m.le (by omega), fx18, (fun j h1 h2 h3 h4 => by rw [τ19e, zf_ne (by omega)]), by omega⟩ dX8_pump_38
    · exact absurd tc14b (by decide)
  · refine zr_iload_n X 16 3 dX8_pump_15 rfl rfl ?_
    refine zr_iconst X 17 dX8_pump_16 rfl ?_
    refine zr_bipush X 19 (8) dX8_pump_17 rfl (by decide) ?_
    refine zr_callS (kc' := 3011) (ks' := 6340) X 22 3 (m_X8_isNo l Γ (V := V) (x := b) (a := 1) (b := 8) (by omega) (by omega) (by omega)) gX8_pump_X8_isNo rfl (by decide +kernel) rfl (by decide) rfl (Nat.le_of_ble_eq_true rfl) dX8_pump_19 rfl (by omega) (by omega) (fun rv21 V22 hp23 => ?_)
    obtain ⟨⟨no24, no24e, no24a⟩, no24v⟩ := hp23
    rw [no24e, no24v]
    show zG C V 3011 6340 22 [(0, .ref (c 60)), (1, .int (zI (q))), (2, .int (zI (a))), (3, .int (zI (b)))] [.int (zI (no24)), .int (zI (no5)), .ref (c 60)]
    refine zr_if_eq X 29 25 dX8_pump_22 rfl rfl (by omega) (fun bq25 => ?_) (fun bq25 => ?_)
    · refine zr_iconst X 30 dX8_pump_29 rfl ?_
      refine zr_callVe (kc' := 3011) (ks' := 6340) X 33 2 (m_X8_isThrown l Γ hM (a := no5) (b := 0) (by omega) (by omega)) gX8_pump_X8_isThrown rfl (by decide +kernel) rfl (by decide) ⟨_, _, hM.1⟩ rfl rfl (Nat.le_of_ble_eq_true rfl) dX8_pump_30 rfl (by omega) (by omega) (fun rv26 V27 hp28 => ?_)
      obtain ⟨⟨hp28x, hp28k, hp28e, hp28c, hp28m⟩, hp28g⟩ := hp28
      rw [hp28e]
      rcases hp28c with ⟨tc29a, tc29k, tc29x⟩ | ⟨tc29a, tc29b, tc29k, tc29x⟩ | ⟨tc29a, tc29b, tc29k, tc29x⟩
      · skip
        subst tc29k tc29x
        have fx30 : zfm V V27 := (hp28g.mono (fun t ht => by omega))
        obtain ⟨τ31, τ31e⟩ : ∃ zz9 : Nat → Int, zz9 = zf τ 36 1 := ⟨_, rfl⟩
        rw [← τ31e] at hp28m
        have τ31_24 : τ31 24 = τ 24 := by rw [τ31e]; exact rfl
        have τ31_25 : τ31 25 = τ 25 := by rw [τ31e]; exact rfl
        have τ31_26 : τ31 26 = τ 26 := by rw [τ31e]; exact rfl
        have τ31_27 : τ31 27 = τ 27 := by rw [τ31e]; exact rfl
        have τ31_28 : τ31 28 = τ 28 := by rw [τ31e]; exact rfl
        have τ31_29 : τ31 29 = τ 29 := by rw [τ31e]; exact rfl
        have τ31_30 : τ31 30 = τ 30 := by rw [τ31e]; exact rfl
        have τ31_31 : τ31 31 = τ 31 := by rw [τ31e]; exact rfl
        have τ31_32 : τ31 32 = τ 32 := by rw [τ31e]; exact rfl
        have τ31_33 : τ31 33 = τ 33 := by rw [τ31e]; exact rfl
        have τ31_36 : τ31 36 = 1 := by rw [τ31e]; exact rfl
        show zG C V27 3011 6340 33 [(0, .ref (c 60)), (1, .int (zI (q))), (2, .int (zI (a))), (3, .int (zI (b)))] [.int (zI (1))]
        refine zr_if_eq X 39 36 dX8_pump_33 rfl rfl (by omega) (fun bq32 => absurd bq32 (by omega)) (fun bq32 => ?_)
        refine zr_ldcS X 38 6 rfl dX8_pump_36 rfl ?_
        exact zr_aret X rfl (Or.inl ⟨_, rfl⟩) ⟨Γ.2.2.1 6, md, τ31, κ, rfl, hp28m.le (by omega), fx30, (fun j h1 h2 h3 h4 => by rw [τ31e, zf_ne (by omega)]), by omega⟩ dX8_pump_38
      · exact absurd tc29b (by decide)
      · skip
        subst tc29k tc29x
        have fx33 : zfm V V27 := (hp28g.mono (fun t ht => by omega))
        obtain ⟨τ34, τ34e⟩ : ∃ zz9 : Nat → Int, zz9 = zf τ 36 0 := ⟨_, rfl⟩
        rw [← τ34e] at hp28m
        have τ34_24 : τ34 24 = τ 24 := by rw [τ34e]; exact rfl
        have τ34_25 : τ34 25 = τ 25 := by rw [τ34e]; exact rfl
        have τ34_26 : τ34 26 = τ 26 := by rw [τ34e]; exact rfl
        have τ34_27 : τ34 27 = τ 27 := by rw [τ34e]; exact rfl
        have τ34_28 : τ34 28 = τ 28 := by rw [τ34e]; exact rfl
        have τ34_29 : τ34 29 = τ 29 := by rw [τ34e]; exact rfl
        have τ34_30 : τ34 30 = τ 30 := by rw [τ34e]; exact rfl
        have τ34_31 : τ34 31 = τ 31 := by rw [τ34e]; exact rfl
        have τ34_32 : τ34 32 = τ 32 := by rw [τ34e]; exact rfl
        have τ34_33 : τ34 33 = τ 33 := by rw [τ34e]; exact rfl
        have τ34_36 : τ34 36 = 0 := by rw [τ34e]; exact rfl
        show zG C V27 3011 6340 33 [(0, .ref (c 60)), (1, .int (zI (q))), (2, .int (zI (a))), (3, .int (zI (b)))] [.int (zI (0))]
        refine zr_if_eq X 39 36 dX8_pump_33 rfl rfl (by omega) (fun bq35 => ?_) (fun bq35 => absurd bq35 (by omega))
        refine zr_aload_n X 40 0 dX8_pump_39 rfl rfl ?_
        refine zr_iload_n X 41 1 dX8_pump_40 rfl rfl ?_
        refine zr_callVe (kc' := (3011 - 1)) (ks' := (6340 - 40)) X 44 1 (m_X8_textOf l Γ (tg := 76) (q := q) hp28m (by omega)) gX8_pump_X8_textOf rfl (by decide +kernel) rfl (by decide) ⟨_, _, hp28m.1⟩ rfl rfl (Nat.le_of_ble_eq_true rfl) dX8_pump_41 rfl (by omega) (by omega) (fun rv36 V37 hp38 => ?_)
        obtain ⟨hp38q, hp38t, hp38f, hp38e, hp38h, hp38c, hp38a, hp38n1, hp38n2, hp38g⟩ := hp38
        rw [hp38e]
        have hp38m := hp28m.kept hp38g (fun _ _ _ => trivial)
        have fx39 : zfm V V37 := zag.tr fx33 (hp38g.mono (fun _ _ => trivial))
        show zG C V37 (3011 - 1) (6340 - 40) 44 [(0, .ref (c 60)), (1, .int (zI (q))), (2, .int (zI (a))), (3, .int (zI (b)))] [.ref hp38q]
        refine zr_astore X 46 [(4, .ref hp38q), (0, .ref (c 60)), (1, .int (zI (q))), (2, .int (zI (a))), (3, .int (zI (b)))] dX8_pump_44 rfl (by decide) rfl ?_
        refine zr_aload_n X 47 1 dX8_pump_46 rfl rfl ?_
        have c840 : V37 (c 60) = some (60, .inr (9, [.ref (md 61), .int (zI (κ 0)), .ref (c 62), .ref (md 63), .ref (md 64), .ref (c 65), .int (zI (τ34 26)), .int (zI (τ34 28)), .int (zI (τ34 29)), .ref (c 66), .int (zI (τ34 36))])) := hp38m.1
        refine zr_get X 50 9 7 c840 rfl iX8 (by decide) w0 rfl rfl dX8_pump_47 rfl ?_
        refine zr_aload X 52 0 dX8_pump_50 rfl rfl ?_
        refine zr_alen X 53 0 hp38h (by decide) dX8_pump_52 rfl ?_
        refine zr_iadd X 54 dX8_pump_53 rfl ?_
        refine zr_sipush X 57 (160) dX8_pump_54 rfl (by decide) ?_
        refine zr_icmp_le X 68 60 dX8_pump_57 rfl rfl (by omega) (by omega) (fun bq41 => ?_) (fun bq41 => ?_)
        · refine zr_aload_n X 69 1 dX8_pump_68 rfl rfl ?_
          refine zr_get X 72 9 8 c840 rfl iX8 (by decide) w2 rfl rfl dX8_pump_69 rfl ?_
          refine zr_istore X 74 [(5, .int (zI (τ34 29))), (4, .ref hp38q), (0, .ref (c 60)), (1, .int (zI (q))), (2, .int (zI (a))), (3, .int (zI (b)))] dX8_pump_72 rfl (by decide) rfl ?_
          refine zr_iconst X 75 dX8_pump_74 rfl ?_
          refine zr_istore X 77 [(6, .int (zI (0))), (5, .int (zI (τ34 29))), (4, .ref hp38q), (0, .ref (c 60)), (1, .int (zI (q))), (2, .int (zI (a))), (3, .int (zI (b)))] dX8_pump_75 rfl (by decide) rfl ?_
          obtain ⟨ln, lne⟩ : ∃ z9 : Nat, z9 = (zsz τ34 q).toNat := ⟨_, rfl⟩
          have hln : ln ≤ 80 ∧ 1 ≤ a ∧ a ≤ 8 ∧ 1 ≤ b ∧ b ≤ 8 ∧ 0 ≤ τ34 29 ∧ τ34 29 ≤ τ34 28 ∧ τ34 28 + ln ≤ 160 ∧ τ34 26 = τ 26 := by omega
          have lc42 := hp38h
          rw [← lne] at lc42
          refine zr_sub [0, 1, 2, 6, 5, 4, 3] [(6, .int (zI (0))), (5, .int (zI (τ34 29))), (4, .ref hp38q), (3, .int (zI (b))), (2, .int (zI (a))), (1, .int (zI (q))), (0, .ref (c 60))] rfl ?_
          have loop : ∀ (N : Nat) (V1 : zV) (τ1 : Nat → Int) (nx : Int), zMo Γ V1 c md τ1 κ E ∧ zfm V V1 ∧ V1 hp38q = some (hp38t, za Γ.2.1 0 ln hp38f) ∧ (∀ j, ¬ (26 ≤ j ∧ j ≤ 29) → j ≠ 30 → j ≠ 33 → j < 36 → τ1 j = τ34 j) ∧ τ1 26 = τ34 26 ∧ 0 ≤ nx ∧ nx ≤ ((ln : Nat) : Int) ∧ τ1 28 + (((ln : Nat) : Int) - nx) ≤ 160 ∧ τ34 29 ≤ τ1 29 → (2 * (((ln : Nat) : Int) - nx) + (τ1 28 - τ1 29)).toNat = N → zG C V1 (3011 - 1) (6340 - 40) 77 [(6, .int (zI (nx))), (5, .int (zI (τ34 29))), (4, .ref hp38q), (3, .int (zI (b))), (2, .int (zI (a))), (1, .int (zI (q))), (0, .ref (c 60))] [] := by
            intro N
            induction N using Nat.strongRecOn with
            | _ N ih =>
            intro V1 τ1 nx hI hN
            obtain ⟨hI1, hI2, hI3, hI4, hI5, hI6, hI7, hI8, hI9⟩ := id hI
            try clear nn1
            try clear no5a
            try clear no9a
            try clear bq10
            try clear tc14a
            try clear tc14b
            try clear τ16_24
            try clear τ16_25
            try clear τ16_26
            try clear τ16_27
            try clear τ16_28
            try clear τ16_29
            try clear τ16_30
            try clear τ16_31
            try clear τ16_32
            try clear τ16_33
            try clear τ16_36
            try clear bq17
            try clear τ19_24
            try clear τ19_25
            try clear τ19_26
            try clear τ19_27
            try clear τ19_28
            try clear τ19_29
            try clear τ19_30
            try clear τ19_31
            try clear τ19_32
            try clear τ19_33
            try clear τ19_36
            try clear bq20
            try clear no24a
            try clear bq25
            try clear tc29a
            try clear tc29b
            try clear τ31_24
            try clear τ31_25
            try clear τ31_26
            try clear τ31_27
            try clear τ31_28
            try clear τ31_29
            try clear τ31_30
            try clear τ31_31
            try clear τ31_32
            try clear τ31_33
            try clear τ31_36
            try clear bq32
            try clear τ34_24
            try clear τ34_25
            try clear τ34_26
            try clear τ34_27
            try clear τ34_28
            try clear τ34_29
            try clear τ34_30
            try clear τ34_31
            try clear τ34_32
            try clear τ34_33
            try clear τ34_36
            try clear bq35
            try clear hp38n1
            try clear hp38n2
            try clear bq41
            try clear lne
            have nn43 : (0 ≤ κ 0 ∧ κ 0 ≤ κ 1 ∧ κ 0 ≤ E ∧ κ 1 ≤ 7000) ∧ (0 ≤ τ1 24 ∧ τ1 24 ≤ 80 ∧ 0 ≤ τ1 25 ∧ τ1 25 ≤ 80) ∧ 1 ≤ τ1 26 ∧ τ1 26 ≤ 8 ∧ 0 ≤ τ1 29 ∧ τ1 29 ≤ τ1 28 ∧ τ1 28 ≤ 160 ∧ τ1 27 ≤ τ1 26 ∧ τ1 27 = τ1 28 - τ1 29 := hI1.n
            refine zr_iload X 79 0 dX8_pump_77 rfl rfl ?_
            refine zr_aload X 81 2 dX8_pump_79 rfl rfl ?_
            refine zr_alen X 82 0 hI3 (by decide) dX8_pump_81 rfl ?_
            refine zr_icmp_lt X 96 85 dX8_pump_82 rfl rfl (by omega) (by omega) (fun bq44 => ?_) (fun bq44 => ?_)
            · refine zr_iload_n X 97 4 dX8_pump_96 rfl rfl ?_
              refine zr_aload X 99 2 dX8_pump_97 rfl rfl ?_
              refine zr_alen X 100 0 hI3 (by decide) dX8_pump_99 rfl ?_
              refine zr_iload X 102 0 dX8_pump_100 rfl rfl ?_
              refine zr_isub X 103 dX8_pump_102 rfl ?_
              refine zr_aload_n X 104 6 dX8_pump_103 rfl rfl ?_
              have c845 : V1 (c 60) = some (60, .inr (9, [.ref (md 61), .int (zI (κ 0)), .ref (c 62), .ref (md 63), .ref (md 64), .ref (c 65), .int (zI (τ1 26)), .int (zI (τ1 28)), .int (zI (τ1 29)), .ref (c 66), .int (zI (τ1 36))])) := hI1.1
              refine zr_get X 107 9 6 c845 rfl iX8 (by decide) w3 rfl rfl dX8_pump_104 rfl ?_
              refine zr_aload_n X 108 6 dX8_pump_107 rfl rfl ?_
              refine zr_get X 111 9 7 c845 rfl iX8 (by decide) w0 rfl rfl dX8_pump_108 rfl ?_
              refine zr_aload_n X 112 6 dX8_pump_111 rfl rfl ?_
              refine zr_get X 115 9 8 c845 rfl iX8 (by decide) w2 rfl rfl dX8_pump_112 rfl ?_
              refine zr_isub X 116 dX8_pump_115 rfl ?_
              refine zr_isub X 117 dX8_pump_116 rfl ?_
              obtain ⟨mz46, mz46e, mz46a⟩ : ∃ z9 : Int, z9 = (if (τ1 26) - ((τ1 28) - (τ1 29)) < ((ln : Nat) - nx : Int) then (τ1 26) - ((τ1 28) - (τ1 29)) else ((ln : Nat) - nx : Int)) ∧ (((τ1 26) - ((τ1 28) - (τ1 29)) < ((ln : Nat) - nx : Int) ∧ z9 = (τ1 26) - ((τ1 28) - (τ1 29))) ∨ (¬ (τ1 26) - ((τ1 28) - (τ1 29)) < ((ln : Nat) - nx : Int) ∧ z9 = ((ln : Nat) - nx : Int))) := zmine _ _
              refine zr_mmin X 120 (mz46) w4 w5 w6 w7 (by decide) (Nat.le_of_ble_eq_true rfl) (by omega) (by omega) mz46e dX8_pump_117 rfl ?_
              clear mz46e
              obtain ⟨mz47, mz47e, mz47a⟩ : ∃ z9 : Int, z9 = (if mz46 < a then mz46 else a) ∧ ((mz46 < a ∧ z9 = mz46) ∨ (¬ mz46 < a ∧ z9 = a)) := zmine _ _
              refine zr_mmin X 123 (mz47) w4 w5 w6 w7 (by decide) (Nat.le_of_ble_eq_true rfl) (by omega) (by omega) mz47e dX8_pump_120 rfl ?_
              clear mz47e
              refine zr_istore X 125 [(7, .int (zI (mz47))), (6, .int (zI (nx))), (5, .int (zI (τ34 29))), (4, .ref hp38q), (3, .int (zI (b))), (2, .int (zI (a))), (1, .int (zI (q))), (0, .ref (c 60))] dX8_pump_123 rfl (by decide) rfl ?_
              refine zr_iconst X 126 dX8_pump_125 rfl ?_
              refine zr_istore X 128 [(8, .int (zI (0))), (7, .int (zI (mz47))), (6, .int (zI (nx))), (5, .int (zI (τ34 29))), (4, .ref hp38q), (3, .int (zI (b))), (2, .int (zI (a))), (1, .int (zI (q))), (0, .ref (c 60))] dX8_pump_126 rfl (by decide) rfl ?_
              have hmz : 0 ≤ mz47 ∧ mz47 ≤ (ln : Int) - nx ∧ mz47 ≤ τ1 26 - (τ1 28 - τ1 29) ∧ (mz47 ≤ 0 → τ1 29 < τ1 28) := by omega
              have hr1 : 1 ≤ τ1 26 ∧ τ1 26 ≤ 8 ∧ 0 ≤ τ1 29 ∧ τ1 29 ≤ τ1 28 ∧ τ1 28 ≤ 160 := by omega
              have loop2 : ∀ (N : Nat) (V2 : zV) (τ2 : Nat → Int) (j2 : Int) (n2 : Int), zMo Γ V2 c md τ2 κ E ∧ zfm V V2 ∧ V2 hp38q = some (hp38t, za Γ.2.1 0 ln hp38f) ∧ (∀ j, ¬ (26 ≤ j ∧ j ≤ 29) → j ≠ 30 → j ≠ 33 → j < 36 → τ2 j = τ1 j) ∧ τ2 26 = τ1 26 ∧ τ2 28 = τ1 28 + j2 ∧ τ2 29 = τ1 29 ∧ 0 ≤ j2 ∧ (j2 ≤ mz47 ∨ j2 = 0) ∧ n2 = nx + j2 → (mz47 - j2).toNat = N → zG C V2 (3011 - 1) (6340 - 40) 128 [(8, .int (zI (j2))), (7, .int (zI (mz47))), (6, .int (zI (n2))), (5, .int (zI (τ34 29))), (4, .ref hp38q), (3, .int (zI (b))), (2, .int (zI (a))), (1, .int (zI (q))), (0, .ref (c 60))] [] := by
                intro N2
                induction N2 using Nat.strongRecOn with
                | _ N2 ih2 =>
                intro V2 τ2 j2 n2 hI2 hN2
                obtain ⟨hK1, hK2, hK3, hK4, hK5, hK6, hK7, hK8, hK9, hK10⟩ := id hI2
                try clear nn1
                try clear no5a
                try clear no9a
                try clear bq10
                try clear tc14a
                try clear tc14b
                try clear τ16_24
                try clear τ16_25
                try clear τ16_26
                try clear τ16_27
                try clear τ16_28
                try clear τ16_29
                try clear τ16_30
                try clear τ16_31
                try clear τ16_32
                try clear τ16_33
                try clear τ16_36
                try clear bq17
                try clear τ19_24
                try clear τ19_25
                try clear τ19_26
                try clear τ19_27
                try clear τ19_28
                try clear τ19_29
                try clear τ19_30
                try clear τ19_31
                try clear τ19_32
                try clear τ19_33
                try clear τ19_36
                try clear bq20
                try clear no24a
                try clear bq25
                try clear tc29a
                try clear tc29b
                try clear τ31_24
                try clear τ31_25
                try clear τ31_26
                try clear τ31_27
                try clear τ31_28
                try clear τ31_29
                try clear τ31_30
                try clear τ31_31
                try clear τ31_32
                try clear τ31_33
                try clear τ31_36
                try clear bq32
                try clear τ34_24
                try clear τ34_25
                try clear τ34_26
                try clear τ34_27
                try clear τ34_28
                try clear τ34_29
                try clear τ34_30
                try clear τ34_31
                try clear τ34_32
                try clear τ34_33
                try clear τ34_36
                try clear bq35
                try clear hp38n1
                try clear hp38n2
                try clear bq41
                try clear lne
                try clear nn43
                try clear bq44
                try clear mz46a
                try clear mz47a
                have nn48 : (0 ≤ κ 0 ∧ κ 0 ≤ κ 1 ∧ κ 0 ≤ E ∧ κ 1 ≤ 7000) ∧ (0 ≤ τ2 24 ∧ τ2 24 ≤ 80 ∧ 0 ≤ τ2 25 ∧ τ2 25 ≤ 80) ∧ 1 ≤ τ2 26 ∧ τ2 26 ≤ 8 ∧ 0 ≤ τ2 29 ∧ τ2 29 ≤ τ2 28 ∧ τ2 28 ≤ 160 ∧ τ2 27 ≤ τ2 26 ∧ τ2 27 = τ2 28 - τ2 29 := hK1.n
                refine zr_iload X 130 0 dX8_pump_128 rfl rfl ?_
                refine zr_iload X 132 1 dX8_pump_130 rfl rfl ?_
                refine zr_icmp_ge X 165 135 dX8_pump_132 rfl rfl (by omega) (by omega) (fun bq49 => ?_) (fun bq49 => ?_)
                · refine zr_aload_n X 166 8 dX8_pump_165 rfl rfl ?_
                  refine zr_dup X 167 dX8_pump_166 rfl rfl ?_
                  have c850 : V2 (c 60) = some (60, .inr (9, [.ref (md 61), .int (zI (κ 0)), .ref (c 62), .ref (md 63), .ref (md 64), .ref (c 65), .int (zI (τ2 26)), .int (zI (τ2 28)), .int (zI (τ2 29)), .ref (c 66), .int (zI (τ2 36))])) := hK1.1
                  refine zr_get X 170 9 8 c850 rfl iX8 (by decide) w2 rfl rfl dX8_pump_167 rfl ?_
                  refine zr_iload_n X 171 5 dX8_pump_170 rfl rfl ?_
                  refine zr_aload_n X 172 8 dX8_pump_171 rfl rfl ?_
                  refine zr_get X 175 9 7 c850 rfl iX8 (by decide) w0 rfl rfl dX8_pump_172 rfl ?_
                  refine zr_aload_n X 176 8 dX8_pump_175 rfl rfl ?_
                  refine zr_get X 179 9 8 c850 rfl iX8 (by decide) w2 rfl rfl dX8_pump_176 rfl ?_
                  refine zr_isub X 180 dX8_pump_179 rfl ?_
                  obtain ⟨mz51, mz51e, mz51a⟩ : ∃ z9 : Int, z9 = (if (τ2 28) - (τ2 29) < b then (τ2 28) - (τ2 29) else b) ∧ (((τ2 28) - (τ2 29) < b ∧ z9 = (τ2 28) - (τ2 29)) ∨ (¬ (τ2 28) - (τ2 29) < b ∧ z9 = b)) := zmine _ _
                  refine zr_mmin X 183 (mz51) w4 w5 w6 w7 (by decide) (Nat.le_of_ble_eq_true rfl) (by omega) (by omega) mz51e dX8_pump_180 rfl ?_
                  clear mz51e
                  refine zr_iadd X 184 dX8_pump_183 rfl ?_
                  refine zr_put X 187 9 8 [.ref (md 61), .int (zI (κ 0)), .ref (c 62), .ref (md 63), .ref (md 64), .ref (c 65), .int (zI (τ2 26)), .int (zI (τ2 28)), .int (zI ((τ2 29) + mz51)), .ref (c 66), .int (zI (τ2 36))] tyX8 c850 rfl iX8 tyX8_ok nmX8 (by decide) w2 rfl rfl rfl rfl (Nat.le_of_ble_eq_true rfl) rfl dX8_pump_184 rfl ?_
                  obtain ⟨cm52h, cm52f⟩ := hK1.setM (τ2 26) (τ2 28) ((τ2 29) + mz51) (τ2 36) (by omega)
                  obtain ⟨cm52V, cm52e⟩ : ∃ zz9 : zV, zz9 = (zu V2 (c 60) 60 (.inr (9, [.ref (md 61), .int (zI (κ 0)), .ref (c 62), .ref (md 63), .ref (md 64), .ref (c 65), .int (zI (τ2 26)), .int (zI (τ2 28)), .int (zI ((τ2 29) + mz51)), .ref (c 66), .int (zI (τ2 36))]))) := ⟨_, rfl⟩
                  have cm52m : zMo Γ cm52V c md (zmf τ2 (τ2 26) (τ2 28) ((τ2 29) + mz51) (τ2 36)) κ E := by
                    rw [cm52e]
                    exact cm52h
                  have cm52g : zag (fun x => x ≠ 60) V2 cm52V := by
                    rw [cm52e]
                    exact cm52f
                  refine zr_view (cm52e).symm ?_
                  have lc53 := cm52g _ _ _ hK3 (by omega)
                  have fx54 : zfm V cm52V := zag.tr hK2 (cm52g.mono (fun t ht => by omega))
                  obtain ⟨τ55, τ55e⟩ : ∃ zz9 : Nat → Int, zz9 = zmf τ2 (τ2 26) (τ2 28) ((τ2 29) + mz51) (τ2 36) := ⟨_, rfl⟩
                  rw [← τ55e] at cm52m
                  have τ55_24 : τ55 24 = τ2 24 := by rw [τ55e]; exact rfl
                  have τ55_25 : τ55 25 = τ2 25 := by rw [τ55e]; exact rfl
                  have τ55_26 : τ55 26 = τ2 26 := by rw [τ55e]; exact rfl
                  have τ55_27 : τ55 27 = (τ2 28) - ((τ2 29) + mz51) := by rw [τ55e]; exact rfl
                  have τ55_28 : τ55 28 = τ2 28 := by rw [τ55e]; exact rfl
                  have τ55_29 : τ55 29 = (τ2 29) + mz51 := by rw [τ55e]; exact rfl
                  have τ55_30 : τ55 30 = τ2 30 := by rw [τ55e]; exact rfl
                  have τ55_31 : τ55 31 = τ2 31 := by rw [τ55e]; exact rfl
                  have τ55_32 : τ55 32 = τ2 32 := by rw [τ55e]; exact rfl
                  have τ55_33 : τ55 33 = τ2 33 := by rw [τ55e]; exact rfl
                  have τ55_36 : τ55 36 = τ2 36 := by rw [τ55e]; exact rfl
                  show zG C cm52V (3011 - 1) (6340 - 40) 187 [(8, .int (zI (j2))), (7, .int (zI (mz47))), (6, .int (zI (n2))), (5, .int (zI (τ34 29))), (4, .ref hp38q), (3, .int (zI (b))), (2, .int (zI (a))), (1, .int (zI (q))), (0, .ref (c 60))] []
                  refine zr_aload_n X 188 8 dX8_pump_187 rfl rfl ?_
                  have c856 : cm52V (c 60) = some (60, .inr (9, [.ref (md 61), .int (zI (κ 0)), .ref (c 62), .ref (md 63), .ref (md 64), .ref (c 65), .int (zI (τ55 26)), .int (zI (τ55 28)), .int (zI (τ55 29)), .ref (c 66), .int (zI (τ55 36))])) := cm52m.1
                  refine zr_get X 191 9 9 c856 rfl iX8 (by decide) w8 rfl rfl dX8_pump_188 rfl ?_
                  refine zr_iconst X 192 dX8_pump_191 rfl ?_
                  refine zr_dup2 X 193 dX8_pump_192 rfl rfl rfl ?_
                  obtain ⟨c857f, c857, c8570, c8571, c8572, c8573⟩ := cm52m.2.2.2.2.2.2.2.1
                  refine zr_iald X 194 c857 (by omega) dX8_pump_193 rfl ?_
                  show zG C cm52V (3011 - 1) (6340 - 40) 194 [(8, .int (zI (j2))), (7, .int (zI (mz47))), (6, .int (zI (n2))), (5, .int (zI (τ34 29))), (4, .ref hp38q), (3, .int (zI (b))), (2, .int (zI (a))), (1, .int (zI (q))), (0, .ref (c 60))] [.int (zI (c857f (3 : Int).toNat)), .int (zI (3)), .ref (c 66)]
                  refine zr_iconst X 195 dX8_pump_194 rfl ?_
                  refine zr_iadd X 196 dX8_pump_195 rfl ?_
                  refine zr_iast X 197 c857 (by omega) dX8_pump_196 rfl ?_
                  have c857x : c857f (3 : Int).toNat + 1 = τ55 33 + 1 := by
                    show c857f 3 + 1 = τ55 33 + 1
                    rw [c8573]
                  have c857y := cm52m.setTal c857 ⟨c8570, c8571, c8572, c8573⟩ 3 (by decide) (c857f (3 : Int).toNat + 1)
                  rw [show zf τ55 (30 + 3) (c857f (3 : Int).toNat + 1) = zf τ55 (30 + 3) (τ55 33 + 1) by rw [c857x]] at c857y
                  obtain ⟨cm58h, cm58f⟩ := c857y
                  obtain ⟨cm58V, cm58e⟩ : ∃ zz9 : zV, zz9 = (zu cm52V (c 66) 66 (za Γ.2.1 0 4 (zf c857f (3 : Int).toNat ((c857f (3 : Int).toNat) + 1)))) := ⟨_, rfl⟩
                  have cm58m : zMo Γ cm58V c md (zf τ55 33 (τ55 33 + 1)) κ E := by
                    rw [cm58e]
                    exact cm58h
                  have cm58g : zag (fun x => x ≠ 66) cm52V cm58V := by
                    rw [cm58e]
                    exact cm58f
                  refine zr_view (cm58e).symm ?_
                  have lc59 := cm58g _ _ _ lc53 (by omega)
                  have fx60 : zfm V cm58V := zag.tr fx54 (cm58g.mono (fun t ht => by omega))
                  obtain ⟨τ61, τ61e⟩ : ∃ zz9 : Nat → Int, zz9 = zf τ55 33 (τ55 33 + 1) := ⟨_, rfl⟩
                  rw [← τ61e] at cm58m
                  have τ61_24 : τ61 24 = τ55 24 := by rw [τ61e]; exact rfl
                  have τ61_25 : τ61 25 = τ55 25 := by rw [τ61e]; exact rfl
                  have τ61_26 : τ61 26 = τ55 26 := by rw [τ61e]; exact rfl
                  have τ61_27 : τ61 27 = τ55 27 := by rw [τ61e]; exact rfl
                  have τ61_28 : τ61 28 = τ55 28 := by rw [τ61e]; exact rfl
                  have τ61_29 : τ61 29 = τ55 29 := by rw [τ61e]; exact rfl
                  have τ61_30 : τ61 30 = τ55 30 := by rw [τ61e]; exact rfl
                  have τ61_31 : τ61 31 = τ55 31 := by rw [τ61e]; exact rfl
                  have τ61_32 : τ61 32 = τ55 32 := by rw [τ61e]; exact rfl
                  have τ61_33 : τ61 33 = τ55 33 + 1 := by rw [τ61e]; exact rfl
                  have τ61_36 : τ61 36 = τ55 36 := by rw [τ61e]; exact rfl
                  show zG C cm58V (3011 - 1) (6340 - 40) 197 [(8, .int (zI (j2))), (7, .int (zI (mz47))), (6, .int (zI (n2))), (5, .int (zI (τ34 29))), (4, .ref hp38q), (3, .int (zI (b))), (2, .int (zI (a))), (1, .int (zI (q))), (0, .ref (c 60))] []
                  refine zr_goto X 77 dX8_pump_197 rfl ?_
                  refine zr_sub [2, 3, 4, 5, 6, 7, 8] [(6, .int (zI (n2))), (5, .int (zI (τ34 29))), (4, .ref hp38q), (3, .int (zI (b))), (2, .int (zI (a))), (1, .int (zI (q))), (0, .ref (c 60))] rfl ?_
                  have ag62 : (∀ j, ¬ (26 ≤ j ∧ j ≤ 29) → j ≠ 30 → j ≠ 33 → j < 36 → τ61 j = τ34 j) := fun j h1 h2 h3 h4 => by
                    rw [τ61e, zf_ne h3, τ55e, zmf_ne ⟨h1, by omega⟩]
                    exact (hK4 j h1 h2 h3 h4).trans (hI4 j h1 h2 h3 h4)
                  exact ih _ (by omega) cm58V τ61 n2 ⟨cm58m, fx60, lc59, ag62, by omega, by omega, by omega, by omega, by omega⟩ rfl
                · refine zr_aload_n X 136 8 dX8_pump_135 rfl rfl ?_
                  have c863 : V2 (c 60) = some (60, .inr (9, [.ref (md 61), .int (zI (κ 0)), .ref (c 62), .ref (md 63), .ref (md 64), .ref (c 65), .int (zI (τ2 26)), .int (zI (τ2 28)), .int (zI (τ2 29)), .ref (c 66), .int (zI (τ2 36))])) := hK1.1
                  refine zr_get X 139 9 5 c863 rfl iX8 (by decide) w9 rfl rfl dX8_pump_136 rfl ?_
                  refine zr_aload_n X 140 8 dX8_pump_139 rfl rfl ?_
                  refine zr_dup X 141 dX8_pump_140 rfl rfl ?_
                  refine zr_get X 144 9 7 c863 rfl iX8 (by decide) w0 rfl rfl dX8_pump_141 rfl ?_
                  refine zr_dup_x1 X 145 dX8_pump_144 rfl rfl rfl ?_
                  refine zr_iconst X 146 dX8_pump_145 rfl ?_
                  refine zr_iadd X 147 dX8_pump_146 rfl ?_
                  refine zr_put X 150 9 7 [.ref (md 61), .int (zI (κ 0)), .ref (c 62), .ref (md 63), .ref (md 64), .ref (c 65), .int (zI (τ2 26)), .int (zI ((τ2 28) + 1)), .int (zI (τ2 29)), .ref (c 66), .int (zI (τ2 36))] tyX8 c863 rfl iX8 tyX8_ok nmX8 (by decide) w0 rfl rfl rfl rfl (Nat.le_of_ble_eq_true rfl) rfl dX8_pump_147 rfl ?_
                  obtain ⟨cm64h, cm64f⟩ := hK1.setM (τ2 26) ((τ2 28) + 1) (τ2 29) (τ2 36) (by omega)
                  obtain ⟨cm64V, cm64e⟩ : ∃ zz9 : zV, zz9 = (zu V2 (c 60) 60 (.inr (9, [.ref (md 61), .int (zI (κ 0)), .ref (c 62), .ref (md 63), .ref (md 64), .ref (c 65), .int (zI (τ2 26)), .int (zI ((τ2 28) + 1)), .int (zI (τ2 29)), .ref (c 66), .int (zI (τ2 36))]))) := ⟨_, rfl⟩
                  have cm64m : zMo Γ cm64V c md (zmf τ2 (τ2 26) ((τ2 28) + 1) (τ2 29) (τ2 36)) κ E := by
                    rw [cm64e]
                    exact cm64h
                  have cm64g : zag (fun x => x ≠ 60) V2 cm64V := by
                    rw [cm64e]
                    exact cm64f
                  refine zr_view (cm64e).symm ?_
                  have lc65 := cm64g _ _ _ hK3 (by omega)
                  have fx66 : zfm V cm64V := zag.tr hK2 (cm64g.mono (fun t ht => by omega))
                  obtain ⟨τ67, τ67e⟩ : ∃ zz9 : Nat → Int, zz9 = zmf τ2 (τ2 26) ((τ2 28) + 1) (τ2 29) (τ2 36) := ⟨_, rfl⟩
                  rw [← τ67e] at cm64m
                  have τ67_24 : τ67 24 = τ2 24 := by rw [τ67e]; exact rfl
                  have τ67_25 : τ67 25 = τ2 25 := by rw [τ67e]; exact rfl
                  have τ67_26 : τ67 26 = τ2 26 := by rw [τ67e]; exact rfl
                  have τ67_27 : τ67 27 = ((τ2 28) + 1) - (τ2 29) := by rw [τ67e]; exact rfl
                  have τ67_28 : τ67 28 = (τ2 28) + 1 := by rw [τ67e]; exact rfl
                  have τ67_29 : τ67 29 = τ2 29 := by rw [τ67e]; exact rfl
                  have τ67_30 : τ67 30 = τ2 30 := by rw [τ67e]; exact rfl
                  have τ67_31 : τ67 31 = τ2 31 := by rw [τ67e]; exact rfl
                  have τ67_32 : τ67 32 = τ2 32 := by rw [τ67e]; exact rfl
                  have τ67_33 : τ67 33 = τ2 33 := by rw [τ67e]; exact rfl
                  have τ67_36 : τ67 36 = τ2 36 := by rw [τ67e]; exact rfl
                  show zG C cm64V (3011 - 1) (6340 - 40) 150 [(8, .int (zI (j2))), (7, .int (zI (mz47))), (6, .int (zI (n2))), (5, .int (zI (τ34 29))), (4, .ref hp38q), (3, .int (zI (b))), (2, .int (zI (a))), (1, .int (zI (q))), (0, .ref (c 60))] [.int (zI (τ2 28)), .ref (c 65)]
                  refine zr_aload X 152 4 dX8_pump_150 rfl rfl ?_
                  refine zr_iload X 154 2 dX8_pump_152 rfl rfl ?_
                  refine zr_iinc X 157 2 [(6, .int (zI (n2 + 1))), (8, .int (zI (j2))), (7, .int (zI (mz47))), (5, .int (zI (τ34 29))), (4, .ref hp38q), (3, .int (zI (b))), (2, .int (zI (a))), (1, .int (zI (q))), (0, .ref (c 60))] dX8_pump_154 rfl rfl (by decide) rfl ?_
                  refine zr_iald X 158 lc65 (by omega) dX8_pump_157 rfl ?_
                  have zb68 := zc.b hp38c (n2).toNat
                  obtain ⟨c869f, c869, c869c⟩ := cm64m.2.2.2.2.2.2.1
                  refine zr_iast X 159 c869 (by omega) dX8_pump_158 rfl ?_
                  obtain ⟨cm70h, cm70f⟩ := cm64m.setSent (f := zf c869f (τ2 28).toNat (hp38f (n2).toNat)) (zc_zf c869c (by omega))
                  obtain ⟨cm70V, cm70e⟩ : ∃ zz9 : zV, zz9 = (zu cm64V (c 65) 65 (za Γ.2.1 0 160 (zf c869f (τ2 28).toNat (hp38f (n2).toNat)))) := ⟨_, rfl⟩
                  have cm70m : zMo Γ cm70V c md (τ67) κ E := by
                    rw [cm70e]
                    exact cm70h
                  have cm70g : zag (fun x => x ≠ 65) cm64V cm70V := by
                    rw [cm70e]
                    exact cm70f
                  refine zr_view (cm70e).symm ?_
                  have lc71 := cm70g _ _ _ lc65 (by omega)
                  have fx72 : zfm V cm70V := zag.tr fx66 (cm70g.mono (fun t ht => by omega))
                  show zG C cm70V (3011 - 1) (6340 - 40) 159 [(6, .int (zI (n2 + 1))), (8, .int (zI (j2))), (7, .int (zI (mz47))), (5, .int (zI (τ34 29))), (4, .ref hp38q), (3, .int (zI (b))), (2, .int (zI (a))), (1, .int (zI (q))), (0, .ref (c 60))] []
                  refine zr_iinc X 162 1 [(8, .int (zI (j2 + 1))), (6, .int (zI (n2 + 1))), (7, .int (zI (mz47))), (5, .int (zI (τ34 29))), (4, .ref hp38q), (3, .int (zI (b))), (2, .int (zI (a))), (1, .int (zI (q))), (0, .ref (c 60))] dX8_pump_159 rfl rfl (by decide) rfl ?_
                  refine zr_goto X 128 dX8_pump_162 rfl ?_
                  refine zr_sub [0, 2, 1, 3, 4, 5, 6, 7, 8] [(8, .int (zI (j2 + 1))), (7, .int (zI (mz47))), (6, .int (zI (n2 + 1))), (5, .int (zI (τ34 29))), (4, .ref hp38q), (3, .int (zI (b))), (2, .int (zI (a))), (1, .int (zI (q))), (0, .ref (c 60))] rfl ?_
                  have ag73 : (∀ j, ¬ (26 ≤ j ∧ j ≤ 29) → j ≠ 30 → j ≠ 33 → j < 36 → τ67 j = τ1 j) := fun j h1 h2 h3 h4 => by
                    rw [τ67e, zmf_ne ⟨h1, by omega⟩]
                    exact hK4 j h1 h2 h3 h4
                  exact ih2 _ (by omega) cm70V τ67 (j2 + 1) (n2 + 1) ⟨cm70m, fx72, lc71, ag73, by omega, by omega, by omega, by omega, by omega, by omega⟩ rfl
              exact loop2 _ V1 τ1 0 nx ⟨hI1, hI2, hI3, fun _ _ _ _ _ => rfl, rfl, by omega, rfl, by omega, by omega, by omega⟩ rfl
            · refine zr_aload_n X 86 6 dX8_pump_85 rfl rfl ?_
              have c874 : V1 (c 60) = some (60, .inr (9, [.ref (md 61), .int (zI (κ 0)), .ref (c 62), .ref (md 63), .ref (md 64), .ref (c 65), .int (zI (τ1 26)), .int (zI (τ1 28)), .int (zI (τ1 29)), .ref (c 66), .int (zI (τ1 36))])) := hI1.1
              refine zr_get X 89 9 7 c874 rfl iX8 (by decide) w0 rfl rfl dX8_pump_86 rfl ?_
              refine zr_aload_n X 90 6 dX8_pump_89 rfl rfl ?_
              refine zr_get X 93 9 8 c874 rfl iX8 (by decide) w2 rfl rfl dX8_pump_90 rfl ?_
              refine zr_icmp_le X 200 96 dX8_pump_93 rfl rfl (by omega) (by omega) (fun bq75 => ?_) (fun bq75 => ?_)
              · refine zr_aload_n X 201 6 dX8_pump_200 rfl rfl ?_
                refine zr_iconst X 202 dX8_pump_201 rfl ?_
                refine zr_callVe (kc' := (3011 - 1)) (ks' := (6340 - 40)) X 205 1 (m_X8_done l Γ hI1) gX8_pump_X8_done rfl (by decide +kernel) rfl (by decide) ⟨_, _, hI1.1⟩ rfl rfl (Nat.le_of_ble_eq_true rfl) dX8_pump_202 rfl (by omega) (by omega) (fun rv76 V77 hp78 => ?_)
                obtain ⟨hp78e, hp78m, hp78g⟩ := hp78
                rw [hp78e]
                have lc79 := hp78g _ _ _ hI3 (by omega)
                have fx80 : zfm V V77 := zag.tr hI2 (hp78g.mono (fun t ht => by omega))
                obtain ⟨τ81, τ81e⟩ : ∃ zz9 : Nat → Int, zz9 = zdn τ1 := ⟨_, rfl⟩
                rw [← τ81e] at hp78m
                have τ81_24 : τ81 24 = τ1 24 := by rw [τ81e]; exact rfl
                have τ81_25 : τ81 25 = τ1 25 := by rw [τ81e]; exact rfl
                have τ81_26 : τ81 26 = τ1 26 := by rw [τ81e]; exact rfl
                have τ81_27 : τ81 27 = τ1 27 := by rw [τ81e]; exact rfl
                have τ81_28 : τ81 28 = τ1 28 := by rw [τ81e]; exact rfl
                have τ81_29 : τ81 29 = τ1 29 := by rw [τ81e]; exact rfl
                have τ81_30 : τ81 30 = τ1 30 + 1 := by rw [τ81e]; exact rfl
                have τ81_31 : τ81 31 = τ1 31 := by rw [τ81e]; exact rfl
                have τ81_32 : τ81 32 = τ1 32 := by rw [τ81e]; exact rfl
                have τ81_33 : τ81 33 = τ1 33 := by rw [τ81e]; exact rfl
                have τ81_36 : τ81 36 = τ1 36 := by rw [τ81e]; exact rfl
                show zG C V77 (3011 - 1) (6340 - 40) 205 [(6, .int (zI (nx))), (5, .int (zI (τ34 29))), (4, .ref hp38q), (3, .int (zI (b))), (2, .int (zI (a))), (1, .int (zI (q))), (0, .ref (c 60))] [.int (zI (0))]
                refine zr_pop X 206 dX8_pump_205 rfl rfl ?_
                refine zr_aload_n X 207 6 dX8_pump_206 rfl rfl ?_
                have c882 : V77 (c 60) = some (60, .inr (9, [.ref (md 61), .int (zI (κ 0)), .ref (c 62), .ref (md 63), .ref (md 64), .ref (c 65), .int (zI (τ81 26)), .int (zI (τ81 28)), .int (zI (τ81 29)), .ref (c 66), .int (zI (τ81 36))])) := hp78m.1
                refine zr_get X 210 9 5 c882 rfl iX8 (by decide) w9 rfl rfl dX8_pump_207 rfl ?_
                refine zr_iload X 212 1 dX8_pump_210 rfl rfl ?_
                refine zr_aload_n X 213 6 dX8_pump_212 rfl rfl ?_
                refine zr_get X 216 9 8 c882 rfl iX8 (by decide) w2 rfl rfl dX8_pump_213 rfl ?_
                obtain ⟨c883f, c883, c883c⟩ := hp78m.2.2.2.2.2.2.1
                refine zr_callS (kc' := (3011 - 1) - 3010) (ks' := (6340 - 40) - 6300) X 219 3 (m_X8_told l Γ (fr := τ34 29) (to := τ81 29) c883 c883c (by omega) (by omega) (by omega)) gX8_pump_X8_told rfl (by decide +kernel) rfl (by decide) rfl (Nat.le_of_ble_eq_true rfl) dX8_pump_216 rfl (by omega) (by omega) (fun rv84 V85 hp86 => ?_)
                obtain ⟨hp86z, hp86e, hp86f⟩ := hp86
                rw [hp86e]
                have hp86g : zag (fun x => x ≠ 7) V77 V85 := hp86f
                have hp86m := hp78m.kept hp86g (fun t h1 h2 => by omega)
                have lc87 := hp86g _ _ _ lc79 (by omega)
                have fx88 : zfm V V85 := zag.tr fx80 (hp86g.mono (fun t ht => by omega))
                show zG C V85 ((3011 - 1) - 3010) ((6340 - 40) - 6300) 219 [(6, .int (zI (nx))), (5, .int (zI (τ34 29))), (4, .ref hp38q), (3, .int (zI (b))), (2, .int (zI (a))), (1, .int (zI (q))), (0, .ref (c 60))] [.ref hp86z]
                exact zr_aret X rfl (Or.inl ⟨_, rfl⟩) ⟨hp86z, md, τ81, κ, rfl, hp86m.le (by omega), fx88, (fun j h1 h2 h3 h4 => by rw [τ81e, zdn_ne h2, hI4 j h1 h2 h3 h4, τ34e]; exact zf_ne (by omega)), by omega⟩ dX8_pump_219
              · refine zr_iload_n X 97 4 dX8_pump_96 rfl rfl ?_
                refine zr_aload X 99 2 dX8_pump_97 rfl rfl ?_
                refine zr_alen X 100 0 hI3 (by decide) dX8_pump_99 rfl ?_
                refine zr_iload X 102 0 dX8_pump_100 rfl rfl ?_
                refine zr_isub X 103 dX8_pump_102 rfl ?_
                refine zr_aload_n X 104 6 dX8_pump_103 rfl rfl ?_
                refine zr_get X 107 9 6 c874 rfl iX8 (by decide) w3 rfl rfl dX8_pump_104 rfl ?_
                refine zr_aload_n X 108 6 dX8_pump_107 rfl rfl ?_
                refine zr_get X 111 9 7 c874 rfl iX8 (by decide) w0 rfl rfl dX8_pump_108 rfl ?_
                refine zr_aload_n X 112 6 dX8_pump_111 rfl rfl ?_
                refine zr_get X 115 9 8 c874 rfl iX8 (by decide) w2 rfl rfl dX8_pump_112 rfl ?_
                refine zr_isub X 116 dX8_pump_115 rfl ?_
                refine zr_isub X 117 dX8_pump_116 rfl ?_
                obtain ⟨mz89, mz89e, mz89a⟩ : ∃ z9 : Int, z9 = (if (τ1 26) - ((τ1 28) - (τ1 29)) < ((ln : Nat) - nx : Int) then (τ1 26) - ((τ1 28) - (τ1 29)) else ((ln : Nat) - nx : Int)) ∧ (((τ1 26) - ((τ1 28) - (τ1 29)) < ((ln : Nat) - nx : Int) ∧ z9 = (τ1 26) - ((τ1 28) - (τ1 29))) ∨ (¬ (τ1 26) - ((τ1 28) - (τ1 29)) < ((ln : Nat) - nx : Int) ∧ z9 = ((ln : Nat) - nx : Int))) := zmine _ _
                refine zr_mmin X 120 (mz89) w4 w5 w6 w7 (by decide) (Nat.le_of_ble_eq_true rfl) (by omega) (by omega) mz89e dX8_pump_117 rfl ?_
                clear mz89e
                obtain ⟨mz90, mz90e, mz90a⟩ : ∃ z9 : Int, z9 = (if mz89 < a then mz89 else a) ∧ ((mz89 < a ∧ z9 = mz89) ∨ (¬ mz89 < a ∧ z9 = a)) := zmine _ _
                refine zr_mmin X 123 (mz90) w4 w5 w6 w7 (by decide) (Nat.le_of_ble_eq_true rfl) (by omega) (by omega) mz90e dX8_pump_120 rfl ?_
                clear mz90e
                refine zr_istore X 125 [(7, .int (zI (mz90))), (6, .int (zI (nx))), (5, .int (zI (τ34 29))), (4, .ref hp38q), (3, .int (zI (b))), (2, .int (zI (a))), (1, .int (zI (q))), (0, .ref (c 60))] dX8_pump_123 rfl (by decide) rfl ?_
                refine zr_iconst X 126 dX8_pump_125 rfl ?_
                refine zr_istore X 128 [(8, .int (zI (0))), (7, .int (zI (mz90))), (6, .int (zI (nx))), (5, .int (zI (τ34 29))), (4, .ref hp38q), (3, .int (zI (b))), (2, .int (zI (a))), (1, .int (zI (q))), (0, .ref (c 60))] dX8_pump_126 rfl (by decide) rfl ?_
                have hmz : 0 ≤ mz90 ∧ mz90 ≤ (ln : Int) - nx ∧ mz90 ≤ τ1 26 - (τ1 28 - τ1 29) ∧ (mz90 ≤ 0 → τ1 29 < τ1 28) := by omega
                have hr1 : 1 ≤ τ1 26 ∧ τ1 26 ≤ 8 ∧ 0 ≤ τ1 29 ∧ τ1 29 ≤ τ1 28 ∧ τ1 28 ≤ 160 := by omega
                have loop2 : ∀ (N : Nat) (V2 : zV) (τ2 : Nat → Int) (j2 : Int) (n2 : Int), zMo Γ V2 c md τ2 κ E ∧ zfm V V2 ∧ V2 hp38q = some (hp38t, za Γ.2.1 0 ln hp38f) ∧ (∀ j, ¬ (26 ≤ j ∧ j ≤ 29) → j ≠ 30 → j ≠ 33 → j < 36 → τ2 j = τ1 j) ∧ τ2 26 = τ1 26 ∧ τ2 28 = τ1 28 + j2 ∧ τ2 29 = τ1 29 ∧ 0 ≤ j2 ∧ (j2 ≤ mz90 ∨ j2 = 0) ∧ n2 = nx + j2 → (mz90 - j2).toNat = N → zG C V2 (3011 - 1) (6340 - 40) 128 [(8, .int (zI (j2))), (7, .int (zI (mz90))), (6, .int (zI (n2))), (5, .int (zI (τ34 29))), (4, .ref hp38q), (3, .int (zI (b))), (2, .int (zI (a))), (1, .int (zI (q))), (0, .ref (c 60))] [] := by
                  intro N2
                  induction N2 using Nat.strongRecOn with
                  | _ N2 ih2 =>
                  intro V2 τ2 j2 n2 hI2 hN2
                  obtain ⟨hK1, hK2, hK3, hK4, hK5, hK6, hK7, hK8, hK9, hK10⟩ := id hI2
                  try clear nn1
                  try clear no5a
                  try clear no9a
                  try clear bq10
                  try clear tc14a
                  try clear tc14b
                  try clear τ16_24
                  try clear τ16_25
                  try clear τ16_26
                  try clear τ16_27
                  try clear τ16_28
                  try clear τ16_29
                  try clear τ16_30
                  try clear τ16_31
                  try clear τ16_32
                  try clear τ16_33
                  try clear τ16_36
                  try clear bq17
                  try clear τ19_24
                  try clear τ19_25
                  try clear τ19_26
                  try clear τ19_27
                  try clear τ19_28
                  try clear τ19_29
                  try clear τ19_30
                  try clear τ19_31
                  try clear τ19_32
                  try clear τ19_33
                  try clear τ19_36
                  try clear bq20
                  try clear no24a
                  try clear bq25
                  try clear tc29a
                  try clear tc29b
                  try clear τ31_24
                  try clear τ31_25
                  try clear τ31_26
                  try clear τ31_27
                  try clear τ31_28
                  try clear τ31_29
                  try clear τ31_30
                  try clear τ31_31
                  try clear τ31_32
                  try clear τ31_33
                  try clear τ31_36
                  try clear bq32
                  try clear τ34_24
                  try clear τ34_25
                  try clear τ34_26
                  try clear τ34_27
                  try clear τ34_28
                  try clear τ34_29
                  try clear τ34_30
                  try clear τ34_31
                  try clear τ34_32
                  try clear τ34_33
                  try clear τ34_36
                  try clear bq35
                  try clear hp38n1
                  try clear hp38n2
                  try clear bq41
                  try clear lne
                  try clear nn43
                  try clear bq44
                  try clear mz46a
                  try clear mz47a
                  try clear nn48
                  try clear bq49
                  try clear mz51a
                  try clear τ55_24
                  try clear τ55_25
                  try clear τ55_26
                  try clear τ55_27
                  try clear τ55_28
                  try clear τ55_29
                  try clear τ55_30
                  try clear τ55_31
                  try clear τ55_32
                  try clear τ55_33
                  try clear τ55_36
                  try clear τ61_24
                  try clear τ61_25
                  try clear τ61_26
                  try clear τ61_27
                  try clear τ61_28
                  try clear τ61_29
                  try clear τ61_30
                  try clear τ61_31
                  try clear τ61_32
                  try clear τ61_33
                  try clear τ61_36
                  try clear τ67_24
                  try clear τ67_25
                  try clear τ67_26
                  try clear τ67_27
                  try clear τ67_28
                  try clear τ67_29
                  try clear τ67_30
                  try clear τ67_31
                  try clear τ67_32
                  try clear τ67_33
                  try clear τ67_36
                  try clear bq75
                  try clear τ81_24
                  try clear τ81_25
                  try clear τ81_26
                  try clear τ81_27
                  try clear τ81_28
                  try clear τ81_29
                  try clear τ81_30
                  try clear τ81_31
                  try clear τ81_32
                  try clear τ81_33
                  try clear τ81_36
                  try clear mz89a
                  try clear mz90a
                  have nn91 : (0 ≤ κ 0 ∧ κ 0 ≤ κ 1 ∧ κ 0 ≤ E ∧ κ 1 ≤ 7000) ∧ (0 ≤ τ2 24 ∧ τ2 24 ≤ 80 ∧ 0 ≤ τ2 25 ∧ τ2 25 ≤ 80) ∧ 1 ≤ τ2 26 ∧ τ2 26 ≤ 8 ∧ 0 ≤ τ2 29 ∧ τ2 29 ≤ τ2 28 ∧ τ2 28 ≤ 160 ∧ τ2 27 ≤ τ2 26 ∧ τ2 27 = τ2 28 - τ2 29 := hK1.n
                  refine zr_iload X 130 0 dX8_pump_128 rfl rfl ?_
                  refine zr_iload X 132 1 dX8_pump_130 rfl rfl ?_
                  refine zr_icmp_ge X 165 135 dX8_pump_132 rfl rfl (by omega) (by omega) (fun bq92 => ?_) (fun bq92 => ?_)
                  · refine zr_aload_n X 166 8 dX8_pump_165 rfl rfl ?_
                    refine zr_dup X 167 dX8_pump_166 rfl rfl ?_
                    have c893 : V2 (c 60) = some (60, .inr (9, [.ref (md 61), .int (zI (κ 0)), .ref (c 62), .ref (md 63), .ref (md 64), .ref (c 65), .int (zI (τ2 26)), .int (zI (τ2 28)), .int (zI (τ2 29)), .ref (c 66), .int (zI (τ2 36))])) := hK1.1
                    refine zr_get X 170 9 8 c893 rfl iX8 (by decide) w2 rfl rfl dX8_pump_167 rfl ?_
                    refine zr_iload_n X 171 5 dX8_pump_170 rfl rfl ?_
                    refine zr_aload_n X 172 8 dX8_pump_171 rfl rfl ?_
                    refine zr_get X 175 9 7 c893 rfl iX8 (by decide) w0 rfl rfl dX8_pump_172 rfl ?_
                    refine zr_aload_n X 176 8 dX8_pump_175 rfl rfl ?_
                    refine zr_get X 179 9 8 c893 rfl iX8 (by decide) w2 rfl rfl dX8_pump_176 rfl ?_
                    refine zr_isub X 180 dX8_pump_179 rfl ?_
                    obtain ⟨mz94, mz94e, mz94a⟩ : ∃ z9 : Int, z9 = (if (τ2 28) - (τ2 29) < b then (τ2 28) - (τ2 29) else b) ∧ (((τ2 28) - (τ2 29) < b ∧ z9 = (τ2 28) - (τ2 29)) ∨ (¬ (τ2 28) - (τ2 29) < b ∧ z9 = b)) := zmine _ _
                    refine zr_mmin X 183 (mz94) w4 w5 w6 w7 (by decide) (Nat.le_of_ble_eq_true rfl) (by omega) (by omega) mz94e dX8_pump_180 rfl ?_
                    clear mz94e
                    refine zr_iadd X 184 dX8_pump_183 rfl ?_
                    refine zr_put X 187 9 8 [.ref (md 61), .int (zI (κ 0)), .ref (c 62), .ref (md 63), .ref (md 64), .ref (c 65), .int (zI (τ2 26)), .int (zI (τ2 28)), .int (zI ((τ2 29) + mz94)), .ref (c 66), .int (zI (τ2 36))] tyX8 c893 rfl iX8 tyX8_ok nmX8 (by decide) w2 rfl rfl rfl rfl (Nat.le_of_ble_eq_true rfl) rfl dX8_pump_184 rfl ?_
                    obtain ⟨cm95h, cm95f⟩ := hK1.setM (τ2 26) (τ2 28) ((τ2 29) + mz94) (τ2 36) (by omega)
                    obtain ⟨cm95V, cm95e⟩ : ∃ zz9 : zV, zz9 = (zu V2 (c 60) 60 (.inr (9, [.ref (md 61), .int (zI (κ 0)), .ref (c 62), .ref (md 63), .ref (md 64), .ref (c 65), .int (zI (τ2 26)), .int (zI (τ2 28)), .int (zI ((τ2 29) + mz94)), .ref (c 66), .int (zI (τ2 36))]))) := ⟨_, rfl⟩
                    have cm95m : zMo Γ cm95V c md (zmf τ2 (τ2 26) (τ2 28) ((τ2 29) + mz94) (τ2 36)) κ E := by
                      rw [cm95e]
                      exact cm95h
                    have cm95g : zag (fun x => x ≠ 60) V2 cm95V := by
                      rw [cm95e]
                      exact cm95f
                    refine zr_view (cm95e).symm ?_
                    have lc96 := cm95g _ _ _ hK3 (by omega)
                    have fx97 : zfm V cm95V := zag.tr hK2 (cm95g.mono (fun t ht => by omega))
                    obtain ⟨τ98, τ98e⟩ : ∃ zz9 : Nat → Int, zz9 = zmf τ2 (τ2 26) (τ2 28) ((τ2 29) + mz94) (τ2 36) := ⟨_, rfl⟩
                    rw [← τ98e] at cm95m
                    have τ98_24 : τ98 24 = τ2 24 := by rw [τ98e]; exact rfl
                    have τ98_25 : τ98 25 = τ2 25 := by rw [τ98e]; exact rfl
                    have τ98_26 : τ98 26 = τ2 26 := by rw [τ98e]; exact rfl
                    have τ98_27 : τ98 27 = (τ2 28) - ((τ2 29) + mz94) := by rw [τ98e]; exact rfl
                    have τ98_28 : τ98 28 = τ2 28 := by rw [τ98e]; exact rfl
                    have τ98_29 : τ98 29 = (τ2 29) + mz94 := by rw [τ98e]; exact rfl
                    have τ98_30 : τ98 30 = τ2 30 := by rw [τ98e]; exact rfl
                    have τ98_31 : τ98 31 = τ2 31 := by rw [τ98e]; exact rfl
                    have τ98_32 : τ98 32 = τ2 32 := by rw [τ98e]; exact rfl
                    have τ98_33 : τ98 33 = τ2 33 := by rw [τ98e]; exact rfl
                    have τ98_36 : τ98 36 = τ2 36 := by rw [τ98e]; exact rfl
                    show zG C cm95V (3011 - 1) (6340 - 40) 187 [(8, .int (zI (j2))), (7, .int (zI (mz90))), (6, .int (zI (n2))), (5, .int (zI (τ34 29))), (4, .ref hp38q), (3, .int (zI (b))), (2, .int (zI (a))), (1, .int (zI (q))), (0, .ref (c 60))] []
                    refine zr_aload_n X 188 8 dX8_pump_187 rfl rfl ?_
                    have c899 : cm95V (c 60) = some (60, .inr (9, [.ref (md 61), .int (zI (κ 0)), .ref (c 62), .ref (md 63), .ref (md 64), .ref (c 65), .int (zI (τ98 26)), .int (zI (τ98 28)), .int (zI (τ98 29)), .ref (c 66), .int (zI (τ98 36))])) := cm95m.1
                    refine zr_get X 191 9 9 c899 rfl iX8 (by decide) w8 rfl rfl dX8_pump_188 rfl ?_
                    refine zr_iconst X 192 dX8_pump_191 rfl ?_
                    refine zr_dup2 X 193 dX8_pump_192 rfl rfl rfl ?_
                    obtain ⟨c8100f, c8100, c81000, c81001, c81002, c81003⟩ := cm95m.2.2.2.2.2.2.2.1
                    refine zr_iald X 194 c8100 (by omega) dX8_pump_193 rfl ?_
                    show zG C cm95V (3011 - 1) (6340 - 40) 194 [(8, .int (zI (j2))), (7, .int (zI (mz90))), (6, .int (zI (n2))), (5, .int (zI (τ34 29))), (4, .ref hp38q), (3, .int (zI (b))), (2, .int (zI (a))), (1, .int (zI (q))), (0, .ref (c 60))] [.int (zI (c8100f (3 : Int).toNat)), .int (zI (3)), .ref (c 66)]
                    refine zr_iconst X 195 dX8_pump_194 rfl ?_
                    refine zr_iadd X 196 dX8_pump_195 rfl ?_
                    refine zr_iast X 197 c8100 (by omega) dX8_pump_196 rfl ?_
                    have c8100x : c8100f (3 : Int).toNat + 1 = τ98 33 + 1 := by
                      show c8100f 3 + 1 = τ98 33 + 1
                      rw [c81003]
                    have c8100y := cm95m.setTal c8100 ⟨c81000, c81001, c81002, c81003⟩ 3 (by decide) (c8100f (3 : Int).toNat + 1)
                    rw [show zf τ98 (30 + 3) (c8100f (3 : Int).toNat + 1) = zf τ98 (30 + 3) (τ98 33 + 1) by rw [c8100x]] at c8100y
                    obtain ⟨cm101h, cm101f⟩ := c8100y
                    obtain ⟨cm101V, cm101e⟩ : ∃ zz9 : zV, zz9 = (zu cm95V (c 66) 66 (za Γ.2.1 0 4 (zf c8100f (3 : Int).toNat ((c8100f (3 : Int).toNat) + 1)))) := ⟨_, rfl⟩
                    have cm101m : zMo Γ cm101V c md (zf τ98 33 (τ98 33 + 1)) κ E := by
                      rw [cm101e]
                      exact cm101h
                    have cm101g : zag (fun x => x ≠ 66) cm95V cm101V := by
                      rw [cm101e]
                      exact cm101f
                    refine zr_view (cm101e).symm ?_
                    have lc102 := cm101g _ _ _ lc96 (by omega)
                    have fx103 : zfm V cm101V := zag.tr fx97 (cm101g.mono (fun t ht => by omega))
                    obtain ⟨τ104, τ104e⟩ : ∃ zz9 : Nat → Int, zz9 = zf τ98 33 (τ98 33 + 1) := ⟨_, rfl⟩
                    rw [← τ104e] at cm101m
                    have τ104_24 : τ104 24 = τ98 24 := by rw [τ104e]; exact rfl
                    have τ104_25 : τ104 25 = τ98 25 := by rw [τ104e]; exact rfl
                    have τ104_26 : τ104 26 = τ98 26 := by rw [τ104e]; exact rfl
                    have τ104_27 : τ104 27 = τ98 27 := by rw [τ104e]; exact rfl
                    have τ104_28 : τ104 28 = τ98 28 := by rw [τ104e]; exact rfl
                    have τ104_29 : τ104 29 = τ98 29 := by rw [τ104e]; exact rfl
                    have τ104_30 : τ104 30 = τ98 30 := by rw [τ104e]; exact rfl
                    have τ104_31 : τ104 31 = τ98 31 := by rw [τ104e]; exact rfl
                    have τ104_32 : τ104 32 = τ98 32 := by rw [τ104e]; exact rfl
                    have τ104_33 : τ104 33 = τ98 33 + 1 := by rw [τ104e]; exact rfl
                    have τ104_36 : τ104 36 = τ98 36 := by rw [τ104e]; exact rfl
                    show zG C cm101V (3011 - 1) (6340 - 40) 197 [(8, .int (zI (j2))), (7, .int (zI (mz90))), (6, .int (zI (n2))), (5, .int (zI (τ34 29))), (4, .ref hp38q), (3, .int (zI (b))), (2, .int (zI (a))), (1, .int (zI (q))), (0, .ref (c 60))] []
                    refine zr_goto X 77 dX8_pump_197 rfl ?_
                    refine zr_sub [2, 3, 4, 5, 6, 7, 8] [(6, .int (zI (n2))), (5, .int (zI (τ34 29))), (4, .ref hp38q), (3, .int (zI (b))), (2, .int (zI (a))), (1, .int (zI (q))), (0, .ref (c 60))] rfl ?_
                    have ag105 : (∀ j, ¬ (26 ≤ j ∧ j ≤ 29) → j ≠ 30 → j ≠ 33 → j < 36 → τ104 j = τ34 j) := fun j h1 h2 h3 h4 => by
                      rw [τ104e, zf_ne h3, τ98e, zmf_ne ⟨h1, by omega⟩]
                      exact (hK4 j h1 h2 h3 h4).trans (hI4 j h1 h2 h3 h4)
                    exact ih _ (by omega) cm101V τ104 n2 ⟨cm101m, fx103, lc102, ag105, by omega, by omega, by omega, by omega, by omega⟩ rfl
                  · refine zr_aload_n X 136 8 dX8_pump_135 rfl rfl ?_
                    have c8106 : V2 (c 60) = some (60, .inr (9, [.ref (md 61), .int (zI (κ 0)), .ref (c 62), .ref (md 63), .ref (md 64), .ref (c 65), .int (zI (τ2 26)), .int (zI (τ2 28)), .int (zI (τ2 29)), .ref (c 66), .int (zI (τ2 36))])) := hK1.1
                    refine zr_get X 139 9 5 c8106 rfl iX8 (by decide) w9 rfl rfl dX8_pump_136 rfl ?_
                    refine zr_aload_n X 140 8 dX8_pump_139 rfl rfl ?_
                    refine zr_dup X 141 dX8_pump_140 rfl rfl ?_
                    refine zr_get X 144 9 7 c8106 rfl iX8 (by decide) w0 rfl rfl dX8_pump_141 rfl ?_
                    refine zr_dup_x1 X 145 dX8_pump_144 rfl rfl rfl ?_
                    refine zr_iconst X 146 dX8_pump_145 rfl ?_
                    refine zr_iadd X 147 dX8_pump_146 rfl ?_
                    refine zr_put X 150 9 7 [.ref (md 61), .int (zI (κ 0)), .ref (c 62), .ref (md 63), .ref (md 64), .ref (c 65), .int (zI (τ2 26)), .int (zI ((τ2 28) + 1)), .int (zI (τ2 29)), .ref (c 66), .int (zI (τ2 36))] tyX8 c8106 rfl iX8 tyX8_ok nmX8 (by decide) w0 rfl rfl rfl rfl (Nat.le_of_ble_eq_true rfl) rfl dX8_pump_147 rfl ?_
                    obtain ⟨cm107h, cm107f⟩ := hK1.setM (τ2 26) ((τ2 28) + 1) (τ2 29) (τ2 36) (by omega)
                    obtain ⟨cm107V, cm107e⟩ : ∃ zz9 : zV, zz9 = (zu V2 (c 60) 60 (.inr (9, [.ref (md 61), .int (zI (κ 0)), .ref (c 62), .ref (md 63), .ref (md 64), .ref (c 65), .int (zI (τ2 26)), .int (zI ((τ2 28) + 1)), .int (zI (τ2 29)), .ref (c 66), .int (zI (τ2 36))]))) := ⟨_, rfl⟩
                    have cm107m : zMo Γ cm107V c md (zmf τ2 (τ2 26) ((τ2 28) + 1) (τ2 29) (τ2 36)) κ E := by
                      rw [cm107e]
                      exact cm107h
                    have cm107g : zag (fun x => x ≠ 60) V2 cm107V := by
                      rw [cm107e]
                      exact cm107f
                    refine zr_view (cm107e).symm ?_
                    have lc108 := cm107g _ _ _ hK3 (by omega)
                    have fx109 : zfm V cm107V := zag.tr hK2 (cm107g.mono (fun t ht => by omega))
                    obtain ⟨τ110, τ110e⟩ : ∃ zz9 : Nat → Int, zz9 = zmf τ2 (τ2 26) ((τ2 28) + 1) (τ2 29) (τ2 36) := ⟨_, rfl⟩
                    rw [← τ110e] at cm107m
                    have τ110_24 : τ110 24 = τ2 24 := by rw [τ110e]; exact rfl
                    have τ110_25 : τ110 25 = τ2 25 := by rw [τ110e]; exact rfl
                    have τ110_26 : τ110 26 = τ2 26 := by rw [τ110e]; exact rfl
                    have τ110_27 : τ110 27 = ((τ2 28) + 1) - (τ2 29) := by rw [τ110e]; exact rfl
                    have τ110_28 : τ110 28 = (τ2 28) + 1 := by rw [τ110e]; exact rfl
                    have τ110_29 : τ110 29 = τ2 29 := by rw [τ110e]; exact rfl
                    have τ110_30 : τ110 30 = τ2 30 := by rw [τ110e]; exact rfl
                    have τ110_31 : τ110 31 = τ2 31 := by rw [τ110e]; exact rfl
                    have τ110_32 : τ110 32 = τ2 32 := by rw [τ110e]; exact rfl
                    have τ110_33 : τ110 33 = τ2 33 := by rw [τ110e]; exact rfl
                    have τ110_36 : τ110 36 = τ2 36 := by rw [τ110e]; exact rfl
                    show zG C cm107V (3011 - 1) (6340 - 40) 150 [(8, .int (zI (j2))), (7, .int (zI (mz90))), (6, .int (zI (n2))), (5, .int (zI (τ34 29))), (4, .ref hp38q), (3, .int (zI (b))), (2, .int (zI (a))), (1, .int (zI (q))), (0, .ref (c 60))] [.int (zI (τ2 28)), .ref (c 65)]
                    refine zr_aload X 152 4 dX8_pump_150 rfl rfl ?_
                    refine zr_iload X 154 2 dX8_pump_152 rfl rfl ?_
                    refine zr_iinc X 157 2 [(6, .int (zI (n2 + 1))), (8, .int (zI (j2))), (7, .int (zI (mz90))), (5, .int (zI (τ34 29))), (4, .ref hp38q), (3, .int (zI (b))), (2, .int (zI (a))), (1, .int (zI (q))), (0, .ref (c 60))] dX8_pump_154 rfl rfl (by decide) rfl ?_
                    refine zr_iald X 158 lc108 (by omega) dX8_pump_157 rfl ?_
                    have zb111 := zc.b hp38c (n2).toNat
                    obtain ⟨c8112f, c8112, c8112c⟩ := cm107m.2.2.2.2.2.2.1
                    refine zr_iast X 159 c8112 (by omega) dX8_pump_158 rfl ?_
                    obtain ⟨cm113h, cm113f⟩ := cm107m.setSent (f := zf c8112f (τ2 28).toNat (hp38f (n2).toNat)) (zc_zf c8112c (by omega))
                    obtain ⟨cm113V, cm113e⟩ : ∃ zz9 : zV, zz9 = (zu cm107V (c 65) 65 (za Γ.2.1 0 160 (zf c8112f (τ2 28).toNat (hp38f (n2).toNat)))) := ⟨_, rfl⟩
                    have cm113m : zMo Γ cm113V c md (τ110) κ E := by
                      rw [cm113e]
                      exact cm113h
                    have cm113g : zag (fun x => x ≠ 65) cm107V cm113V := by
                      rw [cm113e]
                      exact cm113f
                    refine zr_view (cm113e).symm ?_
                    have lc114 := cm113g _ _ _ lc108 (by omega)
                    have fx115 : zfm V cm113V := zag.tr fx109 (cm113g.mono (fun t ht => by omega))
                    show zG C cm113V (3011 - 1) (6340 - 40) 159 [(6, .int (zI (n2 + 1))), (8, .int (zI (j2))), (7, .int (zI (mz90))), (5, .int (zI (τ34 29))), (4, .ref hp38q), (3, .int (zI (b))), (2, .int (zI (a))), (1, .int (zI (q))), (0, .ref (c 60))] []
                    refine zr_iinc X 162 1 [(8, .int (zI (j2 + 1))), (6, .int (zI (n2 + 1))), (7, .int (zI (mz90))), (5, .int (zI (τ34 29))), (4, .ref hp38q), (3, .int (zI (b))), (2, .int (zI (a))), (1, .int (zI (q))), (0, .ref (c 60))] dX8_pump_159 rfl rfl (by decide) rfl ?_
                    refine zr_goto X 128 dX8_pump_162 rfl ?_
                    refine zr_sub [0, 2, 1, 3, 4, 5, 6, 7, 8] [(8, .int (zI (j2 + 1))), (7, .int (zI (mz90))), (6, .int (zI (n2 + 1))), (5, .int (zI (τ34 29))), (4, .ref hp38q), (3, .int (zI (b))), (2, .int (zI (a))), (1, .int (zI (q))), (0, .ref (c 60))] rfl ?_
                    have ag116 : (∀ j, ¬ (26 ≤ j ∧ j ≤ 29) → j ≠ 30 → j ≠ 33 → j < 36 → τ110 j = τ1 j) := fun j h1 h2 h3 h4 => by
                      rw [τ110e, zmf_ne ⟨h1, by omega⟩]
                      exact hK4 j h1 h2 h3 h4
                    exact ih2 _ (by omega) cm113V τ110 (j2 + 1) (n2 + 1) ⟨cm113m, fx115, lc114, ag116, by omega, by omega, by omega, by omega, by omega, by omega⟩ rfl
                exact loop2 _ V1 τ1 0 nx ⟨hI1, hI2, hI3, fun _ _ _ _ _ => rfl, rfl, by omega, rfl, by omega, by omega, by omega⟩ rfl
          exact loop _ V37 τ34 0 ⟨hp38m, fx39, lc42, fun _ _ _ _ _ => rfl, rfl, by omega, by omega, by omega, by omega⟩ rfl
        · refine zr_aload_n X 61 1 dX8_pump_60 rfl rfl ?_
          refine zr_iconst X 62 dX8_pump_61 rfl ?_
          refine zr_put X 65 9 10 [.ref (md 61), .int (zI (κ 0)), .ref (c 62), .ref (md 63), .ref (md 64), .ref (c 65), .int (zI (τ34 26)), .int (zI (τ34 28)), .int (zI (τ34 29)), .ref (c 66), .int (zI (3))] tyX8 c840 rfl iX8 tyX8_ok nmX8 (by decide) w10 rfl rfl rfl rfl (Nat.le_of_ble_eq_true rfl) rfl dX8_pump_62 rfl ?_
          have th117 := hp38m.setM (τ34 26) (τ34 28) (τ34 29) (3) (by omega)
          rw [zmf_36 (by omega)] at th117
          obtain ⟨cm118h, cm118f⟩ := th117
          obtain ⟨cm118V, cm118e⟩ : ∃ zz9 : zV, zz9 = (zu V37 (c 60) 60 (.inr (9, [.ref (md 61), .int (zI (κ 0)), .ref (c 62), .ref (md 63), .ref (md 64), .ref (c 65), .int (zI (τ34 26)), .int (zI (τ34 28)), .int (zI (τ34 29)), .ref (c 66), .int (zI (3))]))) := ⟨_, rfl⟩
          have cm118m : zMo Γ cm118V c md (zf τ34 36 (3)) κ E := by
            rw [cm118e]
            exact cm118h
          have cm118g : zag (fun x => x ≠ 60) V37 cm118V := by
            rw [cm118e]
            exact cm118f
          refine zr_view (cm118e).symm ?_
          have lc119 := cm118g _ _ _ hp38h (by omega)
          have fx120 : zfm V cm118V := zag.tr fx39 (cm118g.mono (fun t ht => by omega))
          obtain ⟨τ121, τ121e⟩ : ∃ zz9 : Nat → Int, zz9 = zf τ34 36 (3) := ⟨_, rfl⟩
          rw [← τ121e] at cm118m
          have τ121_24 : τ121 24 = τ34 24 := by rw [τ121e]; exact rfl
          have τ121_25 : τ121 25 = τ34 25 := by rw [τ121e]; exact rfl
          have τ121_26 : τ121 26 = τ34 26 := by rw [τ121e]; exact rfl
          have τ121_27 : τ121 27 = τ34 27 := by rw [τ121e]; exact rfl
          have τ121_28 : τ121 28 = τ34 28 := by rw [τ121e]; exact rfl
          have τ121_29 : τ121 29 = τ34 29 := by rw [τ121e]; exact rfl
          have τ121_30 : τ121 30 = τ34 30 := by rw [τ121e]; exact rfl
          have τ121_31 : τ121 31 = τ34 31 := by rw [τ121e]; exact rfl
          have τ121_32 : τ121 32 = τ34 32 := by rw [τ121e]; exact rfl
          have τ121_33 : τ121 33 = τ34 33 := by rw [τ121e]; exact rfl
          have τ121_36 : τ121 36 = 3 := by rw [τ121e]; exact rfl
          show zG C cm118V (3011 - 1) (6340 - 40) 65 [(4, .ref hp38q), (0, .ref (c 60)), (1, .int (zI (q))), (2, .int (zI (a))), (3, .int (zI (b)))] []
          refine zr_ldcS X 67 6 rfl dX8_pump_65 rfl ?_
          exact zr_aret X rfl (Or.inl ⟨_, rfl⟩) ⟨Γ.2.2.1 6, md, τ121, κ, rfl, cm118m.le (by omega), fx120, (fun j h1 h2 h3 h4 => by rw [τ121e, zf_ne (by omega), τ34e, zf_ne (by omega)]), by omega⟩ dX8_pump_67
    · refine zr_iconst X 26 dX8_pump_25 rfl ?_
      refine zr_goto X 30 dX8_pump_26 rfl ?_
      refine zr_callVe (kc' := 3011) (ks' := 6340) X 33 2 (m_X8_isThrown l Γ hM (a := no5) (b := 1) (by omega) (by omega)) gX8_pump_X8_isThrown rfl (by decide +kernel) rfl (by decide) ⟨_, _, hM.1⟩ rfl rfl (Nat.le_of_ble_eq_true rfl) dX8_pump_30 rfl (by omega) (by omega) (fun rv122 V123 hp124 => ?_)
      obtain ⟨⟨hp124x, hp124k, hp124e, hp124c, hp124m⟩, hp124g⟩ := hp124
      rw [hp124e]
      rcases hp124c with ⟨tc125a, tc125k, tc125x⟩ | ⟨tc125a, tc125b, tc125k, tc125x⟩ | ⟨tc125a, tc125b, tc125k, tc125x⟩
      · skip
        subst tc125k tc125x
        have fx126 : zfm V V123 := (hp124g.mono (fun t ht => by omega))
        obtain ⟨τ127, τ127e⟩ : ∃ zz9 : Nat → Int, zz9 = zf τ 36 1 := ⟨_, rfl⟩
        rw [← τ127e] at hp124m
        have τ127_24 : τ127 24 = τ 24 := by rw [τ127e]; exact rfl
        have τ127_25 : τ127 25 = τ 25 := by rw [τ127e]; exact rfl
        have τ127_26 : τ127 26 = τ 26 := by rw [τ127e]; exact rfl
        have τ127_27 : τ127 27 = τ 27 := by rw [τ127e]; exact rfl
        have τ127_28 : τ127 28 = τ 28 := by rw [τ127e]; exact rfl
        have τ127_29 : τ127 29 = τ 29 := by rw [τ127e]; exact rfl
        have τ127_30 : τ127 30 = τ 30 := by rw [τ127e]; exact rfl
        have τ127_31 : τ127 31 = τ 31 := by rw [τ127e]; exact rfl
        have τ127_32 : τ127 32 = τ 32 := by rw [τ127e]; exact rfl
        have τ127_33 : τ127 33 = τ 33 := by rw [τ127e]; exact rfl
        have τ127_36 : τ127 36 = 1 := by rw [τ127e]; exact rfl
        show zG C V123 3011 6340 33 [(0, .ref (c 60)), (1, .int (zI (q))), (2, .int (zI (a))), (3, .int (zI (b)))] [.int (zI (1))]
        refine zr_if_eq X 39 36 dX8_pump_33 rfl rfl (by omega) (fun bq128 => absurd bq128 (by omega)) (fun bq128 => ?_)
        refine zr_ldcS X 38 6 rfl dX8_pump_36 rfl ?_
        exact zr_aret X rfl (Or.inl ⟨_, rfl⟩) ⟨Γ.2.2.1 6, md, τ127, κ, rfl, hp124m.le (by omega), fx126, (fun j h1 h2 h3 h4 => by rw [τ127e, zf_ne (by omega)]), by omega⟩ dX8_pump_38
      · skip
        subst tc125k tc125x
        have fx129 : zfm V V123 := (hp124g.mono (fun t ht => by omega))
        obtain ⟨τ130, τ130e⟩ : ∃ zz9 : Nat → Int, zz9 = zf τ 36 2 := ⟨_, rfl⟩
        rw [← τ130e] at hp124m
        have τ130_24 : τ130 24 = τ 24 := by rw [τ130e]; exact rfl
        have τ130_25 : τ130 25 = τ 25 := by rw [τ130e]; exact rfl
        have τ130_26 : τ130 26 = τ 26 := by rw [τ130e]; exact rfl
        have τ130_27 : τ130 27 = τ 27 := by rw [τ130e]; exact rfl
        have τ130_28 : τ130 28 = τ 28 := by rw [τ130e]; exact rfl
        have τ130_29 : τ130 29 = τ 29 := by rw [τ130e]; exact rfl
        have τ130_30 : τ130 30 = τ 30 := by rw [τ130e]; exact rfl
        have τ130_31 : τ130 31 = τ 31 := by rw [τ130e]; exact rfl
        have τ130_32 : τ130 32 = τ 32 := by rw [τ130e]; exact rfl
        have τ130_33 : τ130 33 = τ 33 := by rw [τ130e]; exact rfl
        have τ130_36 : τ130 36 = 2 := by rw [τ130e]; exact rfl
        show zG C V123 3011 6340 33 [(0, .ref (c 60)), (1, .int (zI (q))), (2, .int (zI (a))), (3, .int (zI (b)))] [.int (zI (1))]
        refine zr_if_eq X 39 36 dX8_pump_33 rfl rfl (by omega) (fun bq131 => absurd bq131 (by omega)) (fun bq131 => ?_)
        refine zr_ldcS X 38 6 rfl dX8_pump_36 rfl ?_
        exact zr_aret X rfl (Or.inl ⟨_, rfl⟩) ⟨Γ.2.2.1 6, md, τ130, κ, rfl, hp124m.le (by omega), fx129, (fun j h1 h2 h3 h4 => by rw [τ130e, zf_ne (by omega)]), by omega⟩ dX8_pump_38
      · exact absurd tc125b (by decide)
