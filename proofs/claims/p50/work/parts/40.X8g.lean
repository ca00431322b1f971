/-! the model: pump -/
def zm1 (m a b c : Int) : Prop := m = min a (min b c)
theorem zly_nil {τ : Nat → Int} {B : Nat} {G : Nat → Int} (j : Nat) : τ j = zly τ B (0 : Int).toNat G j := (zly_ne (show ¬ (B ≤ j ∧ j < B + (0 : Int).toNat) by omega)).symm
theorem zly_ext {ta τ2 mid t G : Nat → Int} {B : Nat} {n v p a b d e : Int} (h : ∀ j : Nat, 300 ≤ j → j < 460 → τ2 j = zly ta (300 + B) n.toNat G j) (hn : 0 ≤ n) (hp : p.toNat = B + n.toNat) (em : mid = zmf τ2 a b d e) (et : t = zf mid (300 + p.toNat) v) (hv : v = G n.toNat) : ∀ j : Nat, 300 ≤ j → j < 460 → t j = zly ta (300 + B) (n + 1).toNat G j := by
  intro j h1 h2
  rw [et]
  by_cases c : j = 300 + p.toNat
  · rw [c, zf_eq, hp, show 300 + (B + n.toNat) = 300 + B + n.toNat by omega, zly_at (by omega)]
    exact hv
  · rw [zf_ne c, em, zmf_ne (by omega), h j h1 h2]
    unfold zly
    by_cases c2 : 300 + B ≤ j ∧ j < 300 + B + n.toNat
    · rw [if_pos c2, if_pos ⟨c2.1, by omega⟩]
    · rw [if_neg c2, if_neg (by omega)]
set_option maxRecDepth 100000 in
set_option maxHeartbeats 4000000 in
theorem m_X8_pump (l : Launch) (Γ : zGam) {V : zV} {c md : Nat → Nat} {τ κ : Nat → Int} {E : Int} {q a b : Int} (hM : zMo Γ V c md τ κ E) (hq : -2147483648 ≤ q ∧ q ≤ 2147483647) (ha : -2147483648 ≤ a ∧ a ≤ 2147483647) (hb : -2147483648 ≤ b ∧ b ≤ 2147483647) : zM l Γ 10 yX8_pump wsX8_pump 3011 6340 V [.ref (c 60), .int (zI (q)), .int (zI (a)), .int (zI (b))] (fun rv V' => ∃ (zr : Nat) (md' : Nat → Nat) (τ' κ' : Nat → Int), rv = some (.ref zr) ∧ zMo Γ V' c md' τ' κ' (E + 40) ∧ zfm V V' ∧ ((¬ (0 ≤ q ∧ q ≤ 7) ∧ τ' = zf τ 36 1) ∨ ((0 ≤ q ∧ q ≤ 7) ∧ ¬ (1 ≤ a ∧ a ≤ 8 ∧ 1 ≤ b ∧ b ≤ 8) ∧ τ' = zf τ 36 2) ∨ ((0 ≤ q ∧ q ≤ 7 ∧ 1 ≤ a ∧ a ≤ 8 ∧ 1 ≤ b ∧ b ≤ 8) ∧ ¬ ((zf τ 36 0) 28 + zsz (zf τ 36 0) q ≤ 160) ∧ τ' = zf τ 36 3) ∨ ((0 ≤ q ∧ q ≤ 7 ∧ 1 ≤ a ∧ a ≤ 8 ∧ 1 ≤ b ∧ b ≤ 8) ∧ (zf τ 36 0) 28 + zsz (zf τ 36 0) q ≤ 160 ∧ (∀ j, ¬ (26 ≤ j ∧ j ≤ 29) → j ≠ 30 → j ≠ 33 → j ≠ 36 → ¬ (300 ≤ j ∧ j < 460) → τ' j = τ j) ∧ τ' 26 = τ 26 ∧ τ' 30 = τ 30 + 1 ∧ (τ' 27, τ' 28, τ' 29, τ' 33) = zpm a b ((zf τ 36 0) 26) (zsz (zf τ 36 0) q) (zsz (zf τ 36 0) q + (zf τ 36 0) 27).toNat 0 ((zf τ 36 0) 27) ((zf τ 36 0) 28) ((zf τ 36 0) 29) ((zf τ 36 0) 33) ∧ (∀ j : Nat, 300 ≤ j → j < 460 → τ' j = zly (zf τ 36 0) (300 + ((zf τ 36 0) 28).toNat) (τ' 28 - (zf τ 36 0) 28).toNat (zsg (zf τ 36 0) q) j)))) := by
  have w0 : Cond.fieldLink RX8 129 "SashwordsModel" "in" "I" ∈ wsX8_pump := by decide +kernel
  have iX8 : ∀ w ∈ u_ws RX8 TX8 11, w ∈ wsX8_pump := by decide +kernel
  have w2 : Cond.fieldLink RX8 132 "SashwordsModel" "out" "I" ∈ wsX8_pump := by decide +kernel
  have w3 : Cond.fieldLink RX8 27 "SashwordsModel" "size" "I" ∈ wsX8_pump := by decide +kernel
  have w4 : Cond.methodLink RX8 97 Lib.Math.min.name ∈ wsX8_pump := by decide +kernel
  have w5 : Cond.static Lib.Math.min.name ∈ wsX8_pump := by decide +kernel
  have w6 : Cond.initialized "java/lang/Math" ∈ wsX8_pump := by decide +kernel
  have w7 : Cond.code Lib.Math.min.name Lib.Math.min.code 2 (some .int) ∈ wsX8_pump := by decide +kernel
  have w8 : Cond.fieldLink RX8 31 "SashwordsModel" "tallies" "[I" ∈ wsX8_pump := by decide +kernel
  have w9 : Cond.fieldLink RX8 24 "SashwordsModel" "sent" "[I" ∈ wsX8_pump := by decide +kernel
  have w10 : Cond.fieldLink RX8 38 "SashwordsModel" "thrown" "I" ∈ wsX8_pump := by decide +kernel
  refine zM_of (cc := cX8_pump) (nL := 9) (ret := (some (.object "java/lang/String"))) (own := RX8) (by decide +kernel) rfl rfl (Nat.le_of_ble_eq_true rfl) (fun C X hi0 => ?_)
  have nn1 : (0 ≤ κ 0 ∧ κ 0 ≤ κ 1 ∧ κ 0 ≤ E ∧ κ 1 ≤ 7000) ∧ (0 ≤ τ 24 ∧ τ 24 ≤ 80 ∧ 0 ≤ τ 25 ∧ τ 25 ≤ 80) ∧ 1 ≤ τ 26 ∧ τ 26 ≤ 8 ∧ 0 ≤ τ 29 ∧ τ 29 ≤ τ 28 ∧ τ 28 ≤ 160 ∧ τ 27 ≤ τ 26 ∧ τ 27 = τ 28 - τ 29 := hM.n
  show zG C V 3011 6340 0 [(0, .ref (c 60)), (1, .int (zI (q))), (2, .int (zI (a))), (3, .int (zI (b)))] []
  refine zr_aload_n X 1 0 dX8_pump_0 rfl rfl ?_
  refine zr_iload_n X 2 1 dX8_pump_1 rfl rfl ?_
  refine zr_callS (kc' := 3011) (ks' := 6340) X 5 1 (m_X8_isNoSource l Γ (V := V) (x := q) (by omega)) gX8_pump_X8_isNoSource rfl (by decide +kernel) rfl (by decide) rfl (Nat.le_of_ble_eq_true rfl) dX8_pump_2 rfl (by omega) (by omega) (fun rv2 V3 hp4 => ?_)
  obtain ⟨⟨no5, no5e, no5a⟩, no5v⟩ := hp4
  rw [no5e, no5v]
  show zG C V 3011 6340 5 [(0, .ref (c 60)), (1, .int (zI (q))), (2, .int (zI (a))), (3, .int (zI (b)))] [.int (zI (no5)), .ref (c 60)]
  refine zr_iload_n X 6 2 dX8_pump_5 rfl rfl ?_
  refine zr_iconst X 7 dX8_pump_6 rfl ?_
  refine zr_bipush X 9 (8) dX8_pump_7 rfl (by decide) ?_
  refine zr_callS (kc' := 3011) (ks' := 6340) X 12 3 (m_X8_isNo l Γ (V := V) (x := a) (a := 1) (b := 8) (by omega) (by omega) (by omega)) gX8_pump_X8_isNo rfl (by decide +kernel) rfl (by decide) rfl (Nat.le_of_ble_eq_true rfl) dX8_pump_9 rfl (by omega) (by omega) (fun rv6 V7 hp8 => ?_)
  obtain ⟨⟨no9, no9e, no9a⟩, no9v⟩ := hp8
  rw [no9e, no9v]
  show zG C V 3011 6340 12 [(0, .ref (c 60)), (1, .int (zI (q))), (2, .int (zI (a))), (3, .int (zI (b)))] [.int (zI (no9)), .int (zI (no5)), .ref (c 60)]
  refine zr_if_ne X 25 15 dX8_pump_12 rfl rfl (by omega) (fun bq10 => ?_) (fun bq10 => ?_)
  · refine zr_iconst X 26 dX8_pump_25 rfl ?_
    refine zr_goto X 30 dX8_pump_26 rfl ?_
    refine zr_callVe (kc' := 3011) (ks' := 6340) X 33 2 (m_X8_isThrown l Γ hM (a := no5) (b := 1) (by omega) (by omega)) gX8_pump_X8_isThrown rfl (by decide +kernel) rfl (by decide) ⟨_, _, hM.1⟩ rfl rfl (Nat.le_of_ble_eq_true rfl) dX8_pump_30 rfl (by omega) (by omega) (fun rv11 V12 hp13 => ?_)
    obtain ⟨⟨hp13x, hp13k, hp13e, hp13c, hp13m⟩, hp13g⟩ := hp13
    rw [hp13e]
    rcases hp13c with ⟨tc14a, tc14k, tc14x⟩ | ⟨tc14a, tc14b, tc14k, tc14x⟩ | ⟨tc14a, tc14b, tc14k, tc14x⟩
    · skip
      subst tc14k tc14x
      have fx15 : zfm V V12 := (hp13g.mono (fun t ht => by omega))
      obtain ⟨τ16, τ16e⟩ : ∃ zz9 : Nat → Int, zz9 = zf τ 36 1 := ⟨_, rfl⟩
      rw [← τ16e] at hp13m
      have τ16_24 : τ16 24 = τ 24 := by rw [τ16e]; exact rfl
      have τ16_25 : τ16 25 = τ 25 := by rw [τ16e]; exact rfl
      have τ16_26 : τ16 26 = τ 26 := by rw [τ16e]; exact rfl
      have τ16_27 : τ16 27 = τ 27 := by rw [τ16e]; exact rfl
      have τ16_28 : τ16 28 = τ 28 := by rw [τ16e]; exact rfl
      have τ16_29 : τ16 29 = τ 29 := by rw [τ16e]; exact rfl
      have τ16_30 : τ16 30 = τ 30 := by rw [τ16e]; exact rfl
      have τ16_31 : τ16 31 = τ 31 := by rw [τ16e]; exact rfl
      have τ16_32 : τ16 32 = τ 32 := by rw [τ16e]; exact rfl
      have τ16_33 : τ16 33 = τ 33 := by rw [τ16e]; exact rfl
      have τ16_36 : τ16 36 = 1 := by rw [τ16e]; exact rfl
      show zG C V12 3011 6340 33 [(0, .ref (c 60)), (1, .int (zI (q))), (2, .int (zI (a))), (3, .int (zI (b)))] [.int (zI (1))]
      refine zr_if_eq X 39 36 dX8_pump_33 rfl rfl (by omega) (fun bq17 => absurd bq17 (by omega)) (fun bq17 => ?_)
      refine zr_ldcS X 38 6 rfl dX8_pump_36 rfl ?_
      exact zr_aret X rfl (Or.inl ⟨_, rfl⟩) ⟨Γ.2.2.1 6, md, τ16, κ, rfl, hp13m.le (by omega), fx15, Or.inl ⟨by omega, τ16e⟩⟩ dX8_pump_38
    · skip
      subst tc14k tc14x
      have fx18 : zfm V V12 := (hp13g.mono (fun t ht => by omega))
      obtain ⟨τ19, τ19e⟩ : ∃ zz9 : Nat → Int, zz9 = zf τ 36 2 := ⟨_, rfl⟩
      rw [← τ19e] at hp13m
      have τ19_24 : τ19 24 = τ 24 := by rw [τ19e]; exact rfl
      have τ19_25 : τ19 25 = τ 25 := by rw [τ19e]; exact rfl
      have τ19_26 : τ19 26 = τ 26 := by rw [τ19e]; exact rfl
      have τ19_27 : τ19 27 = τ 27 := by rw [τ19e]; exact rfl
      have τ19_28 : τ19 28 = τ 28 := by rw [τ19e]; exact rfl
      have τ19_29 : τ19 29 = τ 29 := by rw [τ19e]; exact rfl
      have τ19_30 : τ19 30 = τ 30 := by rw [τ19e]; exact rfl
      have τ19_31 : τ19 31 = τ 31 := by rw [τ19e]; exact rfl
      have τ19_32 : τ19 32 = τ 32 := by rw [τ19e]; exact rfl
      have τ19_33 : τ19 33 = τ 33 := by rw [τ19e]; exact rfl
      have τ19_36 : τ19 36 = 2 := by rw [τ19e]; exact rfl
      show zG C V12 3011 6340 33 [(0, .ref (c 60)), (1, .int (zI (q))), (2, .int (zI (a))), (3, .int (zI (b)))] [.int (zI (1))]
      refine zr_if_eq X 39 36 dX8_pump_33 rfl rfl (by omega) (fun bq20 => absurd bq20 (by omega)) (fun bq20 => ?_)
      refine zr_ldcS X 38 6 rfl dX8_pump_36 rfl ?_
      exact zr_aret X rfl (Or.inl ⟨_, rfl⟩) ⟨Γ.2.2.1 6, md, τ19, κ, rfl, hp13m.le (by omega), fx18, Or.inr (Or.inl ⟨by omega, by omega, τ19e⟩)⟩ dX8_pump_38
    · exact absurd tc14b (by decide)
  · refine zr_iload_n X 16 3 dX8_pump_15 rfl rfl ?_
    refine zr_iconst X 17 dX8_pump_16 rfl ?_
    refine zr_bipush X 19 (8) dX8_pump_17 rfl (by decide) ?_
    refine zr_callS (kc' := 3011) (ks' := 6340) X 22 3 (m_X8_isNo l Γ (V := V) (x := b) (a := 1) (b := 8) (by omega) (by omega) (by omega)) gX8_pump_X8_isNo rfl (by decide +kernel) rfl (by decide) rfl (Nat.le_of_ble_eq_true rfl) dX8_pump_19 rfl (by omega) (by omega) (fun rv21 V22 hp23 => ?_)
    obtain ⟨⟨no24, no24e, no24a⟩, no24v⟩ := hp23
    rw [no24e, no24v]
    show zG C V 3011 6340 22 [(0, .ref (c 60)), (1, .int (zI (q))), (2, .int (zI (a))), (3, .int (zI (b)))] [.int (zI (no24)), .int (zI (no5)), .ref (c 60)]
    refine zr_if_eq X 29 25 dX8_pump_22 rfl rfl (by omega) (fun bq25 => ?_) (fun bq25 => ?_)
    · refine zr_iconst X 30 dX8_pump_29 rfl ?_
      refine zr_callVe (kc' := 3011) (ks' := 6340) X 33 2 (m_X8_isThrown l Γ hM (a := no5) (b := 0) (by omega) (by omega)) gX8_pump_X8_isThrown rfl (by decide +kernel) rfl (by decide) ⟨_, _, hM.1⟩ rfl rfl (Nat.le_of_ble_eq_true rfl) dX8_pump_30 rfl (by omega) (by omega) (fun rv26 V27 hp28 => ?_)
      obtain ⟨⟨hp28x, hp28k, hp28e, hp28c, hp28m⟩, hp28g⟩ := hp28
      rw [hp28e]
      rcases hp28c with ⟨tc29a, tc29k, tc29x⟩ | ⟨tc29a, tc29b, tc29k, tc29x⟩ | ⟨tc29a, tc29b, tc29k, tc29x⟩
      · skip
        subst tc29k tc29x
        have fx30 : zfm V V27 := (hp28g.mono (fun t ht => by omega))
        obtain ⟨τ31, τ31e⟩ : ∃ zz9 : Nat → Int, zz9 = zf τ 36 1 := ⟨_, rfl⟩
        rw [← τ31e] at hp28m
        have τ31_24 : τ31 24 = τ 24 := by rw [τ31e]; exact rfl
        have τ31_25 : τ31 25 = τ 25 := by rw [τ31e]; exact rfl
        have τ31_26 : τ31 26 = τ 26 := by rw [τ31e]; exact rfl
        have τ31_27 : τ31 27 = τ 27 := by rw [τ31e]; exact rfl
        have τ31_28 : τ31 28 = τ 28 := by rw [τ31e]; exact rfl
        have τ31_29 : τ31 29 = τ 29 := by rw [τ31e]; exact rfl
        have τ31_30 : τ31 30 = τ 30 := by rw [τ31e]; exact rfl
        have τ31_31 : τ31 31 = τ 31 := by rw [τ31e]; exact rfl
        have τ31_32 : τ31 32 = τ 32 := by rw [τ31e]; exact rfl
        have τ31_33 : τ31 33 = τ 33 := by rw [τ31e]; exact rfl
        have τ31_36 : τ31 36 = 1 := by rw [τ31e]; exact rfl
        show zG C V27 3011 6340 33 [(0, .ref (c 60)), (1, .int (zI (q))), (2, .int (zI (a))), (3, .int (zI (b)))] [.int (zI (1))]
        refine zr_if_eq X 39 36 dX8_pump_33 rfl rfl (by omega) (fun bq32 => absurd bq32 (by omega)) (fun bq32 => ?_)
        refine zr_ldcS X 38 6 rfl dX8_pump_36 rfl ?_
        exact zr_aret X rfl (Or.inl ⟨_, rfl⟩) ⟨Γ.2.2.1 6, md, τ31, κ, rfl, hp28m.le (by omega), fx30, Or.inl ⟨by omega, τ31e⟩⟩ dX8_pump_38
      · exact absurd tc29b (by decide)
      · skip
        subst tc29k tc29x
        have fx33 : zfm V V27 := (hp28g.mono (fun t ht => by omega))
        obtain ⟨τ34, τ34e⟩ : ∃ zz9 : Nat → Int, zz9 = zf τ 36 0 := ⟨_, rfl⟩
        rw [← τ34e] at hp28m
        have τ34_24 : τ34 24 = τ 24 := by rw [τ34e]; exact rfl
        have τ34_25 : τ34 25 = τ 25 := by rw [τ34e]; exact rfl
        have τ34_26 : τ34 26 = τ 26 := by rw [τ34e]; exact rfl
        have τ34_27 : τ34 27 = τ 27 := by rw [τ34e]; exact rfl
        have τ34_28 : τ34 28 = τ 28 := by rw [τ34e]; exact rfl
        have τ34_29 : τ34 29 = τ 29 := by rw [τ34e]; exact rfl
        have τ34_30 : τ34 30 = τ 30 := by rw [τ34e]; exact rfl
        have τ34_31 : τ34 31 = τ 31 := by rw [τ34e]; exact rfl
        have τ34_32 : τ34 32 = τ 32 := by rw [τ34e]; exact rfl
        have τ34_33 : τ34 33 = τ 33 := by rw [τ34e]; exact rfl
        have τ34_36 : τ34 36 = 0 := by rw [τ34e]; exact rfl
        show zG C V27 3011 6340 33 [(0, .ref (c 60)), (1, .int (zI (q))), (2, .int (zI (a))), (3, .int (zI (b)))] [.int (zI (0))]
        refine zr_if_eq X 39 36 dX8_pump_33 rfl rfl (by omega) (fun bq35 => ?_) (fun bq35 => absurd bq35 (by omega))
        refine zr_aload_n X 40 0 dX8_pump_39 rfl rfl ?_
        refine zr_iload_n X 41 1 dX8_pump_40 rfl rfl ?_
        refine zr_callVe (kc' := (3011 - 1)) (ks' := (6340 - 40)) X 44 1 (m_X8_textOf l Γ (tg := 76) (q := q) hp28m (by omega)) gX8_pump_X8_textOf rfl (by decide +kernel) rfl (by decide) ⟨_, _, hp28m.1⟩ rfl rfl (Nat.le_of_ble_eq_true rfl) dX8_pump_41 rfl (by omega) (by omega) (fun rv36 V37 hp38 => ?_)
        obtain ⟨hp38q, hp38t, hp38f, hp38e, hp38h, hp38c, hp38a, hp38n1, hp38n2, hp38g, hp38z⟩ := hp38
        rw [hp38e]
        have hp38m := hp28m.kept hp38g (fun _ _ _ => trivial)
        have fx39 : zfm V V37 := zag.tr fx33 (hp38g.mono (fun _ _ => trivial))
        show zG C V37 (3011 - 1) (6340 - 40) 44 [(0, .ref (c 60)), (1, .int (zI (q))), (2, .int (zI (a))), (3, .int (zI (b)))] [.ref hp38q]
        refine zr_astore X 46 [(4, .ref hp38q), (0, .ref (c 60)), (1, .int (zI (q))), (2, .int (zI (a))), (3, .int (zI (b)))] dX8_pump_44 rfl (by decide) rfl ?_
        refine zr_aload_n X 47 1 dX8_pump_46 rfl rfl ?_
        have c840 : V37 (c 60) = some (60, .inr (9, [.ref (md 61), .int (zI (κ 0)), .ref (c 62), .ref (md 63), .ref (md 64), .ref (c 65), .int (zI (τ34 26)), .int (zI (τ34 28)), .int (zI (τ34 29)), .ref (c 66), .int (zI (τ34 36))])) := hp38m.1
        refine zr_get X 50 9 7 c840 rfl iX8 (by decide) w0 rfl rfl dX8_pump_47 rfl ?_
        refine zr_aload X 52 0 dX8_pump_50 rfl rfl ?_
        refine zr_alen X 53 0 hp38h (by decide) dX8_pump_52 rfl ?_
        refine zr_iadd X 54 dX8_pump_53 rfl ?_
        refine zr_sipush X 57 (160) dX8_pump_54 rfl (by decide) ?_
        refine zr_icmp_le X 68 60 dX8_pump_57 rfl rfl (by omega) (by omega) (fun bq41 => ?_) (fun bq41 => ?_)
        · refine zr_aload_n X 69 1 dX8_pump_68 rfl rfl ?_
          refine zr_get X 72 9 8 c840 rfl iX8 (by decide) w2 rfl rfl dX8_pump_69 rfl ?_
          refine zr_istore X 74 [(5, .int (zI (τ34 29))), (4, .ref hp38q), (0, .ref (c 60)), (1, .int (zI (q))), (2, .int (zI (a))), (3, .int (zI (b)))] dX8_pump_72 rfl (by decide) rfl ?_
          refine zr_iconst X 75 dX8_pump_74 rfl ?_
          refine zr_istore X 77 [(6, .int (zI (0))), (5, .int (zI (τ34 29))), (4, .ref hp38q), (0, .ref (c 60)), (1, .int (zI (q))), (2, .int (zI (a))), (3, .int (zI (b)))] dX8_pump_75 rfl (by decide) rfl ?_
          obtain ⟨ln, lne⟩ : ∃ z9 : Nat, z9 = (zsz τ34 q).toNat := ⟨_, rfl⟩
          have hln : ln ≤ 80 ∧ 1 ≤ a ∧ a ≤ 8 ∧ 1 ≤ b ∧ b ≤ 8 ∧ 0 ≤ τ34 29 ∧ τ34 29 ≤ τ34 28 ∧ τ34 28 + ln ≤ 160 ∧ τ34 26 = τ 26 ∧ 0 ≤ q ∧ q ≤ 7 ∧ (ln : Int) = zsz τ34 q ∧ τ34 27 = τ34 28 - τ34 29 := by omega
          have lc42 := hp38h
          rw [← lne] at lc42
          have hsg : ∀ k : Nat, k < ln → hp38f k = zsg τ34 q k := fun k hk => hp38z k (by omega)
          refine zr_sub [0, 1, 2, 6, 5, 4, 3] [(6, .int (zI (0))), (5, .int (zI (τ34 29))), (4, .ref hp38q), (3, .int (zI (b))), (2, .int (zI (a))), (1, .int (zI (q))), (0, .ref (c 60))] rfl ?_
          have loop : ∀ (N : Nat) (V1 : zV) (τ1 : Nat → Int) (nx : Int), zMo Γ V1 c md τ1 κ E ∧ zfm V V1 ∧ V1 hp38q = some (hp38t, za Γ.2.1 0 ln hp38f) ∧ (∀ j, ¬ (26 ≤ j ∧ j ≤ 29) → j ≠ 33 → j ≠ 36 → ¬ (300 ≤ j ∧ j < 460) → τ1 j = τ34 j) ∧ τ1 26 = τ34 26 ∧ 0 ≤ nx ∧ nx ≤ ((ln : Nat) : Int) ∧ τ1 28 + (((ln : Nat) : Int) - nx) ≤ 160 ∧ τ34 29 ≤ τ1 29 ∧ (∃ F : Nat, (ln : Int) - nx + τ1 27 ≤ (F : Int) ∧ zpm a b (τ34 26) (ln : Int) F nx (τ1 27) (τ1 28) (τ1 29) (τ1 33) = zpm a b (τ34 26) (ln : Int) ((ln : Int) + τ34 27).toNat 0 (τ34 27) (τ34 28) (τ34 29) (τ34 33)) ∧ (∀ j : Nat, 300 ≤ j → j < 460 → τ1 j = zly τ34 (300 + (τ34 28).toNat) (nx).toNat (zsg τ34 q) j) ∧ τ1 28 = τ34 28 + nx → (2 * (((ln : Nat) : Int) - nx) + (τ1 28 - τ1 29)).toNat = N → zG C V1 (3011 - 1) (6340 - 40) 77 [(6, .int (zI (nx))), (5, .int (zI (τ34 29))), (4, .ref hp38q), (3, .int (zI (b))), (2, .int (zI (a))), (1, .int (zI (q))), (0, .ref (c 60))] [] := by
            intro N
            induction N using Nat.strongRecOn with
            | _ N ih =>
            intro V1 τ1 nx hI hN
            obtain ⟨hI1, hI2, hI3, hI4, hI5, hI6, hI7, hI8, hI9, ⟨hF, hF1, hF2⟩, hI11, hI12⟩ := id hI
            try clear nn1
            try clear no5a
            try clear no9a
            try clear bq10
            try clear tc14a
            try clear tc14b
            try clear τ16_24
            try clear τ16_25
            try clear τ16_26
            try clear τ16_27
            try clear τ16_28
            try clear τ16_29
            try clear τ16_30
            try clear τ16_31
            try clear τ16_32
            try clear τ16_33
            try clear τ16_36
            try clear bq17
            try clear τ19_24
            try clear τ19_25
            try clear τ19_26
            try clear τ19_27
            try clear τ19_28
            try clear τ19_29
            try clear τ19_30
            try clear τ19_31
            try clear τ19_32
            try clear τ19_33
            try clear τ19_36
            try clear bq20
            try clear no24a
            try clear bq25
            try clear tc29a
            try clear tc29b
            try clear τ31_24
            try clear τ31_25
            try clear τ31_26
            try clear τ31_27
            try clear τ31_28
            try clear τ31_29
            try clear τ31_30
            try clear τ31_31
            try clear τ31_32
            try clear τ31_33
            try clear τ31_36
            try clear bq32
            try clear τ34_24
            try clear τ34_25
            try clear τ34_26
            try clear τ34_27
            try clear τ34_28
            try clear τ34_29
            try clear τ34_30
            try clear τ34_31
            try clear τ34_32
            try clear τ34_33
            try clear τ34_36
            try clear bq35
            try clear hp38n1
            try clear hp38n2
            try clear bq41
            try clear lne
            have nn43 : (0 ≤ κ 0 ∧ κ 0 ≤ κ 1 ∧ κ 0 ≤ E ∧ κ 1 ≤ 7000) ∧ (0 ≤ τ1 24 ∧ τ1 24 ≤ 80 ∧ 0 ≤ τ1 25 ∧ τ1 25 ≤ 80) ∧ 1 ≤ τ1 26 ∧ τ1 26 ≤ 8 ∧ 0 ≤ τ1 29 ∧ τ1 29 ≤ τ1 28 ∧ τ1 28 ≤ 160 ∧ τ1 27 ≤ τ1 26 ∧ τ1 27 = τ1 28 - τ1 29 := hI1.n
            refine zr_iload X 79 0 dX8_pump_77 rfl rfl ?_
            refine zr_aload X 81 2 dX8_pump_79 rfl rfl ?_
            refine zr_alen X 82 0 hI3 (by decide) dX8_pump_81 rfl ?_
            refine zr_icmp_lt X 96 85 dX8_pump_82 rfl rfl (by omega) (by omega) (fun bq44 => ?_) (fun bq44 => ?_)
            · refine zr_iload_n X 97 4 dX8_pump_96 rfl rfl ?_
              refine zr_aload X 99 2 dX8_pump_97 rfl rfl ?_
              refine zr_alen X 100 0 hI3 (by decide) dX8_pump_99 rfl ?_
              refine zr_iload X 102 0 dX8_pump_100 rfl rfl ?_
              refine zr_isub X 103 dX8_pump_102 rfl ?_
              refine zr_aload_n X 104 6 dX8_pump_103 rfl rfl ?_
              have c845 : V1 (c 60) = some (60, .inr (9, [.ref (md 61), .int (zI (κ 0)), .ref (c 62), .ref (md 63), .ref (md 64), .ref (c 65), .int (zI (τ1 26)), .int (zI (τ1 28)), .int (zI (τ1 29)), .ref (c 66), .int (zI (τ1 36))])) := hI1.1
              refine zr_get X 107 9 6 c845 rfl iX8 (by decide) w3 rfl rfl dX8_pump_104 rfl ?_
              refine zr_aload_n X 108 6 dX8_pump_107 rfl rfl ?_
              refine zr_get X 111 9 7 c845 rfl iX8 (by decide) w0 rfl rfl dX8_pump_108 rfl ?_
              refine zr_aload_n X 112 6 dX8_pump_111 rfl rfl ?_
              refine zr_get X 115 9 8 c845 rfl iX8 (by decide) w2 rfl rfl dX8_pump_112 rfl ?_
              refine zr_isub X 116 dX8_pump_115 rfl ?_
              refine zr_isub X 117 dX8_pump_116 rfl ?_
              obtain ⟨mz46, mz46e, mz46a⟩ : ∃ z9 : Int, z9 = (if (τ1 26) - ((τ1 28) - (τ1 29)) < ((ln : Nat) - nx : Int) then (τ1 26) - ((τ1 28) - (τ1 29)) else ((ln : Nat) - nx : Int)) ∧ (((τ1 26) - ((τ1 28) - (τ1 29)) < ((ln : Nat) - nx : Int) ∧ z9 = (τ1 26) - ((τ1 28) - (τ1 29))) ∨ (¬ (τ1 26) - ((τ1 28) - (τ1 29)) < ((ln : Nat) - nx : Int) ∧ z9 = ((ln : Nat) - nx : Int))) := zmine _ _
              refine zr_mmin X 120 (mz46) w4 w5 w6 w7 (by decide) (Nat.le_of_ble_eq_true rfl) (by omega) (by omega) mz46e dX8_pump_117 rfl ?_
              clear mz46e
              obtain ⟨mz47, mz47e, mz47a⟩ : ∃ z9 : Int, z9 = (if mz46 < a then mz46 else a) ∧ ((mz46 < a ∧ z9 = mz46) ∨ (¬ mz46 < a ∧ z9 = a)) := zmine _ _
              refine zr_mmin X 123 (mz47) w4 w5 w6 w7 (by decide) (Nat.le_of_ble_eq_true rfl) (by omega) (by omega) mz47e dX8_pump_120 rfl ?_
              clear mz47e
              refine zr_istore X 125 [(7, .int (zI (mz47))), (6, .int (zI (nx))), (5, .int (zI (τ34 29))), (4, .ref hp38q), (3, .int (zI (b))), (2, .int (zI (a))), (1, .int (zI (q))), (0, .ref (c 60))] dX8_pump_123 rfl (by decide) rfl ?_
              refine zr_iconst X 126 dX8_pump_125 rfl ?_
              refine zr_istore X 128 [(8, .int (zI (0))), (7, .int (zI (mz47))), (6, .int (zI (nx))), (5, .int (zI (τ34 29))), (4, .ref hp38q), (3, .int (zI (b))), (2, .int (zI (a))), (1, .int (zI (q))), (0, .ref (c 60))] dX8_pump_126 rfl (by decide) rfl ?_
              have hmz : 0 ≤ mz47 ∧ mz47 ≤ (ln : Int) - nx ∧ mz47 ≤ τ1 26 - (τ1 28 - τ1 29) ∧ (mz47 ≤ 0 → τ1 29 < τ1 28) := by omega
              have hmn : zm1 mz47 a ((ln : Int) - nx) (τ1 26 - (τ1 28 - τ1 29)) := by
                unfold zm1
                omega
              have hr1 : 1 ≤ τ1 26 ∧ τ1 26 ≤ 8 ∧ 0 ≤ τ1 29 ∧ τ1 29 ≤ τ1 28 ∧ τ1 28 ≤ 160 ∧ τ1 27 = τ1 28 - τ1 29 := by omega
              have loop2 : ∀ (N : Nat) (V2 : zV) (τ2 : Nat → Int) (j2 : Int) (n2 : Int), zMo Γ V2 c md τ2 κ E ∧ zfm V V2 ∧ V2 hp38q = some (hp38t, za Γ.2.1 0 ln hp38f) ∧ (∀ j, ¬ (26 ≤ j ∧ j ≤ 29) → j ≠ 33 → j ≠ 36 → ¬ (300 ≤ j ∧ j < 460) → τ2 j = τ1 j) ∧ τ2 26 = τ1 26 ∧ τ2 28 = τ1 28 + j2 ∧ τ2 29 = τ1 29 ∧ 0 ≤ j2 ∧ (j2 ≤ mz47 ∨ j2 = 0) ∧ n2 = nx + j2 ∧ τ2 33 = τ1 33 ∧ (∀ j : Nat, 300 ≤ j → j < 460 → τ2 j = zly τ34 (300 + (τ34 28).toNat) (n2).toNat (zsg τ34 q) j) → (mz47 - j2).toNat = N → zG C V2 (3011 - 1) (6340 - 40) 128 [(8, .int (zI (j2))), (7, .int (zI (mz47))), (6, .int (zI (n2))), (5, .int (zI (τ34 29))), (4, .ref hp38q), (3, .int (zI (b))), (2, .int (zI (a))), (1, .int (zI (q))), (0, .ref (c 60))] [] := by
                intro N2
                induction N2 using Nat.strongRecOn with
                | _ N2 ih2 =>
                intro V2 τ2 j2 n2 hI2 hN2
                obtain ⟨hK1, hK2, hK3, hK4, hK5, hK6, hK7, hK8, hK9, hK10, hK11, hK12⟩ := id hI2
                try clear nn1
                try clear no5a
                try clear no9a
                try clear bq10
                try clear tc14a
                try clear tc14b
                try clear τ16_24
                try clear τ16_25
                try clear τ16_26
                try clear τ16_27
                try clear τ16_28
                try clear τ16_29
                try clear τ16_30
                try clear τ16_31
                try clear τ16_32
                try clear τ16_33
                try clear τ16_36
                try clear bq17
                try clear τ19_24
                try clear τ19_25
                try clear τ19_26
                try clear τ19_27
                try clear τ19_28
                try clear τ19_29
                try clear τ19_30
                try clear τ19_31
                try clear τ19_32
                try clear τ19_33
                try clear τ19_36
                try clear bq20
                try clear no24a
                try clear bq25
                try clear tc29a
                try clear tc29b
                try clear τ31_24
                try clear τ31_25
                try clear τ31_26
                try clear τ31_27
                try clear τ31_28
                try clear τ31_29
                try clear τ31_30
                try clear τ31_31
                try clear τ31_32
                try clear τ31_33
                try clear τ31_36
                try clear bq32
                try clear τ34_24
                try clear τ34_25
                try clear τ34_26
                try clear τ34_27
                try clear τ34_28
                try clear τ34_29
                try clear τ34_30
                try clear τ34_31
                try clear τ34_32
                try clear τ34_33
                try clear τ34_36
                try clear bq35
                try clear hp38n1
                try clear hp38n2
                try clear bq41
                try clear lne
                try clear nn43
                try clear bq44
                try clear mz46a
                try clear mz47a
                have nn48 : (0 ≤ κ 0 ∧ κ 0 ≤ κ 1 ∧ κ 0 ≤ E ∧ κ 1 ≤ 7000) ∧ (0 ≤ τ2 24 ∧ τ2 24 ≤ 80 ∧ 0 ≤ τ2 25 ∧ τ2 25 ≤ 80) ∧ 1 ≤ τ2 26 ∧ τ2 26 ≤ 8 ∧ 0 ≤ τ2 29 ∧ τ2 29 ≤ τ2 28 ∧ τ2 28 ≤ 160 ∧ τ2 27 ≤ τ2 26 ∧ τ2 27 = τ2 28 - τ2 29 := hK1.n
                refine zr_iload X 130 0 dX8_pump_128 rfl rfl ?_
                refine zr_iload X 132 1 dX8_pump_130 rfl rfl ?_
                refine zr_icmp_ge X 165 135 dX8_pump_132 rfl rfl (by omega) (by omega) (fun bq49 => ?_) (fun bq49 => ?_)
                · refine zr_aload_n X 166 8 dX8_pump_165 rfl rfl ?_
                  refine zr_dup X 167 dX8_pump_166 rfl rfl ?_
                  have c850 : V2 (c 60) = some (60, .inr (9, [.ref (md 61), .int (zI (κ 0)), .ref (c 62), .ref (md 63), .ref (md 64), .ref (c 65), .int (zI (τ2 26)), .int (zI (τ2 28)), .int (zI (τ2 29)), .ref (c 66), .int (zI (τ2 36))])) := hK1.1
                  refine zr_get X 170 9 8 c850 rfl iX8 (by decide) w2 rfl rfl dX8_pump_167 rfl ?_
                  refine zr_iload_n X 171 5 dX8_pump_170 rfl rfl ?_
                  refine zr_aload_n X 172 8 dX8_pump_171 rfl rfl ?_
                  refine zr_get X 175 9 7 c850 rfl iX8 (by decide) w0 rfl rfl dX8_pump_172 rfl ?_
                  refine zr_aload_n X 176 8 dX8_pump_175 rfl rfl ?_
                  refine zr_get X 179 9 8 c850 rfl iX8 (by decide) w2 rfl rfl dX8_pump_176 rfl ?_
                  refine zr_isub X 180 dX8_pump_179 rfl ?_
                  obtain ⟨mz51, mz51e, mz51a⟩ : ∃ z9 : Int, z9 = (if (τ2 28) - (τ2 29) < b then (τ2 28) - (τ2 29) else b) ∧ (((τ2 28) - (τ2 29) < b ∧ z9 = (τ2 28) - (τ2 29)) ∨ (¬ (τ2 28) - (τ2 29) < b ∧ z9 = b)) := zmine _ _
                  refine zr_mmin X 183 (mz51) w4 w5 w6 w7 (by decide) (Nat.le_of_ble_eq_true rfl) (by omega) (by omega) mz51e dX8_pump_180 rfl ?_
                  clear mz51e
                  refine zr_iadd X 184 dX8_pump_183 rfl ?_
                  refine zr_put X 187 9 8 [.ref (md 61), .int (zI (κ 0)), .ref (c 62), .ref (md 63), .ref (md 64), .ref (c 65), .int (zI (τ2 26)), .int (zI (τ2 28)), .int (zI ((τ2 29) + mz51)), .ref (c 66), .int (zI (τ2 36))] tyX8 c850 rfl iX8 tyX8_ok nmX8 (by decide) w2 rfl rfl rfl rfl (Nat.le_of_ble_eq_true rfl) rfl dX8_pump_184 rfl ?_
                  obtain ⟨cm52h, cm52f⟩ := hK1.setM (τ2 26) (τ2 28) ((τ2 29) + mz51) (τ2 36) (by omega)
                  obtain ⟨cm52V, cm52e⟩ : ∃ zz9 : zV, zz9 = (zu V2 (c 60) 60 (.inr (9, [.ref (md 61), .int (zI (κ 0)), .ref (c 62), .ref (md 63), .ref (md 64), .ref (c 65), .int (zI (τ2 26)), .int (zI (τ2 28)), .int (zI ((τ2 29) + mz51)), .ref (c 66), .int (zI (τ2 36))]))) := ⟨_, rfl⟩
                  have cm52m : zMo Γ cm52V c md (zmf τ2 (τ2 26) (τ2 28) ((τ2 29) + mz51) (τ2 36)) κ E := by
                    rw [cm52e]
                    exact cm52h
                  have cm52g : zag (fun x => x ≠ 60) V2 cm52V := by
                    rw [cm52e]
                    exact cm52f
                  refine zr_view (cm52e).symm ?_
                  have lc53 := cm52g _ _ _ hK3 (by omega)
                  have fx54 : zfm V cm52V := zag.tr hK2 (cm52g.mono (fun t ht => by omega))
                  obtain ⟨τ55, τ55e⟩ : ∃ zz9 : Nat → Int, zz9 = zmf τ2 (τ2 26) (τ2 28) ((τ2 29) + mz51) (τ2 36) := ⟨_, rfl⟩
                  rw [← τ55e] at cm52m
                  have τ55_24 : τ55 24 = τ2 24 := by rw [τ55e]; exact rfl
                  have τ55_25 : τ55 25 = τ2 25 := by rw [τ55e]; exact rfl
                  have τ55_26 : τ55 26 = τ2 26 := by rw [τ55e]; exact rfl
                  have τ55_27 : τ55 27 = (τ2 28) - ((τ2 29) + mz51) := by rw [τ55e]; exact rfl
                  have τ55_28 : τ55 28 = τ2 28 := by rw [τ55e]; exact rfl
                  have τ55_29 : τ55 29 = (τ2 29) + mz51 := by rw [τ55e]; exact rfl
                  have τ55_30 : τ55 30 = τ2 30 := by rw [τ55e]; exact rfl
                  have τ55_31 : τ55 31 = τ2 31 := by rw [τ55e]; exact rfl
                  have τ55_32 : τ55 32 = τ2 32 := by rw [τ55e]; exact rfl
                  have τ55_33 : τ55 33 = τ2 33 := by rw [τ55e]; exact rfl
                  have τ55_36 : τ55 36 = τ2 36 := by rw [τ55e]; exact rfl
                  show zG C cm52V (3011 - 1) (6340 - 40) 187 [(8, .int (zI (j2))), (7, .int (zI (mz47))), (6, .int (zI (n2))), (5, .int (zI (τ34 29))), (4, .ref hp38q), (3, .int (zI (b))), (2, .int (zI (a))), (1, .int (zI (q))), (0, .ref (c 60))] []
                  refine zr_aload_n X 188 8 dX8_pump_187 rfl rfl ?_
                  have c856 : cm52V (c 60) = some (60, .inr (9, [.ref (md 61), .int (zI (κ 0)), .ref (c 62), .ref (md 63), .ref (md 64), .ref (c 65), .int (zI (τ55 26)), .int (zI (τ55 28)), .int (zI (τ55 29)), .ref (c 66), .int (zI (τ55 36))])) := cm52m.1
                  refine zr_get X 191 9 9 c856 rfl iX8 (by decide) w8 rfl rfl dX8_pump_188 rfl ?_
                  refine zr_iconst X 192 dX8_pump_191 rfl ?_
                  refine zr_dup2 X 193 dX8_pump_192 rfl rfl rfl ?_
                  obtain ⟨c857f, c857, c8570, c8571, c8572, c8573⟩ := cm52m.2.2.2.2.2.2.2.1
                  refine zr_iald X 194 c857 (by omega) dX8_pump_193 rfl ?_
                  show zG C cm52V (3011 - 1) (6340 - 40) 194 [(8, .int (zI (j2))), (7, .int (zI (mz47))), (6, .int (zI (n2))), (5, .int (zI (τ34 29))), (4, .ref hp38q), (3, .int (zI (b))), (2, .int (zI (a))), (1, .int (zI (q))), (0, .ref (c 60))] [.int (zI (c857f (3 : Int).toNat)), .int (zI (3)), .ref (c 66)]
                  refine zr_iconst X 195 dX8_pump_194 rfl ?_
                  refine zr_iadd X 196 dX8_pump_195 rfl ?_
                  refine zr_iast X 197 c857 (by omega) dX8_pump_196 rfl ?_
                  have c857x : c857f (3 : Int).toNat + 1 = τ55 33 + 1 := by
                    show c857f 3 + 1 = τ55 33 + 1
                    rw [c8573]
                  have c857y := cm52m.setTal c857 ⟨c8570, c8571, c8572, c8573⟩ 3 (by decide) (c857f (3 : Int).toNat + 1)
                  rw [show zf τ55 (30 + 3) (c857f (3 : Int).toNat + 1) = zf τ55 (30 + 3) (τ55 33 + 1) by rw [c857x]] at c857y
                  obtain ⟨cm58h, cm58f⟩ := c857y
                  obtain ⟨cm58V, cm58e⟩ : ∃ zz9 : zV, zz9 = (zu cm52V (c 66) 66 (za Γ.2.1 0 4 (zf c857f (3 : Int).toNat ((c857f (3 : Int).toNat) + 1)))) := ⟨_, rfl⟩
                  have cm58m : zMo Γ cm58V c md (zf τ55 33 (τ55 33 + 1)) κ E := by
                    rw [cm58e]
                    exact cm58h
                  have cm58g : zag (fun x => x ≠ 66) cm52V cm58V := by
                    rw [cm58e]
                    exact cm58f
                  refine zr_view (cm58e).symm ?_
                  have lc59 := cm58g _ _ _ lc53 (by omega)
                  have fx60 : zfm V cm58V := zag.tr fx54 (cm58g.mono (fun t ht => by omega))
                  obtain ⟨τ61, τ61e⟩ : ∃ zz9 : Nat → Int, zz9 = zf τ55 33 (τ55 33 + 1) := ⟨_, rfl⟩
                  rw [← τ61e] at cm58m
                  have τ61_24 : τ61 24 = τ55 24 := by rw [τ61e]; exact rfl
                  have τ61_25 : τ61 25 = τ55 25 := by rw [τ61e]; exact rfl
                  have τ61_26 : τ61 26 = τ55 26 := by rw [τ61e]; exact rfl
                  have τ61_27 : τ61 27 = τ55 27 := by rw [τ61e]; exact rfl
                  have τ61_28 : τ61 28 = τ55 28 := by rw [τ61e]; exact rfl
                  have τ61_29 : τ61 29 = τ55 29 := by rw [τ61e]; exact rfl
                  have τ61_30 : τ61 30 = τ55 30 := by rw [τ61e]; exact rfl
                  have τ61_31 : τ61 31 = τ55 31 := by rw [τ61e]; exact rfl
                  have τ61_32 : τ61 32 = τ55 32 := by rw [τ61e]; exact rfl
                  have τ61_33 : τ61 33 = τ55 33 + 1 := by rw [τ61e]; exact rfl
                  have τ61_36 : τ61 36 = τ55 36 := by rw [τ61e]; exact rfl
                  show zG C cm58V (3011 - 1) (6340 - 40) 197 [(8, .int (zI (j2))), (7, .int (zI (mz47))), (6, .int (zI (n2))), (5, .int (zI (τ34 29))), (4, .ref hp38q), (3, .int (zI (b))), (2, .int (zI (a))), (1, .int (zI (q))), (0, .ref (c 60))] []
                  refine zr_goto X 77 dX8_pump_197 rfl ?_
                  refine zr_sub [2, 3, 4, 5, 6, 7, 8] [(6, .int (zI (n2))), (5, .int (zI (τ34 29))), (4, .ref hp38q), (3, .int (zI (b))), (2, .int (zI (a))), (1, .int (zI (q))), (0, .ref (c 60))] rfl ?_
                  have ag62 : (∀ j, ¬ (26 ≤ j ∧ j ≤ 29) → j ≠ 33 → j ≠ 36 → ¬ (300 ≤ j ∧ j < 460) → τ61 j = τ34 j) := fun j h1 h3 h4 h5 => by
                    rw [τ61e, zf_ne h3, τ55e, zmf_ne ⟨h1, by omega⟩]
                    exact (hK4 j h1 h3 h4 h5).trans (hI4 j h1 h3 h4 h5)
                  have ag62s : (∀ j : Nat, 300 ≤ j → j < 460 → τ61 j = zly τ34 (300 + (τ34 28).toNat) (n2).toNat (zsg τ34 q) j) := fun j h1 h2 => by
                    rw [τ61e, zf_ne (by omega), τ55e, zmf_ne (by omega)]
                    exact hK12 j h1 h2
                  obtain ⟨fz63, fz63e⟩ : ∃ z9 : Nat, hF = z9 + 1 := ⟨hF - 1, by omega⟩
                  have fz63_27 : τ61 27 = τ1 27 + j2 - mz51 := by omega
                  have fz63_28 : τ61 28 = τ1 28 + j2 := by omega
                  have fz63_29 : τ61 29 = τ1 29 + mz51 := by omega
                  have fz63_33 : τ61 33 = τ1 33 + 1 := by omega
                  have fz63j : j2 = mz47 := by omega
                  have fz63w : τ34 26 - τ1 27 = τ1 26 - (τ1 28 - τ1 29) := by omega
                  have fz63m : zm1 j2 a ((ln : Int) - nx) (τ34 26 - τ1 27) := by
                    rw [fz63j, fz63w]
                    exact hmn
                  have fz63z := (zpm_step j2 mz51 fz63e (by omega) fz63m (by omega) hK10 fz63_27 fz63_28 fz63_29 fz63_33).symm.trans hF2
                  exact ih _ (by omega) cm58V τ61 n2 ⟨cm58m, fx60, lc59, ag62, by omega, by omega, by omega, by omega, by omega, ⟨fz63, by omega, fz63z⟩, ag62s, by omega⟩ rfl
                · refine zr_aload_n X 136 8 dX8_pump_135 rfl rfl ?_
                  have c864 : V2 (c 60) = some (60, .inr (9, [.ref (md 61), .int (zI (κ 0)), .ref (c 62), .ref (md 63), .ref (md 64), .ref (c 65), .int (zI (τ2 26)), .int (zI (τ2 28)), .int (zI (τ2 29)), .ref (c 66), .int (zI (τ2 36))])) := hK1.1
                  refine zr_get X 139 9 5 c864 rfl iX8 (by decide) w9 rfl rfl dX8_pump_136 rfl ?_
                  refine zr_aload_n X 140 8 dX8_pump_139 rfl rfl ?_
                  refine zr_dup X 141 dX8_pump_140 rfl rfl ?_
                  refine zr_get X 144 9 7 c864 rfl iX8 (by decide) w0 rfl rfl dX8_pump_141 rfl ?_
                  refine zr_dup_x1 X 145 dX8_pump_144 rfl rfl rfl ?_
                  refine zr_iconst X 146 dX8_pump_145 rfl ?_
                  refine zr_iadd X 147 dX8_pump_146 rfl ?_
                  refine zr_put X 150 9 7 [.ref (md 61), .int (zI (κ 0)), .ref (c 62), .ref (md 63), .ref (md 64), .ref (c 65), .int (zI (τ2 26)), .int (zI ((τ2 28) + 1)), .int (zI (τ2 29)), .ref (c 66), .int (zI (τ2 36))] tyX8 c864 rfl iX8 tyX8_ok nmX8 (by decide) w0 rfl rfl rfl rfl (Nat.le_of_ble_eq_true rfl) rfl dX8_pump_147 rfl ?_
                  obtain ⟨cm65h, cm65f⟩ := hK1.setM (τ2 26) ((τ2 28) + 1) (τ2 29) (τ2 36) (by omega)
                  obtain ⟨cm65V, cm65e⟩ : ∃ zz9 : zV, zz9 = (zu V2 (c 60) 60 (.inr (9, [.ref (md 61), .int (zI (κ 0)), .ref (c 62), .ref (md 63), .ref (md 64), .ref (c 65), .int (zI (τ2 26)), .int (zI ((τ2 28) + 1)), .int (zI (τ2 29)), .ref (c 66), .int (zI (τ2 36))]))) := ⟨_, rfl⟩
                  have cm65m : zMo Γ cm65V c md (zmf τ2 (τ2 26) ((τ2 28) + 1) (τ2 29) (τ2 36)) κ E := by
                    rw [cm65e]
                    exact cm65h
                  have cm65g : zag (fun x => x ≠ 60) V2 cm65V := by
                    rw [cm65e]
                    exact cm65f
                  refine zr_view (cm65e).symm ?_
                  have lc66 := cm65g _ _ _ hK3 (by omega)
                  have fx67 : zfm V cm65V := zag.tr hK2 (cm65g.mono (fun t ht => by omega))
                  obtain ⟨τ68, τ68e⟩ : ∃ zz9 : Nat → Int, zz9 = zmf τ2 (τ2 26) ((τ2 28) + 1) (τ2 29) (τ2 36) := ⟨_, rfl⟩
                  rw [← τ68e] at cm65m
                  have τ68_24 : τ68 24 = τ2 24 := by rw [τ68e]; exact rfl
                  have τ68_25 : τ68 25 = τ2 25 := by rw [τ68e]; exact rfl
                  have τ68_26 : τ68 26 = τ2 26 := by rw [τ68e]; exact rfl
                  have τ68_27 : τ68 27 = ((τ2 28) + 1) - (τ2 29) := by rw [τ68e]; exact rfl
                  have τ68_28 : τ68 28 = (τ2 28) + 1 := by rw [τ68e]; exact rfl
                  have τ68_29 : τ68 29 = τ2 29 := by rw [τ68e]; exact rfl
                  have τ68_30 : τ68 30 = τ2 30 := by rw [τ68e]; exact rfl
                  have τ68_31 : τ68 31 = τ2 31 := by rw [τ68e]; exact rfl
                  have τ68_32 : τ68 32 = τ2 32 := by rw [τ68e]; exact rfl
                  have τ68_33 : τ68 33 = τ2 33 := by rw [τ68e]; exact rfl
                  have τ68_36 : τ68 36 = τ2 36 := by rw [τ68e]; exact rfl
                  show zG C cm65V (3011 - 1) (6340 - 40) 150 [(8, .int (zI (j2))), (7, .int (zI (mz47))), (6, .int (zI (n2))), (5, .int (zI (τ34 29))), (4, .ref hp38q), (3, .int (zI (b))), (2, .int (zI (a))), (1, .int (zI (q))), (0, .ref (c 60))] [.int (zI (τ2 28)), .ref (c 65)]
                  refine zr_aload X 152 4 dX8_pump_150 rfl rfl ?_
                  refine zr_iload X 154 2 dX8_pump_152 rfl rfl ?_
                  refine zr_iinc X 157 2 [(6, .int (zI (n2 + 1))), (8, .int (zI (j2))), (7, .int (zI (mz47))), (5, .int (zI (τ34 29))), (4, .ref hp38q), (3, .int (zI (b))), (2, .int (zI (a))), (1, .int (zI (q))), (0, .ref (c 60))] dX8_pump_154 rfl rfl (by decide) rfl ?_
                  refine zr_iald X 158 lc66 (by omega) dX8_pump_157 rfl ?_
                  have zb69 := zc.b hp38c (n2).toNat
                  obtain ⟨c870f, c870, c870c, c870v⟩ := cm65m.ts
                  refine zr_iast X 159 c870 (by omega) dX8_pump_158 rfl ?_
                  obtain ⟨cm71h, cm71f⟩ := cm65m.setSent (f := c870f) c870 c870c (p := τ2 28) (x := (hp38f (n2).toNat)) (by omega) (by omega) c870v
                  obtain ⟨cm71V, cm71e⟩ : ∃ zz9 : zV, zz9 = (zu cm65V (c 65) 65 (za Γ.2.1 0 160 (zf c870f (τ2 28).toNat (hp38f (n2).toNat)))) := ⟨_, rfl⟩
                  have cm71m : zMo Γ cm71V c md (zf τ68 (300 + (τ2 28).toNat) (hp38f (n2).toNat)) κ E := by
                    rw [cm71e]
                    exact cm71h
                  have cm71g : zag (fun x => x ≠ 65) cm65V cm71V := by
                    rw [cm71e]
                    exact cm71f
                  refine zr_view (cm71e).symm ?_
                  have lc72 := cm71g _ _ _ lc66 (by omega)
                  have fx73 : zfm V cm71V := zag.tr fx67 (cm71g.mono (fun t ht => by omega))
                  obtain ⟨τ74, τ74e⟩ : ∃ zz9 : Nat → Int, zz9 = zf τ68 (300 + (τ2 28).toNat) (hp38f (n2).toNat) := ⟨_, rfl⟩
                  rw [← τ74e] at cm71m
                  have τ74_24 : τ74 24 = τ68 24 := by rw [τ74e]; exact zf_ne (by omega)
                  have τ74_25 : τ74 25 = τ68 25 := by rw [τ74e]; exact zf_ne (by omega)
                  have τ74_26 : τ74 26 = τ68 26 := by rw [τ74e]; exact zf_ne (by omega)
                  have τ74_27 : τ74 27 = τ68 27 := by rw [τ74e]; exact zf_ne (by omega)
                  have τ74_28 : τ74 28 = τ68 28 := by rw [τ74e]; exact zf_ne (by omega)
                  have τ74_29 : τ74 29 = τ68 29 := by rw [τ74e]; exact zf_ne (by omega)
                  have τ74_30 : τ74 30 = τ68 30 := by rw [τ74e]; exact zf_ne (by omega)
                  have τ74_31 : τ74 31 = τ68 31 := by rw [τ74e]; exact zf_ne (by omega)
                  have τ74_32 : τ74 32 = τ68 32 := by rw [τ74e]; exact zf_ne (by omega)
                  have τ74_33 : τ74 33 = τ68 33 := by rw [τ74e]; exact zf_ne (by omega)
                  have τ74_36 : τ74 36 = τ68 36 := by rw [τ74e]; exact zf_ne (by omega)
                  show zG C cm71V (3011 - 1) (6340 - 40) 159 [(6, .int (zI (n2 + 1))), (8, .int (zI (j2))), (7, .int (zI (mz47))), (5, .int (zI (τ34 29))), (4, .ref hp38q), (3, .int (zI (b))), (2, .int (zI (a))), (1, .int (zI (q))), (0, .ref (c 60))] []
                  refine zr_iinc X 162 1 [(8, .int (zI (j2 + 1))), (6, .int (zI (n2 + 1))), (7, .int (zI (mz47))), (5, .int (zI (τ34 29))), (4, .ref hp38q), (3, .int (zI (b))), (2, .int (zI (a))), (1, .int (zI (q))), (0, .ref (c 60))] dX8_pump_159 rfl rfl (by decide) rfl ?_
                  refine zr_goto X 128 dX8_pump_162 rfl ?_
                  refine zr_sub [0, 2, 1, 3, 4, 5, 6, 7, 8] [(8, .int (zI (j2 + 1))), (7, .int (zI (mz47))), (6, .int (zI (n2 + 1))), (5, .int (zI (τ34 29))), (4, .ref hp38q), (3, .int (zI (b))), (2, .int (zI (a))), (1, .int (zI (q))), (0, .ref (c 60))] rfl ?_
                  have ag75 : (∀ j, ¬ (26 ≤ j ∧ j ≤ 29) → j ≠ 33 → j ≠ 36 → ¬ (300 ≤ j ∧ j < 460) → τ74 j = τ1 j) := fun j h1 h3 h4 h5 => by
                    rw [τ74e, zf_ne (by omega), τ68e, zmf_ne ⟨h1, by omega⟩]
                    exact hK4 j h1 h3 h4 h5
                  have ag75s : (∀ j : Nat, 300 ≤ j → j < 460 → τ74 j = zly τ34 (300 + (τ34 28).toNat) (n2 + 1).toNat (zsg τ34 q) j) := zly_ext hK12 (by omega) (by omega) τ68e τ74e (hsg _ (by omega))
                  exact ih2 _ (by omega) cm71V τ74 (j2 + 1) (n2 + 1) ⟨cm71m, fx73, lc72, ag75, by omega, by omega, by omega, by omega, by omega, by omega, by omega, ag75s⟩ rfl
              exact loop2 _ V1 τ1 0 nx ⟨hI1, hI2, hI3, fun _ _ _ _ _ => rfl, rfl, by omega, rfl, by omega, by omega, by omega, rfl, hI11⟩ rfl
            · refine zr_aload_n X 86 6 dX8_pump_85 rfl rfl ?_
              have c876 : V1 (c 60) = some (60, .inr (9, [.ref (md 61), .int (zI (κ 0)), .ref (c 62), .ref (md 63), .ref (md 64), .ref (c 65), .int (zI (τ1 26)), .int (zI (τ1 28)), .int (zI (τ1 29)), .ref (c 66), .int (zI (τ1 36))])) := hI1.1
              refine zr_get X 89 9 7 c876 rfl iX8 (by decide) w0 rfl rfl dX8_pump_86 rfl ?_
              refine zr_aload_n X 90 6 dX8_pump_89 rfl rfl ?_
              refine zr_get X 93 9 8 c876 rfl iX8 (by decide) w2 rfl rfl dX8_pump_90 rfl ?_
              refine zr_icmp_le X 200 96 dX8_pump_93 rfl rfl (by omega) (by omega) (fun bq77 => ?_) (fun bq77 => ?_)
              · refine zr_aload_n X 201 6 dX8_pump_200 rfl rfl ?_
                refine zr_iconst X 202 dX8_pump_201 rfl ?_
                refine zr_callVe (kc' := (3011 - 1)) (ks' := (6340 - 40)) X 205 1 (m_X8_done l Γ hI1) gX8_pump_X8_done rfl (by decide +kernel) rfl (by decide) ⟨_, _, hI1.1⟩ rfl rfl (Nat.le_of_ble_eq_true rfl) dX8_pump_202 rfl (by omega) (by omega) (fun rv78 V79 hp80 => ?_)
                obtain ⟨hp80e, hp80m, hp80g⟩ := hp80
                rw [hp80e]
                have lc81 := hp80g _ _ _ hI3 (by omega)
                have fx82 : zfm V V79 := zag.tr hI2 (hp80g.mono (fun t ht => by omega))
                obtain ⟨τ83, τ83e⟩ : ∃ zz9 : Nat → Int, zz9 = zdn τ1 := ⟨_, rfl⟩
                rw [← τ83e] at hp80m
                have τ83_24 : τ83 24 = τ1 24 := by rw [τ83e]; exact rfl
                have τ83_25 : τ83 25 = τ1 25 := by rw [τ83e]; exact rfl
                have τ83_26 : τ83 26 = τ1 26 := by rw [τ83e]; exact rfl
                have τ83_27 : τ83 27 = τ1 27 := by rw [τ83e]; exact rfl
                have τ83_28 : τ83 28 = τ1 28 := by rw [τ83e]; exact rfl
                have τ83_29 : τ83 29 = τ1 29 := by rw [τ83e]; exact rfl
                have τ83_30 : τ83 30 = τ1 30 + 1 := by rw [τ83e]; exact rfl
                have τ83_31 : τ83 31 = τ1 31 := by rw [τ83e]; exact rfl
                have τ83_32 : τ83 32 = τ1 32 := by rw [τ83e]; exact rfl
                have τ83_33 : τ83 33 = τ1 33 := by rw [τ83e]; exact rfl
                have τ83_36 : τ83 36 = τ1 36 := by rw [τ83e]; exact rfl
                show zG C V79 (3011 - 1) (6340 - 40) 205 [(6, .int (zI (nx))), (5, .int (zI (τ34 29))), (4, .ref hp38q), (3, .int (zI (b))), (2, .int (zI (a))), (1, .int (zI (q))), (0, .ref (c 60))] [.int (zI (0))]
                refine zr_pop X 206 dX8_pump_205 rfl rfl ?_
                refine zr_aload_n X 207 6 dX8_pump_206 rfl rfl ?_
                have c884 : V79 (c 60) = some (60, .inr (9, [.ref (md 61), .int (zI (κ 0)), .ref (c 62), .ref (md 63), .ref (md 64), .ref (c 65), .int (zI (τ83 26)), .int (zI (τ83 28)), .int (zI (τ83 29)), .ref (c 66), .int (zI (τ83 36))])) := hp80m.1
                refine zr_get X 210 9 5 c884 rfl iX8 (by decide) w9 rfl rfl dX8_pump_207 rfl ?_
                refine zr_iload X 212 1 dX8_pump_210 rfl rfl ?_
                refine zr_aload_n X 213 6 dX8_pump_212 rfl rfl ?_
                refine zr_get X 216 9 8 c884 rfl iX8 (by decide) w2 rfl rfl dX8_pump_213 rfl ?_
                obtain ⟨c885f, c885, c885c, c885v⟩ := hp80m.ts
                refine zr_callS (kc' := (3011 - 1) - 3010) (ks' := (6340 - 40) - 6300) X 219 3 (m_X8_told l Γ (fr := τ34 29) (to := τ83 29) c885 c885c (by omega) (by omega) (by omega)) gX8_pump_X8_told rfl (by decide +kernel) rfl (by decide) rfl (Nat.le_of_ble_eq_true rfl) dX8_pump_216 rfl (by omega) (by omega) (fun rv86 V87 hp88 => ?_)
                obtain ⟨hp88z, hp88e, hp88f⟩ := hp88
                rw [hp88e]
                have hp88g : zag (fun x => x ≠ 7) V79 V87 := hp88f
                have hp88m := hp80m.kept hp88g (fun t h1 h2 => by omega)
                have lc89 := hp88g _ _ _ lc81 (by omega)
                have fx90 : zfm V V87 := zag.tr fx82 (hp88g.mono (fun t ht => by omega))
                show zG C V87 ((3011 - 1) - 3010) ((6340 - 40) - 6300) 219 [(6, .int (zI (nx))), (5, .int (zI (τ34 29))), (4, .ref hp38q), (3, .int (zI (b))), (2, .int (zI (a))), (1, .int (zI (q))), (0, .ref (c 60))] [.ref hp88z]
                have hlz : (ln : Int) = zsz τ34 q := by omega
                have hlr : (zf τ 36 0) 28 + zsz (zf τ 36 0) q ≤ 160 := by
                  rw [← τ34e, ← hlz]
                  omega
                exact zr_aret X rfl (Or.inl ⟨_, rfl⟩) ⟨hp88z, md, τ83, κ, rfl, hp88m.le (by omega), fx90, Or.inr (Or.inr (Or.inr ⟨by omega, hlr, (fun j h1 h2 h3 h4 h5 => by rw [τ83e, zdn_ne h2, hI4 j h1 h3 h4 h5, τ34e]; exact zf_ne (by omega)), by omega, by rw [τ83e]; show τ1 30 + 1 = τ 30 + 1; rw [hI4 30 (by omega) (by omega) (by omega) (by omega), τ34e]; rfl, (by rw [← τ34e, ← hlz, τ83e]; show (τ1 27, τ1 28, τ1 29, τ1 33) = _; exact (zpm_fin (n := hF) (Or.inr ⟨by omega, by omega⟩)).symm.trans hF2), (fun j h1 h2 => by rw [← τ34e, τ83e, show zdn τ1 28 - τ34 28 = nx by have h9 : zdn τ1 28 = τ1 28 := zdn_ne (by decide); omega, zdn_ne (by omega)]; exact hI11 j h1 h2)⟩))⟩ dX8_pump_219
              · refine zr_iload_n X 97 4 dX8_pump_96 rfl rfl ?_
                refine zr_aload X 99 2 dX8_pump_97 rfl rfl ?_
                refine zr_alen X 100 0 hI3 (by decide) dX8_pump_99 rfl ?_
                refine zr_iload X 102 0 dX8_pump_100 rfl rfl ?_
                refine zr_isub X 103 dX8_pump_102 rfl ?_
                refine zr_aload_n X 104 6 dX8_pump_103 rfl rfl ?_
                refine zr_get X 107 9 6 c876 rfl iX8 (by decide) w3 rfl rfl dX8_pump_104 rfl ?_
                refine zr_aload_n X 108 6 dX8_pump_107 rfl rfl ?_
                refine zr_get X 111 9 7 c876 rfl iX8 (by decide) w0 rfl rfl dX8_pump_108 rfl ?_
                refine zr_aload_n X 112 6 dX8_pump_111 rfl rfl ?_
                refine zr_get X 115 9 8 c876 rfl iX8 (by decide) w2 rfl rfl dX8_pump_112 rfl ?_
                refine zr_isub X 116 dX8_pump_115 rfl ?_
                refine zr_isub X 117 dX8_pump_116 rfl ?_
                obtain ⟨mz91, mz91e, mz91a⟩ : ∃ z9 : Int, z9 = (if (τ1 26) - ((τ1 28) - (τ1 29)) < ((ln : Nat) - nx : Int) then (τ1 26) - ((τ1 28) - (τ1 29)) else ((ln : Nat) - nx : Int)) ∧ (((τ1 26) - ((τ1 28) - (τ1 29)) < ((ln : Nat) - nx : Int) ∧ z9 = (τ1 26) - ((τ1 28) - (τ1 29))) ∨ (¬ (τ1 26) - ((τ1 28) - (τ1 29)) < ((ln : Nat) - nx : Int) ∧ z9 = ((ln : Nat) - nx : Int))) := zmine _ _
                refine zr_mmin X 120 (mz91) w4 w5 w6 w7 (by decide) (Nat.le_of_ble_eq_true rfl) (by omega) (by omega) mz91e dX8_pump_117 rfl ?_
                clear mz91e
                obtain ⟨mz92, mz92e, mz92a⟩ : ∃ z9 : Int, z9 = (if mz91 < a then mz91 else a) ∧ ((mz91 < a ∧ z9 = mz91) ∨ (¬ mz91 < a ∧ z9 = a)) := zmine _ _
                refine zr_mmin X 123 (mz92) w4 w5 w6 w7 (by decide) (Nat.le_of_ble_eq_true rfl) (by omega) (by omega) mz92e dX8_pump_120 rfl ?_
                clear mz92e
                refine zr_istore X 125 [(7, .int (zI (mz92))), (6, .int (zI (nx))), (5, .int (zI (τ34 29))), (4, .ref hp38q), (3, .int (zI (b))), (2, .int (zI (a))), (1, .int (zI (q))), (0, .ref (c 60))] dX8_pump_123 rfl (by decide) rfl ?_
                refine zr_iconst X 126 dX8_pump_125 rfl ?_
                refine zr_istore X 128 [(8, .int (zI (0))), (7, .int (zI (mz92))), (6, .int (zI (nx))), (5, .int (zI (τ34 29))), (4, .ref hp38q), (3, .int (zI (b))), (2, .int (zI (a))), (1, .int (zI (q))), (0, .ref (c 60))] dX8_pump_126 rfl (by decide) rfl ?_
                have hmz : 0 ≤ mz92 ∧ mz92 ≤ (ln : Int) - nx ∧ mz92 ≤ τ1 26 - (τ1 28 - τ1 29) ∧ (mz92 ≤ 0 → τ1 29 < τ1 28) := by omega
                have hmn : zm1 mz92 a ((ln : Int) - nx) (τ1 26 - (τ1 28 - τ1 29)) := by
                  unfold zm1
                  omega
                have hr1 : 1 ≤ τ1 26 ∧ τ1 26 ≤ 8 ∧ 0 ≤ τ1 29 ∧ τ1 29 ≤ τ1 28 ∧ τ1 28 ≤ 160 ∧ τ1 27 = τ1 28 - τ1 29 := by omega
                have loop2 : ∀ (N : Nat) (V2 : zV) (τ2 : Nat → Int) (j2 : Int) (n2 : Int), zMo Γ V2 c md τ2 κ E ∧ zfm V V2 ∧ V2 hp38q = some (hp38t, za Γ.2.1 0 ln hp38f) ∧ (∀ j, ¬ (26 ≤ j ∧ j ≤ 29) → j ≠ 33 → j ≠ 36 → ¬ (300 ≤ j ∧ j < 460) → τ2 j = τ1 j) ∧ τ2 26 = τ1 26 ∧ τ2 28 = τ1 28 + j2 ∧ τ2 29 = τ1 29 ∧ 0 ≤ j2 ∧ (j2 ≤ mz92 ∨ j2 = 0) ∧ n2 = nx + j2 ∧ τ2 33 = τ1 33 ∧ (∀ j : Nat, 300 ≤ j → j < 460 → τ2 j = zly τ34 (300 + (τ34 28).toNat) (n2).toNat (zsg τ34 q) j) → (mz92 - j2).toNat = N → zG C V2 (3011 - 1) (6340 - 40) 128 [(8, .int (zI (j2))), (7, .int (zI (mz92))), (6, .int (zI (n2))), (5, .int (zI (τ34 29))), (4, .ref hp38q), (3, .int (zI (b))), (2, .int (zI (a))), (1, .int (zI (q))), (0, .ref (c 60))] [] := by
                  intro N2
                  induction N2 using Nat.strongRecOn with
                  | _ N2 ih2 =>
                  intro V2 τ2 j2 n2 hI2 hN2
                  obtain ⟨hK1, hK2, hK3, hK4, hK5, hK6, hK7, hK8, hK9, hK10, hK11, hK12⟩ := id hI2
                  try clear nn1
                  try clear no5a
                  try clear no9a
                  try clear bq10
                  try clear tc14a
                  try clear tc14b
                  try clear τ16_24
                  try clear τ16_25
                  try clear τ16_26
                  try clear τ16_27
                  try clear τ16_28
                  try clear τ16_29
                  try clear τ16_30
                  try clear τ16_31
                  try clear τ16_32
                  try clear τ16_33
                  try clear τ16_36
                  try clear bq17
                  try clear τ19_24
                  try clear τ19_25
                  try clear τ19_26
                  try clear τ19_27
                  try clear τ19_28
                  try clear τ19_29
                  try clear τ19_30
                  try clear τ19_31
                  try clear τ19_32
                  try clear τ19_33
                  try clear τ19_36
                  try clear bq20
                  try clear no24a
                  try clear bq25
                  try clear tc29a
                  try clear tc29b
                  try clear τ31_24
                  try clear τ31_25
                  try clear τ31_26
                  try clear τ31_27
                  try clear τ31_28
                  try clear τ31_29
                  try clear τ31_30
                  try clear τ31_31
                  try clear τ31_32
                  try clear τ31_33
                  try clear τ31_36
                  try clear bq32
                  try clear τ34_24
                  try clear τ34_25
                  try clear τ34_26
                  try clear τ34_27
                  try clear τ34_28
                  try clear τ34_29
                  try clear τ34_30
                  try clear τ34_31
                  try clear τ34_32
                  try clear τ34_33
                  try clear τ34_36
                  try clear bq35
                  try clear hp38n1
                  try clear hp38n2
                  try clear bq41
                  try clear lne
                  try clear nn43
                  try clear bq44
                  try clear mz46a
                  try clear mz47a
                  try clear nn48
                  try clear bq49
                  try clear mz51a
                  try clear τ55_24
                  try clear τ55_25
                  try clear τ55_26
                  try clear τ55_27
                  try clear τ55_28
                  try clear τ55_29
                  try clear τ55_30
                  try clear τ55_31
                  try clear τ55_32
                  try clear τ55_33
                  try clear τ55_36
                  try clear τ61_24
                  try clear τ61_25
                  try clear τ61_26
                  try clear τ61_27
                  try clear τ61_28
                  try clear τ61_29
                  try clear τ61_30
                  try clear τ61_31
                  try clear τ61_32
                  try clear τ61_33
                  try clear τ61_36
                  try clear τ68_24
                  try clear τ68_25
                  try clear τ68_26
                  try clear τ68_27
                  try clear τ68_28
                  try clear τ68_29
                  try clear τ68_30
                  try clear τ68_31
                  try clear τ68_32
                  try clear τ68_33
                  try clear τ68_36
                  try clear τ74_24
                  try clear τ74_25
                  try clear τ74_26
                  try clear τ74_27
                  try clear τ74_28
                  try clear τ74_29
                  try clear τ74_30
                  try clear τ74_31
                  try clear τ74_32
                  try clear τ74_33
                  try clear τ74_36
                  try clear bq77
                  try clear τ83_24
                  try clear τ83_25
                  try clear τ83_26
                  try clear τ83_27
                  try clear τ83_28
                  try clear τ83_29
                  try clear τ83_30
                  try clear τ83_31
                  try clear τ83_32
                  try clear τ83_33
                  try clear τ83_36
                  try clear mz91a
                  try clear mz92a
                  have nn93 : (0 ≤ κ 0 ∧ κ 0 ≤ κ 1 ∧ κ 0 ≤ E ∧ κ 1 ≤ 7000) ∧ (0 ≤ τ2 24 ∧ τ2 24 ≤ 80 ∧ 0 ≤ τ2 25 ∧ τ2 25 ≤ 80) ∧ 1 ≤ τ2 26 ∧ τ2 26 ≤ 8 ∧ 0 ≤ τ2 29 ∧ τ2 29 ≤ τ2 28 ∧ τ2 28 ≤ 160 ∧ τ2 27 ≤ τ2 26 ∧ τ2 27 = τ2 28 - τ2 29 := hK1.n
                  refine zr_iload X 130 0 dX8_pump_128 rfl rfl ?_
                  refine zr_iload X 132 1 dX8_pump_130 rfl rfl ?_
                  refine zr_icmp_ge X 165 135 dX8_pump_132 rfl rfl (by omega) (by omega) (fun bq94 => ?_) (fun bq94 => ?_)
                  · refine zr_aload_n X 166 8 dX8_pump_165 rfl rfl ?_
                    refine zr_dup X 167 dX8_pump_166 rfl rfl ?_
                    have c895 : V2 (c 60) = some (60, .inr (9, [.ref (md 61), .int (zI (κ 0)), .ref (c 62), .ref (md 63), .ref (md 64), .ref (c 65), .int (zI (τ2 26)), .int (zI (τ2 28)), .int (zI (τ2 29)), .ref (c 66), .int (zI (τ2 36))])) := hK1.1
                    refine zr_get X 170 9 8 c895 rfl iX8 (by decide) w2 rfl rfl dX8_pump_167 rfl ?_
                    refine zr_iload_n X 171 5 dX8_pump_170 rfl rfl ?_
                    refine zr_aload_n X 172 8 dX8_pump_171 rfl rfl ?_
                    refine zr_get X 175 9 7 c895 rfl iX8 (by decide) w0 rfl rfl dX8_pump_172 rfl ?_
                    refine zr_aload_n X 176 8 dX8_pump_175 rfl rfl ?_
                    refine zr_get X 179 9 8 c895 rfl iX8 (by decide) w2 rfl rfl dX8_pump_176 rfl ?_
                    refine zr_isub X 180 dX8_pump_179 rfl ?_
                    obtain ⟨mz96, mz96e, mz96a⟩ : ∃ z9 : Int, z9 = (if (τ2 28) - (τ2 29) < b then (τ2 28) - (τ2 29) else b) ∧ (((τ2 28) - (τ2 29) < b ∧ z9 = (τ2 28) - (τ2 29)) ∨ (¬ (τ2 28) - (τ2 29) < b ∧ z9 = b)) := zmine _ _
                    refine zr_mmin X 183 (mz96) w4 w5 w6 w7 (by decide) (Nat.le_of_ble_eq_true rfl) (by omega) (by omega) mz96e dX8_pump_180 rfl ?_
                    clear mz96e
                    refine zr_iadd X 184 dX8_pump_183 rfl ?_
                    refine zr_put X 187 9 8 [.ref (md 61), .int (zI (κ 0)), .ref (c 62), .ref (md 63), .ref (md 64), .ref (c 65), .int (zI (τ2 26)), .int (zI (τ2 28)), .int (zI ((τ2 29) + mz96)), .ref (c 66), .int (zI (τ2 36))] tyX8 c895 rfl iX8 tyX8_ok nmX8 (by decide) w2 rfl rfl rfl rfl (Nat.le_of_ble_eq_true rfl) rfl dX8_pump_184 rfl ?_
                    obtain ⟨cm97h, cm97f⟩ := hK1.setM (τ2 26) (τ2 28) ((τ2 29) + mz96) (τ2 36) (by omega)
                    obtain ⟨cm97V, cm97e⟩ : ∃ zz9 : zV, zz9 = (zu V2 (c 60) 60 (.inr (9, [.ref (md 61), .int (zI (κ 0)), .ref (c 62), .ref (md 63), .ref (md 64), .ref (c 65), .int (zI (τ2 26)), .int (zI (τ2 28)), .int (zI ((τ2 29) + mz96)), .ref (c 66), .int (zI (τ2 36))]))) := ⟨_, rfl⟩
                    have cm97m : zMo Γ cm97V c md (zmf τ2 (τ2 26) (τ2 28) ((τ2 29) + mz96) (τ2 36)) κ E := by
                      rw [cm97e]
                      exact cm97h
                    have cm97g : zag (fun x => x ≠ 60) V2 cm97V := by
                      rw [cm97e]
                      exact cm97f
                    refine zr_view (cm97e).symm ?_
                    have lc98 := cm97g _ _ _ hK3 (by omega)
                    have fx99 : zfm V cm97V := zag.tr hK2 (cm97g.mono (fun t ht => by omega))
                    obtain ⟨τ100, τ100e⟩ : ∃ zz9 : Nat → Int, zz9 = zmf τ2 (τ2 26) (τ2 28) ((τ2 29) + mz96) (τ2 36) := ⟨_, rfl⟩
                    rw [← τ100e] at cm97m
                    have τ100_24 : τ100 24 = τ2 24 := by rw [τ100e]; exact rfl
                    have τ100_25 : τ100 25 = τ2 25 := by rw [τ100e]; exact rfl
                    have τ100_26 : τ100 26 = τ2 26 := by rw [τ100e]; exact rfl
                    have τ100_27 : τ100 27 = (τ2 28) - ((τ2 29) + mz96) := by rw [τ100e]; exact rfl
                    have τ100_28 : τ100 28 = τ2 28 := by rw [τ100e]; exact rfl
                    have τ100_29 : τ100 29 = (τ2 29) + mz96 := by rw [τ100e]; exact rfl
                    have τ100_30 : τ100 30 = τ2 30 := by rw [τ100e]; exact rfl
                    have τ100_31 : τ100 31 = τ2 31 := by rw [τ100e]; exact rfl
                    have τ100_32 : τ100 32 = τ2 32 := by rw [τ100e]; exact rfl
                    have τ100_33 : τ100 33 = τ2 33 := by rw [τ100e]; exact rfl
                    have τ100_36 : τ100 36 = τ2 36 := by rw [τ100e]; exact rfl
                    show zG C cm97V (3011 - 1) (6340 - 40) 187 [(8, .int (zI (j2))), (7, .int (zI (mz92))), (6, .int (zI (n2))), (5, .int (zI (τ34 29))), (4, .ref hp38q), (3, .int (zI (b))), (2, .int (zI (a))), (1, .int (zI (q))), (0, .ref (c 60))] []
                    refine zr_aload_n X 188 8 dX8_pump_187 rfl rfl ?_
                    have c8101 : cm97V (c 60) = some (60, .inr (9, [.ref (md 61), .int (zI (κ 0)), .ref (c 62), .ref (md 63), .ref (md 64), .ref (c 65), .int (zI (τ100 26)), .int (zI (τ100 28)), .int (zI (τ100 29)), .ref (c 66), .int (zI (τ100 36))])) := cm97m.1
                    refine zr_get X 191 9 9 c8101 rfl iX8 (by decide) w8 rfl rfl dX8_pump_188 rfl ?_
                    refine zr_iconst X 192 dX8_pump_191 rfl ?_
                    refine zr_dup2 X 193 dX8_pump_192 rfl rfl rfl ?_
                    obtain ⟨c8102f, c8102, c81020, c81021, c81022, c81023⟩ := cm97m.2.2.2.2.2.2.2.1
                    refine zr_iald X 194 c8102 (by omega) dX8_pump_193 rfl ?_
                    show zG C cm97V (3011 - 1) (6340 - 40) 194 [(8, .int (zI (j2))), (7, .int (zI (mz92))), (6, .int (zI (n2))), (5, .int (zI (τ34 29))), (4, .ref hp38q), (3, .int (zI (b))), (2, .int (zI (a))), (1, .int (zI (q))), (0, .ref (c 60))] [.int (zI (c8102f (3 : Int).toNat)), .int (zI (3)), .ref (c 66)]
                    refine zr_iconst X 195 dX8_pump_194 rfl ?_
                    refine zr_iadd X 196 dX8_pump_195 rfl ?_
                    refine zr_iast X 197 c8102 (by omega) dX8_pump_196 rfl ?_
                    have c8102x : c8102f (3 : Int).toNat + 1 = τ100 33 + 1 := by
                      show c8102f 3 + 1 = τ100 33 + 1
                      rw [c81023]
                    have c8102y := cm97m.setTal c8102 ⟨c81020, c81021, c81022, c81023⟩ 3 (by decide) (c8102f (3 : Int).toNat + 1)
                    rw [show zf τ100 (30 + 3) (c8102f (3 : Int).toNat + 1) = zf τ100 (30 + 3) (τ100 33 + 1) by rw [c8102x]] at c8102y
                    obtain ⟨cm103h, cm103f⟩ := c8102y
                    obtain ⟨cm103V, cm103e⟩ : ∃ zz9 : zV, zz9 = (zu cm97V (c 66) 66 (za Γ.2.1 0 4 (zf c8102f (3 : Int).toNat ((c8102f (3 : Int).toNat) + 1)))) := ⟨_, rfl⟩
                    have cm103m : zMo Γ cm103V c md (zf τ100 33 (τ100 33 + 1)) κ E := by
                      rw [cm103e]
                      exact cm103h
                    have cm103g : zag (fun x => x ≠ 66) cm97V cm103V := by
                      rw [cm103e]
                      exact cm103f
                    refine zr_view (cm103e).symm ?_
                    have lc104 := cm103g _ _ _ lc98 (by omega)
                    have fx105 : zfm V cm103V := zag.tr fx99 (cm103g.mono (fun t ht => by omega))
                    obtain ⟨τ106, τ106e⟩ : ∃ zz9 : Nat → Int, zz9 = zf τ100 33 (τ100 33 + 1) := ⟨_, rfl⟩
                    rw [← τ106e] at cm103m
                    have τ106_24 : τ106 24 = τ100 24 := by rw [τ106e]; exact rfl
                    have τ106_25 : τ106 25 = τ100 25 := by rw [τ106e]; exact rfl
                    have τ106_26 : τ106 26 = τ100 26 := by rw [τ106e]; exact rfl
                    have τ106_27 : τ106 27 = τ100 27 := by rw [τ106e]; exact rfl
                    have τ106_28 : τ106 28 = τ100 28 := by rw [τ106e]; exact rfl
                    have τ106_29 : τ106 29 = τ100 29 := by rw [τ106e]; exact rfl
                    have τ106_30 : τ106 30 = τ100 30 := by rw [τ106e]; exact rfl
                    have τ106_31 : τ106 31 = τ100 31 := by rw [τ106e]; exact rfl
                    have τ106_32 : τ106 32 = τ100 32 := by rw [τ106e]; exact rfl
                    have τ106_33 : τ106 33 = τ100 33 + 1 := by rw [τ106e]; exact rfl
                    have τ106_36 : τ106 36 = τ100 36 := by rw [τ106e]; exact rfl
                    show zG C cm103V (3011 - 1) (6340 - 40) 197 [(8, .int (zI (j2))), (7, .int (zI (mz92))), (6, .int (zI (n2))), (5, .int (zI (τ34 29))), (4, .ref hp38q), (3, .int (zI (b))), (2, .int (zI (a))), (1, .int (zI (q))), (0, .ref (c 60))] []
                    refine zr_goto X 77 dX8_pump_197 rfl ?_
                    refine zr_sub [2, 3, 4, 5, 6, 7, 8] [(6, .int (zI (n2))), (5, .int (zI (τ34 29))), (4, .ref hp38q), (3, .int (zI (b))), (2, .int (zI (a))), (1, .int (zI (q))), (0, .ref (c 60))] rfl ?_
                    have ag107 : (∀ j, ¬ (26 ≤ j ∧ j ≤ 29) → j ≠ 33 → j ≠ 36 → ¬ (300 ≤ j ∧ j < 460) → τ106 j = τ34 j) := fun j h1 h3 h4 h5 => by
                      rw [τ106e, zf_ne h3, τ100e, zmf_ne ⟨h1, by omega⟩]
                      exact (hK4 j h1 h3 h4 h5).trans (hI4 j h1 h3 h4 h5)
                    have ag107s : (∀ j : Nat, 300 ≤ j → j < 460 → τ106 j = zly τ34 (300 + (τ34 28).toNat) (n2).toNat (zsg τ34 q) j) := fun j h1 h2 => by
                      rw [τ106e, zf_ne (by omega), τ100e, zmf_ne (by omega)]
                      exact hK12 j h1 h2
                    obtain ⟨fz108, fz108e⟩ : ∃ z9 : Nat, hF = z9 + 1 := ⟨hF - 1, by omega⟩
                    have fz108_27 : τ106 27 = τ1 27 + j2 - mz96 := by omega
                    have fz108_28 : τ106 28 = τ1 28 + j2 := by omega
                    have fz108_29 : τ106 29 = τ1 29 + mz96 := by omega
                    have fz108_33 : τ106 33 = τ1 33 + 1 := by omega
                    have fz108j : j2 = mz92 := by omega
                    have fz108w : τ34 26 - τ1 27 = τ1 26 - (τ1 28 - τ1 29) := by omega
                    have fz108m : zm1 j2 a ((ln : Int) - nx) (τ34 26 - τ1 27) := by
                      rw [fz108j, fz108w]
                      exact hmn
                    have fz108z := (zpm_step j2 mz96 fz108e (by omega) fz108m (by omega) hK10 fz108_27 fz108_28 fz108_29 fz108_33).symm.trans hF2
                    exact ih _ (by omega) cm103V τ106 n2 ⟨cm103m, fx105, lc104, ag107, by omega, by omega, by omega, by omega, by omega, ⟨fz108, by omega, fz108z⟩, ag107s, by omega⟩ rfl
                  · refine zr_aload_n X 136 8 dX8_pump_135 rfl rfl ?_
                    have c8109 : V2 (c 60) = some (60, .inr (9, [.ref (md 61), .int (zI (κ 0)), .ref (c 62), .ref (md 63), .ref (md 64), .ref (c 65), .int (zI (τ2 26)), .int (zI (τ2 28)), .int (zI (τ2 29)), .ref (c 66), .int (zI (τ2 36))])) := hK1.1
                    refine zr_get X 139 9 5 c8109 rfl iX8 (by decide) w9 rfl rfl dX8_pump_136 rfl ?_
                    refine zr_aload_n X 140 8 dX8_pump_139 rfl rfl ?_
                    refine zr_dup X 141 dX8_pump_140 rfl rfl ?_
                    refine zr_get X 144 9 7 c8109 rfl iX8 (by decide) w0 rfl rfl dX8_pump_141 rfl ?_
                    refine zr_dup_x1 X 145 dX8_pump_144 rfl rfl rfl ?_
                    refine zr_iconst X 146 dX8_pump_145 rfl ?_
                    refine zr_iadd X 147 dX8_pump_146 rfl ?_
                    refine zr_put X 150 9 7 [.ref (md 61), .int (zI (κ 0)), .ref (c 62), .ref (md 63), .ref (md 64), .ref (c 65), .int (zI (τ2 26)), .int (zI ((τ2 28) + 1)), .int (zI (τ2 29)), .ref (c 66), .int (zI (τ2 36))] tyX8 c8109 rfl iX8 tyX8_ok nmX8 (by decide) w0 rfl rfl rfl rfl (Nat.le_of_ble_eq_true rfl) rfl dX8_pump_147 rfl ?_
                    obtain ⟨cm110h, cm110f⟩ := hK1.setM (τ2 26) ((τ2 28) + 1) (τ2 29) (τ2 36) (by omega)
                    obtain ⟨cm110V, cm110e⟩ : ∃ zz9 : zV, zz9 = (zu V2 (c 60) 60 (.inr (9, [.ref (md 61), .int (zI (κ 0)), .ref (c 62), .ref (md 63), .ref (md 64), .ref (c 65), .int (zI (τ2 26)), .int (zI ((τ2 28) + 1)), .int (zI (τ2 29)), .ref (c 66), .int (zI (τ2 36))]))) := ⟨_, rfl⟩
                    have cm110m : zMo Γ cm110V c md (zmf τ2 (τ2 26) ((τ2 28) + 1) (τ2 29) (τ2 36)) κ E := by
                      rw [cm110e]
                      exact cm110h
                    have cm110g : zag (fun x => x ≠ 60) V2 cm110V := by
                      rw [cm110e]
                      exact cm110f
                    refine zr_view (cm110e).symm ?_
                    have lc111 := cm110g _ _ _ hK3 (by omega)
                    have fx112 : zfm V cm110V := zag.tr hK2 (cm110g.mono (fun t ht => by omega))
                    obtain ⟨τ113, τ113e⟩ : ∃ zz9 : Nat → Int, zz9 = zmf τ2 (τ2 26) ((τ2 28) + 1) (τ2 29) (τ2 36) := ⟨_, rfl⟩
                    rw [← τ113e] at cm110m
                    have τ113_24 : τ113 24 = τ2 24 := by rw [τ113e]; exact rfl
                    have τ113_25 : τ113 25 = τ2 25 := by rw [τ113e]; exact rfl
                    have τ113_26 : τ113 26 = τ2 26 := by rw [τ113e]; exact rfl
                    have τ113_27 : τ113 27 = ((τ2 28) + 1) - (τ2 29) := by rw [τ113e]; exact rfl
                    have τ113_28 : τ113 28 = (τ2 28) + 1 := by rw [τ113e]; exact rfl
                    have τ113_29 : τ113 29 = τ2 29 := by rw [τ113e]; exact rfl
                    have τ113_30 : τ113 30 = τ2 30 := by rw [τ113e]; exact rfl
                    have τ113_31 : τ113 31 = τ2 31 := by rw [τ113e]; exact rfl
                    have τ113_32 : τ113 32 = τ2 32 := by rw [τ113e]; exact rfl
                    have τ113_33 : τ113 33 = τ2 33 := by rw [τ113e]; exact rfl
                    have τ113_36 : τ113 36 = τ2 36 := by rw [τ113e]; exact rfl
                    show zG C cm110V (3011 - 1) (6340 - 40) 150 [(8, .int (zI (j2))), (7, .int (zI (mz92))), (6, .int (zI (n2))), (5, .int (zI (τ34 29))), (4, .ref hp38q), (3, .int (zI (b))), (2, .int (zI (a))), (1, .int (zI (q))), (0, .ref (c 60))] [.int (zI (τ2 28)), .ref (c 65)]
                    refine zr_aload X 152 4 dX8_pump_150 rfl rfl ?_
                    refine zr_iload X 154 2 dX8_pump_152 rfl rfl ?_
                    refine zr_iinc X 157 2 [(6, .int (zI (n2 + 1))), (8, .int (zI (j2))), (7, .int (zI (mz92))), (5, .int (zI (τ34 29))), (4, .ref hp38q), (3, .int (zI (b))), (2, .int (zI (a))), (1, .int (zI (q))), (0, .ref (c 60))] dX8_pump_154 rfl rfl (by decide) rfl ?_
                    refine zr_iald X 158 lc111 (by omega) dX8_pump_157 rfl ?_
                    have zb114 := zc.b hp38c (n2).toNat
                    obtain ⟨c8115f, c8115, c8115c, c8115v⟩ := cm110m.ts
                    refine zr_iast X 159 c8115 (by omega) dX8_pump_158 rfl ?_
                    obtain ⟨cm116h, cm116f⟩ := cm110m.setSent (f := c8115f) c8115 c8115c (p := τ2 28) (x := (hp38f (n2).toNat)) (by omega) (by omega) c8115v
                    obtain ⟨cm116V, cm116e⟩ : ∃ zz9 : zV, zz9 = (zu cm110V (c 65) 65 (za Γ.2.1 0 160 (zf c8115f (τ2 28).toNat (hp38f (n2).toNat)))) := ⟨_, rfl⟩
                    have cm116m : zMo Γ cm116V c md (zf τ113 (300 + (τ2 28).toNat) (hp38f (n2).toNat)) κ E := by
                      rw [cm116e]
                      exact cm116h
                    have cm116g : zag (fun x => x ≠ 65) cm110V cm116V := by
                      rw [cm116e]
                      exact cm116f
                    refine zr_view (cm116e).symm ?_
                    have lc117 := cm116g _ _ _ lc111 (by omega)
                    have fx118 : zfm V cm116V := zag.tr fx112 (cm116g.mono (fun t ht => by omega))
                    obtain ⟨τ119, τ119e⟩ : ∃ zz9 : Nat → Int, zz9 = zf τ113 (300 + (τ2 28).toNat) (hp38f (n2).toNat) := ⟨_, rfl⟩
                    rw [← τ119e] at cm116m
                    have τ119_24 : τ119 24 = τ113 24 := by rw [τ119e]; exact zf_ne (by omega)
                    have τ119_25 : τ119 25 = τ113 25 := by rw [τ119e]; exact zf_ne (by omega)
                    have τ119_26 : τ119 26 = τ113 26 := by rw [τ119e]; exact zf_ne (by omega)
                    have τ119_27 : τ119 27 = τ113 27 := by rw [τ119e]; exact zf_ne (by omega)
                    have τ119_28 : τ119 28 = τ113 28 := by rw [τ119e]; exact zf_ne (by omega)
                    have τ119_29 : τ119 29 = τ113 29 := by rw [τ119e]; exact zf_ne (by omega)
                    have τ119_30 : τ119 30 = τ113 30 := by rw [τ119e]; exact zf_ne (by omega)
                    have τ119_31 : τ119 31 = τ113 31 := by rw [τ119e]; exact zf_ne (by omega)
                    have τ119_32 : τ119 32 = τ113 32 := by rw [τ119e]; exact zf_ne (by omega)
                    have τ119_33 : τ119 33 = τ113 33 := by rw [τ119e]; exact zf_ne (by omega)
                    have τ119_36 : τ119 36 = τ113 36 := by rw [τ119e]; exact zf_ne (by omega)
                    show zG C cm116V (3011 - 1) (6340 - 40) 159 [(6, .int (zI (n2 + 1))), (8, .int (zI (j2))), (7, .int (zI (mz92))), (5, .int (zI (τ34 29))), (4, .ref hp38q), (3, .int (zI (b))), (2, .int (zI (a))), (1, .int (zI (q))), (0, .ref (c 60))] []
                    refine zr_iinc X 162 1 [(8, .int (zI (j2 + 1))), (6, .int (zI (n2 + 1))), (7, .int (zI (mz92))), (5, .int (zI (τ34 29))), (4, .ref hp38q), (3, .int (zI (b))), (2, .int (zI (a))), (1, .int (zI (q))), (0, .ref (c 60))] dX8_pump_159 rfl rfl (by decide) rfl ?_
                    refine zr_goto X 128 dX8_pump_162 rfl ?_
                    refine zr_sub [0, 2, 1, 3, 4, 5, 6, 7, 8] [(8, .int (zI (j2 + 1))), (7, .int (zI (mz92))), (6, .int (zI (n2 + 1))), (5, .int (zI (τ34 29))), (4, .ref hp38q), (3, .int (zI (b))), (2, .int (zI (a))), (1, .int (zI (q))), (0, .ref (c 60))] rfl ?_
                    have ag120 : (∀ j, ¬ (26 ≤ j ∧ j ≤ 29) → j ≠ 33 → j ≠ 36 → ¬ (300 ≤ j ∧ j < 460) → τ119 j = τ1 j) := fun j h1 h3 h4 h5 => by
                      rw [τ119e, zf_ne (by omega), τ113e, zmf_ne ⟨h1, by omega⟩]
                      exact hK4 j h1 h3 h4 h5
                    have ag120s : (∀ j : Nat, 300 ≤ j → j < 460 → τ119 j = zly τ34 (300 + (τ34 28).toNat) (n2 + 1).toNat (zsg τ34 q) j) := zly_ext hK12 (by omega) (by omega) τ113e τ119e (hsg _ (by omega))
                    exact ih2 _ (by omega) cm116V τ119 (j2 + 1) (n2 + 1) ⟨cm116m, fx118, lc117, ag120, by omega, by omega, by omega, by omega, by omega, by omega, by omega, ag120s⟩ rfl
                exact loop2 _ V1 τ1 0 nx ⟨hI1, hI2, hI3, fun _ _ _ _ _ => rfl, rfl, by omega, rfl, by omega, by omega, by omega, rfl, hI11⟩ rfl
          exact loop _ V37 τ34 0 ⟨hp38m, fx39, lc42, fun _ _ _ _ _ => rfl, rfl, by omega, by omega, by omega, by omega, ⟨((ln : Int) + τ34 27).toNat, by omega, rfl⟩, fun j _ _ => zly_nil j, by omega⟩ rfl
        · refine zr_aload_n X 61 1 dX8_pump_60 rfl rfl ?_
          refine zr_iconst X 62 dX8_pump_61 rfl ?_
          refine zr_put X 65 9 10 [.ref (md 61), .int (zI (κ 0)), .ref (c 62), .ref (md 63), .ref (md 64), .ref (c 65), .int (zI (τ34 26)), .int (zI (τ34 28)), .int (zI (τ34 29)), .ref (c 66), .int (zI (3))] tyX8 c840 rfl iX8 tyX8_ok nmX8 (by decide) w10 rfl rfl rfl rfl (Nat.le_of_ble_eq_true rfl) rfl dX8_pump_62 rfl ?_
          have th121 := hp38m.setM (τ34 26) (τ34 28) (τ34 29) (3) (by omega)
          rw [zmf_36 (by omega)] at th121
          obtain ⟨cm122h, cm122f⟩ := th121
          obtain ⟨cm122V, cm122e⟩ : ∃ zz9 : zV, zz9 = (zu V37 (c 60) 60 (.inr (9, [.ref (md 61), .int (zI (κ 0)), .ref (c 62), .ref (md 63), .ref (md 64), .ref (c 65), .int (zI (τ34 26)), .int (zI (τ34 28)), .int (zI (τ34 29)), .ref (c 66), .int (zI (3))]))) := ⟨_, rfl⟩
          have cm122m : zMo Γ cm122V c md (zf τ34 36 (3)) κ E := by
            rw [cm122e]
            exact cm122h
          have cm122g : zag (fun x => x ≠ 60) V37 cm122V := by
            rw [cm122e]
            exact cm122f
          refine zr_view (cm122e).symm ?_
          have lc123 := cm122g _ _ _ hp38h (by omega)
          have fx124 : zfm V cm122V := zag.tr fx39 (cm122g.mono (fun t ht => by omega))
          obtain ⟨τ125, τ125e⟩ : ∃ zz9 : Nat → Int, zz9 = zf τ34 36 (3) := ⟨_, rfl⟩
          rw [← τ125e] at cm122m
          have τ125_24 : τ125 24 = τ34 24 := by rw [τ125e]; exact rfl
          have τ125_25 : τ125 25 = τ34 25 := by rw [τ125e]; exact rfl
          have τ125_26 : τ125 26 = τ34 26 := by rw [τ125e]; exact rfl
          have τ125_27 : τ125 27 = τ34 27 := by rw [τ125e]; exact rfl
          have τ125_28 : τ125 28 = τ34 28 := by rw [τ125e]; exact rfl
          have τ125_29 : τ125 29 = τ34 29 := by rw [τ125e]; exact rfl
          have τ125_30 : τ125 30 = τ34 30 := by rw [τ125e]; exact rfl
          have τ125_31 : τ125 31 = τ34 31 := by rw [τ125e]; exact rfl
          have τ125_32 : τ125 32 = τ34 32 := by rw [τ125e]; exact rfl
          have τ125_33 : τ125 33 = τ34 33 := by rw [τ125e]; exact rfl
          have τ125_36 : τ125 36 = 3 := by rw [τ125e]; exact rfl
          show zG C cm122V (3011 - 1) (6340 - 40) 65 [(4, .ref hp38q), (0, .ref (c 60)), (1, .int (zI (q))), (2, .int (zI (a))), (3, .int (zI (b)))] []
          refine zr_ldcS X 67 6 rfl dX8_pump_65 rfl ?_
          exact zr_aret X rfl (Or.inl ⟨_, rfl⟩) ⟨Γ.2.2.1 6, md, τ125, κ, rfl, cm122m.le (by omega), fx124, Or.inr (Or.inr (Or.inl ⟨by omega, by rw [← τ34e]; omega, by rw [τ125e, τ34e, zf_zf]⟩))⟩ dX8_pump_67
    · refine zr_iconst X 26 dX8_pump_25 rfl ?_
      refine zr_goto X 30 dX8_pump_26 rfl ?_
      refine zr_callVe (kc' := 3011) (ks' := 6340) X 33 2 (m_X8_isThrown l Γ hM (a := no5) (b := 1) (by omega) (by omega)) gX8_pump_X8_isThrown rfl (by decide +kernel) rfl (by decide) ⟨_, _, hM.1⟩ rfl rfl (Nat.le_of_ble_eq_true rfl) dX8_pump_30 rfl (by omega) (by omega) (fun rv126 V127 hp128 => ?_)
      obtain ⟨⟨hp128x, hp128k, hp128e, hp128c, hp128m⟩, hp128g⟩ := hp128
      rw [hp128e]
      rcases hp128c with ⟨tc129a, tc129k, tc129x⟩ | ⟨tc129a, tc129b, tc129k, tc129x⟩ | ⟨tc129a, tc129b, tc129k, tc129x⟩
      · skip
        subst tc129k tc129x
        have fx130 : zfm V V127 := (hp128g.mono (fun t ht => by omega))
        obtain ⟨τ131, τ131e⟩ : ∃ zz9 : Nat → Int, zz9 = zf τ 36 1 := ⟨_, rfl⟩
        rw [← τ131e] at hp128m
        have τ131_24 : τ131 24 = τ 24 := by rw [τ131e]; exact rfl
        have τ131_25 : τ131 25 = τ 25 := by rw [τ131e]; exact rfl
        have τ131_26 : τ131 26 = τ 26 := by rw [τ131e]; exact rfl
        have τ131_27 : τ131 27 = τ 27 := by rw [τ131e]; exact rfl
        have τ131_28 : τ131 28 = τ 28 := by rw [τ131e]; exact rfl
        have τ131_29 : τ131 29 = τ 29 := by rw [τ131e]; exact rfl
        have τ131_30 : τ131 30 = τ 30 := by rw [τ131e]; exact rfl
        have τ131_31 : τ131 31 = τ 31 := by rw [τ131e]; exact rfl
        have τ131_32 : τ131 32 = τ 32 := by rw [τ131e]; exact rfl
        have τ131_33 : τ131 33 = τ 33 := by rw [τ131e]; exact rfl
        have τ131_36 : τ131 36 = 1 := by rw [τ131e]; exact rfl
        show zG C V127 3011 6340 33 [(0, .ref (c 60)), (1, .int (zI (q))), (2, .int (zI (a))), (3, .int (zI (b)))] [.int (zI (1))]
        refine zr_if_eq X 39 36 dX8_pump_33 rfl rfl (by omega) (fun bq132 => absurd bq132 (by omega)) (fun bq132 => ?_)
        refine zr_ldcS X 38 6 rfl dX8_pump_36 rfl ?_
        exact zr_aret X rfl (Or.inl ⟨_, rfl⟩) ⟨Γ.2.2.1 6, md, τ131, κ, rfl, hp128m.le (by omega), fx130, Or.inl ⟨by omega, τ131e⟩⟩ dX8_pump_38
      · skip
        subst tc129k tc129x
        have fx133 : zfm V V127 := (hp128g.mono (fun t ht => by omega))
        obtain ⟨τ134, τ134e⟩ : ∃ zz9 : Nat → Int, zz9 = zf τ 36 2 := ⟨_, rfl⟩
        rw [← τ134e] at hp128m
        have τ134_24 : τ134 24 = τ 24 := by rw [τ134e]; exact rfl
        have τ134_25 : τ134 25 = τ 25 := by rw [τ134e]; exact rfl
        have τ134_26 : τ134 26 = τ 26 := by rw [τ134e]; exact rfl
        have τ134_27 : τ134 27 = τ 27 := by rw [τ134e]; exact rfl
        have τ134_28 : τ134 28 = τ 28 := by rw [τ134e]; exact rfl
        have τ134_29 : τ134 29 = τ 29 := by rw [τ134e]; exact rfl
        have τ134_30 : τ134 30 = τ 30 := by rw [τ134e]; exact rfl
        have τ134_31 : τ134 31 = τ 31 := by rw [τ134e]; exact rfl
        have τ134_32 : τ134 32 = τ 32 := by rw [τ134e]; exact rfl
        have τ134_33 : τ134 33 = τ 33 := by rw [τ134e]; exact rfl
        have τ134_36 : τ134 36 = 2 := by rw [τ134e]; exact rfl
        show zG C V127 3011 6340 33 [(0, .ref (c 60)), (1, .int (zI (q))), (2, .int (zI (a))), (3, .int (zI (b)))] [.int (zI (1))]
        refine zr_if_eq X 39 36 dX8_pump_33 rfl rfl (by omega) (fun bq135 => absurd bq135 (by omega)) (fun bq135 => ?_)
        refine zr_ldcS X 38 6 rfl dX8_pump_36 rfl ?_
        exact zr_aret X rfl (Or.inl ⟨_, rfl⟩) ⟨Γ.2.2.1 6, md, τ134, κ, rfl, hp128m.le (by omega), fx133, Or.inr (Or.inl ⟨by omega, by omega, τ134e⟩)⟩ dX8_pump_38
      · exact absurd tc129b (by decide)
