/-! the model: searches, soundness, checksum -/
theorem ziand {x y : Int} (hx : x = 0 ∨ x = 1) (hy : y = 0 ∨ y = 1) : ∃ z : Int, zI x &&& zI y = zI z ∧ (z = 0 ∨ z = 1) := by
  rcases hx with rfl | rfl <;> rcases hy with rfl | rfl
  · exact ⟨0, by decide, Or.inl rfl⟩
  · exact ⟨0, by decide, Or.inl rfl⟩
  · exact ⟨0, by decide, Or.inl rfl⟩
  · exact ⟨1, by decide, Or.inr rfl⟩
set_option maxRecDepth 100000 in
set_option maxHeartbeats 4000000 in
theorem m_X8_inner (l : Launch) (Γ : zGam) {V : zV} {c md : Nat → Nat} {τ κ : Nat → Int} {E : Int} {q a b p e how : Int} (hM : zMo Γ V c md τ κ E) (hq : -2147483648 ≤ q ∧ q ≤ 2147483647) (ha : -2147483648 ≤ a ∧ a ≤ 2147483647) (hb : -2147483648 ≤ b ∧ b ≤ 2147483647) (hp : -2147483648 ≤ p ∧ p ≤ 2147483647) (he : -2147483648 ≤ e ∧ e ≤ 2147483647) (hh : -2147483648 ≤ how ∧ how ≤ 2147483647) : zM l Γ 10 yX8_inner wsX8_inner 3011 6340 V [.ref (c 60), .int (zI (q)), .int (zI (a)), .int (zI (b)), .int (zI (p)), .int (zI (e)), .int (zI (how))] (fun rv V' => ∃ (zr : Nat) (md' : Nat → Nat) (τ' κ' : Nat → Int), rv = some (.ref zr) ∧ zMo Γ V' c md' τ' κ' (E + 40) ∧ zfm V V' ∧ ((¬ (0 ≤ q ∧ q ≤ 5) ∧ τ' = zf τ 36 1) ∨ ((0 ≤ q ∧ q ≤ 5) ∧ ¬ (0 ≤ a ∧ a ≤ b ∧ b ≤ (zf τ 36 0) (4 * q.toNat + 1) - (zf τ 36 0) (4 * q.toNat + 2) ∧ 0 ≤ p ∧ p ≤ e ∧ e ≤ b - a ∧ 0 ≤ how ∧ how ≤ 2) ∧ τ' = zf τ 36 2) ∨ ((0 ≤ q ∧ q ≤ 5) ∧ (0 ≤ a ∧ a ≤ b ∧ b ≤ (zf τ 36 0) (4 * q.toNat + 1) - (zf τ 36 0) (4 * q.toNat + 2) ∧ 0 ≤ p ∧ p ≤ e ∧ e ≤ b - a ∧ 0 ≤ how ∧ how ≤ 2) ∧ (τ' = (zf τ 36 0))))) := by
  have w0 : Cond.fieldLink RX8 14 "SashwordsModel" "windows" "[[I" ∈ wsX8_inner := by decide +kernel
  have iX8 : ∀ w ∈ u_ws RX8 TX8 11, w ∈ wsX8_inner := by decide +kernel
  refine zM_of (cc := cX8_inner) (nL := 9) (ret := (some (.object "java/lang/String"))) (own := RX8) (by decide +kernel) rfl rfl (Nat.le_of_ble_eq_true rfl) (fun C X hi0 => ?_)
  have nn1 : 0 ≤ κ 0 ∧ κ 0 ≤ κ 1 ∧ κ 0 ≤ E ∧ κ 1 ≤ 7000 := hM.n.1
  show zG C V 3011 6340 0 [(0, .ref (c 60)), (1, .int (zI (q))), (2, .int (zI (a))), (3, .int (zI (b))), (4, .int (zI (p))), (5, .int (zI (e))), (6, .int (zI (how)))] []
  refine zr_aload_n X 1 0 dX8_inner_0 rfl rfl ?_
  refine zr_iload_n X 2 1 dX8_inner_1 rfl rfl ?_
  refine zr_callS (kc' := 3011) (ks' := 6340) X 5 1 (m_X8_isNoWindow l Γ (V := V) (x := q) (by omega)) gX8_inner_X8_isNoWindow rfl (by decide +kernel) rfl (by decide) rfl (Nat.le_of_ble_eq_true rfl) dX8_inner_2 rfl (by omega) (by omega) (fun rv2 V3 hp4 => ?_)
  obtain ⟨⟨no5, no5e, no5a⟩, no5v⟩ := hp4
  rw [no5e, no5v]
  show zG C V 3011 6340 5 [(0, .ref (c 60)), (1, .int (zI (q))), (2, .int (zI (a))), (3, .int (zI (b))), (4, .int (zI (p))), (5, .int (zI (e))), (6, .int (zI (how)))] [.int (zI (no5)), .ref (c 60)]
  refine zr_iconst X 6 dX8_inner_5 rfl ?_
  refine zr_callVe (kc' := 3011) (ks' := 6340) X 9 2 (m_X8_isThrown l Γ hM (a := no5) (b := 0) (by omega) (by omega)) gX8_inner_X8_isThrown rfl (by decide +kernel) rfl (by decide) ⟨_, _, hM.1⟩ rfl rfl (Nat.le_of_ble_eq_true rfl) dX8_inner_6 rfl (by omega) (by omega) (fun rv6 V7 hp8 => ?_)
  obtain ⟨⟨hp8x, hp8k, hp8e, hp8c, hp8m⟩, hp8g⟩ := hp8
  rw [hp8e]
  rcases hp8c with ⟨tc9a, tc9k, tc9x⟩ | ⟨tc9a, tc9b, tc9k, tc9x⟩ | ⟨tc9a, tc9b, tc9k, tc9x⟩
  · skip
    subst tc9k tc9x
    have fx10 : zfm V V7 := (hp8g.mono (fun t ht => by omega))
    obtain ⟨τ11, τ11e⟩ : ∃ zz9 : Nat → Int, zz9 = zf τ 36 1 := ⟨_, rfl⟩
    rw [← τ11e] at hp8m
    show zG C V7 3011 6340 9 [(0, .ref (c 60)), (1, .int (zI (q))), (2, .int (zI (a))), (3, .int (zI (b))), (4, .int (zI (p))), (5, .int (zI (e))), (6, .int (zI (how)))] [.int (zI (1))]
    refine zr_if_eq X 15 12 dX8_inner_9 rfl rfl (by omega) (fun bq12 => absurd bq12 (by omega)) (fun bq12 => ?_)
    refine zr_ldcS X 14 6 rfl dX8_inner_12 rfl ?_
    exact zr_aret X rfl (Or.inl ⟨_, rfl⟩) ⟨Γ.2.2.1 6, md, τ11, κ, rfl, hp8m.le (by omega), fx10, Or.inl ⟨by omega, by rw [τ11e]⟩⟩ dX8_inner_14
  · exact absurd tc9b (by decide)
  · skip
    subst tc9k tc9x
    have fx13 : zfm V V7 := (hp8g.mono (fun t ht => by omega))
    obtain ⟨τ14, τ14e⟩ : ∃ zz9 : Nat → Int, zz9 = zf τ 36 0 := ⟨_, rfl⟩
    rw [← τ14e] at hp8m
    show zG C V7 3011 6340 9 [(0, .ref (c 60)), (1, .int (zI (q))), (2, .int (zI (a))), (3, .int (zI (b))), (4, .int (zI (p))), (5, .int (zI (e))), (6, .int (zI (how)))] [.int (zI (0))]
    refine zr_if_eq X 15 12 dX8_inner_9 rfl rfl (by omega) (fun bq15 => ?_) (fun bq15 => absurd bq15 (by omega))
    refine zr_aload_n X 16 0 dX8_inner_15 rfl rfl ?_
    refine zr_aload_n X 17 0 dX8_inner_16 rfl rfl ?_
    have c816 : V7 (c 60) = some (60, .inr (9, [.ref (md 61), .int (zI (κ 0)), .ref (c 62), .ref (md 63), .ref (md 64), .ref (c 65), .int (zI (τ14 26)), .int (zI (τ14 28)), .int (zI (τ14 29)), .ref (c 66), .int (zI (τ14 36))])) := hp8m.1
    refine zr_get X 20 9 2 c816 rfl iX8 (by decide) w0 rfl rfl dX8_inner_17 rfl ?_
    refine zr_iload_n X 21 1 dX8_inner_20 rfl rfl ?_
    have c817 : V7 (c 62) = some (62, zq Γ.2.1 4 6 (fun i => some (md (70 + i)))) := hp8m.2.2.1
    refine zr_aaldI X 22 (.ref (md (70 + q.toNat))) c817 (by omega) rfl dX8_inner_21 rfl ?_
    have hw19 := hp8m.w (i := q.toNat) (by omega)
    have hw19r := hw19.rg
    have z020 : (zf τ 36 0) (4 * q.toNat) = τ14 (4 * q.toNat) := by rw [τ14e]
    have z021 : (zf τ 36 0) (4 * q.toNat + 1) = τ14 (4 * q.toNat + 1) := by rw [τ14e]
    have z022 : (zf τ 36 0) (4 * q.toNat + 2) = τ14 (4 * q.toNat + 2) := by rw [τ14e]
    have z023 : (zf τ 36 0) (4 * q.toNat + 3) = τ14 (4 * q.toNat + 3) := by rw [τ14e]
    refine zr_callVe (kc' := (3011 - 1)) (ks' := (6340 - 40)) X 25 1 (m_X8_text l Γ (tg := 76) (i := q) hp8m (by omega)) gX8_inner_X8_text rfl (by decide +kernel) rfl (by decide) ⟨_, _, hp8m.1⟩ rfl rfl (Nat.le_of_ble_eq_true rfl) dX8_inner_22 rfl (by omega) (by omega) (fun rv24 V25 hp26 => ?_)
    obtain ⟨hp26q, hp26f, hp26e, hp26h, hp26c, hp26g, hp26z⟩ := hp26
    rw [hp26e]
    have hp26m := hp8m.kept hp26g (fun _ _ _ => trivial)
    have fx27 : zfm V V25 := zag.tr fx13 (hp26g.mono (fun _ _ => trivial))
    show zG C V25 (3011 - 1) (6340 - 40) 25 [(0, .ref (c 60)), (1, .int (zI (q))), (2, .int (zI (a))), (3, .int (zI (b))), (4, .int (zI (p))), (5, .int (zI (e))), (6, .int (zI (how)))] [.ref hp26q]
    refine zr_astore X 27 [(7, .ref hp26q), (0, .ref (c 60)), (1, .int (zI (q))), (2, .int (zI (a))), (3, .int (zI (b))), (4, .int (zI (p))), (5, .int (zI (e))), (6, .int (zI (how)))] dX8_inner_25 rfl (by decide) rfl ?_
    refine zr_iload_n X 28 3 dX8_inner_27 rfl rfl ?_
    refine zr_if_lt X 67 31 dX8_inner_28 rfl rfl (by omega) (fun bq28 => ?_) (fun bq28 => ?_)
    · refine zr_iconst X 68 dX8_inner_67 rfl ?_
      refine zr_istore X 70 [(8, .int (zI (0))), (7, .ref hp26q), (0, .ref (c 60)), (1, .int (zI (q))), (2, .int (zI (a))), (3, .int (zI (b))), (4, .int (zI (p))), (5, .int (zI (e))), (6, .int (zI (how)))] dX8_inner_68 rfl (by decide) rfl ?_
      refine zr_aload_n X 71 2 dX8_inner_70 rfl rfl ?_
      refine zr_iconst X 72 dX8_inner_71 rfl ?_
      refine zr_iload X 74 0 dX8_inner_72 rfl rfl ?_
      refine zr_if_eq X 87 77 dX8_inner_74 rfl rfl (by omega) (fun bq29 => ?_) (fun bq29 => absurd bq29 (by omega))
      refine zr_iconst X 88 dX8_inner_87 rfl ?_
      refine zr_goto X 92 dX8_inner_88 rfl ?_
      refine zr_callVe (kc' := (3011 - 1)) (ks' := (6340 - 40)) X 95 2 (m_X8_isThrown l Γ hp26m (a := 0) (b := 1) (by omega) (by omega)) gX8_inner_X8_isThrown rfl (by decide +kernel) rfl (by decide) ⟨_, _, hp26m.1⟩ rfl rfl (Nat.le_of_ble_eq_true rfl) dX8_inner_92 rfl (by omega) (by omega) (fun rv30 V31 hp32 => ?_)
      obtain ⟨⟨hp32x, hp32k, hp32e, hp32c, hp32m⟩, hp32g⟩ := hp32
      rw [hp32e]
      rcases hp32c with ⟨tc33a, tc33k, tc33x⟩ | ⟨tc33a, tc33b, tc33k, tc33x⟩ | ⟨tc33a, tc33b, tc33k, tc33x⟩
      · exact absurd tc33a (by decide)
      · skip
        subst tc33k tc33x
        have lc34 := hp32g _ _ _ hp26h (by omega)
        have fx35 : zfm V V31 := zag.tr fx27 (hp32g.mono (fun t ht => by omega))
        obtain ⟨τ36, τ36e⟩ : ∃ zz9 : Nat → Int, zz9 = zf τ14 36 2 := ⟨_, rfl⟩
        rw [← τ36e] at hp32m
        have τ36_q0 : τ36 (4 * q.toNat) = τ14 (4 * q.toNat) := by rw [τ36e]; exact zf_ne (by omega)
        have τ36_q1 : τ36 (4 * q.toNat + 1) = τ14 (4 * q.toNat + 1) := by rw [τ36e]; exact zf_ne (by omega)
        have τ36_q2 : τ36 (4 * q.toNat + 2) = τ14 (4 * q.toNat + 2) := by rw [τ36e]; exact zf_ne (by omega)
        have τ36_q3 : τ36 (4 * q.toNat + 3) = τ14 (4 * q.toNat + 3) := by rw [τ36e]; exact zf_ne (by omega)
        show zG C V31 (3011 - 1) (6340 - 40) 95 [(8, .int (zI (0))), (7, .ref hp26q), (0, .ref (c 60)), (1, .int (zI (q))), (2, .int (zI (a))), (3, .int (zI (b))), (4, .int (zI (p))), (5, .int (zI (e))), (6, .int (zI (how)))] [.int (zI (1))]
        refine zr_if_eq X 103 98 dX8_inner_95 rfl rfl (by omega) (fun bq37 => absurd bq37 (by omega)) (fun bq37 => ?_)
        refine zr_ldcS X 100 6 rfl dX8_inner_98 rfl ?_
        refine zr_goto X 116 dX8_inner_100 rfl ?_
        exact zr_aret X rfl (Or.inl ⟨_, rfl⟩) ⟨Γ.2.2.1 6, md, τ36, κ, rfl, hp32m.le (by omega), fx35, Or.inr (Or.inl ⟨by omega, by omega, by rw [τ36e, τ14e, zf_zf]⟩)⟩ dX8_inner_116
      · exact absurd tc33b (by decide)
    · refine zr_iload_n X 32 3 dX8_inner_31 rfl rfl ?_
      refine zr_iload_n X 33 4 dX8_inner_32 rfl rfl ?_
      refine zr_icmp_gt X 67 36 dX8_inner_33 rfl rfl (by omega) (by omega) (fun bq38 => ?_) (fun bq38 => ?_)
      · refine zr_iconst X 68 dX8_inner_67 rfl ?_
        refine zr_istore X 70 [(8, .int (zI (0))), (7, .ref hp26q), (0, .ref (c 60)), (1, .int (zI (q))), (2, .int (zI (a))), (3, .int (zI (b))), (4, .int (zI (p))), (5, .int (zI (e))), (6, .int (zI (how)))] dX8_inner_68 rfl (by decide) rfl ?_
        refine zr_aload_n X 71 2 dX8_inner_70 rfl rfl ?_
        refine zr_iconst X 72 dX8_inner_71 rfl ?_
        refine zr_iload X 74 0 dX8_inner_72 rfl rfl ?_
        refine zr_if_eq X 87 77 dX8_inner_74 rfl rfl (by omega) (fun bq39 => ?_) (fun bq39 => absurd bq39 (by omega))
        refine zr_iconst X 88 dX8_inner_87 rfl ?_
        refine zr_goto X 92 dX8_inner_88 rfl ?_
        refine zr_callVe (kc' := (3011 - 1)) (ks' := (6340 - 40)) X 95 2 (m_X8_isThrown l Γ hp26m (a := 0) (b := 1) (by omega) (by omega)) gX8_inner_X8_isThrown rfl (by decide +kernel) rfl (by decide) ⟨_, _, hp26m.1⟩ rfl rfl (Nat.le_of_ble_eq_true rfl) dX8_inner_92 rfl (by omega) (by omega) (fun rv40 V41 hp42 => ?_)
        obtain ⟨⟨hp42x, hp42k, hp42e, hp42c, hp42m⟩, hp42g⟩ := hp42
        rw [hp42e]
        rcases hp42c with ⟨tc43a, tc43k, tc43x⟩ | ⟨tc43a, tc43b, tc43k, tc43x⟩ | ⟨tc43a, tc43b, tc43k, tc43x⟩
        · exact absurd tc43a (by decide)
        · skip
          subst tc43k tc43x
          have lc44 := hp42g _ _ _ hp26h (by omega)
          have fx45 : zfm V V41 := zag.tr fx27 (hp42g.mono (fun t ht => by omega))
          obtain ⟨τ46, τ46e⟩ : ∃ zz9 : Nat → Int, zz9 = zf τ14 36 2 := ⟨_, rfl⟩
          rw [← τ46e] at hp42m
          have τ46_q0 : τ46 (4 * q.toNat) = τ14 (4 * q.toNat) := by rw [τ46e]; exact zf_ne (by omega)
          have τ46_q1 : τ46 (4 * q.toNat + 1) = τ14 (4 * q.toNat + 1) := by rw [τ46e]; exact zf_ne (by omega)
          have τ46_q2 : τ46 (4 * q.toNat + 2) = τ14 (4 * q.toNat + 2) := by rw [τ46e]; exact zf_ne (by omega)
          have τ46_q3 : τ46 (4 * q.toNat + 3) = τ14 (4 * q.toNat + 3) := by rw [τ46e]; exact zf_ne (by omega)
          show zG C V41 (3011 - 1) (6340 - 40) 95 [(8, .int (zI (0))), (7, .ref hp26q), (0, .ref (c 60)), (1, .int (zI (q))), (2, .int (zI (a))), (3, .int (zI (b))), (4, .int (zI (p))), (5, .int (zI (e))), (6, .int (zI (how)))] [.int (zI (1))]
          refine zr_if_eq X 103 98 dX8_inner_95 rfl rfl (by omega) (fun bq47 => absurd bq47 (by omega)) (fun bq47 => ?_)
          refine zr_ldcS X 100 6 rfl dX8_inner_98 rfl ?_
          refine zr_goto X 116 dX8_inner_100 rfl ?_
          exact zr_aret X rfl (Or.inl ⟨_, rfl⟩) ⟨Γ.2.2.1 6, md, τ46, κ, rfl, hp42m.le (by omega), fx45, Or.inr (Or.inl ⟨by omega, by omega, by rw [τ46e, τ14e, zf_zf]⟩)⟩ dX8_inner_116
        · exact absurd tc43b (by decide)
      · refine zr_iload_n X 37 4 dX8_inner_36 rfl rfl ?_
        refine zr_aload X 39 0 dX8_inner_37 rfl rfl ?_
        refine zr_alen X 40 0 hp26h (by decide) dX8_inner_39 rfl ?_
        refine zr_icmp_gt X 67 43 dX8_inner_40 rfl rfl (by omega) (by omega) (fun bq48 => ?_) (fun bq48 => ?_)
        · refine zr_iconst X 68 dX8_inner_67 rfl ?_
          refine zr_istore X 70 [(8, .int (zI (0))), (7, .ref hp26q), (0, .ref (c 60)), (1, .int (zI (q))), (2, .int (zI (a))), (3, .int (zI (b))), (4, .int (zI (p))), (5, .int (zI (e))), (6, .int (zI (how)))] dX8_inner_68 rfl (by decide) rfl ?_
          refine zr_aload_n X 71 2 dX8_inner_70 rfl rfl ?_
          refine zr_iconst X 72 dX8_inner_71 rfl ?_
          refine zr_iload X 74 0 dX8_inner_72 rfl rfl ?_
          refine zr_if_eq X 87 77 dX8_inner_74 rfl rfl (by omega) (fun bq49 => ?_) (fun bq49 => absurd bq49 (by omega))
          refine zr_iconst X 88 dX8_inner_87 rfl ?_
          refine zr_goto X 92 dX8_inner_88 rfl ?_
          refine zr_callVe (kc' := (3011 - 1)) (ks' := (6340 - 40)) X 95 2 (m_X8_isThrown l Γ hp26m (a := 0) (b := 1) (by omega) (by omega)) gX8_inner_X8_isThrown rfl (by decide +kernel) rfl (by decide) ⟨_, _, hp26m.1⟩ rfl rfl (Nat.le_of_ble_eq_true rfl) dX8_inner_92 rfl (by omega) (by omega) (fun rv50 V51 hp52 => ?_)
          obtain ⟨⟨hp52x, hp52k, hp52e, hp52c, hp52m⟩, hp52g⟩ := hp52
          rw [hp52e]
          rcases hp52c with ⟨tc53a, tc53k, tc53x⟩ | ⟨tc53a, tc53b, tc53k, tc53x⟩ | ⟨tc53a, tc53b, tc53k, tc53x⟩
          · exact absurd tc53a (by decide)
          · skip
            subst tc53k tc53x
            have lc54 := hp52g _ _ _ hp26h (by omega)
            have fx55 : zfm V V51 := zag.tr fx27 (hp52g.mono (fun t ht => by omega))
            obtain ⟨τ56, τ56e⟩ : ∃ zz9 : Nat → Int, zz9 = zf τ14 36 2 := ⟨_, rfl⟩
            rw [← τ56e] at hp52m
            have τ56_q0 : τ56 (4 * q.toNat) = τ14 (4 * q.toNat) := by rw [τ56e]; exact zf_ne (by omega)
            have τ56_q1 : τ56 (4 * q.toNat + 1) = τ14 (4 * q.toNat + 1) := by rw [τ56e]; exact zf_ne (by omega)
            have τ56_q2 : τ56 (4 * q.toNat + 2) = τ14 (4 * q.toNat + 2) := by rw [τ56e]; exact zf_ne (by omega)
            have τ56_q3 : τ56 (4 * q.toNat + 3) = τ14 (4 * q.toNat + 3) := by rw [τ56e]; exact zf_ne (by omega)
            show zG C V51 (3011 - 1) (6340 - 40) 95 [(8, .int (zI (0))), (7, .ref hp26q), (0, .ref (c 60)), (1, .int (zI (q))), (2, .int (zI (a))), (3, .int (zI (b))), (4, .int (zI (p))), (5, .int (zI (e))), (6, .int (zI (how)))] [.int (zI (1))]
            refine zr_if_eq X 103 98 dX8_inner_95 rfl rfl (by omega) (fun bq57 => absurd bq57 (by omega)) (fun bq57 => ?_)
            refine zr_ldcS X 100 6 rfl dX8_inner_98 rfl ?_
            refine zr_goto X 116 dX8_inner_100 rfl ?_
            exact zr_aret X rfl (Or.inl ⟨_, rfl⟩) ⟨Γ.2.2.1 6, md, τ56, κ, rfl, hp52m.le (by omega), fx55, Or.inr (Or.inl ⟨by omega, by omega, by rw [τ56e, τ14e, zf_zf]⟩)⟩ dX8_inner_116
          · exact absurd tc53b (by decide)
        · refine zr_iload X 45 5 dX8_inner_43 rfl rfl ?_
          refine zr_if_lt X 67 48 dX8_inner_45 rfl rfl (by omega) (fun bq58 => ?_) (fun bq58 => ?_)
          · refine zr_iconst X 68 dX8_inner_67 rfl ?_
            refine zr_istore X 70 [(8, .int (zI (0))), (7, .ref hp26q), (0, .ref (c 60)), (1, .int (zI (q))), (2, .int (zI (a))), (3, .int (zI (b))), (4, .int (zI (p))), (5, .int (zI (e))), (6, .int (zI (how)))] dX8_inner_68 rfl (by decide) rfl ?_
            refine zr_aload_n X 71 2 dX8_inner_70 rfl rfl ?_
            refine zr_iconst X 72 dX8_inner_71 rfl ?_
            refine zr_iload X 74 0 dX8_inner_72 rfl rfl ?_
            refine zr_if_eq X 87 77 dX8_inner_74 rfl rfl (by omega) (fun bq59 => ?_) (fun bq59 => absurd bq59 (by omega))
            refine zr_iconst X 88 dX8_inner_87 rfl ?_
            refine zr_goto X 92 dX8_inner_88 rfl ?_
            refine zr_callVe (kc' := (3011 - 1)) (ks' := (6340 - 40)) X 95 2 (m_X8_isThrown l Γ hp26m (a := 0) (b := 1) (by omega) (by omega)) gX8_inner_X8_isThrown rfl (by decide +kernel) rfl (by decide) ⟨_, _, hp26m.1⟩ rfl rfl (Nat.le_of_ble_eq_true rfl) dX8_inner_92 rfl (by omega) (by omega) (fun rv60 V61 hp62 => ?_)
            obtain ⟨⟨hp62x, hp62k, hp62e, hp62c, hp62m⟩, hp62g⟩ := hp62
            rw [hp62e]
            rcases hp62c with ⟨tc63a, tc63k, tc63x⟩ | ⟨tc63a, tc63b, tc63k, tc63x⟩ | ⟨tc63a, tc63b, tc63k, tc63x⟩
            · exact absurd tc63a (by decide)
            · skip
              subst tc63k tc63x
              have lc64 := hp62g _ _ _ hp26h (by omega)
              have fx65 : zfm V V61 := zag.tr fx27 (hp62g.mono (fun t ht => by omega))
              obtain ⟨τ66, τ66e⟩ : ∃ zz9 : Nat → Int, zz9 = zf τ14 36 2 := ⟨_, rfl⟩
              rw [← τ66e] at hp62m
              have τ66_q0 : τ66 (4 * q.toNat) = τ14 (4 * q.toNat) := by rw [τ66e]; exact zf_ne (by omega)
              have τ66_q1 : τ66 (4 * q.toNat + 1) = τ14 (4 * q.toNat + 1) := by rw [τ66e]; exact zf_ne (by omega)
              have τ66_q2 : τ66 (4 * q.toNat + 2) = τ14 (4 * q.toNat + 2) := by rw [τ66e]; exact zf_ne (by omega)
              have τ66_q3 : τ66 (4 * q.toNat + 3) = τ14 (4 * q.toNat + 3) := by rw [τ66e]; exact zf_ne (by omega)
              show zG C V61 (3011 - 1) (6340 - 40) 95 [(8, .int (zI (0))), (7, .ref hp26q), (0, .ref (c 60)), (1, .int (zI (q))), (2, .int (zI (a))), (3, .int (zI (b))), (4, .int (zI (p))), (5, .int (zI (e))), (6, .int (zI (how)))] [.int (zI (1))]
              refine zr_if_eq X 103 98 dX8_inner_95 rfl rfl (by omega) (fun bq67 => absurd bq67 (by omega)) (fun bq67 => ?_)
              refine zr_ldcS X 100 6 rfl dX8_inner_98 rfl ?_
              refine zr_goto X 116 dX8_inner_100 rfl ?_
              exact zr_aret X rfl (Or.inl ⟨_, rfl⟩) ⟨Γ.2.2.1 6, md, τ66, κ, rfl, hp62m.le (by omega), fx65, Or.inr (Or.inl ⟨by omega, by omega, by rw [τ66e, τ14e, zf_zf]⟩)⟩ dX8_inner_116
            · exact absurd tc63b (by decide)
          · refine zr_iload X 50 5 dX8_inner_48 rfl rfl ?_
            refine zr_iload X 52 6 dX8_inner_50 rfl rfl ?_
            refine zr_icmp_gt X 67 55 dX8_inner_52 rfl rfl (by omega) (by omega) (fun bq68 => ?_) (fun bq68 => ?_)
            · refine zr_iconst X 68 dX8_inner_67 rfl ?_
              refine zr_istore X 70 [(8, .int (zI (0))), (7, .ref hp26q), (0, .ref (c 60)), (1, .int (zI (q))), (2, .int (zI (a))), (3, .int (zI (b))), (4, .int (zI (p))), (5, .int (zI (e))), (6, .int (zI (how)))] dX8_inner_68 rfl (by decide) rfl ?_
              refine zr_aload_n X 71 2 dX8_inner_70 rfl rfl ?_
              refine zr_iconst X 72 dX8_inner_71 rfl ?_
              refine zr_iload X 74 0 dX8_inner_72 rfl rfl ?_
              refine zr_if_eq X 87 77 dX8_inner_74 rfl rfl (by omega) (fun bq69 => ?_) (fun bq69 => absurd bq69 (by omega))
              refine zr_iconst X 88 dX8_inner_87 rfl ?_
              refine zr_goto X 92 dX8_inner_88 rfl ?_
              refine zr_callVe (kc' := (3011 - 1)) (ks' := (6340 - 40)) X 95 2 (m_X8_isThrown l Γ hp26m (a := 0) (b := 1) (by omega) (by omega)) gX8_inner_X8_isThrown rfl (by decide +kernel) rfl (by decide) ⟨_, _, hp26m.1⟩ rfl rfl (Nat.le_of_ble_eq_true rfl) dX8_inner_92 rfl (by omega) (by omega) (fun rv70 V71 hp72 => ?_)
              obtain ⟨⟨hp72x, hp72k, hp72e, hp72c, hp72m⟩, hp72g⟩ := hp72
              rw [hp72e]
              rcases hp72c with ⟨tc73a, tc73k, tc73x⟩ | ⟨tc73a, tc73b, tc73k, tc73x⟩ | ⟨tc73a, tc73b, tc73k, tc73x⟩
              · exact absurd tc73a (by decide)
              · skip
                subst tc73k tc73x
                have lc74 := hp72g _ _ _ hp26h (by omega)
                have fx75 : zfm V V71 := zag.tr fx27 (hp72g.mono (fun t ht => by omega))
                obtain ⟨τ76, τ76e⟩ : ∃ zz9 : Nat → Int, zz9 = zf τ14 36 2 := ⟨_, rfl⟩
                rw [← τ76e] at hp72m
                have τ76_q0 : τ76 (4 * q.toNat) = τ14 (4 * q.toNat) := by rw [τ76e]; exact zf_ne (by omega)
                have τ76_q1 : τ76 (4 * q.toNat + 1) = τ14 (4 * q.toNat + 1) := by rw [τ76e]; exact zf_ne (by omega)
                have τ76_q2 : τ76 (4 * q.toNat + 2) = τ14 (4 * q.toNat + 2) := by rw [τ76e]; exact zf_ne (by omega)
                have τ76_q3 : τ76 (4 * q.toNat + 3) = τ14 (4 * q.toNat + 3) := by rw [τ76e]; exact zf_ne (by omega)
                show zG C V71 (3011 - 1) (6340 - 40) 95 [(8, .int (zI (0))), (7, .ref hp26q), (0, .ref (c 60)), (1, .int (zI (q))), (2, .int (zI (a))), (3, .int (zI (b))), (4, .int (zI (p))), (5, .int (zI (e))), (6, .int (zI (how)))] [.int (zI (1))]
                refine zr_if_eq X 103 98 dX8_inner_95 rfl rfl (by omega) (fun bq77 => absurd bq77 (by omega)) (fun bq77 => ?_)
                refine zr_ldcS X 100 6 rfl dX8_inner_98 rfl ?_
                refine zr_goto X 116 dX8_inner_100 rfl ?_
                exact zr_aret X rfl (Or.inl ⟨_, rfl⟩) ⟨Γ.2.2.1 6, md, τ76, κ, rfl, hp72m.le (by omega), fx75, Or.inr (Or.inl ⟨by omega, by omega, by rw [τ76e, τ14e, zf_zf]⟩)⟩ dX8_inner_116
              · exact absurd tc73b (by decide)
            · refine zr_iload X 57 6 dX8_inner_55 rfl rfl ?_
              refine zr_iload_n X 58 4 dX8_inner_57 rfl rfl ?_
              refine zr_iload_n X 59 3 dX8_inner_58 rfl rfl ?_
              refine zr_isub X 60 dX8_inner_59 rfl ?_
              refine zr_icmp_gt X 67 63 dX8_inner_60 rfl rfl (by omega) (by omega) (fun bq78 => ?_) (fun bq78 => ?_)
              · refine zr_iconst X 68 dX8_inner_67 rfl ?_
                refine zr_istore X 70 [(8, .int (zI (0))), (7, .ref hp26q), (0, .ref (c 60)), (1, .int (zI (q))), (2, .int (zI (a))), (3, .int (zI (b))), (4, .int (zI (p))), (5, .int (zI (e))), (6, .int (zI (how)))] dX8_inner_68 rfl (by decide) rfl ?_
                refine zr_aload_n X 71 2 dX8_inner_70 rfl rfl ?_
                refine zr_iconst X 72 dX8_inner_71 rfl ?_
                refine zr_iload X 74 0 dX8_inner_72 rfl rfl ?_
                refine zr_if_eq X 87 77 dX8_inner_74 rfl rfl (by omega) (fun bq79 => ?_) (fun bq79 => absurd bq79 (by omega))
                refine zr_iconst X 88 dX8_inner_87 rfl ?_
                refine zr_goto X 92 dX8_inner_88 rfl ?_
                refine zr_callVe (kc' := (3011 - 1)) (ks' := (6340 - 40)) X 95 2 (m_X8_isThrown l Γ hp26m (a := 0) (b := 1) (by omega) (by omega)) gX8_inner_X8_isThrown rfl (by decide +kernel) rfl (by decide) ⟨_, _, hp26m.1⟩ rfl rfl (Nat.le_of_ble_eq_true rfl) dX8_inner_92 rfl (by omega) (by omega) (fun rv80 V81 hp82 => ?_)
                obtain ⟨⟨hp82x, hp82k, hp82e, hp82c, hp82m⟩, hp82g⟩ := hp82
                rw [hp82e]
                rcases hp82c with ⟨tc83a, tc83k, tc83x⟩ | ⟨tc83a, tc83b, tc83k, tc83x⟩ | ⟨tc83a, tc83b, tc83k, tc83x⟩
                · exact absurd tc83a (by decide)
                · skip
                  subst tc83k tc83x
                  have lc84 := hp82g _ _ _ hp26h (by omega)
                  have fx85 : zfm V V81 := zag.tr fx27 (hp82g.mono (fun t ht => by omega))
                  obtain ⟨τ86, τ86e⟩ : ∃ zz9 : Nat → Int, zz9 = zf τ14 36 2 := ⟨_, rfl⟩
                  rw [← τ86e] at hp82m
                  have τ86_q0 : τ86 (4 * q.toNat) = τ14 (4 * q.toNat) := by rw [τ86e]; exact zf_ne (by omega)
                  have τ86_q1 : τ86 (4 * q.toNat + 1) = τ14 (4 * q.toNat + 1) := by rw [τ86e]; exact zf_ne (by omega)
                  have τ86_q2 : τ86 (4 * q.toNat + 2) = τ14 (4 * q.toNat + 2) := by rw [τ86e]; exact zf_ne (by omega)
                  have τ86_q3 : τ86 (4 * q.toNat + 3) = τ14 (4 * q.toNat + 3) := by rw [τ86e]; exact zf_ne (by omega)
                  show zG C V81 (3011 - 1) (6340 - 40) 95 [(8, .int (zI (0))), (7, .ref hp26q), (0, .ref (c 60)), (1, .int (zI (q))), (2, .int (zI (a))), (3, .int (zI (b))), (4, .int (zI (p))), (5, .int (zI (e))), (6, .int (zI (how)))] [.int (zI (1))]
                  refine zr_if_eq X 103 98 dX8_inner_95 rfl rfl (by omega) (fun bq87 => absurd bq87 (by omega)) (fun bq87 => ?_)
                  refine zr_ldcS X 100 6 rfl dX8_inner_98 rfl ?_
                  refine zr_goto X 116 dX8_inner_100 rfl ?_
                  exact zr_aret X rfl (Or.inl ⟨_, rfl⟩) ⟨Γ.2.2.1 6, md, τ86, κ, rfl, hp82m.le (by omega), fx85, Or.inr (Or.inl ⟨by omega, by omega, by rw [τ86e, τ14e, zf_zf]⟩)⟩ dX8_inner_116
                · exact absurd tc83b (by decide)
              · refine zr_iconst X 64 dX8_inner_63 rfl ?_
                refine zr_goto X 68 dX8_inner_64 rfl ?_
                refine zr_istore X 70 [(8, .int (zI (1))), (7, .ref hp26q), (0, .ref (c 60)), (1, .int (zI (q))), (2, .int (zI (a))), (3, .int (zI (b))), (4, .int (zI (p))), (5, .int (zI (e))), (6, .int (zI (how)))] dX8_inner_68 rfl (by decide) rfl ?_
                refine zr_aload_n X 71 2 dX8_inner_70 rfl rfl ?_
                refine zr_iconst X 72 dX8_inner_71 rfl ?_
                refine zr_iload X 74 0 dX8_inner_72 rfl rfl ?_
                refine zr_if_eq X 87 77 dX8_inner_74 rfl rfl (by omega) (fun bq88 => absurd bq88 (by omega)) (fun bq88 => ?_)
                refine zr_iload X 79 8 dX8_inner_77 rfl rfl ?_
                refine zr_iconst X 80 dX8_inner_79 rfl ?_
                refine zr_iconst X 81 dX8_inner_80 rfl ?_
                refine zr_callS (kc' := (3011 - 1)) (ks' := (6340 - 40)) X 84 3 (m_X8_isNo l Γ (V := V25) (x := how) (a := 0) (b := 2) (by omega) (by omega) (by omega)) gX8_inner_X8_isNo rfl (by decide +kernel) rfl (by decide) rfl (Nat.le_of_ble_eq_true rfl) dX8_inner_81 rfl (by omega) (by omega) (fun rv89 V90 hp91 => ?_)
                obtain ⟨⟨no92, no92e, no92a⟩, no92v⟩ := hp91
                rw [no92e, no92v]
                show zG C V25 (3011 - 1) (6340 - 40) 84 [(8, .int (zI (1))), (7, .ref hp26q), (0, .ref (c 60)), (1, .int (zI (q))), (2, .int (zI (a))), (3, .int (zI (b))), (4, .int (zI (p))), (5, .int (zI (e))), (6, .int (zI (how)))] [.int (zI (no92)), .int (zI (0)), .ref (c 60)]
                refine zr_if_eq X 91 87 dX8_inner_84 rfl rfl (by omega) (fun bq93 => ?_) (fun bq93 => ?_)
                · refine zr_iconst X 92 dX8_inner_91 rfl ?_
                  refine zr_callVe (kc' := (3011 - 1)) (ks' := (6340 - 40)) X 95 2 (m_X8_isThrown l Γ hp26m (a := 0) (b := 0) (by omega) (by omega)) gX8_inner_X8_isThrown rfl (by decide +kernel) rfl (by decide) ⟨_, _, hp26m.1⟩ rfl rfl (Nat.le_of_ble_eq_true rfl) dX8_inner_92 rfl (by omega) (by omega) (fun rv94 V95 hp96 => ?_)
                  obtain ⟨⟨hp96x, hp96k, hp96e, hp96c, hp96m⟩, hp96g⟩ := hp96
                  rw [hp96e]
                  rcases hp96c with ⟨tc97a, tc97k, tc97x⟩ | ⟨tc97a, tc97b, tc97k, tc97x⟩ | ⟨tc97a, tc97b, tc97k, tc97x⟩
                  · exact absurd tc97a (by decide)
                  · exact absurd tc97b (by decide)
                  · skip
                    subst tc97k tc97x
                    have lc98 := hp96g _ _ _ hp26h (by omega)
                    have fx99 : zfm V V95 := zag.tr fx27 (hp96g.mono (fun t ht => by omega))
                    obtain ⟨τ100, τ100e⟩ : ∃ zz9 : Nat → Int, zz9 = zf τ14 36 0 := ⟨_, rfl⟩
                    rw [← τ100e] at hp96m
                    have τ100_q0 : τ100 (4 * q.toNat) = τ14 (4 * q.toNat) := by rw [τ100e]; exact zf_ne (by omega)
                    have τ100_q1 : τ100 (4 * q.toNat + 1) = τ14 (4 * q.toNat + 1) := by rw [τ100e]; exact zf_ne (by omega)
                    have τ100_q2 : τ100 (4 * q.toNat + 2) = τ14 (4 * q.toNat + 2) := by rw [τ100e]; exact zf_ne (by omega)
                    have τ100_q3 : τ100 (4 * q.toNat + 3) = τ14 (4 * q.toNat + 3) := by rw [τ100e]; exact zf_ne (by omega)
                    show zG C V95 (3011 - 1) (6340 - 40) 95 [(8, .int (zI (1))), (7, .ref hp26q), (0, .ref (c 60)), (1, .int (zI (q))), (2, .int (zI (a))), (3, .int (zI (b))), (4, .int (zI (p))), (5, .int (zI (e))), (6, .int (zI (how)))] [.int (zI (0))]
                    refine zr_if_eq X 103 98 dX8_inner_95 rfl rfl (by omega) (fun bq101 => ?_) (fun bq101 => absurd bq101 (by omega))
                    refine zr_aload X 105 1 dX8_inner_103 rfl rfl ?_
                    refine zr_iload_n X 106 4 dX8_inner_105 rfl rfl ?_
                    refine zr_iload X 108 6 dX8_inner_106 rfl rfl ?_
                    refine zr_iadd X 109 dX8_inner_108 rfl ?_
                    refine zr_iload_n X 110 4 dX8_inner_109 rfl rfl ?_
                    refine zr_iload X 112 7 dX8_inner_110 rfl rfl ?_
                    refine zr_iadd X 113 dX8_inner_112 rfl ?_
                    refine zr_callS (kc' := (3011 - 1) - 3010) (ks' := (6340 - 40) - 6300) X 116 3 (m_X8_told l Γ (fr := a + p) (to := a + e) lc98 hp26c (by omega) (by omega) (by omega)) gX8_inner_X8_told rfl (by decide +kernel) rfl (by decide) rfl (Nat.le_of_ble_eq_true rfl) dX8_inner_113 rfl (by omega) (by omega) (fun rv102 V103 hp104 => ?_)
                    obtain ⟨hp104z, hp104e, hp104f⟩ := hp104
                    rw [hp104e]
                    have hp104g : zag (fun x => x ≠ 7) V95 V103 := hp104f
                    have hp104m := hp96m.kept hp104g (fun t h1 h2 => by omega)
                    have lc105 := hp104g _ _ _ lc98 (by omega)
                    have fx106 : zfm V V103 := zag.tr fx99 (hp104g.mono (fun t ht => by omega))
                    show zG C V103 ((3011 - 1) - 3010) ((6340 - 40) - 6300) 116 [(8, .int (zI (1))), (7, .ref hp26q), (0, .ref (c 60)), (1, .int (zI (q))), (2, .int (zI (a))), (3, .int (zI (b))), (4, .int (zI (p))), (5, .int (zI (e))), (6, .int (zI (how)))] [.ref hp104z]
                    exact zr_aret X rfl (Or.inl ⟨_, rfl⟩) ⟨hp104z, md, τ100, κ, rfl, hp104m.le (by omega), fx106, Or.inr (Or.inr ⟨by omega, by omega, by rw [τ100e, τ14e, zf_zf]⟩)⟩ dX8_inner_116
                · refine zr_iconst X 88 dX8_inner_87 rfl ?_
                  refine zr_goto X 92 dX8_inner_88 rfl ?_
                  refine zr_callVe (kc' := (3011 - 1)) (ks' := (6340 - 40)) X 95 2 (m_X8_isThrown l Γ hp26m (a := 0) (b := 1) (by omega) (by omega)) gX8_inner_X8_isThrown rfl (by decide +kernel) rfl (by decide) ⟨_, _, hp26m.1⟩ rfl rfl (Nat.le_of_ble_eq_true rfl) dX8_inner_92 rfl (by omega) (by omega) (fun rv107 V108 hp109 => ?_)
                  obtain ⟨⟨hp109x, hp109k, hp109e, hp109c, hp109m⟩, hp109g⟩ := hp109
                  rw [hp109e]
                  rcases hp109c with ⟨tc110a, tc110k, tc110x⟩ | ⟨tc110a, tc110b, tc110k, tc110x⟩ | ⟨tc110a, tc110b, tc110k, tc110x⟩
                  · exact absurd tc110a (by decide)
                  · skip
                    subst tc110k tc110x
                    have lc111 := hp109g _ _ _ hp26h (by omega)
                    have fx112 : zfm V V108 := zag.tr fx27 (hp109g.mono (fun t ht => by omega))
                    obtain ⟨τ113, τ113e⟩ : ∃ zz9 : Nat → Int, zz9 = zf τ14 36 2 := ⟨_, rfl⟩
                    rw [← τ113e] at hp109m
                    have τ113_q0 : τ113 (4 * q.toNat) = τ14 (4 * q.toNat) := by rw [τ113e]; exact zf_ne (by omega)
                    have τ113_q1 : τ113 (4 * q.toNat + 1) = τ14 (4 * q.toNat + 1) := by rw [τ113e]; exact zf_ne (by omega)
                    have τ113_q2 : τ113 (4 * q.toNat + 2) = τ14 (4 * q.toNat + 2) := by rw [τ113e]; exact zf_ne (by omega)
                    have τ113_q3 : τ113 (4 * q.toNat + 3) = τ14 (4 * q.toNat + 3) := by rw [τ113e]; exact zf_ne (by omega)
                    show zG C V108 (3011 - 1) (6340 - 40) 95 [(8, .int (zI (1))), (7, .ref hp26q), (0, .ref (c 60)), (1, .int (zI (q))), (2, .int (zI (a))), (3, .int (zI (b))), (4, .int (zI (p))), (5, .int (zI (e))), (6, .int (zI (how)))] [.int (zI (1))]
                    refine zr_if_eq X 103 98 dX8_inner_95 rfl rfl (by omega) (fun bq114 => absurd bq114 (by omega)) (fun bq114 => ?_)
                    refine zr_ldcS X 100 6 rfl dX8_inner_98 rfl ?_
                    refine zr_goto X 116 dX8_inner_100 rfl ?_
                    exact zr_aret X rfl (Or.inl ⟨_, rfl⟩) ⟨Γ.2.2.1 6, md, τ113, κ, rfl, hp109m.le (by omega), fx112, Or.inr (Or.inl ⟨by omega, by omega, by rw [τ113e, τ14e, zf_zf]⟩)⟩ dX8_inner_116
                  · exact absurd tc110b (by decide)
theorem zwt_cong {m : Int} {f g : Nat → Int} (e : ∀ k : Nat, (k : Int) < m → f k = g k) : zwt m f = zwt m g := by
  funext j
  unfold zwt
  by_cases c : (j : Int) < m
  · rw [if_pos c, if_pos c]
    exact e j c
  · rw [if_neg c, if_neg c]
theorem zsP.row {τ : Nat → Int} {q q2 k y : Int} {f h : Nat → Int} {n m : Nat} (z : zth (zwt (m : Int) h) (zwt (n : Int) f) m (n + 1 - m) k y) (en : (n : Int) = zsz τ q) (em : (m : Int) = zsz τ q2) (c : ∀ k : Nat, (k : Int) < zsz τ q → f k = zsg τ q k) (c2 : ∀ k : Nat, (k : Int) < zsz τ q2 → h k = zsg τ q2 k) : zsP τ q q2 k y := by
  unfold zsP
  rw [← en, ← em] at *
  rw [← zwt_cong c, ← zwt_cong c2]
  exact z
theorem zsN.row {τ : Nat → Int} {q q2 y : Int} {f h : Nat → Int} {n m : Nat} (z : y = (zno (zwt (m : Int) h) (zwt (n : Int) f) m (n + 1 - m) : Int)) (en : (n : Int) = zsz τ q) (em : (m : Int) = zsz τ q2) (c : ∀ k : Nat, (k : Int) < zsz τ q → f k = zsg τ q k) (c2 : ∀ k : Nat, (k : Int) < zsz τ q2 → h k = zsg τ q2 k) : y = zsN τ q q2 := by
  unfold zsN
  rw [← en, ← em] at *
  rw [← zwt_cong c, ← zwt_cong c2]
  exact z
theorem zsL.row {τ : Nat → Int} {q q2 y : Int} {f h : Nat → Int} {n m : Nat} (z : zth (zwt (m : Int) h) (zwt (n : Int) f) m (n + 1 - m) ((zno (zwt (m : Int) h) (zwt (n : Int) f) m (n + 1 - m) : Int) - 1) y) (en : (n : Int) = zsz τ q) (em : (m : Int) = zsz τ q2) (c : ∀ k : Nat, (k : Int) < zsz τ q → f k = zsg τ q k) (c2 : ∀ k : Nat, (k : Int) < zsz τ q2 → h k = zsg τ q2 k) : zsP τ q q2 (zsN τ q q2 - 1) y := by
  rw [← zsN.row rfl en em c c2]
  exact zsP.row z en em c c2
theorem zsB.row {τ : Nat → Int} {q y mn : Int} {f : Nat → Int} {n : Nat} (z : zgb (zwt (n : Int) f) mn.toNat y.toNat) (hy : 0 ≤ y) (en : (n : Int) = zsz τ q) (em : mn = zsz τ q) (c : ∀ k : Nat, (k : Int) < zsz τ q → f k = zsg τ q k) : zsB τ q y := by
  unfold zsB
  rw [← zwt_cong c, ← em]
  rw [en, ← em] at z
  exact ⟨hy, z⟩
/-- whether it lies anywhere -/
theorem zsP.any {τ : Nat → Int} {q q2 y : Int} (h : zsP τ q q2 0 y) : (y < 0 ∧ zsN τ q q2 ≤ 0) ∨ (0 ≤ y ∧ 0 < zsN τ q q2) := by
  rcases h with ⟨e, a⟩ | ⟨p, e, a, b, c⟩
  · refine Or.inl ⟨by omega, ?_⟩
    rcases a with a | a
    · exact absurd a (by decide)
    · exact a
  · refine Or.inr ⟨by omega, ?_⟩
    have h1 := zno_mono (w := zwt (zsz τ q2) (zsg τ q2)) (t := zwt (zsz τ q) (zsg τ q)) (m := (zsz τ q2).toNat) (show p + 1 ≤ (zsz τ q).toNat + 1 - (zsz τ q2).toNat by omega)
    rw [zno_in b] at h1
    unfold zsN
    omega
set_option maxRecDepth 100000 in
set_option maxHeartbeats 4000000 in
theorem m_X8_first (l : Launch) (Γ : zGam) {V : zV} {c md : Nat → Nat} {τ κ : Nat → Int} {E : Int} {q q2 : Int} (hM : zMo Γ V c md τ κ E) (hq : -2147483648 ≤ q ∧ q ≤ 2147483647) (hq2 : -2147483648 ≤ q2 ∧ q2 ≤ 2147483647) : zM l Γ 6 yX8_first wsX8_first 2 80 V [.ref (c 60), .int (zI (q)), .int (zI (q2))] (fun rv V' => ∃ (y : Int) (md' : Nat → Nat) (τ' κ' : Nat → Int), rv = some (.int (zI y)) ∧ zMo Γ V' c md' τ' κ' (E + 40) ∧ zfm V V' ∧ ((¬ ((0 ≤ q ∧ q ≤ 7) ∧ (0 ≤ q2 ∧ q2 ≤ 7)) ∧ y = 0 ∧ τ' = zf τ 36 1) ∨ (((0 ≤ q ∧ q ≤ 7) ∧ (0 ≤ q2 ∧ q2 ≤ 7)) ∧ ¬ (True) ∧ y = 0 ∧ τ' = zf τ 36 2) ∨ (((0 ≤ q ∧ q ≤ 7) ∧ (0 ≤ q2 ∧ q2 ≤ 7)) ∧ (True) ∧ (zsP (zf τ 36 0) q q2 0 y ∧ τ' = (zf τ 36 0))))) := by
  refine zM_of (cc := cX8_first) (nL := 3) (ret := (some .int)) (own := RX8) (by decide +kernel) rfl rfl (Nat.le_of_ble_eq_true rfl) (fun C X hi0 => ?_)
  have nn1 : 0 ≤ κ 0 ∧ κ 0 ≤ κ 1 ∧ κ 0 ≤ E ∧ κ 1 ≤ 7000 := hM.n.1
  show zG C V 2 80 0 [(0, .ref (c 60)), (1, .int (zI (q))), (2, .int (zI (q2)))] []
  refine zr_aload_n X 1 0 dX8_first_0 rfl rfl ?_
  refine zr_iload_n X 2 1 dX8_first_1 rfl rfl ?_
  refine zr_callS (kc' := 2) (ks' := 80) X 5 1 (m_X8_isNoSource l Γ (V := V) (x := q) (by omega)) gX8_first_X8_isNoSource rfl (by decide +kernel) rfl (by decide) rfl (Nat.le_of_ble_eq_true rfl) dX8_first_2 rfl (by omega) (by omega) (fun rv2 V3 hp4 => ?_)
  obtain ⟨⟨no5, no5e, no5a⟩, no5v⟩ := hp4
  rw [no5e, no5v]
  show zG C V 2 80 5 [(0, .ref (c 60)), (1, .int (zI (q))), (2, .int (zI (q2)))] [.int (zI (no5)), .ref (c 60)]
  refine zr_if_ne X 15 8 dX8_first_5 rfl rfl (by omega) (fun bq6 => ?_) (fun bq6 => ?_)
  · refine zr_iconst X 16 dX8_first_15 rfl ?_
    refine zr_goto X 20 dX8_first_16 rfl ?_
    refine zr_iconst X 21 dX8_first_20 rfl ?_
    refine zr_callVe (kc' := 2) (ks' := 80) X 24 2 (m_X8_isThrown l Γ hM (a := 1) (b := 0) (by omega) (by omega)) gX8_first_X8_isThrown rfl (by decide +kernel) rfl (by decide) ⟨_, _, hM.1⟩ rfl rfl (Nat.le_of_ble_eq_true rfl) dX8_first_21 rfl (by omega) (by omega) (fun rv7 V8 hp9 => ?_)
    obtain ⟨⟨hp9x, hp9k, hp9e, hp9c, hp9m⟩, hp9g⟩ := hp9
    rw [hp9e]
    rcases hp9c with ⟨tc10a, tc10k, tc10x⟩ | ⟨tc10a, tc10b, tc10k, tc10x⟩ | ⟨tc10a, tc10b, tc10k, tc10x⟩
    · skip
      subst tc10k tc10x
      have fx11 : zfm V V8 := (hp9g.mono (fun t ht => by omega))
      obtain ⟨τ12, τ12e⟩ : ∃ zz9 : Nat → Int, zz9 = zf τ 36 1 := ⟨_, rfl⟩
      rw [← τ12e] at hp9m
      show zG C V8 2 80 24 [(0, .ref (c 60)), (1, .int (zI (q))), (2, .int (zI (q2)))] [.int (zI (1))]
      refine zr_if_eq X 31 27 dX8_first_24 rfl rfl (by omega) (fun bq13 => absurd bq13 (by omega)) (fun bq13 => ?_)
      refine zr_iconst X 28 dX8_first_27 rfl ?_
      refine zr_goto X 45 dX8_first_28 rfl ?_
      exact zr_iret X rfl ⟨0, md, τ12, κ, rfl, hp9m.le (by omega), fx11, Or.inl ⟨by omega, rfl, by rw [τ12e]⟩⟩ dX8_first_45
    · exact absurd tc10a (by decide)
    · exact absurd tc10a (by decide)
  · refine zr_iload_n X 9 2 dX8_first_8 rfl rfl ?_
    refine zr_callS (kc' := 2) (ks' := 80) X 12 1 (m_X8_isNoSource l Γ (V := V) (x := q2) (by omega)) gX8_first_X8_isNoSource rfl (by decide +kernel) rfl (by decide) rfl (Nat.le_of_ble_eq_true rfl) dX8_first_9 rfl (by omega) (by omega) (fun rv14 V15 hp16 => ?_)
    obtain ⟨⟨no17, no17e, no17a⟩, no17v⟩ := hp16
    rw [no17e, no17v]
    show zG C V 2 80 12 [(0, .ref (c 60)), (1, .int (zI (q))), (2, .int (zI (q2)))] [.int (zI (no17)), .ref (c 60)]
    refine zr_if_eq X 19 15 dX8_first_12 rfl rfl (by omega) (fun bq18 => ?_) (fun bq18 => ?_)
    · refine zr_iconst X 20 dX8_first_19 rfl ?_
      refine zr_iconst X 21 dX8_first_20 rfl ?_
      refine zr_callVe (kc' := 2) (ks' := 80) X 24 2 (m_X8_isThrown l Γ hM (a := 0) (b := 0) (by omega) (by omega)) gX8_first_X8_isThrown rfl (by decide +kernel) rfl (by decide) ⟨_, _, hM.1⟩ rfl rfl (Nat.le_of_ble_eq_true rfl) dX8_first_21 rfl (by omega) (by omega) (fun rv19 V20 hp21 => ?_)
      obtain ⟨⟨hp21x, hp21k, hp21e, hp21c, hp21m⟩, hp21g⟩ := hp21
      rw [hp21e]
      rcases hp21c with ⟨tc22a, tc22k, tc22x⟩ | ⟨tc22a, tc22b, tc22k, tc22x⟩ | ⟨tc22a, tc22b, tc22k, tc22x⟩
      · exact absurd tc22a (by decide)
      · exact absurd tc22b (by decide)
      · skip
        subst tc22k tc22x
        have fx23 : zfm V V20 := (hp21g.mono (fun t ht => by omega))
        obtain ⟨τ24, τ24e⟩ : ∃ zz9 : Nat → Int, zz9 = zf τ 36 0 := ⟨_, rfl⟩
        rw [← τ24e] at hp21m
        show zG C V20 2 80 24 [(0, .ref (c 60)), (1, .int (zI (q))), (2, .int (zI (q2)))] [.int (zI (0))]
        refine zr_if_eq X 31 27 dX8_first_24 rfl rfl (by omega) (fun bq25 => ?_) (fun bq25 => absurd bq25 (by omega))
        refine zr_aload_n X 32 0 dX8_first_31 rfl rfl ?_
        refine zr_iload_n X 33 1 dX8_first_32 rfl rfl ?_
        refine zr_callVe (kc' := (2 - 1)) (ks' := (80 - 40)) X 36 1 (m_X8_textOf l Γ (tg := 76) (q := q) hp21m (by omega)) gX8_first_X8_textOf rfl (by decide +kernel) rfl (by decide) ⟨_, _, hp21m.1⟩ rfl rfl (Nat.le_of_ble_eq_true rfl) dX8_first_33 rfl (by omega) (by omega) (fun rv26 V27 hp28 => ?_)
        obtain ⟨hp28q, hp28t, hp28f, hp28e, hp28h, hp28c, hp28a, hp28n1, hp28n2, hp28g, hp28z⟩ := hp28
        rw [hp28e]
        have hp28m := hp21m.kept hp28g (fun _ _ _ => trivial)
        have fx29 : zfm V V27 := zag.tr fx23 (hp28g.mono (fun _ _ => trivial))
        show zG C V27 (2 - 1) (80 - 40) 36 [(0, .ref (c 60)), (1, .int (zI (q))), (2, .int (zI (q2)))] [.ref hp28q]
        refine zr_aload_n X 37 0 dX8_first_36 rfl rfl ?_
        refine zr_iload_n X 38 2 dX8_first_37 rfl rfl ?_
        refine zr_callVe (kc' := ((2 - 1) - 1)) (ks' := ((80 - 40) - 40)) X 41 1 (m_X8_textOf l Γ (tg := 77) (q := q2) hp28m (by omega)) gX8_first_X8_textOf rfl (by decide +kernel) rfl (by decide) ⟨_, _, hp28m.1⟩ rfl rfl (Nat.le_of_ble_eq_true rfl) dX8_first_38 rfl (by omega) (by omega) (fun rv30 V31 hp32 => ?_)
        obtain ⟨hp32q, hp32t, hp32f, hp32e, hp32h, hp32c, hp32a, hp32n1, hp32n2, hp32g, hp32z⟩ := hp32
        rw [hp32e]
        have hp32m := hp28m.kept hp32g (fun _ _ _ => trivial)
        have lc33 := hp32g _ _ _ hp28h trivial
        have fx34 : zfm V V31 := zag.tr fx29 (hp32g.mono (fun _ _ => trivial))
        show zG C V31 ((2 - 1) - 1) ((80 - 40) - 40) 41 [(0, .ref (c 60)), (1, .int (zI (q))), (2, .int (zI (q2)))] [.ref hp32q, .ref hp28q]
        refine zr_iconst X 42 dX8_first_41 rfl ?_
        refine zr_callS (kc' := ((2 - 1) - 1)) (ks' := ((80 - 40) - 40)) X 45 3 (m_X8_nth l Γ (w := 0) lc33 hp28c (by omega) hp32h hp32c (by omega) (by omega)) gX8_first_X8_nth rfl (by decide +kernel) rfl (by decide) rfl (Nat.le_of_ble_eq_true rfl) dX8_first_42 rfl (by omega) (by omega) (fun rv35 V36 hp37 => ?_)
        obtain ⟨⟨y38, y38e, y380, y381, y382, y383⟩, y38v⟩ := hp37
        rw [y38e, y38v]
        show zG C V31 ((2 - 1) - 1) ((80 - 40) - 40) 45 [(0, .ref (c 60)), (1, .int (zI (q))), (2, .int (zI (q2)))] [.int (zI (y38))]
        exact zr_iret X rfl ⟨y38, md, τ24, κ, rfl, hp32m.le (by omega), fx34, Or.inr (Or.inr ⟨by omega, trivial, ⟨by rw [← τ24e]; exact zsP.row y383 (by omega) (by omega) hp28z hp32z, by rw [τ24e]⟩⟩)⟩ dX8_first_45
    · refine zr_iconst X 16 dX8_first_15 rfl ?_
      refine zr_goto X 20 dX8_first_16 rfl ?_
      refine zr_iconst X 21 dX8_first_20 rfl ?_
      refine zr_callVe (kc' := 2) (ks' := 80) X 24 2 (m_X8_isThrown l Γ hM (a := 1) (b := 0) (by omega) (by omega)) gX8_first_X8_isThrown rfl (by decide +kernel) rfl (by decide) ⟨_, _, hM.1⟩ rfl rfl (Nat.le_of_ble_eq_true rfl) dX8_first_21 rfl (by omega) (by omega) (fun rv39 V40 hp41 => ?_)
      obtain ⟨⟨hp41x, hp41k, hp41e, hp41c, hp41m⟩, hp41g⟩ := hp41
      rw [hp41e]
      rcases hp41c with ⟨tc42a, tc42k, tc42x⟩ | ⟨tc42a, tc42b, tc42k, tc42x⟩ | ⟨tc42a, tc42b, tc42k, tc42x⟩
      · skip
        subst tc42k tc42x
        have fx43 : zfm V V40 := (hp41g.mono (fun t ht => by omega))
        obtain ⟨τ44, τ44e⟩ : ∃ zz9 : Nat → Int, zz9 = zf τ 36 1 := ⟨_, rfl⟩
        rw [← τ44e] at hp41m
        show zG C V40 2 80 24 [(0, .ref (c 60)), (1, .int (zI (q))), (2, .int (zI (q2)))] [.int (zI (1))]
        refine zr_if_eq X 31 27 dX8_first_24 rfl rfl (by omega) (fun bq45 => absurd bq45 (by omega)) (fun bq45 => ?_)
        refine zr_iconst X 28 dX8_first_27 rfl ?_
        refine zr_goto X 45 dX8_first_28 rfl ?_
        exact zr_iret X rfl ⟨0, md, τ44, κ, rfl, hp41m.le (by omega), fx43, Or.inl ⟨by omega, rfl, by rw [τ44e]⟩⟩ dX8_first_45
      · exact absurd tc42a (by decide)
      · exact absurd tc42a (by decide)
set_option maxRecDepth 100000 in
set_option maxHeartbeats 4000000 in
theorem m_X8_last (l : Launch) (Γ : zGam) {V : zV} {c md : Nat → Nat} {τ κ : Nat → Int} {E : Int} {q q2 : Int} (hM : zMo Γ V c md τ κ E) (hq : -2147483648 ≤ q ∧ q ≤ 2147483647) (hq2 : -2147483648 ≤ q2 ∧ q2 ≤ 2147483647) : zM l Γ 6 yX8_last wsX8_last 2 80 V [.ref (c 60), .int (zI (q)), .int (zI (q2))] (fun rv V' => ∃ (y : Int) (md' : Nat → Nat) (τ' κ' : Nat → Int), rv = some (.int (zI y)) ∧ zMo Γ V' c md' τ' κ' (E + 40) ∧ zfm V V' ∧ ((¬ ((0 ≤ q ∧ q ≤ 7) ∧ (0 ≤ q2 ∧ q2 ≤ 7)) ∧ y = 0 ∧ τ' = zf τ 36 1) ∨ (((0 ≤ q ∧ q ≤ 7) ∧ (0 ≤ q2 ∧ q2 ≤ 7)) ∧ ¬ (True) ∧ y = 0 ∧ τ' = zf τ 36 2) ∨ (((0 ≤ q ∧ q ≤ 7) ∧ (0 ≤ q2 ∧ q2 ≤ 7)) ∧ (True) ∧ (zsP (zf τ 36 0) q q2 (zsN (zf τ 36 0) q q2 - 1) y ∧ τ' = (zf τ 36 0))))) := by
  refine zM_of (cc := cX8_last) (nL := 3) (ret := (some .int)) (own := RX8) (by decide +kernel) rfl rfl (Nat.le_of_ble_eq_true rfl) (fun C X hi0 => ?_)
  have nn1 : 0 ≤ κ 0 ∧ κ 0 ≤ κ 1 ∧ κ 0 ≤ E ∧ κ 1 ≤ 7000 := hM.n.1
  show zG C V 2 80 0 [(0, .ref (c 60)), (1, .int (zI (q))), (2, .int (zI (q2)))] []
  refine zr_aload_n X 1 0 dX8_last_0 rfl rfl ?_
  refine zr_iload_n X 2 1 dX8_last_1 rfl rfl ?_
  refine zr_callS (kc' := 2) (ks' := 80) X 5 1 (m_X8_isNoSource l Γ (V := V) (x := q) (by omega)) gX8_last_X8_isNoSource rfl (by decide +kernel) rfl (by decide) rfl (Nat.le_of_ble_eq_true rfl) dX8_last_2 rfl (by omega) (by omega) (fun rv2 V3 hp4 => ?_)
  obtain ⟨⟨no5, no5e, no5a⟩, no5v⟩ := hp4
  rw [no5e, no5v]
  show zG C V 2 80 5 [(0, .ref (c 60)), (1, .int (zI (q))), (2, .int (zI (q2)))] [.int (zI (no5)), .ref (c 60)]
  refine zr_if_ne X 15 8 dX8_last_5 rfl rfl (by omega) (fun bq6 => ?_) (fun bq6 => ?_)
  · refine zr_iconst X 16 dX8_last_15 rfl ?_
    refine zr_goto X 20 dX8_last_16 rfl ?_
    refine zr_iconst X 21 dX8_last_20 rfl ?_
    refine zr_callVe (kc' := 2) (ks' := 80) X 24 2 (m_X8_isThrown l Γ hM (a := 1) (b := 0) (by omega) (by omega)) gX8_last_X8_isThrown rfl (by decide +kernel) rfl (by decide) ⟨_, _, hM.1⟩ rfl rfl (Nat.le_of_ble_eq_true rfl) dX8_last_21 rfl (by omega) (by omega) (fun rv7 V8 hp9 => ?_)
    obtain ⟨⟨hp9x, hp9k, hp9e, hp9c, hp9m⟩, hp9g⟩ := hp9
    rw [hp9e]
    rcases hp9c with ⟨tc10a, tc10k, tc10x⟩ | ⟨tc10a, tc10b, tc10k, tc10x⟩ | ⟨tc10a, tc10b, tc10k, tc10x⟩
    · skip
      subst tc10k tc10x
      have fx11 : zfm V V8 := (hp9g.mono (fun t ht => by omega))
      obtain ⟨τ12, τ12e⟩ : ∃ zz9 : Nat → Int, zz9 = zf τ 36 1 := ⟨_, rfl⟩
      rw [← τ12e] at hp9m
      show zG C V8 2 80 24 [(0, .ref (c 60)), (1, .int (zI (q))), (2, .int (zI (q2)))] [.int (zI (1))]
      refine zr_if_eq X 31 27 dX8_last_24 rfl rfl (by omega) (fun bq13 => absurd bq13 (by omega)) (fun bq13 => ?_)
      refine zr_iconst X 28 dX8_last_27 rfl ?_
      refine zr_goto X 44 dX8_last_28 rfl ?_
      exact zr_iret X rfl ⟨0, md, τ12, κ, rfl, hp9m.le (by omega), fx11, Or.inl ⟨by omega, rfl, by rw [τ12e]⟩⟩ dX8_last_44
    · exact absurd tc10a (by decide)
    · exact absurd tc10a (by decide)
  · refine zr_iload_n X 9 2 dX8_last_8 rfl rfl ?_
    refine zr_callS (kc' := 2) (ks' := 80) X 12 1 (m_X8_isNoSource l Γ (V := V) (x := q2) (by omega)) gX8_last_X8_isNoSource rfl (by decide +kernel) rfl (by decide) rfl (Nat.le_of_ble_eq_true rfl) dX8_last_9 rfl (by omega) (by omega) (fun rv14 V15 hp16 => ?_)
    obtain ⟨⟨no17, no17e, no17a⟩, no17v⟩ := hp16
    rw [no17e, no17v]
    show zG C V 2 80 12 [(0, .ref (c 60)), (1, .int (zI (q))), (2, .int (zI (q2)))] [.int (zI (no17)), .ref (c 60)]
    refine zr_if_eq X 19 15 dX8_last_12 rfl rfl (by omega) (fun bq18 => ?_) (fun bq18 => ?_)
    · refine zr_iconst X 20 dX8_last_19 rfl ?_
      refine zr_iconst X 21 dX8_last_20 rfl ?_
      refine zr_callVe (kc' := 2) (ks' := 80) X 24 2 (m_X8_isThrown l Γ hM (a := 0) (b := 0) (by omega) (by omega)) gX8_last_X8_isThrown rfl (by decide +kernel) rfl (by decide) ⟨_, _, hM.1⟩ rfl rfl (Nat.le_of_ble_eq_true rfl) dX8_last_21 rfl (by omega) (by omega) (fun rv19 V20 hp21 => ?_)
      obtain ⟨⟨hp21x, hp21k, hp21e, hp21c, hp21m⟩, hp21g⟩ := hp21
      rw [hp21e]
      rcases hp21c with ⟨tc22a, tc22k, tc22x⟩ | ⟨tc22a, tc22b, tc22k, tc22x⟩ | ⟨tc22a, tc22b, tc22k, tc22x⟩
      · exact absurd tc22a (by decide)
      · exact absurd tc22b (by decide)
      · skip
        subst tc22k tc22x
        have fx23 : zfm V V20 := (hp21g.mono (fun t ht => by omega))
        obtain ⟨τ24, τ24e⟩ : ∃ zz9 : Nat → Int, zz9 = zf τ 36 0 := ⟨_, rfl⟩
        rw [← τ24e] at hp21m
        show zG C V20 2 80 24 [(0, .ref (c 60)), (1, .int (zI (q))), (2, .int (zI (q2)))] [.int (zI (0))]
        refine zr_if_eq X 31 27 dX8_last_24 rfl rfl (by omega) (fun bq25 => ?_) (fun bq25 => absurd bq25 (by omega))
        refine zr_aload_n X 32 0 dX8_last_31 rfl rfl ?_
        refine zr_iload_n X 33 1 dX8_last_32 rfl rfl ?_
        refine zr_callVe (kc' := (2 - 1)) (ks' := (80 - 40)) X 36 1 (m_X8_textOf l Γ (tg := 76) (q := q) hp21m (by omega)) gX8_last_X8_textOf rfl (by decide +kernel) rfl (by decide) ⟨_, _, hp21m.1⟩ rfl rfl (Nat.le_of_ble_eq_true rfl) dX8_last_33 rfl (by omega) (by omega) (fun rv26 V27 hp28 => ?_)
        obtain ⟨hp28q, hp28t, hp28f, hp28e, hp28h, hp28c, hp28a, hp28n1, hp28n2, hp28g, hp28z⟩ := hp28
        rw [hp28e]
        have hp28m := hp21m.kept hp28g (fun _ _ _ => trivial)
        have fx29 : zfm V V27 := zag.tr fx23 (hp28g.mono (fun _ _ => trivial))
        show zG C V27 (2 - 1) (80 - 40) 36 [(0, .ref (c 60)), (1, .int (zI (q))), (2, .int (zI (q2)))] [.ref hp28q]
        refine zr_aload_n X 37 0 dX8_last_36 rfl rfl ?_
        refine zr_iload_n X 38 2 dX8_last_37 rfl rfl ?_
        refine zr_callVe (kc' := ((2 - 1) - 1)) (ks' := ((80 - 40) - 40)) X 41 1 (m_X8_textOf l Γ (tg := 77) (q := q2) hp28m (by omega)) gX8_last_X8_textOf rfl (by decide +kernel) rfl (by decide) ⟨_, _, hp28m.1⟩ rfl rfl (Nat.le_of_ble_eq_true rfl) dX8_last_38 rfl (by omega) (by omega) (fun rv30 V31 hp32 => ?_)
        obtain ⟨hp32q, hp32t, hp32f, hp32e, hp32h, hp32c, hp32a, hp32n1, hp32n2, hp32g, hp32z⟩ := hp32
        rw [hp32e]
        have hp32m := hp28m.kept hp32g (fun _ _ _ => trivial)
        have lc33 := hp32g _ _ _ hp28h trivial
        have fx34 : zfm V V31 := zag.tr fx29 (hp32g.mono (fun _ _ => trivial))
        show zG C V31 ((2 - 1) - 1) ((80 - 40) - 40) 41 [(0, .ref (c 60)), (1, .int (zI (q))), (2, .int (zI (q2)))] [.ref hp32q, .ref hp28q]
        refine zr_callS (kc' := ((2 - 1) - 1)) (ks' := ((80 - 40) - 40)) X 44 2 (m_X8_lastOf l Γ lc33 hp28c (by omega) hp32h hp32c (by omega)) gX8_last_X8_lastOf rfl (by decide +kernel) rfl (by decide) rfl (Nat.le_of_ble_eq_true rfl) dX8_last_41 rfl (by omega) (by omega) (fun rv35 V36 hp37 => ?_)
        obtain ⟨⟨y38, y38e, y380, y381, y382⟩, y38v⟩ := hp37
        rw [y38e, y38v]
        show zG C V31 ((2 - 1) - 1) ((80 - 40) - 40) 44 [(0, .ref (c 60)), (1, .int (zI (q))), (2, .int (zI (q2)))] [.int (zI (y38))]
        exact zr_iret X rfl ⟨y38, md, τ24, κ, rfl, hp32m.le (by omega), fx34, Or.inr (Or.inr ⟨by omega, trivial, ⟨by rw [← τ24e]; exact zsL.row y382 (by omega) (by omega) hp28z hp32z, by rw [τ24e]⟩⟩)⟩ dX8_last_44
    · refine zr_iconst X 16 dX8_last_15 rfl ?_
      refine zr_goto X 20 dX8_last_16 rfl ?_
      refine zr_iconst X 21 dX8_last_20 rfl ?_
      refine zr_callVe (kc' := 2) (ks' := 80) X 24 2 (m_X8_isThrown l Γ hM (a := 1) (b := 0) (by omega) (by omega)) gX8_last_X8_isThrown rfl (by decide +kernel) rfl (by decide) ⟨_, _, hM.1⟩ rfl rfl (Nat.le_of_ble_eq_true rfl) dX8_last_21 rfl (by omega) (by omega) (fun rv39 V40 hp41 => ?_)
      obtain ⟨⟨hp41x, hp41k, hp41e, hp41c, hp41m⟩, hp41g⟩ := hp41
      rw [hp41e]
      rcases hp41c with ⟨tc42a, tc42k, tc42x⟩ | ⟨tc42a, tc42b, tc42k, tc42x⟩ | ⟨tc42a, tc42b, tc42k, tc42x⟩
      · skip
        subst tc42k tc42x
        have fx43 : zfm V V40 := (hp41g.mono (fun t ht => by omega))
        obtain ⟨τ44, τ44e⟩ : ∃ zz9 : Nat → Int, zz9 = zf τ 36 1 := ⟨_, rfl⟩
        rw [← τ44e] at hp41m
        show zG C V40 2 80 24 [(0, .ref (c 60)), (1, .int (zI (q))), (2, .int (zI (q2)))] [.int (zI (1))]
        refine zr_if_eq X 31 27 dX8_last_24 rfl rfl (by omega) (fun bq45 => absurd bq45 (by omega)) (fun bq45 => ?_)
        refine zr_iconst X 28 dX8_last_27 rfl ?_
        refine zr_goto X 44 dX8_last_28 rfl ?_
        exact zr_iret X rfl ⟨0, md, τ44, κ, rfl, hp41m.le (by omega), fx43, Or.inl ⟨by omega, rfl, by rw [τ44e]⟩⟩ dX8_last_44
      · exact absurd tc42a (by decide)
      · exact absurd tc42a (by decide)
set_option maxRecDepth 100000 in
set_option maxHeartbeats 4000000 in
theorem m_X8_count (l : Launch) (Γ : zGam) {V : zV} {c md : Nat → Nat} {τ κ : Nat → Int} {E : Int} {q q2 : Int} (hM : zMo Γ V c md τ κ E) (hq : -2147483648 ≤ q ∧ q ≤ 2147483647) (hq2 : -2147483648 ≤ q2 ∧ q2 ≤ 2147483647) : zM l Γ 6 yX8_count wsX8_count 2 80 V [.ref (c 60), .int (zI (q)), .int (zI (q2))] (fun rv V' => ∃ (y : Int) (md' : Nat → Nat) (τ' κ' : Nat → Int), rv = some (.int (zI y)) ∧ zMo Γ V' c md' τ' κ' (E + 40) ∧ zfm V V' ∧ ((¬ ((0 ≤ q ∧ q ≤ 7) ∧ (0 ≤ q2 ∧ q2 ≤ 7)) ∧ y = 0 ∧ τ' = zf τ 36 1) ∨ (((0 ≤ q ∧ q ≤ 7) ∧ (0 ≤ q2 ∧ q2 ≤ 7)) ∧ ¬ (True) ∧ y = 0 ∧ τ' = zf τ 36 2) ∨ (((0 ≤ q ∧ q ≤ 7) ∧ (0 ≤ q2 ∧ q2 ≤ 7)) ∧ (True) ∧ (y = zsN (zf τ 36 0) q q2 ∧ τ' = (zf τ 36 0))))) := by
  refine zM_of (cc := cX8_count) (nL := 3) (ret := (some .int)) (own := RX8) (by decide +kernel) rfl rfl (Nat.le_of_ble_eq_true rfl) (fun C X hi0 => ?_)
  have nn1 : 0 ≤ κ 0 ∧ κ 0 ≤ κ 1 ∧ κ 0 ≤ E ∧ κ 1 ≤ 7000 := hM.n.1
  show zG C V 2 80 0 [(0, .ref (c 60)), (1, .int (zI (q))), (2, .int (zI (q2)))] []
  refine zr_aload_n X 1 0 dX8_count_0 rfl rfl ?_
  refine zr_iload_n X 2 1 dX8_count_1 rfl rfl ?_
  refine zr_callS (kc' := 2) (ks' := 80) X 5 1 (m_X8_isNoSource l Γ (V := V) (x := q) (by omega)) gX8_count_X8_isNoSource rfl (by decide +kernel) rfl (by decide) rfl (Nat.le_of_ble_eq_true rfl) dX8_count_2 rfl (by omega) (by omega) (fun rv2 V3 hp4 => ?_)
  obtain ⟨⟨no5, no5e, no5a⟩, no5v⟩ := hp4
  rw [no5e, no5v]
  show zG C V 2 80 5 [(0, .ref (c 60)), (1, .int (zI (q))), (2, .int (zI (q2)))] [.int (zI (no5)), .ref (c 60)]
  refine zr_if_ne X 15 8 dX8_count_5 rfl rfl (by omega) (fun bq6 => ?_) (fun bq6 => ?_)
  · refine zr_iconst X 16 dX8_count_15 rfl ?_
    refine zr_goto X 20 dX8_count_16 rfl ?_
    refine zr_iconst X 21 dX8_count_20 rfl ?_
    refine zr_callVe (kc' := 2) (ks' := 80) X 24 2 (m_X8_isThrown l Γ hM (a := 1) (b := 0) (by omega) (by omega)) gX8_count_X8_isThrown rfl (by decide +kernel) rfl (by decide) ⟨_, _, hM.1⟩ rfl rfl (Nat.le_of_ble_eq_true rfl) dX8_count_21 rfl (by omega) (by omega) (fun rv7 V8 hp9 => ?_)
    obtain ⟨⟨hp9x, hp9k, hp9e, hp9c, hp9m⟩, hp9g⟩ := hp9
    rw [hp9e]
    rcases hp9c with ⟨tc10a, tc10k, tc10x⟩ | ⟨tc10a, tc10b, tc10k, tc10x⟩ | ⟨tc10a, tc10b, tc10k, tc10x⟩
    · skip
      subst tc10k tc10x
      have fx11 : zfm V V8 := (hp9g.mono (fun t ht => by omega))
      obtain ⟨τ12, τ12e⟩ : ∃ zz9 : Nat → Int, zz9 = zf τ 36 1 := ⟨_, rfl⟩
      rw [← τ12e] at hp9m
      show zG C V8 2 80 24 [(0, .ref (c 60)), (1, .int (zI (q))), (2, .int (zI (q2)))] [.int (zI (1))]
      refine zr_if_eq X 31 27 dX8_count_24 rfl rfl (by omega) (fun bq13 => absurd bq13 (by omega)) (fun bq13 => ?_)
      refine zr_iconst X 28 dX8_count_27 rfl ?_
      refine zr_goto X 44 dX8_count_28 rfl ?_
      exact zr_iret X rfl ⟨0, md, τ12, κ, rfl, hp9m.le (by omega), fx11, Or.inl ⟨by omega, rfl, by rw [τ12e]⟩⟩ dX8_count_44
    · exact absurd tc10a (by decide)
    · exact absurd tc10a (by decide)
  · refine zr_iload_n X 9 2 dX8_count_8 rfl rfl ?_
    refine zr_callS (kc' := 2) (ks' := 80) X 12 1 (m_X8_isNoSource l Γ (V := V) (x := q2) (by omega)) gX8_count_X8_isNoSource rfl (by decide +kernel) rfl (by decide) rfl (Nat.le_of_ble_eq_true rfl) dX8_count_9 rfl (by omega) (by omega) (fun rv14 V15 hp16 => ?_)
    obtain ⟨⟨no17, no17e, no17a⟩, no17v⟩ := hp16
    rw [no17e, no17v]
    show zG C V 2 80 12 [(0, .ref (c 60)), (1, .int (zI (q))), (2, .int (zI (q2)))] [.int (zI (no17)), .ref (c 60)]
    refine zr_if_eq X 19 15 dX8_count_12 rfl rfl (by omega) (fun bq18 => ?_) (fun bq18 => ?_)
    · refine zr_iconst X 20 dX8_count_19 rfl ?_
      refine zr_iconst X 21 dX8_count_20 rfl ?_
      refine zr_callVe (kc' := 2) (ks' := 80) X 24 2 (m_X8_isThrown l Γ hM (a := 0) (b := 0) (by omega) (by omega)) gX8_count_X8_isThrown rfl (by decide +kernel) rfl (by decide) ⟨_, _, hM.1⟩ rfl rfl (Nat.le_of_ble_eq_true rfl) dX8_count_21 rfl (by omega) (by omega) (fun rv19 V20 hp21 => ?_)
      obtain ⟨⟨hp21x, hp21k, hp21e, hp21c, hp21m⟩, hp21g⟩ := hp21
      rw [hp21e]
      rcases hp21c with ⟨tc22a, tc22k, tc22x⟩ | ⟨tc22a, tc22b, tc22k, tc22x⟩ | ⟨tc22a, tc22b, tc22k, tc22x⟩
      · exact absurd tc22a (by decide)
      · exact absurd tc22b (by decide)
      · skip
        subst tc22k tc22x
        have fx23 : zfm V V20 := (hp21g.mono (fun t ht => by omega))
        obtain ⟨τ24, τ24e⟩ : ∃ zz9 : Nat → Int, zz9 = zf τ 36 0 := ⟨_, rfl⟩
        rw [← τ24e] at hp21m
        show zG C V20 2 80 24 [(0, .ref (c 60)), (1, .int (zI (q))), (2, .int (zI (q2)))] [.int (zI (0))]
        refine zr_if_eq X 31 27 dX8_count_24 rfl rfl (by omega) (fun bq25 => ?_) (fun bq25 => absurd bq25 (by omega))
        refine zr_aload_n X 32 0 dX8_count_31 rfl rfl ?_
        refine zr_iload_n X 33 1 dX8_count_32 rfl rfl ?_
        refine zr_callVe (kc' := (2 - 1)) (ks' := (80 - 40)) X 36 1 (m_X8_textOf l Γ (tg := 76) (q := q) hp21m (by omega)) gX8_count_X8_textOf rfl (by decide +kernel) rfl (by decide) ⟨_, _, hp21m.1⟩ rfl rfl (Nat.le_of_ble_eq_true rfl) dX8_count_33 rfl (by omega) (by omega) (fun rv26 V27 hp28 => ?_)
        obtain ⟨hp28q, hp28t, hp28f, hp28e, hp28h, hp28c, hp28a, hp28n1, hp28n2, hp28g, hp28z⟩ := hp28
        rw [hp28e]
        have hp28m := hp21m.kept hp28g (fun _ _ _ => trivial)
        have fx29 : zfm V V27 := zag.tr fx23 (hp28g.mono (fun _ _ => trivial))
        show zG C V27 (2 - 1) (80 - 40) 36 [(0, .ref (c 60)), (1, .int (zI (q))), (2, .int (zI (q2)))] [.ref hp28q]
        refine zr_aload_n X 37 0 dX8_count_36 rfl rfl ?_
        refine zr_iload_n X 38 2 dX8_count_37 rfl rfl ?_
        refine zr_callVe (kc' := ((2 - 1) - 1)) (ks' := ((80 - 40) - 40)) X 41 1 (m_X8_textOf l Γ (tg := 77) (q := q2) hp28m (by omega)) gX8_count_X8_textOf rfl (by decide +kernel) rfl (by decide) ⟨_, _, hp28m.1⟩ rfl rfl (Nat.le_of_ble_eq_true rfl) dX8_count_38 rfl (by omega) (by omega) (fun rv30 V31 hp32 => ?_)
        obtain ⟨hp32q, hp32t, hp32f, hp32e, hp32h, hp32c, hp32a, hp32n1, hp32n2, hp32g, hp32z⟩ := hp32
        rw [hp32e]
        have hp32m := hp28m.kept hp32g (fun _ _ _ => trivial)
        have lc33 := hp32g _ _ _ hp28h trivial
        have fx34 : zfm V V31 := zag.tr fx29 (hp32g.mono (fun _ _ => trivial))
        show zG C V31 ((2 - 1) - 1) ((80 - 40) - 40) 41 [(0, .ref (c 60)), (1, .int (zI (q))), (2, .int (zI (q2)))] [.ref hp32q, .ref hp28q]
        refine zr_callS (kc' := ((2 - 1) - 1)) (ks' := ((80 - 40) - 40)) X 44 2 (m_X8_places l Γ lc33 hp28c (by omega) hp32h hp32c (by omega)) gX8_count_X8_places rfl (by decide +kernel) rfl (by decide) rfl (Nat.le_of_ble_eq_true rfl) dX8_count_41 rfl (by omega) (by omega) (fun rv35 V36 hp37 => ?_)
        obtain ⟨⟨y38, y38e, y380, y381, y382⟩, y38v⟩ := hp37
        rw [y38e, y38v]
        show zG C V31 ((2 - 1) - 1) ((80 - 40) - 40) 44 [(0, .ref (c 60)), (1, .int (zI (q))), (2, .int (zI (q2)))] [.int (zI (y38))]
        exact zr_iret X rfl ⟨y38, md, τ24, κ, rfl, hp32m.le (by omega), fx34, Or.inr (Or.inr ⟨by omega, trivial, ⟨by rw [← τ24e]; exact zsN.row y382 (by omega) (by omega) hp28z hp32z, by rw [τ24e]⟩⟩)⟩ dX8_count_44
    · refine zr_iconst X 16 dX8_count_15 rfl ?_
      refine zr_goto X 20 dX8_count_16 rfl ?_
      refine zr_iconst X 21 dX8_count_20 rfl ?_
      refine zr_callVe (kc' := 2) (ks' := 80) X 24 2 (m_X8_isThrown l Γ hM (a := 1) (b := 0) (by omega) (by omega)) gX8_count_X8_isThrown rfl (by decide +kernel) rfl (by decide) ⟨_, _, hM.1⟩ rfl rfl (Nat.le_of_ble_eq_true rfl) dX8_count_21 rfl (by omega) (by omega) (fun rv39 V40 hp41 => ?_)
      obtain ⟨⟨hp41x, hp41k, hp41e, hp41c, hp41m⟩, hp41g⟩ := hp41
      rw [hp41e]
      rcases hp41c with ⟨tc42a, tc42k, tc42x⟩ | ⟨tc42a, tc42b, tc42k, tc42x⟩ | ⟨tc42a, tc42b, tc42k, tc42x⟩
      · skip
        subst tc42k tc42x
        have fx43 : zfm V V40 := (hp41g.mono (fun t ht => by omega))
        obtain ⟨τ44, τ44e⟩ : ∃ zz9 : Nat → Int, zz9 = zf τ 36 1 := ⟨_, rfl⟩
        rw [← τ44e] at hp41m
        show zG C V40 2 80 24 [(0, .ref (c 60)), (1, .int (zI (q))), (2, .int (zI (q2)))] [.int (zI (1))]
        refine zr_if_eq X 31 27 dX8_count_24 rfl rfl (by omega) (fun bq45 => absurd bq45 (by omega)) (fun bq45 => ?_)
        refine zr_iconst X 28 dX8_count_27 rfl ?_
        refine zr_goto X 44 dX8_count_28 rfl ?_
        exact zr_iret X rfl ⟨0, md, τ44, κ, rfl, hp41m.le (by omega), fx43, Or.inl ⟨by omega, rfl, by rw [τ44e]⟩⟩ dX8_count_44
      · exact absurd tc42a (by decide)
      · exact absurd tc42a (by decide)
set_option maxRecDepth 100000 in
set_option maxHeartbeats 4000000 in
theorem m_X8_place_ (l : Launch) (Γ : zGam) {V : zV} {c md : Nat → Nat} {τ κ : Nat → Int} {E : Int} {q q2 z : Int} (hM : zMo Γ V c md τ κ E) (hq : -2147483648 ≤ q ∧ q ≤ 2147483647) (hq2 : -2147483648 ≤ q2 ∧ q2 ≤ 2147483647) (hz : -2147483648 ≤ z ∧ z ≤ 2147483647) : zM l Γ 6 yX8_place_ wsX8_place_ 2 80 V [.ref (c 60), .int (zI (q)), .int (zI (q2)), .int (zI (z))] (fun rv V' => ∃ (y : Int) (md' : Nat → Nat) (τ' κ' : Nat → Int), rv = some (.int (zI y)) ∧ zMo Γ V' c md' τ' κ' (E + 40) ∧ zfm V V' ∧ ((¬ ((0 ≤ q ∧ q ≤ 7) ∧ (0 ≤ q2 ∧ q2 ≤ 7)) ∧ y = 0 ∧ τ' = zf τ 36 1) ∨ (((0 ≤ q ∧ q ≤ 7) ∧ (0 ≤ q2 ∧ q2 ≤ 7)) ∧ ¬ (0 ≤ z ∧ z ≤ 80) ∧ y = 0 ∧ τ' = zf τ 36 2) ∨ (((0 ≤ q ∧ q ≤ 7) ∧ (0 ≤ q2 ∧ q2 ≤ 7)) ∧ (0 ≤ z ∧ z ≤ 80) ∧ (zsP (zf τ 36 0) q q2 z y ∧ τ' = (zf τ 36 0))))) := by
  refine zM_of (cc := cX8_place_) (nL := 4) (ret := (some .int)) (own := RX8) (by decide +kernel) rfl rfl (Nat.le_of_ble_eq_true rfl) (fun C X hi0 => ?_)
  have nn1 : 0 ≤ κ 0 ∧ κ 0 ≤ κ 1 ∧ κ 0 ≤ E ∧ κ 1 ≤ 7000 := hM.n.1
  show zG C V 2 80 0 [(0, .ref (c 60)), (1, .int (zI (q))), (2, .int (zI (q2))), (3, .int (zI (z)))] []
  refine zr_aload_n X 1 0 dX8_place__0 rfl rfl ?_
  refine zr_iload_n X 2 1 dX8_place__1 rfl rfl ?_
  refine zr_callS (kc' := 2) (ks' := 80) X 5 1 (m_X8_isNoSource l Γ (V := V) (x := q) (by omega)) gX8_place__X8_isNoSource rfl (by decide +kernel) rfl (by decide) rfl (Nat.le_of_ble_eq_true rfl) dX8_place__2 rfl (by omega) (by omega) (fun rv2 V3 hp4 => ?_)
  obtain ⟨⟨no5, no5e, no5a⟩, no5v⟩ := hp4
  rw [no5e, no5v]
  show zG C V 2 80 5 [(0, .ref (c 60)), (1, .int (zI (q))), (2, .int (zI (q2))), (3, .int (zI (z)))] [.int (zI (no5)), .ref (c 60)]
  refine zr_if_ne X 15 8 dX8_place__5 rfl rfl (by omega) (fun bq6 => ?_) (fun bq6 => ?_)
  · refine zr_iconst X 16 dX8_place__15 rfl ?_
    refine zr_goto X 20 dX8_place__16 rfl ?_
    refine zr_iload_n X 21 3 dX8_place__20 rfl rfl ?_
    refine zr_iconst X 22 dX8_place__21 rfl ?_
    refine zr_bipush X 24 (80) dX8_place__22 rfl (by decide) ?_
    refine zr_callS (kc' := 2) (ks' := 80) X 27 3 (m_X8_isNo l Γ (V := V) (x := z) (a := 0) (b := 80) (by omega) (by omega) (by omega)) gX8_place__X8_isNo rfl (by decide +kernel) rfl (by decide) rfl (Nat.le_of_ble_eq_true rfl) dX8_place__24 rfl (by omega) (by omega) (fun rv7 V8 hp9 => ?_)
    obtain ⟨⟨no10, no10e, no10a⟩, no10v⟩ := hp9
    rw [no10e, no10v]
    show zG C V 2 80 27 [(0, .ref (c 60)), (1, .int (zI (q))), (2, .int (zI (q2))), (3, .int (zI (z)))] [.int (zI (no10)), .int (zI (1)), .ref (c 60)]
    refine zr_callVe (kc' := 2) (ks' := 80) X 30 2 (m_X8_isThrown l Γ hM (a := 1) (b := no10) (by omega) (by omega)) gX8_place__X8_isThrown rfl (by decide +kernel) rfl (by decide) ⟨_, _, hM.1⟩ rfl rfl (Nat.le_of_ble_eq_true rfl) dX8_place__27 rfl (by omega) (by omega) (fun rv11 V12 hp13 => ?_)
    obtain ⟨⟨hp13x, hp13k, hp13e, hp13c, hp13m⟩, hp13g⟩ := hp13
    rw [hp13e]
    rcases hp13c with ⟨tc14a, tc14k, tc14x⟩ | ⟨tc14a, tc14b, tc14k, tc14x⟩ | ⟨tc14a, tc14b, tc14k, tc14x⟩
    · skip
      subst tc14k tc14x
      have fx15 : zfm V V12 := (hp13g.mono (fun t ht => by omega))
      obtain ⟨τ16, τ16e⟩ : ∃ zz9 : Nat → Int, zz9 = zf τ 36 1 := ⟨_, rfl⟩
      rw [← τ16e] at hp13m
      show zG C V12 2 80 30 [(0, .ref (c 60)), (1, .int (zI (q))), (2, .int (zI (q2))), (3, .int (zI (z)))] [.int (zI (1))]
      refine zr_if_eq X 37 33 dX8_place__30 rfl rfl (by omega) (fun bq17 => absurd bq17 (by omega)) (fun bq17 => ?_)
      refine zr_iconst X 34 dX8_place__33 rfl ?_
      refine zr_goto X 51 dX8_place__34 rfl ?_
      exact zr_iret X rfl ⟨0, md, τ16, κ, rfl, hp13m.le (by omega), fx15, Or.inl ⟨by omega, rfl, by rw [τ16e]⟩⟩ dX8_place__51
    · exact absurd tc14a (by decide)
    · exact absurd tc14a (by decide)
  · refine zr_iload_n X 9 2 dX8_place__8 rfl rfl ?_
    refine zr_callS (kc' := 2) (ks' := 80) X 12 1 (m_X8_isNoSource l Γ (V := V) (x := q2) (by omega)) gX8_place__X8_isNoSource rfl (by decide +kernel) rfl (by decide) rfl (Nat.le_of_ble_eq_true rfl) dX8_place__9 rfl (by omega) (by omega) (fun rv18 V19 hp20 => ?_)
    obtain ⟨⟨no21, no21e, no21a⟩, no21v⟩ := hp20
    rw [no21e, no21v]
    show zG C V 2 80 12 [(0, .ref (c 60)), (1, .int (zI (q))), (2, .int (zI (q2))), (3, .int (zI (z)))] [.int (zI (no21)), .ref (c 60)]
    refine zr_if_eq X 19 15 dX8_place__12 rfl rfl (by omega) (fun bq22 => ?_) (fun bq22 => ?_)
    · refine zr_iconst X 20 dX8_place__19 rfl ?_
      refine zr_iload_n X 21 3 dX8_place__20 rfl rfl ?_
      refine zr_iconst X 22 dX8_place__21 rfl ?_
      refine zr_bipush X 24 (80) dX8_place__22 rfl (by decide) ?_
      refine zr_callS (kc' := 2) (ks' := 80) X 27 3 (m_X8_isNo l Γ (V := V) (x := z) (a := 0) (b := 80) (by omega) (by omega) (by omega)) gX8_place__X8_isNo rfl (by decide +kernel) rfl (by decide) rfl (Nat.le_of_ble_eq_true rfl) dX8_place__24 rfl (by omega) (by omega) (fun rv23 V24 hp25 => ?_)
      obtain ⟨⟨no26, no26e, no26a⟩, no26v⟩ := hp25
      rw [no26e, no26v]
      show zG C V 2 80 27 [(0, .ref (c 60)), (1, .int (zI (q))), (2, .int (zI (q2))), (3, .int (zI (z)))] [.int (zI (no26)), .int (zI (0)), .ref (c 60)]
      refine zr_callVe (kc' := 2) (ks' := 80) X 30 2 (m_X8_isThrown l Γ hM (a := 0) (b := no26) (by omega) (by omega)) gX8_place__X8_isThrown rfl (by decide +kernel) rfl (by decide) ⟨_, _, hM.1⟩ rfl rfl (Nat.le_of_ble_eq_true rfl) dX8_place__27 rfl (by omega) (by omega) (fun rv27 V28 hp29 => ?_)
      obtain ⟨⟨hp29x, hp29k, hp29e, hp29c, hp29m⟩, hp29g⟩ := hp29
      rw [hp29e]
      rcases hp29c with ⟨tc30a, tc30k, tc30x⟩ | ⟨tc30a, tc30b, tc30k, tc30x⟩ | ⟨tc30a, tc30b, tc30k, tc30x⟩
      · exact absurd tc30a (by decide)
      · skip
        subst tc30k tc30x
        have fx31 : zfm V V28 := (hp29g.mono (fun t ht => by omega))
        obtain ⟨τ32, τ32e⟩ : ∃ zz9 : Nat → Int, zz9 = zf τ 36 2 := ⟨_, rfl⟩
        rw [← τ32e] at hp29m
        show zG C V28 2 80 30 [(0, .ref (c 60)), (1, .int (zI (q))), (2, .int (zI (q2))), (3, .int (zI (z)))] [.int (zI (1))]
        refine zr_if_eq X 37 33 dX8_place__30 rfl rfl (by omega) (fun bq33 => absurd bq33 (by omega)) (fun bq33 => ?_)
        refine zr_iconst X 34 dX8_place__33 rfl ?_
        refine zr_goto X 51 dX8_place__34 rfl ?_
        exact zr_iret X rfl ⟨0, md, τ32, κ, rfl, hp29m.le (by omega), fx31, Or.inr (Or.inl ⟨by omega, by omega, rfl, by rw [τ32e]⟩)⟩ dX8_place__51
      · skip
        subst tc30k tc30x
        have fx34 : zfm V V28 := (hp29g.mono (fun t ht => by omega))
        obtain ⟨τ35, τ35e⟩ : ∃ zz9 : Nat → Int, zz9 = zf τ 36 0 := ⟨_, rfl⟩
        rw [← τ35e] at hp29m
        show zG C V28 2 80 30 [(0, .ref (c 60)), (1, .int (zI (q))), (2, .int (zI (q2))), (3, .int (zI (z)))] [.int (zI (0))]
        refine zr_if_eq X 37 33 dX8_place__30 rfl rfl (by omega) (fun bq36 => ?_) (fun bq36 => absurd bq36 (by omega))
        refine zr_aload_n X 38 0 dX8_place__37 rfl rfl ?_
        refine zr_iload_n X 39 1 dX8_place__38 rfl rfl ?_
        refine zr_callVe (kc' := (2 - 1)) (ks' := (80 - 40)) X 42 1 (m_X8_textOf l Γ (tg := 76) (q := q) hp29m (by omega)) gX8_place__X8_textOf rfl (by decide +kernel) rfl (by decide) ⟨_, _, hp29m.1⟩ rfl rfl (Nat.le_of_ble_eq_true rfl) dX8_place__39 rfl (by omega) (by omega) (fun rv37 V38 hp39 => ?_)
        obtain ⟨hp39q, hp39t, hp39f, hp39e, hp39h, hp39c, hp39a, hp39n1, hp39n2, hp39g, hp39z⟩ := hp39
        rw [hp39e]
        have hp39m := hp29m.kept hp39g (fun _ _ _ => trivial)
        have fx40 : zfm V V38 := zag.tr fx34 (hp39g.mono (fun _ _ => trivial))
        show zG C V38 (2 - 1) (80 - 40) 42 [(0, .ref (c 60)), (1, .int (zI (q))), (2, .int (zI (q2))), (3, .int (zI (z)))] [.ref hp39q]
        refine zr_aload_n X 43 0 dX8_place__42 rfl rfl ?_
        refine zr_iload_n X 44 2 dX8_place__43 rfl rfl ?_
        refine zr_callVe (kc' := ((2 - 1) - 1)) (ks' := ((80 - 40) - 40)) X 47 1 (m_X8_textOf l Γ (tg := 77) (q := q2) hp39m (by omega)) gX8_place__X8_textOf rfl (by decide +kernel) rfl (by decide) ⟨_, _, hp39m.1⟩ rfl rfl (Nat.le_of_ble_eq_true rfl) dX8_place__44 rfl (by omega) (by omega) (fun rv41 V42 hp43 => ?_)
        obtain ⟨hp43q, hp43t, hp43f, hp43e, hp43h, hp43c, hp43a, hp43n1, hp43n2, hp43g, hp43z⟩ := hp43
        rw [hp43e]
        have hp43m := hp39m.kept hp43g (fun _ _ _ => trivial)
        have lc44 := hp43g _ _ _ hp39h trivial
        have fx45 : zfm V V42 := zag.tr fx40 (hp43g.mono (fun _ _ => trivial))
        show zG C V42 ((2 - 1) - 1) ((80 - 40) - 40) 47 [(0, .ref (c 60)), (1, .int (zI (q))), (2, .int (zI (q2))), (3, .int (zI (z)))] [.ref hp43q, .ref hp39q]
        refine zr_iload_n X 48 3 dX8_place__47 rfl rfl ?_
        refine zr_callS (kc' := ((2 - 1) - 1)) (ks' := ((80 - 40) - 40)) X 51 3 (m_X8_nth l Γ (w := z) lc44 hp39c (by omega) hp43h hp43c (by omega) (by omega)) gX8_place__X8_nth rfl (by decide +kernel) rfl (by decide) rfl (Nat.le_of_ble_eq_true rfl) dX8_place__48 rfl (by omega) (by omega) (fun rv46 V47 hp48 => ?_)
        obtain ⟨⟨y49, y49e, y490, y491, y492, y493⟩, y49v⟩ := hp48
        rw [y49e, y49v]
        show zG C V42 ((2 - 1) - 1) ((80 - 40) - 40) 51 [(0, .ref (c 60)), (1, .int (zI (q))), (2, .int (zI (q2))), (3, .int (zI (z)))] [.int (zI (y49))]
        exact zr_iret X rfl ⟨y49, md, τ35, κ, rfl, hp43m.le (by omega), fx45, Or.inr (Or.inr ⟨by omega, by omega, ⟨by rw [← τ35e]; exact zsP.row y493 (by omega) (by omega) hp39z hp43z, by rw [τ35e]⟩⟩)⟩ dX8_place__51
    · refine zr_iconst X 16 dX8_place__15 rfl ?_
      refine zr_goto X 20 dX8_place__16 rfl ?_
      refine zr_iload_n X 21 3 dX8_place__20 rfl rfl ?_
      refine zr_iconst X 22 dX8_place__21 rfl ?_
      refine zr_bipush X 24 (80) dX8_place__22 rfl (by decide) ?_
      refine zr_callS (kc' := 2) (ks' := 80) X 27 3 (m_X8_isNo l Γ (V := V) (x := z) (a := 0) (b := 80) (by omega) (by omega) (by omega)) gX8_place__X8_isNo rfl (by decide +kernel) rfl (by decide) rfl (Nat.le_of_ble_eq_true rfl) dX8_place__24 rfl (by omega) (by omega) (fun rv50 V51 hp52 => ?_)
      obtain ⟨⟨no53, no53e, no53a⟩, no53v⟩ := hp52
      rw [no53e, no53v]
      show zG C V 2 80 27 [(0, .ref (c 60)), (1, .int (zI (q))), (2, .int (zI (q2))), (3, .int (zI (z)))] [.int (zI (no53)), .int (zI (1)), .ref (c 60)]
      refine zr_callVe (kc' := 2) (ks' := 80) X 30 2 (m_X8_isThrown l Γ hM (a := 1) (b := no53) (by omega) (by omega)) gX8_place__X8_isThrown rfl (by decide +kernel) rfl (by decide) ⟨_, _, hM.1⟩ rfl rfl (Nat.le_of_ble_eq_true rfl) dX8_place__27 rfl (by omega) (by omega) (fun rv54 V55 hp56 => ?_)
      obtain ⟨⟨hp56x, hp56k, hp56e, hp56c, hp56m⟩, hp56g⟩ := hp56
      rw [hp56e]
      rcases hp56c with ⟨tc57a, tc57k, tc57x⟩ | ⟨tc57a, tc57b, tc57k, tc57x⟩ | ⟨tc57a, tc57b, tc57k, tc57x⟩
      · skip
        subst tc57k tc57x
        have fx58 : zfm V V55 := (hp56g.mono (fun t ht => by omega))
        obtain ⟨τ59, τ59e⟩ : ∃ zz9 : Nat → Int, zz9 = zf τ 36 1 := ⟨_, rfl⟩
        rw [← τ59e] at hp56m
        show zG C V55 2 80 30 [(0, .ref (c 60)), (1, .int (zI (q))), (2, .int (zI (q2))), (3, .int (zI (z)))] [.int (zI (1))]
        refine zr_if_eq X 37 33 dX8_place__30 rfl rfl (by omega) (fun bq60 => absurd bq60 (by omega)) (fun bq60 => ?_)
        refine zr_iconst X 34 dX8_place__33 rfl ?_
        refine zr_goto X 51 dX8_place__34 rfl ?_
        exact zr_iret X rfl ⟨0, md, τ59, κ, rfl, hp56m.le (by omega), fx58, Or.inl ⟨by omega, rfl, by rw [τ59e]⟩⟩ dX8_place__51
      · exact absurd tc57a (by decide)
      · exact absurd tc57a (by decide)
set_option maxRecDepth 100000 in
set_option maxHeartbeats 4000000 in
theorem m_X8_border (l : Launch) (Γ : zGam) {V : zV} {c md : Nat → Nat} {τ κ : Nat → Int} {E : Int} {q : Int} (hM : zMo Γ V c md τ κ E) (hq : -2147483648 ≤ q ∧ q ≤ 2147483647) : zM l Γ 6 yX8_border wsX8_border 2 80 V [.ref (c 60), .int (zI (q))] (fun rv V' => ∃ (y : Int) (md' : Nat → Nat) (τ' κ' : Nat → Int), rv = some (.int (zI y)) ∧ zMo Γ V' c md' τ' κ' (E + 40) ∧ zfm V V' ∧ ((¬ (0 ≤ q ∧ q ≤ 7) ∧ y = 0 ∧ τ' = zf τ 36 1) ∨ ((0 ≤ q ∧ q ≤ 7) ∧ ¬ (True) ∧ y = 0 ∧ τ' = zf τ 36 2) ∨ ((0 ≤ q ∧ q ≤ 7) ∧ (True) ∧ (zsB (zf τ 36 0) q y ∧ τ' = (zf τ 36 0))))) := by
  refine zM_of (cc := cX8_border) (nL := 2) (ret := (some .int)) (own := RX8) (by decide +kernel) rfl rfl (Nat.le_of_ble_eq_true rfl) (fun C X hi0 => ?_)
  have nn1 : 0 ≤ κ 0 ∧ κ 0 ≤ κ 1 ∧ κ 0 ≤ E ∧ κ 1 ≤ 7000 := hM.n.1
  show zG C V 2 80 0 [(0, .ref (c 60)), (1, .int (zI (q)))] []
  refine zr_aload_n X 1 0 dX8_border_0 rfl rfl ?_
  refine zr_iload_n X 2 1 dX8_border_1 rfl rfl ?_
  refine zr_callS (kc' := 2) (ks' := 80) X 5 1 (m_X8_isNoSource l Γ (V := V) (x := q) (by omega)) gX8_border_X8_isNoSource rfl (by decide +kernel) rfl (by decide) rfl (Nat.le_of_ble_eq_true rfl) dX8_border_2 rfl (by omega) (by omega) (fun rv2 V3 hp4 => ?_)
  obtain ⟨⟨no5, no5e, no5a⟩, no5v⟩ := hp4
  rw [no5e, no5v]
  show zG C V 2 80 5 [(0, .ref (c 60)), (1, .int (zI (q)))] [.int (zI (no5)), .ref (c 60)]
  refine zr_iconst X 6 dX8_border_5 rfl ?_
  refine zr_callVe (kc' := 2) (ks' := 80) X 9 2 (m_X8_isThrown l Γ hM (a := no5) (b := 0) (by omega) (by omega)) gX8_border_X8_isThrown rfl (by decide +kernel) rfl (by decide) ⟨_, _, hM.1⟩ rfl rfl (Nat.le_of_ble_eq_true rfl) dX8_border_6 rfl (by omega) (by omega) (fun rv6 V7 hp8 => ?_)
  obtain ⟨⟨hp8x, hp8k, hp8e, hp8c, hp8m⟩, hp8g⟩ := hp8
  rw [hp8e]
  rcases hp8c with ⟨tc9a, tc9k, tc9x⟩ | ⟨tc9a, tc9b, tc9k, tc9x⟩ | ⟨tc9a, tc9b, tc9k, tc9x⟩
  · skip
    subst tc9k tc9x
    have fx10 : zfm V V7 := (hp8g.mono (fun t ht => by omega))
    obtain ⟨τ11, τ11e⟩ : ∃ zz9 : Nat → Int, zz9 = zf τ 36 1 := ⟨_, rfl⟩
    rw [← τ11e] at hp8m
    show zG C V7 2 80 9 [(0, .ref (c 60)), (1, .int (zI (q)))] [.int (zI (1))]
    refine zr_if_eq X 16 12 dX8_border_9 rfl rfl (by omega) (fun bq12 => absurd bq12 (by omega)) (fun bq12 => ?_)
    refine zr_iconst X 13 dX8_border_12 rfl ?_
    refine zr_goto X 30 dX8_border_13 rfl ?_
    exact zr_iret X rfl ⟨0, md, τ11, κ, rfl, hp8m.le (by omega), fx10, Or.inl ⟨by omega, rfl, by rw [τ11e]⟩⟩ dX8_border_30
  · exact absurd tc9b (by decide)
  · skip
    subst tc9k tc9x
    have fx13 : zfm V V7 := (hp8g.mono (fun t ht => by omega))
    obtain ⟨τ14, τ14e⟩ : ∃ zz9 : Nat → Int, zz9 = zf τ 36 0 := ⟨_, rfl⟩
    rw [← τ14e] at hp8m
    show zG C V7 2 80 9 [(0, .ref (c 60)), (1, .int (zI (q)))] [.int (zI (0))]
    refine zr_if_eq X 16 12 dX8_border_9 rfl rfl (by omega) (fun bq15 => ?_) (fun bq15 => absurd bq15 (by omega))
    refine zr_aload_n X 17 0 dX8_border_16 rfl rfl ?_
    refine zr_iload_n X 18 1 dX8_border_17 rfl rfl ?_
    refine zr_callVe (kc' := (2 - 1)) (ks' := (80 - 40)) X 21 1 (m_X8_textOf l Γ (tg := 76) (q := q) hp8m (by omega)) gX8_border_X8_textOf rfl (by decide +kernel) rfl (by decide) ⟨_, _, hp8m.1⟩ rfl rfl (Nat.le_of_ble_eq_true rfl) dX8_border_18 rfl (by omega) (by omega) (fun rv16 V17 hp18 => ?_)
    obtain ⟨hp18q, hp18t, hp18f, hp18e, hp18h, hp18c, hp18a, hp18n1, hp18n2, hp18g, hp18z⟩ := hp18
    rw [hp18e]
    have hp18m := hp8m.kept hp18g (fun _ _ _ => trivial)
    have fx19 : zfm V V17 := zag.tr fx13 (hp18g.mono (fun _ _ => trivial))
    show zG C V17 (2 - 1) (80 - 40) 21 [(0, .ref (c 60)), (1, .int (zI (q)))] [.ref hp18q]
    refine zr_aload_n X 22 0 dX8_border_21 rfl rfl ?_
    refine zr_iload_n X 23 1 dX8_border_22 rfl rfl ?_
    refine zr_callVe (kc' := ((2 - 1) - 1)) (ks' := ((80 - 40) - 40)) X 26 1 (m_X8_textOf l Γ (tg := 77) (q := q) hp18m (by omega)) gX8_border_X8_textOf rfl (by decide +kernel) rfl (by decide) ⟨_, _, hp18m.1⟩ rfl rfl (Nat.le_of_ble_eq_true rfl) dX8_border_23 rfl (by omega) (by omega) (fun rv20 V21 hp22 => ?_)
    obtain ⟨hp22q, hp22t, hp22f, hp22e, hp22h, hp22c, hp22a, hp22n1, hp22n2, hp22g, hp22z⟩ := hp22
    rw [hp22e]
    have hp22m := hp18m.kept hp22g (fun _ _ _ => trivial)
    have lc23 := hp22g _ _ _ hp18h trivial
    have fx24 : zfm V V21 := zag.tr fx19 (hp22g.mono (fun _ _ => trivial))
    show zG C V21 ((2 - 1) - 1) ((80 - 40) - 40) 26 [(0, .ref (c 60)), (1, .int (zI (q)))] [.ref hp22q, .ref hp18q]
    refine zr_alen X 27 0 hp22h (by decide) dX8_border_26 rfl ?_
    refine zr_callS (kc' := ((2 - 1) - 1)) (ks' := ((80 - 40) - 40)) X 30 2 (m_X8_greatest l Γ (mn := ((zsz τ14 q).toNat : Nat)) lc23 hp18c (by omega) (by omega)) gX8_border_X8_greatest rfl (by decide +kernel) rfl (by decide) rfl (Nat.le_of_ble_eq_true rfl) dX8_border_27 rfl (by omega) (by omega) (fun rv25 V26 hp27 => ?_)
    obtain ⟨⟨y28, y28e, y280, y281, y282⟩, y28v⟩ := hp27
    rw [y28e, y28v]
    show zG C V21 ((2 - 1) - 1) ((80 - 40) - 40) 30 [(0, .ref (c 60)), (1, .int (zI (q)))] [.int (zI (y28))]
    exact zr_iret X rfl ⟨y28, md, τ14, κ, rfl, hp22m.le (by omega), fx24, Or.inr (Or.inr ⟨by omega, trivial, ⟨by rw [← τ14e]; exact zsB.row y282 (by omega) (by omega) (by omega) hp18z, by rw [τ14e]⟩⟩)⟩ dX8_border_30
theorem zat_row {m : Int} {f : Nat → Int} {h : Int → Int} (e : ∀ j : Nat, (j : Int) < m → f j = h (j : Int)) {j : Int} (c : 0 ≤ j ∧ j < m) : zat m h j = f j.toNat := by
  unfold zat
  rw [if_pos c, e j.toNat (by omega)]
  exact congrArg h (by omega)
theorem zeq_step {f g : Nat → Int} {k : Int} (h0 : 0 ≤ k) (h : ∀ j : Nat, (j : Int) < k → f j = g j) (e : f k.toNat = g k.toNat) : ∀ j : Nat, (j : Int) < k + 1 → f j = g j := fun j hj => by
  by_cases c : (j : Int) < k
  · exact h j c
  · rw [show j = k.toNat by omega]
    exact e
theorem zfu_of {m1 m2 k y : Int} {f1 f2 : Nat → Int} {h1 h2 : Int → Int} (e1 : ∀ j : Nat, (j : Int) < m1 → f1 j = h1 (j : Int)) (e2 : ∀ j : Nat, (j : Int) < m2 → f2 j = h2 (j : Int)) (z1 : zc f1) (z2 : zc f2) (hk : 0 ≤ k ∧ k ≤ m1 ∧ k ≤ m2) (ha : ∀ j : Nat, (j : Int) < k → f1 j = f2 j) (hy : (y = -1 ∧ k = m1 ∧ k = m2) ∨ (y = k ∧ ((k = m1 ∧ k < m2) ∨ (k < m1 ∧ k = m2) ∨ (k < m1 ∧ k < m2 ∧ f1 k.toNat ≠ f2 k.toNat)))) : zfu m1 h1 m2 h2 y := by
  have lo : ∀ j : Int, j < k → zat m1 h1 j = zat m2 h2 j := fun j hj => by
    by_cases c : 0 ≤ j
    · rw [zat_row e1 ⟨c, by omega⟩, zat_row e2 ⟨c, by omega⟩]
      exact ha _ (by omega)
    · rw [zat_out (fun z => c z.1), zat_out (fun z => c z.1)]
  have b1 := z1 k.toNat
  have b2 := z2 k.toNat
  rcases hy with ⟨e, k1, k2⟩ | ⟨e, hh⟩
  · refine Or.inl ⟨e, fun j => ?_⟩
    by_cases c : j < k
    · exact lo j c
    · rw [zat_out (by omega), zat_out (by omega)]
  · refine Or.inr ⟨by omega, ?_, fun j hj => lo j (by omega)⟩
    rw [e]
    rcases hh with ⟨k1, k2⟩ | ⟨k1, k2⟩ | ⟨k1, k2, k3⟩
    · rw [zat_out (by omega), zat_row e2 ⟨hk.1, k2⟩]
      omega
    · rw [zat_out (m := m2) (by omega), zat_row e1 ⟨hk.1, k1⟩]
      omega
    · rw [zat_row e1 ⟨hk.1, k1⟩, zat_row e2 ⟨hk.1, k2⟩]
      exact k3
set_option maxRecDepth 100000 in
set_option maxHeartbeats 4000000 in
theorem m_X8_differ (l : Launch) (Γ : zGam) {V : zV} {c md : Nat → Nat} {τ κ : Nat → Int} {E : Int} {q q2 : Int} (hM : zMo Γ V c md τ κ E) (hq : -2147483648 ≤ q ∧ q ≤ 2147483647) (hq2 : -2147483648 ≤ q2 ∧ q2 ≤ 2147483647) : zM l Γ 6 yX8_differ wsX8_differ 2 80 V [.ref (c 60), .int (zI (q)), .int (zI (q2))] (fun rv V' => ∃ (y : Int) (md' : Nat → Nat) (τ' κ' : Nat → Int), rv = some (.int (zI y)) ∧ zMo Γ V' c md' τ' κ' (E + 40) ∧ zfm V V' ∧ ((¬ ((0 ≤ q ∧ q ≤ 7) ∧ (0 ≤ q2 ∧ q2 ≤ 7)) ∧ y = 0 ∧ τ' = zf τ 36 1) ∨ (((0 ≤ q ∧ q ≤ 7) ∧ (0 ≤ q2 ∧ q2 ≤ 7)) ∧ ¬ (True) ∧ y = 0 ∧ τ' = zf τ 36 2) ∨ (((0 ≤ q ∧ q ≤ 7) ∧ (0 ≤ q2 ∧ q2 ≤ 7)) ∧ (True) ∧ (zfu (zsz (zf τ 36 0) q) (fun j => zsg (zf τ 36 0) q j.toNat) (zsz (zf τ 36 0) q2) (fun j => zsg (zf τ 36 0) q2 j.toNat) y ∧ τ' = (zf τ 36 0))))) := by
  refine zM_of (cc := cX8_differ) (nL := 6) (ret := (some .int)) (own := RX8) (by decide +kernel) rfl rfl (Nat.le_of_ble_eq_true rfl) (fun C X hi0 => ?_)
  have nn1 : 0 ≤ κ 0 ∧ κ 0 ≤ κ 1 ∧ κ 0 ≤ E ∧ κ 1 ≤ 7000 := hM.n.1
  show zG C V 2 80 0 [(0, .ref (c 60)), (1, .int (zI (q))), (2, .int (zI (q2)))] []
  refine zr_aload_n X 1 0 dX8_differ_0 rfl rfl ?_
  refine zr_iload_n X 2 1 dX8_differ_1 rfl rfl ?_
  refine zr_callS (kc' := 2) (ks' := 80) X 5 1 (m_X8_isNoSource l Γ (V := V) (x := q) (by omega)) gX8_differ_X8_isNoSource rfl (by decide +kernel) rfl (by decide) rfl (Nat.le_of_ble_eq_true rfl) dX8_differ_2 rfl (by omega) (by omega) (fun rv2 V3 hp4 => ?_)
  obtain ⟨⟨no5, no5e, no5a⟩, no5v⟩ := hp4
  rw [no5e, no5v]
  show zG C V 2 80 5 [(0, .ref (c 60)), (1, .int (zI (q))), (2, .int (zI (q2)))] [.int (zI (no5)), .ref (c 60)]
  refine zr_if_ne X 15 8 dX8_differ_5 rfl rfl (by omega) (fun bq6 => ?_) (fun bq6 => ?_)
  · refine zr_iconst X 16 dX8_differ_15 rfl ?_
    refine zr_goto X 20 dX8_differ_16 rfl ?_
    refine zr_iconst X 21 dX8_differ_20 rfl ?_
    refine zr_callVe (kc' := 2) (ks' := 80) X 24 2 (m_X8_isThrown l Γ hM (a := 1) (b := 0) (by omega) (by omega)) gX8_differ_X8_isThrown rfl (by decide +kernel) rfl (by decide) ⟨_, _, hM.1⟩ rfl rfl (Nat.le_of_ble_eq_true rfl) dX8_differ_21 rfl (by omega) (by omega) (fun rv7 V8 hp9 => ?_)
    obtain ⟨⟨hp9x, hp9k, hp9e, hp9c, hp9m⟩, hp9g⟩ := hp9
    rw [hp9e]
    rcases hp9c with ⟨tc10a, tc10k, tc10x⟩ | ⟨tc10a, tc10b, tc10k, tc10x⟩ | ⟨tc10a, tc10b, tc10k, tc10x⟩
    · skip
      subst tc10k tc10x
      have fx11 : zfm V V8 := (hp9g.mono (fun t ht => by omega))
      obtain ⟨τ12, τ12e⟩ : ∃ zz9 : Nat → Int, zz9 = zf τ 36 1 := ⟨_, rfl⟩
      rw [← τ12e] at hp9m
      show zG C V8 2 80 24 [(0, .ref (c 60)), (1, .int (zI (q))), (2, .int (zI (q2)))] [.int (zI (1))]
      refine zr_if_eq X 29 27 dX8_differ_24 rfl rfl (by omega) (fun bq13 => absurd bq13 (by omega)) (fun bq13 => ?_)
      refine zr_iconst X 28 dX8_differ_27 rfl ?_
      exact zr_iret X rfl ⟨0, md, τ12, κ, rfl, hp9m.le (by omega), fx11, Or.inl ⟨by omega, rfl, by rw [τ12e]⟩⟩ dX8_differ_28
    · exact absurd tc10a (by decide)
    · exact absurd tc10a (by decide)
  · refine zr_iload_n X 9 2 dX8_differ_8 rfl rfl ?_
    refine zr_callS (kc' := 2) (ks' := 80) X 12 1 (m_X8_isNoSource l Γ (V := V) (x := q2) (by omega)) gX8_differ_X8_isNoSource rfl (by decide +kernel) rfl (by decide) rfl (Nat.le_of_ble_eq_true rfl) dX8_differ_9 rfl (by omega) (by omega) (fun rv14 V15 hp16 => ?_)
    obtain ⟨⟨no17, no17e, no17a⟩, no17v⟩ := hp16
    rw [no17e, no17v]
    show zG C V 2 80 12 [(0, .ref (c 60)), (1, .int (zI (q))), (2, .int (zI (q2)))] [.int (zI (no17)), .ref (c 60)]
    refine zr_if_eq X 19 15 dX8_differ_12 rfl rfl (by omega) (fun bq18 => ?_) (fun bq18 => ?_)
    · refine zr_iconst X 20 dX8_differ_19 rfl ?_
      refine zr_iconst X 21 dX8_differ_20 rfl ?_
      refine zr_callVe (kc' := 2) (ks' := 80) X 24 2 (m_X8_isThrown l Γ hM (a := 0) (b := 0) (by omega) (by omega)) gX8_differ_X8_isThrown rfl (by decide +kernel) rfl (by decide) ⟨_, _, hM.1⟩ rfl rfl (Nat.le_of_ble_eq_true rfl) dX8_differ_21 rfl (by omega) (by omega) (fun rv19 V20 hp21 => ?_)
      obtain ⟨⟨hp21x, hp21k, hp21e, hp21c, hp21m⟩, hp21g⟩ := hp21
      rw [hp21e]
      rcases hp21c with ⟨tc22a, tc22k, tc22x⟩ | ⟨tc22a, tc22b, tc22k, tc22x⟩ | ⟨tc22a, tc22b, tc22k, tc22x⟩
      · exact absurd tc22a (by decide)
      · exact absurd tc22b (by decide)
      · skip
        subst tc22k tc22x
        have fx23 : zfm V V20 := (hp21g.mono (fun t ht => by omega))
        obtain ⟨τ24, τ24e⟩ : ∃ zz9 : Nat → Int, zz9 = zf τ 36 0 := ⟨_, rfl⟩
        rw [← τ24e] at hp21m
        show zG C V20 2 80 24 [(0, .ref (c 60)), (1, .int (zI (q))), (2, .int (zI (q2)))] [.int (zI (0))]
        refine zr_if_eq X 29 27 dX8_differ_24 rfl rfl (by omega) (fun bq25 => ?_) (fun bq25 => absurd bq25 (by omega))
        refine zr_aload_n X 30 0 dX8_differ_29 rfl rfl ?_
        refine zr_iload_n X 31 1 dX8_differ_30 rfl rfl ?_
        refine zr_callVe (kc' := (2 - 1)) (ks' := (80 - 40)) X 34 1 (m_X8_textOf l Γ (tg := 76) (q := q) hp21m (by omega)) gX8_differ_X8_textOf rfl (by decide +kernel) rfl (by decide) ⟨_, _, hp21m.1⟩ rfl rfl (Nat.le_of_ble_eq_true rfl) dX8_differ_31 rfl (by omega) (by omega) (fun rv26 V27 hp28 => ?_)
        obtain ⟨hp28q, hp28t, hp28f, hp28e, hp28h, hp28c, hp28a, hp28n1, hp28n2, hp28g, hp28z⟩ := hp28
        rw [hp28e]
        have hp28m := hp21m.kept hp28g (fun _ _ _ => trivial)
        have fx29 : zfm V V27 := zag.tr fx23 (hp28g.mono (fun _ _ => trivial))
        show zG C V27 (2 - 1) (80 - 40) 34 [(0, .ref (c 60)), (1, .int (zI (q))), (2, .int (zI (q2)))] [.ref hp28q]
        refine zr_astore_n X 35 [(3, .ref hp28q), (0, .ref (c 60)), (1, .int (zI (q))), (2, .int (zI (q2)))] dX8_differ_34 rfl (by decide) rfl ?_
        refine zr_aload_n X 36 1 dX8_differ_35 rfl rfl ?_
        refine zr_iload_n X 37 3 dX8_differ_36 rfl rfl ?_
        refine zr_callVe (kc' := ((2 - 1) - 1)) (ks' := ((80 - 40) - 40)) X 40 1 (m_X8_textOf l Γ (tg := 77) (q := q2) hp28m (by omega)) gX8_differ_X8_textOf rfl (by decide +kernel) rfl (by decide) ⟨_, _, hp28m.1⟩ rfl rfl (Nat.le_of_ble_eq_true rfl) dX8_differ_37 rfl (by omega) (by omega) (fun rv30 V31 hp32 => ?_)
        obtain ⟨hp32q, hp32t, hp32f, hp32e, hp32h, hp32c, hp32a, hp32n1, hp32n2, hp32g, hp32z⟩ := hp32
        rw [hp32e]
        have hp32m := hp28m.kept hp32g (fun _ _ _ => trivial)
        have lc33 := hp32g _ _ _ hp28h trivial
        have fx34 : zfm V V31 := zag.tr fx29 (hp32g.mono (fun _ _ => trivial))
        show zG C V31 ((2 - 1) - 1) ((80 - 40) - 40) 40 [(3, .ref hp28q), (0, .ref (c 60)), (1, .int (zI (q))), (2, .int (zI (q2)))] [.ref hp32q]
        refine zr_astore X 42 [(4, .ref hp32q), (3, .ref hp28q), (0, .ref (c 60)), (1, .int (zI (q))), (2, .int (zI (q2)))] dX8_differ_40 rfl (by decide) rfl ?_
        refine zr_iconst X 43 dX8_differ_42 rfl ?_
        refine zr_istore X 45 [(5, .int (zI (0))), (4, .ref hp32q), (3, .ref hp28q), (0, .ref (c 60)), (1, .int (zI (q))), (2, .int (zI (q2)))] dX8_differ_43 rfl (by decide) rfl ?_
        refine zr_sub [0, 1, 2, 5, 4, 3] [(5, .int (zI (0))), (4, .ref hp32q), (3, .ref hp28q), (2, .int (zI (q2))), (1, .int (zI (q))), (0, .ref (c 60))] rfl ?_
        have loop : ∀ (N : Nat) (k : Int), 0 ≤ k ∧ k ≤ (((zsz τ24 q).toNat : Nat) : Int) ∧ k ≤ (((zsz τ24 q2).toNat : Nat) : Int) ∧ (∀ j : Nat, (j : Int) < k → hp28f j = hp32f j) → ((((zsz τ24 q).toNat : Nat) : Int) - k).toNat = N → zG C V31 ((2 - 1) - 1) ((80 - 40) - 40) 45 [(5, .int (zI (k))), (4, .ref hp32q), (3, .ref hp28q), (2, .int (zI (q2))), (1, .int (zI (q))), (0, .ref (c 60))] [] := by
          intro N
          induction N using Nat.strongRecOn with
          | _ N ih =>
          intro k hI hN
          obtain ⟨hI1, hI2, hI3, hI4⟩ := id hI
          refine zr_iload X 47 0 dX8_differ_45 rfl rfl ?_
          refine zr_aload_n X 48 2 dX8_differ_47 rfl rfl ?_
          refine zr_alen X 49 0 lc33 (by decide) dX8_differ_48 rfl ?_
          refine zr_icmp_ge X 78 52 dX8_differ_49 rfl rfl (by omega) (by omega) (fun bq35 => ?_) (fun bq35 => ?_)
          · refine zr_iload X 80 0 dX8_differ_78 rfl rfl ?_
            refine zr_aload_n X 81 2 dX8_differ_80 rfl rfl ?_
            refine zr_alen X 82 0 lc33 (by decide) dX8_differ_81 rfl ?_
            refine zr_icmp_ne X 97 85 dX8_differ_82 rfl rfl (by omega) (by omega) (fun bq36 => ?_) (fun bq36 => ?_)
            · refine zr_iload X 99 0 dX8_differ_97 rfl rfl ?_
              exact zr_iret X rfl ⟨k, md, τ24, κ, rfl, hp32m.le (by omega), fx34, Or.inr (Or.inr ⟨by omega, trivial, ⟨by rw [← τ24e]; exact zfu_of (f1 := hp28f) (f2 := hp32f) (k := k) hp28z hp32z hp28c hp32c (by omega) hI4 (by omega), by rw [τ24e]⟩⟩)⟩ dX8_differ_99
            · refine zr_iload X 87 0 dX8_differ_85 rfl rfl ?_
              refine zr_aload X 89 1 dX8_differ_87 rfl rfl ?_
              refine zr_alen X 90 0 hp32h (by decide) dX8_differ_89 rfl ?_
              refine zr_icmp_ne X 97 93 dX8_differ_90 rfl rfl (by omega) (by omega) (fun bq37 => ?_) (fun bq37 => ?_)
              · refine zr_iload X 99 0 dX8_differ_97 rfl rfl ?_
                exact zr_iret X rfl ⟨k, md, τ24, κ, rfl, hp32m.le (by omega), fx34, Or.inr (Or.inr ⟨by omega, trivial, ⟨by rw [← τ24e]; exact zfu_of (f1 := hp28f) (f2 := hp32f) (k := k) hp28z hp32z hp28c hp32c (by omega) hI4 (by omega), by rw [τ24e]⟩⟩)⟩ dX8_differ_99
              · refine zr_iconst X 94 dX8_differ_93 rfl ?_
                refine zr_goto X 99 dX8_differ_94 rfl ?_
                exact zr_iret X rfl ⟨-1, md, τ24, κ, rfl, hp32m.le (by omega), fx34, Or.inr (Or.inr ⟨by omega, trivial, ⟨by rw [← τ24e]; exact zfu_of (f1 := hp28f) (f2 := hp32f) (k := k) hp28z hp32z hp28c hp32c (by omega) hI4 (by omega), by rw [τ24e]⟩⟩)⟩ dX8_differ_99
          · refine zr_iload X 54 0 dX8_differ_52 rfl rfl ?_
            refine zr_aload X 56 1 dX8_differ_54 rfl rfl ?_
            refine zr_alen X 57 0 hp32h (by decide) dX8_differ_56 rfl ?_
            refine zr_icmp_ge X 78 60 dX8_differ_57 rfl rfl (by omega) (by omega) (fun bq38 => ?_) (fun bq38 => ?_)
            · refine zr_iload X 80 0 dX8_differ_78 rfl rfl ?_
              refine zr_aload_n X 81 2 dX8_differ_80 rfl rfl ?_
              refine zr_alen X 82 0 lc33 (by decide) dX8_differ_81 rfl ?_
              refine zr_icmp_ne X 97 85 dX8_differ_82 rfl rfl (by omega) (by omega) (fun bq39 => ?_) (fun bq39 => ?_)
              · refine zr_iload X 99 0 dX8_differ_97 rfl rfl ?_
                exact zr_iret X rfl ⟨k, md, τ24, κ, rfl, hp32m.le (by omega), fx34, Or.inr (Or.inr ⟨by omega, trivial, ⟨by rw [← τ24e]; exact zfu_of (f1 := hp28f) (f2 := hp32f) (k := k) hp28z hp32z hp28c hp32c (by omega) hI4 (by omega), by rw [τ24e]⟩⟩)⟩ dX8_differ_99
              · refine zr_iload X 87 0 dX8_differ_85 rfl rfl ?_
                refine zr_aload X 89 1 dX8_differ_87 rfl rfl ?_
                refine zr_alen X 90 0 hp32h (by decide) dX8_differ_89 rfl ?_
                refine zr_icmp_ne X 97 93 dX8_differ_90 rfl rfl (by omega) (by omega) (fun bq40 => ?_) (fun bq40 => ?_)
                · refine zr_iload X 99 0 dX8_differ_97 rfl rfl ?_
                  exact zr_iret X rfl ⟨k, md, τ24, κ, rfl, hp32m.le (by omega), fx34, Or.inr (Or.inr ⟨by omega, trivial, ⟨by rw [← τ24e]; exact zfu_of (f1 := hp28f) (f2 := hp32f) (k := k) hp28z hp32z hp28c hp32c (by omega) hI4 (by omega), by rw [τ24e]⟩⟩)⟩ dX8_differ_99
                · refine zr_iconst X 94 dX8_differ_93 rfl ?_
                  refine zr_goto X 99 dX8_differ_94 rfl ?_
                  exact zr_iret X rfl ⟨-1, md, τ24, κ, rfl, hp32m.le (by omega), fx34, Or.inr (Or.inr ⟨by omega, trivial, ⟨by rw [← τ24e]; exact zfu_of (f1 := hp28f) (f2 := hp32f) (k := k) hp28z hp32z hp28c hp32c (by omega) hI4 (by omega), by rw [τ24e]⟩⟩)⟩ dX8_differ_99
            · refine zr_aload_n X 61 2 dX8_differ_60 rfl rfl ?_
              refine zr_iload X 63 0 dX8_differ_61 rfl rfl ?_
              refine zr_iald X 64 lc33 (by omega) dX8_differ_63 rfl ?_
              have zb41 := zc.b hp28c (k).toNat
              refine zr_aload X 66 1 dX8_differ_64 rfl rfl ?_
              refine zr_iload X 68 0 dX8_differ_66 rfl rfl ?_
              refine zr_iald X 69 hp32h (by omega) dX8_differ_68 rfl ?_
              have zb42 := zc.b hp32c (k).toNat
              refine zr_icmp_ne X 78 72 dX8_differ_69 rfl rfl (by omega) (by omega) (fun bq43 => ?_) (fun bq43 => ?_)
              · refine zr_iload X 80 0 dX8_differ_78 rfl rfl ?_
                refine zr_aload_n X 81 2 dX8_differ_80 rfl rfl ?_
                refine zr_alen X 82 0 lc33 (by decide) dX8_differ_81 rfl ?_
                refine zr_icmp_ne X 97 85 dX8_differ_82 rfl rfl (by omega) (by omega) (fun bq44 => ?_) (fun bq44 => ?_)
                · refine zr_iload X 99 0 dX8_differ_97 rfl rfl ?_
                  exact zr_iret X rfl ⟨k, md, τ24, κ, rfl, hp32m.le (by omega), fx34, Or.inr (Or.inr ⟨by omega, trivial, ⟨by rw [← τ24e]; exact zfu_of (f1 := hp28f) (f2 := hp32f) (k := k) hp28z hp32z hp28c hp32c (by omega) hI4 (by omega), by rw [τ24e]⟩⟩)⟩ dX8_differ_99
                · refine zr_iload X 87 0 dX8_differ_85 rfl rfl ?_
                  refine zr_aload X 89 1 dX8_differ_87 rfl rfl ?_
                  refine zr_alen X 90 0 hp32h (by decide) dX8_differ_89 rfl ?_
                  refine zr_icmp_ne X 97 93 dX8_differ_90 rfl rfl (by omega) (by omega) (fun bq45 => ?_) (fun bq45 => ?_)
                  · refine zr_iload X 99 0 dX8_differ_97 rfl rfl ?_
                    exact zr_iret X rfl ⟨k, md, τ24, κ, rfl, hp32m.le (by omega), fx34, Or.inr (Or.inr ⟨by omega, trivial, ⟨by rw [← τ24e]; exact zfu_of (f1 := hp28f) (f2 := hp32f) (k := k) hp28z hp32z hp28c hp32c (by omega) hI4 (by omega), by rw [τ24e]⟩⟩)⟩ dX8_differ_99
                  · refine zr_iconst X 94 dX8_differ_93 rfl ?_
                    refine zr_goto X 99 dX8_differ_94 rfl ?_
                    exact zr_iret X rfl ⟨-1, md, τ24, κ, rfl, hp32m.le (by omega), fx34, Or.inr (Or.inr ⟨by omega, trivial, ⟨by rw [← τ24e]; exact zfu_of (f1 := hp28f) (f2 := hp32f) (k := k) hp28z hp32z hp28c hp32c (by omega) hI4 (by omega), by rw [τ24e]⟩⟩)⟩ dX8_differ_99
              · refine zr_iinc X 75 0 [(5, .int (zI (k + 1))), (4, .ref hp32q), (3, .ref hp28q), (2, .int (zI (q2))), (1, .int (zI (q))), (0, .ref (c 60))] dX8_differ_72 rfl rfl (by decide) rfl ?_
                refine zr_goto X 45 dX8_differ_75 rfl ?_
                exact ih _ (by omega) (k + 1) ⟨by omega, by omega, by omega, zeq_step (by omega) hI4 (by omega)⟩ rfl
        exact loop _ 0 ⟨by omega, by omega, by omega, fun j hj => absurd hj (by omega)⟩ rfl
    · refine zr_iconst X 16 dX8_differ_15 rfl ?_
      refine zr_goto X 20 dX8_differ_16 rfl ?_
      refine zr_iconst X 21 dX8_differ_20 rfl ?_
      refine zr_callVe (kc' := 2) (ks' := 80) X 24 2 (m_X8_isThrown l Γ hM (a := 1) (b := 0) (by omega) (by omega)) gX8_differ_X8_isThrown rfl (by decide +kernel) rfl (by decide) ⟨_, _, hM.1⟩ rfl rfl (Nat.le_of_ble_eq_true rfl) dX8_differ_21 rfl (by omega) (by omega) (fun rv46 V47 hp48 => ?_)
      obtain ⟨⟨hp48x, hp48k, hp48e, hp48c, hp48m⟩, hp48g⟩ := hp48
      rw [hp48e]
      rcases hp48c with ⟨tc49a, tc49k, tc49x⟩ | ⟨tc49a, tc49b, tc49k, tc49x⟩ | ⟨tc49a, tc49b, tc49k, tc49x⟩
      · skip
        subst tc49k tc49x
        have fx50 : zfm V V47 := (hp48g.mono (fun t ht => by omega))
        obtain ⟨τ51, τ51e⟩ : ∃ zz9 : Nat → Int, zz9 = zf τ 36 1 := ⟨_, rfl⟩
        rw [← τ51e] at hp48m
        show zG C V47 2 80 24 [(0, .ref (c 60)), (1, .int (zI (q))), (2, .int (zI (q2)))] [.int (zI (1))]
        refine zr_if_eq X 29 27 dX8_differ_24 rfl rfl (by omega) (fun bq52 => absurd bq52 (by omega)) (fun bq52 => ?_)
        refine zr_iconst X 28 dX8_differ_27 rfl ?_
        exact zr_iret X rfl ⟨0, md, τ51, κ, rfl, hp48m.le (by omega), fx50, Or.inl ⟨by omega, rfl, by rw [τ51e]⟩⟩ dX8_differ_28
      · exact absurd tc49a (by decide)
      · exact absurd tc49a (by decide)
set_option maxRecDepth 100000 in
set_option maxHeartbeats 4000000 in
theorem m_X8_known (l : Launch) (Γ : zGam) {V : zV} {c md : Nat → Nat} {τ κ : Nat → Int} {E : Int} {q z : Int} (hM : zMo Γ V c md τ κ E) (hq : -2147483648 ≤ q ∧ q ≤ 2147483647) (hz : -2147483648 ≤ z ∧ z ≤ 2147483647) : zM l Γ 6 yX8_known wsX8_known 2 80 V [.ref (c 60), .int (zI (q)), .int (zI (z))] (fun rv V' => ∃ (y : Int) (md' : Nat → Nat) (τ' κ' : Nat → Int), rv = some (.int (zI y)) ∧ zMo Γ V' c md' τ' κ' (E + 40) ∧ zfm V V' ∧ ((¬ (0 ≤ q ∧ q ≤ 7) ∧ y = 0 ∧ τ' = zf τ 36 1) ∨ ((0 ≤ q ∧ q ≤ 7) ∧ ¬ (0 ≤ z ∧ z ≤ 4) ∧ y = 0 ∧ τ' = zf τ 36 2) ∨ ((0 ≤ q ∧ q ≤ 7) ∧ (0 ≤ z ∧ z ≤ 4) ∧ (zsK (zf τ 36 0) q z y ∧ τ' = (zf τ 36 0))))) := by
  have w0 : Cond.fieldLink RX8 18 "SashwordsModel" "built" "[I" ∈ wsX8_known := by decide +kernel
  have iX8 : ∀ w ∈ u_ws RX8 TX8 11, w ∈ wsX8_known := by decide +kernel
  have w2 : Cond.fieldLink RX8 21 "SashwordsModel" "kept" "[I" ∈ wsX8_known := by decide +kernel
  refine zM_of (cc := cX8_known) (nL := 5) (ret := (some .int)) (own := RX8) (by decide +kernel) rfl rfl (Nat.le_of_ble_eq_true rfl) (fun C X hi0 => ?_)
  have nn1 : (0 ≤ κ 0 ∧ κ 0 ≤ κ 1 ∧ κ 0 ≤ E ∧ κ 1 ≤ 7000) ∧ (0 ≤ τ 24 ∧ τ 24 ≤ 80 ∧ 0 ≤ τ 25 ∧ τ 25 ≤ 80) ∧ 1 ≤ τ 26 ∧ τ 26 ≤ 8 ∧ 0 ≤ τ 29 ∧ τ 29 ≤ τ 28 ∧ τ 28 ≤ 160 ∧ τ 27 ≤ τ 26 ∧ τ 27 = τ 28 - τ 29 := hM.n
  show zG C V 2 80 0 [(0, .ref (c 60)), (1, .int (zI (q))), (2, .int (zI (z)))] []
  refine zr_aload_n X 1 0 dX8_known_0 rfl rfl ?_
  refine zr_iload_n X 2 1 dX8_known_1 rfl rfl ?_
  refine zr_callS (kc' := 2) (ks' := 80) X 5 1 (m_X8_isNoSource l Γ (V := V) (x := q) (by omega)) gX8_known_X8_isNoSource rfl (by decide +kernel) rfl (by decide) rfl (Nat.le_of_ble_eq_true rfl) dX8_known_2 rfl (by omega) (by omega) (fun rv2 V3 hp4 => ?_)
  obtain ⟨⟨no5, no5e, no5a⟩, no5v⟩ := hp4
  rw [no5e, no5v]
  show zG C V 2 80 5 [(0, .ref (c 60)), (1, .int (zI (q))), (2, .int (zI (z)))] [.int (zI (no5)), .ref (c 60)]
  refine zr_iload_n X 6 2 dX8_known_5 rfl rfl ?_
  refine zr_iconst X 7 dX8_known_6 rfl ?_
  refine zr_iconst X 8 dX8_known_7 rfl ?_
  refine zr_callS (kc' := 2) (ks' := 80) X 11 3 (m_X8_isNo l Γ (V := V) (x := z) (a := 0) (b := 4) (by omega) (by omega) (by omega)) gX8_known_X8_isNo rfl (by decide +kernel) rfl (by decide) rfl (Nat.le_of_ble_eq_true rfl) dX8_known_8 rfl (by omega) (by omega) (fun rv6 V7 hp8 => ?_)
  obtain ⟨⟨no9, no9e, no9a⟩, no9v⟩ := hp8
  rw [no9e, no9v]
  show zG C V 2 80 11 [(0, .ref (c 60)), (1, .int (zI (q))), (2, .int (zI (z)))] [.int (zI (no9)), .int (zI (no5)), .ref (c 60)]
  refine zr_callVe (kc' := 2) (ks' := 80) X 14 2 (m_X8_isThrown l Γ hM (a := no5) (b := no9) (by omega) (by omega)) gX8_known_X8_isThrown rfl (by decide +kernel) rfl (by decide) ⟨_, _, hM.1⟩ rfl rfl (Nat.le_of_ble_eq_true rfl) dX8_known_11 rfl (by omega) (by omega) (fun rv10 V11 hp12 => ?_)
  obtain ⟨⟨hp12x, hp12k, hp12e, hp12c, hp12m⟩, hp12g⟩ := hp12
  rw [hp12e]
  rcases hp12c with ⟨tc13a, tc13k, tc13x⟩ | ⟨tc13a, tc13b, tc13k, tc13x⟩ | ⟨tc13a, tc13b, tc13k, tc13x⟩
  · skip
    subst tc13k tc13x
    have fx14 : zfm V V11 := (hp12g.mono (fun t ht => by omega))
    obtain ⟨τ15, τ15e⟩ : ∃ zz9 : Nat → Int, zz9 = zf τ 36 1 := ⟨_, rfl⟩
    rw [← τ15e] at hp12m
    have τ15_24 : τ15 24 = τ 24 := by rw [τ15e]; exact rfl
    have τ15_25 : τ15 25 = τ 25 := by rw [τ15e]; exact rfl
    have τ15_26 : τ15 26 = τ 26 := by rw [τ15e]; exact rfl
    have τ15_27 : τ15 27 = τ 27 := by rw [τ15e]; exact rfl
    have τ15_28 : τ15 28 = τ 28 := by rw [τ15e]; exact rfl
    have τ15_29 : τ15 29 = τ 29 := by rw [τ15e]; exact rfl
    have τ15_30 : τ15 30 = τ 30 := by rw [τ15e]; exact rfl
    have τ15_31 : τ15 31 = τ 31 := by rw [τ15e]; exact rfl
    have τ15_32 : τ15 32 = τ 32 := by rw [τ15e]; exact rfl
    have τ15_33 : τ15 33 = τ 33 := by rw [τ15e]; exact rfl
    have τ15_36 : τ15 36 = 1 := by rw [τ15e]; exact rfl
    show zG C V11 2 80 14 [(0, .ref (c 60)), (1, .int (zI (q))), (2, .int (zI (z)))] [.int (zI (1))]
    refine zr_if_eq X 19 17 dX8_known_14 rfl rfl (by omega) (fun bq16 => absurd bq16 (by omega)) (fun bq16 => ?_)
    refine zr_iconst X 18 dX8_known_17 rfl ?_
    exact zr_iret X rfl ⟨0, md, τ15, κ, rfl, hp12m.le (by omega), fx14, Or.inl ⟨by omega, rfl, by rw [τ15e]⟩⟩ dX8_known_18
  · skip
    subst tc13k tc13x
    have fx17 : zfm V V11 := (hp12g.mono (fun t ht => by omega))
    obtain ⟨τ18, τ18e⟩ : ∃ zz9 : Nat → Int, zz9 = zf τ 36 2 := ⟨_, rfl⟩
    rw [← τ18e] at hp12m
    have τ18_24 : τ18 24 = τ 24 := by rw [τ18e]; exact rfl
    have τ18_25 : τ18 25 = τ 25 := by rw [τ18e]; exact rfl
    have τ18_26 : τ18 26 = τ 26 := by rw [τ18e]; exact rfl
    have τ18_27 : τ18 27 = τ 27 := by rw [τ18e]; exact rfl
    have τ18_28 : τ18 28 = τ 28 := by rw [τ18e]; exact rfl
    have τ18_29 : τ18 29 = τ 29 := by rw [τ18e]; exact rfl
    have τ18_30 : τ18 30 = τ 30 := by rw [τ18e]; exact rfl
    have τ18_31 : τ18 31 = τ 31 := by rw [τ18e]; exact rfl
    have τ18_32 : τ18 32 = τ 32 := by rw [τ18e]; exact rfl
    have τ18_33 : τ18 33 = τ 33 := by rw [τ18e]; exact rfl
    have τ18_36 : τ18 36 = 2 := by rw [τ18e]; exact rfl
    show zG C V11 2 80 14 [(0, .ref (c 60)), (1, .int (zI (q))), (2, .int (zI (z)))] [.int (zI (1))]
    refine zr_if_eq X 19 17 dX8_known_14 rfl rfl (by omega) (fun bq19 => absurd bq19 (by omega)) (fun bq19 => ?_)
    refine zr_iconst X 18 dX8_known_17 rfl ?_
    exact zr_iret X rfl ⟨0, md, τ18, κ, rfl, hp12m.le (by omega), fx17, Or.inr (Or.inl ⟨by omega, by omega, rfl, by rw [τ18e]⟩)⟩ dX8_known_18
  · skip
    subst tc13k tc13x
    have fx20 : zfm V V11 := (hp12g.mono (fun t ht => by omega))
    obtain ⟨τ21, τ21e⟩ : ∃ zz9 : Nat → Int, zz9 = zf τ 36 0 := ⟨_, rfl⟩
    rw [← τ21e] at hp12m
    have τ21_24 : τ21 24 = τ 24 := by rw [τ21e]; exact rfl
    have τ21_25 : τ21 25 = τ 25 := by rw [τ21e]; exact rfl
    have τ21_26 : τ21 26 = τ 26 := by rw [τ21e]; exact rfl
    have τ21_27 : τ21 27 = τ 27 := by rw [τ21e]; exact rfl
    have τ21_28 : τ21 28 = τ 28 := by rw [τ21e]; exact rfl
    have τ21_29 : τ21 29 = τ 29 := by rw [τ21e]; exact rfl
    have τ21_30 : τ21 30 = τ 30 := by rw [τ21e]; exact rfl
    have τ21_31 : τ21 31 = τ 31 := by rw [τ21e]; exact rfl
    have τ21_32 : τ21 32 = τ 32 := by rw [τ21e]; exact rfl
    have τ21_33 : τ21 33 = τ 33 := by rw [τ21e]; exact rfl
    have τ21_36 : τ21 36 = 0 := by rw [τ21e]; exact rfl
    show zG C V11 2 80 14 [(0, .ref (c 60)), (1, .int (zI (q))), (2, .int (zI (z)))] [.int (zI (0))]
    refine zr_if_eq X 19 17 dX8_known_14 rfl rfl (by omega) (fun bq22 => ?_) (fun bq22 => absurd bq22 (by omega))
    refine zr_iload_n X 20 2 dX8_known_19 rfl rfl ?_
    refine zr_iconst X 21 dX8_known_20 rfl ?_
    refine zr_icmp_eq X 29 24 dX8_known_21 rfl rfl (by omega) (by omega) (fun bq23 => ?_) (fun bq23 => ?_)
    · refine zr_aload_n X 30 0 dX8_known_29 rfl rfl ?_
      have c824 : V11 (c 60) = some (60, .inr (9, [.ref (md 61), .int (zI (κ 0)), .ref (c 62), .ref (md 63), .ref (md 64), .ref (c 65), .int (zI (τ21 26)), .int (zI (τ21 28)), .int (zI (τ21 29)), .ref (c 66), .int (zI (τ21 36))])) := hp12m.1
      refine zr_get X 33 9 3 c824 rfl iX8 (by decide) w0 rfl rfl dX8_known_30 rfl ?_
      refine zr_goto X 40 dX8_known_33 rfl ?_
      refine zr_astore_n X 41 [(3, .ref (md 63)), (0, .ref (c 60)), (1, .int (zI (q))), (2, .int (zI (z)))] dX8_known_40 rfl (by decide) rfl ?_
      refine zr_aload_n X 42 1 dX8_known_41 rfl rfl ?_
      refine zr_iload_n X 43 2 dX8_known_42 rfl rfl ?_
      refine zr_callVe (kc' := (2 - 1)) (ks' := (80 - 40)) X 46 1 (m_X8_textOf l Γ (tg := 76) (q := q) hp12m (by omega)) gX8_known_X8_textOf rfl (by decide +kernel) rfl (by decide) ⟨_, _, hp12m.1⟩ rfl rfl (Nat.le_of_ble_eq_true rfl) dX8_known_43 rfl (by omega) (by omega) (fun rv25 V26 hp27 => ?_)
      obtain ⟨hp27q, hp27t, hp27f, hp27e, hp27h, hp27c, hp27a, hp27n1, hp27n2, hp27g, hp27z⟩ := hp27
      rw [hp27e]
      have hp27m := hp12m.kept hp27g (fun _ _ _ => trivial)
      have fx28 : zfm V V26 := zag.tr fx20 (hp27g.mono (fun _ _ => trivial))
      show zG C V26 (2 - 1) (80 - 40) 46 [(3, .ref (md 63)), (0, .ref (c 60)), (1, .int (zI (q))), (2, .int (zI (z)))] [.ref hp27q]
      refine zr_astore X 48 [(4, .ref hp27q), (3, .ref (md 63)), (0, .ref (c 60)), (1, .int (zI (q))), (2, .int (zI (z)))] dX8_known_46 rfl (by decide) rfl ?_
      refine zr_iload_n X 49 4 dX8_known_48 rfl rfl ?_
      refine zr_iconst X 50 dX8_known_49 rfl ?_
      refine zr_icmp_ne X 69 53 dX8_known_50 rfl rfl (by omega) (by omega) (fun bq29 => ?_) (fun bq29 => ?_)
      · refine zr_iload_n X 70 4 dX8_known_69 rfl rfl ?_
        refine zr_iconst X 71 dX8_known_70 rfl ?_
        refine zr_irem X 72 dX8_known_71 rfl (by omega) (by omega) ?_
        refine zr_if_ne X 85 75 dX8_known_72 rfl rfl (by omega) (fun bq30 => ?_) (fun bq30 => ?_)
        · refine zr_aload_n X 86 1 dX8_known_85 rfl rfl ?_
          refine zr_aload X 88 0 dX8_known_86 rfl rfl ?_
          obtain ⟨c831f, c831, c831c, c831v⟩ := hp27m.ct.2.2.2.1
          refine zr_callS (kc' := (2 - 1)) (ks' := (80 - 40)) X 91 2 (m_X8_lastOf l Γ c831 c831c (by omega) hp27h hp27c (by omega)) gX8_known_X8_lastOf rfl (by decide +kernel) rfl (by decide) rfl (Nat.le_of_ble_eq_true rfl) dX8_known_88 rfl (by omega) (by omega) (fun rv32 V33 hp34 => ?_)
          obtain ⟨⟨y35, y35e, y350, y351, y352⟩, y35v⟩ := hp34
          rw [y35e, y35v]
          show zG C V26 (2 - 1) (80 - 40) 91 [(4, .ref hp27q), (3, .ref (md 63)), (0, .ref (c 60)), (1, .int (zI (q))), (2, .int (zI (z)))] [.int (zI (y35))]
          have hP9 : zsP τ21 6 q (zsN τ21 6 q - 1) y35 := zsL.row y352 (by rw [zsz6]; omega) (by omega) (fun k9 h9 => by rw [zsz6] at h9; unfold zsg; rw [if_neg (by omega), if_pos (by omega)]; exact c831v k9 (by omega) (by omega)) hp27z
          have hK9 : zsK τ21 q z y35 := Or.inr (Or.inr (Or.inr (Or.inl ⟨by omega, hP9⟩)))
          exact zr_iret X rfl ⟨y35, md, τ21, κ, rfl, hp27m.le (by omega), fx28, Or.inr (Or.inr ⟨by omega, by omega, ⟨by rw [← τ21e]; exact hK9, by rw [τ21e]⟩⟩)⟩ dX8_known_91
        · refine zr_aload_n X 76 1 dX8_known_75 rfl rfl ?_
          refine zr_aload X 78 0 dX8_known_76 rfl rfl ?_
          refine zr_iconst X 79 dX8_known_78 rfl ?_
          obtain ⟨c836f, c836, c836c, c836v⟩ := hp27m.ct.2.2.2.1
          refine zr_callS (kc' := (2 - 1)) (ks' := (80 - 40)) X 82 3 (m_X8_nth l Γ (w := 0) c836 c836c (by omega) hp27h hp27c (by omega) (by omega)) gX8_known_X8_nth rfl (by decide +kernel) rfl (by decide) rfl (Nat.le_of_ble_eq_true rfl) dX8_known_79 rfl (by omega) (by omega) (fun rv37 V38 hp39 => ?_)
          obtain ⟨⟨y40, y40e, y400, y401, y402, y403⟩, y40v⟩ := hp39
          rw [y40e, y40v]
          show zG C V26 (2 - 1) (80 - 40) 82 [(4, .ref hp27q), (3, .ref (md 63)), (0, .ref (c 60)), (1, .int (zI (q))), (2, .int (zI (z)))] [.int (zI (y40))]
          refine zr_goto X 91 dX8_known_82 rfl ?_
          have hP9 : zsP τ21 6 q 0 y40 := zsP.row y403 (by rw [zsz6]; omega) (by omega) (fun k9 h9 => by rw [zsz6] at h9; unfold zsg; rw [if_neg (by omega), if_pos (by omega)]; exact c836v k9 (by omega) (by omega)) hp27z
          have hK9 : zsK τ21 q z y40 := Or.inr (Or.inr (Or.inl ⟨by omega, hP9⟩))
          exact zr_iret X rfl ⟨y40, md, τ21, κ, rfl, hp27m.le (by omega), fx28, Or.inr (Or.inr ⟨by omega, by omega, ⟨by rw [← τ21e]; exact hK9, by rw [τ21e]⟩⟩)⟩ dX8_known_91
      · refine zr_aload_n X 54 1 dX8_known_53 rfl rfl ?_
        refine zr_aload X 56 0 dX8_known_54 rfl rfl ?_
        refine zr_iconst X 57 dX8_known_56 rfl ?_
        obtain ⟨c841f, c841, c841c, c841v⟩ := hp27m.ct.2.2.2.1
        refine zr_callS (kc' := (2 - 1)) (ks' := (80 - 40)) X 60 3 (m_X8_nth l Γ (w := 0) c841 c841c (by omega) hp27h hp27c (by omega) (by omega)) gX8_known_X8_nth rfl (by decide +kernel) rfl (by decide) rfl (Nat.le_of_ble_eq_true rfl) dX8_known_57 rfl (by omega) (by omega) (fun rv42 V43 hp44 => ?_)
        obtain ⟨⟨y45, y45e, y450, y451, y452, y453⟩, y45v⟩ := hp44
        rw [y45e, y45v]
        show zG C V26 (2 - 1) (80 - 40) 60 [(4, .ref hp27q), (3, .ref (md 63)), (0, .ref (c 60)), (1, .int (zI (q))), (2, .int (zI (z)))] [.int (zI (y45))]
        refine zr_if_ge X 67 63 dX8_known_60 rfl rfl (by omega) (fun bq46 => ?_) (fun bq46 => ?_)
        · refine zr_iconst X 68 dX8_known_67 rfl ?_
          have hP9 : zsP τ21 6 q 0 y45 := zsP.row y453 (by rw [zsz6]; omega) (by omega) (fun k9 h9 => by rw [zsz6] at h9; unfold zsg; rw [if_neg (by omega), if_pos (by omega)]; exact c841v k9 (by omega) (by omega)) hp27z
          have hA9 := hP9.any
          have hK9 : zsK τ21 q z 1 := by
            exfalso; omega
          exact zr_iret X rfl ⟨1, md, τ21, κ, rfl, hp27m.le (by omega), fx28, Or.inr (Or.inr ⟨by omega, by omega, ⟨by rw [← τ21e]; exact hK9, by rw [τ21e]⟩⟩)⟩ dX8_known_68
        · refine zr_iconst X 64 dX8_known_63 rfl ?_
          refine zr_goto X 68 dX8_known_64 rfl ?_
          have hP9 : zsP τ21 6 q 0 y45 := zsP.row y453 (by rw [zsz6]; omega) (by omega) (fun k9 h9 => by rw [zsz6] at h9; unfold zsg; rw [if_neg (by omega), if_pos (by omega)]; exact c841v k9 (by omega) (by omega)) hp27z
          have hA9 := hP9.any
          have hK9 : zsK τ21 q z 0 := by
            exfalso; omega
          exact zr_iret X rfl ⟨0, md, τ21, κ, rfl, hp27m.le (by omega), fx28, Or.inr (Or.inr ⟨by omega, by omega, ⟨by rw [← τ21e]; exact hK9, by rw [τ21e]⟩⟩)⟩ dX8_known_68
    · refine zr_iload_n X 25 2 dX8_known_24 rfl rfl ?_
      refine zr_iconst X 26 dX8_known_25 rfl ?_
      refine zr_icmp_ne X 36 29 dX8_known_26 rfl rfl (by omega) (by omega) (fun bq47 => ?_) (fun bq47 => ?_)
      · refine zr_aload_n X 37 0 dX8_known_36 rfl rfl ?_
        have c848 : V11 (c 60) = some (60, .inr (9, [.ref (md 61), .int (zI (κ 0)), .ref (c 62), .ref (md 63), .ref (md 64), .ref (c 65), .int (zI (τ21 26)), .int (zI (τ21 28)), .int (zI (τ21 29)), .ref (c 66), .int (zI (τ21 36))])) := hp12m.1
        refine zr_get X 40 9 4 c848 rfl iX8 (by decide) w2 rfl rfl dX8_known_37 rfl ?_
        refine zr_astore_n X 41 [(3, .ref (md 64)), (0, .ref (c 60)), (1, .int (zI (q))), (2, .int (zI (z)))] dX8_known_40 rfl (by decide) rfl ?_
        refine zr_aload_n X 42 1 dX8_known_41 rfl rfl ?_
        refine zr_iload_n X 43 2 dX8_known_42 rfl rfl ?_
        refine zr_callVe (kc' := (2 - 1)) (ks' := (80 - 40)) X 46 1 (m_X8_textOf l Γ (tg := 76) (q := q) hp12m (by omega)) gX8_known_X8_textOf rfl (by decide +kernel) rfl (by decide) ⟨_, _, hp12m.1⟩ rfl rfl (Nat.le_of_ble_eq_true rfl) dX8_known_43 rfl (by omega) (by omega) (fun rv49 V50 hp51 => ?_)
        obtain ⟨hp51q, hp51t, hp51f, hp51e, hp51h, hp51c, hp51a, hp51n1, hp51n2, hp51g, hp51z⟩ := hp51
        rw [hp51e]
        have hp51m := hp12m.kept hp51g (fun _ _ _ => trivial)
        have fx52 : zfm V V50 := zag.tr fx20 (hp51g.mono (fun _ _ => trivial))
        show zG C V50 (2 - 1) (80 - 40) 46 [(3, .ref (md 64)), (0, .ref (c 60)), (1, .int (zI (q))), (2, .int (zI (z)))] [.ref hp51q]
        refine zr_astore X 48 [(4, .ref hp51q), (3, .ref (md 64)), (0, .ref (c 60)), (1, .int (zI (q))), (2, .int (zI (z)))] dX8_known_46 rfl (by decide) rfl ?_
        refine zr_iload_n X 49 4 dX8_known_48 rfl rfl ?_
        refine zr_iconst X 50 dX8_known_49 rfl ?_
        refine zr_icmp_ne X 69 53 dX8_known_50 rfl rfl (by omega) (by omega) (fun bq53 => ?_) (fun bq53 => ?_)
        · refine zr_iload_n X 70 4 dX8_known_69 rfl rfl ?_
          refine zr_iconst X 71 dX8_known_70 rfl ?_
          refine zr_irem X 72 dX8_known_71 rfl (by omega) (by omega) ?_
          refine zr_if_ne X 85 75 dX8_known_72 rfl rfl (by omega) (fun bq54 => ?_) (fun bq54 => ?_)
          · refine zr_aload_n X 86 1 dX8_known_85 rfl rfl ?_
            refine zr_aload X 88 0 dX8_known_86 rfl rfl ?_
            obtain ⟨c855f, c855, c855c, c855v⟩ := hp51m.ct.2.2.2.2
            refine zr_callS (kc' := (2 - 1)) (ks' := (80 - 40)) X 91 2 (m_X8_lastOf l Γ c855 c855c (by omega) hp51h hp51c (by omega)) gX8_known_X8_lastOf rfl (by decide +kernel) rfl (by decide) rfl (Nat.le_of_ble_eq_true rfl) dX8_known_88 rfl (by omega) (by omega) (fun rv56 V57 hp58 => ?_)
            obtain ⟨⟨y59, y59e, y590, y591, y592⟩, y59v⟩ := hp58
            rw [y59e, y59v]
            show zG C V50 (2 - 1) (80 - 40) 91 [(4, .ref hp51q), (3, .ref (md 64)), (0, .ref (c 60)), (1, .int (zI (q))), (2, .int (zI (z)))] [.int (zI (y59))]
            have hP9 : zsP τ21 7 q (zsN τ21 7 q - 1) y59 := zsL.row y592 (by rw [zsz7]; omega) (by omega) (fun k9 h9 => by rw [zsz7] at h9; unfold zsg; rw [if_neg (by omega), if_neg (by omega)]; exact c855v k9 (by omega) (by omega)) hp51z
            have hK9 : zsK τ21 q z y59 := Or.inr (Or.inl ⟨by omega, hP9⟩)
            exact zr_iret X rfl ⟨y59, md, τ21, κ, rfl, hp51m.le (by omega), fx52, Or.inr (Or.inr ⟨by omega, by omega, ⟨by rw [← τ21e]; exact hK9, by rw [τ21e]⟩⟩)⟩ dX8_known_91
          · refine zr_aload_n X 76 1 dX8_known_75 rfl rfl ?_
            refine zr_aload X 78 0 dX8_known_76 rfl rfl ?_
            refine zr_iconst X 79 dX8_known_78 rfl ?_
            obtain ⟨c860f, c860, c860c, c860v⟩ := hp51m.ct.2.2.2.2
            refine zr_callS (kc' := (2 - 1)) (ks' := (80 - 40)) X 82 3 (m_X8_nth l Γ (w := 0) c860 c860c (by omega) hp51h hp51c (by omega) (by omega)) gX8_known_X8_nth rfl (by decide +kernel) rfl (by decide) rfl (Nat.le_of_ble_eq_true rfl) dX8_known_79 rfl (by omega) (by omega) (fun rv61 V62 hp63 => ?_)
            obtain ⟨⟨y64, y64e, y640, y641, y642, y643⟩, y64v⟩ := hp63
            rw [y64e, y64v]
            show zG C V50 (2 - 1) (80 - 40) 82 [(4, .ref hp51q), (3, .ref (md 64)), (0, .ref (c 60)), (1, .int (zI (q))), (2, .int (zI (z)))] [.int (zI (y64))]
            refine zr_goto X 91 dX8_known_82 rfl ?_
            have hP9 : zsP τ21 7 q 0 y64 := zsP.row y643 (by rw [zsz7]; omega) (by omega) (fun k9 h9 => by rw [zsz7] at h9; unfold zsg; rw [if_neg (by omega), if_neg (by omega)]; exact c860v k9 (by omega) (by omega)) hp51z
            have hK9 : zsK τ21 q z y64 := Or.inl ⟨by omega, hP9⟩
            exact zr_iret X rfl ⟨y64, md, τ21, κ, rfl, hp51m.le (by omega), fx52, Or.inr (Or.inr ⟨by omega, by omega, ⟨by rw [← τ21e]; exact hK9, by rw [τ21e]⟩⟩)⟩ dX8_known_91
        · refine zr_aload_n X 54 1 dX8_known_53 rfl rfl ?_
          refine zr_aload X 56 0 dX8_known_54 rfl rfl ?_
          refine zr_iconst X 57 dX8_known_56 rfl ?_
          obtain ⟨c865f, c865, c865c, c865v⟩ := hp51m.ct.2.2.2.2
          refine zr_callS (kc' := (2 - 1)) (ks' := (80 - 40)) X 60 3 (m_X8_nth l Γ (w := 0) c865 c865c (by omega) hp51h hp51c (by omega) (by omega)) gX8_known_X8_nth rfl (by decide +kernel) rfl (by decide) rfl (Nat.le_of_ble_eq_true rfl) dX8_known_57 rfl (by omega) (by omega) (fun rv66 V67 hp68 => ?_)
          obtain ⟨⟨y69, y69e, y690, y691, y692, y693⟩, y69v⟩ := hp68
          rw [y69e, y69v]
          show zG C V50 (2 - 1) (80 - 40) 60 [(4, .ref hp51q), (3, .ref (md 64)), (0, .ref (c 60)), (1, .int (zI (q))), (2, .int (zI (z)))] [.int (zI (y69))]
          refine zr_if_ge X 67 63 dX8_known_60 rfl rfl (by omega) (fun bq70 => ?_) (fun bq70 => ?_)
          · refine zr_iconst X 68 dX8_known_67 rfl ?_
            have hP9 : zsP τ21 7 q 0 y69 := zsP.row y693 (by rw [zsz7]; omega) (by omega) (fun k9 h9 => by rw [zsz7] at h9; unfold zsg; rw [if_neg (by omega), if_neg (by omega)]; exact c865v k9 (by omega) (by omega)) hp51z
            have hA9 := hP9.any
            have hK9 : zsK τ21 q z 1 := Or.inr (Or.inr (Or.inr (Or.inr ⟨by omega, by omega⟩)))
            exact zr_iret X rfl ⟨1, md, τ21, κ, rfl, hp51m.le (by omega), fx52, Or.inr (Or.inr ⟨by omega, by omega, ⟨by rw [← τ21e]; exact hK9, by rw [τ21e]⟩⟩)⟩ dX8_known_68
          · refine zr_iconst X 64 dX8_known_63 rfl ?_
            refine zr_goto X 68 dX8_known_64 rfl ?_
            have hP9 : zsP τ21 7 q 0 y69 := zsP.row y693 (by rw [zsz7]; omega) (by omega) (fun k9 h9 => by rw [zsz7] at h9; unfold zsg; rw [if_neg (by omega), if_neg (by omega)]; exact c865v k9 (by omega) (by omega)) hp51z
            have hA9 := hP9.any
            have hK9 : zsK τ21 q z 0 := Or.inr (Or.inr (Or.inr (Or.inr ⟨by omega, by omega⟩)))
            exact zr_iret X rfl ⟨0, md, τ21, κ, rfl, hp51m.le (by omega), fx52, Or.inr (Or.inr ⟨by omega, by omega, ⟨by rw [← τ21e]; exact hK9, by rw [τ21e]⟩⟩)⟩ dX8_known_68
      · refine zr_aload_n X 30 0 dX8_known_29 rfl rfl ?_
        have c871 : V11 (c 60) = some (60, .inr (9, [.ref (md 61), .int (zI (κ 0)), .ref (c 62), .ref (md 63), .ref (md 64), .ref (c 65), .int (zI (τ21 26)), .int (zI (τ21 28)), .int (zI (τ21 29)), .ref (c 66), .int (zI (τ21 36))])) := hp12m.1
        refine zr_get X 33 9 3 c871 rfl iX8 (by decide) w0 rfl rfl dX8_known_30 rfl ?_
        refine zr_goto X 40 dX8_known_33 rfl ?_
        refine zr_astore_n X 41 [(3, .ref (md 63)), (0, .ref (c 60)), (1, .int (zI (q))), (2, .int (zI (z)))] dX8_known_40 rfl (by decide) rfl ?_
        refine zr_aload_n X 42 1 dX8_known_41 rfl rfl ?_
        refine zr_iload_n X 43 2 dX8_known_42 rfl rfl ?_
        refine zr_callVe (kc' := (2 - 1)) (ks' := (80 - 40)) X 46 1 (m_X8_textOf l Γ (tg := 76) (q := q) hp12m (by omega)) gX8_known_X8_textOf rfl (by decide +kernel) rfl (by decide) ⟨_, _, hp12m.1⟩ rfl rfl (Nat.le_of_ble_eq_true rfl) dX8_known_43 rfl (by omega) (by omega) (fun rv72 V73 hp74 => ?_)
        obtain ⟨hp74q, hp74t, hp74f, hp74e, hp74h, hp74c, hp74a, hp74n1, hp74n2, hp74g, hp74z⟩ := hp74
        rw [hp74e]
        have hp74m := hp12m.kept hp74g (fun _ _ _ => trivial)
        have fx75 : zfm V V73 := zag.tr fx20 (hp74g.mono (fun _ _ => trivial))
        show zG C V73 (2 - 1) (80 - 40) 46 [(3, .ref (md 63)), (0, .ref (c 60)), (1, .int (zI (q))), (2, .int (zI (z)))] [.ref hp74q]
        refine zr_astore X 48 [(4, .ref hp74q), (3, .ref (md 63)), (0, .ref (c 60)), (1, .int (zI (q))), (2, .int (zI (z)))] dX8_known_46 rfl (by decide) rfl ?_
        refine zr_iload_n X 49 4 dX8_known_48 rfl rfl ?_
        refine zr_iconst X 50 dX8_known_49 rfl ?_
        refine zr_icmp_ne X 69 53 dX8_known_50 rfl rfl (by omega) (by omega) (fun bq76 => ?_) (fun bq76 => ?_)
        · refine zr_iload_n X 70 4 dX8_known_69 rfl rfl ?_
          refine zr_iconst X 71 dX8_known_70 rfl ?_
          refine zr_irem X 72 dX8_known_71 rfl (by omega) (by omega) ?_
          refine zr_if_ne X 85 75 dX8_known_72 rfl rfl (by omega) (fun bq77 => ?_) (fun bq77 => ?_)
          · refine zr_aload_n X 86 1 dX8_known_85 rfl rfl ?_
            refine zr_aload X 88 0 dX8_known_86 rfl rfl ?_
            obtain ⟨c878f, c878, c878c, c878v⟩ := hp74m.ct.2.2.2.1
            refine zr_callS (kc' := (2 - 1)) (ks' := (80 - 40)) X 91 2 (m_X8_lastOf l Γ c878 c878c (by omega) hp74h hp74c (by omega)) gX8_known_X8_lastOf rfl (by decide +kernel) rfl (by decide) rfl (Nat.le_of_ble_eq_true rfl) dX8_known_88 rfl (by omega) (by omega) (fun rv79 V80 hp81 => ?_)
            obtain ⟨⟨y82, y82e, y820, y821, y822⟩, y82v⟩ := hp81
            rw [y82e, y82v]
            show zG C V73 (2 - 1) (80 - 40) 91 [(4, .ref hp74q), (3, .ref (md 63)), (0, .ref (c 60)), (1, .int (zI (q))), (2, .int (zI (z)))] [.int (zI (y82))]
            have hP9 : zsP τ21 6 q (zsN τ21 6 q - 1) y82 := zsL.row y822 (by rw [zsz6]; omega) (by omega) (fun k9 h9 => by rw [zsz6] at h9; unfold zsg; rw [if_neg (by omega), if_pos (by omega)]; exact c878v k9 (by omega) (by omega)) hp74z
            have hK9 : zsK τ21 q z y82 := Or.inr (Or.inr (Or.inr (Or.inl ⟨by omega, hP9⟩)))
            exact zr_iret X rfl ⟨y82, md, τ21, κ, rfl, hp74m.le (by omega), fx75, Or.inr (Or.inr ⟨by omega, by omega, ⟨by rw [← τ21e]; exact hK9, by rw [τ21e]⟩⟩)⟩ dX8_known_91
          · refine zr_aload_n X 76 1 dX8_known_75 rfl rfl ?_
            refine zr_aload X 78 0 dX8_known_76 rfl rfl ?_
            refine zr_iconst X 79 dX8_known_78 rfl ?_
            obtain ⟨c883f, c883, c883c, c883v⟩ := hp74m.ct.2.2.2.1
            refine zr_callS (kc' := (2 - 1)) (ks' := (80 - 40)) X 82 3 (m_X8_nth l Γ (w := 0) c883 c883c (by omega) hp74h hp74c (by omega) (by omega)) gX8_known_X8_nth rfl (by decide +kernel) rfl (by decide) rfl (Nat.le_of_ble_eq_true rfl) dX8_known_79 rfl (by omega) (by omega) (fun rv84 V85 hp86 => ?_)
            obtain ⟨⟨y87, y87e, y870, y871, y872, y873⟩, y87v⟩ := hp86
            rw [y87e, y87v]
            show zG C V73 (2 - 1) (80 - 40) 82 [(4, .ref hp74q), (3, .ref (md 63)), (0, .ref (c 60)), (1, .int (zI (q))), (2, .int (zI (z)))] [.int (zI (y87))]
            refine zr_goto X 91 dX8_known_82 rfl ?_
            have hP9 : zsP τ21 6 q 0 y87 := zsP.row y873 (by rw [zsz6]; omega) (by omega) (fun k9 h9 => by rw [zsz6] at h9; unfold zsg; rw [if_neg (by omega), if_pos (by omega)]; exact c883v k9 (by omega) (by omega)) hp74z
            have hK9 : zsK τ21 q z y87 := Or.inr (Or.inr (Or.inl ⟨by omega, hP9⟩))
            exact zr_iret X rfl ⟨y87, md, τ21, κ, rfl, hp74m.le (by omega), fx75, Or.inr (Or.inr ⟨by omega, by omega, ⟨by rw [← τ21e]; exact hK9, by rw [τ21e]⟩⟩)⟩ dX8_known_91
        · refine zr_aload_n X 54 1 dX8_known_53 rfl rfl ?_
          refine zr_aload X 56 0 dX8_known_54 rfl rfl ?_
          refine zr_iconst X 57 dX8_known_56 rfl ?_
          obtain ⟨c888f, c888, c888c, c888v⟩ := hp74m.ct.2.2.2.1
          refine zr_callS (kc' := (2 - 1)) (ks' := (80 - 40)) X 60 3 (m_X8_nth l Γ (w := 0) c888 c888c (by omega) hp74h hp74c (by omega) (by omega)) gX8_known_X8_nth rfl (by decide +kernel) rfl (by decide) rfl (Nat.le_of_ble_eq_true rfl) dX8_known_57 rfl (by omega) (by omega) (fun rv89 V90 hp91 => ?_)
          obtain ⟨⟨y92, y92e, y920, y921, y922, y923⟩, y92v⟩ := hp91
          rw [y92e, y92v]
          show zG C V73 (2 - 1) (80 - 40) 60 [(4, .ref hp74q), (3, .ref (md 63)), (0, .ref (c 60)), (1, .int (zI (q))), (2, .int (zI (z)))] [.int (zI (y92))]
          refine zr_if_ge X 67 63 dX8_known_60 rfl rfl (by omega) (fun bq93 => ?_) (fun bq93 => ?_)
          · refine zr_iconst X 68 dX8_known_67 rfl ?_
            have hP9 : zsP τ21 6 q 0 y92 := zsP.row y923 (by rw [zsz6]; omega) (by omega) (fun k9 h9 => by rw [zsz6] at h9; unfold zsg; rw [if_neg (by omega), if_pos (by omega)]; exact c888v k9 (by omega) (by omega)) hp74z
            have hA9 := hP9.any
            have hK9 : zsK τ21 q z 1 := by
              exfalso; omega
            exact zr_iret X rfl ⟨1, md, τ21, κ, rfl, hp74m.le (by omega), fx75, Or.inr (Or.inr ⟨by omega, by omega, ⟨by rw [← τ21e]; exact hK9, by rw [τ21e]⟩⟩)⟩ dX8_known_68
          · refine zr_iconst X 64 dX8_known_63 rfl ?_
            refine zr_goto X 68 dX8_known_64 rfl ?_
            have hP9 : zsP τ21 6 q 0 y92 := zsP.row y923 (by rw [zsz6]; omega) (by omega) (fun k9 h9 => by rw [zsz6] at h9; unfold zsg; rw [if_neg (by omega), if_pos (by omega)]; exact c888v k9 (by omega) (by omega)) hp74z
            have hA9 := hP9.any
            have hK9 : zsK τ21 q z 0 := by
              exfalso; omega
            exact zr_iret X rfl ⟨0, md, τ21, κ, rfl, hp74m.le (by omega), fx75, Or.inr (Or.inr ⟨by omega, by omega, ⟨by rw [← τ21e]; exact hK9, by rw [τ21e]⟩⟩)⟩ dX8_known_68
set_option maxRecDepth 100000 in
set_option maxHeartbeats 4000000 in
theorem m_X8_borders (l : Launch) (Γ : zGam) {V : zV} {c md : Nat → Nat} {τ κ : Nat → Int} {E : Int} {q : Int} (hM : zMo Γ V c md τ κ E) (hq : -2147483648 ≤ q ∧ q ≤ 2147483647) : zM l Γ 10 yX8_borders wsX8_borders 3011 6340 V [.ref (c 60), .int (zI (q))] (fun rv V' => ∃ (zr : Nat) (md' : Nat → Nat) (τ' κ' : Nat → Int), rv = some (.ref zr) ∧ zMo Γ V' c md' τ' κ' (E + 40) ∧ zfm V V' ∧ ((¬ (0 ≤ q ∧ q ≤ 7) ∧ τ' = zf τ 36 1) ∨ ((0 ≤ q ∧ q ≤ 7) ∧ ¬ (True) ∧ τ' = zf τ 36 2) ∨ ((0 ≤ q ∧ q ≤ 7) ∧ (True) ∧ (τ' = (zf τ 36 0))))) := by
  have w0 : Cond.classLink RX8 66 RJ4 ∈ wsX8_borders := by decide +kernel
  have w1 : Cond.instantiable RJ4 4 ∈ wsX8_borders := by decide +kernel
  have w2 : Cond.initialized RJ4 ∈ wsX8_borders := by decide +kernel
  have iJ4 : ∀ w ∈ u_ws RJ4 TJ4 4, w ∈ wsX8_borders := by decide +kernel
  have w4 : Cond.initialized yJ4_init_da8c8.cls ∈ wsX8_borders := by decide +kernel
  have w5 : Cond.methodLink RX8 68 yJ4_init_da8c8 ∈ wsX8_borders := by decide +kernel
  have w6 : Cond.instanceMethod yJ4_init_da8c8 ∈ wsX8_borders := by decide +kernel
  refine zM_of (cc := cX8_borders) (nL := 5) (ret := (some (.object "java/lang/String"))) (own := RX8) (by decide +kernel) rfl rfl (Nat.le_of_ble_eq_true rfl) (fun C X hi0 => ?_)
  have nn1 : 0 ≤ κ 0 ∧ κ 0 ≤ κ 1 ∧ κ 0 ≤ E ∧ κ 1 ≤ 7000 := hM.n.1
  show zG C V 3011 6340 0 [(0, .ref (c 60)), (1, .int (zI (q)))] []
  refine zr_aload_n X 1 0 dX8_borders_0 rfl rfl ?_
  refine zr_iload_n X 2 1 dX8_borders_1 rfl rfl ?_
  refine zr_callS (kc' := 3011) (ks' := 6340) X 5 1 (m_X8_isNoSource l Γ (V := V) (x := q) (by omega)) gX8_borders_X8_isNoSource rfl (by decide +kernel) rfl (by decide) rfl (Nat.le_of_ble_eq_true rfl) dX8_borders_2 rfl (by omega) (by omega) (fun rv2 V3 hp4 => ?_)
  obtain ⟨⟨no5, no5e, no5a⟩, no5v⟩ := hp4
  rw [no5e, no5v]
  show zG C V 3011 6340 5 [(0, .ref (c 60)), (1, .int (zI (q)))] [.int (zI (no5)), .ref (c 60)]
  refine zr_iconst X 6 dX8_borders_5 rfl ?_
  refine zr_callVe (kc' := 3011) (ks' := 6340) X 9 2 (m_X8_isThrown l Γ hM (a := no5) (b := 0) (by omega) (by omega)) gX8_borders_X8_isThrown rfl (by decide +kernel) rfl (by decide) ⟨_, _, hM.1⟩ rfl rfl (Nat.le_of_ble_eq_true rfl) dX8_borders_6 rfl (by omega) (by omega) (fun rv6 V7 hp8 => ?_)
  obtain ⟨⟨hp8x, hp8k, hp8e, hp8c, hp8m⟩, hp8g⟩ := hp8
  rw [hp8e]
  rcases hp8c with ⟨tc9a, tc9k, tc9x⟩ | ⟨tc9a, tc9b, tc9k, tc9x⟩ | ⟨tc9a, tc9b, tc9k, tc9x⟩
  · skip
    subst tc9k tc9x
    have fx10 : zfm V V7 := (hp8g.mono (fun t ht => by omega))
    obtain ⟨τ11, τ11e⟩ : ∃ zz9 : Nat → Int, zz9 = zf τ 36 1 := ⟨_, rfl⟩
    rw [← τ11e] at hp8m
    show zG C V7 3011 6340 9 [(0, .ref (c 60)), (1, .int (zI (q)))] [.int (zI (1))]
    refine zr_if_eq X 15 12 dX8_borders_9 rfl rfl (by omega) (fun bq12 => absurd bq12 (by omega)) (fun bq12 => ?_)
    refine zr_ldcS X 14 6 rfl dX8_borders_12 rfl ?_
    exact zr_aret X rfl (Or.inl ⟨_, rfl⟩) ⟨Γ.2.2.1 6, md, τ11, κ, rfl, hp8m.le (by omega), fx10, Or.inl ⟨by omega, by rw [τ11e]⟩⟩ dX8_borders_14
  · exact absurd tc9b (by decide)
  · skip
    subst tc9k tc9x
    have fx13 : zfm V V7 := (hp8g.mono (fun t ht => by omega))
    obtain ⟨τ14, τ14e⟩ : ∃ zz9 : Nat → Int, zz9 = zf τ 36 0 := ⟨_, rfl⟩
    rw [← τ14e] at hp8m
    show zG C V7 3011 6340 9 [(0, .ref (c 60)), (1, .int (zI (q)))] [.int (zI (0))]
    refine zr_if_eq X 15 12 dX8_borders_9 rfl rfl (by omega) (fun bq15 => ?_) (fun bq15 => absurd bq15 (by omega))
    refine zr_aload_n X 16 0 dX8_borders_15 rfl rfl ?_
    refine zr_iload_n X 17 1 dX8_borders_16 rfl rfl ?_
    refine zr_callVe (kc' := (3011 - 1)) (ks' := (6340 - 40)) X 20 1 (m_X8_textOf l Γ (tg := 76) (q := q) hp8m (by omega)) gX8_borders_X8_textOf rfl (by decide +kernel) rfl (by decide) ⟨_, _, hp8m.1⟩ rfl rfl (Nat.le_of_ble_eq_true rfl) dX8_borders_17 rfl (by omega) (by omega) (fun rv16 V17 hp18 => ?_)
    obtain ⟨hp18q, hp18t, hp18f, hp18e, hp18h, hp18c, hp18a, hp18n1, hp18n2, hp18g, hp18z⟩ := hp18
    rw [hp18e]
    have hp18m := hp8m.kept hp18g (fun _ _ _ => trivial)
    have fx19 : zfm V V17 := zag.tr fx13 (hp18g.mono (fun _ _ => trivial))
    show zG C V17 (3011 - 1) (6340 - 40) 20 [(0, .ref (c 60)), (1, .int (zI (q)))] [.ref hp18q]
    refine zr_astore_n X 21 [(2, .ref hp18q), (0, .ref (c 60)), (1, .int (zI (q)))] dX8_borders_20 rfl (by decide) rfl ?_
    refine zr_new (kc' := ((3011 - 1) - 1)) (ks' := ((6340 - 40) - 4)) X 24 1 7 [.null, .int (zI (0)), .int (zI (0)), .int (zI (0))] tyJ4 rfl iJ4 tyJ4_ok w0 w1 w2 (zdf_J4) dX8_borders_21 rfl (by omega) (by omega) (fun q20 hq21 => ?_)
    refine zr_dup X 25 dX8_borders_24 rfl rfl ?_
    refine zr_callI (kc' := ((3011 - 1) - 1) - 1) (ks' := ((6340 - 40) - 4) - 16) X 28 0 (m_J4_init_da8c8 l Γ (zu_eq _ _ _ _)) gX8_borders_J4_init_da8c8 rfl w4 w5 w6 rfl (by decide +kernel) rfl (by decide) rfl (Nat.le_of_ble_eq_true rfl) dX8_borders_25 rfl (by omega) (by omega) (fun rv22 V23 hp24 => ?_)
    obtain ⟨hp24e, hp24b, hp24f⟩ := hp24
    rw [hp24e]
    have ff25 : zfr V17 V23 := zag.tr (P := fun t => t ≠ 7) (zag.rf.new hq21) hp24f
    have sm26g : zag (fun x => x ≠ 7) V17 V23 := ff25
    have sm26m := hp18m.kept sm26g (fun t h1 h2 => by omega)
    have lc27 := sm26g _ _ _ hp18h (by omega)
    have fx28 : zfm V V23 := zag.tr fx19 (sm26g.mono (fun t ht => by omega))
    show zG C V23 (((3011 - 1) - 1) - 1) (((6340 - 40) - 4) - 16) 28 [(2, .ref hp18q), (0, .ref (c 60)), (1, .int (zI (q)))] [.ref q20]
    refine zr_astore_n X 29 [(3, .ref q20), (2, .ref hp18q), (0, .ref (c 60)), (1, .int (zI (q)))] dX8_borders_28 rfl (by decide) rfl ?_
    refine zr_iconst X 30 dX8_borders_29 rfl ?_
    refine zr_istore X 32 [(4, .int (zI (1))), (3, .ref q20), (2, .ref hp18q), (0, .ref (c 60)), (1, .int (zI (q)))] dX8_borders_30 rfl (by decide) rfl ?_
    refine zr_room (3002 - 16) (6200 - 2 * 16) (by omega) (by omega) ?_
    refine zr_sub [0, 1, 2, 4, 3] [(4, .int (zI (1))), (3, .ref q20), (2, .ref hp18q), (1, .int (zI (q))), (0, .ref (c 60))] rfl ?_
    have loop : ∀ (N : Nat) (V1 : zV) (k : Int) (cnt : Int) (cap : Nat), zMo Γ V1 c md τ14 κ E ∧ zfm V V1 ∧ V1 hp18q = some (hp18t, za Γ.2.1 0 (zsz τ14 q).toNat hp18f) ∧ zSB Γ V1 q20 cnt cap ∧ 1 ≤ k ∧ k ≤ (((zsz τ14 q).toNat : Nat) : Int) + 1 ∧ 0 ≤ cnt ∧ cnt ≤ 5 * (k - 1) ∧ 16 ≤ cap ∧ cap ≤ 900 → ((((zsz τ14 q).toNat : Nat) : Int) + 1 - k).toNat = N → zG C V1 (3002 - cap) (6200 - 2 * cap) 32 [(4, .int (zI (k))), (3, .ref q20), (2, .ref hp18q), (1, .int (zI (q))), (0, .ref (c 60))] [] := by
      intro N
      induction N using Nat.strongRecOn with
      | _ N ih =>
      intro V1 k cnt cap hI hN
      obtain ⟨hI1, hI2, hI3, hI4, hI5, hI6, hI7, hI8, hI9, hI10⟩ := id hI
      refine zr_iload X 34 0 dX8_borders_32 rfl rfl ?_
      refine zr_aload_n X 35 2 dX8_borders_34 rfl rfl ?_
      refine zr_alen X 36 0 hI3 (by decide) dX8_borders_35 rfl ?_
      refine zr_icmp_gt X 61 39 dX8_borders_36 rfl rfl (by omega) (by omega) (fun bq29 => ?_) (fun bq29 => ?_)
      · refine zr_aload_n X 62 1 dX8_borders_61 rfl rfl ?_
        have hp32r := hI4.rg
        refine zr_callVe (kc' := 3002 - cap - 2) (ks' := 6200 - 2 * cap - ((cnt).toNat + 4)) X 65 0 (zsb_str l Γ hI4) gX8_borders_J4_toString_0e30d rfl (by decide +kernel) rfl (by decide) hI4.cl rfl rfl (Nat.le_of_ble_eq_true rfl) dX8_borders_62 rfl (by omega) (by omega) (fun rv30 V31 hp32 => ?_)
        obtain ⟨hp32z, hp32e, hp32n, hp32f⟩ := hp32
        rw [hp32e]
        have sm33g : zag (fun x => x ≠ 7) V1 V31 := hp32f
        have sm33m := hI1.kept sm33g (fun t h1 h2 => by omega)
        have lc34 := sm33g _ _ _ hI3 (by omega)
        have fx35 : zfm V V31 := zag.tr hI2 (sm33g.mono (fun t ht => by omega))
        show zG C V31 (3002 - cap - 2) (6200 - 2 * cap - ((cnt).toNat + 4)) 65 [(4, .int (zI (k))), (3, .ref q20), (2, .ref hp18q), (1, .int (zI (q))), (0, .ref (c 60))] [.ref hp32z]
        exact zr_aret X rfl (Or.inl ⟨_, rfl⟩) ⟨hp32z, md, τ14, κ, rfl, sm33m.le (by omega), fx35, Or.inr (Or.inr ⟨by omega, trivial, by rw [τ14e]⟩)⟩ dX8_borders_65
      · refine zr_aload_n X 40 1 dX8_borders_39 rfl rfl ?_
        refine zr_aload_n X 41 2 dX8_borders_40 rfl rfl ?_
        refine zr_iload X 43 0 dX8_borders_41 rfl rfl ?_
        refine zr_callS (kc' := 3002 - cap) (ks' := 6200 - 2 * cap) X 46 2 (m_X8_greatest l Γ (mn := k) hI3 hp18c (by omega) (by omega)) gX8_borders_X8_greatest rfl (by decide +kernel) rfl (by decide) rfl (Nat.le_of_ble_eq_true rfl) dX8_borders_43 rfl (by omega) (by omega) (fun rv36 V37 hp38 => ?_)
        obtain ⟨⟨y39, y39e, y390, y391, y392⟩, y39v⟩ := hp38
        rw [y39e, y39v]
        show zG C V1 (3002 - cap) (6200 - 2 * cap) 46 [(4, .int (zI (k))), (3, .ref q20), (2, .ref hp18q), (1, .int (zI (q))), (0, .ref (c 60))] [.int (zI (y39)), .ref q20]
        have gr43r := hI4.rg
        obtain ⟨gr43q, gr43a⟩ : ∃ zq9 : Int, ((y39 < 10 ∧ zq9 = 1) ∨ (10 ≤ y39 ∧ y39 < 100 ∧ zq9 = 2) ∨ (100 ≤ y39 ∧ y39 < 1000 ∧ zq9 = 3) ∨ (1000 ≤ y39 ∧ zq9 = 4)) := zdigits y39
        obtain ⟨gr43p, gr43c, gr43k, gr43⟩ := zgrow cnt gr43q cap ⟨by omega, by omega, by omega⟩ (by omega) (by omega)
        refine zr_callVe (kc' := 3002 - cap - gr43c) (ks' := 6200 - 2 * cap - gr43k) X 49 1 (zsb_app_i l Γ hI4 (x := y39) (by omega) gr43a gr43) gX8_borders_J4_append_bf812 rfl (by decide +kernel) rfl (by decide) hI4.cl rfl rfl (Nat.le_of_ble_eq_true rfl) dX8_borders_46 rfl (by omega) (by omega) (fun rv40 V41 hp42 => ?_)
        obtain ⟨hp42e, hp42b, hp42f⟩ := hp42
        rw [hp42e]
        have gr43s := hp42b.rg
        have sm44g : zag (fun x => x ≠ 7) V1 V41 := hp42f
        have sm44m := hI1.kept sm44g (fun t h1 h2 => by omega)
        have lc45 := sm44g _ _ _ hI3 (by omega)
        have fx46 : zfm V V41 := zag.tr hI2 (sm44g.mono (fun t ht => by omega))
        show zG C V41 (3002 - cap - gr43c) (6200 - 2 * cap - gr43k) 49 [(4, .int (zI (k))), (3, .ref q20), (2, .ref hp18q), (1, .int (zI (q))), (0, .ref (c 60))] [.ref q20]
        refine zr_bipush X 51 (32) dX8_borders_49 rfl (by decide) ?_
        have gr50r := hp42b.rg
        obtain ⟨gr50p, gr50c, gr50k, gr50⟩ := zgrow1w (cnt + gr43q) gr43p (by omega)
        refine zr_callVe (kc' := (3002 - cap - gr43c) - gr50c) (ks' := (6200 - 2 * cap - gr43k) - gr50k) X 54 1 (zsb_app_c l Γ hp42b (x := 32) (by omega) gr50) gX8_borders_J4_append_cf468 rfl (by decide +kernel) rfl (by decide) hp42b.cl rfl rfl (Nat.le_of_ble_eq_true rfl) dX8_borders_51 rfl (by omega) (by omega) (fun rv47 V48 hp49 => ?_)
        obtain ⟨hp49e, hp49b, hp49f⟩ := hp49
        rw [hp49e]
        have gr50s := hp49b.rg
        have sm51g : zag (fun x => x ≠ 7) V41 V48 := hp49f
        have sm51m := sm44m.kept sm51g (fun t h1 h2 => by omega)
        have lc52 := sm51g _ _ _ lc45 (by omega)
        have fx53 : zfm V V48 := zag.tr fx46 (sm51g.mono (fun t ht => by omega))
        show zG C V48 ((3002 - cap - gr43c) - gr50c) ((6200 - 2 * cap - gr43k) - gr50k) 54 [(4, .int (zI (k))), (3, .ref q20), (2, .ref hp18q), (1, .int (zI (q))), (0, .ref (c 60))] [.ref q20]
        refine zr_pop X 55 dX8_borders_54 rfl rfl ?_
        refine zr_iinc X 58 0 [(4, .int (zI (k + 1))), (3, .ref q20), (2, .ref hp18q), (1, .int (zI (q))), (0, .ref (c 60))] dX8_borders_55 rfl rfl (by decide) rfl ?_
        refine zr_goto X 32 dX8_borders_58 rfl ?_
        refine zr_room (3002 - gr50p) (6200 - 2 * gr50p) (by omega) (by omega) ?_
        exact ih _ (by omega) V48 (k + 1) (cnt + gr43q + 1) gr50p ⟨sm51m, fx53, lc52, hp49b, by omega, by omega, by omega, by omega, by omega, by omega⟩ rfl
    exact loop _ V23 1 0 16 ⟨sm26m, fx28, lc27, hp24b, by omega, by omega, by omega, by omega, by omega, by omega⟩ rfl
set_option maxRecDepth 100000 in
set_option maxHeartbeats 4000000 in
theorem m_X8_chain (l : Launch) (Γ : zGam) {V : zV} {c md : Nat → Nat} {τ κ : Nat → Int} {E : Int} {q : Int} (hM : zMo Γ V c md τ κ E) (hq : -2147483648 ≤ q ∧ q ≤ 2147483647) : zM l Γ 10 yX8_chain wsX8_chain 3011 6340 V [.ref (c 60), .int (zI (q))] (fun rv V' => ∃ (zr : Nat) (md' : Nat → Nat) (τ' κ' : Nat → Int), rv = some (.ref zr) ∧ zMo Γ V' c md' τ' κ' (E + 40) ∧ zfm V V' ∧ ((¬ (0 ≤ q ∧ q ≤ 7) ∧ τ' = zf τ 36 1) ∨ ((0 ≤ q ∧ q ≤ 7) ∧ ¬ (True) ∧ τ' = zf τ 36 2) ∨ ((0 ≤ q ∧ q ≤ 7) ∧ (True) ∧ (τ' = (zf τ 36 0))))) := by
  have w0 : Cond.classLink RX8 66 RJ4 ∈ wsX8_chain := by decide +kernel
  have w1 : Cond.instantiable RJ4 4 ∈ wsX8_chain := by decide +kernel
  have w2 : Cond.initialized RJ4 ∈ wsX8_chain := by decide +kernel
  have iJ4 : ∀ w ∈ u_ws RJ4 TJ4 4, w ∈ wsX8_chain := by decide +kernel
  have w4 : Cond.initialized yJ4_init_da8c8.cls ∈ wsX8_chain := by decide +kernel
  have w5 : Cond.methodLink RX8 68 yJ4_init_da8c8 ∈ wsX8_chain := by decide +kernel
  have w6 : Cond.instanceMethod yJ4_init_da8c8 ∈ wsX8_chain := by decide +kernel
  refine zM_of (cc := cX8_chain) (nL := 5) (ret := (some (.object "java/lang/String"))) (own := RX8) (by decide +kernel) rfl rfl (Nat.le_of_ble_eq_true rfl) (fun C X hi0 => ?_)
  have nn1 : 0 ≤ κ 0 ∧ κ 0 ≤ κ 1 ∧ κ 0 ≤ E ∧ κ 1 ≤ 7000 := hM.n.1
  show zG C V 3011 6340 0 [(0, .ref (c 60)), (1, .int (zI (q)))] []
  refine zr_aload_n X 1 0 dX8_chain_0 rfl rfl ?_
  refine zr_iload_n X 2 1 dX8_chain_1 rfl rfl ?_
  refine zr_callS (kc' := 3011) (ks' := 6340) X 5 1 (m_X8_isNoSource l Γ (V := V) (x := q) (by omega)) gX8_chain_X8_isNoSource rfl (by decide +kernel) rfl (by decide) rfl (Nat.le_of_ble_eq_true rfl) dX8_chain_2 rfl (by omega) (by omega) (fun rv2 V3 hp4 => ?_)
  obtain ⟨⟨no5, no5e, no5a⟩, no5v⟩ := hp4
  rw [no5e, no5v]
  show zG C V 3011 6340 5 [(0, .ref (c 60)), (1, .int (zI (q)))] [.int (zI (no5)), .ref (c 60)]
  refine zr_iconst X 6 dX8_chain_5 rfl ?_
  refine zr_callVe (kc' := 3011) (ks' := 6340) X 9 2 (m_X8_isThrown l Γ hM (a := no5) (b := 0) (by omega) (by omega)) gX8_chain_X8_isThrown rfl (by decide +kernel) rfl (by decide) ⟨_, _, hM.1⟩ rfl rfl (Nat.le_of_ble_eq_true rfl) dX8_chain_6 rfl (by omega) (by omega) (fun rv6 V7 hp8 => ?_)
  obtain ⟨⟨hp8x, hp8k, hp8e, hp8c, hp8m⟩, hp8g⟩ := hp8
  rw [hp8e]
  rcases hp8c with ⟨tc9a, tc9k, tc9x⟩ | ⟨tc9a, tc9b, tc9k, tc9x⟩ | ⟨tc9a, tc9b, tc9k, tc9x⟩
  · skip
    subst tc9k tc9x
    have fx10 : zfm V V7 := (hp8g.mono (fun t ht => by omega))
    obtain ⟨τ11, τ11e⟩ : ∃ zz9 : Nat → Int, zz9 = zf τ 36 1 := ⟨_, rfl⟩
    rw [← τ11e] at hp8m
    show zG C V7 3011 6340 9 [(0, .ref (c 60)), (1, .int (zI (q)))] [.int (zI (1))]
    refine zr_if_eq X 15 12 dX8_chain_9 rfl rfl (by omega) (fun bq12 => absurd bq12 (by omega)) (fun bq12 => ?_)
    refine zr_ldcS X 14 6 rfl dX8_chain_12 rfl ?_
    exact zr_aret X rfl (Or.inl ⟨_, rfl⟩) ⟨Γ.2.2.1 6, md, τ11, κ, rfl, hp8m.le (by omega), fx10, Or.inl ⟨by omega, by rw [τ11e]⟩⟩ dX8_chain_14
  · exact absurd tc9b (by decide)
  · skip
    subst tc9k tc9x
    have fx13 : zfm V V7 := (hp8g.mono (fun t ht => by omega))
    obtain ⟨τ14, τ14e⟩ : ∃ zz9 : Nat → Int, zz9 = zf τ 36 0 := ⟨_, rfl⟩
    rw [← τ14e] at hp8m
    show zG C V7 3011 6340 9 [(0, .ref (c 60)), (1, .int (zI (q)))] [.int (zI (0))]
    refine zr_if_eq X 15 12 dX8_chain_9 rfl rfl (by omega) (fun bq15 => ?_) (fun bq15 => absurd bq15 (by omega))
    refine zr_aload_n X 16 0 dX8_chain_15 rfl rfl ?_
    refine zr_iload_n X 17 1 dX8_chain_16 rfl rfl ?_
    refine zr_callVe (kc' := (3011 - 1)) (ks' := (6340 - 40)) X 20 1 (m_X8_textOf l Γ (tg := 76) (q := q) hp8m (by omega)) gX8_chain_X8_textOf rfl (by decide +kernel) rfl (by decide) ⟨_, _, hp8m.1⟩ rfl rfl (Nat.le_of_ble_eq_true rfl) dX8_chain_17 rfl (by omega) (by omega) (fun rv16 V17 hp18 => ?_)
    obtain ⟨hp18q, hp18t, hp18f, hp18e, hp18h, hp18c, hp18a, hp18n1, hp18n2, hp18g, hp18z⟩ := hp18
    rw [hp18e]
    have hp18m := hp8m.kept hp18g (fun _ _ _ => trivial)
    have fx19 : zfm V V17 := zag.tr fx13 (hp18g.mono (fun _ _ => trivial))
    show zG C V17 (3011 - 1) (6340 - 40) 20 [(0, .ref (c 60)), (1, .int (zI (q)))] [.ref hp18q]
    refine zr_astore_n X 21 [(2, .ref hp18q), (0, .ref (c 60)), (1, .int (zI (q)))] dX8_chain_20 rfl (by decide) rfl ?_
    refine zr_new (kc' := ((3011 - 1) - 1)) (ks' := ((6340 - 40) - 4)) X 24 1 7 [.null, .int (zI (0)), .int (zI (0)), .int (zI (0))] tyJ4 rfl iJ4 tyJ4_ok w0 w1 w2 (zdf_J4) dX8_chain_21 rfl (by omega) (by omega) (fun q20 hq21 => ?_)
    refine zr_dup X 25 dX8_chain_24 rfl rfl ?_
    refine zr_callI (kc' := ((3011 - 1) - 1) - 1) (ks' := ((6340 - 40) - 4) - 16) X 28 0 (m_J4_init_da8c8 l Γ (zu_eq _ _ _ _)) gX8_chain_J4_init_da8c8 rfl w4 w5 w6 rfl (by decide +kernel) rfl (by decide) rfl (Nat.le_of_ble_eq_true rfl) dX8_chain_25 rfl (by omega) (by omega) (fun rv22 V23 hp24 => ?_)
    obtain ⟨hp24e, hp24b, hp24f⟩ := hp24
    rw [hp24e]
    have ff25 : zfr V17 V23 := zag.tr (P := fun t => t ≠ 7) (zag.rf.new hq21) hp24f
    have sm26g : zag (fun x => x ≠ 7) V17 V23 := ff25
    have sm26m := hp18m.kept sm26g (fun t h1 h2 => by omega)
    have lc27 := sm26g _ _ _ hp18h (by omega)
    have fx28 : zfm V V23 := zag.tr fx19 (sm26g.mono (fun t ht => by omega))
    show zG C V23 (((3011 - 1) - 1) - 1) (((6340 - 40) - 4) - 16) 28 [(2, .ref hp18q), (0, .ref (c 60)), (1, .int (zI (q)))] [.ref q20]
    refine zr_astore_n X 29 [(3, .ref q20), (2, .ref hp18q), (0, .ref (c 60)), (1, .int (zI (q)))] dX8_chain_28 rfl (by decide) rfl ?_
    refine zr_aload_n X 30 1 dX8_chain_29 rfl rfl ?_
    refine zr_alen X 31 0 lc27 (by decide) dX8_chain_30 rfl ?_
    refine zr_iconst X 32 dX8_chain_31 rfl ?_
    refine zr_isub X 33 dX8_chain_32 rfl ?_
    refine zr_istore X 35 [(4, .int (zI (((zsz τ14 q).toNat : Nat) - 1))), (3, .ref q20), (2, .ref hp18q), (0, .ref (c 60)), (1, .int (zI (q)))] dX8_chain_33 rfl (by decide) rfl ?_
    refine zr_room (3002 - 16) (6200 - 2 * 16) (by omega) (by omega) ?_
    refine zr_sub [0, 1, 2, 4, 3] [(4, .int (zI (((zsz τ14 q).toNat : Nat) - 1))), (3, .ref q20), (2, .ref hp18q), (1, .int (zI (q))), (0, .ref (c 60))] rfl ?_
    have loop : ∀ (N : Nat) (V1 : zV) (k : Int) (cnt : Int) (cap : Nat), zMo Γ V1 c md τ14 κ E ∧ zfm V V1 ∧ V1 hp18q = some (hp18t, za Γ.2.1 0 (zsz τ14 q).toNat hp18f) ∧ zSB Γ V1 q20 cnt cap ∧ -1 ≤ k ∧ k ≤ (((zsz τ14 q).toNat : Nat) : Int) - 1 ∧ 0 ≤ cnt ∧ cnt ≤ 5 * ((((zsz τ14 q).toNat : Nat) : Int) - 1 - k) ∧ 16 ≤ cap ∧ cap ≤ 900 → (k + 1).toNat = N → zG C V1 (3002 - cap) (6200 - 2 * cap) 35 [(4, .int (zI (k))), (3, .ref q20), (2, .ref hp18q), (1, .int (zI (q))), (0, .ref (c 60))] [] := by
      intro N
      induction N using Nat.strongRecOn with
      | _ N ih =>
      intro V1 k cnt cap hI hN
      obtain ⟨hI1, hI2, hI3, hI4, hI5, hI6, hI7, hI8, hI9, hI10⟩ := id hI
      refine zr_iload X 37 0 dX8_chain_35 rfl rfl ?_
      refine zr_if_lt X 69 40 dX8_chain_37 rfl rfl (by omega) (fun bq29 => ?_) (fun bq29 => ?_)
      · refine zr_aload_n X 70 1 dX8_chain_69 rfl rfl ?_
        have hp32r := hI4.rg
        refine zr_callVe (kc' := 3002 - cap - 2) (ks' := 6200 - 2 * cap - ((cnt).toNat + 4)) X 73 0 (zsb_str l Γ hI4) gX8_chain_J4_toString_0e30d rfl (by decide +kernel) rfl (by decide) hI4.cl rfl rfl (Nat.le_of_ble_eq_true rfl) dX8_chain_70 rfl (by omega) (by omega) (fun rv30 V31 hp32 => ?_)
        obtain ⟨hp32z, hp32e, hp32n, hp32f⟩ := hp32
        rw [hp32e]
        have sm33g : zag (fun x => x ≠ 7) V1 V31 := hp32f
        have sm33m := hI1.kept sm33g (fun t h1 h2 => by omega)
        have lc34 := sm33g _ _ _ hI3 (by omega)
        have fx35 : zfm V V31 := zag.tr hI2 (sm33g.mono (fun t ht => by omega))
        show zG C V31 (3002 - cap - 2) (6200 - 2 * cap - ((cnt).toNat + 4)) 73 [(4, .int (zI (k))), (3, .ref q20), (2, .ref hp18q), (1, .int (zI (q))), (0, .ref (c 60))] [.ref hp32z]
        exact zr_aret X rfl (Or.inl ⟨_, rfl⟩) ⟨hp32z, md, τ14, κ, rfl, sm33m.le (by omega), fx35, Or.inr (Or.inr ⟨by omega, trivial, by rw [τ14e]⟩)⟩ dX8_chain_73
      · refine zr_aload_n X 41 2 dX8_chain_40 rfl rfl ?_
        refine zr_aload_n X 42 2 dX8_chain_41 rfl rfl ?_
        refine zr_alen X 43 0 hI3 (by decide) dX8_chain_42 rfl ?_
        refine zr_iload X 45 0 dX8_chain_43 rfl rfl ?_
        refine zr_callS (kc' := 3002 - cap) (ks' := 6200 - 2 * cap) X 48 3 (m_X8_isBorder l Γ (mn := ((zsz τ14 q).toNat : Nat)) (q := k) hI3 hp18c (by omega) (by omega) (by omega)) gX8_chain_X8_isBorder rfl (by decide +kernel) rfl (by decide) rfl (Nat.le_of_ble_eq_true rfl) dX8_chain_45 rfl (by omega) (by omega) (fun rv36 V37 hp38 => ?_)
        obtain ⟨⟨y39, y39e, y390⟩, y39v⟩ := hp38
        rw [y39e, y39v]
        show zG C V1 (3002 - cap) (6200 - 2 * cap) 48 [(4, .int (zI (k))), (3, .ref q20), (2, .ref hp18q), (1, .int (zI (q))), (0, .ref (c 60))] [.int (zI (y39))]
        refine zr_if_eq X 63 51 dX8_chain_48 rfl rfl (by omega) (fun bq40 => ?_) (fun bq40 => ?_)
        · refine zr_iinc X 66 0 [(4, .int (zI (k + (-1)))), (3, .ref q20), (2, .ref hp18q), (1, .int (zI (q))), (0, .ref (c 60))] dX8_chain_63 rfl rfl (by decide) rfl ?_
          refine zr_goto X 35 dX8_chain_66 rfl ?_
          refine zr_room (3002 - cap) (6200 - 2 * cap) (by omega) (by omega) ?_
          exact ih _ (by omega) V1 (k + (-1)) cnt cap ⟨hI1, hI2, hI3, hI4, by omega, by omega, by omega, by omega, by omega, by omega⟩ rfl
        · refine zr_aload_n X 52 1 dX8_chain_51 rfl rfl ?_
          refine zr_iload X 54 0 dX8_chain_52 rfl rfl ?_
          have gr44r := hI4.rg
          obtain ⟨gr44q, gr44a⟩ : ∃ zq9 : Int, ((k < 10 ∧ zq9 = 1) ∨ (10 ≤ k ∧ k < 100 ∧ zq9 = 2) ∨ (100 ≤ k ∧ k < 1000 ∧ zq9 = 3) ∨ (1000 ≤ k ∧ zq9 = 4)) := zdigits k
          obtain ⟨gr44p, gr44c, gr44k, gr44⟩ := zgrow cnt gr44q cap ⟨by omega, by omega, by omega⟩ (by omega) (by omega)
          refine zr_callVe (kc' := 3002 - cap - gr44c) (ks' := 6200 - 2 * cap - gr44k) X 57 1 (zsb_app_i l Γ hI4 (x := k) (by omega) gr44a gr44) gX8_chain_J4_append_bf812 rfl (by decide +kernel) rfl (by decide) hI4.cl rfl rfl (Nat.le_of_ble_eq_true rfl) dX8_chain_54 rfl (by omega) (by omega) (fun rv41 V42 hp43 => ?_)
          obtain ⟨hp43e, hp43b, hp43f⟩ := hp43
          rw [hp43e]
          have gr44s := hp43b.rg
          have sm45g : zag (fun x => x ≠ 7) V1 V42 := hp43f
          have sm45m := hI1.kept sm45g (fun t h1 h2 => by omega)
          have lc46 := sm45g _ _ _ hI3 (by omega)
          have fx47 : zfm V V42 := zag.tr hI2 (sm45g.mono (fun t ht => by omega))
          show zG C V42 (3002 - cap - gr44c) (6200 - 2 * cap - gr44k) 57 [(4, .int (zI (k))), (3, .ref q20), (2, .ref hp18q), (1, .int (zI (q))), (0, .ref (c 60))] [.ref q20]
          refine zr_bipush X 59 (32) dX8_chain_57 rfl (by decide) ?_
          have gr51r := hp43b.rg
          obtain ⟨gr51p, gr51c, gr51k, gr51⟩ := zgrow1w (cnt + gr44q) gr44p (by omega)
          refine zr_callVe (kc' := (3002 - cap - gr44c) - gr51c) (ks' := (6200 - 2 * cap - gr44k) - gr51k) X 62 1 (zsb_app_c l Γ hp43b (x := 32) (by omega) gr51) gX8_chain_J4_append_cf468 rfl (by decide +kernel) rfl (by decide) hp43b.cl rfl rfl (Nat.le_of_ble_eq_true rfl) dX8_chain_59 rfl (by omega) (by omega) (fun rv48 V49 hp50 => ?_)
          obtain ⟨hp50e, hp50b, hp50f⟩ := hp50
          rw [hp50e]
          have gr51s := hp50b.rg
          have sm52g : zag (fun x => x ≠ 7) V42 V49 := hp50f
          have sm52m := sm45m.kept sm52g (fun t h1 h2 => by omega)
          have lc53 := sm52g _ _ _ lc46 (by omega)
          have fx54 : zfm V V49 := zag.tr fx47 (sm52g.mono (fun t ht => by omega))
          show zG C V49 ((3002 - cap - gr44c) - gr51c) ((6200 - 2 * cap - gr44k) - gr51k) 62 [(4, .int (zI (k))), (3, .ref q20), (2, .ref hp18q), (1, .int (zI (q))), (0, .ref (c 60))] [.ref q20]
          refine zr_pop X 63 dX8_chain_62 rfl rfl ?_
          refine zr_iinc X 66 0 [(4, .int (zI (k + (-1)))), (3, .ref q20), (2, .ref hp18q), (1, .int (zI (q))), (0, .ref (c 60))] dX8_chain_63 rfl rfl (by decide) rfl ?_
          refine zr_goto X 35 dX8_chain_66 rfl ?_
          refine zr_room (3002 - gr51p) (6200 - 2 * gr51p) (by omega) (by omega) ?_
          exact ih _ (by omega) V49 (k + (-1)) (cnt + gr44q + 1) gr51p ⟨sm52m, fx54, lc53, hp50b, by omega, by omega, by omega, by omega, by omega, by omega⟩ rfl
    exact loop _ V23 ((((zsz τ14 q).toNat : Nat) : Int) - 1) 0 16 ⟨sm26m, fx28, lc27, hp24b, by omega, by omega, by omega, by omega, by omega, by omega⟩ rfl
