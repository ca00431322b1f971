/-! the model: the windows' calls -/
theorem zdn_zw4 {τ : Nat → Int} {i : Nat} {a b d e : Int} (hi : i < 6) : zw4 (zdn τ) i a b d e = zdn (zw4 τ i a b d e) := by
  funext j
  by_cases h : j = 30
  · subst h
    rw [zw4_h8 (by omega) hi]
    show τ 30 + 1 = zw4 τ i a b d e 30 + 1
    rw [zw4_h8 (by omega) hi]
  · rw [zdn_ne h]
    unfold zw4
    rw [zdn_ne h]
set_option maxRecDepth 100000 in
set_option maxHeartbeats 4000000 in
theorem m_X8_slice (l : Launch) (Γ : zGam) {V : zV} {c md : Nat → Nat} {τ κ : Nat → Int} {E : Int} {q q2 : Int} (hM : zMo Γ V c md τ κ E) (hq : -2147483648 ≤ q ∧ q ≤ 2147483647) (hq2 : -2147483648 ≤ q2 ∧ q2 ≤ 2147483647) : zM l Γ 4 yX8_slice wsX8_slice 1 5 V [.ref (c 60), .int (zI (q)), .int (zI (q2))] (fun rv V' => ∃ (y : Int) (md' : Nat → Nat) (τ' κ' : Nat → Int), rv = some (.int (zI y)) ∧ zMo Γ V' c md' τ' κ' (E + 40) ∧ zfm V V' ∧ ((¬ ((0 ≤ q ∧ q ≤ 5) ∧ (0 ≤ q2 ∧ q2 ≤ 5)) ∧ y = 0 ∧ τ' = zf τ 36 1) ∨ (((0 ≤ q ∧ q ≤ 5) ∧ (0 ≤ q2 ∧ q2 ≤ 5)) ∧ ¬ (True) ∧ y = 0 ∧ τ' = zf τ 36 2) ∨ (((0 ≤ q ∧ q ≤ 5) ∧ (0 ≤ q2 ∧ q2 ≤ 5)) ∧ (True) ∧ (y = (zf τ 36 0) (4 * q.toNat + 1) - (zf τ 36 0) (4 * q.toNat + 2) - 0 ∧ τ' = zdn (zf (zw4 (zf τ 36 0) q2.toNat ((zf τ 36 0) (4 * q.toNat + 1) - (zf τ 36 0) (4 * q.toNat + 2)) ((zf τ 36 0) (4 * q.toNat + 1) - (zf τ 36 0) (4 * q.toNat + 2)) 0 (-9)) (40 + q2.toNat) ((zf τ 36 0) (40 + q.toNat) + (zf τ 36 0) (4 * q.toNat + 2))))))) := by
  have w0 : Cond.fieldLink RX8 14 "SashwordsModel" "windows" "[[I" ∈ wsX8_slice := by decide +kernel
  have iX8 : ∀ w ∈ u_ws RX8 TX8 11, w ∈ wsX8_slice := by decide +kernel
  refine zM_of (cc := cX8_slice) (nL := 4) (ret := (some .int)) (own := RX8) (by decide +kernel) rfl rfl (Nat.le_of_ble_eq_true rfl) (fun C X hi0 => ?_)
  have nn1 : 0 ≤ κ 0 ∧ κ 0 ≤ κ 1 ∧ κ 0 ≤ E ∧ κ 1 ≤ 7000 := hM.n.1
  show zG C V 1 5 0 [(0, .ref (c 60)), (1, .int (zI (q))), (2, .int (zI (q2)))] []
  refine zr_aload_n X 1 0 dX8_slice_0 rfl rfl ?_
  refine zr_iload_n X 2 1 dX8_slice_1 rfl rfl ?_
  refine zr_callS (kc' := 1) (ks' := 5) X 5 1 (m_X8_isNoWindow l Γ (V := V) (x := q) (by omega)) gX8_slice_X8_isNoWindow rfl (by decide +kernel) rfl (by decide) rfl (Nat.le_of_ble_eq_true rfl) dX8_slice_2 rfl (by omega) (by omega) (fun rv2 V3 hp4 => ?_)
  obtain ⟨⟨no5, no5e, no5a⟩, no5v⟩ := hp4
  rw [no5e, no5v]
  show zG C V 1 5 5 [(0, .ref (c 60)), (1, .int (zI (q))), (2, .int (zI (q2)))] [.int (zI (no5)), .ref (c 60)]
  refine zr_if_ne X 15 8 dX8_slice_5 rfl rfl (by omega) (fun bq6 => ?_) (fun bq6 => ?_)
  · refine zr_iconst X 16 dX8_slice_15 rfl ?_
    refine zr_goto X 20 dX8_slice_16 rfl ?_
    refine zr_iconst X 21 dX8_slice_20 rfl ?_
    refine zr_callVe (kc' := 1) (ks' := 5) X 24 2 (m_X8_isThrown l Γ hM (a := 1) (b := 0) (by omega) (by omega)) gX8_slice_X8_isThrown rfl (by decide +kernel) rfl (by decide) ⟨_, _, hM.1⟩ rfl rfl (Nat.le_of_ble_eq_true rfl) dX8_slice_21 rfl (by omega) (by omega) (fun rv7 V8 hp9 => ?_)
    obtain ⟨⟨hp9x, hp9k, hp9e, hp9c, hp9m⟩, hp9g⟩ := hp9
    rw [hp9e]
    rcases hp9c with ⟨tc10a, tc10k, tc10x⟩ | ⟨tc10a, tc10b, tc10k, tc10x⟩ | ⟨tc10a, tc10b, tc10k, tc10x⟩
    · skip
      subst tc10k tc10x
      have fx11 : zfm V V8 := (hp9g.mono (fun t ht => by omega))
      obtain ⟨τ12, τ12e⟩ : ∃ zz9 : Nat → Int, zz9 = zf τ 36 1 := ⟨_, rfl⟩
      rw [← τ12e] at hp9m
      show zG C V8 1 5 24 [(0, .ref (c 60)), (1, .int (zI (q))), (2, .int (zI (q2)))] [.int (zI (1))]
      refine zr_if_eq X 29 27 dX8_slice_24 rfl rfl (by omega) (fun bq13 => absurd bq13 (by omega)) (fun bq13 => ?_)
      refine zr_iconst X 28 dX8_slice_27 rfl ?_
      exact zr_iret X rfl ⟨0, md, τ12, κ, rfl, hp9m.le (by omega), fx11, Or.inl ⟨by omega, rfl, by rw [τ12e]⟩⟩ dX8_slice_28
    · exact absurd tc10a (by decide)
    · exact absurd tc10a (by decide)
  · refine zr_iload_n X 9 2 dX8_slice_8 rfl rfl ?_
    refine zr_callS (kc' := 1) (ks' := 5) X 12 1 (m_X8_isNoWindow l Γ (V := V) (x := q2) (by omega)) gX8_slice_X8_isNoWindow rfl (by decide +kernel) rfl (by decide) rfl (Nat.le_of_ble_eq_true rfl) dX8_slice_9 rfl (by omega) (by omega) (fun rv14 V15 hp16 => ?_)
    obtain ⟨⟨no17, no17e, no17a⟩, no17v⟩ := hp16
    rw [no17e, no17v]
    show zG C V 1 5 12 [(0, .ref (c 60)), (1, .int (zI (q))), (2, .int (zI (q2)))] [.int (zI (no17)), .ref (c 60)]
    refine zr_if_eq X 19 15 dX8_slice_12 rfl rfl (by omega) (fun bq18 => ?_) (fun bq18 => ?_)
    · refine zr_iconst X 20 dX8_slice_19 rfl ?_
      refine zr_iconst X 21 dX8_slice_20 rfl ?_
      refine zr_callVe (kc' := 1) (ks' := 5) X 24 2 (m_X8_isThrown l Γ hM (a := 0) (b := 0) (by omega) (by omega)) gX8_slice_X8_isThrown rfl (by decide +kernel) rfl (by decide) ⟨_, _, hM.1⟩ rfl rfl (Nat.le_of_ble_eq_true rfl) dX8_slice_21 rfl (by omega) (by omega) (fun rv19 V20 hp21 => ?_)
      obtain ⟨⟨hp21x, hp21k, hp21e, hp21c, hp21m⟩, hp21g⟩ := hp21
      rw [hp21e]
      rcases hp21c with ⟨tc22a, tc22k, tc22x⟩ | ⟨tc22a, tc22b, tc22k, tc22x⟩ | ⟨tc22a, tc22b, tc22k, tc22x⟩
      · exact absurd tc22a (by decide)
      · exact absurd tc22b (by decide)
      · skip
        subst tc22k tc22x
        have fx23 : zfm V V20 := (hp21g.mono (fun t ht => by omega))
        obtain ⟨τ24, τ24e⟩ : ∃ zz9 : Nat → Int, zz9 = zf τ 36 0 := ⟨_, rfl⟩
        rw [← τ24e] at hp21m
        show zG C V20 1 5 24 [(0, .ref (c 60)), (1, .int (zI (q))), (2, .int (zI (q2)))] [.int (zI (0))]
        refine zr_if_eq X 29 27 dX8_slice_24 rfl rfl (by omega) (fun bq25 => ?_) (fun bq25 => absurd bq25 (by omega))
        refine zr_aload_n X 30 0 dX8_slice_29 rfl rfl ?_
        have c826 : V20 (c 60) = some (60, .inr (9, [.ref (md 61), .int (zI (κ 0)), .ref (c 62), .ref (md 63), .ref (md 64), .ref (c 65), .int (zI (τ24 26)), .int (zI (τ24 28)), .int (zI (τ24 29)), .ref (c 66), .int (zI (τ24 36))])) := hp21m.1
        refine zr_get X 33 9 2 c826 rfl iX8 (by decide) w0 rfl rfl dX8_slice_30 rfl ?_
        refine zr_iload_n X 34 1 dX8_slice_33 rfl rfl ?_
        have c827 : V20 (c 62) = some (62, zq Γ.2.1 4 6 (fun i => some (md (70 + i)))) := hp21m.2.2.1
        refine zr_aaldI X 35 (.ref (md (70 + q.toNat))) c827 (by omega) rfl dX8_slice_34 rfl ?_
        refine zr_astore_n X 36 [(3, .ref (md (70 + q.toNat))), (0, .ref (c 60)), (1, .int (zI (q))), (2, .int (zI (q2)))] dX8_slice_35 rfl (by decide) rfl ?_
        refine zr_aload_n X 37 1 dX8_slice_36 rfl rfl ?_
        refine zr_iload_n X 38 3 dX8_slice_37 rfl rfl ?_
        refine zr_aload_n X 39 0 dX8_slice_38 rfl rfl ?_
        refine zr_iconst X 40 dX8_slice_39 rfl ?_
        have hw29 := hp21m.w (i := q.toNat) (by omega)
        have hw29r := hw29.rg
        have z030 : (zf τ 36 0) (4 * q.toNat) = τ24 (4 * q.toNat) := by rw [τ24e]
        have z031 : (zf τ 36 0) (4 * q.toNat + 1) = τ24 (4 * q.toNat + 1) := by rw [τ24e]
        have z032 : (zf τ 36 0) (4 * q.toNat + 2) = τ24 (4 * q.toNat + 2) := by rw [τ24e]
        have z033 : (zf τ 36 0) (4 * q.toNat + 3) = τ24 (4 * q.toNat + 3) := by rw [τ24e]
        refine zr_iald X 41 hw29.1 (by omega) dX8_slice_40 rfl ?_
        show zG C V20 1 5 41 [(3, .ref (md (70 + q.toNat))), (0, .ref (c 60)), (1, .int (zI (q))), (2, .int (zI (q2)))] [.int (zI (κ (10 + q.toNat))), .int (zI (q2)), .ref (c 60)]
        refine zr_aload_n X 42 0 dX8_slice_41 rfl rfl ?_
        refine zr_iconst X 43 dX8_slice_42 rfl ?_
        refine zr_iald X 44 hw29.1 (by omega) dX8_slice_43 rfl ?_
        show zG C V20 1 5 44 [(3, .ref (md (70 + q.toNat))), (0, .ref (c 60)), (1, .int (zI (q))), (2, .int (zI (q2)))] [.int (zI (τ24 (4 * q.toNat + 2))), .int (zI (κ (10 + q.toNat))), .int (zI (q2)), .ref (c 60)]
        refine zr_iadd X 45 dX8_slice_44 rfl ?_
        refine zr_aload_n X 46 0 dX8_slice_45 rfl rfl ?_
        refine zr_callS (kc' := 1) (ks' := 5) X 49 1 (m_X8_length l Γ hw29.1 (by omega)) gX8_slice_X8_length rfl (by decide +kernel) rfl (by decide) rfl (Nat.le_of_ble_eq_true rfl) dX8_slice_46 rfl (by omega) (by omega) (fun rv34 V35 hp36 => ?_)
        rw [hp36.1, hp36.2]
        show zG C V20 1 5 49 [(3, .ref (md (70 + q.toNat))), (0, .ref (c 60)), (1, .int (zI (q))), (2, .int (zI (q2)))] [.int (zI ((τ24 (4 * q.toNat + 1)) - (τ24 (4 * q.toNat + 2)))), .int (zI ((κ (10 + q.toNat)) + (τ24 (4 * q.toNat + 2)))), .int (zI (q2)), .ref (c 60)]
        refine zr_aload_n X 50 0 dX8_slice_49 rfl rfl ?_
        refine zr_callS (kc' := 1) (ks' := 5) X 53 1 (m_X8_length l Γ hw29.1 (by omega)) gX8_slice_X8_length rfl (by decide +kernel) rfl (by decide) rfl (Nat.le_of_ble_eq_true rfl) dX8_slice_50 rfl (by omega) (by omega) (fun rv37 V38 hp39 => ?_)
        rw [hp39.1, hp39.2]
        show zG C V20 1 5 53 [(3, .ref (md (70 + q.toNat))), (0, .ref (c 60)), (1, .int (zI (q))), (2, .int (zI (q2)))] [.int (zI ((τ24 (4 * q.toNat + 1)) - (τ24 (4 * q.toNat + 2)))), .int (zI ((τ24 (4 * q.toNat + 1)) - (τ24 (4 * q.toNat + 2)))), .int (zI ((κ (10 + q.toNat)) + (τ24 (4 * q.toNat + 2)))), .int (zI (q2)), .ref (c 60)]
        refine zr_iconst X 54 dX8_slice_53 rfl ?_
        refine zr_iconst X 55 dX8_slice_54 rfl ?_
        have hk40 := hp21m.ct.2.2.1.2 q.toNat (by omega)
        refine zr_callVe (kc' := (1 - 1)) (ks' := (5 - 5)) X 58 6 (m_X8_became l Γ (i := q2) (st := (κ (10 + q.toNat)) + (τ24 (4 * q.toNat + 2))) (cp := (τ24 (4 * q.toNat + 1)) - (τ24 (4 * q.toNat + 2))) (li := (τ24 (4 * q.toNat + 1)) - (τ24 (4 * q.toNat + 2))) (po := 0) (m := -9) (mk := -1) hp21m (by omega) (by omega)) gX8_slice_X8_became rfl (by decide +kernel) rfl (by decide) ⟨_, _, hp21m.1⟩ rfl rfl (Nat.le_of_ble_eq_true rfl) dX8_slice_55 rfl (by omega) (by omega) (fun rv41 V42 hp43 => ?_)
        obtain ⟨hp43M, hp43K, hp43e, hp43m, hp43g⟩ := hp43
        rw [hp43e]
        have fx44 : zfm V V42 := zag.tr fx23 hp43g
        obtain ⟨τ45, τ45e⟩ : ∃ zz9 : Nat → Int, zz9 = zdn (zf (zw4 τ24 q2.toNat ((τ24 (4 * q.toNat + 1)) - (τ24 (4 * q.toNat + 2))) ((τ24 (4 * q.toNat + 1)) - (τ24 (4 * q.toNat + 2))) (0) (-9)) (40 + q2.toNat) ((κ (10 + q.toNat)) + (τ24 (4 * q.toNat + 2)))) := ⟨_, rfl⟩
        rw [← τ45e] at hp43m
        show zG C V42 (1 - 1) (5 - 5) 58 [(3, .ref (md (70 + q.toNat))), (0, .ref (c 60)), (1, .int (zI (q))), (2, .int (zI (q2)))] [.int (zI (((τ24 (4 * q.toNat + 1)) - (τ24 (4 * q.toNat + 2))) - 0))]
        exact zr_iret X rfl ⟨((τ24 (4 * q.toNat + 1)) - (τ24 (4 * q.toNat + 2))) - 0, hp43M, τ45, hp43K, rfl, hp43m.le (by omega), fx44, Or.inr (Or.inr ⟨by omega, trivial, ⟨by omega, by rw [τ45e, hk40, τ24e]⟩⟩)⟩ dX8_slice_58
    · refine zr_iconst X 16 dX8_slice_15 rfl ?_
      refine zr_goto X 20 dX8_slice_16 rfl ?_
      refine zr_iconst X 21 dX8_slice_20 rfl ?_
      refine zr_callVe (kc' := 1) (ks' := 5) X 24 2 (m_X8_isThrown l Γ hM (a := 1) (b := 0) (by omega) (by omega)) gX8_slice_X8_isThrown rfl (by decide +kernel) rfl (by decide) ⟨_, _, hM.1⟩ rfl rfl (Nat.le_of_ble_eq_true rfl) dX8_slice_21 rfl (by omega) (by omega) (fun rv46 V47 hp48 => ?_)
      obtain ⟨⟨hp48x, hp48k, hp48e, hp48c, hp48m⟩, hp48g⟩ := hp48
      rw [hp48e]
      rcases hp48c with ⟨tc49a, tc49k, tc49x⟩ | ⟨tc49a, tc49b, tc49k, tc49x⟩ | ⟨tc49a, tc49b, tc49k, tc49x⟩
      · skip
        subst tc49k tc49x
        have fx50 : zfm V V47 := (hp48g.mono (fun t ht => by omega))
        obtain ⟨τ51, τ51e⟩ : ∃ zz9 : Nat → Int, zz9 = zf τ 36 1 := ⟨_, rfl⟩
        rw [← τ51e] at hp48m
        show zG C V47 1 5 24 [(0, .ref (c 60)), (1, .int (zI (q))), (2, .int (zI (q2)))] [.int (zI (1))]
        refine zr_if_eq X 29 27 dX8_slice_24 rfl rfl (by omega) (fun bq52 => absurd bq52 (by omega)) (fun bq52 => ?_)
        refine zr_iconst X 28 dX8_slice_27 rfl ?_
        exact zr_iret X rfl ⟨0, md, τ51, κ, rfl, hp48m.le (by omega), fx50, Or.inl ⟨by omega, rfl, by rw [τ51e]⟩⟩ dX8_slice_28
      · exact absurd tc49a (by decide)
      · exact absurd tc49a (by decide)
set_option maxRecDepth 100000 in
set_option maxHeartbeats 4000000 in
theorem m_X8_duplicate (l : Launch) (Γ : zGam) {V : zV} {c md : Nat → Nat} {τ κ : Nat → Int} {E : Int} {q q2 : Int} (hM : zMo Γ V c md τ κ E) (hq : -2147483648 ≤ q ∧ q ≤ 2147483647) (hq2 : -2147483648 ≤ q2 ∧ q2 ≤ 2147483647) : zM l Γ 4 yX8_duplicate wsX8_duplicate 1 5 V [.ref (c 60), .int (zI (q)), .int (zI (q2))] (fun rv V' => ∃ (y : Int) (md' : Nat → Nat) (τ' κ' : Nat → Int), rv = some (.int (zI y)) ∧ zMo Γ V' c md' τ' κ' (E + 40) ∧ zfm V V' ∧ ((¬ ((0 ≤ q ∧ q ≤ 5) ∧ (0 ≤ q2 ∧ q2 ≤ 5)) ∧ y = 0 ∧ τ' = zf τ 36 1) ∨ (((0 ≤ q ∧ q ≤ 5) ∧ (0 ≤ q2 ∧ q2 ≤ 5)) ∧ ¬ (True) ∧ y = 0 ∧ τ' = zf τ 36 2) ∨ (((0 ≤ q ∧ q ≤ 5) ∧ (0 ≤ q2 ∧ q2 ≤ 5)) ∧ (True) ∧ (y = (zf τ 36 0) (4 * q.toNat + 1) - (zf τ 36 0) (4 * q.toNat + 2) ∧ τ' = zdn (zf (zw4 (zf τ 36 0) q2.toNat ((zf τ 36 0) (4 * q.toNat)) ((zf τ 36 0) (4 * q.toNat + 1)) ((zf τ 36 0) (4 * q.toNat + 2)) ((zf τ 36 0) (4 * q.toNat + 3))) (40 + q2.toNat) ((zf τ 36 0) (40 + q.toNat))))))) := by
  have w0 : Cond.fieldLink RX8 14 "SashwordsModel" "windows" "[[I" ∈ wsX8_duplicate := by decide +kernel
  have iX8 : ∀ w ∈ u_ws RX8 TX8 11, w ∈ wsX8_duplicate := by decide +kernel
  refine zM_of (cc := cX8_duplicate) (nL := 4) (ret := (some .int)) (own := RX8) (by decide +kernel) rfl rfl (Nat.le_of_ble_eq_true rfl) (fun C X hi0 => ?_)
  have nn1 : 0 ≤ κ 0 ∧ κ 0 ≤ κ 1 ∧ κ 0 ≤ E ∧ κ 1 ≤ 7000 := hM.n.1
  show zG C V 1 5 0 [(0, .ref (c 60)), (1, .int (zI (q))), (2, .int (zI (q2)))] []
  refine zr_aload_n X 1 0 dX8_duplicate_0 rfl rfl ?_
  refine zr_iload_n X 2 1 dX8_duplicate_1 rfl rfl ?_
  refine zr_callS (kc' := 1) (ks' := 5) X 5 1 (m_X8_isNoWindow l Γ (V := V) (x := q) (by omega)) gX8_duplicate_X8_isNoWindow rfl (by decide +kernel) rfl (by decide) rfl (Nat.le_of_ble_eq_true rfl) dX8_duplicate_2 rfl (by omega) (by omega) (fun rv2 V3 hp4 => ?_)
  obtain ⟨⟨no5, no5e, no5a⟩, no5v⟩ := hp4
  rw [no5e, no5v]
  show zG C V 1 5 5 [(0, .ref (c 60)), (1, .int (zI (q))), (2, .int (zI (q2)))] [.int (zI (no5)), .ref (c 60)]
  refine zr_if_ne X 15 8 dX8_duplicate_5 rfl rfl (by omega) (fun bq6 => ?_) (fun bq6 => ?_)
  · refine zr_iconst X 16 dX8_duplicate_15 rfl ?_
    refine zr_goto X 20 dX8_duplicate_16 rfl ?_
    refine zr_iconst X 21 dX8_duplicate_20 rfl ?_
    refine zr_callVe (kc' := 1) (ks' := 5) X 24 2 (m_X8_isThrown l Γ hM (a := 1) (b := 0) (by omega) (by omega)) gX8_duplicate_X8_isThrown rfl (by decide +kernel) rfl (by decide) ⟨_, _, hM.1⟩ rfl rfl (Nat.le_of_ble_eq_true rfl) dX8_duplicate_21 rfl (by omega) (by omega) (fun rv7 V8 hp9 => ?_)
    obtain ⟨⟨hp9x, hp9k, hp9e, hp9c, hp9m⟩, hp9g⟩ := hp9
    rw [hp9e]
    rcases hp9c with ⟨tc10a, tc10k, tc10x⟩ | ⟨tc10a, tc10b, tc10k, tc10x⟩ | ⟨tc10a, tc10b, tc10k, tc10x⟩
    · skip
      subst tc10k tc10x
      have fx11 : zfm V V8 := (hp9g.mono (fun t ht => by omega))
      obtain ⟨τ12, τ12e⟩ : ∃ zz9 : Nat → Int, zz9 = zf τ 36 1 := ⟨_, rfl⟩
      rw [← τ12e] at hp9m
      show zG C V8 1 5 24 [(0, .ref (c 60)), (1, .int (zI (q))), (2, .int (zI (q2)))] [.int (zI (1))]
      refine zr_if_eq X 29 27 dX8_duplicate_24 rfl rfl (by omega) (fun bq13 => absurd bq13 (by omega)) (fun bq13 => ?_)
      refine zr_iconst X 28 dX8_duplicate_27 rfl ?_
      exact zr_iret X rfl ⟨0, md, τ12, κ, rfl, hp9m.le (by omega), fx11, Or.inl ⟨by omega, rfl, by rw [τ12e]⟩⟩ dX8_duplicate_28
    · exact absurd tc10a (by decide)
    · exact absurd tc10a (by decide)
  · refine zr_iload_n X 9 2 dX8_duplicate_8 rfl rfl ?_
    refine zr_callS (kc' := 1) (ks' := 5) X 12 1 (m_X8_isNoWindow l Γ (V := V) (x := q2) (by omega)) gX8_duplicate_X8_isNoWindow rfl (by decide +kernel) rfl (by decide) rfl (Nat.le_of_ble_eq_true rfl) dX8_duplicate_9 rfl (by omega) (by omega) (fun rv14 V15 hp16 => ?_)
    obtain ⟨⟨no17, no17e, no17a⟩, no17v⟩ := hp16
    rw [no17e, no17v]
    show zG C V 1 5 12 [(0, .ref (c 60)), (1, .int (zI (q))), (2, .int (zI (q2)))] [.int (zI (no17)), .ref (c 60)]
    refine zr_if_eq X 19 15 dX8_duplicate_12 rfl rfl (by omega) (fun bq18 => ?_) (fun bq18 => ?_)
    · refine zr_iconst X 20 dX8_duplicate_19 rfl ?_
      refine zr_iconst X 21 dX8_duplicate_20 rfl ?_
      refine zr_callVe (kc' := 1) (ks' := 5) X 24 2 (m_X8_isThrown l Γ hM (a := 0) (b := 0) (by omega) (by omega)) gX8_duplicate_X8_isThrown rfl (by decide +kernel) rfl (by decide) ⟨_, _, hM.1⟩ rfl rfl (Nat.le_of_ble_eq_true rfl) dX8_duplicate_21 rfl (by omega) (by omega) (fun rv19 V20 hp21 => ?_)
      obtain ⟨⟨hp21x, hp21k, hp21e, hp21c, hp21m⟩, hp21g⟩ := hp21
      rw [hp21e]
      rcases hp21c with ⟨tc22a, tc22k, tc22x⟩ | ⟨tc22a, tc22b, tc22k, tc22x⟩ | ⟨tc22a, tc22b, tc22k, tc22x⟩
      · exact absurd tc22a (by decide)
      · exact absurd tc22b (by decide)
      · skip
        subst tc22k tc22x
        have fx23 : zfm V V20 := (hp21g.mono (fun t ht => by omega))
        obtain ⟨τ24, τ24e⟩ : ∃ zz9 : Nat → Int, zz9 = zf τ 36 0 := ⟨_, rfl⟩
        rw [← τ24e] at hp21m
        show zG C V20 1 5 24 [(0, .ref (c 60)), (1, .int (zI (q))), (2, .int (zI (q2)))] [.int (zI (0))]
        refine zr_if_eq X 29 27 dX8_duplicate_24 rfl rfl (by omega) (fun bq25 => ?_) (fun bq25 => absurd bq25 (by omega))
        refine zr_aload_n X 30 0 dX8_duplicate_29 rfl rfl ?_
        have c826 : V20 (c 60) = some (60, .inr (9, [.ref (md 61), .int (zI (κ 0)), .ref (c 62), .ref (md 63), .ref (md 64), .ref (c 65), .int (zI (τ24 26)), .int (zI (τ24 28)), .int (zI (τ24 29)), .ref (c 66), .int (zI (τ24 36))])) := hp21m.1
        refine zr_get X 33 9 2 c826 rfl iX8 (by decide) w0 rfl rfl dX8_duplicate_30 rfl ?_
        refine zr_iload_n X 34 1 dX8_duplicate_33 rfl rfl ?_
        have c827 : V20 (c 62) = some (62, zq Γ.2.1 4 6 (fun i => some (md (70 + i)))) := hp21m.2.2.1
        refine zr_aaldI X 35 (.ref (md (70 + q.toNat))) c827 (by omega) rfl dX8_duplicate_34 rfl ?_
        refine zr_astore_n X 36 [(3, .ref (md (70 + q.toNat))), (0, .ref (c 60)), (1, .int (zI (q))), (2, .int (zI (q2)))] dX8_duplicate_35 rfl (by decide) rfl ?_
        refine zr_aload_n X 37 1 dX8_duplicate_36 rfl rfl ?_
        refine zr_iload_n X 38 3 dX8_duplicate_37 rfl rfl ?_
        refine zr_aload_n X 39 0 dX8_duplicate_38 rfl rfl ?_
        refine zr_iconst X 40 dX8_duplicate_39 rfl ?_
        have hw29 := hp21m.w (i := q.toNat) (by omega)
        have hw29r := hw29.rg
        have hw29d := hw29.mk
        have z030 : (zf τ 36 0) (4 * q.toNat) = τ24 (4 * q.toNat) := by rw [τ24e]
        have z031 : (zf τ 36 0) (4 * q.toNat + 1) = τ24 (4 * q.toNat + 1) := by rw [τ24e]
        have z032 : (zf τ 36 0) (4 * q.toNat + 2) = τ24 (4 * q.toNat + 2) := by rw [τ24e]
        have z033 : (zf τ 36 0) (4 * q.toNat + 3) = τ24 (4 * q.toNat + 3) := by rw [τ24e]
        refine zr_iald X 41 hw29.1 (by omega) dX8_duplicate_40 rfl ?_
        show zG C V20 1 5 41 [(3, .ref (md (70 + q.toNat))), (0, .ref (c 60)), (1, .int (zI (q))), (2, .int (zI (q2)))] [.int (zI (κ (10 + q.toNat))), .int (zI (q2)), .ref (c 60)]
        refine zr_aload_n X 42 0 dX8_duplicate_41 rfl rfl ?_
        refine zr_iconst X 43 dX8_duplicate_42 rfl ?_
        refine zr_iald X 44 hw29.1 (by omega) dX8_duplicate_43 rfl ?_
        show zG C V20 1 5 44 [(3, .ref (md (70 + q.toNat))), (0, .ref (c 60)), (1, .int (zI (q))), (2, .int (zI (q2)))] [.int (zI (τ24 (4 * q.toNat))), .int (zI (κ (10 + q.toNat))), .int (zI (q2)), .ref (c 60)]
        refine zr_aload_n X 45 0 dX8_duplicate_44 rfl rfl ?_
        refine zr_iconst X 46 dX8_duplicate_45 rfl ?_
        refine zr_iald X 47 hw29.1 (by omega) dX8_duplicate_46 rfl ?_
        show zG C V20 1 5 47 [(3, .ref (md (70 + q.toNat))), (0, .ref (c 60)), (1, .int (zI (q))), (2, .int (zI (q2)))] [.int (zI (τ24 (4 * q.toNat + 1))), .int (zI (τ24 (4 * q.toNat))), .int (zI (κ (10 + q.toNat))), .int (zI (q2)), .ref (c 60)]
        refine zr_aload_n X 48 0 dX8_duplicate_47 rfl rfl ?_
        refine zr_iconst X 49 dX8_duplicate_48 rfl ?_
        refine zr_iald X 50 hw29.1 (by omega) dX8_duplicate_49 rfl ?_
        show zG C V20 1 5 50 [(3, .ref (md (70 + q.toNat))), (0, .ref (c 60)), (1, .int (zI (q))), (2, .int (zI (q2)))] [.int (zI (τ24 (4 * q.toNat + 2))), .int (zI (τ24 (4 * q.toNat + 1))), .int (zI (τ24 (4 * q.toNat))), .int (zI (κ (10 + q.toNat))), .int (zI (q2)), .ref (c 60)]
        refine zr_aload_n X 51 0 dX8_duplicate_50 rfl rfl ?_
        refine zr_iconst X 52 dX8_duplicate_51 rfl ?_
        refine zr_iald X 53 hw29.1 (by omega) dX8_duplicate_52 rfl ?_
        show zG C V20 1 5 53 [(3, .ref (md (70 + q.toNat))), (0, .ref (c 60)), (1, .int (zI (q))), (2, .int (zI (q2)))] [.int (zI (κ (20 + q.toNat))), .int (zI (τ24 (4 * q.toNat + 2))), .int (zI (τ24 (4 * q.toNat + 1))), .int (zI (τ24 (4 * q.toNat))), .int (zI (κ (10 + q.toNat))), .int (zI (q2)), .ref (c 60)]
        have hk34 := hp21m.ct.2.2.1.2 q.toNat (by omega)
        refine zr_callVe (kc' := (1 - 1)) (ks' := (5 - 5)) X 56 6 (m_X8_became l Γ (i := q2) (st := κ (10 + q.toNat)) (cp := τ24 (4 * q.toNat)) (li := τ24 (4 * q.toNat + 1)) (po := τ24 (4 * q.toNat + 2)) (m := τ24 (4 * q.toNat + 3)) (mk := κ (20 + q.toNat)) hp21m (by omega) (by omega)) gX8_duplicate_X8_became rfl (by decide +kernel) rfl (by decide) ⟨_, _, hp21m.1⟩ rfl rfl (Nat.le_of_ble_eq_true rfl) dX8_duplicate_53 rfl (by omega) (by omega) (fun rv35 V36 hp37 => ?_)
        obtain ⟨hp37M, hp37K, hp37e, hp37m, hp37g⟩ := hp37
        rw [hp37e]
        have fx38 : zfm V V36 := zag.tr fx23 hp37g
        obtain ⟨τ39, τ39e⟩ : ∃ zz9 : Nat → Int, zz9 = zdn (zf (zw4 τ24 q2.toNat (τ24 (4 * q.toNat)) (τ24 (4 * q.toNat + 1)) (τ24 (4 * q.toNat + 2)) (τ24 (4 * q.toNat + 3))) (40 + q2.toNat) (κ (10 + q.toNat))) := ⟨_, rfl⟩
        rw [← τ39e] at hp37m
        show zG C V36 (1 - 1) (5 - 5) 56 [(3, .ref (md (70 + q.toNat))), (0, .ref (c 60)), (1, .int (zI (q))), (2, .int (zI (q2)))] [.int (zI ((τ24 (4 * q.toNat + 1)) - (τ24 (4 * q.toNat + 2))))]
        exact zr_iret X rfl ⟨(τ24 (4 * q.toNat + 1)) - (τ24 (4 * q.toNat + 2)), hp37M, τ39, hp37K, rfl, hp37m.le (by omega), fx38, Or.inr (Or.inr ⟨by omega, trivial, ⟨by omega, by rw [τ39e, hk34, τ24e]⟩⟩)⟩ dX8_duplicate_56
    · refine zr_iconst X 16 dX8_duplicate_15 rfl ?_
      refine zr_goto X 20 dX8_duplicate_16 rfl ?_
      refine zr_iconst X 21 dX8_duplicate_20 rfl ?_
      refine zr_callVe (kc' := 1) (ks' := 5) X 24 2 (m_X8_isThrown l Γ hM (a := 1) (b := 0) (by omega) (by omega)) gX8_duplicate_X8_isThrown rfl (by decide +kernel) rfl (by decide) ⟨_, _, hM.1⟩ rfl rfl (Nat.le_of_ble_eq_true rfl) dX8_duplicate_21 rfl (by omega) (by omega) (fun rv40 V41 hp42 => ?_)
      obtain ⟨⟨hp42x, hp42k, hp42e, hp42c, hp42m⟩, hp42g⟩ := hp42
      rw [hp42e]
      rcases hp42c with ⟨tc43a, tc43k, tc43x⟩ | ⟨tc43a, tc43b, tc43k, tc43x⟩ | ⟨tc43a, tc43b, tc43k, tc43x⟩
      · skip
        subst tc43k tc43x
        have fx44 : zfm V V41 := (hp42g.mono (fun t ht => by omega))
        obtain ⟨τ45, τ45e⟩ : ∃ zz9 : Nat → Int, zz9 = zf τ 36 1 := ⟨_, rfl⟩
        rw [← τ45e] at hp42m
        show zG C V41 1 5 24 [(0, .ref (c 60)), (1, .int (zI (q))), (2, .int (zI (q2)))] [.int (zI (1))]
        refine zr_if_eq X 29 27 dX8_duplicate_24 rfl rfl (by omega) (fun bq46 => absurd bq46 (by omega)) (fun bq46 => ?_)
        refine zr_iconst X 28 dX8_duplicate_27 rfl ?_
        exact zr_iret X rfl ⟨0, md, τ45, κ, rfl, hp42m.le (by omega), fx44, Or.inl ⟨by omega, rfl, by rw [τ45e]⟩⟩ dX8_duplicate_28
      · exact absurd tc43a (by decide)
      · exact absurd tc43a (by decide)
set_option maxRecDepth 100000 in
set_option maxHeartbeats 4000000 in
theorem m_X8_part (l : Launch) (Γ : zGam) {V : zV} {c md : Nat → Nat} {τ κ : Nat → Int} {E : Int} {q a b q2 : Int} (hM : zMo Γ V c md τ κ E) (hq : -2147483648 ≤ q ∧ q ≤ 2147483647) (hq2 : -2147483648 ≤ q2 ∧ q2 ≤ 2147483647) (ha : -2147483648 ≤ a ∧ a ≤ 2147483647) (hb : -2147483648 ≤ b ∧ b ≤ 2147483647) : zM l Γ 4 yX8_part wsX8_part 1 5 V [.ref (c 60), .int (zI (q)), .int (zI (a)), .int (zI (b)), .int (zI (q2))] (fun rv V' => ∃ (y : Int) (md' : Nat → Nat) (τ' κ' : Nat → Int), rv = some (.int (zI y)) ∧ zMo Γ V' c md' τ' κ' (E + 40) ∧ zfm V V' ∧ ((¬ ((0 ≤ q ∧ q ≤ 5) ∧ (0 ≤ q2 ∧ q2 ≤ 5)) ∧ y = 0 ∧ τ' = zf τ 36 1) ∨ (((0 ≤ q ∧ q ≤ 5) ∧ (0 ≤ q2 ∧ q2 ≤ 5)) ∧ ¬ (True) ∧ y = 0 ∧ τ' = zf τ 36 2) ∨ (((0 ≤ q ∧ q ≤ 5) ∧ (0 ≤ q2 ∧ q2 ≤ 5)) ∧ (True) ∧ ((¬ (0 ≤ a ∧ a ≤ b ∧ b ≤ (zf τ 36 0) (4 * q.toNat + 1) - (zf τ 36 0) (4 * q.toNat + 2)) ∧ y = -9 ∧ τ' = zrf (zf τ 36 0)) ∨ ((0 ≤ a ∧ a ≤ b ∧ b ≤ (zf τ 36 0) (4 * q.toNat + 1) - (zf τ 36 0) (4 * q.toNat + 2)) ∧ y = (zf τ 36 0) (4 * q.toNat + 2) + b - ((zf τ 36 0) (4 * q.toNat + 2) + a) ∧ τ' = zdn (zf (zw4 (zf τ 36 0) q2.toNat ((zf τ 36 0) (4 * q.toNat)) ((zf τ 36 0) (4 * q.toNat + 2) + b) ((zf τ 36 0) (4 * q.toNat + 2) + a) ((zf τ 36 0) (4 * q.toNat + 2) + a)) (40 + q2.toNat) ((zf τ 36 0) (40 + q.toNat)))))))) := by
  have w0 : Cond.fieldLink RX8 14 "SashwordsModel" "windows" "[[I" ∈ wsX8_part := by decide +kernel
  have iX8 : ∀ w ∈ u_ws RX8 TX8 11, w ∈ wsX8_part := by decide +kernel
  refine zM_of (cc := cX8_part) (nL := 6) (ret := (some .int)) (own := RX8) (by decide +kernel) rfl rfl (Nat.le_of_ble_eq_true rfl) (fun C X hi0 => ?_)
  have nn1 : 0 ≤ κ 0 ∧ κ 0 ≤ κ 1 ∧ κ 0 ≤ E ∧ κ 1 ≤ 7000 := hM.n.1
  show zG C V 1 5 0 [(0, .ref (c 60)), (1, .int (zI (q))), (2, .int (zI (a))), (3, .int (zI (b))), (4, .int (zI (q2)))] []
  refine zr_aload_n X 1 0 dX8_part_0 rfl rfl ?_
  refine zr_iload_n X 2 1 dX8_part_1 rfl rfl ?_
  refine zr_callS (kc' := 1) (ks' := 5) X 5 1 (m_X8_isNoWindow l Γ (V := V) (x := q) (by omega)) gX8_part_X8_isNoWindow rfl (by decide +kernel) rfl (by decide) rfl (Nat.le_of_ble_eq_true rfl) dX8_part_2 rfl (by omega) (by omega) (fun rv2 V3 hp4 => ?_)
  obtain ⟨⟨no5, no5e, no5a⟩, no5v⟩ := hp4
  rw [no5e, no5v]
  show zG C V 1 5 5 [(0, .ref (c 60)), (1, .int (zI (q))), (2, .int (zI (a))), (3, .int (zI (b))), (4, .int (zI (q2)))] [.int (zI (no5)), .ref (c 60)]
  refine zr_if_ne X 16 8 dX8_part_5 rfl rfl (by omega) (fun bq6 => ?_) (fun bq6 => ?_)
  · refine zr_iconst X 17 dX8_part_16 rfl ?_
    refine zr_goto X 21 dX8_part_17 rfl ?_
    refine zr_iconst X 22 dX8_part_21 rfl ?_
    refine zr_callVe (kc' := 1) (ks' := 5) X 25 2 (m_X8_isThrown l Γ hM (a := 1) (b := 0) (by omega) (by omega)) gX8_part_X8_isThrown rfl (by decide +kernel) rfl (by decide) ⟨_, _, hM.1⟩ rfl rfl (Nat.le_of_ble_eq_true rfl) dX8_part_22 rfl (by omega) (by omega) (fun rv7 V8 hp9 => ?_)
    obtain ⟨⟨hp9x, hp9k, hp9e, hp9c, hp9m⟩, hp9g⟩ := hp9
    rw [hp9e]
    rcases hp9c with ⟨tc10a, tc10k, tc10x⟩ | ⟨tc10a, tc10b, tc10k, tc10x⟩ | ⟨tc10a, tc10b, tc10k, tc10x⟩
    · skip
      subst tc10k tc10x
      have fx11 : zfm V V8 := (hp9g.mono (fun t ht => by omega))
      obtain ⟨τ12, τ12e⟩ : ∃ zz9 : Nat → Int, zz9 = zf τ 36 1 := ⟨_, rfl⟩
      rw [← τ12e] at hp9m
      show zG C V8 1 5 25 [(0, .ref (c 60)), (1, .int (zI (q))), (2, .int (zI (a))), (3, .int (zI (b))), (4, .int (zI (q2)))] [.int (zI (1))]
      refine zr_if_eq X 30 28 dX8_part_25 rfl rfl (by omega) (fun bq13 => absurd bq13 (by omega)) (fun bq13 => ?_)
      refine zr_iconst X 29 dX8_part_28 rfl ?_
      exact zr_iret X rfl ⟨0, md, τ12, κ, rfl, hp9m.le (by omega), fx11, Or.inl ⟨by omega, rfl, by rw [τ12e]⟩⟩ dX8_part_29
    · exact absurd tc10a (by decide)
    · exact absurd tc10a (by decide)
  · refine zr_iload X 10 4 dX8_part_8 rfl rfl ?_
    refine zr_callS (kc' := 1) (ks' := 5) X 13 1 (m_X8_isNoWindow l Γ (V := V) (x := q2) (by omega)) gX8_part_X8_isNoWindow rfl (by decide +kernel) rfl (by decide) rfl (Nat.le_of_ble_eq_true rfl) dX8_part_10 rfl (by omega) (by omega) (fun rv14 V15 hp16 => ?_)
    obtain ⟨⟨no17, no17e, no17a⟩, no17v⟩ := hp16
    rw [no17e, no17v]
    show zG C V 1 5 13 [(0, .ref (c 60)), (1, .int (zI (q))), (2, .int (zI (a))), (3, .int (zI (b))), (4, .int (zI (q2)))] [.int (zI (no17)), .ref (c 60)]
    refine zr_if_eq X 20 16 dX8_part_13 rfl rfl (by omega) (fun bq18 => ?_) (fun bq18 => ?_)
    · refine zr_iconst X 21 dX8_part_20 rfl ?_
      refine zr_iconst X 22 dX8_part_21 rfl ?_
      refine zr_callVe (kc' := 1) (ks' := 5) X 25 2 (m_X8_isThrown l Γ hM (a := 0) (b := 0) (by omega) (by omega)) gX8_part_X8_isThrown rfl (by decide +kernel) rfl (by decide) ⟨_, _, hM.1⟩ rfl rfl (Nat.le_of_ble_eq_true rfl) dX8_part_22 rfl (by omega) (by omega) (fun rv19 V20 hp21 => ?_)
      obtain ⟨⟨hp21x, hp21k, hp21e, hp21c, hp21m⟩, hp21g⟩ := hp21
      rw [hp21e]
      rcases hp21c with ⟨tc22a, tc22k, tc22x⟩ | ⟨tc22a, tc22b, tc22k, tc22x⟩ | ⟨tc22a, tc22b, tc22k, tc22x⟩
      · exact absurd tc22a (by decide)
      · exact absurd tc22b (by decide)
      · skip
        subst tc22k tc22x
        have fx23 : zfm V V20 := (hp21g.mono (fun t ht => by omega))
        obtain ⟨τ24, τ24e⟩ : ∃ zz9 : Nat → Int, zz9 = zf τ 36 0 := ⟨_, rfl⟩
        rw [← τ24e] at hp21m
        show zG C V20 1 5 25 [(0, .ref (c 60)), (1, .int (zI (q))), (2, .int (zI (a))), (3, .int (zI (b))), (4, .int (zI (q2)))] [.int (zI (0))]
        refine zr_if_eq X 30 28 dX8_part_25 rfl rfl (by omega) (fun bq25 => ?_) (fun bq25 => absurd bq25 (by omega))
        refine zr_aload_n X 31 0 dX8_part_30 rfl rfl ?_
        have c826 : V20 (c 60) = some (60, .inr (9, [.ref (md 61), .int (zI (κ 0)), .ref (c 62), .ref (md 63), .ref (md 64), .ref (c 65), .int (zI (τ24 26)), .int (zI (τ24 28)), .int (zI (τ24 29)), .ref (c 66), .int (zI (τ24 36))])) := hp21m.1
        refine zr_get X 34 9 2 c826 rfl iX8 (by decide) w0 rfl rfl dX8_part_31 rfl ?_
        refine zr_iload_n X 35 1 dX8_part_34 rfl rfl ?_
        have c827 : V20 (c 62) = some (62, zq Γ.2.1 4 6 (fun i => some (md (70 + i)))) := hp21m.2.2.1
        refine zr_aaldI X 36 (.ref (md (70 + q.toNat))) c827 (by omega) rfl dX8_part_35 rfl ?_
        refine zr_astore X 38 [(5, .ref (md (70 + q.toNat))), (0, .ref (c 60)), (1, .int (zI (q))), (2, .int (zI (a))), (3, .int (zI (b))), (4, .int (zI (q2)))] dX8_part_36 rfl (by decide) rfl ?_
        refine zr_iload_n X 39 3 dX8_part_38 rfl rfl ?_
        refine zr_if_lt X 56 42 dX8_part_39 rfl rfl (by omega) (fun bq28 => ?_) (fun bq28 => ?_)
        · refine zr_aload_n X 57 1 dX8_part_56 rfl rfl ?_
          refine zr_callVe (kc' := 1) (ks' := 5) X 60 0 (m_X8_refused l Γ hp21m) gX8_part_X8_refused rfl (by decide +kernel) rfl (by decide) ⟨_, _, hp21m.1⟩ rfl rfl (Nat.le_of_ble_eq_true rfl) dX8_part_57 rfl (by omega) (by omega) (fun rv29 V30 hp31 => ?_)
          obtain ⟨hp31e, hp31m, hp31g⟩ := hp31
          rw [hp31e]
          have fx32 : zfm V V30 := zag.tr fx23 (hp31g.mono (fun t ht => by omega))
          obtain ⟨τ33, τ33e⟩ : ∃ zz9 : Nat → Int, zz9 = zrf τ24 := ⟨_, rfl⟩
          rw [← τ33e] at hp31m
          show zG C V30 1 5 60 [(5, .ref (md (70 + q.toNat))), (0, .ref (c 60)), (1, .int (zI (q))), (2, .int (zI (a))), (3, .int (zI (b))), (4, .int (zI (q2)))] [.int (zI (-9))]
          exact zr_iret X rfl ⟨-9, md, τ33, κ, rfl, hp31m.le (by omega), fx32, Or.inr (Or.inr ⟨by omega, trivial, Or.inl ⟨by omega, rfl, by rw [τ33e, τ24e]⟩⟩)⟩ dX8_part_60
        · refine zr_iload_n X 43 4 dX8_part_42 rfl rfl ?_
          refine zr_iload_n X 44 3 dX8_part_43 rfl rfl ?_
          refine zr_icmp_lt X 56 47 dX8_part_44 rfl rfl (by omega) (by omega) (fun bq34 => ?_) (fun bq34 => ?_)
          · refine zr_aload_n X 57 1 dX8_part_56 rfl rfl ?_
            refine zr_callVe (kc' := 1) (ks' := 5) X 60 0 (m_X8_refused l Γ hp21m) gX8_part_X8_refused rfl (by decide +kernel) rfl (by decide) ⟨_, _, hp21m.1⟩ rfl rfl (Nat.le_of_ble_eq_true rfl) dX8_part_57 rfl (by omega) (by omega) (fun rv35 V36 hp37 => ?_)
            obtain ⟨hp37e, hp37m, hp37g⟩ := hp37
            rw [hp37e]
            have fx38 : zfm V V36 := zag.tr fx23 (hp37g.mono (fun t ht => by omega))
            obtain ⟨τ39, τ39e⟩ : ∃ zz9 : Nat → Int, zz9 = zrf τ24 := ⟨_, rfl⟩
            rw [← τ39e] at hp37m
            show zG C V36 1 5 60 [(5, .ref (md (70 + q.toNat))), (0, .ref (c 60)), (1, .int (zI (q))), (2, .int (zI (a))), (3, .int (zI (b))), (4, .int (zI (q2)))] [.int (zI (-9))]
            exact zr_iret X rfl ⟨-9, md, τ39, κ, rfl, hp37m.le (by omega), fx38, Or.inr (Or.inr ⟨by omega, trivial, Or.inl ⟨by omega, rfl, by rw [τ39e, τ24e]⟩⟩)⟩ dX8_part_60
          · refine zr_iload_n X 48 4 dX8_part_47 rfl rfl ?_
            refine zr_aload X 50 0 dX8_part_48 rfl rfl ?_
            have hw41 := hp21m.w (i := q.toNat) (by omega)
            have hw41r := hw41.rg
            have hw41d := hw41.mk
            have z042 : (zf τ 36 0) (4 * q.toNat) = τ24 (4 * q.toNat) := by rw [τ24e]
            have z043 : (zf τ 36 0) (4 * q.toNat + 1) = τ24 (4 * q.toNat + 1) := by rw [τ24e]
            have z044 : (zf τ 36 0) (4 * q.toNat + 2) = τ24 (4 * q.toNat + 2) := by rw [τ24e]
            have z045 : (zf τ 36 0) (4 * q.toNat + 3) = τ24 (4 * q.toNat + 3) := by rw [τ24e]
            refine zr_callS (kc' := 1) (ks' := 5) X 53 1 (m_X8_length l Γ hw41.1 (by omega)) gX8_part_X8_length rfl (by decide +kernel) rfl (by decide) rfl (Nat.le_of_ble_eq_true rfl) dX8_part_50 rfl (by omega) (by omega) (fun rv46 V47 hp48 => ?_)
            rw [hp48.1, hp48.2]
            show zG C V20 1 5 53 [(5, .ref (md (70 + q.toNat))), (0, .ref (c 60)), (1, .int (zI (q))), (2, .int (zI (a))), (3, .int (zI (b))), (4, .int (zI (q2)))] [.int (zI ((τ24 (4 * q.toNat + 1)) - (τ24 (4 * q.toNat + 2)))), .int (zI (b))]
            refine zr_icmp_le X 61 56 dX8_part_53 rfl rfl (by omega) (by omega) (fun bq49 => ?_) (fun bq49 => ?_)
            · refine zr_aload_n X 62 1 dX8_part_61 rfl rfl ?_
              refine zr_iload X 64 5 dX8_part_62 rfl rfl ?_
              refine zr_aload X 66 0 dX8_part_64 rfl rfl ?_
              refine zr_iconst X 67 dX8_part_66 rfl ?_
              refine zr_iald X 68 hw41.1 (by omega) dX8_part_67 rfl ?_
              show zG C V20 1 5 68 [(5, .ref (md (70 + q.toNat))), (0, .ref (c 60)), (1, .int (zI (q))), (2, .int (zI (a))), (3, .int (zI (b))), (4, .int (zI (q2)))] [.int (zI (κ (10 + q.toNat))), .int (zI (q2)), .ref (c 60)]
              refine zr_aload X 70 0 dX8_part_68 rfl rfl ?_
              refine zr_iconst X 71 dX8_part_70 rfl ?_
              refine zr_iald X 72 hw41.1 (by omega) dX8_part_71 rfl ?_
              show zG C V20 1 5 72 [(5, .ref (md (70 + q.toNat))), (0, .ref (c 60)), (1, .int (zI (q))), (2, .int (zI (a))), (3, .int (zI (b))), (4, .int (zI (q2)))] [.int (zI (τ24 (4 * q.toNat))), .int (zI (κ (10 + q.toNat))), .int (zI (q2)), .ref (c 60)]
              refine zr_aload X 74 0 dX8_part_72 rfl rfl ?_
              refine zr_iconst X 75 dX8_part_74 rfl ?_
              refine zr_iald X 76 hw41.1 (by omega) dX8_part_75 rfl ?_
              show zG C V20 1 5 76 [(5, .ref (md (70 + q.toNat))), (0, .ref (c 60)), (1, .int (zI (q))), (2, .int (zI (a))), (3, .int (zI (b))), (4, .int (zI (q2)))] [.int (zI (τ24 (4 * q.toNat + 2))), .int (zI (τ24 (4 * q.toNat))), .int (zI (κ (10 + q.toNat))), .int (zI (q2)), .ref (c 60)]
              refine zr_iload_n X 77 4 dX8_part_76 rfl rfl ?_
              refine zr_iadd X 78 dX8_part_77 rfl ?_
              refine zr_aload X 80 0 dX8_part_78 rfl rfl ?_
              refine zr_iconst X 81 dX8_part_80 rfl ?_
              refine zr_iald X 82 hw41.1 (by omega) dX8_part_81 rfl ?_
              show zG C V20 1 5 82 [(5, .ref (md (70 + q.toNat))), (0, .ref (c 60)), (1, .int (zI (q))), (2, .int (zI (a))), (3, .int (zI (b))), (4, .int (zI (q2)))] [.int (zI (τ24 (4 * q.toNat + 2))), .int (zI ((τ24 (4 * q.toNat + 2)) + b)), .int (zI (τ24 (4 * q.toNat))), .int (zI (κ (10 + q.toNat))), .int (zI (q2)), .ref (c 60)]
              refine zr_iload_n X 83 3 dX8_part_82 rfl rfl ?_
              refine zr_iadd X 84 dX8_part_83 rfl ?_
              refine zr_aload X 86 0 dX8_part_84 rfl rfl ?_
              refine zr_iconst X 87 dX8_part_86 rfl ?_
              refine zr_iald X 88 hw41.1 (by omega) dX8_part_87 rfl ?_
              show zG C V20 1 5 88 [(5, .ref (md (70 + q.toNat))), (0, .ref (c 60)), (1, .int (zI (q))), (2, .int (zI (a))), (3, .int (zI (b))), (4, .int (zI (q2)))] [.int (zI (τ24 (4 * q.toNat + 2))), .int (zI ((τ24 (4 * q.toNat + 2)) + a)), .int (zI ((τ24 (4 * q.toNat + 2)) + b)), .int (zI (τ24 (4 * q.toNat))), .int (zI (κ (10 + q.toNat))), .int (zI (q2)), .ref (c 60)]
              refine zr_iload_n X 89 3 dX8_part_88 rfl rfl ?_
              refine zr_iadd X 90 dX8_part_89 rfl ?_
              have hk50 := hp21m.ct.2.2.1.2 q.toNat (by omega)
              refine zr_callVe (kc' := (1 - 1)) (ks' := (5 - 5)) X 93 6 (m_X8_became l Γ (i := q2) (st := κ (10 + q.toNat)) (cp := τ24 (4 * q.toNat)) (li := (τ24 (4 * q.toNat + 2)) + b) (po := (τ24 (4 * q.toNat + 2)) + a) (m := (τ24 (4 * q.toNat + 2)) + a) (mk := (τ24 (4 * q.toNat + 2)) + a) hp21m (by omega) (by omega)) gX8_part_X8_became rfl (by decide +kernel) rfl (by decide) ⟨_, _, hp21m.1⟩ rfl rfl (Nat.le_of_ble_eq_true rfl) dX8_part_90 rfl (by omega) (by omega) (fun rv51 V52 hp53 => ?_)
              obtain ⟨hp53M, hp53K, hp53e, hp53m, hp53g⟩ := hp53
              rw [hp53e]
              have fx54 : zfm V V52 := zag.tr fx23 hp53g
              obtain ⟨τ55, τ55e⟩ : ∃ zz9 : Nat → Int, zz9 = zdn (zf (zw4 τ24 q2.toNat (τ24 (4 * q.toNat)) ((τ24 (4 * q.toNat + 2)) + b) ((τ24 (4 * q.toNat + 2)) + a) ((τ24 (4 * q.toNat + 2)) + a)) (40 + q2.toNat) (κ (10 + q.toNat))) := ⟨_, rfl⟩
              rw [← τ55e] at hp53m
              show zG C V52 (1 - 1) (5 - 5) 93 [(5, .ref (md (70 + q.toNat))), (0, .ref (c 60)), (1, .int (zI (q))), (2, .int (zI (a))), (3, .int (zI (b))), (4, .int (zI (q2)))] [.int (zI (((τ24 (4 * q.toNat + 2)) + b) - ((τ24 (4 * q.toNat + 2)) + a)))]
              exact zr_iret X rfl ⟨((τ24 (4 * q.toNat + 2)) + b) - ((τ24 (4 * q.toNat + 2)) + a), hp53M, τ55, hp53K, rfl, hp53m.le (by omega), fx54, Or.inr (Or.inr ⟨by omega, trivial, Or.inr ⟨by omega, by omega, by rw [τ55e, hk50, τ24e]⟩⟩)⟩ dX8_part_93
            · refine zr_aload_n X 57 1 dX8_part_56 rfl rfl ?_
              refine zr_callVe (kc' := 1) (ks' := 5) X 60 0 (m_X8_refused l Γ hp21m) gX8_part_X8_refused rfl (by decide +kernel) rfl (by decide) ⟨_, _, hp21m.1⟩ rfl rfl (Nat.le_of_ble_eq_true rfl) dX8_part_57 rfl (by omega) (by omega) (fun rv56 V57 hp58 => ?_)
              obtain ⟨hp58e, hp58m, hp58g⟩ := hp58
              rw [hp58e]
              have fx59 : zfm V V57 := zag.tr fx23 (hp58g.mono (fun t ht => by omega))
              obtain ⟨τ60, τ60e⟩ : ∃ zz9 : Nat → Int, zz9 = zrf τ24 := ⟨_, rfl⟩
              rw [← τ60e] at hp58m
              have τ60_q0 : τ60 (4 * q.toNat) = τ24 (4 * q.toNat) := by rw [τ60e]; exact zrf_ne (by omega)
              have τ60_q1 : τ60 (4 * q.toNat + 1) = τ24 (4 * q.toNat + 1) := by rw [τ60e]; exact zrf_ne (by omega)
              have τ60_q2 : τ60 (4 * q.toNat + 2) = τ24 (4 * q.toNat + 2) := by rw [τ60e]; exact zrf_ne (by omega)
              have τ60_q3 : τ60 (4 * q.toNat + 3) = τ24 (4 * q.toNat + 3) := by rw [τ60e]; exact zrf_ne (by omega)
              show zG C V57 1 5 60 [(5, .ref (md (70 + q.toNat))), (0, .ref (c 60)), (1, .int (zI (q))), (2, .int (zI (a))), (3, .int (zI (b))), (4, .int (zI (q2)))] [.int (zI (-9))]
              exact zr_iret X rfl ⟨-9, md, τ60, κ, rfl, hp58m.le (by omega), fx59, Or.inr (Or.inr ⟨by omega, trivial, Or.inl ⟨by omega, rfl, by rw [τ60e, τ24e]⟩⟩)⟩ dX8_part_60
    · refine zr_iconst X 17 dX8_part_16 rfl ?_
      refine zr_goto X 21 dX8_part_17 rfl ?_
      refine zr_iconst X 22 dX8_part_21 rfl ?_
      refine zr_callVe (kc' := 1) (ks' := 5) X 25 2 (m_X8_isThrown l Γ hM (a := 1) (b := 0) (by omega) (by omega)) gX8_part_X8_isThrown rfl (by decide +kernel) rfl (by decide) ⟨_, _, hM.1⟩ rfl rfl (Nat.le_of_ble_eq_true rfl) dX8_part_22 rfl (by omega) (by omega) (fun rv61 V62 hp63 => ?_)
      obtain ⟨⟨hp63x, hp63k, hp63e, hp63c, hp63m⟩, hp63g⟩ := hp63
      rw [hp63e]
      rcases hp63c with ⟨tc64a, tc64k, tc64x⟩ | ⟨tc64a, tc64b, tc64k, tc64x⟩ | ⟨tc64a, tc64b, tc64k, tc64x⟩
      · skip
        subst tc64k tc64x
        have fx65 : zfm V V62 := (hp63g.mono (fun t ht => by omega))
        obtain ⟨τ66, τ66e⟩ : ∃ zz9 : Nat → Int, zz9 = zf τ 36 1 := ⟨_, rfl⟩
        rw [← τ66e] at hp63m
        show zG C V62 1 5 25 [(0, .ref (c 60)), (1, .int (zI (q))), (2, .int (zI (a))), (3, .int (zI (b))), (4, .int (zI (q2)))] [.int (zI (1))]
        refine zr_if_eq X 30 28 dX8_part_25 rfl rfl (by omega) (fun bq67 => absurd bq67 (by omega)) (fun bq67 => ?_)
        refine zr_iconst X 29 dX8_part_28 rfl ?_
        exact zr_iret X rfl ⟨0, md, τ66, κ, rfl, hp63m.le (by omega), fx65, Or.inl ⟨by omega, rfl, by rw [τ66e]⟩⟩ dX8_part_29
      · exact absurd tc64a (by decide)
      · exact absurd tc64a (by decide)
set_option maxRecDepth 100000 in
set_option maxHeartbeats 4000000 in
theorem m_X8_put (l : Launch) (Γ : zGam) {V : zV} {c md : Nat → Nat} {τ κ : Nat → Int} {E : Int} {q x : Int} (hM : zMo Γ V c md τ κ E) (hq : -2147483648 ≤ q ∧ q ≤ 2147483647) (hx : -2147483648 ≤ x ∧ x ≤ 2147483647) : zM l Γ 4 yX8_put wsX8_put 0 0 V [.ref (c 60), .int (zI (q)), .int (zI (x))] (fun rv V' => ∃ (y : Int) (md' : Nat → Nat) (τ' κ' : Nat → Int), rv = some (.int (zI y)) ∧ zMo Γ V' c md' τ' κ' (E + 40) ∧ zfm V V' ∧ ((¬ (0 ≤ q ∧ q ≤ 5) ∧ y = 0 ∧ τ' = zf τ 36 1) ∨ ((0 ≤ q ∧ q ≤ 5) ∧ ¬ (0 ≤ x ∧ x ≤ 255) ∧ y = 0 ∧ τ' = zf τ 36 2) ∨ ((0 ≤ q ∧ q ≤ 5) ∧ (0 ≤ x ∧ x ≤ 255) ∧ ((¬ (zf τ 36 0) (4 * q.toNat + 2) < (zf τ 36 0) (4 * q.toNat + 1) ∧ y = -9 ∧ τ' = zrf (zf τ 36 0)) ∨ ((zf τ 36 0) (4 * q.toNat + 2) < (zf τ 36 0) (4 * q.toNat + 1) ∧ y = (zf τ 36 0) (4 * q.toNat + 1) - ((zf τ 36 0) (4 * q.toNat + 2) + 1) ∧ τ' = zdn (zf (zw4 (zf τ 36 0) q.toNat ((zf τ 36 0) (4 * q.toNat)) ((zf τ 36 0) (4 * q.toNat + 1)) ((zf τ 36 0) (4 * q.toNat + 2) + 1) ((zf τ 36 0) (4 * q.toNat + 3))) (zTp ((zf τ 36 0) (40 + q.toNat) + (zf τ 36 0) (4 * q.toNat + 2))) x)))))) := by
  have w0 : Cond.fieldLink RX8 14 "SashwordsModel" "windows" "[[I" ∈ wsX8_put := by decide +kernel
  have iX8 : ∀ w ∈ u_ws RX8 TX8 11, w ∈ wsX8_put := by decide +kernel
  refine zM_of (cc := cX8_put) (nL := 4) (ret := (some .int)) (own := RX8) (by decide +kernel) rfl rfl (Nat.le_of_ble_eq_true rfl) (fun C X hi0 => ?_)
  have nn1 : 0 ≤ κ 0 ∧ κ 0 ≤ κ 1 ∧ κ 0 ≤ E ∧ κ 1 ≤ 7000 := hM.n.1
  show zG C V 0 0 0 [(0, .ref (c 60)), (1, .int (zI (q))), (2, .int (zI (x)))] []
  refine zr_aload_n X 1 0 dX8_put_0 rfl rfl ?_
  refine zr_iload_n X 2 1 dX8_put_1 rfl rfl ?_
  refine zr_callS (kc' := 0) (ks' := 0) X 5 1 (m_X8_isNoWindow l Γ (V := V) (x := q) (by omega)) gX8_put_X8_isNoWindow rfl (by decide +kernel) rfl (by decide) rfl (Nat.le_of_ble_eq_true rfl) dX8_put_2 rfl (by omega) (by omega) (fun rv2 V3 hp4 => ?_)
  obtain ⟨⟨no5, no5e, no5a⟩, no5v⟩ := hp4
  rw [no5e, no5v]
  show zG C V 0 0 5 [(0, .ref (c 60)), (1, .int (zI (q))), (2, .int (zI (x)))] [.int (zI (no5)), .ref (c 60)]
  refine zr_iload_n X 6 2 dX8_put_5 rfl rfl ?_
  refine zr_iconst X 7 dX8_put_6 rfl ?_
  refine zr_sipush X 10 (255) dX8_put_7 rfl (by decide) ?_
  refine zr_callS (kc' := 0) (ks' := 0) X 13 3 (m_X8_isNo l Γ (V := V) (x := x) (a := 0) (b := 255) (by omega) (by omega) (by omega)) gX8_put_X8_isNo rfl (by decide +kernel) rfl (by decide) rfl (Nat.le_of_ble_eq_true rfl) dX8_put_10 rfl (by omega) (by omega) (fun rv6 V7 hp8 => ?_)
  obtain ⟨⟨no9, no9e, no9a⟩, no9v⟩ := hp8
  rw [no9e, no9v]
  show zG C V 0 0 13 [(0, .ref (c 60)), (1, .int (zI (q))), (2, .int (zI (x)))] [.int (zI (no9)), .int (zI (no5)), .ref (c 60)]
  refine zr_callVe (kc' := 0) (ks' := 0) X 16 2 (m_X8_isThrown l Γ hM (a := no5) (b := no9) (by omega) (by omega)) gX8_put_X8_isThrown rfl (by decide +kernel) rfl (by decide) ⟨_, _, hM.1⟩ rfl rfl (Nat.le_of_ble_eq_true rfl) dX8_put_13 rfl (by omega) (by omega) (fun rv10 V11 hp12 => ?_)
  obtain ⟨⟨hp12x, hp12k, hp12e, hp12c, hp12m⟩, hp12g⟩ := hp12
  rw [hp12e]
  rcases hp12c with ⟨tc13a, tc13k, tc13x⟩ | ⟨tc13a, tc13b, tc13k, tc13x⟩ | ⟨tc13a, tc13b, tc13k, tc13x⟩
  · skip
    subst tc13k tc13x
    have fx14 : zfm V V11 := (hp12g.mono (fun t ht => by omega))
    obtain ⟨τ15, τ15e⟩ : ∃ zz9 : Nat → Int, zz9 = zf τ 36 1 := ⟨_, rfl⟩
    rw [← τ15e] at hp12m
    show zG C V11 0 0 16 [(0, .ref (c 60)), (1, .int (zI (q))), (2, .int (zI (x)))] [.int (zI (1))]
    refine zr_if_eq X 21 19 dX8_put_16 rfl rfl (by omega) (fun bq16 => absurd bq16 (by omega)) (fun bq16 => ?_)
    refine zr_iconst X 20 dX8_put_19 rfl ?_
    exact zr_iret X rfl ⟨0, md, τ15, κ, rfl, hp12m.le (by omega), fx14, Or.inl ⟨by omega, rfl, by rw [τ15e]⟩⟩ dX8_put_20
  · skip
    subst tc13k tc13x
    have fx17 : zfm V V11 := (hp12g.mono (fun t ht => by omega))
    obtain ⟨τ18, τ18e⟩ : ∃ zz9 : Nat → Int, zz9 = zf τ 36 2 := ⟨_, rfl⟩
    rw [← τ18e] at hp12m
    show zG C V11 0 0 16 [(0, .ref (c 60)), (1, .int (zI (q))), (2, .int (zI (x)))] [.int (zI (1))]
    refine zr_if_eq X 21 19 dX8_put_16 rfl rfl (by omega) (fun bq19 => absurd bq19 (by omega)) (fun bq19 => ?_)
    refine zr_iconst X 20 dX8_put_19 rfl ?_
    exact zr_iret X rfl ⟨0, md, τ18, κ, rfl, hp12m.le (by omega), fx17, Or.inr (Or.inl ⟨by omega, by omega, rfl, by rw [τ18e]⟩)⟩ dX8_put_20
  · skip
    subst tc13k tc13x
    have fx20 : zfm V V11 := (hp12g.mono (fun t ht => by omega))
    obtain ⟨τ21, τ21e⟩ : ∃ zz9 : Nat → Int, zz9 = zf τ 36 0 := ⟨_, rfl⟩
    rw [← τ21e] at hp12m
    show zG C V11 0 0 16 [(0, .ref (c 60)), (1, .int (zI (q))), (2, .int (zI (x)))] [.int (zI (0))]
    refine zr_if_eq X 21 19 dX8_put_16 rfl rfl (by omega) (fun bq22 => ?_) (fun bq22 => absurd bq22 (by omega))
    refine zr_aload_n X 22 0 dX8_put_21 rfl rfl ?_
    have c823 : V11 (c 60) = some (60, .inr (9, [.ref (md 61), .int (zI (κ 0)), .ref (c 62), .ref (md 63), .ref (md 64), .ref (c 65), .int (zI (τ21 26)), .int (zI (τ21 28)), .int (zI (τ21 29)), .ref (c 66), .int (zI (τ21 36))])) := hp12m.1
    refine zr_get X 25 9 2 c823 rfl iX8 (by decide) w0 rfl rfl dX8_put_22 rfl ?_
    refine zr_iload_n X 26 1 dX8_put_25 rfl rfl ?_
    have c824 : V11 (c 62) = some (62, zq Γ.2.1 4 6 (fun i => some (md (70 + i)))) := hp12m.2.2.1
    refine zr_aaldI X 27 (.ref (md (70 + q.toNat))) c824 (by omega) rfl dX8_put_26 rfl ?_
    refine zr_astore_n X 28 [(3, .ref (md (70 + q.toNat))), (0, .ref (c 60)), (1, .int (zI (q))), (2, .int (zI (x)))] dX8_put_27 rfl (by decide) rfl ?_
    refine zr_aload_n X 29 0 dX8_put_28 rfl rfl ?_
    have hw26 := hp12m.w (i := q.toNat) (by omega)
    have hw26r := hw26.rg
    have z027 : (zf τ 36 0) (4 * q.toNat) = τ21 (4 * q.toNat) := by rw [τ21e]
    have z028 : (zf τ 36 0) (4 * q.toNat + 1) = τ21 (4 * q.toNat + 1) := by rw [τ21e]
    have z029 : (zf τ 36 0) (4 * q.toNat + 2) = τ21 (4 * q.toNat + 2) := by rw [τ21e]
    have z030 : (zf τ 36 0) (4 * q.toNat + 3) = τ21 (4 * q.toNat + 3) := by rw [τ21e]
    refine zr_callS (kc' := 0) (ks' := 0) X 32 1 (m_X8_length l Γ hw26.1 (by omega)) gX8_put_X8_length rfl (by decide +kernel) rfl (by decide) rfl (Nat.le_of_ble_eq_true rfl) dX8_put_29 rfl (by omega) (by omega) (fun rv31 V32 hp33 => ?_)
    rw [hp33.1, hp33.2]
    show zG C V11 0 0 32 [(3, .ref (md (70 + q.toNat))), (0, .ref (c 60)), (1, .int (zI (q))), (2, .int (zI (x)))] [.int (zI ((τ21 (4 * q.toNat + 1)) - (τ21 (4 * q.toNat + 2))))]
    refine zr_if_ne X 40 35 dX8_put_32 rfl rfl (by omega) (fun bq34 => ?_) (fun bq34 => ?_)
    · refine zr_aload_n X 41 1 dX8_put_40 rfl rfl ?_
      refine zr_aload_n X 42 0 dX8_put_41 rfl rfl ?_
      refine zr_iload_n X 43 3 dX8_put_42 rfl rfl ?_
      refine zr_callVe (kc' := 0) (ks' := 0) X 46 2 (m_X8_write l Γ (i := q) (x := x) hp12m (by omega) (by omega) (by omega)) gX8_put_X8_write rfl (by decide +kernel) rfl (by decide) ⟨_, _, hp12m.1⟩ rfl rfl (Nat.le_of_ble_eq_true rfl) dX8_put_43 rfl (by omega) (by omega) (fun rv35 V36 hp37 => ?_)
      obtain ⟨hp37e, hp37m, hp37g⟩ := hp37
      rw [hp37e]
      have fx38 : zfm V V36 := zag.tr fx20 (hp37g.mono (fun t ht => by omega))
      obtain ⟨τ39, τ39e⟩ : ∃ zz9 : Nat → Int, zz9 = zf (zw4 τ21 q.toNat (τ21 (4 * q.toNat)) (τ21 (4 * q.toNat + 1)) (τ21 (4 * q.toNat + 2) + 1) (τ21 (4 * q.toNat + 3))) (zTp (τ21 (40 + q.toNat) + τ21 (4 * q.toNat + 2))) (x) := ⟨_, rfl⟩
      rw [← τ39e] at hp37m
      have τ39_q0 : τ39 (4 * q.toNat) = τ21 (4 * q.toNat) := by rw [τ39e]; exact (zfT_lo (by omega)).trans (zw4_0)
      have τ39_q1 : τ39 (4 * q.toNat + 1) = τ21 (4 * q.toNat + 1) := by rw [τ39e]; exact (zfT_lo (by omega)).trans (zw4_1)
      have τ39_q2 : τ39 (4 * q.toNat + 2) = τ21 (4 * q.toNat + 2) + 1 := by rw [τ39e]; exact (zfT_lo (by omega)).trans (zw4_2)
      have τ39_q3 : τ39 (4 * q.toNat + 3) = τ21 (4 * q.toNat + 3) := by rw [τ39e]; exact (zfT_lo (by omega)).trans (zw4_3)
      show zG C V36 0 0 46 [(3, .ref (md (70 + q.toNat))), (0, .ref (c 60)), (1, .int (zI (q))), (2, .int (zI (x)))] []
      refine zr_aload_n X 47 1 dX8_put_46 rfl rfl ?_
      refine zr_aload_n X 48 0 dX8_put_47 rfl rfl ?_
      have hw41 := hp37m.w (i := q.toNat) (by omega)
      have hw41r := hw41.rg
      refine zr_callS (kc' := 0) (ks' := 0) X 51 1 (m_X8_length l Γ hw41.1 (by omega)) gX8_put_X8_length rfl (by decide +kernel) rfl (by decide) rfl (Nat.le_of_ble_eq_true rfl) dX8_put_48 rfl (by omega) (by omega) (fun rv42 V43 hp44 => ?_)
      rw [hp44.1, hp44.2]
      show zG C V36 0 0 51 [(3, .ref (md (70 + q.toNat))), (0, .ref (c 60)), (1, .int (zI (q))), (2, .int (zI (x)))] [.int (zI ((τ39 (4 * q.toNat + 1)) - (τ39 (4 * q.toNat + 2)))), .ref (c 60)]
      refine zr_callVe (kc' := 0) (ks' := 0) X 54 1 (m_X8_done l Γ hp37m) gX8_put_X8_done rfl (by decide +kernel) rfl (by decide) ⟨_, _, hp37m.1⟩ rfl rfl (Nat.le_of_ble_eq_true rfl) dX8_put_51 rfl (by omega) (by omega) (fun rv45 V46 hp47 => ?_)
      obtain ⟨hp47e, hp47m, hp47g⟩ := hp47
      rw [hp47e]
      have fx48 : zfm V V46 := zag.tr fx38 (hp47g.mono (fun t ht => by omega))
      obtain ⟨τ49, τ49e⟩ : ∃ zz9 : Nat → Int, zz9 = zdn τ39 := ⟨_, rfl⟩
      rw [← τ49e] at hp47m
      have τ49_q0 : τ49 (4 * q.toNat) = τ39 (4 * q.toNat) := by rw [τ49e]; exact zdn_ne (by omega)
      have τ49_q1 : τ49 (4 * q.toNat + 1) = τ39 (4 * q.toNat + 1) := by rw [τ49e]; exact zdn_ne (by omega)
      have τ49_q2 : τ49 (4 * q.toNat + 2) = τ39 (4 * q.toNat + 2) := by rw [τ49e]; exact zdn_ne (by omega)
      have τ49_q3 : τ49 (4 * q.toNat + 3) = τ39 (4 * q.toNat + 3) := by rw [τ49e]; exact zdn_ne (by omega)
      show zG C V46 0 0 54 [(3, .ref (md (70 + q.toNat))), (0, .ref (c 60)), (1, .int (zI (q))), (2, .int (zI (x)))] [.int (zI ((τ39 (4 * q.toNat + 1)) - (τ39 (4 * q.toNat + 2))))]
      exact zr_iret X rfl ⟨(τ39 (4 * q.toNat + 1)) - (τ39 (4 * q.toNat + 2)), md, τ49, κ, rfl, hp47m.le (by omega), fx48, Or.inr (Or.inr ⟨by omega, by omega, Or.inr ⟨by omega, by omega, by rw [τ49e, τ39e, τ21e]⟩⟩)⟩ dX8_put_54
    · refine zr_aload_n X 36 1 dX8_put_35 rfl rfl ?_
      refine zr_callVe (kc' := 0) (ks' := 0) X 39 0 (m_X8_refused l Γ hp12m) gX8_put_X8_refused rfl (by decide +kernel) rfl (by decide) ⟨_, _, hp12m.1⟩ rfl rfl (Nat.le_of_ble_eq_true rfl) dX8_put_36 rfl (by omega) (by omega) (fun rv50 V51 hp52 => ?_)
      obtain ⟨hp52e, hp52m, hp52g⟩ := hp52
      rw [hp52e]
      have fx53 : zfm V V51 := zag.tr fx20 (hp52g.mono (fun t ht => by omega))
      obtain ⟨τ54, τ54e⟩ : ∃ zz9 : Nat → Int, zz9 = zrf τ21 := ⟨_, rfl⟩
      rw [← τ54e] at hp52m
      have τ54_q0 : τ54 (4 * q.toNat) = τ21 (4 * q.toNat) := by rw [τ54e]; exact zrf_ne (by omega)
      have τ54_q1 : τ54 (4 * q.toNat + 1) = τ21 (4 * q.toNat + 1) := by rw [τ54e]; exact zrf_ne (by omega)
      have τ54_q2 : τ54 (4 * q.toNat + 2) = τ21 (4 * q.toNat + 2) := by rw [τ54e]; exact zrf_ne (by omega)
      have τ54_q3 : τ54 (4 * q.toNat + 3) = τ21 (4 * q.toNat + 3) := by rw [τ54e]; exact zrf_ne (by omega)
      show zG C V51 0 0 39 [(3, .ref (md (70 + q.toNat))), (0, .ref (c 60)), (1, .int (zI (q))), (2, .int (zI (x)))] [.int (zI (-9))]
      exact zr_iret X rfl ⟨-9, md, τ54, κ, rfl, hp52m.le (by omega), fx53, Or.inr (Or.inr ⟨by omega, by omega, Or.inl ⟨by omega, rfl, by rw [τ54e, τ21e]⟩⟩)⟩ dX8_put_39
set_option maxRecDepth 100000 in
set_option maxHeartbeats 4000000 in
theorem m_X8_get (l : Launch) (Γ : zGam) {V : zV} {c md : Nat → Nat} {τ κ : Nat → Int} {E : Int} {q : Int} (hM : zMo Γ V c md τ κ E) (hq : -2147483648 ≤ q ∧ q ≤ 2147483647) : zM l Γ 4 yX8_get wsX8_get 0 0 V [.ref (c 60), .int (zI (q))] (fun rv V' => ∃ (y : Int) (md' : Nat → Nat) (τ' κ' : Nat → Int), rv = some (.int (zI y)) ∧ zMo Γ V' c md' τ' κ' (E + 40) ∧ zfm V V' ∧ ((¬ (0 ≤ q ∧ q ≤ 5) ∧ y = 0 ∧ τ' = zf τ 36 1) ∨ ((0 ≤ q ∧ q ≤ 5) ∧ ¬ (True) ∧ y = 0 ∧ τ' = zf τ 36 2) ∨ ((0 ≤ q ∧ q ≤ 5) ∧ (True) ∧ ((¬ (zf τ 36 0) (4 * q.toNat + 2) < (zf τ 36 0) (4 * q.toNat + 1) ∧ y = -9 ∧ τ' = zrf (zf τ 36 0)) ∨ ((zf τ 36 0) (4 * q.toNat + 2) < (zf τ 36 0) (4 * q.toNat + 1) ∧ y = (zf τ 36 0) (zTp ((zf τ 36 0) (40 + q.toNat) + (zf τ 36 0) (4 * q.toNat + 2))) ∧ τ' = zdn (zw4 (zf τ 36 0) q.toNat ((zf τ 36 0) (4 * q.toNat)) ((zf τ 36 0) (4 * q.toNat + 1)) ((zf τ 36 0) (4 * q.toNat + 2) + 1) ((zf τ 36 0) (4 * q.toNat + 3)))))))) := by
  have w0 : Cond.fieldLink RX8 14 "SashwordsModel" "windows" "[[I" ∈ wsX8_get := by decide +kernel
  have iX8 : ∀ w ∈ u_ws RX8 TX8 11, w ∈ wsX8_get := by decide +kernel
  refine zM_of (cc := cX8_get) (nL := 2) (ret := (some .int)) (own := RX8) (by decide +kernel) rfl rfl (Nat.le_of_ble_eq_true rfl) (fun C X hi0 => ?_)
  have nn1 : 0 ≤ κ 0 ∧ κ 0 ≤ κ 1 ∧ κ 0 ≤ E ∧ κ 1 ≤ 7000 := hM.n.1
  show zG C V 0 0 0 [(0, .ref (c 60)), (1, .int (zI (q)))] []
  refine zr_aload_n X 1 0 dX8_get_0 rfl rfl ?_
  refine zr_iload_n X 2 1 dX8_get_1 rfl rfl ?_
  refine zr_callS (kc' := 0) (ks' := 0) X 5 1 (m_X8_isNoWindow l Γ (V := V) (x := q) (by omega)) gX8_get_X8_isNoWindow rfl (by decide +kernel) rfl (by decide) rfl (Nat.le_of_ble_eq_true rfl) dX8_get_2 rfl (by omega) (by omega) (fun rv2 V3 hp4 => ?_)
  obtain ⟨⟨no5, no5e, no5a⟩, no5v⟩ := hp4
  rw [no5e, no5v]
  show zG C V 0 0 5 [(0, .ref (c 60)), (1, .int (zI (q)))] [.int (zI (no5)), .ref (c 60)]
  refine zr_iconst X 6 dX8_get_5 rfl ?_
  refine zr_callVe (kc' := 0) (ks' := 0) X 9 2 (m_X8_isThrown l Γ hM (a := no5) (b := 0) (by omega) (by omega)) gX8_get_X8_isThrown rfl (by decide +kernel) rfl (by decide) ⟨_, _, hM.1⟩ rfl rfl (Nat.le_of_ble_eq_true rfl) dX8_get_6 rfl (by omega) (by omega) (fun rv6 V7 hp8 => ?_)
  obtain ⟨⟨hp8x, hp8k, hp8e, hp8c, hp8m⟩, hp8g⟩ := hp8
  rw [hp8e]
  rcases hp8c with ⟨tc9a, tc9k, tc9x⟩ | ⟨tc9a, tc9b, tc9k, tc9x⟩ | ⟨tc9a, tc9b, tc9k, tc9x⟩
  · skip
    subst tc9k tc9x
    have fx10 : zfm V V7 := (hp8g.mono (fun t ht => by omega))
    obtain ⟨τ11, τ11e⟩ : ∃ zz9 : Nat → Int, zz9 = zf τ 36 1 := ⟨_, rfl⟩
    rw [← τ11e] at hp8m
    show zG C V7 0 0 9 [(0, .ref (c 60)), (1, .int (zI (q)))] [.int (zI (1))]
    refine zr_if_eq X 14 12 dX8_get_9 rfl rfl (by omega) (fun bq12 => absurd bq12 (by omega)) (fun bq12 => ?_)
    refine zr_iconst X 13 dX8_get_12 rfl ?_
    exact zr_iret X rfl ⟨0, md, τ11, κ, rfl, hp8m.le (by omega), fx10, Or.inl ⟨by omega, rfl, by rw [τ11e]⟩⟩ dX8_get_13
  · exact absurd tc9b (by decide)
  · skip
    subst tc9k tc9x
    have fx13 : zfm V V7 := (hp8g.mono (fun t ht => by omega))
    obtain ⟨τ14, τ14e⟩ : ∃ zz9 : Nat → Int, zz9 = zf τ 36 0 := ⟨_, rfl⟩
    rw [← τ14e] at hp8m
    show zG C V7 0 0 9 [(0, .ref (c 60)), (1, .int (zI (q)))] [.int (zI (0))]
    refine zr_if_eq X 14 12 dX8_get_9 rfl rfl (by omega) (fun bq15 => ?_) (fun bq15 => absurd bq15 (by omega))
    refine zr_aload_n X 15 0 dX8_get_14 rfl rfl ?_
    have c816 : V7 (c 60) = some (60, .inr (9, [.ref (md 61), .int (zI (κ 0)), .ref (c 62), .ref (md 63), .ref (md 64), .ref (c 65), .int (zI (τ14 26)), .int (zI (τ14 28)), .int (zI (τ14 29)), .ref (c 66), .int (zI (τ14 36))])) := hp8m.1
    refine zr_get X 18 9 2 c816 rfl iX8 (by decide) w0 rfl rfl dX8_get_15 rfl ?_
    refine zr_iload_n X 19 1 dX8_get_18 rfl rfl ?_
    have c817 : V7 (c 62) = some (62, zq Γ.2.1 4 6 (fun i => some (md (70 + i)))) := hp8m.2.2.1
    refine zr_aaldI X 20 (.ref (md (70 + q.toNat))) c817 (by omega) rfl dX8_get_19 rfl ?_
    have hw19 := hp8m.w (i := q.toNat) (by omega)
    have hw19r := hw19.rg
    have z020 : (zf τ 36 0) (4 * q.toNat) = τ14 (4 * q.toNat) := by rw [τ14e]
    have z021 : (zf τ 36 0) (4 * q.toNat + 1) = τ14 (4 * q.toNat + 1) := by rw [τ14e]
    have z022 : (zf τ 36 0) (4 * q.toNat + 2) = τ14 (4 * q.toNat + 2) := by rw [τ14e]
    have z023 : (zf τ 36 0) (4 * q.toNat + 3) = τ14 (4 * q.toNat + 3) := by rw [τ14e]
    refine zr_callS (kc' := 0) (ks' := 0) X 23 1 (m_X8_length l Γ hw19.1 (by omega)) gX8_get_X8_length rfl (by decide +kernel) rfl (by decide) rfl (Nat.le_of_ble_eq_true rfl) dX8_get_20 rfl (by omega) (by omega) (fun rv24 V25 hp26 => ?_)
    rw [hp26.1, hp26.2]
    show zG C V7 0 0 23 [(0, .ref (c 60)), (1, .int (zI (q)))] [.int (zI ((τ14 (4 * q.toNat + 1)) - (τ14 (4 * q.toNat + 2))))]
    refine zr_if_ne X 33 26 dX8_get_23 rfl rfl (by omega) (fun bq27 => ?_) (fun bq27 => ?_)
    · refine zr_aload_n X 34 0 dX8_get_33 rfl rfl ?_
      refine zr_aload_n X 35 0 dX8_get_34 rfl rfl ?_
      refine zr_aload_n X 36 0 dX8_get_35 rfl rfl ?_
      refine zr_get X 39 9 2 c816 rfl iX8 (by decide) w0 rfl rfl dX8_get_36 rfl ?_
      refine zr_iload_n X 40 1 dX8_get_39 rfl rfl ?_
      refine zr_aaldI X 41 (.ref (md (70 + q.toNat))) c817 (by omega) rfl dX8_get_40 rfl ?_
      refine zr_callVe (kc' := 0) (ks' := 0) X 44 1 (m_X8_read l Γ (i := q) hp8m (by omega) (by omega)) gX8_get_X8_read rfl (by decide +kernel) rfl (by decide) ⟨_, _, hp8m.1⟩ rfl rfl (Nat.le_of_ble_eq_true rfl) dX8_get_41 rfl (by omega) (by omega) (fun rv28 V29 hp30 => ?_)
      obtain ⟨⟨hp30x, hp30e, hp30a, hp30b, hp30u⟩, hp30m, hp30g⟩ := hp30
      rw [hp30e]
      have fx31 : zfm V V29 := zag.tr fx13 (hp30g.mono (fun t ht => by omega))
      obtain ⟨τ32, τ32e⟩ : ∃ zz9 : Nat → Int, zz9 = zw4 τ14 q.toNat (τ14 (4 * q.toNat)) (τ14 (4 * q.toNat + 1)) (τ14 (4 * q.toNat + 2) + 1) (τ14 (4 * q.toNat + 3)) := ⟨_, rfl⟩
      rw [← τ32e] at hp30m
      have τ32_q0 : τ32 (4 * q.toNat) = τ14 (4 * q.toNat) := by rw [τ32e]; exact zw4_0
      have τ32_q1 : τ32 (4 * q.toNat + 1) = τ14 (4 * q.toNat + 1) := by rw [τ32e]; exact zw4_1
      have τ32_q2 : τ32 (4 * q.toNat + 2) = τ14 (4 * q.toNat + 2) + 1 := by rw [τ32e]; exact zw4_2
      have τ32_q3 : τ32 (4 * q.toNat + 3) = τ14 (4 * q.toNat + 3) := by rw [τ32e]; exact zw4_3
      show zG C V29 0 0 44 [(0, .ref (c 60)), (1, .int (zI (q)))] [.int (zI (hp30x)), .ref (c 60)]
      refine zr_callVe (kc' := 0) (ks' := 0) X 47 1 (m_X8_done l Γ hp30m) gX8_get_X8_done rfl (by decide +kernel) rfl (by decide) ⟨_, _, hp30m.1⟩ rfl rfl (Nat.le_of_ble_eq_true rfl) dX8_get_44 rfl (by omega) (by omega) (fun rv33 V34 hp35 => ?_)
      obtain ⟨hp35e, hp35m, hp35g⟩ := hp35
      rw [hp35e]
      have fx36 : zfm V V34 := zag.tr fx31 (hp35g.mono (fun t ht => by omega))
      obtain ⟨τ37, τ37e⟩ : ∃ zz9 : Nat → Int, zz9 = zdn τ32 := ⟨_, rfl⟩
      rw [← τ37e] at hp35m
      have τ37_q0 : τ37 (4 * q.toNat) = τ32 (4 * q.toNat) := by rw [τ37e]; exact zdn_ne (by omega)
      have τ37_q1 : τ37 (4 * q.toNat + 1) = τ32 (4 * q.toNat + 1) := by rw [τ37e]; exact zdn_ne (by omega)
      have τ37_q2 : τ37 (4 * q.toNat + 2) = τ32 (4 * q.toNat + 2) := by rw [τ37e]; exact zdn_ne (by omega)
      have τ37_q3 : τ37 (4 * q.toNat + 3) = τ32 (4 * q.toNat + 3) := by rw [τ37e]; exact zdn_ne (by omega)
      show zG C V34 0 0 47 [(0, .ref (c 60)), (1, .int (zI (q)))] [.int (zI (hp30x))]
      exact zr_iret X rfl ⟨hp30x, md, τ37, κ, rfl, hp35m.le (by omega), fx36, Or.inr (Or.inr ⟨by omega, trivial, Or.inr ⟨by omega, by rw [hp30u, τ14e], by rw [τ37e, τ32e, τ14e]⟩⟩)⟩ dX8_get_47
    · refine zr_aload_n X 27 0 dX8_get_26 rfl rfl ?_
      refine zr_callVe (kc' := 0) (ks' := 0) X 30 0 (m_X8_refused l Γ hp8m) gX8_get_X8_refused rfl (by decide +kernel) rfl (by decide) ⟨_, _, hp8m.1⟩ rfl rfl (Nat.le_of_ble_eq_true rfl) dX8_get_27 rfl (by omega) (by omega) (fun rv38 V39 hp40 => ?_)
      obtain ⟨hp40e, hp40m, hp40g⟩ := hp40
      rw [hp40e]
      have fx41 : zfm V V39 := zag.tr fx13 (hp40g.mono (fun t ht => by omega))
      obtain ⟨τ42, τ42e⟩ : ∃ zz9 : Nat → Int, zz9 = zrf τ14 := ⟨_, rfl⟩
      rw [← τ42e] at hp40m
      have τ42_q0 : τ42 (4 * q.toNat) = τ14 (4 * q.toNat) := by rw [τ42e]; exact zrf_ne (by omega)
      have τ42_q1 : τ42 (4 * q.toNat + 1) = τ14 (4 * q.toNat + 1) := by rw [τ42e]; exact zrf_ne (by omega)
      have τ42_q2 : τ42 (4 * q.toNat + 2) = τ14 (4 * q.toNat + 2) := by rw [τ42e]; exact zrf_ne (by omega)
      have τ42_q3 : τ42 (4 * q.toNat + 3) = τ14 (4 * q.toNat + 3) := by rw [τ42e]; exact zrf_ne (by omega)
      show zG C V39 0 0 30 [(0, .ref (c 60)), (1, .int (zI (q)))] [.int (zI (-9))]
      refine zr_goto X 47 dX8_get_30 rfl ?_
      exact zr_iret X rfl ⟨-9, md, τ42, κ, rfl, hp40m.le (by omega), fx41, Or.inr (Or.inr ⟨by omega, trivial, Or.inl ⟨by omega, rfl, by rw [τ42e, τ14e]⟩⟩)⟩ dX8_get_47
set_option maxRecDepth 100000 in
set_option maxHeartbeats 4000000 in
theorem m_X8_run (l : Launch) (Γ : zGam) {V : zV} {c md : Nat → Nat} {τ κ : Nat → Int} {E : Int} {q x st n : Int} (hM : zMo Γ V c md τ κ E) (hq : -2147483648 ≤ q ∧ q ≤ 2147483647) (hx : -2147483648 ≤ x ∧ x ≤ 2147483647) (hst : -2147483648 ≤ st ∧ st ≤ 2147483647) (hn : -2147483648 ≤ n ∧ n ≤ 2147483647) : zM l Γ 4 yX8_run wsX8_run 0 0 V [.ref (c 60), .int (zI (q)), .int (zI (x)), .int (zI (st)), .int (zI (n))] (fun rv V' => ∃ (y : Int) (md' : Nat → Nat) (τ' κ' : Nat → Int), rv = some (.int (zI y)) ∧ zMo Γ V' c md' τ' κ' (E + 40) ∧ zfm V V' ∧ ((¬ (0 ≤ q ∧ q ≤ 5) ∧ y = 0 ∧ τ' = zf τ 36 1) ∨ ((0 ≤ q ∧ q ≤ 5) ∧ ¬ (0 ≤ x ∧ x ≤ 255 ∧ 0 ≤ st ∧ st ≤ 255 ∧ 0 ≤ n ∧ n ≤ 40) ∧ y = 0 ∧ τ' = zf τ 36 2) ∨ ((0 ≤ q ∧ q ≤ 5) ∧ (0 ≤ x ∧ x ≤ 255 ∧ 0 ≤ st ∧ st ≤ 255 ∧ 0 ≤ n ∧ n ≤ 40) ∧ (0 ≤ y ∧ y ≤ n ∧ y ≤ (zf τ 36 0) (4 * q.toNat + 1) - (zf τ 36 0) (4 * q.toNat + 2) ∧ (y = n ∨ y = (zf τ 36 0) (4 * q.toNat + 1) - (zf τ 36 0) (4 * q.toNat + 2)) ∧ τ' = zdn (zly (zw4 (zf τ 36 0) q.toNat ((zf τ 36 0) (4 * q.toNat)) ((zf τ 36 0) (4 * q.toNat + 1)) ((zf τ 36 0) (4 * q.toNat + 2) + y) ((zf τ 36 0) (4 * q.toNat + 3))) (zTp ((zf τ 36 0) (40 + q.toNat) + (zf τ 36 0) (4 * q.toNat + 2))) y.toNat (fun j => (x + (j : Int) * st) % 256)))))) := by
  have w0 : Cond.fieldLink RX8 14 "SashwordsModel" "windows" "[[I" ∈ wsX8_run := by decide +kernel
  have iX8 : ∀ w ∈ u_ws RX8 TX8 11, w ∈ wsX8_run := by decide +kernel
  have w2 : Cond.methodLink RX8 97 Lib.Math.min.name ∈ wsX8_run := by decide +kernel
  have w3 : Cond.static Lib.Math.min.name ∈ wsX8_run := by decide +kernel
  have w4 : Cond.initialized "java/lang/Math" ∈ wsX8_run := by decide +kernel
  have w5 : Cond.code Lib.Math.min.name Lib.Math.min.code 2 (some .int) ∈ wsX8_run := by decide +kernel
  refine zM_of (cc := cX8_run) (nL := 8) (ret := (some .int)) (own := RX8) (by decide +kernel) rfl rfl (Nat.le_of_ble_eq_true rfl) (fun C X hi0 => ?_)
  have nn1 : 0 ≤ κ 0 ∧ κ 0 ≤ κ 1 ∧ κ 0 ≤ E ∧ κ 1 ≤ 7000 := hM.n.1
  show zG C V 0 0 0 [(0, .ref (c 60)), (1, .int (zI (q))), (2, .int (zI (x))), (3, .int (zI (st))), (4, .int (zI (n)))] []
  refine zr_aload_n X 1 0 dX8_run_0 rfl rfl ?_
  refine zr_iload_n X 2 1 dX8_run_1 rfl rfl ?_
  refine zr_callS (kc' := 0) (ks' := 0) X 5 1 (m_X8_isNoWindow l Γ (V := V) (x := q) (by omega)) gX8_run_X8_isNoWindow rfl (by decide +kernel) rfl (by decide) rfl (Nat.le_of_ble_eq_true rfl) dX8_run_2 rfl (by omega) (by omega) (fun rv2 V3 hp4 => ?_)
  obtain ⟨⟨no5, no5e, no5a⟩, no5v⟩ := hp4
  rw [no5e, no5v]
  show zG C V 0 0 5 [(0, .ref (c 60)), (1, .int (zI (q))), (2, .int (zI (x))), (3, .int (zI (st))), (4, .int (zI (n)))] [.int (zI (no5)), .ref (c 60)]
  refine zr_iload_n X 6 2 dX8_run_5 rfl rfl ?_
  refine zr_iconst X 7 dX8_run_6 rfl ?_
  refine zr_sipush X 10 (255) dX8_run_7 rfl (by decide) ?_
  refine zr_callS (kc' := 0) (ks' := 0) X 13 3 (m_X8_isNo l Γ (V := V) (x := x) (a := 0) (b := 255) (by omega) (by omega) (by omega)) gX8_run_X8_isNo rfl (by decide +kernel) rfl (by decide) rfl (Nat.le_of_ble_eq_true rfl) dX8_run_10 rfl (by omega) (by omega) (fun rv6 V7 hp8 => ?_)
  obtain ⟨⟨no9, no9e, no9a⟩, no9v⟩ := hp8
  rw [no9e, no9v]
  show zG C V 0 0 13 [(0, .ref (c 60)), (1, .int (zI (q))), (2, .int (zI (x))), (3, .int (zI (st))), (4, .int (zI (n)))] [.int (zI (no9)), .int (zI (no5)), .ref (c 60)]
  refine zr_if_ne X 38 16 dX8_run_13 rfl rfl (by omega) (fun bq10 => ?_) (fun bq10 => ?_)
  · refine zr_iconst X 39 dX8_run_38 rfl ?_
    refine zr_goto X 43 dX8_run_39 rfl ?_
    refine zr_callVe (kc' := 0) (ks' := 0) X 46 2 (m_X8_isThrown l Γ hM (a := no5) (b := 1) (by omega) (by omega)) gX8_run_X8_isThrown rfl (by decide +kernel) rfl (by decide) ⟨_, _, hM.1⟩ rfl rfl (Nat.le_of_ble_eq_true rfl) dX8_run_43 rfl (by omega) (by omega) (fun rv11 V12 hp13 => ?_)
    obtain ⟨⟨hp13x, hp13k, hp13e, hp13c, hp13m⟩, hp13g⟩ := hp13
    rw [hp13e]
    rcases hp13c with ⟨tc14a, tc14k, tc14x⟩ | ⟨tc14a, tc14b, tc14k, tc14x⟩ | ⟨tc14a, tc14b, tc14k, tc14x⟩
    · skip
      subst tc14k tc14x
      have fx15 : zfm V V12 := (hp13g.mono (fun t ht => by omega))
      obtain ⟨τ16, τ16e⟩ : ∃ zz9 : Nat → Int, zz9 = zf τ 36 1 := ⟨_, rfl⟩
      rw [← τ16e] at hp13m
      show zG C V12 0 0 46 [(0, .ref (c 60)), (1, .int (zI (q))), (2, .int (zI (x))), (3, .int (zI (st))), (4, .int (zI (n)))] [.int (zI (1))]
      refine zr_if_eq X 51 49 dX8_run_46 rfl rfl (by omega) (fun bq17 => absurd bq17 (by omega)) (fun bq17 => ?_)
      refine zr_iconst X 50 dX8_run_49 rfl ?_
      exact zr_iret X rfl ⟨0, md, τ16, κ, rfl, hp13m.le (by omega), fx15, Or.inl ⟨by omega, rfl, by rw [τ16e]⟩⟩ dX8_run_50
    · skip
      subst tc14k tc14x
      have fx18 : zfm V V12 := (hp13g.mono (fun t ht => by omega))
      obtain ⟨τ19, τ19e⟩ : ∃ zz9 : Nat → Int, zz9 = zf τ 36 2 := ⟨_, rfl⟩
      rw [← τ19e] at hp13m
      show zG C V12 0 0 46 [(0, .ref (c 60)), (1, .int (zI (q))), (2, .int (zI (x))), (3, .int (zI (st))), (4, .int (zI (n)))] [.int (zI (1))]
      refine zr_if_eq X 51 49 dX8_run_46 rfl rfl (by omega) (fun bq20 => absurd bq20 (by omega)) (fun bq20 => ?_)
      refine zr_iconst X 50 dX8_run_49 rfl ?_
      exact zr_iret X rfl ⟨0, md, τ19, κ, rfl, hp13m.le (by omega), fx18, Or.inr (Or.inl ⟨by omega, by omega, rfl, by rw [τ19e]⟩)⟩ dX8_run_50
    · exact absurd tc14b (by decide)
  · refine zr_iload_n X 17 3 dX8_run_16 rfl rfl ?_
    refine zr_iconst X 18 dX8_run_17 rfl ?_
    refine zr_sipush X 21 (255) dX8_run_18 rfl (by decide) ?_
    refine zr_callS (kc' := 0) (ks' := 0) X 24 3 (m_X8_isNo l Γ (V := V) (x := st) (a := 0) (b := 255) (by omega) (by omega) (by omega)) gX8_run_X8_isNo rfl (by decide +kernel) rfl (by decide) rfl (Nat.le_of_ble_eq_true rfl) dX8_run_21 rfl (by omega) (by omega) (fun rv21 V22 hp23 => ?_)
    obtain ⟨⟨no24, no24e, no24a⟩, no24v⟩ := hp23
    rw [no24e, no24v]
    show zG C V 0 0 24 [(0, .ref (c 60)), (1, .int (zI (q))), (2, .int (zI (x))), (3, .int (zI (st))), (4, .int (zI (n)))] [.int (zI (no24)), .int (zI (no5)), .ref (c 60)]
    refine zr_if_ne X 38 27 dX8_run_24 rfl rfl (by omega) (fun bq25 => ?_) (fun bq25 => ?_)
    · refine zr_iconst X 39 dX8_run_38 rfl ?_
      refine zr_goto X 43 dX8_run_39 rfl ?_
      refine zr_callVe (kc' := 0) (ks' := 0) X 46 2 (m_X8_isThrown l Γ hM (a := no5) (b := 1) (by omega) (by omega)) gX8_run_X8_isThrown rfl (by decide +kernel) rfl (by decide) ⟨_, _, hM.1⟩ rfl rfl (Nat.le_of_ble_eq_true rfl) dX8_run_43 rfl (by omega) (by omega) (fun rv26 V27 hp28 => ?_)
      obtain ⟨⟨hp28x, hp28k, hp28e, hp28c, hp28m⟩, hp28g⟩ := hp28
      rw [hp28e]
      rcases hp28c with ⟨tc29a, tc29k, tc29x⟩ | ⟨tc29a, tc29b, tc29k, tc29x⟩ | ⟨tc29a, tc29b, tc29k, tc29x⟩
      · skip
        subst tc29k tc29x
        have fx30 : zfm V V27 := (hp28g.mono (fun t ht => by omega))
        obtain ⟨τ31, τ31e⟩ : ∃ zz9 : Nat → Int, zz9 = zf τ 36 1 := ⟨_, rfl⟩
        rw [← τ31e] at hp28m
        show zG C V27 0 0 46 [(0, .ref (c 60)), (1, .int (zI (q))), (2, .int (zI (x))), (3, .int (zI (st))), (4, .int (zI (n)))] [.int (zI (1))]
        refine zr_if_eq X 51 49 dX8_run_46 rfl rfl (by omega) (fun bq32 => absurd bq32 (by omega)) (fun bq32 => ?_)
        refine zr_iconst X 50 dX8_run_49 rfl ?_
        exact zr_iret X rfl ⟨0, md, τ31, κ, rfl, hp28m.le (by omega), fx30, Or.inl ⟨by omega, rfl, by rw [τ31e]⟩⟩ dX8_run_50
      · skip
        subst tc29k tc29x
        have fx33 : zfm V V27 := (hp28g.mono (fun t ht => by omega))
        obtain ⟨τ34, τ34e⟩ : ∃ zz9 : Nat → Int, zz9 = zf τ 36 2 := ⟨_, rfl⟩
        rw [← τ34e] at hp28m
        show zG C V27 0 0 46 [(0, .ref (c 60)), (1, .int (zI (q))), (2, .int (zI (x))), (3, .int (zI (st))), (4, .int (zI (n)))] [.int (zI (1))]
        refine zr_if_eq X 51 49 dX8_run_46 rfl rfl (by omega) (fun bq35 => absurd bq35 (by omega)) (fun bq35 => ?_)
        refine zr_iconst X 50 dX8_run_49 rfl ?_
        exact zr_iret X rfl ⟨0, md, τ34, κ, rfl, hp28m.le (by omega), fx33, Or.inr (Or.inl ⟨by omega, by omega, rfl, by rw [τ34e]⟩)⟩ dX8_run_50
      · exact absurd tc29b (by decide)
    · refine zr_iload X 29 4 dX8_run_27 rfl rfl ?_
      refine zr_iconst X 30 dX8_run_29 rfl ?_
      refine zr_bipush X 32 (40) dX8_run_30 rfl (by decide) ?_
      refine zr_callS (kc' := 0) (ks' := 0) X 35 3 (m_X8_isNo l Γ (V := V) (x := n) (a := 0) (b := 40) (by omega) (by omega) (by omega)) gX8_run_X8_isNo rfl (by decide +kernel) rfl (by decide) rfl (Nat.le_of_ble_eq_true rfl) dX8_run_32 rfl (by omega) (by omega) (fun rv36 V37 hp38 => ?_)
      obtain ⟨⟨no39, no39e, no39a⟩, no39v⟩ := hp38
      rw [no39e, no39v]
      show zG C V 0 0 35 [(0, .ref (c 60)), (1, .int (zI (q))), (2, .int (zI (x))), (3, .int (zI (st))), (4, .int (zI (n)))] [.int (zI (no39)), .int (zI (no5)), .ref (c 60)]
      refine zr_if_eq X 42 38 dX8_run_35 rfl rfl (by omega) (fun bq40 => ?_) (fun bq40 => ?_)
      · refine zr_iconst X 43 dX8_run_42 rfl ?_
        refine zr_callVe (kc' := 0) (ks' := 0) X 46 2 (m_X8_isThrown l Γ hM (a := no5) (b := 0) (by omega) (by omega)) gX8_run_X8_isThrown rfl (by decide +kernel) rfl (by decide) ⟨_, _, hM.1⟩ rfl rfl (Nat.le_of_ble_eq_true rfl) dX8_run_43 rfl (by omega) (by omega) (fun rv41 V42 hp43 => ?_)
        obtain ⟨⟨hp43x, hp43k, hp43e, hp43c, hp43m⟩, hp43g⟩ := hp43
        rw [hp43e]
        rcases hp43c with ⟨tc44a, tc44k, tc44x⟩ | ⟨tc44a, tc44b, tc44k, tc44x⟩ | ⟨tc44a, tc44b, tc44k, tc44x⟩
        · skip
          subst tc44k tc44x
          have fx45 : zfm V V42 := (hp43g.mono (fun t ht => by omega))
          obtain ⟨τ46, τ46e⟩ : ∃ zz9 : Nat → Int, zz9 = zf τ 36 1 := ⟨_, rfl⟩
          rw [← τ46e] at hp43m
          show zG C V42 0 0 46 [(0, .ref (c 60)), (1, .int (zI (q))), (2, .int (zI (x))), (3, .int (zI (st))), (4, .int (zI (n)))] [.int (zI (1))]
          refine zr_if_eq X 51 49 dX8_run_46 rfl rfl (by omega) (fun bq47 => absurd bq47 (by omega)) (fun bq47 => ?_)
          refine zr_iconst X 50 dX8_run_49 rfl ?_
          exact zr_iret X rfl ⟨0, md, τ46, κ, rfl, hp43m.le (by omega), fx45, Or.inl ⟨by omega, rfl, by rw [τ46e]⟩⟩ dX8_run_50
        · exact absurd tc44b (by decide)
        · skip
          subst tc44k tc44x
          have fx48 : zfm V V42 := (hp43g.mono (fun t ht => by omega))
          obtain ⟨τ49, τ49e⟩ : ∃ zz9 : Nat → Int, zz9 = zf τ 36 0 := ⟨_, rfl⟩
          rw [← τ49e] at hp43m
          show zG C V42 0 0 46 [(0, .ref (c 60)), (1, .int (zI (q))), (2, .int (zI (x))), (3, .int (zI (st))), (4, .int (zI (n)))] [.int (zI (0))]
          refine zr_if_eq X 51 49 dX8_run_46 rfl rfl (by omega) (fun bq50 => ?_) (fun bq50 => absurd bq50 (by omega))
          refine zr_aload_n X 52 0 dX8_run_51 rfl rfl ?_
          have c851 : V42 (c 60) = some (60, .inr (9, [.ref (md 61), .int (zI (κ 0)), .ref (c 62), .ref (md 63), .ref (md 64), .ref (c 65), .int (zI (τ49 26)), .int (zI (τ49 28)), .int (zI (τ49 29)), .ref (c 66), .int (zI (τ49 36))])) := hp43m.1
          refine zr_get X 55 9 2 c851 rfl iX8 (by decide) w0 rfl rfl dX8_run_52 rfl ?_
          refine zr_iload_n X 56 1 dX8_run_55 rfl rfl ?_
          have c852 : V42 (c 62) = some (62, zq Γ.2.1 4 6 (fun i => some (md (70 + i)))) := hp43m.2.2.1
          refine zr_aaldI X 57 (.ref (md (70 + q.toNat))) c852 (by omega) rfl dX8_run_56 rfl ?_
          refine zr_astore X 59 [(5, .ref (md (70 + q.toNat))), (0, .ref (c 60)), (1, .int (zI (q))), (2, .int (zI (x))), (3, .int (zI (st))), (4, .int (zI (n)))] dX8_run_57 rfl (by decide) rfl ?_
          refine zr_iload X 61 5 dX8_run_59 rfl rfl ?_
          refine zr_aload X 63 0 dX8_run_61 rfl rfl ?_
          have hw54 := hp43m.w (i := q.toNat) (by omega)
          have hw54r := hw54.rg
          have z055 : (zf τ 36 0) (4 * q.toNat) = τ49 (4 * q.toNat) := by rw [τ49e]
          have z056 : (zf τ 36 0) (4 * q.toNat + 1) = τ49 (4 * q.toNat + 1) := by rw [τ49e]
          have z057 : (zf τ 36 0) (4 * q.toNat + 2) = τ49 (4 * q.toNat + 2) := by rw [τ49e]
          have z058 : (zf τ 36 0) (4 * q.toNat + 3) = τ49 (4 * q.toNat + 3) := by rw [τ49e]
          refine zr_callS (kc' := 0) (ks' := 0) X 66 1 (m_X8_length l Γ hw54.1 (by omega)) gX8_run_X8_length rfl (by decide +kernel) rfl (by decide) rfl (Nat.le_of_ble_eq_true rfl) dX8_run_63 rfl (by omega) (by omega) (fun rv59 V60 hp61 => ?_)
          rw [hp61.1, hp61.2]
          show zG C V42 0 0 66 [(5, .ref (md (70 + q.toNat))), (0, .ref (c 60)), (1, .int (zI (q))), (2, .int (zI (x))), (3, .int (zI (st))), (4, .int (zI (n)))] [.int (zI ((τ49 (4 * q.toNat + 1)) - (τ49 (4 * q.toNat + 2)))), .int (zI (n))]
          obtain ⟨mz62, mz62e, mz62a⟩ : ∃ z9 : Int, z9 = (if (τ49 (4 * q.toNat + 1)) - (τ49 (4 * q.toNat + 2)) < n then (τ49 (4 * q.toNat + 1)) - (τ49 (4 * q.toNat + 2)) else n) ∧ (((τ49 (4 * q.toNat + 1)) - (τ49 (4 * q.toNat + 2)) < n ∧ z9 = (τ49 (4 * q.toNat + 1)) - (τ49 (4 * q.toNat + 2))) ∨ (¬ (τ49 (4 * q.toNat + 1)) - (τ49 (4 * q.toNat + 2)) < n ∧ z9 = n)) := zmine _ _
          refine zr_mmin X 69 (mz62) w2 w3 w4 w5 (by decide) (Nat.le_of_ble_eq_true rfl) (by omega) (by omega) mz62e dX8_run_66 rfl ?_
          clear mz62e
          refine zr_istore X 71 [(6, .int (zI (mz62))), (5, .ref (md (70 + q.toNat))), (0, .ref (c 60)), (1, .int (zI (q))), (2, .int (zI (x))), (3, .int (zI (st))), (4, .int (zI (n)))] dX8_run_69 rfl (by decide) rfl ?_
          refine zr_iconst X 72 dX8_run_71 rfl ?_
          refine zr_istore X 74 [(7, .int (zI (0))), (6, .int (zI (mz62))), (5, .ref (md (70 + q.toNat))), (0, .ref (c 60)), (1, .int (zI (q))), (2, .int (zI (x))), (3, .int (zI (st))), (4, .int (zI (n)))] dX8_run_72 rfl (by decide) rfl ?_
          refine zr_sub [0, 1, 2, 7, 6, 5, 4, 3] [(7, .int (zI (0))), (6, .int (zI (mz62))), (5, .ref (md (70 + q.toNat))), (4, .int (zI (n))), (3, .int (zI (st))), (2, .int (zI (x))), (1, .int (zI (q))), (0, .ref (c 60))] rfl ?_
          have loop : ∀ (N : Nat) (V1 : zV) (τ1 : Nat → Int) (k : Int), zMo Γ V1 c md τ1 κ E ∧ zfm V V1 ∧ τ1 = zly (zw4 τ49 q.toNat (τ49 (4 * q.toNat)) (τ49 (4 * q.toNat + 1)) (τ49 (4 * q.toNat + 2) + k) (τ49 (4 * q.toNat + 3))) (zTp (τ49 (40 + q.toNat) + τ49 (4 * q.toNat + 2))) (k).toNat (fun j => (x + (j : Int) * st) % 256) ∧ 0 ≤ k ∧ (k ≤ mz62 ∨ k = 0) → (mz62 - k).toNat = N → zG C V1 0 0 74 [(7, .int (zI (k))), (6, .int (zI (mz62))), (5, .ref (md (70 + q.toNat))), (4, .int (zI (n))), (3, .int (zI (st))), (2, .int (zI (x))), (1, .int (zI (q))), (0, .ref (c 60))] [] := by
            intro N
            induction N using Nat.strongRecOn with
            | _ N ih =>
            intro V1 τ1 k hI hN
            obtain ⟨hI1, hI2, hI3, hI4, hI5⟩ := id hI
            have nn63 : 0 ≤ κ 0 ∧ κ 0 ≤ κ 1 ∧ κ 0 ≤ E ∧ κ 1 ≤ 7000 := hI1.n.1
            have fq0 : τ1 (4 * q.toNat) = τ49 (4 * q.toNat) := by rw [hI3]; exact (zlyT_lo (by omega)).trans zw4_0
            have fq1 : τ1 (4 * q.toNat + 1) = τ49 (4 * q.toNat + 1) := by rw [hI3]; exact (zlyT_lo (by omega)).trans zw4_1
            have fq2 : τ1 (4 * q.toNat + 2) = τ49 (4 * q.toNat + 2) + k := by rw [hI3]; exact (zlyT_lo (by omega)).trans zw4_2
            have fq3 : τ1 (4 * q.toNat + 3) = τ49 (4 * q.toNat + 3) := by rw [hI3]; exact (zlyT_lo (by omega)).trans zw4_3
            have fqs : τ1 (40 + q.toNat) = τ49 (40 + q.toNat) := by rw [hI3, zlyT_lo (by omega), zw4_hi (by omega) (by omega)]
            have gqs : 0 ≤ τ49 (40 + q.toNat) := by rw [← fqs, ← hI1.ct.2.2.1.2 q.toNat (by omega)]; exact (hI1.w (i := q.toNat) (by omega)).rg.1
            have hks := zmulb (a := k) (b := st) (A := 40) (B := 255) (by omega) (by omega)
            refine zr_iload X 76 0 dX8_run_74 rfl rfl ?_
            refine zr_iload X 78 1 dX8_run_76 rfl rfl ?_
            refine zr_icmp_ge X 103 81 dX8_run_78 rfl rfl (by omega) (by omega) (fun bq64 => ?_) (fun bq64 => ?_)
            · refine zr_aload_n X 104 7 dX8_run_103 rfl rfl ?_
              refine zr_iload X 106 1 dX8_run_104 rfl rfl ?_
              refine zr_callVe (kc' := 0) (ks' := 0) X 109 1 (m_X8_done l Γ hI1) gX8_run_X8_done rfl (by decide +kernel) rfl (by decide) ⟨_, _, hI1.1⟩ rfl rfl (Nat.le_of_ble_eq_true rfl) dX8_run_106 rfl (by omega) (by omega) (fun rv65 V66 hp67 => ?_)
              obtain ⟨hp67e, hp67m, hp67g⟩ := hp67
              rw [hp67e]
              have fx68 : zfm V V66 := zag.tr hI2 (hp67g.mono (fun t ht => by omega))
              obtain ⟨τ69, τ69e⟩ : ∃ zz9 : Nat → Int, zz9 = zdn τ1 := ⟨_, rfl⟩
              rw [← τ69e] at hp67m
              have τ69_q0 : τ69 (4 * q.toNat) = τ1 (4 * q.toNat) := by rw [τ69e]; exact zdn_ne (by omega)
              have τ69_q1 : τ69 (4 * q.toNat + 1) = τ1 (4 * q.toNat + 1) := by rw [τ69e]; exact zdn_ne (by omega)
              have τ69_q2 : τ69 (4 * q.toNat + 2) = τ1 (4 * q.toNat + 2) := by rw [τ69e]; exact zdn_ne (by omega)
              have τ69_q3 : τ69 (4 * q.toNat + 3) = τ1 (4 * q.toNat + 3) := by rw [τ69e]; exact zdn_ne (by omega)
              show zG C V66 0 0 109 [(7, .int (zI (k))), (6, .int (zI (mz62))), (5, .ref (md (70 + q.toNat))), (4, .int (zI (n))), (3, .int (zI (st))), (2, .int (zI (x))), (1, .int (zI (q))), (0, .ref (c 60))] [.int (zI (mz62))]
              exact zr_iret X rfl ⟨mz62, md, τ69, κ, rfl, hp67m.le (by omega), fx68, Or.inr (Or.inr ⟨by omega, by omega, ⟨by omega, by omega, by omega, by omega, by rw [show mz62 = k by omega]; exact (by rw [τ69e, hI3, τ49e])⟩⟩)⟩ dX8_run_109
            · refine zr_aload_n X 82 7 dX8_run_81 rfl rfl ?_
              refine zr_aload X 84 2 dX8_run_82 rfl rfl ?_
              refine zr_iload_n X 85 5 dX8_run_84 rfl rfl ?_
              refine zr_iload X 87 0 dX8_run_85 rfl rfl ?_
              refine zr_iload_n X 88 4 dX8_run_87 rfl rfl ?_
              refine zr_imul X 89 dX8_run_88 rfl ?_
              refine zr_iadd X 90 dX8_run_89 rfl ?_
              refine zr_sipush X 93 (256) dX8_run_90 rfl (by decide) ?_
              refine zr_irem X 94 dX8_run_93 rfl (by omega) (by omega) ?_
              have hw71 := hI1.w (i := q.toNat) (by omega)
              have hw71r := hw71.rg
              refine zr_callVe (kc' := 0) (ks' := 0) X 97 2 (m_X8_write l Γ (i := q) (x := (x + (k * st)) % 256) hI1 (by omega) (by omega) (by omega)) gX8_run_X8_write rfl (by decide +kernel) rfl (by decide) ⟨_, _, hI1.1⟩ rfl rfl (Nat.le_of_ble_eq_true rfl) dX8_run_94 rfl (by omega) (by omega) (fun rv72 V73 hp74 => ?_)
              obtain ⟨hp74e, hp74m, hp74g⟩ := hp74
              rw [hp74e]
              have fx75 : zfm V V73 := zag.tr hI2 (hp74g.mono (fun t ht => by omega))
              obtain ⟨τ76, τ76e⟩ : ∃ zz9 : Nat → Int, zz9 = zf (zw4 τ1 q.toNat (τ1 (4 * q.toNat)) (τ1 (4 * q.toNat + 1)) (τ1 (4 * q.toNat + 2) + 1) (τ1 (4 * q.toNat + 3))) (zTp (τ1 (40 + q.toNat) + τ1 (4 * q.toNat + 2))) ((x + (k * st)) % 256) := ⟨_, rfl⟩
              rw [← τ76e] at hp74m
              have τ76_q0 : τ76 (4 * q.toNat) = τ1 (4 * q.toNat) := by rw [τ76e]; exact (zfT_lo (by omega)).trans (zw4_0)
              have τ76_q1 : τ76 (4 * q.toNat + 1) = τ1 (4 * q.toNat + 1) := by rw [τ76e]; exact (zfT_lo (by omega)).trans (zw4_1)
              have τ76_q2 : τ76 (4 * q.toNat + 2) = τ1 (4 * q.toNat + 2) + 1 := by rw [τ76e]; exact (zfT_lo (by omega)).trans (zw4_2)
              have τ76_q3 : τ76 (4 * q.toNat + 3) = τ1 (4 * q.toNat + 3) := by rw [τ76e]; exact (zfT_lo (by omega)).trans (zw4_3)
              show zG C V73 0 0 97 [(7, .int (zI (k))), (6, .int (zI (mz62))), (5, .ref (md (70 + q.toNat))), (4, .int (zI (n))), (3, .int (zI (st))), (2, .int (zI (x))), (1, .int (zI (q))), (0, .ref (c 60))] []
              refine zr_iinc X 100 0 [(7, .int (zI (k + 1))), (6, .int (zI (mz62))), (5, .ref (md (70 + q.toNat))), (4, .int (zI (n))), (3, .int (zI (st))), (2, .int (zI (x))), (1, .int (zI (q))), (0, .ref (c 60))] dX8_run_97 rfl rfl (by decide) rfl ?_
              refine zr_goto X 74 dX8_run_100 rfl ?_
              exact ih _ (by omega) V73 τ76 (k + 1) ⟨hp74m, fx75, by rw [← Int.add_assoc, τ76e, fq2, fq0, fq1, fq3, fqs, hI3]; exact zwl_step (by omega) (by omega) (by omega) (by omega) (zrun_k (by omega)), by omega, by omega⟩ rfl
          exact loop _ V42 τ49 0 ⟨hp43m, fx48, (by rw [Int.add_zero]; show _ = zly _ _ 0 _; rw [zly_0]; exact zw4_id.symm), by omega, by omega⟩ rfl
      · refine zr_iconst X 39 dX8_run_38 rfl ?_
        refine zr_goto X 43 dX8_run_39 rfl ?_
        refine zr_callVe (kc' := 0) (ks' := 0) X 46 2 (m_X8_isThrown l Γ hM (a := no5) (b := 1) (by omega) (by omega)) gX8_run_X8_isThrown rfl (by decide +kernel) rfl (by decide) ⟨_, _, hM.1⟩ rfl rfl (Nat.le_of_ble_eq_true rfl) dX8_run_43 rfl (by omega) (by omega) (fun rv77 V78 hp79 => ?_)
        obtain ⟨⟨hp79x, hp79k, hp79e, hp79c, hp79m⟩, hp79g⟩ := hp79
        rw [hp79e]
        rcases hp79c with ⟨tc80a, tc80k, tc80x⟩ | ⟨tc80a, tc80b, tc80k, tc80x⟩ | ⟨tc80a, tc80b, tc80k, tc80x⟩
        · skip
          subst tc80k tc80x
          have fx81 : zfm V V78 := (hp79g.mono (fun t ht => by omega))
          obtain ⟨τ82, τ82e⟩ : ∃ zz9 : Nat → Int, zz9 = zf τ 36 1 := ⟨_, rfl⟩
          rw [← τ82e] at hp79m
          show zG C V78 0 0 46 [(0, .ref (c 60)), (1, .int (zI (q))), (2, .int (zI (x))), (3, .int (zI (st))), (4, .int (zI (n)))] [.int (zI (1))]
          refine zr_if_eq X 51 49 dX8_run_46 rfl rfl (by omega) (fun bq83 => absurd bq83 (by omega)) (fun bq83 => ?_)
          refine zr_iconst X 50 dX8_run_49 rfl ?_
          exact zr_iret X rfl ⟨0, md, τ82, κ, rfl, hp79m.le (by omega), fx81, Or.inl ⟨by omega, rfl, by rw [τ82e]⟩⟩ dX8_run_50
        · skip
          subst tc80k tc80x
          have fx84 : zfm V V78 := (hp79g.mono (fun t ht => by omega))
          obtain ⟨τ85, τ85e⟩ : ∃ zz9 : Nat → Int, zz9 = zf τ 36 2 := ⟨_, rfl⟩
          rw [← τ85e] at hp79m
          show zG C V78 0 0 46 [(0, .ref (c 60)), (1, .int (zI (q))), (2, .int (zI (x))), (3, .int (zI (st))), (4, .int (zI (n)))] [.int (zI (1))]
          refine zr_if_eq X 51 49 dX8_run_46 rfl rfl (by omega) (fun bq86 => absurd bq86 (by omega)) (fun bq86 => ?_)
          refine zr_iconst X 50 dX8_run_49 rfl ?_
          exact zr_iret X rfl ⟨0, md, τ85, κ, rfl, hp79m.le (by omega), fx84, Or.inr (Or.inl ⟨by omega, by omega, rfl, by rw [τ85e]⟩)⟩ dX8_run_50
        · exact absurd tc80b (by decide)
set_option maxRecDepth 100000 in
set_option maxHeartbeats 4000000 in
theorem m_X8_write_ (l : Launch) (Γ : zGam) {V : zV} {c md : Nat → Nat} {τ κ : Nat → Int} {E : Int} {q x n : Int} (hM : zMo Γ V c md τ κ E) (hq : -2147483648 ≤ q ∧ q ≤ 2147483647) (hx : -2147483648 ≤ x ∧ x ≤ 2147483647) (hn : -2147483648 ≤ n ∧ n ≤ 2147483647) : zM l Γ 4 yX8_write_ wsX8_write_ 0 0 V [.ref (c 60), .int (zI (q)), .int (zI (x)), .int (zI (n))] (fun rv V' => ∃ (y : Int) (md' : Nat → Nat) (τ' κ' : Nat → Int), rv = some (.int (zI y)) ∧ zMo Γ V' c md' τ' κ' (E + 40) ∧ zfm V V' ∧ ((¬ (0 ≤ q ∧ q ≤ 5) ∧ y = 0 ∧ τ' = zf τ 36 1) ∨ ((0 ≤ q ∧ q ≤ 5) ∧ ¬ (0 ≤ x ∧ 0 ≤ n ∧ n ≤ 20) ∧ y = 0 ∧ τ' = zf τ 36 2) ∨ ((0 ≤ q ∧ q ≤ 5) ∧ (0 ≤ x ∧ 0 ≤ n ∧ n ≤ 20) ∧ (0 ≤ y ∧ y ≤ n ∧ y ≤ (zf τ 36 0) (4 * q.toNat + 1) - (zf τ 36 0) (4 * q.toNat + 2) ∧ (y = n ∨ y = (zf τ 36 0) (4 * q.toNat + 1) - (zf τ 36 0) (4 * q.toNat + 2)) ∧ τ' = zdn (zly (zw4 (zf τ 36 0) q.toNat ((zf τ 36 0) (4 * q.toNat)) ((zf τ 36 0) (4 * q.toNat + 1)) ((zf τ 36 0) (4 * q.toNat + 2) + y) ((zf τ 36 0) (4 * q.toNat + 3))) (zTp ((zf τ 36 0) (40 + q.toNat) + (zf τ 36 0) (4 * q.toNat + 2))) y.toNat (fun j => 97 + zlt x j % 3)))))) := by
  have w0 : Cond.fieldLink RX8 14 "SashwordsModel" "windows" "[[I" ∈ wsX8_write_ := by decide +kernel
  have iX8 : ∀ w ∈ u_ws RX8 TX8 11, w ∈ wsX8_write_ := by decide +kernel
  have w2 : Cond.methodLink RX8 97 Lib.Math.min.name ∈ wsX8_write_ := by decide +kernel
  have w3 : Cond.static Lib.Math.min.name ∈ wsX8_write_ := by decide +kernel
  have w4 : Cond.initialized "java/lang/Math" ∈ wsX8_write_ := by decide +kernel
  have w5 : Cond.code Lib.Math.min.name Lib.Math.min.code 2 (some .int) ∈ wsX8_write_ := by decide +kernel
  refine zM_of (cc := cX8_write_) (nL := 7) (ret := (some .int)) (own := RX8) (by decide +kernel) rfl rfl (Nat.le_of_ble_eq_true rfl) (fun C X hi0 => ?_)
  have nn1 : 0 ≤ κ 0 ∧ κ 0 ≤ κ 1 ∧ κ 0 ≤ E ∧ κ 1 ≤ 7000 := hM.n.1
  show zG C V 0 0 0 [(0, .ref (c 60)), (1, .int (zI (q))), (2, .int (zI (x))), (3, .int (zI (n)))] []
  refine zr_aload_n X 1 0 dX8_write__0 rfl rfl ?_
  refine zr_iload_n X 2 1 dX8_write__1 rfl rfl ?_
  refine zr_callS (kc' := 0) (ks' := 0) X 5 1 (m_X8_isNoWindow l Γ (V := V) (x := q) (by omega)) gX8_write__X8_isNoWindow rfl (by decide +kernel) rfl (by decide) rfl (Nat.le_of_ble_eq_true rfl) dX8_write__2 rfl (by omega) (by omega) (fun rv2 V3 hp4 => ?_)
  obtain ⟨⟨no5, no5e, no5a⟩, no5v⟩ := hp4
  rw [no5e, no5v]
  show zG C V 0 0 5 [(0, .ref (c 60)), (1, .int (zI (q))), (2, .int (zI (x))), (3, .int (zI (n)))] [.int (zI (no5)), .ref (c 60)]
  refine zr_iload_n X 6 2 dX8_write__5 rfl rfl ?_
  refine zr_if_lt X 19 9 dX8_write__6 rfl rfl (by omega) (fun bq6 => ?_) (fun bq6 => ?_)
  · refine zr_iconst X 20 dX8_write__19 rfl ?_
    refine zr_goto X 24 dX8_write__20 rfl ?_
    refine zr_callVe (kc' := 0) (ks' := 0) X 27 2 (m_X8_isThrown l Γ hM (a := no5) (b := 1) (by omega) (by omega)) gX8_write__X8_isThrown rfl (by decide +kernel) rfl (by decide) ⟨_, _, hM.1⟩ rfl rfl (Nat.le_of_ble_eq_true rfl) dX8_write__24 rfl (by omega) (by omega) (fun rv7 V8 hp9 => ?_)
    obtain ⟨⟨hp9x, hp9k, hp9e, hp9c, hp9m⟩, hp9g⟩ := hp9
    rw [hp9e]
    rcases hp9c with ⟨tc10a, tc10k, tc10x⟩ | ⟨tc10a, tc10b, tc10k, tc10x⟩ | ⟨tc10a, tc10b, tc10k, tc10x⟩
    · skip
      subst tc10k tc10x
      have fx11 : zfm V V8 := (hp9g.mono (fun t ht => by omega))
      obtain ⟨τ12, τ12e⟩ : ∃ zz9 : Nat → Int, zz9 = zf τ 36 1 := ⟨_, rfl⟩
      rw [← τ12e] at hp9m
      show zG C V8 0 0 27 [(0, .ref (c 60)), (1, .int (zI (q))), (2, .int (zI (x))), (3, .int (zI (n)))] [.int (zI (1))]
      refine zr_if_eq X 32 30 dX8_write__27 rfl rfl (by omega) (fun bq13 => absurd bq13 (by omega)) (fun bq13 => ?_)
      refine zr_iconst X 31 dX8_write__30 rfl ?_
      exact zr_iret X rfl ⟨0, md, τ12, κ, rfl, hp9m.le (by omega), fx11, Or.inl ⟨by omega, rfl, by rw [τ12e]⟩⟩ dX8_write__31
    · skip
      subst tc10k tc10x
      have fx14 : zfm V V8 := (hp9g.mono (fun t ht => by omega))
      obtain ⟨τ15, τ15e⟩ : ∃ zz9 : Nat → Int, zz9 = zf τ 36 2 := ⟨_, rfl⟩
      rw [← τ15e] at hp9m
      show zG C V8 0 0 27 [(0, .ref (c 60)), (1, .int (zI (q))), (2, .int (zI (x))), (3, .int (zI (n)))] [.int (zI (1))]
      refine zr_if_eq X 32 30 dX8_write__27 rfl rfl (by omega) (fun bq16 => absurd bq16 (by omega)) (fun bq16 => ?_)
      refine zr_iconst X 31 dX8_write__30 rfl ?_
      exact zr_iret X rfl ⟨0, md, τ15, κ, rfl, hp9m.le (by omega), fx14, Or.inr (Or.inl ⟨by omega, by omega, rfl, by rw [τ15e]⟩)⟩ dX8_write__31
    · exact absurd tc10b (by decide)
  · refine zr_iload_n X 10 3 dX8_write__9 rfl rfl ?_
    refine zr_iconst X 11 dX8_write__10 rfl ?_
    refine zr_bipush X 13 (20) dX8_write__11 rfl (by decide) ?_
    refine zr_callS (kc' := 0) (ks' := 0) X 16 3 (m_X8_isNo l Γ (V := V) (x := n) (a := 0) (b := 20) (by omega) (by omega) (by omega)) gX8_write__X8_isNo rfl (by decide +kernel) rfl (by decide) rfl (Nat.le_of_ble_eq_true rfl) dX8_write__13 rfl (by omega) (by omega) (fun rv17 V18 hp19 => ?_)
    obtain ⟨⟨no20, no20e, no20a⟩, no20v⟩ := hp19
    rw [no20e, no20v]
    show zG C V 0 0 16 [(0, .ref (c 60)), (1, .int (zI (q))), (2, .int (zI (x))), (3, .int (zI (n)))] [.int (zI (no20)), .int (zI (no5)), .ref (c 60)]
    refine zr_if_eq X 23 19 dX8_write__16 rfl rfl (by omega) (fun bq21 => ?_) (fun bq21 => ?_)
    · refine zr_iconst X 24 dX8_write__23 rfl ?_
      refine zr_callVe (kc' := 0) (ks' := 0) X 27 2 (m_X8_isThrown l Γ hM (a := no5) (b := 0) (by omega) (by omega)) gX8_write__X8_isThrown rfl (by decide +kernel) rfl (by decide) ⟨_, _, hM.1⟩ rfl rfl (Nat.le_of_ble_eq_true rfl) dX8_write__24 rfl (by omega) (by omega) (fun rv22 V23 hp24 => ?_)
      obtain ⟨⟨hp24x, hp24k, hp24e, hp24c, hp24m⟩, hp24g⟩ := hp24
      rw [hp24e]
      rcases hp24c with ⟨tc25a, tc25k, tc25x⟩ | ⟨tc25a, tc25b, tc25k, tc25x⟩ | ⟨tc25a, tc25b, tc25k, tc25x⟩
      · skip
        subst tc25k tc25x
        have fx26 : zfm V V23 := (hp24g.mono (fun t ht => by omega))
        obtain ⟨τ27, τ27e⟩ : ∃ zz9 : Nat → Int, zz9 = zf τ 36 1 := ⟨_, rfl⟩
        rw [← τ27e] at hp24m
        show zG C V23 0 0 27 [(0, .ref (c 60)), (1, .int (zI (q))), (2, .int (zI (x))), (3, .int (zI (n)))] [.int (zI (1))]
        refine zr_if_eq X 32 30 dX8_write__27 rfl rfl (by omega) (fun bq28 => absurd bq28 (by omega)) (fun bq28 => ?_)
        refine zr_iconst X 31 dX8_write__30 rfl ?_
        exact zr_iret X rfl ⟨0, md, τ27, κ, rfl, hp24m.le (by omega), fx26, Or.inl ⟨by omega, rfl, by rw [τ27e]⟩⟩ dX8_write__31
      · exact absurd tc25b (by decide)
      · skip
        subst tc25k tc25x
        have fx29 : zfm V V23 := (hp24g.mono (fun t ht => by omega))
        obtain ⟨τ30, τ30e⟩ : ∃ zz9 : Nat → Int, zz9 = zf τ 36 0 := ⟨_, rfl⟩
        rw [← τ30e] at hp24m
        show zG C V23 0 0 27 [(0, .ref (c 60)), (1, .int (zI (q))), (2, .int (zI (x))), (3, .int (zI (n)))] [.int (zI (0))]
        refine zr_if_eq X 32 30 dX8_write__27 rfl rfl (by omega) (fun bq31 => ?_) (fun bq31 => absurd bq31 (by omega))
        refine zr_aload_n X 33 0 dX8_write__32 rfl rfl ?_
        have c832 : V23 (c 60) = some (60, .inr (9, [.ref (md 61), .int (zI (κ 0)), .ref (c 62), .ref (md 63), .ref (md 64), .ref (c 65), .int (zI (τ30 26)), .int (zI (τ30 28)), .int (zI (τ30 29)), .ref (c 66), .int (zI (τ30 36))])) := hp24m.1
        refine zr_get X 36 9 2 c832 rfl iX8 (by decide) w0 rfl rfl dX8_write__33 rfl ?_
        refine zr_iload_n X 37 1 dX8_write__36 rfl rfl ?_
        have c833 : V23 (c 62) = some (62, zq Γ.2.1 4 6 (fun i => some (md (70 + i)))) := hp24m.2.2.1
        refine zr_aaldI X 38 (.ref (md (70 + q.toNat))) c833 (by omega) rfl dX8_write__37 rfl ?_
        refine zr_astore X 40 [(4, .ref (md (70 + q.toNat))), (0, .ref (c 60)), (1, .int (zI (q))), (2, .int (zI (x))), (3, .int (zI (n)))] dX8_write__38 rfl (by decide) rfl ?_
        refine zr_iload_n X 41 4 dX8_write__40 rfl rfl ?_
        refine zr_aload X 43 0 dX8_write__41 rfl rfl ?_
        have hw35 := hp24m.w (i := q.toNat) (by omega)
        have hw35r := hw35.rg
        have z036 : (zf τ 36 0) (4 * q.toNat) = τ30 (4 * q.toNat) := by rw [τ30e]
        have z037 : (zf τ 36 0) (4 * q.toNat + 1) = τ30 (4 * q.toNat + 1) := by rw [τ30e]
        have z038 : (zf τ 36 0) (4 * q.toNat + 2) = τ30 (4 * q.toNat + 2) := by rw [τ30e]
        have z039 : (zf τ 36 0) (4 * q.toNat + 3) = τ30 (4 * q.toNat + 3) := by rw [τ30e]
        refine zr_callS (kc' := 0) (ks' := 0) X 46 1 (m_X8_length l Γ hw35.1 (by omega)) gX8_write__X8_length rfl (by decide +kernel) rfl (by decide) rfl (Nat.le_of_ble_eq_true rfl) dX8_write__43 rfl (by omega) (by omega) (fun rv40 V41 hp42 => ?_)
        rw [hp42.1, hp42.2]
        show zG C V23 0 0 46 [(4, .ref (md (70 + q.toNat))), (0, .ref (c 60)), (1, .int (zI (q))), (2, .int (zI (x))), (3, .int (zI (n)))] [.int (zI ((τ30 (4 * q.toNat + 1)) - (τ30 (4 * q.toNat + 2)))), .int (zI (n))]
        obtain ⟨mz43, mz43e, mz43a⟩ : ∃ z9 : Int, z9 = (if (τ30 (4 * q.toNat + 1)) - (τ30 (4 * q.toNat + 2)) < n then (τ30 (4 * q.toNat + 1)) - (τ30 (4 * q.toNat + 2)) else n) ∧ (((τ30 (4 * q.toNat + 1)) - (τ30 (4 * q.toNat + 2)) < n ∧ z9 = (τ30 (4 * q.toNat + 1)) - (τ30 (4 * q.toNat + 2))) ∨ (¬ (τ30 (4 * q.toNat + 1)) - (τ30 (4 * q.toNat + 2)) < n ∧ z9 = n)) := zmine _ _
        refine zr_mmin X 49 (mz43) w2 w3 w4 w5 (by decide) (Nat.le_of_ble_eq_true rfl) (by omega) (by omega) mz43e dX8_write__46 rfl ?_
        clear mz43e
        refine zr_istore X 51 [(5, .int (zI (mz43))), (4, .ref (md (70 + q.toNat))), (0, .ref (c 60)), (1, .int (zI (q))), (2, .int (zI (x))), (3, .int (zI (n)))] dX8_write__49 rfl (by decide) rfl ?_
        refine zr_iconst X 52 dX8_write__51 rfl ?_
        refine zr_istore X 54 [(6, .int (zI (0))), (5, .int (zI (mz43))), (4, .ref (md (70 + q.toNat))), (0, .ref (c 60)), (1, .int (zI (q))), (2, .int (zI (x))), (3, .int (zI (n)))] dX8_write__52 rfl (by decide) rfl ?_
        refine zr_sub [0, 1, 2, 6, 5, 4, 3] [(6, .int (zI (0))), (5, .int (zI (mz43))), (4, .ref (md (70 + q.toNat))), (3, .int (zI (n))), (2, .int (zI (x))), (1, .int (zI (q))), (0, .ref (c 60))] rfl ?_
        have loop : ∀ (N : Nat) (V1 : zV) (τ1 : Nat → Int) (k : Int), zMo Γ V1 c md τ1 κ E ∧ zfm V V1 ∧ τ1 = zly (zw4 τ30 q.toNat (τ30 (4 * q.toNat)) (τ30 (4 * q.toNat + 1)) (τ30 (4 * q.toNat + 2) + k) (τ30 (4 * q.toNat + 3))) (zTp (τ30 (40 + q.toNat) + τ30 (4 * q.toNat + 2))) (k).toNat (fun j => 97 + zlt x j % 3) ∧ 0 ≤ k ∧ (k ≤ mz43 ∨ k = 0) → (mz43 - k).toNat = N → zG C V1 0 0 54 [(6, .int (zI (k))), (5, .int (zI (mz43))), (4, .ref (md (70 + q.toNat))), (3, .int (zI (n))), (2, .int (zI (x))), (1, .int (zI (q))), (0, .ref (c 60))] [] := by
          intro N
          induction N using Nat.strongRecOn with
          | _ N ih =>
          intro V1 τ1 k hI hN
          obtain ⟨hI1, hI2, hI3, hI4, hI5⟩ := id hI
          have nn44 : 0 ≤ κ 0 ∧ κ 0 ≤ κ 1 ∧ κ 0 ≤ E ∧ κ 1 ≤ 7000 := hI1.n.1
          have fq0 : τ1 (4 * q.toNat) = τ30 (4 * q.toNat) := by rw [hI3]; exact (zlyT_lo (by omega)).trans zw4_0
          have fq1 : τ1 (4 * q.toNat + 1) = τ30 (4 * q.toNat + 1) := by rw [hI3]; exact (zlyT_lo (by omega)).trans zw4_1
          have fq2 : τ1 (4 * q.toNat + 2) = τ30 (4 * q.toNat + 2) + k := by rw [hI3]; exact (zlyT_lo (by omega)).trans zw4_2
          have fq3 : τ1 (4 * q.toNat + 3) = τ30 (4 * q.toNat + 3) := by rw [hI3]; exact (zlyT_lo (by omega)).trans zw4_3
          have fqs : τ1 (40 + q.toNat) = τ30 (40 + q.toNat) := by rw [hI3, zlyT_lo (by omega), zw4_hi (by omega) (by omega)]
          have gqs : 0 ≤ τ30 (40 + q.toNat) := by rw [← fqs, ← hI1.ct.2.2.1.2 q.toNat (by omega)]; exact (hI1.w (i := q.toNat) (by omega)).rg.1
          refine zr_iload X 56 0 dX8_write__54 rfl rfl ?_
          refine zr_iload X 58 1 dX8_write__56 rfl rfl ?_
          refine zr_icmp_ge X 79 61 dX8_write__58 rfl rfl (by omega) (by omega) (fun bq45 => ?_) (fun bq45 => ?_)
          · refine zr_aload_n X 80 6 dX8_write__79 rfl rfl ?_
            refine zr_iload X 82 1 dX8_write__80 rfl rfl ?_
            refine zr_callVe (kc' := 0) (ks' := 0) X 85 1 (m_X8_done l Γ hI1) gX8_write__X8_done rfl (by decide +kernel) rfl (by decide) ⟨_, _, hI1.1⟩ rfl rfl (Nat.le_of_ble_eq_true rfl) dX8_write__82 rfl (by omega) (by omega) (fun rv46 V47 hp48 => ?_)
            obtain ⟨hp48e, hp48m, hp48g⟩ := hp48
            rw [hp48e]
            have fx49 : zfm V V47 := zag.tr hI2 (hp48g.mono (fun t ht => by omega))
            obtain ⟨τ50, τ50e⟩ : ∃ zz9 : Nat → Int, zz9 = zdn τ1 := ⟨_, rfl⟩
            rw [← τ50e] at hp48m
            have τ50_q0 : τ50 (4 * q.toNat) = τ1 (4 * q.toNat) := by rw [τ50e]; exact zdn_ne (by omega)
            have τ50_q1 : τ50 (4 * q.toNat + 1) = τ1 (4 * q.toNat + 1) := by rw [τ50e]; exact zdn_ne (by omega)
            have τ50_q2 : τ50 (4 * q.toNat + 2) = τ1 (4 * q.toNat + 2) := by rw [τ50e]; exact zdn_ne (by omega)
            have τ50_q3 : τ50 (4 * q.toNat + 3) = τ1 (4 * q.toNat + 3) := by rw [τ50e]; exact zdn_ne (by omega)
            show zG C V47 0 0 85 [(6, .int (zI (k))), (5, .int (zI (mz43))), (4, .ref (md (70 + q.toNat))), (3, .int (zI (n))), (2, .int (zI (x))), (1, .int (zI (q))), (0, .ref (c 60))] [.int (zI (mz43))]
            exact zr_iret X rfl ⟨mz43, md, τ50, κ, rfl, hp48m.le (by omega), fx49, Or.inr (Or.inr ⟨by omega, by omega, ⟨by omega, by omega, by omega, by omega, by rw [show mz43 = k by omega]; exact (by rw [τ50e, hI3, τ30e])⟩⟩)⟩ dX8_write__85
          · refine zr_aload_n X 62 6 dX8_write__61 rfl rfl ?_
            refine zr_aload X 64 2 dX8_write__62 rfl rfl ?_
            refine zr_iload_n X 65 4 dX8_write__64 rfl rfl ?_
            refine zr_iload X 67 0 dX8_write__65 rfl rfl ?_
            refine zr_callS (kc' := 0) (ks' := 0) X 70 2 (m_X8_letter l Γ (V := V1) (x := x) (k := k) (by omega) (by omega)) gX8_write__X8_letter rfl (by decide +kernel) rfl (by decide) rfl (Nat.le_of_ble_eq_true rfl) dX8_write__67 rfl (by omega) (by omega) (fun rv51 V52 hp53 => ?_)
            obtain ⟨⟨y54, y54e, y54a, y54b, y54c⟩, y54v⟩ := hp53
            rw [y54e, y54v]
            show zG C V1 0 0 70 [(6, .int (zI (k))), (5, .int (zI (mz43))), (4, .ref (md (70 + q.toNat))), (3, .int (zI (n))), (2, .int (zI (x))), (1, .int (zI (q))), (0, .ref (c 60))] [.int (zI (y54)), .ref (md (70 + q.toNat)), .ref (c 60)]
            have hw56 := hI1.w (i := q.toNat) (by omega)
            have hw56r := hw56.rg
            refine zr_callVe (kc' := 0) (ks' := 0) X 73 2 (m_X8_write l Γ (i := q) (x := y54) hI1 (by omega) (by omega) (by omega)) gX8_write__X8_write rfl (by decide +kernel) rfl (by decide) ⟨_, _, hI1.1⟩ rfl rfl (Nat.le_of_ble_eq_true rfl) dX8_write__70 rfl (by omega) (by omega) (fun rv57 V58 hp59 => ?_)
            obtain ⟨hp59e, hp59m, hp59g⟩ := hp59
            rw [hp59e]
            have fx60 : zfm V V58 := zag.tr hI2 (hp59g.mono (fun t ht => by omega))
            obtain ⟨τ61, τ61e⟩ : ∃ zz9 : Nat → Int, zz9 = zf (zw4 τ1 q.toNat (τ1 (4 * q.toNat)) (τ1 (4 * q.toNat + 1)) (τ1 (4 * q.toNat + 2) + 1) (τ1 (4 * q.toNat + 3))) (zTp (τ1 (40 + q.toNat) + τ1 (4 * q.toNat + 2))) (y54) := ⟨_, rfl⟩
            rw [← τ61e] at hp59m
            have τ61_q0 : τ61 (4 * q.toNat) = τ1 (4 * q.toNat) := by rw [τ61e]; exact (zfT_lo (by omega)).trans (zw4_0)
            have τ61_q1 : τ61 (4 * q.toNat + 1) = τ1 (4 * q.toNat + 1) := by rw [τ61e]; exact (zfT_lo (by omega)).trans (zw4_1)
            have τ61_q2 : τ61 (4 * q.toNat + 2) = τ1 (4 * q.toNat + 2) + 1 := by rw [τ61e]; exact (zfT_lo (by omega)).trans (zw4_2)
            have τ61_q3 : τ61 (4 * q.toNat + 3) = τ1 (4 * q.toNat + 3) := by rw [τ61e]; exact (zfT_lo (by omega)).trans (zw4_3)
            show zG C V58 0 0 73 [(6, .int (zI (k))), (5, .int (zI (mz43))), (4, .ref (md (70 + q.toNat))), (3, .int (zI (n))), (2, .int (zI (x))), (1, .int (zI (q))), (0, .ref (c 60))] []
            refine zr_iinc X 76 0 [(6, .int (zI (k + 1))), (5, .int (zI (mz43))), (4, .ref (md (70 + q.toNat))), (3, .int (zI (n))), (2, .int (zI (x))), (1, .int (zI (q))), (0, .ref (c 60))] dX8_write__73 rfl rfl (by decide) rfl ?_
            refine zr_goto X 54 dX8_write__76 rfl ?_
            exact ih _ (by omega) V58 τ61 (k + 1) ⟨hp59m, fx60, by rw [← Int.add_assoc, τ61e, fq2, fq0, fq1, fq3, fqs, hI3]; exact zwl_step (by omega) (by omega) (by omega) (by omega) (y54c), by omega, by omega⟩ rfl
        exact loop _ V23 τ30 0 ⟨hp24m, fx29, (by rw [Int.add_zero]; show _ = zly _ _ 0 _; rw [zly_0]; exact zw4_id.symm), by omega, by omega⟩ rfl
    · refine zr_iconst X 20 dX8_write__19 rfl ?_
      refine zr_goto X 24 dX8_write__20 rfl ?_
      refine zr_callVe (kc' := 0) (ks' := 0) X 27 2 (m_X8_isThrown l Γ hM (a := no5) (b := 1) (by omega) (by omega)) gX8_write__X8_isThrown rfl (by decide +kernel) rfl (by decide) ⟨_, _, hM.1⟩ rfl rfl (Nat.le_of_ble_eq_true rfl) dX8_write__24 rfl (by omega) (by omega) (fun rv62 V63 hp64 => ?_)
      obtain ⟨⟨hp64x, hp64k, hp64e, hp64c, hp64m⟩, hp64g⟩ := hp64
      rw [hp64e]
      rcases hp64c with ⟨tc65a, tc65k, tc65x⟩ | ⟨tc65a, tc65b, tc65k, tc65x⟩ | ⟨tc65a, tc65b, tc65k, tc65x⟩
      · skip
        subst tc65k tc65x
        have fx66 : zfm V V63 := (hp64g.mono (fun t ht => by omega))
        obtain ⟨τ67, τ67e⟩ : ∃ zz9 : Nat → Int, zz9 = zf τ 36 1 := ⟨_, rfl⟩
        rw [← τ67e] at hp64m
        show zG C V63 0 0 27 [(0, .ref (c 60)), (1, .int (zI (q))), (2, .int (zI (x))), (3, .int (zI (n)))] [.int (zI (1))]
        refine zr_if_eq X 32 30 dX8_write__27 rfl rfl (by omega) (fun bq68 => absurd bq68 (by omega)) (fun bq68 => ?_)
        refine zr_iconst X 31 dX8_write__30 rfl ?_
        exact zr_iret X rfl ⟨0, md, τ67, κ, rfl, hp64m.le (by omega), fx66, Or.inl ⟨by omega, rfl, by rw [τ67e]⟩⟩ dX8_write__31
      · skip
        subst tc65k tc65x
        have fx69 : zfm V V63 := (hp64g.mono (fun t ht => by omega))
        obtain ⟨τ70, τ70e⟩ : ∃ zz9 : Nat → Int, zz9 = zf τ 36 2 := ⟨_, rfl⟩
        rw [← τ70e] at hp64m
        show zG C V63 0 0 27 [(0, .ref (c 60)), (1, .int (zI (q))), (2, .int (zI (x))), (3, .int (zI (n)))] [.int (zI (1))]
        refine zr_if_eq X 32 30 dX8_write__27 rfl rfl (by omega) (fun bq71 => absurd bq71 (by omega)) (fun bq71 => ?_)
        refine zr_iconst X 31 dX8_write__30 rfl ?_
        exact zr_iret X rfl ⟨0, md, τ70, κ, rfl, hp64m.le (by omega), fx69, Or.inr (Or.inl ⟨by omega, by omega, rfl, by rw [τ70e]⟩)⟩ dX8_write__31
      · exact absurd tc65b (by decide)
