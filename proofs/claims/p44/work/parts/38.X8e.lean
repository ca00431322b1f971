/-! the model: the windows' calls, second half -/
theorem zmt_of {τ : Nat → Int} {i : Nat} (hi : i < 6) {c l p m s P : Int} {n : Nat} {g : Nat → Int} (hs : 0 ≤ s) (hP : 0 ≤ P) (hg : ∀ j, j < n → g j = τ (zTp (s + P + (j : Int)))) : zw4 (zly τ (zTp s) n g) i c l p m = zmt (zw4 τ i c l p m) s.toNat n P.toNat := by
  have hT : zTp s = 1000 + s.toNat := rfl
  funext j
  unfold zmt
  by_cases h : 1000 + s.toNat ≤ j ∧ j < 1000 + s.toNat + n
  · rw [if_pos h, zw4_hi hi (by omega), zw4_hi hi (by omega)]
    unfold zly
    rw [if_pos (by omega), hg _ (by omega)]
    exact congrArg τ (by unfold zTp; omega)
  · rw [if_neg h]
    unfold zw4
    rw [zly_ne (by omega)]
set_option maxRecDepth 100000 in
set_option maxHeartbeats 4000000 in
theorem m_X8_rewind (l : Launch) (Γ : zGam) {V : zV} {c md : Nat → Nat} {τ κ : Nat → Int} {E : Int} {q : Int} (hM : zMo Γ V c md τ κ E) (hq : -2147483648 ≤ q ∧ q ≤ 2147483647) : zM l Γ 4 yX8_rewind wsX8_rewind 0 0 V [.ref (c 60), .int (zI (q))] (fun rv V' => ∃ (y : Int) (md' : Nat → Nat) (τ' κ' : Nat → Int), rv = some (.int (zI y)) ∧ zMo Γ V' c md' τ' κ' (E + 40) ∧ zfm V V' ∧ ((¬ (0 ≤ q ∧ q ≤ 5) ∧ y = 0 ∧ τ' = zf τ 36 1) ∨ ((0 ≤ q ∧ q ≤ 5) ∧ ¬ (True) ∧ y = 0 ∧ τ' = zf τ 36 2) ∨ ((0 ≤ q ∧ q ≤ 5) ∧ (True) ∧ (y = (zf τ 36 0) (4 * q.toNat + 1) - 0 ∧ τ' = zdn (zw4 (zf τ 36 0) q.toNat ((zf τ 36 0) (4 * q.toNat)) ((zf τ 36 0) (4 * q.toNat + 1)) 0 (-9)))))) := by
  have w0 : Cond.fieldLink RX8 14 "SashwordsModel" "windows" "[[I" ∈ wsX8_rewind := by decide +kernel
  have iX8 : ∀ w ∈ u_ws RX8 TX8 11, w ∈ wsX8_rewind := by decide +kernel
  refine zM_of (cc := cX8_rewind) (nL := 3) (ret := (some .int)) (own := RX8) (by decide +kernel) rfl rfl (Nat.le_of_ble_eq_true rfl) (fun C X hi0 => ?_)
  have nn1 : 0 ≤ κ 0 ∧ κ 0 ≤ κ 1 ∧ κ 0 ≤ E ∧ κ 1 ≤ 7000 := hM.n.1
  show zG C V 0 0 0 [(0, .ref (c 60)), (1, .int (zI (q)))] []
  refine zr_aload_n X 1 0 dX8_rewind_0 rfl rfl ?_
  refine zr_iload_n X 2 1 dX8_rewind_1 rfl rfl ?_
  refine zr_callS (kc' := 0) (ks' := 0) X 5 1 (m_X8_isNoWindow l Γ (V := V) (x := q) (by omega)) gX8_rewind_X8_isNoWindow rfl (by decide +kernel) rfl (by decide) rfl (Nat.le_of_ble_eq_true rfl) dX8_rewind_2 rfl (by omega) (by omega) (fun rv2 V3 hp4 => ?_)
  obtain ⟨⟨no5, no5e, no5a⟩, no5v⟩ := hp4
  rw [no5e, no5v]
  show zG C V 0 0 5 [(0, .ref (c 60)), (1, .int (zI (q)))] [.int (zI (no5)), .ref (c 60)]
  refine zr_iconst X 6 dX8_rewind_5 rfl ?_
  refine zr_callVe (kc' := 0) (ks' := 0) X 9 2 (m_X8_isThrown l Γ hM (a := no5) (b := 0) (by omega) (by omega)) gX8_rewind_X8_isThrown rfl (by decide +kernel) rfl (by decide) ⟨_, _, hM.1⟩ rfl rfl (Nat.le_of_ble_eq_true rfl) dX8_rewind_6 rfl (by omega) (by omega) (fun rv6 V7 hp8 => ?_)
  obtain ⟨⟨hp8x, hp8k, hp8e, hp8c, hp8m⟩, hp8g⟩ := hp8
  rw [hp8e]
  rcases hp8c with ⟨tc9a, tc9k, tc9x⟩ | ⟨tc9a, tc9b, tc9k, tc9x⟩ | ⟨tc9a, tc9b, tc9k, tc9x⟩
  · skip
    subst tc9k tc9x
    have fx10 : zfm V V7 := (hp8g.mono (fun t ht => by omega))
    obtain ⟨τ11, τ11e⟩ : ∃ zz9 : Nat → Int, zz9 = zf τ 36 1 := ⟨_, rfl⟩
    rw [← τ11e] at hp8m
    show zG C V7 0 0 9 [(0, .ref (c 60)), (1, .int (zI (q)))] [.int (zI (1))]
    refine zr_if_eq X 14 12 dX8_rewind_9 rfl rfl (by omega) (fun bq12 => absurd bq12 (by omega)) (fun bq12 => ?_)
    refine zr_iconst X 13 dX8_rewind_12 rfl ?_
    exact zr_iret X rfl ⟨0, md, τ11, κ, rfl, hp8m.le (by omega), fx10, Or.inl ⟨by omega, rfl, by rw [τ11e]⟩⟩ dX8_rewind_13
  · exact absurd tc9b (by decide)
  · skip
    subst tc9k tc9x
    have fx13 : zfm V V7 := (hp8g.mono (fun t ht => by omega))
    obtain ⟨τ14, τ14e⟩ : ∃ zz9 : Nat → Int, zz9 = zf τ 36 0 := ⟨_, rfl⟩
    rw [← τ14e] at hp8m
    show zG C V7 0 0 9 [(0, .ref (c 60)), (1, .int (zI (q)))] [.int (zI (0))]
    refine zr_if_eq X 14 12 dX8_rewind_9 rfl rfl (by omega) (fun bq15 => ?_) (fun bq15 => absurd bq15 (by omega))
    refine zr_aload_n X 15 0 dX8_rewind_14 rfl rfl ?_
    have c816 : V7 (c 60) = some (60, .inr (9, [.ref (md 61), .int (zI (κ 0)), .ref (c 62), .ref (md 63), .ref (md 64), .ref (c 65), .int (zI (τ14 26)), .int (zI (τ14 28)), .int (zI (τ14 29)), .ref (c 66), .int (zI (τ14 36))])) := hp8m.1
    refine zr_get X 18 9 2 c816 rfl iX8 (by decide) w0 rfl rfl dX8_rewind_15 rfl ?_
    refine zr_iload_n X 19 1 dX8_rewind_18 rfl rfl ?_
    have c817 : V7 (c 62) = some (62, zq Γ.2.1 4 6 (fun i => some (md (70 + i)))) := hp8m.2.2.1
    refine zr_aaldI X 20 (.ref (md (70 + q.toNat))) c817 (by omega) rfl dX8_rewind_19 rfl ?_
    refine zr_astore_n X 21 [(2, .ref (md (70 + q.toNat))), (0, .ref (c 60)), (1, .int (zI (q)))] dX8_rewind_20 rfl (by decide) rfl ?_
    refine zr_aload_n X 22 0 dX8_rewind_21 rfl rfl ?_
    refine zr_iconst X 23 dX8_rewind_22 rfl ?_
    refine zr_aload_n X 24 0 dX8_rewind_23 rfl rfl ?_
    refine zr_iconst X 25 dX8_rewind_24 rfl ?_
    have hw19 := hp8m.w (i := q.toNat) (by omega)
    have hw19r := hw19.rg
    have z020 : (zf τ 36 0) (4 * q.toNat) = τ14 (4 * q.toNat) := by rw [τ14e]
    have z021 : (zf τ 36 0) (4 * q.toNat + 1) = τ14 (4 * q.toNat + 1) := by rw [τ14e]
    have z022 : (zf τ 36 0) (4 * q.toNat + 2) = τ14 (4 * q.toNat + 2) := by rw [τ14e]
    have z023 : (zf τ 36 0) (4 * q.toNat + 3) = τ14 (4 * q.toNat + 3) := by rw [τ14e]
    refine zr_iald X 26 hw19.1 (by omega) dX8_rewind_25 rfl ?_
    show zG C V7 0 0 26 [(2, .ref (md (70 + q.toNat))), (0, .ref (c 60)), (1, .int (zI (q)))] [.int (zI (τ14 (4 * q.toNat + 1))), .int (zI (0)), .ref (md (70 + q.toNat))]
    refine zr_iconst X 27 dX8_rewind_26 rfl ?_
    refine zr_callS (kc' := 0) (ks' := 0) X 30 4 (m_X8_place l Γ (p1 := 0) (l1 := τ14 (4 * q.toNat + 1)) (m1 := -1) hw19.1 (by omega)) gX8_rewind_X8_place rfl (by decide +kernel) rfl (by decide) rfl (Nat.le_of_ble_eq_true rfl) dX8_rewind_27 rfl (by omega) (by omega) (fun rv24 V25 hp26 => ?_)
    rw [hp26.1, hp26.2]
    obtain ⟨cm27h, cm27f⟩ := hp8m.setW (i := q.toNat) (by omega) (τ14 (4 * q.toNat + 1)) (0) (-9) (-1) ⟨by omega, by omega, by omega, (Or.inl ⟨rfl, rfl⟩), by omega⟩
    obtain ⟨cm27V, cm27e⟩ : ∃ zz9 : zV, zz9 = (zu V7 (md (70 + q.toNat)) (70 + q.toNat) (za Γ.2.1 0 5 (zr5 (κ (10 + q.toNat)) (τ14 (4 * q.toNat)) (τ14 (4 * q.toNat + 1)) 0 (-1)))) := ⟨_, rfl⟩
    obtain ⟨κ28, κ28e⟩ : ∃ zz9 : Nat → Int, zz9 = zf κ (20 + q.toNat) (-1) := ⟨_, rfl⟩
    have cm27m : zMo Γ cm27V c md (zw4 τ14 q.toNat (τ14 (4 * q.toNat)) (τ14 (4 * q.toNat + 1)) (0) (-9)) κ28 E := by
      rw [κ28e, cm27e]
      exact cm27h
    have cm27g : zag (fun x => x ≠ 70 + q.toNat) V7 cm27V := by
      rw [cm27e]
      exact cm27f
    refine zr_view (cm27e).symm ?_
    have fx29 : zfm V cm27V := zag.tr fx13 (cm27g.mono (fun t ht => by omega))
    obtain ⟨τ30, τ30e⟩ : ∃ zz9 : Nat → Int, zz9 = zw4 τ14 q.toNat (τ14 (4 * q.toNat)) (τ14 (4 * q.toNat + 1)) (0) (-9) := ⟨_, rfl⟩
    rw [← τ30e] at cm27m
    have τ30_q0 : τ30 (4 * q.toNat) = τ14 (4 * q.toNat) := by rw [τ30e]; exact zw4_0
    have τ30_q1 : τ30 (4 * q.toNat + 1) = τ14 (4 * q.toNat + 1) := by rw [τ30e]; exact zw4_1
    have τ30_q2 : τ30 (4 * q.toNat + 2) = 0 := by rw [τ30e]; exact zw4_2
    have τ30_q3 : τ30 (4 * q.toNat + 3) = -9 := by rw [τ30e]; exact zw4_3
    show zG C cm27V 0 0 30 [(2, .ref (md (70 + q.toNat))), (0, .ref (c 60)), (1, .int (zI (q)))] []
    show zG C cm27V 0 0 30 [(2, .ref (md (70 + q.toNat))), (0, .ref (c 60)), (1, .int (zI (q)))] []
    refine zr_aload_n X 31 1 dX8_rewind_30 rfl rfl ?_
    refine zr_aload_n X 32 0 dX8_rewind_31 rfl rfl ?_
    have hw32 := cm27m.w (i := q.toNat) (by omega)
    have hw32r := hw32.rg
    refine zr_callS (kc' := 0) (ks' := 0) X 35 1 (m_X8_length l Γ hw32.1 (by omega)) gX8_rewind_X8_length rfl (by decide +kernel) rfl (by decide) rfl (Nat.le_of_ble_eq_true rfl) dX8_rewind_32 rfl (by omega) (by omega) (fun rv33 V34 hp35 => ?_)
    rw [hp35.1, hp35.2]
    show zG C cm27V 0 0 35 [(2, .ref (md (70 + q.toNat))), (0, .ref (c 60)), (1, .int (zI (q)))] [.int (zI ((τ30 (4 * q.toNat + 1)) - (τ30 (4 * q.toNat + 2)))), .ref (c 60)]
    refine zr_callVe (kc' := 0) (ks' := 0) X 38 1 (m_X8_done l Γ cm27m) gX8_rewind_X8_done rfl (by decide +kernel) rfl (by decide) ⟨_, _, cm27m.1⟩ rfl rfl (Nat.le_of_ble_eq_true rfl) dX8_rewind_35 rfl (by omega) (by omega) (fun rv36 V37 hp38 => ?_)
    obtain ⟨hp38e, hp38m, hp38g⟩ := hp38
    rw [hp38e]
    have fx39 : zfm V V37 := zag.tr fx29 (hp38g.mono (fun t ht => by omega))
    obtain ⟨τ40, τ40e⟩ : ∃ zz9 : Nat → Int, zz9 = zdn τ30 := ⟨_, rfl⟩
    rw [← τ40e] at hp38m
    have τ40_q0 : τ40 (4 * q.toNat) = τ30 (4 * q.toNat) := by rw [τ40e]; exact zdn_ne (by omega)
    have τ40_q1 : τ40 (4 * q.toNat + 1) = τ30 (4 * q.toNat + 1) := by rw [τ40e]; exact zdn_ne (by omega)
    have τ40_q2 : τ40 (4 * q.toNat + 2) = τ30 (4 * q.toNat + 2) := by rw [τ40e]; exact zdn_ne (by omega)
    have τ40_q3 : τ40 (4 * q.toNat + 3) = τ30 (4 * q.toNat + 3) := by rw [τ40e]; exact zdn_ne (by omega)
    show zG C V37 0 0 38 [(2, .ref (md (70 + q.toNat))), (0, .ref (c 60)), (1, .int (zI (q)))] [.int (zI ((τ30 (4 * q.toNat + 1)) - (τ30 (4 * q.toNat + 2))))]
    exact zr_iret X rfl ⟨(τ30 (4 * q.toNat + 1)) - (τ30 (4 * q.toNat + 2)), md, τ40, κ28, rfl, hp38m.le (by omega), fx39, Or.inr (Or.inr ⟨by omega, trivial, ⟨by omega, by rw [τ40e, τ30e, τ14e]⟩⟩)⟩ dX8_rewind_38
set_option maxRecDepth 100000 in
set_option maxHeartbeats 4000000 in
theorem m_X8_flip (l : Launch) (Γ : zGam) {V : zV} {c md : Nat → Nat} {τ κ : Nat → Int} {E : Int} {q : Int} (hM : zMo Γ V c md τ κ E) (hq : -2147483648 ≤ q ∧ q ≤ 2147483647) : zM l Γ 4 yX8_flip wsX8_flip 0 0 V [.ref (c 60), .int (zI (q))] (fun rv V' => ∃ (y : Int) (md' : Nat → Nat) (τ' κ' : Nat → Int), rv = some (.int (zI y)) ∧ zMo Γ V' c md' τ' κ' (E + 40) ∧ zfm V V' ∧ ((¬ (0 ≤ q ∧ q ≤ 5) ∧ y = 0 ∧ τ' = zf τ 36 1) ∨ ((0 ≤ q ∧ q ≤ 5) ∧ ¬ (True) ∧ y = 0 ∧ τ' = zf τ 36 2) ∨ ((0 ≤ q ∧ q ≤ 5) ∧ (True) ∧ (y = (zf τ 36 0) (4 * q.toNat + 2) - 0 ∧ τ' = zdn (zw4 (zf τ 36 0) q.toNat ((zf τ 36 0) (4 * q.toNat)) ((zf τ 36 0) (4 * q.toNat + 2)) 0 (-9)))))) := by
  have w0 : Cond.fieldLink RX8 14 "SashwordsModel" "windows" "[[I" ∈ wsX8_flip := by decide +kernel
  have iX8 : ∀ w ∈ u_ws RX8 TX8 11, w ∈ wsX8_flip := by decide +kernel
  refine zM_of (cc := cX8_flip) (nL := 3) (ret := (some .int)) (own := RX8) (by decide +kernel) rfl rfl (Nat.le_of_ble_eq_true rfl) (fun C X hi0 => ?_)
  have nn1 : 0 ≤ κ 0 ∧ κ 0 ≤ κ 1 ∧ κ 0 ≤ E ∧ κ 1 ≤ 7000 := hM.n.1
  show zG C V 0 0 0 [(0, .ref (c 60)), (1, .int (zI (q)))] []
  refine zr_aload_n X 1 0 dX8_flip_0 rfl rfl ?_
  refine zr_iload_n X 2 1 dX8_flip_1 rfl rfl ?_
  refine zr_callS (kc' := 0) (ks' := 0) X 5 1 (m_X8_isNoWindow l Γ (V := V) (x := q) (by omega)) gX8_flip_X8_isNoWindow rfl (by decide +kernel) rfl (by decide) rfl (Nat.le_of_ble_eq_true rfl) dX8_flip_2 rfl (by omega) (by omega) (fun rv2 V3 hp4 => ?_)
  obtain ⟨⟨no5, no5e, no5a⟩, no5v⟩ := hp4
  rw [no5e, no5v]
  show zG C V 0 0 5 [(0, .ref (c 60)), (1, .int (zI (q)))] [.int (zI (no5)), .ref (c 60)]
  refine zr_iconst X 6 dX8_flip_5 rfl ?_
  refine zr_callVe (kc' := 0) (ks' := 0) X 9 2 (m_X8_isThrown l Γ hM (a := no5) (b := 0) (by omega) (by omega)) gX8_flip_X8_isThrown rfl (by decide +kernel) rfl (by decide) ⟨_, _, hM.1⟩ rfl rfl (Nat.le_of_ble_eq_true rfl) dX8_flip_6 rfl (by omega) (by omega) (fun rv6 V7 hp8 => ?_)
  obtain ⟨⟨hp8x, hp8k, hp8e, hp8c, hp8m⟩, hp8g⟩ := hp8
  rw [hp8e]
  rcases hp8c with ⟨tc9a, tc9k, tc9x⟩ | ⟨tc9a, tc9b, tc9k, tc9x⟩ | ⟨tc9a, tc9b, tc9k, tc9x⟩
  · skip
    subst tc9k tc9x
    have fx10 : zfm V V7 := (hp8g.mono (fun t ht => by omega))
    obtain ⟨τ11, τ11e⟩ : ∃ zz9 : Nat → Int, zz9 = zf τ 36 1 := ⟨_, rfl⟩
    rw [← τ11e] at hp8m
    show zG C V7 0 0 9 [(0, .ref (c 60)), (1, .int (zI (q)))] [.int (zI (1))]
    refine zr_if_eq X 14 12 dX8_flip_9 rfl rfl (by omega) (fun bq12 => absurd bq12 (by omega)) (fun bq12 => ?_)
    refine zr_iconst X 13 dX8_flip_12 rfl ?_
    exact zr_iret X rfl ⟨0, md, τ11, κ, rfl, hp8m.le (by omega), fx10, Or.inl ⟨by omega, rfl, by rw [τ11e]⟩⟩ dX8_flip_13
  · exact absurd tc9b (by decide)
  · skip
    subst tc9k tc9x
    have fx13 : zfm V V7 := (hp8g.mono (fun t ht => by omega))
    obtain ⟨τ14, τ14e⟩ : ∃ zz9 : Nat → Int, zz9 = zf τ 36 0 := ⟨_, rfl⟩
    rw [← τ14e] at hp8m
    show zG C V7 0 0 9 [(0, .ref (c 60)), (1, .int (zI (q)))] [.int (zI (0))]
    refine zr_if_eq X 14 12 dX8_flip_9 rfl rfl (by omega) (fun bq15 => ?_) (fun bq15 => absurd bq15 (by omega))
    refine zr_aload_n X 15 0 dX8_flip_14 rfl rfl ?_
    have c816 : V7 (c 60) = some (60, .inr (9, [.ref (md 61), .int (zI (κ 0)), .ref (c 62), .ref (md 63), .ref (md 64), .ref (c 65), .int (zI (τ14 26)), .int (zI (τ14 28)), .int (zI (τ14 29)), .ref (c 66), .int (zI (τ14 36))])) := hp8m.1
    refine zr_get X 18 9 2 c816 rfl iX8 (by decide) w0 rfl rfl dX8_flip_15 rfl ?_
    refine zr_iload_n X 19 1 dX8_flip_18 rfl rfl ?_
    have c817 : V7 (c 62) = some (62, zq Γ.2.1 4 6 (fun i => some (md (70 + i)))) := hp8m.2.2.1
    refine zr_aaldI X 20 (.ref (md (70 + q.toNat))) c817 (by omega) rfl dX8_flip_19 rfl ?_
    refine zr_astore_n X 21 [(2, .ref (md (70 + q.toNat))), (0, .ref (c 60)), (1, .int (zI (q)))] dX8_flip_20 rfl (by decide) rfl ?_
    refine zr_aload_n X 22 0 dX8_flip_21 rfl rfl ?_
    refine zr_iconst X 23 dX8_flip_22 rfl ?_
    refine zr_aload_n X 24 0 dX8_flip_23 rfl rfl ?_
    refine zr_iconst X 25 dX8_flip_24 rfl ?_
    have hw19 := hp8m.w (i := q.toNat) (by omega)
    have hw19r := hw19.rg
    have z020 : (zf τ 36 0) (4 * q.toNat) = τ14 (4 * q.toNat) := by rw [τ14e]
    have z021 : (zf τ 36 0) (4 * q.toNat + 1) = τ14 (4 * q.toNat + 1) := by rw [τ14e]
    have z022 : (zf τ 36 0) (4 * q.toNat + 2) = τ14 (4 * q.toNat + 2) := by rw [τ14e]
    have z023 : (zf τ 36 0) (4 * q.toNat + 3) = τ14 (4 * q.toNat + 3) := by rw [τ14e]
    refine zr_iald X 26 hw19.1 (by omega) dX8_flip_25 rfl ?_
    show zG C V7 0 0 26 [(2, .ref (md (70 + q.toNat))), (0, .ref (c 60)), (1, .int (zI (q)))] [.int (zI (τ14 (4 * q.toNat + 2))), .int (zI (0)), .ref (md (70 + q.toNat))]
    refine zr_iconst X 27 dX8_flip_26 rfl ?_
    refine zr_callS (kc' := 0) (ks' := 0) X 30 4 (m_X8_place l Γ (p1 := 0) (l1 := τ14 (4 * q.toNat + 2)) (m1 := -1) hw19.1 (by omega)) gX8_flip_X8_place rfl (by decide +kernel) rfl (by decide) rfl (Nat.le_of_ble_eq_true rfl) dX8_flip_27 rfl (by omega) (by omega) (fun rv24 V25 hp26 => ?_)
    rw [hp26.1, hp26.2]
    obtain ⟨cm27h, cm27f⟩ := hp8m.setW (i := q.toNat) (by omega) (τ14 (4 * q.toNat + 2)) (0) (-9) (-1) ⟨by omega, by omega, by omega, (Or.inl ⟨rfl, rfl⟩), by omega⟩
    obtain ⟨cm27V, cm27e⟩ : ∃ zz9 : zV, zz9 = (zu V7 (md (70 + q.toNat)) (70 + q.toNat) (za Γ.2.1 0 5 (zr5 (κ (10 + q.toNat)) (τ14 (4 * q.toNat)) (τ14 (4 * q.toNat + 2)) 0 (-1)))) := ⟨_, rfl⟩
    obtain ⟨κ28, κ28e⟩ : ∃ zz9 : Nat → Int, zz9 = zf κ (20 + q.toNat) (-1) := ⟨_, rfl⟩
    have cm27m : zMo Γ cm27V c md (zw4 τ14 q.toNat (τ14 (4 * q.toNat)) (τ14 (4 * q.toNat + 2)) (0) (-9)) κ28 E := by
      rw [κ28e, cm27e]
      exact cm27h
    have cm27g : zag (fun x => x ≠ 70 + q.toNat) V7 cm27V := by
      rw [cm27e]
      exact cm27f
    refine zr_view (cm27e).symm ?_
    have fx29 : zfm V cm27V := zag.tr fx13 (cm27g.mono (fun t ht => by omega))
    obtain ⟨τ30, τ30e⟩ : ∃ zz9 : Nat → Int, zz9 = zw4 τ14 q.toNat (τ14 (4 * q.toNat)) (τ14 (4 * q.toNat + 2)) (0) (-9) := ⟨_, rfl⟩
    rw [← τ30e] at cm27m
    have τ30_q0 : τ30 (4 * q.toNat) = τ14 (4 * q.toNat) := by rw [τ30e]; exact zw4_0
    have τ30_q1 : τ30 (4 * q.toNat + 1) = τ14 (4 * q.toNat + 2) := by rw [τ30e]; exact zw4_1
    have τ30_q2 : τ30 (4 * q.toNat + 2) = 0 := by rw [τ30e]; exact zw4_2
    have τ30_q3 : τ30 (4 * q.toNat + 3) = -9 := by rw [τ30e]; exact zw4_3
    show zG C cm27V 0 0 30 [(2, .ref (md (70 + q.toNat))), (0, .ref (c 60)), (1, .int (zI (q)))] []
    show zG C cm27V 0 0 30 [(2, .ref (md (70 + q.toNat))), (0, .ref (c 60)), (1, .int (zI (q)))] []
    refine zr_aload_n X 31 1 dX8_flip_30 rfl rfl ?_
    refine zr_aload_n X 32 0 dX8_flip_31 rfl rfl ?_
    have hw32 := cm27m.w (i := q.toNat) (by omega)
    have hw32r := hw32.rg
    refine zr_callS (kc' := 0) (ks' := 0) X 35 1 (m_X8_length l Γ hw32.1 (by omega)) gX8_flip_X8_length rfl (by decide +kernel) rfl (by decide) rfl (Nat.le_of_ble_eq_true rfl) dX8_flip_32 rfl (by omega) (by omega) (fun rv33 V34 hp35 => ?_)
    rw [hp35.1, hp35.2]
    show zG C cm27V 0 0 35 [(2, .ref (md (70 + q.toNat))), (0, .ref (c 60)), (1, .int (zI (q)))] [.int (zI ((τ30 (4 * q.toNat + 1)) - (τ30 (4 * q.toNat + 2)))), .ref (c 60)]
    refine zr_callVe (kc' := 0) (ks' := 0) X 38 1 (m_X8_done l Γ cm27m) gX8_flip_X8_done rfl (by decide +kernel) rfl (by decide) ⟨_, _, cm27m.1⟩ rfl rfl (Nat.le_of_ble_eq_true rfl) dX8_flip_35 rfl (by omega) (by omega) (fun rv36 V37 hp38 => ?_)
    obtain ⟨hp38e, hp38m, hp38g⟩ := hp38
    rw [hp38e]
    have fx39 : zfm V V37 := zag.tr fx29 (hp38g.mono (fun t ht => by omega))
    obtain ⟨τ40, τ40e⟩ : ∃ zz9 : Nat → Int, zz9 = zdn τ30 := ⟨_, rfl⟩
    rw [← τ40e] at hp38m
    have τ40_q0 : τ40 (4 * q.toNat) = τ30 (4 * q.toNat) := by rw [τ40e]; exact zdn_ne (by omega)
    have τ40_q1 : τ40 (4 * q.toNat + 1) = τ30 (4 * q.toNat + 1) := by rw [τ40e]; exact zdn_ne (by omega)
    have τ40_q2 : τ40 (4 * q.toNat + 2) = τ30 (4 * q.toNat + 2) := by rw [τ40e]; exact zdn_ne (by omega)
    have τ40_q3 : τ40 (4 * q.toNat + 3) = τ30 (4 * q.toNat + 3) := by rw [τ40e]; exact zdn_ne (by omega)
    show zG C V37 0 0 38 [(2, .ref (md (70 + q.toNat))), (0, .ref (c 60)), (1, .int (zI (q)))] [.int (zI ((τ30 (4 * q.toNat + 1)) - (τ30 (4 * q.toNat + 2))))]
    exact zr_iret X rfl ⟨(τ30 (4 * q.toNat + 1)) - (τ30 (4 * q.toNat + 2)), md, τ40, κ28, rfl, hp38m.le (by omega), fx39, Or.inr (Or.inr ⟨by omega, trivial, ⟨by omega, by rw [τ40e, τ30e, τ14e]⟩⟩)⟩ dX8_flip_38
set_option maxRecDepth 100000 in
set_option maxHeartbeats 4000000 in
theorem m_X8_open (l : Launch) (Γ : zGam) {V : zV} {c md : Nat → Nat} {τ κ : Nat → Int} {E : Int} {q : Int} (hM : zMo Γ V c md τ κ E) (hq : -2147483648 ≤ q ∧ q ≤ 2147483647) : zM l Γ 4 yX8_open wsX8_open 0 0 V [.ref (c 60), .int (zI (q))] (fun rv V' => ∃ (y : Int) (md' : Nat → Nat) (τ' κ' : Nat → Int), rv = some (.int (zI y)) ∧ zMo Γ V' c md' τ' κ' (E + 40) ∧ zfm V V' ∧ ((¬ (0 ≤ q ∧ q ≤ 5) ∧ y = 0 ∧ τ' = zf τ 36 1) ∨ ((0 ≤ q ∧ q ≤ 5) ∧ ¬ (True) ∧ y = 0 ∧ τ' = zf τ 36 2) ∨ ((0 ≤ q ∧ q ≤ 5) ∧ (True) ∧ (y = (zf τ 36 0) (4 * q.toNat) - 0 ∧ τ' = zdn (zw4 (zf τ 36 0) q.toNat ((zf τ 36 0) (4 * q.toNat)) ((zf τ 36 0) (4 * q.toNat)) 0 (-9)))))) := by
  have w0 : Cond.fieldLink RX8 14 "SashwordsModel" "windows" "[[I" ∈ wsX8_open := by decide +kernel
  have iX8 : ∀ w ∈ u_ws RX8 TX8 11, w ∈ wsX8_open := by decide +kernel
  refine zM_of (cc := cX8_open) (nL := 3) (ret := (some .int)) (own := RX8) (by decide +kernel) rfl rfl (Nat.le_of_ble_eq_true rfl) (fun C X hi0 => ?_)
  have nn1 : 0 ≤ κ 0 ∧ κ 0 ≤ κ 1 ∧ κ 0 ≤ E ∧ κ 1 ≤ 7000 := hM.n.1
  show zG C V 0 0 0 [(0, .ref (c 60)), (1, .int (zI (q)))] []
  refine zr_aload_n X 1 0 dX8_open_0 rfl rfl ?_
  refine zr_iload_n X 2 1 dX8_open_1 rfl rfl ?_
  refine zr_callS (kc' := 0) (ks' := 0) X 5 1 (m_X8_isNoWindow l Γ (V := V) (x := q) (by omega)) gX8_open_X8_isNoWindow rfl (by decide +kernel) rfl (by decide) rfl (Nat.le_of_ble_eq_true rfl) dX8_open_2 rfl (by omega) (by omega) (fun rv2 V3 hp4 => ?_)
  obtain ⟨⟨no5, no5e, no5a⟩, no5v⟩ := hp4
  rw [no5e, no5v]
  show zG C V 0 0 5 [(0, .ref (c 60)), (1, .int (zI (q)))] [.int (zI (no5)), .ref (c 60)]
  refine zr_iconst X 6 dX8_open_5 rfl ?_
  refine zr_callVe (kc' := 0) (ks' := 0) X 9 2 (m_X8_isThrown l Γ hM (a := no5) (b := 0) (by omega) (by omega)) gX8_open_X8_isThrown rfl (by decide +kernel) rfl (by decide) ⟨_, _, hM.1⟩ rfl rfl (Nat.le_of_ble_eq_true rfl) dX8_open_6 rfl (by omega) (by omega) (fun rv6 V7 hp8 => ?_)
  obtain ⟨⟨hp8x, hp8k, hp8e, hp8c, hp8m⟩, hp8g⟩ := hp8
  rw [hp8e]
  rcases hp8c with ⟨tc9a, tc9k, tc9x⟩ | ⟨tc9a, tc9b, tc9k, tc9x⟩ | ⟨tc9a, tc9b, tc9k, tc9x⟩
  · skip
    subst tc9k tc9x
    have fx10 : zfm V V7 := (hp8g.mono (fun t ht => by omega))
    obtain ⟨τ11, τ11e⟩ : ∃ zz9 : Nat → Int, zz9 = zf τ 36 1 := ⟨_, rfl⟩
    rw [← τ11e] at hp8m
    show zG C V7 0 0 9 [(0, .ref (c 60)), (1, .int (zI (q)))] [.int (zI (1))]
    refine zr_if_eq X 14 12 dX8_open_9 rfl rfl (by omega) (fun bq12 => absurd bq12 (by omega)) (fun bq12 => ?_)
    refine zr_iconst X 13 dX8_open_12 rfl ?_
    exact zr_iret X rfl ⟨0, md, τ11, κ, rfl, hp8m.le (by omega), fx10, Or.inl ⟨by omega, rfl, by rw [τ11e]⟩⟩ dX8_open_13
  · exact absurd tc9b (by decide)
  · skip
    subst tc9k tc9x
    have fx13 : zfm V V7 := (hp8g.mono (fun t ht => by omega))
    obtain ⟨τ14, τ14e⟩ : ∃ zz9 : Nat → Int, zz9 = zf τ 36 0 := ⟨_, rfl⟩
    rw [← τ14e] at hp8m
    show zG C V7 0 0 9 [(0, .ref (c 60)), (1, .int (zI (q)))] [.int (zI (0))]
    refine zr_if_eq X 14 12 dX8_open_9 rfl rfl (by omega) (fun bq15 => ?_) (fun bq15 => absurd bq15 (by omega))
    refine zr_aload_n X 15 0 dX8_open_14 rfl rfl ?_
    have c816 : V7 (c 60) = some (60, .inr (9, [.ref (md 61), .int (zI (κ 0)), .ref (c 62), .ref (md 63), .ref (md 64), .ref (c 65), .int (zI (τ14 26)), .int (zI (τ14 28)), .int (zI (τ14 29)), .ref (c 66), .int (zI (τ14 36))])) := hp8m.1
    refine zr_get X 18 9 2 c816 rfl iX8 (by decide) w0 rfl rfl dX8_open_15 rfl ?_
    refine zr_iload_n X 19 1 dX8_open_18 rfl rfl ?_
    have c817 : V7 (c 62) = some (62, zq Γ.2.1 4 6 (fun i => some (md (70 + i)))) := hp8m.2.2.1
    refine zr_aaldI X 20 (.ref (md (70 + q.toNat))) c817 (by omega) rfl dX8_open_19 rfl ?_
    refine zr_astore_n X 21 [(2, .ref (md (70 + q.toNat))), (0, .ref (c 60)), (1, .int (zI (q)))] dX8_open_20 rfl (by decide) rfl ?_
    refine zr_aload_n X 22 0 dX8_open_21 rfl rfl ?_
    refine zr_iconst X 23 dX8_open_22 rfl ?_
    refine zr_aload_n X 24 0 dX8_open_23 rfl rfl ?_
    refine zr_iconst X 25 dX8_open_24 rfl ?_
    have hw19 := hp8m.w (i := q.toNat) (by omega)
    have hw19r := hw19.rg
    have z020 : (zf τ 36 0) (4 * q.toNat) = τ14 (4 * q.toNat) := by rw [τ14e]
    have z021 : (zf τ 36 0) (4 * q.toNat + 1) = τ14 (4 * q.toNat + 1) := by rw [τ14e]
    have z022 : (zf τ 36 0) (4 * q.toNat + 2) = τ14 (4 * q.toNat + 2) := by rw [τ14e]
    have z023 : (zf τ 36 0) (4 * q.toNat + 3) = τ14 (4 * q.toNat + 3) := by rw [τ14e]
    refine zr_iald X 26 hw19.1 (by omega) dX8_open_25 rfl ?_
    show zG C V7 0 0 26 [(2, .ref (md (70 + q.toNat))), (0, .ref (c 60)), (1, .int (zI (q)))] [.int (zI (τ14 (4 * q.toNat))), .int (zI (0)), .ref (md (70 + q.toNat))]
    refine zr_iconst X 27 dX8_open_26 rfl ?_
    refine zr_callS (kc' := 0) (ks' := 0) X 30 4 (m_X8_place l Γ (p1 := 0) (l1 := τ14 (4 * q.toNat)) (m1 := -1) hw19.1 (by omega)) gX8_open_X8_place rfl (by decide +kernel) rfl (by decide) rfl (Nat.le_of_ble_eq_true rfl) dX8_open_27 rfl (by omega) (by omega) (fun rv24 V25 hp26 => ?_)
    rw [hp26.1, hp26.2]
    obtain ⟨cm27h, cm27f⟩ := hp8m.setW (i := q.toNat) (by omega) (τ14 (4 * q.toNat)) (0) (-9) (-1) ⟨by omega, by omega, by omega, (Or.inl ⟨rfl, rfl⟩), by omega⟩
    obtain ⟨cm27V, cm27e⟩ : ∃ zz9 : zV, zz9 = (zu V7 (md (70 + q.toNat)) (70 + q.toNat) (za Γ.2.1 0 5 (zr5 (κ (10 + q.toNat)) (τ14 (4 * q.toNat)) (τ14 (4 * q.toNat)) 0 (-1)))) := ⟨_, rfl⟩
    obtain ⟨κ28, κ28e⟩ : ∃ zz9 : Nat → Int, zz9 = zf κ (20 + q.toNat) (-1) := ⟨_, rfl⟩
    have cm27m : zMo Γ cm27V c md (zw4 τ14 q.toNat (τ14 (4 * q.toNat)) (τ14 (4 * q.toNat)) (0) (-9)) κ28 E := by
      rw [κ28e, cm27e]
      exact cm27h
    have cm27g : zag (fun x => x ≠ 70 + q.toNat) V7 cm27V := by
      rw [cm27e]
      exact cm27f
    refine zr_view (cm27e).symm ?_
    have fx29 : zfm V cm27V := zag.tr fx13 (cm27g.mono (fun t ht => by omega))
    obtain ⟨τ30, τ30e⟩ : ∃ zz9 : Nat → Int, zz9 = zw4 τ14 q.toNat (τ14 (4 * q.toNat)) (τ14 (4 * q.toNat)) (0) (-9) := ⟨_, rfl⟩
    rw [← τ30e] at cm27m
    have τ30_q0 : τ30 (4 * q.toNat) = τ14 (4 * q.toNat) := by rw [τ30e]; exact zw4_0
    have τ30_q1 : τ30 (4 * q.toNat + 1) = τ14 (4 * q.toNat) := by rw [τ30e]; exact zw4_1
    have τ30_q2 : τ30 (4 * q.toNat + 2) = 0 := by rw [τ30e]; exact zw4_2
    have τ30_q3 : τ30 (4 * q.toNat + 3) = -9 := by rw [τ30e]; exact zw4_3
    show zG C cm27V 0 0 30 [(2, .ref (md (70 + q.toNat))), (0, .ref (c 60)), (1, .int (zI (q)))] []
    show zG C cm27V 0 0 30 [(2, .ref (md (70 + q.toNat))), (0, .ref (c 60)), (1, .int (zI (q)))] []
    refine zr_aload_n X 31 1 dX8_open_30 rfl rfl ?_
    refine zr_aload_n X 32 0 dX8_open_31 rfl rfl ?_
    have hw32 := cm27m.w (i := q.toNat) (by omega)
    have hw32r := hw32.rg
    refine zr_callS (kc' := 0) (ks' := 0) X 35 1 (m_X8_length l Γ hw32.1 (by omega)) gX8_open_X8_length rfl (by decide +kernel) rfl (by decide) rfl (Nat.le_of_ble_eq_true rfl) dX8_open_32 rfl (by omega) (by omega) (fun rv33 V34 hp35 => ?_)
    rw [hp35.1, hp35.2]
    show zG C cm27V 0 0 35 [(2, .ref (md (70 + q.toNat))), (0, .ref (c 60)), (1, .int (zI (q)))] [.int (zI ((τ30 (4 * q.toNat + 1)) - (τ30 (4 * q.toNat + 2)))), .ref (c 60)]
    refine zr_callVe (kc' := 0) (ks' := 0) X 38 1 (m_X8_done l Γ cm27m) gX8_open_X8_done rfl (by decide +kernel) rfl (by decide) ⟨_, _, cm27m.1⟩ rfl rfl (Nat.le_of_ble_eq_true rfl) dX8_open_35 rfl (by omega) (by omega) (fun rv36 V37 hp38 => ?_)
    obtain ⟨hp38e, hp38m, hp38g⟩ := hp38
    rw [hp38e]
    have fx39 : zfm V V37 := zag.tr fx29 (hp38g.mono (fun t ht => by omega))
    obtain ⟨τ40, τ40e⟩ : ∃ zz9 : Nat → Int, zz9 = zdn τ30 := ⟨_, rfl⟩
    rw [← τ40e] at hp38m
    have τ40_q0 : τ40 (4 * q.toNat) = τ30 (4 * q.toNat) := by rw [τ40e]; exact zdn_ne (by omega)
    have τ40_q1 : τ40 (4 * q.toNat + 1) = τ30 (4 * q.toNat + 1) := by rw [τ40e]; exact zdn_ne (by omega)
    have τ40_q2 : τ40 (4 * q.toNat + 2) = τ30 (4 * q.toNat + 2) := by rw [τ40e]; exact zdn_ne (by omega)
    have τ40_q3 : τ40 (4 * q.toNat + 3) = τ30 (4 * q.toNat + 3) := by rw [τ40e]; exact zdn_ne (by omega)
    show zG C V37 0 0 38 [(2, .ref (md (70 + q.toNat))), (0, .ref (c 60)), (1, .int (zI (q)))] [.int (zI ((τ30 (4 * q.toNat + 1)) - (τ30 (4 * q.toNat + 2))))]
    exact zr_iret X rfl ⟨(τ30 (4 * q.toNat + 1)) - (τ30 (4 * q.toNat + 2)), md, τ40, κ28, rfl, hp38m.le (by omega), fx39, Or.inr (Or.inr ⟨by omega, trivial, ⟨by omega, by rw [τ40e, τ30e, τ14e]⟩⟩)⟩ dX8_open_38
set_option maxRecDepth 100000 in
set_option maxHeartbeats 4000000 in
theorem m_X8_mark (l : Launch) (Γ : zGam) {V : zV} {c md : Nat → Nat} {τ κ : Nat → Int} {E : Int} {q : Int} (hM : zMo Γ V c md τ κ E) (hq : -2147483648 ≤ q ∧ q ≤ 2147483647) : zM l Γ 4 yX8_mark wsX8_mark 0 0 V [.ref (c 60), .int (zI (q))] (fun rv V' => ∃ (y : Int) (md' : Nat → Nat) (τ' κ' : Nat → Int), rv = some (.int (zI y)) ∧ zMo Γ V' c md' τ' κ' (E + 40) ∧ zfm V V' ∧ ((¬ (0 ≤ q ∧ q ≤ 5) ∧ y = 0 ∧ τ' = zf τ 36 1) ∨ ((0 ≤ q ∧ q ≤ 5) ∧ ¬ (True) ∧ y = 0 ∧ τ' = zf τ 36 2) ∨ ((0 ≤ q ∧ q ≤ 5) ∧ (True) ∧ (y = (zf τ 36 0) (4 * q.toNat + 2) ∧ τ' = zdn (zw4 (zf τ 36 0) q.toNat ((zf τ 36 0) (4 * q.toNat)) ((zf τ 36 0) (4 * q.toNat + 1)) ((zf τ 36 0) (4 * q.toNat + 2)) ((zf τ 36 0) (4 * q.toNat + 2))))))) := by
  have w0 : Cond.fieldLink RX8 14 "SashwordsModel" "windows" "[[I" ∈ wsX8_mark := by decide +kernel
  have iX8 : ∀ w ∈ u_ws RX8 TX8 11, w ∈ wsX8_mark := by decide +kernel
  refine zM_of (cc := cX8_mark) (nL := 3) (ret := (some .int)) (own := RX8) (by decide +kernel) rfl rfl (Nat.le_of_ble_eq_true rfl) (fun C X hi0 => ?_)
  have nn1 : 0 ≤ κ 0 ∧ κ 0 ≤ κ 1 ∧ κ 0 ≤ E ∧ κ 1 ≤ 7000 := hM.n.1
  show zG C V 0 0 0 [(0, .ref (c 60)), (1, .int (zI (q)))] []
  refine zr_aload_n X 1 0 dX8_mark_0 rfl rfl ?_
  refine zr_iload_n X 2 1 dX8_mark_1 rfl rfl ?_
  refine zr_callS (kc' := 0) (ks' := 0) X 5 1 (m_X8_isNoWindow l Γ (V := V) (x := q) (by omega)) gX8_mark_X8_isNoWindow rfl (by decide +kernel) rfl (by decide) rfl (Nat.le_of_ble_eq_true rfl) dX8_mark_2 rfl (by omega) (by omega) (fun rv2 V3 hp4 => ?_)
  obtain ⟨⟨no5, no5e, no5a⟩, no5v⟩ := hp4
  rw [no5e, no5v]
  show zG C V 0 0 5 [(0, .ref (c 60)), (1, .int (zI (q)))] [.int (zI (no5)), .ref (c 60)]
  refine zr_iconst X 6 dX8_mark_5 rfl ?_
  refine zr_callVe (kc' := 0) (ks' := 0) X 9 2 (m_X8_isThrown l Γ hM (a := no5) (b := 0) (by omega) (by omega)) gX8_mark_X8_isThrown rfl (by decide +kernel) rfl (by decide) ⟨_, _, hM.1⟩ rfl rfl (Nat.le_of_ble_eq_true rfl) dX8_mark_6 rfl (by omega) (by omega) (fun rv6 V7 hp8 => ?_)
  obtain ⟨⟨hp8x, hp8k, hp8e, hp8c, hp8m⟩, hp8g⟩ := hp8
  rw [hp8e]
  rcases hp8c with ⟨tc9a, tc9k, tc9x⟩ | ⟨tc9a, tc9b, tc9k, tc9x⟩ | ⟨tc9a, tc9b, tc9k, tc9x⟩
  · skip
    subst tc9k tc9x
    have fx10 : zfm V V7 := (hp8g.mono (fun t ht => by omega))
    obtain ⟨τ11, τ11e⟩ : ∃ zz9 : Nat → Int, zz9 = zf τ 36 1 := ⟨_, rfl⟩
    rw [← τ11e] at hp8m
    show zG C V7 0 0 9 [(0, .ref (c 60)), (1, .int (zI (q)))] [.int (zI (1))]
    refine zr_if_eq X 14 12 dX8_mark_9 rfl rfl (by omega) (fun bq12 => absurd bq12 (by omega)) (fun bq12 => ?_)
    refine zr_iconst X 13 dX8_mark_12 rfl ?_
    exact zr_iret X rfl ⟨0, md, τ11, κ, rfl, hp8m.le (by omega), fx10, Or.inl ⟨by omega, rfl, by rw [τ11e]⟩⟩ dX8_mark_13
  · exact absurd tc9b (by decide)
  · skip
    subst tc9k tc9x
    have fx13 : zfm V V7 := (hp8g.mono (fun t ht => by omega))
    obtain ⟨τ14, τ14e⟩ : ∃ zz9 : Nat → Int, zz9 = zf τ 36 0 := ⟨_, rfl⟩
    rw [← τ14e] at hp8m
    show zG C V7 0 0 9 [(0, .ref (c 60)), (1, .int (zI (q)))] [.int (zI (0))]
    refine zr_if_eq X 14 12 dX8_mark_9 rfl rfl (by omega) (fun bq15 => ?_) (fun bq15 => absurd bq15 (by omega))
    refine zr_aload_n X 15 0 dX8_mark_14 rfl rfl ?_
    have c816 : V7 (c 60) = some (60, .inr (9, [.ref (md 61), .int (zI (κ 0)), .ref (c 62), .ref (md 63), .ref (md 64), .ref (c 65), .int (zI (τ14 26)), .int (zI (τ14 28)), .int (zI (τ14 29)), .ref (c 66), .int (zI (τ14 36))])) := hp8m.1
    refine zr_get X 18 9 2 c816 rfl iX8 (by decide) w0 rfl rfl dX8_mark_15 rfl ?_
    refine zr_iload_n X 19 1 dX8_mark_18 rfl rfl ?_
    have c817 : V7 (c 62) = some (62, zq Γ.2.1 4 6 (fun i => some (md (70 + i)))) := hp8m.2.2.1
    refine zr_aaldI X 20 (.ref (md (70 + q.toNat))) c817 (by omega) rfl dX8_mark_19 rfl ?_
    refine zr_astore_n X 21 [(2, .ref (md (70 + q.toNat))), (0, .ref (c 60)), (1, .int (zI (q)))] dX8_mark_20 rfl (by decide) rfl ?_
    refine zr_aload_n X 22 0 dX8_mark_21 rfl rfl ?_
    refine zr_iconst X 23 dX8_mark_22 rfl ?_
    refine zr_aload_n X 24 0 dX8_mark_23 rfl rfl ?_
    refine zr_iconst X 25 dX8_mark_24 rfl ?_
    have hw19 := hp8m.w (i := q.toNat) (by omega)
    have hw19r := hw19.rg
    have z020 : (zf τ 36 0) (4 * q.toNat) = τ14 (4 * q.toNat) := by rw [τ14e]
    have z021 : (zf τ 36 0) (4 * q.toNat + 1) = τ14 (4 * q.toNat + 1) := by rw [τ14e]
    have z022 : (zf τ 36 0) (4 * q.toNat + 2) = τ14 (4 * q.toNat + 2) := by rw [τ14e]
    have z023 : (zf τ 36 0) (4 * q.toNat + 3) = τ14 (4 * q.toNat + 3) := by rw [τ14e]
    refine zr_iald X 26 hw19.1 (by omega) dX8_mark_25 rfl ?_
    show zG C V7 0 0 26 [(2, .ref (md (70 + q.toNat))), (0, .ref (c 60)), (1, .int (zI (q)))] [.int (zI (τ14 (4 * q.toNat + 2))), .int (zI (4)), .ref (md (70 + q.toNat))]
    refine zr_iast X 27 hw19.1 (by omega) dX8_mark_26 rfl ?_
    refine zr_view zv5_4 ?_
    show zG C (zu V7 (md (70 + q.toNat)) (70 + q.toNat) (za Γ.2.1 0 5 (zr5 (κ (10 + q.toNat)) (τ14 (4 * q.toNat)) (τ14 (4 * q.toNat + 1)) (τ14 (4 * q.toNat + 2)) (τ14 (4 * q.toNat + 2))))) 0 0 27 [(2, .ref (md (70 + q.toNat))), (0, .ref (c 60)), (1, .int (zI (q)))] []
    obtain ⟨cm24h, cm24f⟩ := hp8m.setW (i := q.toNat) (by omega) (τ14 (4 * q.toNat + 1)) (τ14 (4 * q.toNat + 2)) (τ14 (4 * q.toNat + 2)) (τ14 (4 * q.toNat + 2)) ⟨by omega, by omega, by omega, (Or.inr ⟨rfl, by omega⟩), by omega⟩
    obtain ⟨cm24V, cm24e⟩ : ∃ zz9 : zV, zz9 = (zu V7 (md (70 + q.toNat)) (70 + q.toNat) (za Γ.2.1 0 5 (zr5 (κ (10 + q.toNat)) (τ14 (4 * q.toNat)) (τ14 (4 * q.toNat + 1)) (τ14 (4 * q.toNat + 2)) (τ14 (4 * q.toNat + 2))))) := ⟨_, rfl⟩
    obtain ⟨κ25, κ25e⟩ : ∃ zz9 : Nat → Int, zz9 = zf κ (20 + q.toNat) (τ14 (4 * q.toNat + 2)) := ⟨_, rfl⟩
    have cm24m : zMo Γ cm24V c md (zw4 τ14 q.toNat (τ14 (4 * q.toNat)) (τ14 (4 * q.toNat + 1)) (τ14 (4 * q.toNat + 2)) (τ14 (4 * q.toNat + 2))) κ25 E := by
      rw [κ25e, cm24e]
      exact cm24h
    have cm24g : zag (fun x => x ≠ 70 + q.toNat) V7 cm24V := by
      rw [cm24e]
      exact cm24f
    refine zr_view (cm24e).symm ?_
    have fx26 : zfm V cm24V := zag.tr fx13 (cm24g.mono (fun t ht => by omega))
    obtain ⟨τ27, τ27e⟩ : ∃ zz9 : Nat → Int, zz9 = zw4 τ14 q.toNat (τ14 (4 * q.toNat)) (τ14 (4 * q.toNat + 1)) (τ14 (4 * q.toNat + 2)) (τ14 (4 * q.toNat + 2)) := ⟨_, rfl⟩
    rw [← τ27e] at cm24m
    have τ27_q0 : τ27 (4 * q.toNat) = τ14 (4 * q.toNat) := by rw [τ27e]; exact zw4_0
    have τ27_q1 : τ27 (4 * q.toNat + 1) = τ14 (4 * q.toNat + 1) := by rw [τ27e]; exact zw4_1
    have τ27_q2 : τ27 (4 * q.toNat + 2) = τ14 (4 * q.toNat + 2) := by rw [τ27e]; exact zw4_2
    have τ27_q3 : τ27 (4 * q.toNat + 3) = τ14 (4 * q.toNat + 2) := by rw [τ27e]; exact zw4_3
    show zG C cm24V 0 0 27 [(2, .ref (md (70 + q.toNat))), (0, .ref (c 60)), (1, .int (zI (q)))] []
    refine zr_aload_n X 28 1 dX8_mark_27 rfl rfl ?_
    refine zr_aload_n X 29 0 dX8_mark_28 rfl rfl ?_
    refine zr_iconst X 30 dX8_mark_29 rfl ?_
    have hw29 := cm24m.w (i := q.toNat) (by omega)
    have hw29r := hw29.rg
    refine zr_iald X 31 hw29.1 (by omega) dX8_mark_30 rfl ?_
    show zG C cm24V 0 0 31 [(2, .ref (md (70 + q.toNat))), (0, .ref (c 60)), (1, .int (zI (q)))] [.int (zI (τ27 (4 * q.toNat + 2))), .ref (c 60)]
    refine zr_callVe (kc' := 0) (ks' := 0) X 34 1 (m_X8_done l Γ cm24m) gX8_mark_X8_done rfl (by decide +kernel) rfl (by decide) ⟨_, _, cm24m.1⟩ rfl rfl (Nat.le_of_ble_eq_true rfl) dX8_mark_31 rfl (by omega) (by omega) (fun rv30 V31 hp32 => ?_)
    obtain ⟨hp32e, hp32m, hp32g⟩ := hp32
    rw [hp32e]
    have fx33 : zfm V V31 := zag.tr fx26 (hp32g.mono (fun t ht => by omega))
    obtain ⟨τ34, τ34e⟩ : ∃ zz9 : Nat → Int, zz9 = zdn τ27 := ⟨_, rfl⟩
    rw [← τ34e] at hp32m
    have τ34_q0 : τ34 (4 * q.toNat) = τ27 (4 * q.toNat) := by rw [τ34e]; exact zdn_ne (by omega)
    have τ34_q1 : τ34 (4 * q.toNat + 1) = τ27 (4 * q.toNat + 1) := by rw [τ34e]; exact zdn_ne (by omega)
    have τ34_q2 : τ34 (4 * q.toNat + 2) = τ27 (4 * q.toNat + 2) := by rw [τ34e]; exact zdn_ne (by omega)
    have τ34_q3 : τ34 (4 * q.toNat + 3) = τ27 (4 * q.toNat + 3) := by rw [τ34e]; exact zdn_ne (by omega)
    show zG C V31 0 0 34 [(2, .ref (md (70 + q.toNat))), (0, .ref (c 60)), (1, .int (zI (q)))] [.int (zI (τ27 (4 * q.toNat + 2)))]
    exact zr_iret X rfl ⟨τ27 (4 * q.toNat + 2), md, τ34, κ25, rfl, hp32m.le (by omega), fx33, Or.inr (Or.inr ⟨by omega, trivial, ⟨by omega, by rw [τ34e, τ27e, τ14e]⟩⟩)⟩ dX8_mark_34
set_option maxRecDepth 100000 in
set_option maxHeartbeats 4000000 in
theorem m_X8_reset (l : Launch) (Γ : zGam) {V : zV} {c md : Nat → Nat} {τ κ : Nat → Int} {E : Int} {q : Int} (hM : zMo Γ V c md τ κ E) (hq : -2147483648 ≤ q ∧ q ≤ 2147483647) : zM l Γ 4 yX8_reset wsX8_reset 0 0 V [.ref (c 60), .int (zI (q))] (fun rv V' => ∃ (y : Int) (md' : Nat → Nat) (τ' κ' : Nat → Int), rv = some (.int (zI y)) ∧ zMo Γ V' c md' τ' κ' (E + 40) ∧ zfm V V' ∧ ((¬ (0 ≤ q ∧ q ≤ 5) ∧ y = 0 ∧ τ' = zf τ 36 1) ∨ ((0 ≤ q ∧ q ≤ 5) ∧ ¬ (True) ∧ y = 0 ∧ τ' = zf τ 36 2) ∨ ((0 ≤ q ∧ q ≤ 5) ∧ (True) ∧ (((zf τ 36 0) (4 * q.toNat + 3) = -9 ∧ y = -9 ∧ τ' = zrf (zf τ 36 0)) ∨ ((zf τ 36 0) (4 * q.toNat + 3) ≠ -9 ∧ y = (zf τ 36 0) (4 * q.toNat + 3) ∧ τ' = zdn (zw4 (zf τ 36 0) q.toNat ((zf τ 36 0) (4 * q.toNat)) ((zf τ 36 0) (4 * q.toNat + 1)) ((zf τ 36 0) (4 * q.toNat + 3)) ((zf τ 36 0) (4 * q.toNat + 3)))))))) := by
  have w0 : Cond.fieldLink RX8 14 "SashwordsModel" "windows" "[[I" ∈ wsX8_reset := by decide +kernel
  have iX8 : ∀ w ∈ u_ws RX8 TX8 11, w ∈ wsX8_reset := by decide +kernel
  refine zM_of (cc := cX8_reset) (nL := 3) (ret := (some .int)) (own := RX8) (by decide +kernel) rfl rfl (Nat.le_of_ble_eq_true rfl) (fun C X hi0 => ?_)
  have nn1 : 0 ≤ κ 0 ∧ κ 0 ≤ κ 1 ∧ κ 0 ≤ E ∧ κ 1 ≤ 7000 := hM.n.1
  show zG C V 0 0 0 [(0, .ref (c 60)), (1, .int (zI (q)))] []
  refine zr_aload_n X 1 0 dX8_reset_0 rfl rfl ?_
  refine zr_iload_n X 2 1 dX8_reset_1 rfl rfl ?_
  refine zr_callS (kc' := 0) (ks' := 0) X 5 1 (m_X8_isNoWindow l Γ (V := V) (x := q) (by omega)) gX8_reset_X8_isNoWindow rfl (by decide +kernel) rfl (by decide) rfl (Nat.le_of_ble_eq_true rfl) dX8_reset_2 rfl (by omega) (by omega) (fun rv2 V3 hp4 => ?_)
  obtain ⟨⟨no5, no5e, no5a⟩, no5v⟩ := hp4
  rw [no5e, no5v]
  show zG C V 0 0 5 [(0, .ref (c 60)), (1, .int (zI (q)))] [.int (zI (no5)), .ref (c 60)]
  refine zr_iconst X 6 dX8_reset_5 rfl ?_
  refine zr_callVe (kc' := 0) (ks' := 0) X 9 2 (m_X8_isThrown l Γ hM (a := no5) (b := 0) (by omega) (by omega)) gX8_reset_X8_isThrown rfl (by decide +kernel) rfl (by decide) ⟨_, _, hM.1⟩ rfl rfl (Nat.le_of_ble_eq_true rfl) dX8_reset_6 rfl (by omega) (by omega) (fun rv6 V7 hp8 => ?_)
  obtain ⟨⟨hp8x, hp8k, hp8e, hp8c, hp8m⟩, hp8g⟩ := hp8
  rw [hp8e]
  rcases hp8c with ⟨tc9a, tc9k, tc9x⟩ | ⟨tc9a, tc9b, tc9k, tc9x⟩ | ⟨tc9a, tc9b, tc9k, tc9x⟩
  · skip
    subst tc9k tc9x
    have fx10 : zfm V V7 := (hp8g.mono (fun t ht => by omega))
    obtain ⟨τ11, τ11e⟩ : ∃ zz9 : Nat → Int, zz9 = zf τ 36 1 := ⟨_, rfl⟩
    rw [← τ11e] at hp8m
    show zG C V7 0 0 9 [(0, .ref (c 60)), (1, .int (zI (q)))] [.int (zI (1))]
    refine zr_if_eq X 14 12 dX8_reset_9 rfl rfl (by omega) (fun bq12 => absurd bq12 (by omega)) (fun bq12 => ?_)
    refine zr_iconst X 13 dX8_reset_12 rfl ?_
    exact zr_iret X rfl ⟨0, md, τ11, κ, rfl, hp8m.le (by omega), fx10, Or.inl ⟨by omega, rfl, by rw [τ11e]⟩⟩ dX8_reset_13
  · exact absurd tc9b (by decide)
  · skip
    subst tc9k tc9x
    have fx13 : zfm V V7 := (hp8g.mono (fun t ht => by omega))
    obtain ⟨τ14, τ14e⟩ : ∃ zz9 : Nat → Int, zz9 = zf τ 36 0 := ⟨_, rfl⟩
    rw [← τ14e] at hp8m
    show zG C V7 0 0 9 [(0, .ref (c 60)), (1, .int (zI (q)))] [.int (zI (0))]
    refine zr_if_eq X 14 12 dX8_reset_9 rfl rfl (by omega) (fun bq15 => ?_) (fun bq15 => absurd bq15 (by omega))
    refine zr_aload_n X 15 0 dX8_reset_14 rfl rfl ?_
    have c816 : V7 (c 60) = some (60, .inr (9, [.ref (md 61), .int (zI (κ 0)), .ref (c 62), .ref (md 63), .ref (md 64), .ref (c 65), .int (zI (τ14 26)), .int (zI (τ14 28)), .int (zI (τ14 29)), .ref (c 66), .int (zI (τ14 36))])) := hp8m.1
    refine zr_get X 18 9 2 c816 rfl iX8 (by decide) w0 rfl rfl dX8_reset_15 rfl ?_
    refine zr_iload_n X 19 1 dX8_reset_18 rfl rfl ?_
    have c817 : V7 (c 62) = some (62, zq Γ.2.1 4 6 (fun i => some (md (70 + i)))) := hp8m.2.2.1
    refine zr_aaldI X 20 (.ref (md (70 + q.toNat))) c817 (by omega) rfl dX8_reset_19 rfl ?_
    refine zr_astore_n X 21 [(2, .ref (md (70 + q.toNat))), (0, .ref (c 60)), (1, .int (zI (q)))] dX8_reset_20 rfl (by decide) rfl ?_
    refine zr_aload_n X 22 0 dX8_reset_21 rfl rfl ?_
    refine zr_iconst X 23 dX8_reset_22 rfl ?_
    have hw19 := hp8m.w (i := q.toNat) (by omega)
    have hw19r := hw19.rg
    have hw19d := hw19.mk
    have z020 : (zf τ 36 0) (4 * q.toNat) = τ14 (4 * q.toNat) := by rw [τ14e]
    have z021 : (zf τ 36 0) (4 * q.toNat + 1) = τ14 (4 * q.toNat + 1) := by rw [τ14e]
    have z022 : (zf τ 36 0) (4 * q.toNat + 2) = τ14 (4 * q.toNat + 2) := by rw [τ14e]
    have z023 : (zf τ 36 0) (4 * q.toNat + 3) = τ14 (4 * q.toNat + 3) := by rw [τ14e]
    refine zr_iald X 24 hw19.1 (by omega) dX8_reset_23 rfl ?_
    show zG C V7 0 0 24 [(2, .ref (md (70 + q.toNat))), (0, .ref (c 60)), (1, .int (zI (q)))] [.int (zI (κ (20 + q.toNat)))]
    refine zr_if_ge X 32 27 dX8_reset_24 rfl rfl (by omega) (fun bq24 => ?_) (fun bq24 => ?_)
    · refine zr_aload_n X 33 0 dX8_reset_32 rfl rfl ?_
      refine zr_iconst X 34 dX8_reset_33 rfl ?_
      refine zr_aload_n X 35 0 dX8_reset_34 rfl rfl ?_
      refine zr_iconst X 36 dX8_reset_35 rfl ?_
      refine zr_iald X 37 hw19.1 (by omega) dX8_reset_36 rfl ?_
      show zG C V7 0 0 37 [(2, .ref (md (70 + q.toNat))), (0, .ref (c 60)), (1, .int (zI (q)))] [.int (zI (κ (20 + q.toNat))), .int (zI (3)), .ref (md (70 + q.toNat))]
      refine zr_iast X 38 hw19.1 (by omega) dX8_reset_37 rfl ?_
      refine zr_view zv5_3 ?_
      show zG C (zu V7 (md (70 + q.toNat)) (70 + q.toNat) (za Γ.2.1 0 5 (zr5 (κ (10 + q.toNat)) (τ14 (4 * q.toNat)) (τ14 (4 * q.toNat + 1)) (κ (20 + q.toNat)) (κ (20 + q.toNat))))) 0 0 38 [(2, .ref (md (70 + q.toNat))), (0, .ref (c 60)), (1, .int (zI (q)))] []
      obtain ⟨cm25h, cm25f⟩ := hp8m.setW (i := q.toNat) (by omega) (τ14 (4 * q.toNat + 1)) (κ (20 + q.toNat)) (τ14 (4 * q.toNat + 3)) (κ (20 + q.toNat)) ⟨by omega, by omega, by omega, hw19.mk, by omega⟩
      obtain ⟨cm25V, cm25e⟩ : ∃ zz9 : zV, zz9 = (zu V7 (md (70 + q.toNat)) (70 + q.toNat) (za Γ.2.1 0 5 (zr5 (κ (10 + q.toNat)) (τ14 (4 * q.toNat)) (τ14 (4 * q.toNat + 1)) (κ (20 + q.toNat)) (κ (20 + q.toNat))))) := ⟨_, rfl⟩
      obtain ⟨κ26, κ26e⟩ : ∃ zz9 : Nat → Int, zz9 = zf κ (20 + q.toNat) (κ (20 + q.toNat)) := ⟨_, rfl⟩
      have cm25m : zMo Γ cm25V c md (zw4 τ14 q.toNat (τ14 (4 * q.toNat)) (τ14 (4 * q.toNat + 1)) (κ (20 + q.toNat)) (τ14 (4 * q.toNat + 3))) κ26 E := by
        rw [κ26e, cm25e]
        exact cm25h
      have cm25g : zag (fun x => x ≠ 70 + q.toNat) V7 cm25V := by
        rw [cm25e]
        exact cm25f
      refine zr_view (cm25e).symm ?_
      have fx27 : zfm V cm25V := zag.tr fx13 (cm25g.mono (fun t ht => by omega))
      obtain ⟨τ28, τ28e⟩ : ∃ zz9 : Nat → Int, zz9 = zw4 τ14 q.toNat (τ14 (4 * q.toNat)) (τ14 (4 * q.toNat + 1)) (κ (20 + q.toNat)) (τ14 (4 * q.toNat + 3)) := ⟨_, rfl⟩
      rw [← τ28e] at cm25m
      have τ28_q0 : τ28 (4 * q.toNat) = τ14 (4 * q.toNat) := by rw [τ28e]; exact zw4_0
      have τ28_q1 : τ28 (4 * q.toNat + 1) = τ14 (4 * q.toNat + 1) := by rw [τ28e]; exact zw4_1
      have τ28_q2 : τ28 (4 * q.toNat + 2) = κ (20 + q.toNat) := by rw [τ28e]; exact zw4_2
      have τ28_q3 : τ28 (4 * q.toNat + 3) = τ14 (4 * q.toNat + 3) := by rw [τ28e]; exact zw4_3
      show zG C cm25V 0 0 38 [(2, .ref (md (70 + q.toNat))), (0, .ref (c 60)), (1, .int (zI (q)))] []
      refine zr_aload_n X 39 1 dX8_reset_38 rfl rfl ?_
      refine zr_aload_n X 40 0 dX8_reset_39 rfl rfl ?_
      refine zr_iconst X 41 dX8_reset_40 rfl ?_
      have hw30 := cm25m.w (i := q.toNat) (by omega)
      have hw30r := hw30.rg
      have hw30d := hw30.mk
      refine zr_iald X 42 hw30.1 (by omega) dX8_reset_41 rfl ?_
      show zG C cm25V 0 0 42 [(2, .ref (md (70 + q.toNat))), (0, .ref (c 60)), (1, .int (zI (q)))] [.int (zI (τ28 (4 * q.toNat + 2))), .ref (c 60)]
      refine zr_callVe (kc' := 0) (ks' := 0) X 45 1 (m_X8_done l Γ cm25m) gX8_reset_X8_done rfl (by decide +kernel) rfl (by decide) ⟨_, _, cm25m.1⟩ rfl rfl (Nat.le_of_ble_eq_true rfl) dX8_reset_42 rfl (by omega) (by omega) (fun rv31 V32 hp33 => ?_)
      obtain ⟨hp33e, hp33m, hp33g⟩ := hp33
      rw [hp33e]
      have fx34 : zfm V V32 := zag.tr fx27 (hp33g.mono (fun t ht => by omega))
      obtain ⟨τ35, τ35e⟩ : ∃ zz9 : Nat → Int, zz9 = zdn τ28 := ⟨_, rfl⟩
      rw [← τ35e] at hp33m
      have τ35_q0 : τ35 (4 * q.toNat) = τ28 (4 * q.toNat) := by rw [τ35e]; exact zdn_ne (by omega)
      have τ35_q1 : τ35 (4 * q.toNat + 1) = τ28 (4 * q.toNat + 1) := by rw [τ35e]; exact zdn_ne (by omega)
      have τ35_q2 : τ35 (4 * q.toNat + 2) = τ28 (4 * q.toNat + 2) := by rw [τ35e]; exact zdn_ne (by omega)
      have τ35_q3 : τ35 (4 * q.toNat + 3) = τ28 (4 * q.toNat + 3) := by rw [τ35e]; exact zdn_ne (by omega)
      show zG C V32 0 0 45 [(2, .ref (md (70 + q.toNat))), (0, .ref (c 60)), (1, .int (zI (q)))] [.int (zI (τ28 (4 * q.toNat + 2)))]
      exact zr_iret X rfl ⟨τ28 (4 * q.toNat + 2), md, τ35, κ26, rfl, hp33m.le (by omega), fx34, Or.inr (Or.inr ⟨by omega, trivial, Or.inr ⟨by omega, by omega, by rw [τ35e, τ28e, show κ (20 + q.toNat) = τ14 (4 * q.toNat + 3) by omega, τ14e]⟩⟩)⟩ dX8_reset_45
    · refine zr_aload_n X 28 1 dX8_reset_27 rfl rfl ?_
      refine zr_callVe (kc' := 0) (ks' := 0) X 31 0 (m_X8_refused l Γ hp8m) gX8_reset_X8_refused rfl (by decide +kernel) rfl (by decide) ⟨_, _, hp8m.1⟩ rfl rfl (Nat.le_of_ble_eq_true rfl) dX8_reset_28 rfl (by omega) (by omega) (fun rv36 V37 hp38 => ?_)
      obtain ⟨hp38e, hp38m, hp38g⟩ := hp38
      rw [hp38e]
      have fx39 : zfm V V37 := zag.tr fx13 (hp38g.mono (fun t ht => by omega))
      obtain ⟨τ40, τ40e⟩ : ∃ zz9 : Nat → Int, zz9 = zrf τ14 := ⟨_, rfl⟩
      rw [← τ40e] at hp38m
      have τ40_q0 : τ40 (4 * q.toNat) = τ14 (4 * q.toNat) := by rw [τ40e]; exact zrf_ne (by omega)
      have τ40_q1 : τ40 (4 * q.toNat + 1) = τ14 (4 * q.toNat + 1) := by rw [τ40e]; exact zrf_ne (by omega)
      have τ40_q2 : τ40 (4 * q.toNat + 2) = τ14 (4 * q.toNat + 2) := by rw [τ40e]; exact zrf_ne (by omega)
      have τ40_q3 : τ40 (4 * q.toNat + 3) = τ14 (4 * q.toNat + 3) := by rw [τ40e]; exact zrf_ne (by omega)
      show zG C V37 0 0 31 [(2, .ref (md (70 + q.toNat))), (0, .ref (c 60)), (1, .int (zI (q)))] [.int (zI (-9))]
      exact zr_iret X rfl ⟨-9, md, τ40, κ, rfl, hp38m.le (by omega), fx39, Or.inr (Or.inr ⟨by omega, trivial, Or.inl ⟨by omega, rfl, by rw [τ40e, τ14e]⟩⟩)⟩ dX8_reset_31
set_option maxRecDepth 100000 in
set_option maxHeartbeats 4000000 in
theorem m_X8_read_ (l : Launch) (Γ : zGam) {V : zV} {c md : Nat → Nat} {τ κ : Nat → Int} {E : Int} {q n : Int} (hM : zMo Γ V c md τ κ E) (hq : -2147483648 ≤ q ∧ q ≤ 2147483647) (hn : -2147483648 ≤ n ∧ n ≤ 2147483647) : zM l Γ 10 yX8_read_ wsX8_read_ 3011 6340 V [.ref (c 60), .int (zI (q)), .int (zI (n))] (fun rv V' => ∃ (zr : Nat) (md' : Nat → Nat) (τ' κ' : Nat → Int), rv = some (.ref zr) ∧ zMo Γ V' c md' τ' κ' (E + 40) ∧ zfm V V' ∧ ((¬ (0 ≤ q ∧ q ≤ 5) ∧ τ' = zf τ 36 1) ∨ ((0 ≤ q ∧ q ≤ 5) ∧ ¬ (0 ≤ n ∧ n ≤ 40) ∧ τ' = zf τ 36 2) ∨ ((0 ≤ q ∧ q ≤ 5) ∧ (0 ≤ n ∧ n ≤ 40) ∧ (∃ k : Int, 0 ≤ k ∧ k ≤ n ∧ k ≤ (zf τ 36 0) (4 * q.toNat + 1) - (zf τ 36 0) (4 * q.toNat + 2) ∧ (k = n ∨ k = (zf τ 36 0) (4 * q.toNat + 1) - (zf τ 36 0) (4 * q.toNat + 2)) ∧ τ' = zdn (zw4 (zf τ 36 0) q.toNat ((zf τ 36 0) (4 * q.toNat)) ((zf τ 36 0) (4 * q.toNat + 1)) ((zf τ 36 0) (4 * q.toNat + 2) + k) ((zf τ 36 0) (4 * q.toNat + 3))))))) := by
  have w0 : Cond.fieldLink RX8 14 "SashwordsModel" "windows" "[[I" ∈ wsX8_read_ := by decide +kernel
  have iX8 : ∀ w ∈ u_ws RX8 TX8 11, w ∈ wsX8_read_ := by decide +kernel
  have w2 : Cond.methodLink RX8 97 Lib.Math.min.name ∈ wsX8_read_ := by decide +kernel
  have w3 : Cond.static Lib.Math.min.name ∈ wsX8_read_ := by decide +kernel
  have w4 : Cond.initialized "java/lang/Math" ∈ wsX8_read_ := by decide +kernel
  have w5 : Cond.code Lib.Math.min.name Lib.Math.min.code 2 (some .int) ∈ wsX8_read_ := by decide +kernel
  refine zM_of (cc := cX8_read_) (nL := 6) (ret := (some (.object "java/lang/String"))) (own := RX8) (by decide +kernel) rfl rfl (Nat.le_of_ble_eq_true rfl) (fun C X hi0 => ?_)
  have nn1 : 0 ≤ κ 0 ∧ κ 0 ≤ κ 1 ∧ κ 0 ≤ E ∧ κ 1 ≤ 7000 := hM.n.1
  show zG C V 3011 6340 0 [(0, .ref (c 60)), (1, .int (zI (q))), (2, .int (zI (n)))] []
  refine zr_aload_n X 1 0 dX8_read__0 rfl rfl ?_
  refine zr_iload_n X 2 1 dX8_read__1 rfl rfl ?_
  refine zr_callS (kc' := 3011) (ks' := 6340) X 5 1 (m_X8_isNoWindow l Γ (V := V) (x := q) (by omega)) gX8_read__X8_isNoWindow rfl (by decide +kernel) rfl (by decide) rfl (Nat.le_of_ble_eq_true rfl) dX8_read__2 rfl (by omega) (by omega) (fun rv2 V3 hp4 => ?_)
  obtain ⟨⟨no5, no5e, no5a⟩, no5v⟩ := hp4
  rw [no5e, no5v]
  show zG C V 3011 6340 5 [(0, .ref (c 60)), (1, .int (zI (q))), (2, .int (zI (n)))] [.int (zI (no5)), .ref (c 60)]
  refine zr_iload_n X 6 2 dX8_read__5 rfl rfl ?_
  refine zr_iconst X 7 dX8_read__6 rfl ?_
  refine zr_bipush X 9 (40) dX8_read__7 rfl (by decide) ?_
  refine zr_callS (kc' := 3011) (ks' := 6340) X 12 3 (m_X8_isNo l Γ (V := V) (x := n) (a := 0) (b := 40) (by omega) (by omega) (by omega)) gX8_read__X8_isNo rfl (by decide +kernel) rfl (by decide) rfl (Nat.le_of_ble_eq_true rfl) dX8_read__9 rfl (by omega) (by omega) (fun rv6 V7 hp8 => ?_)
  obtain ⟨⟨no9, no9e, no9a⟩, no9v⟩ := hp8
  rw [no9e, no9v]
  show zG C V 3011 6340 12 [(0, .ref (c 60)), (1, .int (zI (q))), (2, .int (zI (n)))] [.int (zI (no9)), .int (zI (no5)), .ref (c 60)]
  refine zr_callVe (kc' := 3011) (ks' := 6340) X 15 2 (m_X8_isThrown l Γ hM (a := no5) (b := no9) (by omega) (by omega)) gX8_read__X8_isThrown rfl (by decide +kernel) rfl (by decide) ⟨_, _, hM.1⟩ rfl rfl (Nat.le_of_ble_eq_true rfl) dX8_read__12 rfl (by omega) (by omega) (fun rv10 V11 hp12 => ?_)
  obtain ⟨⟨hp12x, hp12k, hp12e, hp12c, hp12m⟩, hp12g⟩ := hp12
  rw [hp12e]
  rcases hp12c with ⟨tc13a, tc13k, tc13x⟩ | ⟨tc13a, tc13b, tc13k, tc13x⟩ | ⟨tc13a, tc13b, tc13k, tc13x⟩
  · skip
    subst tc13k tc13x
    have fx14 : zfm V V11 := (hp12g.mono (fun t ht => by omega))
    obtain ⟨τ15, τ15e⟩ : ∃ zz9 : Nat → Int, zz9 = zf τ 36 1 := ⟨_, rfl⟩
    rw [← τ15e] at hp12m
    show zG C V11 3011 6340 15 [(0, .ref (c 60)), (1, .int (zI (q))), (2, .int (zI (n)))] [.int (zI (1))]
    refine zr_if_eq X 21 18 dX8_read__15 rfl rfl (by omega) (fun bq16 => absurd bq16 (by omega)) (fun bq16 => ?_)
    refine zr_ldcS X 20 6 rfl dX8_read__18 rfl ?_
    exact zr_aret X rfl (Or.inl ⟨_, rfl⟩) ⟨Γ.2.2.1 6, md, τ15, κ, rfl, hp12m.le (by omega), fx14, Or.inl ⟨by omega, by rw [τ15e]⟩⟩ dX8_read__20
  · skip
    subst tc13k tc13x
    have fx17 : zfm V V11 := (hp12g.mono (fun t ht => by omega))
    obtain ⟨τ18, τ18e⟩ : ∃ zz9 : Nat → Int, zz9 = zf τ 36 2 := ⟨_, rfl⟩
    rw [← τ18e] at hp12m
    show zG C V11 3011 6340 15 [(0, .ref (c 60)), (1, .int (zI (q))), (2, .int (zI (n)))] [.int (zI (1))]
    refine zr_if_eq X 21 18 dX8_read__15 rfl rfl (by omega) (fun bq19 => absurd bq19 (by omega)) (fun bq19 => ?_)
    refine zr_ldcS X 20 6 rfl dX8_read__18 rfl ?_
    exact zr_aret X rfl (Or.inl ⟨_, rfl⟩) ⟨Γ.2.2.1 6, md, τ18, κ, rfl, hp12m.le (by omega), fx17, Or.inr (Or.inl ⟨by omega, by omega, by rw [τ18e]⟩)⟩ dX8_read__20
  · skip
    subst tc13k tc13x
    have fx20 : zfm V V11 := (hp12g.mono (fun t ht => by omega))
    obtain ⟨τ21, τ21e⟩ : ∃ zz9 : Nat → Int, zz9 = zf τ 36 0 := ⟨_, rfl⟩
    rw [← τ21e] at hp12m
    show zG C V11 3011 6340 15 [(0, .ref (c 60)), (1, .int (zI (q))), (2, .int (zI (n)))] [.int (zI (0))]
    refine zr_if_eq X 21 18 dX8_read__15 rfl rfl (by omega) (fun bq22 => ?_) (fun bq22 => absurd bq22 (by omega))
    refine zr_aload_n X 22 0 dX8_read__21 rfl rfl ?_
    have c823 : V11 (c 60) = some (60, .inr (9, [.ref (md 61), .int (zI (κ 0)), .ref (c 62), .ref (md 63), .ref (md 64), .ref (c 65), .int (zI (τ21 26)), .int (zI (τ21 28)), .int (zI (τ21 29)), .ref (c 66), .int (zI (τ21 36))])) := hp12m.1
    refine zr_get X 25 9 2 c823 rfl iX8 (by decide) w0 rfl rfl dX8_read__22 rfl ?_
    refine zr_iload_n X 26 1 dX8_read__25 rfl rfl ?_
    have c824 : V11 (c 62) = some (62, zq Γ.2.1 4 6 (fun i => some (md (70 + i)))) := hp12m.2.2.1
    refine zr_aaldI X 27 (.ref (md (70 + q.toNat))) c824 (by omega) rfl dX8_read__26 rfl ?_
    refine zr_astore_n X 28 [(3, .ref (md (70 + q.toNat))), (0, .ref (c 60)), (1, .int (zI (q))), (2, .int (zI (n)))] dX8_read__27 rfl (by decide) rfl ?_
    refine zr_aload_n X 29 1 dX8_read__28 rfl rfl ?_
    refine zr_aload_n X 30 0 dX8_read__29 rfl rfl ?_
    have hw26 := hp12m.w (i := q.toNat) (by omega)
    have hw26r := hw26.rg
    have z027 : (zf τ 36 0) (4 * q.toNat) = τ21 (4 * q.toNat) := by rw [τ21e]
    have z028 : (zf τ 36 0) (4 * q.toNat + 1) = τ21 (4 * q.toNat + 1) := by rw [τ21e]
    have z029 : (zf τ 36 0) (4 * q.toNat + 2) = τ21 (4 * q.toNat + 2) := by rw [τ21e]
    have z030 : (zf τ 36 0) (4 * q.toNat + 3) = τ21 (4 * q.toNat + 3) := by rw [τ21e]
    refine zr_callVe (kc' := (3011 - 1)) (ks' := (6340 - 40)) X 33 1 (m_X8_text l Γ (tg := 76) (i := q) hp12m (by omega)) gX8_read__X8_text rfl (by decide +kernel) rfl (by decide) ⟨_, _, hp12m.1⟩ rfl rfl (Nat.le_of_ble_eq_true rfl) dX8_read__30 rfl (by omega) (by omega) (fun rv31 V32 hp33 => ?_)
    obtain ⟨hp33q, hp33f, hp33e, hp33h, hp33c, hp33g, hp33z⟩ := hp33
    rw [hp33e]
    have hp33m := hp12m.kept hp33g (fun _ _ _ => trivial)
    have fx34 : zfm V V32 := zag.tr fx20 (hp33g.mono (fun _ _ => trivial))
    show zG C V32 (3011 - 1) (6340 - 40) 33 [(3, .ref (md (70 + q.toNat))), (0, .ref (c 60)), (1, .int (zI (q))), (2, .int (zI (n)))] [.ref hp33q]
    refine zr_astore X 35 [(4, .ref hp33q), (3, .ref (md (70 + q.toNat))), (0, .ref (c 60)), (1, .int (zI (q))), (2, .int (zI (n)))] dX8_read__33 rfl (by decide) rfl ?_
    refine zr_iload_n X 36 4 dX8_read__35 rfl rfl ?_
    refine zr_aload X 38 0 dX8_read__36 rfl rfl ?_
    refine zr_alen X 39 0 hp33h (by decide) dX8_read__38 rfl ?_
    obtain ⟨mz35, mz35e, mz35a⟩ : ∃ z9 : Int, z9 = (if (((τ21 (4 * q.toNat + 1) - τ21 (4 * q.toNat + 2)).toNat : Nat) : Int) < n then (((τ21 (4 * q.toNat + 1) - τ21 (4 * q.toNat + 2)).toNat : Nat) : Int) else n) ∧ (((((τ21 (4 * q.toNat + 1) - τ21 (4 * q.toNat + 2)).toNat : Nat) : Int) < n ∧ z9 = (((τ21 (4 * q.toNat + 1) - τ21 (4 * q.toNat + 2)).toNat : Nat) : Int)) ∨ (¬ (((τ21 (4 * q.toNat + 1) - τ21 (4 * q.toNat + 2)).toNat : Nat) : Int) < n ∧ z9 = n)) := zmine _ _
    refine zr_mmin X 42 (mz35) w2 w3 w4 w5 (by decide) (Nat.le_of_ble_eq_true rfl) (by omega) (by omega) mz35e dX8_read__39 rfl ?_
    clear mz35e
    refine zr_istore X 44 [(5, .int (zI (mz35))), (4, .ref hp33q), (3, .ref (md (70 + q.toNat))), (0, .ref (c 60)), (1, .int (zI (q))), (2, .int (zI (n)))] dX8_read__42 rfl (by decide) rfl ?_
    refine zr_aload_n X 45 2 dX8_read__44 rfl rfl ?_
    refine zr_iconst X 46 dX8_read__45 rfl ?_
    refine zr_dup2 X 47 dX8_read__46 rfl rfl rfl ?_
    have hw37 := hp33m.w (i := q.toNat) (by omega)
    have hw37r := hw37.rg
    have z038 : (zf τ 36 0) (4 * q.toNat) = τ21 (4 * q.toNat) := by rw [τ21e]
    have z039 : (zf τ 36 0) (4 * q.toNat + 1) = τ21 (4 * q.toNat + 1) := by rw [τ21e]
    have z040 : (zf τ 36 0) (4 * q.toNat + 2) = τ21 (4 * q.toNat + 2) := by rw [τ21e]
    have z041 : (zf τ 36 0) (4 * q.toNat + 3) = τ21 (4 * q.toNat + 3) := by rw [τ21e]
    refine zr_iald X 48 hw37.1 (by omega) dX8_read__47 rfl ?_
    show zG C V32 (3011 - 1) (6340 - 40) 48 [(5, .int (zI (mz35))), (4, .ref hp33q), (3, .ref (md (70 + q.toNat))), (0, .ref (c 60)), (1, .int (zI (q))), (2, .int (zI (n)))] [.int (zI (τ21 (4 * q.toNat + 2))), .int (zI (3)), .ref (md (70 + q.toNat))]
    refine zr_aload_n X 49 3 dX8_read__48 rfl rfl ?_
    refine zr_iload X 51 0 dX8_read__49 rfl rfl ?_
    refine zr_callVe (kc' := (3011 - 1)) (ks' := (6340 - 40)) X 54 1 (m_X8_done l Γ hp33m) gX8_read__X8_done rfl (by decide +kernel) rfl (by decide) ⟨_, _, hp33m.1⟩ rfl rfl (Nat.le_of_ble_eq_true rfl) dX8_read__51 rfl (by omega) (by omega) (fun rv42 V43 hp44 => ?_)
    obtain ⟨hp44e, hp44m, hp44g⟩ := hp44
    rw [hp44e]
    have lc45 := hp44g _ _ _ hp33h (by omega)
    have fx46 : zfm V V43 := zag.tr fx34 (hp44g.mono (fun t ht => by omega))
    obtain ⟨τ47, τ47e⟩ : ∃ zz9 : Nat → Int, zz9 = zdn τ21 := ⟨_, rfl⟩
    rw [← τ47e] at hp44m
    have τ47_q0 : τ47 (4 * q.toNat) = τ21 (4 * q.toNat) := by rw [τ47e]; exact zdn_ne (by omega)
    have τ47_q1 : τ47 (4 * q.toNat + 1) = τ21 (4 * q.toNat + 1) := by rw [τ47e]; exact zdn_ne (by omega)
    have τ47_q2 : τ47 (4 * q.toNat + 2) = τ21 (4 * q.toNat + 2) := by rw [τ47e]; exact zdn_ne (by omega)
    have τ47_q3 : τ47 (4 * q.toNat + 3) = τ21 (4 * q.toNat + 3) := by rw [τ47e]; exact zdn_ne (by omega)
    show zG C V43 (3011 - 1) (6340 - 40) 54 [(5, .int (zI (mz35))), (4, .ref hp33q), (3, .ref (md (70 + q.toNat))), (0, .ref (c 60)), (1, .int (zI (q))), (2, .int (zI (n)))] [.int (zI (mz35)), .int (zI (τ21 (4 * q.toNat + 2))), .int (zI (3)), .ref (md (70 + q.toNat))]
    refine zr_iadd X 55 dX8_read__54 rfl ?_
    have hw49 := hp44m.w (i := q.toNat) (by omega)
    have hw49r := hw49.rg
    refine zr_iast X 56 hw49.1 (by omega) dX8_read__55 rfl ?_
    refine zr_view zv5_3 ?_
    show zG C (zu V43 (md (70 + q.toNat)) (70 + q.toNat) (za Γ.2.1 0 5 (zr5 (κ (10 + q.toNat)) (τ47 (4 * q.toNat)) (τ47 (4 * q.toNat + 1)) ((τ21 (4 * q.toNat + 2)) + mz35) (κ (20 + q.toNat))))) (3011 - 1) (6340 - 40) 56 [(5, .int (zI (mz35))), (4, .ref hp33q), (3, .ref (md (70 + q.toNat))), (0, .ref (c 60)), (1, .int (zI (q))), (2, .int (zI (n)))] []
    obtain ⟨cm50h, cm50f⟩ := hp44m.setW (i := q.toNat) (by omega) (τ47 (4 * q.toNat + 1)) ((τ21 (4 * q.toNat + 2)) + mz35) (τ47 (4 * q.toNat + 3)) (κ (20 + q.toNat)) ⟨by omega, by omega, by omega, hw49.mk, by omega⟩
    obtain ⟨cm50V, cm50e⟩ : ∃ zz9 : zV, zz9 = (zu V43 (md (70 + q.toNat)) (70 + q.toNat) (za Γ.2.1 0 5 (zr5 (κ (10 + q.toNat)) (τ47 (4 * q.toNat)) (τ47 (4 * q.toNat + 1)) ((τ21 (4 * q.toNat + 2)) + mz35) (κ (20 + q.toNat))))) := ⟨_, rfl⟩
    obtain ⟨κ51, κ51e⟩ : ∃ zz9 : Nat → Int, zz9 = zf κ (20 + q.toNat) (κ (20 + q.toNat)) := ⟨_, rfl⟩
    have cm50m : zMo Γ cm50V c md (zw4 τ47 q.toNat (τ47 (4 * q.toNat)) (τ47 (4 * q.toNat + 1)) ((τ21 (4 * q.toNat + 2)) + mz35) (τ47 (4 * q.toNat + 3))) κ51 E := by
      rw [κ51e, cm50e]
      exact cm50h
    have cm50g : zag (fun x => x ≠ 70 + q.toNat) V43 cm50V := by
      rw [cm50e]
      exact cm50f
    refine zr_view (cm50e).symm ?_
    have lc52 := cm50g _ _ _ lc45 (by omega)
    have fx53 : zfm V cm50V := zag.tr fx46 (cm50g.mono (fun t ht => by omega))
    obtain ⟨τ54, τ54e⟩ : ∃ zz9 : Nat → Int, zz9 = zw4 τ47 q.toNat (τ47 (4 * q.toNat)) (τ47 (4 * q.toNat + 1)) ((τ21 (4 * q.toNat + 2)) + mz35) (τ47 (4 * q.toNat + 3)) := ⟨_, rfl⟩
    rw [← τ54e] at cm50m
    have τ54_q0 : τ54 (4 * q.toNat) = τ47 (4 * q.toNat) := by rw [τ54e]; exact zw4_0
    have τ54_q1 : τ54 (4 * q.toNat + 1) = τ47 (4 * q.toNat + 1) := by rw [τ54e]; exact zw4_1
    have τ54_q2 : τ54 (4 * q.toNat + 2) = (τ21 (4 * q.toNat + 2)) + mz35 := by rw [τ54e]; exact zw4_2
    have τ54_q3 : τ54 (4 * q.toNat + 3) = τ47 (4 * q.toNat + 3) := by rw [τ54e]; exact zw4_3
    show zG C cm50V (3011 - 1) (6340 - 40) 56 [(5, .int (zI (mz35))), (4, .ref hp33q), (3, .ref (md (70 + q.toNat))), (0, .ref (c 60)), (1, .int (zI (q))), (2, .int (zI (n)))] []
    refine zr_aload X 58 1 dX8_read__56 rfl rfl ?_
    refine zr_iconst X 59 dX8_read__58 rfl ?_
    refine zr_iload X 61 0 dX8_read__59 rfl rfl ?_
    refine zr_callS (kc' := (3011 - 1) - 3010) (ks' := (6340 - 40) - 6300) X 64 3 (m_X8_told l Γ (fr := 0) (to := mz35) lc52 hp33c (by omega) (by omega) (by omega)) gX8_read__X8_told rfl (by decide +kernel) rfl (by decide) rfl (Nat.le_of_ble_eq_true rfl) dX8_read__61 rfl (by omega) (by omega) (fun rv55 V56 hp57 => ?_)
    obtain ⟨hp57z, hp57e, hp57f⟩ := hp57
    rw [hp57e]
    have hp57g : zag (fun x => x ≠ 7) cm50V V56 := hp57f
    have hp57m := cm50m.kept hp57g (fun t h1 h2 => by omega)
    have lc58 := hp57g _ _ _ lc52 (by omega)
    have fx59 : zfm V V56 := zag.tr fx53 (hp57g.mono (fun t ht => by omega))
    show zG C V56 ((3011 - 1) - 3010) ((6340 - 40) - 6300) 64 [(5, .int (zI (mz35))), (4, .ref hp33q), (3, .ref (md (70 + q.toNat))), (0, .ref (c 60)), (1, .int (zI (q))), (2, .int (zI (n)))] [.ref hp57z]
    exact zr_aret X rfl (Or.inl ⟨_, rfl⟩) ⟨hp57z, md, τ54, κ51, rfl, hp57m.le (by omega), fx59, Or.inr (Or.inr ⟨by omega, by omega, ⟨mz35, by omega, by omega, by omega, by omega, by rw [τ54e, τ47e, zdn_zw4 (by omega)]; rw [show zdn τ21 (4 * q.toNat) = τ21 (4 * q.toNat) from zdn_ne (by omega), show zdn τ21 (4 * q.toNat + 1) = τ21 (4 * q.toNat + 1) from zdn_ne (by omega), show zdn τ21 (4 * q.toNat + 3) = τ21 (4 * q.toNat + 3) from zdn_ne (by omega), τ21e]⟩⟩)⟩ dX8_read__64
set_option maxRecDepth 100000 in
set_option maxHeartbeats 4000000 in
theorem m_X8_pour (l : Launch) (Γ : zGam) {V : zV} {c md : Nat → Nat} {τ κ : Nat → Int} {E : Int} {q q2 n : Int} (hM : zMo Γ V c md τ κ E) (hq : -2147483648 ≤ q ∧ q ≤ 2147483647) (hq2 : -2147483648 ≤ q2 ∧ q2 ≤ 2147483647) (hn : -2147483648 ≤ n ∧ n ≤ 2147483647) : zM l Γ 4 yX8_pour wsX8_pour 0 0 V [.ref (c 60), .int (zI (q)), .int (zI (q2)), .int (zI (n))] (fun rv V' => ∃ (y : Int) (md' : Nat → Nat) (τ' κ' : Nat → Int), rv = some (.int (zI y)) ∧ zMo Γ V' c md' τ' κ' (E + 40) ∧ zfm V V' ∧ ((¬ ((0 ≤ q ∧ q ≤ 5) ∧ (0 ≤ q2 ∧ q2 ≤ 5)) ∧ y = 0 ∧ τ' = zf τ 36 1) ∨ (((0 ≤ q ∧ q ≤ 5) ∧ (0 ≤ q2 ∧ q2 ≤ 5)) ∧ ¬ (q ≠ q2 ∧ 0 ≤ n ∧ n ≤ 40) ∧ y = 0 ∧ τ' = zf τ 36 2) ∨ (((0 ≤ q ∧ q ≤ 5) ∧ (0 ≤ q2 ∧ q2 ≤ 5)) ∧ (q ≠ q2 ∧ 0 ≤ n ∧ n ≤ 40) ∧ (0 ≤ y ∧ y ≤ n ∧ y ≤ (zf τ 36 0) (4 * q.toNat + 1) - (zf τ 36 0) (4 * q.toNat + 2) ∧ y ≤ (zf τ 36 0) (4 * q2.toNat + 1) - (zf τ 36 0) (4 * q2.toNat + 2) ∧ (y = n ∨ y = (zf τ 36 0) (4 * q.toNat + 1) - (zf τ 36 0) (4 * q.toNat + 2) ∨ y = (zf τ 36 0) (4 * q2.toNat + 1) - (zf τ 36 0) (4 * q2.toNat + 2)) ∧ τ' = zdn (zpo (zw4 (zw4 (zf τ 36 0) q.toNat ((zf τ 36 0) (4 * q.toNat)) ((zf τ 36 0) (4 * q.toNat + 1)) ((zf τ 36 0) (4 * q.toNat + 2) + y) ((zf τ 36 0) (4 * q.toNat + 3))) q2.toNat ((zf τ 36 0) (4 * q2.toNat)) ((zf τ 36 0) (4 * q2.toNat + 1)) ((zf τ 36 0) (4 * q2.toNat + 2) + y) ((zf τ 36 0) (4 * q2.toNat + 3))) (zTp ((zf τ 36 0) (40 + q.toNat) + (zf τ 36 0) (4 * q.toNat + 2))) (zTp ((zf τ 36 0) (40 + q2.toNat) + (zf τ 36 0) (4 * q2.toNat + 2))) (y).toNat))))) := by
  have w0 : Cond.fieldLink RX8 14 "SashwordsModel" "windows" "[[I" ∈ wsX8_pour := by decide +kernel
  have iX8 : ∀ w ∈ u_ws RX8 TX8 11, w ∈ wsX8_pour := by decide +kernel
  have w2 : Cond.methodLink RX8 97 Lib.Math.min.name ∈ wsX8_pour := by decide +kernel
  have w3 : Cond.static Lib.Math.min.name ∈ wsX8_pour := by decide +kernel
  have w4 : Cond.initialized "java/lang/Math" ∈ wsX8_pour := by decide +kernel
  have w5 : Cond.code Lib.Math.min.name Lib.Math.min.code 2 (some .int) ∈ wsX8_pour := by decide +kernel
  refine zM_of (cc := cX8_pour) (nL := 6) (ret := (some .int)) (own := RX8) (by decide +kernel) rfl rfl (Nat.le_of_ble_eq_true rfl) (fun C X hi0 => ?_)
  have nn1 : 0 ≤ κ 0 ∧ κ 0 ≤ κ 1 ∧ κ 0 ≤ E ∧ κ 1 ≤ 7000 := hM.n.1
  show zG C V 0 0 0 [(0, .ref (c 60)), (1, .int (zI (q))), (2, .int (zI (q2))), (3, .int (zI (n)))] []
  refine zr_aload_n X 1 0 dX8_pour_0 rfl rfl ?_
  refine zr_iload_n X 2 1 dX8_pour_1 rfl rfl ?_
  refine zr_callS (kc' := 0) (ks' := 0) X 5 1 (m_X8_isNoWindow l Γ (V := V) (x := q) (by omega)) gX8_pour_X8_isNoWindow rfl (by decide +kernel) rfl (by decide) rfl (Nat.le_of_ble_eq_true rfl) dX8_pour_2 rfl (by omega) (by omega) (fun rv2 V3 hp4 => ?_)
  obtain ⟨⟨no5, no5e, no5a⟩, no5v⟩ := hp4
  rw [no5e, no5v]
  show zG C V 0 0 5 [(0, .ref (c 60)), (1, .int (zI (q))), (2, .int (zI (q2))), (3, .int (zI (n)))] [.int (zI (no5)), .ref (c 60)]
  refine zr_if_ne X 15 8 dX8_pour_5 rfl rfl (by omega) (fun bq6 => ?_) (fun bq6 => ?_)
  · refine zr_iconst X 16 dX8_pour_15 rfl ?_
    refine zr_goto X 20 dX8_pour_16 rfl ?_
    refine zr_iload_n X 21 1 dX8_pour_20 rfl rfl ?_
    refine zr_iload_n X 22 2 dX8_pour_21 rfl rfl ?_
    refine zr_icmp_eq X 35 25 dX8_pour_22 rfl rfl (by omega) (by omega) (fun bq7 => ?_) (fun bq7 => ?_)
    · refine zr_iconst X 36 dX8_pour_35 rfl ?_
      refine zr_goto X 40 dX8_pour_36 rfl ?_
      refine zr_callVe (kc' := 0) (ks' := 0) X 43 2 (m_X8_isThrown l Γ hM (a := 1) (b := 1) (by omega) (by omega)) gX8_pour_X8_isThrown rfl (by decide +kernel) rfl (by decide) ⟨_, _, hM.1⟩ rfl rfl (Nat.le_of_ble_eq_true rfl) dX8_pour_40 rfl (by omega) (by omega) (fun rv8 V9 hp10 => ?_)
      obtain ⟨⟨hp10x, hp10k, hp10e, hp10c, hp10m⟩, hp10g⟩ := hp10
      rw [hp10e]
      rcases hp10c with ⟨tc11a, tc11k, tc11x⟩ | ⟨tc11a, tc11b, tc11k, tc11x⟩ | ⟨tc11a, tc11b, tc11k, tc11x⟩
      · skip
        subst tc11k tc11x
        have fx12 : zfm V V9 := (hp10g.mono (fun t ht => by omega))
        obtain ⟨τ13, τ13e⟩ : ∃ zz9 : Nat → Int, zz9 = zf τ 36 1 := ⟨_, rfl⟩
        rw [← τ13e] at hp10m
        show zG C V9 0 0 43 [(0, .ref (c 60)), (1, .int (zI (q))), (2, .int (zI (q2))), (3, .int (zI (n)))] [.int (zI (1))]
        refine zr_if_eq X 48 46 dX8_pour_43 rfl rfl (by omega) (fun bq14 => absurd bq14 (by omega)) (fun bq14 => ?_)
        refine zr_iconst X 47 dX8_pour_46 rfl ?_
        exact zr_iret X rfl ⟨0, md, τ13, κ, rfl, hp10m.le (by omega), fx12, Or.inl ⟨by omega, rfl, by rw [τ13e]⟩⟩ dX8_pour_47
      · exact absurd tc11a (by decide)
      · exact absurd tc11a (by decide)
    · refine zr_iload_n X 26 3 dX8_pour_25 rfl rfl ?_
      refine zr_iconst X 27 dX8_pour_26 rfl ?_
      refine zr_bipush X 29 (40) dX8_pour_27 rfl (by decide) ?_
      refine zr_callS (kc' := 0) (ks' := 0) X 32 3 (m_X8_isNo l Γ (V := V) (x := n) (a := 0) (b := 40) (by omega) (by omega) (by omega)) gX8_pour_X8_isNo rfl (by decide +kernel) rfl (by decide) rfl (Nat.le_of_ble_eq_true rfl) dX8_pour_29 rfl (by omega) (by omega) (fun rv15 V16 hp17 => ?_)
      obtain ⟨⟨no18, no18e, no18a⟩, no18v⟩ := hp17
      rw [no18e, no18v]
      show zG C V 0 0 32 [(0, .ref (c 60)), (1, .int (zI (q))), (2, .int (zI (q2))), (3, .int (zI (n)))] [.int (zI (no18)), .int (zI (1)), .ref (c 60)]
      refine zr_if_eq X 39 35 dX8_pour_32 rfl rfl (by omega) (fun bq19 => ?_) (fun bq19 => ?_)
      · refine zr_iconst X 40 dX8_pour_39 rfl ?_
        refine zr_callVe (kc' := 0) (ks' := 0) X 43 2 (m_X8_isThrown l Γ hM (a := 1) (b := 0) (by omega) (by omega)) gX8_pour_X8_isThrown rfl (by decide +kernel) rfl (by decide) ⟨_, _, hM.1⟩ rfl rfl (Nat.le_of_ble_eq_true rfl) dX8_pour_40 rfl (by omega) (by omega) (fun rv20 V21 hp22 => ?_)
        obtain ⟨⟨hp22x, hp22k, hp22e, hp22c, hp22m⟩, hp22g⟩ := hp22
        rw [hp22e]
        rcases hp22c with ⟨tc23a, tc23k, tc23x⟩ | ⟨tc23a, tc23b, tc23k, tc23x⟩ | ⟨tc23a, tc23b, tc23k, tc23x⟩
        · skip
          subst tc23k tc23x
          have fx24 : zfm V V21 := (hp22g.mono (fun t ht => by omega))
          obtain ⟨τ25, τ25e⟩ : ∃ zz9 : Nat → Int, zz9 = zf τ 36 1 := ⟨_, rfl⟩
          rw [← τ25e] at hp22m
          show zG C V21 0 0 43 [(0, .ref (c 60)), (1, .int (zI (q))), (2, .int (zI (q2))), (3, .int (zI (n)))] [.int (zI (1))]
          refine zr_if_eq X 48 46 dX8_pour_43 rfl rfl (by omega) (fun bq26 => absurd bq26 (by omega)) (fun bq26 => ?_)
          refine zr_iconst X 47 dX8_pour_46 rfl ?_
          exact zr_iret X rfl ⟨0, md, τ25, κ, rfl, hp22m.le (by omega), fx24, Or.inl ⟨by omega, rfl, by rw [τ25e]⟩⟩ dX8_pour_47
        · exact absurd tc23a (by decide)
        · exact absurd tc23a (by decide)
      · refine zr_iconst X 36 dX8_pour_35 rfl ?_
        refine zr_goto X 40 dX8_pour_36 rfl ?_
        refine zr_callVe (kc' := 0) (ks' := 0) X 43 2 (m_X8_isThrown l Γ hM (a := 1) (b := 1) (by omega) (by omega)) gX8_pour_X8_isThrown rfl (by decide +kernel) rfl (by decide) ⟨_, _, hM.1⟩ rfl rfl (Nat.le_of_ble_eq_true rfl) dX8_pour_40 rfl (by omega) (by omega) (fun rv27 V28 hp29 => ?_)
        obtain ⟨⟨hp29x, hp29k, hp29e, hp29c, hp29m⟩, hp29g⟩ := hp29
        rw [hp29e]
        rcases hp29c with ⟨tc30a, tc30k, tc30x⟩ | ⟨tc30a, tc30b, tc30k, tc30x⟩ | ⟨tc30a, tc30b, tc30k, tc30x⟩
        · skip
          subst tc30k tc30x
          have fx31 : zfm V V28 := (hp29g.mono (fun t ht => by omega))
          obtain ⟨τ32, τ32e⟩ : ∃ zz9 : Nat → Int, zz9 = zf τ 36 1 := ⟨_, rfl⟩
          rw [← τ32e] at hp29m
          show zG C V28 0 0 43 [(0, .ref (c 60)), (1, .int (zI (q))), (2, .int (zI (q2))), (3, .int (zI (n)))] [.int (zI (1))]
          refine zr_if_eq X 48 46 dX8_pour_43 rfl rfl (by omega) (fun bq33 => absurd bq33 (by omega)) (fun bq33 => ?_)
          refine zr_iconst X 47 dX8_pour_46 rfl ?_
          exact zr_iret X rfl ⟨0, md, τ32, κ, rfl, hp29m.le (by omega), fx31, Or.inl ⟨by omega, rfl, by rw [τ32e]⟩⟩ dX8_pour_47
        · exact absurd tc30a (by decide)
        · exact absurd tc30a (by decide)
  · refine zr_iload_n X 9 2 dX8_pour_8 rfl rfl ?_
    refine zr_callS (kc' := 0) (ks' := 0) X 12 1 (m_X8_isNoWindow l Γ (V := V) (x := q2) (by omega)) gX8_pour_X8_isNoWindow rfl (by decide +kernel) rfl (by decide) rfl (Nat.le_of_ble_eq_true rfl) dX8_pour_9 rfl (by omega) (by omega) (fun rv34 V35 hp36 => ?_)
    obtain ⟨⟨no37, no37e, no37a⟩, no37v⟩ := hp36
    rw [no37e, no37v]
    show zG C V 0 0 12 [(0, .ref (c 60)), (1, .int (zI (q))), (2, .int (zI (q2))), (3, .int (zI (n)))] [.int (zI (no37)), .ref (c 60)]
    refine zr_if_eq X 19 15 dX8_pour_12 rfl rfl (by omega) (fun bq38 => ?_) (fun bq38 => ?_)
    · refine zr_iconst X 20 dX8_pour_19 rfl ?_
      refine zr_iload_n X 21 1 dX8_pour_20 rfl rfl ?_
      refine zr_iload_n X 22 2 dX8_pour_21 rfl rfl ?_
      refine zr_icmp_eq X 35 25 dX8_pour_22 rfl rfl (by omega) (by omega) (fun bq39 => ?_) (fun bq39 => ?_)
      · refine zr_iconst X 36 dX8_pour_35 rfl ?_
        refine zr_goto X 40 dX8_pour_36 rfl ?_
        refine zr_callVe (kc' := 0) (ks' := 0) X 43 2 (m_X8_isThrown l Γ hM (a := 0) (b := 1) (by omega) (by omega)) gX8_pour_X8_isThrown rfl (by decide +kernel) rfl (by decide) ⟨_, _, hM.1⟩ rfl rfl (Nat.le_of_ble_eq_true rfl) dX8_pour_40 rfl (by omega) (by omega) (fun rv40 V41 hp42 => ?_)
        obtain ⟨⟨hp42x, hp42k, hp42e, hp42c, hp42m⟩, hp42g⟩ := hp42
        rw [hp42e]
        rcases hp42c with ⟨tc43a, tc43k, tc43x⟩ | ⟨tc43a, tc43b, tc43k, tc43x⟩ | ⟨tc43a, tc43b, tc43k, tc43x⟩
        · exact absurd tc43a (by decide)
        · skip
          subst tc43k tc43x
          have fx44 : zfm V V41 := (hp42g.mono (fun t ht => by omega))
          obtain ⟨τ45, τ45e⟩ : ∃ zz9 : Nat → Int, zz9 = zf τ 36 2 := ⟨_, rfl⟩
          rw [← τ45e] at hp42m
          show zG C V41 0 0 43 [(0, .ref (c 60)), (1, .int (zI (q))), (2, .int (zI (q2))), (3, .int (zI (n)))] [.int (zI (1))]
          refine zr_if_eq X 48 46 dX8_pour_43 rfl rfl (by omega) (fun bq46 => absurd bq46 (by omega)) (fun bq46 => ?_)
          refine zr_iconst X 47 dX8_pour_46 rfl ?_
          exact zr_iret X rfl ⟨0, md, τ45, κ, rfl, hp42m.le (by omega), fx44, Or.inr (Or.inl ⟨by omega, by omega, rfl, by rw [τ45e]⟩)⟩ dX8_pour_47
        · exact absurd tc43b (by decide)
      · refine zr_iload_n X 26 3 dX8_pour_25 rfl rfl ?_
        refine zr_iconst X 27 dX8_pour_26 rfl ?_
        refine zr_bipush X 29 (40) dX8_pour_27 rfl (by decide) ?_
        refine zr_callS (kc' := 0) (ks' := 0) X 32 3 (m_X8_isNo l Γ (V := V) (x := n) (a := 0) (b := 40) (by omega) (by omega) (by omega)) gX8_pour_X8_isNo rfl (by decide +kernel) rfl (by decide) rfl (Nat.le_of_ble_eq_true rfl) dX8_pour_29 rfl (by omega) (by omega) (fun rv47 V48 hp49 => ?_)
        obtain ⟨⟨no50, no50e, no50a⟩, no50v⟩ := hp49
        rw [no50e, no50v]
        show zG C V 0 0 32 [(0, .ref (c 60)), (1, .int (zI (q))), (2, .int (zI (q2))), (3, .int (zI (n)))] [.int (zI (no50)), .int (zI (0)), .ref (c 60)]
        refine zr_if_eq X 39 35 dX8_pour_32 rfl rfl (by omega) (fun bq51 => ?_) (fun bq51 => ?_)
        · refine zr_iconst X 40 dX8_pour_39 rfl ?_
          refine zr_callVe (kc' := 0) (ks' := 0) X 43 2 (m_X8_isThrown l Γ hM (a := 0) (b := 0) (by omega) (by omega)) gX8_pour_X8_isThrown rfl (by decide +kernel) rfl (by decide) ⟨_, _, hM.1⟩ rfl rfl (Nat.le_of_ble_eq_true rfl) dX8_pour_40 rfl (by omega) (by omega) (fun rv52 V53 hp54 => ?_)
          obtain ⟨⟨hp54x, hp54k, hp54e, hp54c, hp54m⟩, hp54g⟩ := hp54
          rw [hp54e]
          rcases hp54c with ⟨tc55a, tc55k, tc55x⟩ | ⟨tc55a, tc55b, tc55k, tc55x⟩ | ⟨tc55a, tc55b, tc55k, tc55x⟩
          · exact absurd tc55a (by decide)
          · exact absurd tc55b (by decide)
          · skip
            subst tc55k tc55x
            have fx56 : zfm V V53 := (hp54g.mono (fun t ht => by omega))
            obtain ⟨τ57, τ57e⟩ : ∃ zz9 : Nat → Int, zz9 = zf τ 36 0 := ⟨_, rfl⟩
            rw [← τ57e] at hp54m
            show zG C V53 0 0 43 [(0, .ref (c 60)), (1, .int (zI (q))), (2, .int (zI (q2))), (3, .int (zI (n)))] [.int (zI (0))]
            refine zr_if_eq X 48 46 dX8_pour_43 rfl rfl (by omega) (fun bq58 => ?_) (fun bq58 => absurd bq58 (by omega))
            refine zr_iload_n X 49 3 dX8_pour_48 rfl rfl ?_
            refine zr_aload_n X 50 0 dX8_pour_49 rfl rfl ?_
            have c859 : V53 (c 60) = some (60, .inr (9, [.ref (md 61), .int (zI (κ 0)), .ref (c 62), .ref (md 63), .ref (md 64), .ref (c 65), .int (zI (τ57 26)), .int (zI (τ57 28)), .int (zI (τ57 29)), .ref (c 66), .int (zI (τ57 36))])) := hp54m.1
            refine zr_get X 53 9 2 c859 rfl iX8 (by decide) w0 rfl rfl dX8_pour_50 rfl ?_
            refine zr_iload_n X 54 1 dX8_pour_53 rfl rfl ?_
            have c860 : V53 (c 62) = some (62, zq Γ.2.1 4 6 (fun i => some (md (70 + i)))) := hp54m.2.2.1
            refine zr_aaldI X 55 (.ref (md (70 + q.toNat))) c860 (by omega) rfl dX8_pour_54 rfl ?_
            have hw62 := hp54m.w (i := q.toNat) (by omega)
            have hw62r := hw62.rg
            have z063 : (zf τ 36 0) (4 * q.toNat) = τ57 (4 * q.toNat) := by rw [τ57e]
            have z064 : (zf τ 36 0) (4 * q.toNat + 1) = τ57 (4 * q.toNat + 1) := by rw [τ57e]
            have z065 : (zf τ 36 0) (4 * q.toNat + 2) = τ57 (4 * q.toNat + 2) := by rw [τ57e]
            have z066 : (zf τ 36 0) (4 * q.toNat + 3) = τ57 (4 * q.toNat + 3) := by rw [τ57e]
            refine zr_callS (kc' := 0) (ks' := 0) X 58 1 (m_X8_length l Γ hw62.1 (by omega)) gX8_pour_X8_length rfl (by decide +kernel) rfl (by decide) rfl (Nat.le_of_ble_eq_true rfl) dX8_pour_55 rfl (by omega) (by omega) (fun rv67 V68 hp69 => ?_)
            rw [hp69.1, hp69.2]
            show zG C V53 0 0 58 [(0, .ref (c 60)), (1, .int (zI (q))), (2, .int (zI (q2))), (3, .int (zI (n)))] [.int (zI ((τ57 (4 * q.toNat + 1)) - (τ57 (4 * q.toNat + 2)))), .int (zI (n))]
            refine zr_aload_n X 59 0 dX8_pour_58 rfl rfl ?_
            refine zr_get X 62 9 2 c859 rfl iX8 (by decide) w0 rfl rfl dX8_pour_59 rfl ?_
            refine zr_iload_n X 63 2 dX8_pour_62 rfl rfl ?_
            refine zr_aaldI X 64 (.ref (md (70 + q2.toNat))) c860 (by omega) rfl dX8_pour_63 rfl ?_
            have hw71 := hp54m.w (i := q2.toNat) (by omega)
            have hw71r := hw71.rg
            have z072 : (zf τ 36 0) (4 * q2.toNat) = τ57 (4 * q2.toNat) := by rw [τ57e]
            have z073 : (zf τ 36 0) (4 * q2.toNat + 1) = τ57 (4 * q2.toNat + 1) := by rw [τ57e]
            have z074 : (zf τ 36 0) (4 * q2.toNat + 2) = τ57 (4 * q2.toNat + 2) := by rw [τ57e]
            have z075 : (zf τ 36 0) (4 * q2.toNat + 3) = τ57 (4 * q2.toNat + 3) := by rw [τ57e]
            refine zr_callS (kc' := 0) (ks' := 0) X 67 1 (m_X8_length l Γ hw71.1 (by omega)) gX8_pour_X8_length rfl (by decide +kernel) rfl (by decide) rfl (Nat.le_of_ble_eq_true rfl) dX8_pour_64 rfl (by omega) (by omega) (fun rv76 V77 hp78 => ?_)
            rw [hp78.1, hp78.2]
            show zG C V53 0 0 67 [(0, .ref (c 60)), (1, .int (zI (q))), (2, .int (zI (q2))), (3, .int (zI (n)))] [.int (zI ((τ57 (4 * q2.toNat + 1)) - (τ57 (4 * q2.toNat + 2)))), .int (zI ((τ57 (4 * q.toNat + 1)) - (τ57 (4 * q.toNat + 2)))), .int (zI (n))]
            obtain ⟨mz79, mz79e, mz79a⟩ : ∃ z9 : Int, z9 = (if (τ57 (4 * q2.toNat + 1)) - (τ57 (4 * q2.toNat + 2)) < (τ57 (4 * q.toNat + 1)) - (τ57 (4 * q.toNat + 2)) then (τ57 (4 * q2.toNat + 1)) - (τ57 (4 * q2.toNat + 2)) else (τ57 (4 * q.toNat + 1)) - (τ57 (4 * q.toNat + 2))) ∧ (((τ57 (4 * q2.toNat + 1)) - (τ57 (4 * q2.toNat + 2)) < (τ57 (4 * q.toNat + 1)) - (τ57 (4 * q.toNat + 2)) ∧ z9 = (τ57 (4 * q2.toNat + 1)) - (τ57 (4 * q2.toNat + 2))) ∨ (¬ (τ57 (4 * q2.toNat + 1)) - (τ57 (4 * q2.toNat + 2)) < (τ57 (4 * q.toNat + 1)) - (τ57 (4 * q.toNat + 2)) ∧ z9 = (τ57 (4 * q.toNat + 1)) - (τ57 (4 * q.toNat + 2)))) := zmine _ _
            refine zr_mmin X 70 (mz79) w2 w3 w4 w5 (by decide) (Nat.le_of_ble_eq_true rfl) (by omega) (by omega) mz79e dX8_pour_67 rfl ?_
            clear mz79e
            obtain ⟨mz80, mz80e, mz80a⟩ : ∃ z9 : Int, z9 = (if mz79 < n then mz79 else n) ∧ ((mz79 < n ∧ z9 = mz79) ∨ (¬ mz79 < n ∧ z9 = n)) := zmine _ _
            refine zr_mmin X 73 (mz80) w2 w3 w4 w5 (by decide) (Nat.le_of_ble_eq_true rfl) (by omega) (by omega) mz80e dX8_pour_70 rfl ?_
            clear mz80e
            refine zr_istore X 75 [(4, .int (zI (mz80))), (0, .ref (c 60)), (1, .int (zI (q))), (2, .int (zI (q2))), (3, .int (zI (n)))] dX8_pour_73 rfl (by decide) rfl ?_
            refine zr_iconst X 76 dX8_pour_75 rfl ?_
            refine zr_istore X 78 [(5, .int (zI (0))), (4, .int (zI (mz80))), (0, .ref (c 60)), (1, .int (zI (q))), (2, .int (zI (q2))), (3, .int (zI (n)))] dX8_pour_76 rfl (by decide) rfl ?_
            refine zr_sub [0, 1, 5, 4, 3, 2] [(5, .int (zI (0))), (4, .int (zI (mz80))), (3, .int (zI (n))), (2, .int (zI (q2))), (1, .int (zI (q))), (0, .ref (c 60))] rfl ?_
            have loop : ∀ (N : Nat) (V1 : zV) (τ1 : Nat → Int) (k : Int), zMo Γ V1 c md τ1 κ E ∧ zfm V V1 ∧ τ1 = zpo (zw4 (zw4 τ57 q.toNat (τ57 (4 * q.toNat)) (τ57 (4 * q.toNat + 1)) (τ57 (4 * q.toNat + 2) + k) (τ57 (4 * q.toNat + 3))) q2.toNat (τ57 (4 * q2.toNat)) (τ57 (4 * q2.toNat + 1)) (τ57 (4 * q2.toNat + 2) + k) (τ57 (4 * q2.toNat + 3))) (zTp (τ57 (40 + q.toNat) + τ57 (4 * q.toNat + 2))) (zTp (τ57 (40 + q2.toNat) + τ57 (4 * q2.toNat + 2))) (k).toNat ∧ 0 ≤ k ∧ (k ≤ mz80 ∨ k = 0) → (mz80 - k).toNat = N → zG C V1 0 0 78 [(5, .int (zI (k))), (4, .int (zI (mz80))), (3, .int (zI (n))), (2, .int (zI (q2))), (1, .int (zI (q))), (0, .ref (c 60))] [] := by
              intro N
              induction N using Nat.strongRecOn with
              | _ N ih =>
              intro V1 τ1 k hI hN
              obtain ⟨hI1, hI2, hI3, hI4, hI5⟩ := id hI
              have nn81 : 0 ≤ κ 0 ∧ κ 0 ≤ κ 1 ∧ κ 0 ≤ E ∧ κ 1 ≤ 7000 := hI1.n.1
              have fq0 : τ1 (4 * q.toNat) = τ57 (4 * q.toNat) := by rw [hI3, zpoT_lo (by omega), zw4_ne0 (show q.toNat ≠ q2.toNat by omega)]; exact zw4_0
              have fq1 : τ1 (4 * q.toNat + 1) = τ57 (4 * q.toNat + 1) := by rw [hI3, zpoT_lo (by omega), zw4_ne (show q.toNat ≠ q2.toNat by omega) (by omega)]; exact zw4_1
              have fq2 : τ1 (4 * q.toNat + 2) = τ57 (4 * q.toNat + 2) + k := by rw [hI3, zpoT_lo (by omega), zw4_ne (show q.toNat ≠ q2.toNat by omega) (by omega)]; exact zw4_2
              have fq3 : τ1 (4 * q.toNat + 3) = τ57 (4 * q.toNat + 3) := by rw [hI3, zpoT_lo (by omega), zw4_ne (show q.toNat ≠ q2.toNat by omega) (by omega)]; exact zw4_3
              have fq20 : τ1 (4 * q2.toNat) = τ57 (4 * q2.toNat) := by rw [hI3]; exact (zpoT_lo (by omega)).trans zw4_0
              have fq21 : τ1 (4 * q2.toNat + 1) = τ57 (4 * q2.toNat + 1) := by rw [hI3]; exact (zpoT_lo (by omega)).trans zw4_1
              have fq22 : τ1 (4 * q2.toNat + 2) = τ57 (4 * q2.toNat + 2) + k := by rw [hI3]; exact (zpoT_lo (by omega)).trans zw4_2
              have fq23 : τ1 (4 * q2.toNat + 3) = τ57 (4 * q2.toNat + 3) := by rw [hI3]; exact (zpoT_lo (by omega)).trans zw4_3
              have fqs : τ1 (40 + q.toNat) = τ57 (40 + q.toNat) := by rw [hI3, zpoT_lo (by omega), zw4_hi (by omega) (by omega), zw4_hi (by omega) (by omega)]
              have gqs : 0 ≤ τ57 (40 + q.toNat) := by rw [← fqs, ← hI1.ct.2.2.1.2 q.toNat (by omega)]; exact (hI1.w (i := q.toNat) (by omega)).rg.1
              have fq2s : τ1 (40 + q2.toNat) = τ57 (40 + q2.toNat) := by rw [hI3, zpoT_lo (by omega), zw4_hi (by omega) (by omega), zw4_hi (by omega) (by omega)]
              have gq2s : 0 ≤ τ57 (40 + q2.toNat) := by rw [← fq2s, ← hI1.ct.2.2.1.2 q2.toNat (by omega)]; exact (hI1.w (i := q2.toNat) (by omega)).rg.1
              refine zr_iload X 80 0 dX8_pour_78 rfl rfl ?_
              refine zr_iload X 82 1 dX8_pour_80 rfl rfl ?_
              refine zr_icmp_ge X 111 85 dX8_pour_82 rfl rfl (by omega) (by omega) (fun bq82 => ?_) (fun bq82 => ?_)
              · refine zr_aload_n X 112 5 dX8_pour_111 rfl rfl ?_
                refine zr_iload X 114 1 dX8_pour_112 rfl rfl ?_
                refine zr_callVe (kc' := 0) (ks' := 0) X 117 1 (m_X8_done l Γ hI1) gX8_pour_X8_done rfl (by decide +kernel) rfl (by decide) ⟨_, _, hI1.1⟩ rfl rfl (Nat.le_of_ble_eq_true rfl) dX8_pour_114 rfl (by omega) (by omega) (fun rv83 V84 hp85 => ?_)
                obtain ⟨hp85e, hp85m, hp85g⟩ := hp85
                rw [hp85e]
                have fx86 : zfm V V84 := zag.tr hI2 (hp85g.mono (fun t ht => by omega))
                obtain ⟨τ87, τ87e⟩ : ∃ zz9 : Nat → Int, zz9 = zdn τ1 := ⟨_, rfl⟩
                rw [← τ87e] at hp85m
                have τ87_q0 : τ87 (4 * q.toNat) = τ1 (4 * q.toNat) := by rw [τ87e]; exact zdn_ne (by omega)
                have τ87_q1 : τ87 (4 * q.toNat + 1) = τ1 (4 * q.toNat + 1) := by rw [τ87e]; exact zdn_ne (by omega)
                have τ87_q2 : τ87 (4 * q.toNat + 2) = τ1 (4 * q.toNat + 2) := by rw [τ87e]; exact zdn_ne (by omega)
                have τ87_q3 : τ87 (4 * q.toNat + 3) = τ1 (4 * q.toNat + 3) := by rw [τ87e]; exact zdn_ne (by omega)
                have τ87_q20 : τ87 (4 * q2.toNat) = τ1 (4 * q2.toNat) := by rw [τ87e]; exact zdn_ne (by omega)
                have τ87_q21 : τ87 (4 * q2.toNat + 1) = τ1 (4 * q2.toNat + 1) := by rw [τ87e]; exact zdn_ne (by omega)
                have τ87_q22 : τ87 (4 * q2.toNat + 2) = τ1 (4 * q2.toNat + 2) := by rw [τ87e]; exact zdn_ne (by omega)
                have τ87_q23 : τ87 (4 * q2.toNat + 3) = τ1 (4 * q2.toNat + 3) := by rw [τ87e]; exact zdn_ne (by omega)
                show zG C V84 0 0 117 [(5, .int (zI (k))), (4, .int (zI (mz80))), (3, .int (zI (n))), (2, .int (zI (q2))), (1, .int (zI (q))), (0, .ref (c 60))] [.int (zI (mz80))]
                exact zr_iret X rfl ⟨mz80, md, τ87, κ, rfl, hp85m.le (by omega), fx86, Or.inr (Or.inr ⟨by omega, by omega, ⟨by omega, by omega, by omega, by omega, by omega, by rw [show mz80 = k by omega]; exact (by rw [τ87e, hI3, τ57e])⟩⟩)⟩ dX8_pour_117
              · refine zr_aload_n X 86 5 dX8_pour_85 rfl rfl ?_
                refine zr_aload_n X 87 5 dX8_pour_86 rfl rfl ?_
                have c888 : V1 (c 60) = some (60, .inr (9, [.ref (md 61), .int (zI (κ 0)), .ref (c 62), .ref (md 63), .ref (md 64), .ref (c 65), .int (zI (τ1 26)), .int (zI (τ1 28)), .int (zI (τ1 29)), .ref (c 66), .int (zI (τ1 36))])) := hI1.1
                refine zr_get X 90 9 2 c888 rfl iX8 (by decide) w0 rfl rfl dX8_pour_87 rfl ?_
                refine zr_iload_n X 91 3 dX8_pour_90 rfl rfl ?_
                have c889 : V1 (c 62) = some (62, zq Γ.2.1 4 6 (fun i => some (md (70 + i)))) := hI1.2.2.1
                refine zr_aaldI X 92 (.ref (md (70 + q2.toNat))) c889 (by omega) rfl dX8_pour_91 rfl ?_
                refine zr_aload_n X 93 5 dX8_pour_92 rfl rfl ?_
                refine zr_aload_n X 94 5 dX8_pour_93 rfl rfl ?_
                refine zr_get X 97 9 2 c888 rfl iX8 (by decide) w0 rfl rfl dX8_pour_94 rfl ?_
                refine zr_iload_n X 98 4 dX8_pour_97 rfl rfl ?_
                refine zr_aaldI X 99 (.ref (md (70 + q.toNat))) c889 (by omega) rfl dX8_pour_98 rfl ?_
                have hw91 := hI1.w (i := q.toNat) (by omega)
                have hw91r := hw91.rg
                refine zr_callVe (kc' := 0) (ks' := 0) X 102 1 (m_X8_read l Γ (i := q) hI1 (by omega) (by omega)) gX8_pour_X8_read rfl (by decide +kernel) rfl (by decide) ⟨_, _, hI1.1⟩ rfl rfl (Nat.le_of_ble_eq_true rfl) dX8_pour_99 rfl (by omega) (by omega) (fun rv92 V93 hp94 => ?_)
                obtain ⟨⟨hp94x, hp94e, hp94a, hp94b, hp94u⟩, hp94m, hp94g⟩ := hp94
                rw [hp94e]
                have fx95 : zfm V V93 := zag.tr hI2 (hp94g.mono (fun t ht => by omega))
                obtain ⟨τ96, τ96e⟩ : ∃ zz9 : Nat → Int, zz9 = zw4 τ1 q.toNat (τ1 (4 * q.toNat)) (τ1 (4 * q.toNat + 1)) (τ1 (4 * q.toNat + 2) + 1) (τ1 (4 * q.toNat + 3)) := ⟨_, rfl⟩
                rw [← τ96e] at hp94m
                have τ96_q0 : τ96 (4 * q.toNat) = τ1 (4 * q.toNat) := by rw [τ96e]; exact zw4_0
                have τ96_q1 : τ96 (4 * q.toNat + 1) = τ1 (4 * q.toNat + 1) := by rw [τ96e]; exact zw4_1
                have τ96_q2 : τ96 (4 * q.toNat + 2) = τ1 (4 * q.toNat + 2) + 1 := by rw [τ96e]; exact zw4_2
                have τ96_q3 : τ96 (4 * q.toNat + 3) = τ1 (4 * q.toNat + 3) := by rw [τ96e]; exact zw4_3
                have τ96_q20 : τ96 (4 * q2.toNat) = τ1 (4 * q2.toNat) := by rw [τ96e]; exact zw4_ne0 (by omega)
                have τ96_q21 : τ96 (4 * q2.toNat + 1) = τ1 (4 * q2.toNat + 1) := by rw [τ96e]; exact zw4_ne (by omega) (by omega)
                have τ96_q22 : τ96 (4 * q2.toNat + 2) = τ1 (4 * q2.toNat + 2) := by rw [τ96e]; exact zw4_ne (by omega) (by omega)
                have τ96_q23 : τ96 (4 * q2.toNat + 3) = τ1 (4 * q2.toNat + 3) := by rw [τ96e]; exact zw4_ne (by omega) (by omega)
                show zG C V93 0 0 102 [(5, .int (zI (k))), (4, .int (zI (mz80))), (3, .int (zI (n))), (2, .int (zI (q2))), (1, .int (zI (q))), (0, .ref (c 60))] [.int (zI (hp94x)), .ref (md (70 + q2.toNat)), .ref (c 60)]
                have hw98 := hp94m.w (i := q2.toNat) (by omega)
                have hw98r := hw98.rg
                refine zr_callVe (kc' := 0) (ks' := 0) X 105 2 (m_X8_write l Γ (i := q2) (x := hp94x) hp94m (by omega) (by omega) (by omega)) gX8_pour_X8_write rfl (by decide +kernel) rfl (by decide) ⟨_, _, hp94m.1⟩ rfl rfl (Nat.le_of_ble_eq_true rfl) dX8_pour_102 rfl (by omega) (by omega) (fun rv99 V100 hp101 => ?_)
                obtain ⟨hp101e, hp101m, hp101g⟩ := hp101
                rw [hp101e]
                have fx102 : zfm V V100 := zag.tr fx95 (hp101g.mono (fun t ht => by omega))
                obtain ⟨τ103, τ103e⟩ : ∃ zz9 : Nat → Int, zz9 = zf (zw4 τ96 q2.toNat (τ96 (4 * q2.toNat)) (τ96 (4 * q2.toNat + 1)) (τ96 (4 * q2.toNat + 2) + 1) (τ96 (4 * q2.toNat + 3))) (zTp (τ96 (40 + q2.toNat) + τ96 (4 * q2.toNat + 2))) (hp94x) := ⟨_, rfl⟩
                rw [← τ103e] at hp101m
                have τ103_q0 : τ103 (4 * q.toNat) = τ96 (4 * q.toNat) := by rw [τ103e]; exact (zfT_lo (by omega)).trans (zw4_ne0 (by omega))
                have τ103_q1 : τ103 (4 * q.toNat + 1) = τ96 (4 * q.toNat + 1) := by rw [τ103e]; exact (zfT_lo (by omega)).trans (zw4_ne (by omega) (by omega))
                have τ103_q2 : τ103 (4 * q.toNat + 2) = τ96 (4 * q.toNat + 2) := by rw [τ103e]; exact (zfT_lo (by omega)).trans (zw4_ne (by omega) (by omega))
                have τ103_q3 : τ103 (4 * q.toNat + 3) = τ96 (4 * q.toNat + 3) := by rw [τ103e]; exact (zfT_lo (by omega)).trans (zw4_ne (by omega) (by omega))
                have τ103_q20 : τ103 (4 * q2.toNat) = τ96 (4 * q2.toNat) := by rw [τ103e]; exact (zfT_lo (by omega)).trans (zw4_0)
                have τ103_q21 : τ103 (4 * q2.toNat + 1) = τ96 (4 * q2.toNat + 1) := by rw [τ103e]; exact (zfT_lo (by omega)).trans (zw4_1)
                have τ103_q22 : τ103 (4 * q2.toNat + 2) = τ96 (4 * q2.toNat + 2) + 1 := by rw [τ103e]; exact (zfT_lo (by omega)).trans (zw4_2)
                have τ103_q23 : τ103 (4 * q2.toNat + 3) = τ96 (4 * q2.toNat + 3) := by rw [τ103e]; exact (zfT_lo (by omega)).trans (zw4_3)
                show zG C V100 0 0 105 [(5, .int (zI (k))), (4, .int (zI (mz80))), (3, .int (zI (n))), (2, .int (zI (q2))), (1, .int (zI (q))), (0, .ref (c 60))] []
                refine zr_iinc X 108 0 [(5, .int (zI (k + 1))), (4, .int (zI (mz80))), (3, .int (zI (n))), (2, .int (zI (q2))), (1, .int (zI (q))), (0, .ref (c 60))] dX8_pour_105 rfl rfl (by decide) rfl ?_
                refine zr_goto X 78 dX8_pour_108 rfl ?_
                have as104 : τ96 (40 + q2.toNat) = τ1 (40 + q2.toNat) := by rw [τ96e]; exact zw4_hi (by omega) (by omega)
                exact ih _ (by omega) V100 τ103 (k + 1) ⟨hp101m, fx102, by rw [← Int.add_assoc, ← Int.add_assoc, τ103e, τ96_q22, τ96_q20, τ96_q21, τ96_q23, as104, τ96e, fq2, fq0, fq1, fq3, fq22, fq20, fq21, fq23, fq2s, hI3]; exact zpo_step (a' := τ57 (40 + q.toNat) + (τ57 (4 * q.toNat + 2) + k)) (by omega) (by omega) (show q.toNat ≠ q2.toNat by omega) (by omega) (by omega) (by omega) (by omega) (by omega) (by rw [hp94u, fqs, fq2, hI3]), by omega, by omega⟩ rfl
            exact loop _ V53 τ57 0 ⟨hp54m, fx56, (by rw [Int.add_zero, Int.add_zero, zw4_id, zw4_id]; rfl), by omega, by omega⟩ rfl
        · refine zr_iconst X 36 dX8_pour_35 rfl ?_
          refine zr_goto X 40 dX8_pour_36 rfl ?_
          refine zr_callVe (kc' := 0) (ks' := 0) X 43 2 (m_X8_isThrown l Γ hM (a := 0) (b := 1) (by omega) (by omega)) gX8_pour_X8_isThrown rfl (by decide +kernel) rfl (by decide) ⟨_, _, hM.1⟩ rfl rfl (Nat.le_of_ble_eq_true rfl) dX8_pour_40 rfl (by omega) (by omega) (fun rv105 V106 hp107 => ?_)
          obtain ⟨⟨hp107x, hp107k, hp107e, hp107c, hp107m⟩, hp107g⟩ := hp107
          rw [hp107e]
          rcases hp107c with ⟨tc108a, tc108k, tc108x⟩ | ⟨tc108a, tc108b, tc108k, tc108x⟩ | ⟨tc108a, tc108b, tc108k, tc108x⟩
          · exact absurd tc108a (by decide)
          · skip
            subst tc108k tc108x
            have fx109 : zfm V V106 := (hp107g.mono (fun t ht => by omega))
            obtain ⟨τ110, τ110e⟩ : ∃ zz9 : Nat → Int, zz9 = zf τ 36 2 := ⟨_, rfl⟩
            rw [← τ110e] at hp107m
            show zG C V106 0 0 43 [(0, .ref (c 60)), (1, .int (zI (q))), (2, .int (zI (q2))), (3, .int (zI (n)))] [.int (zI (1))]
            refine zr_if_eq X 48 46 dX8_pour_43 rfl rfl (by omega) (fun bq111 => absurd bq111 (by omega)) (fun bq111 => ?_)
            refine zr_iconst X 47 dX8_pour_46 rfl ?_
            exact zr_iret X rfl ⟨0, md, τ110, κ, rfl, hp107m.le (by omega), fx109, Or.inr (Or.inl ⟨by omega, by omega, rfl, by rw [τ110e]⟩)⟩ dX8_pour_47
          · exact absurd tc108b (by decide)
    · refine zr_iconst X 16 dX8_pour_15 rfl ?_
      refine zr_goto X 20 dX8_pour_16 rfl ?_
      refine zr_iload_n X 21 1 dX8_pour_20 rfl rfl ?_
      refine zr_iload_n X 22 2 dX8_pour_21 rfl rfl ?_
      refine zr_icmp_eq X 35 25 dX8_pour_22 rfl rfl (by omega) (by omega) (fun bq112 => ?_) (fun bq112 => ?_)
      · refine zr_iconst X 36 dX8_pour_35 rfl ?_
        refine zr_goto X 40 dX8_pour_36 rfl ?_
        refine zr_callVe (kc' := 0) (ks' := 0) X 43 2 (m_X8_isThrown l Γ hM (a := 1) (b := 1) (by omega) (by omega)) gX8_pour_X8_isThrown rfl (by decide +kernel) rfl (by decide) ⟨_, _, hM.1⟩ rfl rfl (Nat.le_of_ble_eq_true rfl) dX8_pour_40 rfl (by omega) (by omega) (fun rv113 V114 hp115 => ?_)
        obtain ⟨⟨hp115x, hp115k, hp115e, hp115c, hp115m⟩, hp115g⟩ := hp115
        rw [hp115e]
        rcases hp115c with ⟨tc116a, tc116k, tc116x⟩ | ⟨tc116a, tc116b, tc116k, tc116x⟩ | ⟨tc116a, tc116b, tc116k, tc116x⟩
        · skip
          subst tc116k tc116x
          have fx117 : zfm V V114 := (hp115g.mono (fun t ht => by omega))
          obtain ⟨τ118, τ118e⟩ : ∃ zz9 : Nat → Int, zz9 = zf τ 36 1 := ⟨_, rfl⟩
          rw [← τ118e] at hp115m
          show zG C V114 0 0 43 [(0, .ref (c 60)), (1, .int (zI (q))), (2, .int (zI (q2))), (3, .int (zI (n)))] [.int (zI (1))]
          refine zr_if_eq X 48 46 dX8_pour_43 rfl rfl (by omega) (fun bq119 => absurd bq119 (by omega)) (fun bq119 => ?_)
          refine zr_iconst X 47 dX8_pour_46 rfl ?_
          exact zr_iret X rfl ⟨0, md, τ118, κ, rfl, hp115m.le (by omega), fx117, Or.inl ⟨by omega, rfl, by rw [τ118e]⟩⟩ dX8_pour_47
        · exact absurd tc116a (by decide)
        · exact absurd tc116a (by decide)
      · refine zr_iload_n X 26 3 dX8_pour_25 rfl rfl ?_
        refine zr_iconst X 27 dX8_pour_26 rfl ?_
        refine zr_bipush X 29 (40) dX8_pour_27 rfl (by decide) ?_
        refine zr_callS (kc' := 0) (ks' := 0) X 32 3 (m_X8_isNo l Γ (V := V) (x := n) (a := 0) (b := 40) (by omega) (by omega) (by omega)) gX8_pour_X8_isNo rfl (by decide +kernel) rfl (by decide) rfl (Nat.le_of_ble_eq_true rfl) dX8_pour_29 rfl (by omega) (by omega) (fun rv120 V121 hp122 => ?_)
        obtain ⟨⟨no123, no123e, no123a⟩, no123v⟩ := hp122
        rw [no123e, no123v]
        show zG C V 0 0 32 [(0, .ref (c 60)), (1, .int (zI (q))), (2, .int (zI (q2))), (3, .int (zI (n)))] [.int (zI (no123)), .int (zI (1)), .ref (c 60)]
        refine zr_if_eq X 39 35 dX8_pour_32 rfl rfl (by omega) (fun bq124 => ?_) (fun bq124 => ?_)
        · refine zr_iconst X 40 dX8_pour_39 rfl ?_
          refine zr_callVe (kc' := 0) (ks' := 0) X 43 2 (m_X8_isThrown l Γ hM (a := 1) (b := 0) (by omega) (by omega)) gX8_pour_X8_isThrown rfl (by decide +kernel) rfl (by decide) ⟨_, _, hM.1⟩ rfl rfl (Nat.le_of_ble_eq_true rfl) dX8_pour_40 rfl (by omega) (by omega) (fun rv125 V126 hp127 => ?_)
          obtain ⟨⟨hp127x, hp127k, hp127e, hp127c, hp127m⟩, hp127g⟩ := hp127
          rw [hp127e]
          rcases hp127c with ⟨tc128a, tc128k, tc128x⟩ | ⟨tc128a, tc128b, tc128k, tc128x⟩ | ⟨tc128a, tc128b, tc128k, tc128x⟩
          · skip
            subst tc128k tc128x
            have fx129 : zfm V V126 := (hp127g.mono (fun t ht => by omega))
            obtain ⟨τ130, τ130e⟩ : ∃ zz9 : Nat → Int, zz9 = zf τ 36 1 := ⟨_, rfl⟩
            rw [← τ130e] at hp127m
            show zG C V126 0 0 43 [(0, .ref (c 60)), (1, .int (zI (q))), (2, .int (zI (q2))), (3, .int (zI (n)))] [.int (zI (1))]
            refine zr_if_eq X 48 46 dX8_pour_43 rfl rfl (by omega) (fun bq131 => absurd bq131 (by omega)) (fun bq131 => ?_)
            refine zr_iconst X 47 dX8_pour_46 rfl ?_
            exact zr_iret X rfl ⟨0, md, τ130, κ, rfl, hp127m.le (by omega), fx129, Or.inl ⟨by omega, rfl, by rw [τ130e]⟩⟩ dX8_pour_47
          · exact absurd tc128a (by decide)
          · exact absurd tc128a (by decide)
        · refine zr_iconst X 36 dX8_pour_35 rfl ?_
          refine zr_goto X 40 dX8_pour_36 rfl ?_
          refine zr_callVe (kc' := 0) (ks' := 0) X 43 2 (m_X8_isThrown l Γ hM (a := 1) (b := 1) (by omega) (by omega)) gX8_pour_X8_isThrown rfl (by decide +kernel) rfl (by decide) ⟨_, _, hM.1⟩ rfl rfl (Nat.le_of_ble_eq_true rfl) dX8_pour_40 rfl (by omega) (by omega) (fun rv132 V133 hp134 => ?_)
          obtain ⟨⟨hp134x, hp134k, hp134e, hp134c, hp134m⟩, hp134g⟩ := hp134
          rw [hp134e]
          rcases hp134c with ⟨tc135a, tc135k, tc135x⟩ | ⟨tc135a, tc135b, tc135k, tc135x⟩ | ⟨tc135a, tc135b, tc135k, tc135x⟩
          · skip
            subst tc135k tc135x
            have fx136 : zfm V V133 := (hp134g.mono (fun t ht => by omega))
            obtain ⟨τ137, τ137e⟩ : ∃ zz9 : Nat → Int, zz9 = zf τ 36 1 := ⟨_, rfl⟩
            rw [← τ137e] at hp134m
            show zG C V133 0 0 43 [(0, .ref (c 60)), (1, .int (zI (q))), (2, .int (zI (q2))), (3, .int (zI (n)))] [.int (zI (1))]
            refine zr_if_eq X 48 46 dX8_pour_43 rfl rfl (by omega) (fun bq138 => absurd bq138 (by omega)) (fun bq138 => ?_)
            refine zr_iconst X 47 dX8_pour_46 rfl ?_
            exact zr_iret X rfl ⟨0, md, τ137, κ, rfl, hp134m.le (by omega), fx136, Or.inl ⟨by omega, rfl, by rw [τ137e]⟩⟩ dX8_pour_47
          · exact absurd tc135a (by decide)
          · exact absurd tc135a (by decide)
theorem zly_step {σ : Nat → Int} {a x k : Int} {g : Nat → Int} (ha : 0 ≤ a) (hk : 0 ≤ k) (hx : x = g k.toNat) : zf (zly σ (zTp a) k.toNat g) (zTp (a + k)) x = zly σ (zTp a) (k + 1).toNat g := by
  have e : zTp (a + k) = zTp a + k.toNat := by unfold zTp; omega
  funext j
  rw [e]
  by_cases h1 : j = zTp a + k.toNat
  · rw [h1, zf_eq, zly_at (by omega)]
    exact hx
  · rw [zf_ne h1]
    by_cases h2 : zTp a ≤ j ∧ j < zTp a + k.toNat
    · unfold zly
      rw [if_pos h2, if_pos (by omega)]
    · rw [zly_ne h2, zly_ne (by omega)]
set_option maxRecDepth 100000 in
set_option maxHeartbeats 4000000 in
theorem m_X8_compact (l : Launch) (Γ : zGam) {V : zV} {c md : Nat → Nat} {τ κ : Nat → Int} {E : Int} {q : Int} (hM : zMo Γ V c md τ κ E) (hq : -2147483648 ≤ q ∧ q ≤ 2147483647) : zM l Γ 4 yX8_compact wsX8_compact 1 40 V [.ref (c 60), .int (zI (q))] (fun rv V' => ∃ (y : Int) (md' : Nat → Nat) (τ' κ' : Nat → Int), rv = some (.int (zI y)) ∧ zMo Γ V' c md' τ' κ' (E + 40) ∧ zfm V V' ∧ ((¬ (0 ≤ q ∧ q ≤ 5) ∧ y = 0 ∧ τ' = zf τ 36 1) ∨ ((0 ≤ q ∧ q ≤ 5) ∧ ¬ (True) ∧ y = 0 ∧ τ' = zf τ 36 2) ∨ ((0 ≤ q ∧ q ≤ 5) ∧ (True) ∧ (y = (zf τ 36 0) (4 * q.toNat + 1) - (zf τ 36 0) (4 * q.toNat + 2) ∧ τ' = zdn (zmt (zw4 (zf τ 36 0) q.toNat ((zf τ 36 0) (4 * q.toNat)) ((zf τ 36 0) (4 * q.toNat)) ((zf τ 36 0) (4 * q.toNat + 1) - (zf τ 36 0) (4 * q.toNat + 2)) (-9)) ((zf τ 36 0) (40 + q.toNat)).toNat ((zf τ 36 0) (4 * q.toNat + 1) - (zf τ 36 0) (4 * q.toNat + 2)).toNat ((zf τ 36 0) (4 * q.toNat + 2)).toNat))))) := by
  have w0 : Cond.fieldLink RX8 14 "SashwordsModel" "windows" "[[I" ∈ wsX8_compact := by decide +kernel
  have iX8 : ∀ w ∈ u_ws RX8 TX8 11, w ∈ wsX8_compact := by decide +kernel
  have w2 : Cond.fieldLink RX8 7 "SashwordsModel" "tape" "[I" ∈ wsX8_compact := by decide +kernel
  refine zM_of (cc := cX8_compact) (nL := 5) (ret := (some .int)) (own := RX8) (by decide +kernel) rfl rfl (Nat.le_of_ble_eq_true rfl) (fun C X hi0 => ?_)
  have nn1 : 0 ≤ κ 0 ∧ κ 0 ≤ κ 1 ∧ κ 0 ≤ E ∧ κ 1 ≤ 7000 := hM.n.1
  show zG C V 1 40 0 [(0, .ref (c 60)), (1, .int (zI (q)))] []
  refine zr_aload_n X 1 0 dX8_compact_0 rfl rfl ?_
  refine zr_iload_n X 2 1 dX8_compact_1 rfl rfl ?_
  refine zr_callS (kc' := 1) (ks' := 40) X 5 1 (m_X8_isNoWindow l Γ (V := V) (x := q) (by omega)) gX8_compact_X8_isNoWindow rfl (by decide +kernel) rfl (by decide) rfl (Nat.le_of_ble_eq_true rfl) dX8_compact_2 rfl (by omega) (by omega) (fun rv2 V3 hp4 => ?_)
  obtain ⟨⟨no5, no5e, no5a⟩, no5v⟩ := hp4
  rw [no5e, no5v]
  show zG C V 1 40 5 [(0, .ref (c 60)), (1, .int (zI (q)))] [.int (zI (no5)), .ref (c 60)]
  refine zr_iconst X 6 dX8_compact_5 rfl ?_
  refine zr_callVe (kc' := 1) (ks' := 40) X 9 2 (m_X8_isThrown l Γ hM (a := no5) (b := 0) (by omega) (by omega)) gX8_compact_X8_isThrown rfl (by decide +kernel) rfl (by decide) ⟨_, _, hM.1⟩ rfl rfl (Nat.le_of_ble_eq_true rfl) dX8_compact_6 rfl (by omega) (by omega) (fun rv6 V7 hp8 => ?_)
  obtain ⟨⟨hp8x, hp8k, hp8e, hp8c, hp8m⟩, hp8g⟩ := hp8
  rw [hp8e]
  rcases hp8c with ⟨tc9a, tc9k, tc9x⟩ | ⟨tc9a, tc9b, tc9k, tc9x⟩ | ⟨tc9a, tc9b, tc9k, tc9x⟩
  · skip
    subst tc9k tc9x
    have fx10 : zfm V V7 := (hp8g.mono (fun t ht => by omega))
    obtain ⟨τ11, τ11e⟩ : ∃ zz9 : Nat → Int, zz9 = zf τ 36 1 := ⟨_, rfl⟩
    rw [← τ11e] at hp8m
    show zG C V7 1 40 9 [(0, .ref (c 60)), (1, .int (zI (q)))] [.int (zI (1))]
    refine zr_if_eq X 14 12 dX8_compact_9 rfl rfl (by omega) (fun bq12 => absurd bq12 (by omega)) (fun bq12 => ?_)
    refine zr_iconst X 13 dX8_compact_12 rfl ?_
    exact zr_iret X rfl ⟨0, md, τ11, κ, rfl, hp8m.le (by omega), fx10, Or.inl ⟨by omega, rfl, by rw [τ11e]⟩⟩ dX8_compact_13
  · exact absurd tc9b (by decide)
  · skip
    subst tc9k tc9x
    have fx13 : zfm V V7 := (hp8g.mono (fun t ht => by omega))
    obtain ⟨τ14, τ14e⟩ : ∃ zz9 : Nat → Int, zz9 = zf τ 36 0 := ⟨_, rfl⟩
    rw [← τ14e] at hp8m
    show zG C V7 1 40 9 [(0, .ref (c 60)), (1, .int (zI (q)))] [.int (zI (0))]
    refine zr_if_eq X 14 12 dX8_compact_9 rfl rfl (by omega) (fun bq15 => ?_) (fun bq15 => absurd bq15 (by omega))
    refine zr_aload_n X 15 0 dX8_compact_14 rfl rfl ?_
    have c816 : V7 (c 60) = some (60, .inr (9, [.ref (md 61), .int (zI (κ 0)), .ref (c 62), .ref (md 63), .ref (md 64), .ref (c 65), .int (zI (τ14 26)), .int (zI (τ14 28)), .int (zI (τ14 29)), .ref (c 66), .int (zI (τ14 36))])) := hp8m.1
    refine zr_get X 18 9 2 c816 rfl iX8 (by decide) w0 rfl rfl dX8_compact_15 rfl ?_
    refine zr_iload_n X 19 1 dX8_compact_18 rfl rfl ?_
    have c817 : V7 (c 62) = some (62, zq Γ.2.1 4 6 (fun i => some (md (70 + i)))) := hp8m.2.2.1
    refine zr_aaldI X 20 (.ref (md (70 + q.toNat))) c817 (by omega) rfl dX8_compact_19 rfl ?_
    refine zr_astore_n X 21 [(2, .ref (md (70 + q.toNat))), (0, .ref (c 60)), (1, .int (zI (q)))] dX8_compact_20 rfl (by decide) rfl ?_
    refine zr_aload_n X 22 1 dX8_compact_21 rfl rfl ?_
    refine zr_aload_n X 23 0 dX8_compact_22 rfl rfl ?_
    have hw19 := hp8m.w (i := q.toNat) (by omega)
    have hw19r := hw19.rg
    have z020 : (zf τ 36 0) (4 * q.toNat) = τ14 (4 * q.toNat) := by rw [τ14e]
    have z021 : (zf τ 36 0) (4 * q.toNat + 1) = τ14 (4 * q.toNat + 1) := by rw [τ14e]
    have z022 : (zf τ 36 0) (4 * q.toNat + 2) = τ14 (4 * q.toNat + 2) := by rw [τ14e]
    have z023 : (zf τ 36 0) (4 * q.toNat + 3) = τ14 (4 * q.toNat + 3) := by rw [τ14e]
    refine zr_callVe (kc' := (1 - 1)) (ks' := (40 - 40)) X 26 1 (m_X8_text l Γ (tg := 76) (i := q) hp8m (by omega)) gX8_compact_X8_text rfl (by decide +kernel) rfl (by decide) ⟨_, _, hp8m.1⟩ rfl rfl (Nat.le_of_ble_eq_true rfl) dX8_compact_23 rfl (by omega) (by omega) (fun rv24 V25 hp26 => ?_)
    obtain ⟨hp26q, hp26f, hp26e, hp26h, hp26c, hp26g, hp26z⟩ := hp26
    rw [hp26e]
    have hp26m := hp8m.kept hp26g (fun _ _ _ => trivial)
    have fx27 : zfm V V25 := zag.tr fx13 (hp26g.mono (fun _ _ => trivial))
    show zG C V25 (1 - 1) (40 - 40) 26 [(2, .ref (md (70 + q.toNat))), (0, .ref (c 60)), (1, .int (zI (q)))] [.ref hp26q]
    refine zr_astore_n X 27 [(3, .ref hp26q), (2, .ref (md (70 + q.toNat))), (0, .ref (c 60)), (1, .int (zI (q)))] dX8_compact_26 rfl (by decide) rfl ?_
    refine zr_iconst X 28 dX8_compact_27 rfl ?_
    refine zr_istore X 30 [(4, .int (zI (0))), (3, .ref hp26q), (2, .ref (md (70 + q.toNat))), (0, .ref (c 60)), (1, .int (zI (q)))] dX8_compact_28 rfl (by decide) rfl ?_
    have h40 := hp26m.ct.2.2.1.2 q.toNat (by omega)
    refine zr_sub [0, 1, 2, 4, 3] [(4, .int (zI (0))), (3, .ref hp26q), (2, .ref (md (70 + q.toNat))), (1, .int (zI (q))), (0, .ref (c 60))] rfl ?_
    have loop : ∀ (N : Nat) (V1 : zV) (τ1 : Nat → Int) (k : Int), zMo Γ V1 c md τ1 κ E ∧ zfm V V1 ∧ V1 hp26q = some (76, za Γ.2.1 0 (τ14 (4 * q.toNat + 1) - τ14 (4 * q.toNat + 2)).toNat hp26f) ∧ 0 ≤ k ∧ k ≤ (((τ14 (4 * q.toNat + 1) - τ14 (4 * q.toNat + 2)).toNat : Nat) : Int) ∧ τ1 = zly τ14 (zTp (τ14 (40 + q.toNat))) k.toNat (fun j => τ14 (zTp (τ14 (40 + q.toNat) + τ14 (4 * q.toNat + 2) + (j : Int)))) → ((((τ14 (4 * q.toNat + 1) - τ14 (4 * q.toNat + 2)).toNat : Nat) : Int) - k).toNat = N → zG C V1 (1 - 1) (40 - 40) 30 [(4, .int (zI (k))), (3, .ref hp26q), (2, .ref (md (70 + q.toNat))), (1, .int (zI (q))), (0, .ref (c 60))] [] := by
      intro N
      induction N using Nat.strongRecOn with
      | _ N ih =>
      intro V1 τ1 k hI hN
      obtain ⟨hI1, hI2, hI3, hI4, hI5, hI6⟩ := id hI
      have nn28 : 0 ≤ κ 0 ∧ κ 0 ≤ κ 1 ∧ κ 0 ≤ E ∧ κ 1 ≤ 7000 := hI1.n.1
      have fq0 : τ1 (4 * q.toNat) = τ14 (4 * q.toNat) := by rw [hI6]; exact zlyT_lo (by omega)
      have fq1 : τ1 (4 * q.toNat + 1) = τ14 (4 * q.toNat + 1) := by rw [hI6]; exact zlyT_lo (by omega)
      have fq2 : τ1 (4 * q.toNat + 2) = τ14 (4 * q.toNat + 2) := by rw [hI6]; exact zlyT_lo (by omega)
      have fq3 : τ1 (4 * q.toNat + 3) = τ14 (4 * q.toNat + 3) := by rw [hI6]; exact zlyT_lo (by omega)
      have hwq := hI1.w (i := q.toNat) (by omega)
      have hwqr := hwq.rg
      refine zr_iload X 32 0 dX8_compact_30 rfl rfl ?_
      refine zr_aload_n X 33 1 dX8_compact_32 rfl rfl ?_
      refine zr_alen X 34 0 hI3 (by decide) dX8_compact_33 rfl ?_
      refine zr_icmp_ge X 58 37 dX8_compact_34 rfl rfl (by omega) (by omega) (fun bq29 => ?_) (fun bq29 => ?_)
      · refine zr_aload_n X 59 2 dX8_compact_58 rfl rfl ?_
        refine zr_aload_n X 60 1 dX8_compact_59 rfl rfl ?_
        refine zr_alen X 61 0 hI3 (by decide) dX8_compact_60 rfl ?_
        refine zr_aload_n X 62 2 dX8_compact_61 rfl rfl ?_
        refine zr_iconst X 63 dX8_compact_62 rfl ?_
        have hw31 := hI1.w (i := q.toNat) (by omega)
        have hw31r := hw31.rg
        refine zr_iald X 64 hw31.1 (by omega) dX8_compact_63 rfl ?_
        show zG C V1 (1 - 1) (40 - 40) 64 [(4, .int (zI (k))), (3, .ref hp26q), (2, .ref (md (70 + q.toNat))), (1, .int (zI (q))), (0, .ref (c 60))] [.int (zI (τ1 (4 * q.toNat))), .int (zI (((τ14 (4 * q.toNat + 1) - τ14 (4 * q.toNat + 2)).toNat : Nat))), .ref (md (70 + q.toNat))]
        refine zr_iconst X 65 dX8_compact_64 rfl ?_
        refine zr_callS (kc' := (1 - 1)) (ks' := (40 - 40)) X 68 4 (m_X8_place l Γ (p1 := ((τ14 (4 * q.toNat + 1) - τ14 (4 * q.toNat + 2)).toNat : Nat)) (l1 := τ1 (4 * q.toNat)) (m1 := -1) hw31.1 (by omega)) gX8_compact_X8_place rfl (by decide +kernel) rfl (by decide) rfl (Nat.le_of_ble_eq_true rfl) dX8_compact_65 rfl (by omega) (by omega) (fun rv32 V33 hp34 => ?_)
        rw [hp34.1, hp34.2]
        obtain ⟨cm35h, cm35f⟩ := hI1.setW (i := q.toNat) (by omega) (τ1 (4 * q.toNat)) (((τ14 (4 * q.toNat + 1) - τ14 (4 * q.toNat + 2)).toNat : Nat)) (-9) (-1) ⟨by omega, by omega, by omega, (Or.inl ⟨rfl, rfl⟩), by omega⟩
        obtain ⟨cm35V, cm35e⟩ : ∃ zz9 : zV, zz9 = (zu V1 (md (70 + q.toNat)) (70 + q.toNat) (za Γ.2.1 0 5 (zr5 (κ (10 + q.toNat)) (τ1 (4 * q.toNat)) (τ1 (4 * q.toNat)) ((τ14 (4 * q.toNat + 1) - τ14 (4 * q.toNat + 2)).toNat : Nat) (-1)))) := ⟨_, rfl⟩
        obtain ⟨κ36, κ36e⟩ : ∃ zz9 : Nat → Int, zz9 = zf κ (20 + q.toNat) (-1) := ⟨_, rfl⟩
        have cm35m : zMo Γ cm35V c md (zw4 τ1 q.toNat (τ1 (4 * q.toNat)) (τ1 (4 * q.toNat)) (((τ14 (4 * q.toNat + 1) - τ14 (4 * q.toNat + 2)).toNat : Nat)) (-9)) κ36 E := by
          rw [κ36e, cm35e]
          exact cm35h
        have cm35g : zag (fun x => x ≠ 70 + q.toNat) V1 cm35V := by
          rw [cm35e]
          exact cm35f
        refine zr_view (cm35e).symm ?_
        have lc37 := cm35g _ _ _ hI3 (by omega)
        have fx38 : zfm V cm35V := zag.tr hI2 (cm35g.mono (fun t ht => by omega))
        obtain ⟨τ39, τ39e⟩ : ∃ zz9 : Nat → Int, zz9 = zw4 τ1 q.toNat (τ1 (4 * q.toNat)) (τ1 (4 * q.toNat)) (((τ14 (4 * q.toNat + 1) - τ14 (4 * q.toNat + 2)).toNat : Nat)) (-9) := ⟨_, rfl⟩
        rw [← τ39e] at cm35m
        have τ39_q0 : τ39 (4 * q.toNat) = τ1 (4 * q.toNat) := by rw [τ39e]; exact zw4_0
        have τ39_q1 : τ39 (4 * q.toNat + 1) = τ1 (4 * q.toNat) := by rw [τ39e]; exact zw4_1
        have τ39_q2 : τ39 (4 * q.toNat + 2) = ((τ14 (4 * q.toNat + 1) - τ14 (4 * q.toNat + 2)).toNat : Nat) := by rw [τ39e]; exact zw4_2
        have τ39_q3 : τ39 (4 * q.toNat + 3) = -9 := by rw [τ39e]; exact zw4_3
        show zG C cm35V (1 - 1) (40 - 40) 68 [(4, .int (zI (k))), (3, .ref hp26q), (2, .ref (md (70 + q.toNat))), (1, .int (zI (q))), (0, .ref (c 60))] []
        show zG C cm35V (1 - 1) (40 - 40) 68 [(4, .int (zI (k))), (3, .ref hp26q), (2, .ref (md (70 + q.toNat))), (1, .int (zI (q))), (0, .ref (c 60))] []
        refine zr_aload_n X 69 4 dX8_compact_68 rfl rfl ?_
        refine zr_aload_n X 70 1 dX8_compact_69 rfl rfl ?_
        refine zr_alen X 71 0 lc37 (by decide) dX8_compact_70 rfl ?_
        refine zr_callVe (kc' := (1 - 1)) (ks' := (40 - 40)) X 74 1 (m_X8_done l Γ cm35m) gX8_compact_X8_done rfl (by decide +kernel) rfl (by decide) ⟨_, _, cm35m.1⟩ rfl rfl (Nat.le_of_ble_eq_true rfl) dX8_compact_71 rfl (by omega) (by omega) (fun rv40 V41 hp42 => ?_)
        obtain ⟨hp42e, hp42m, hp42g⟩ := hp42
        rw [hp42e]
        have lc43 := hp42g _ _ _ lc37 (by omega)
        have fx44 : zfm V V41 := zag.tr fx38 (hp42g.mono (fun t ht => by omega))
        obtain ⟨τ45, τ45e⟩ : ∃ zz9 : Nat → Int, zz9 = zdn τ39 := ⟨_, rfl⟩
        rw [← τ45e] at hp42m
        have τ45_q0 : τ45 (4 * q.toNat) = τ39 (4 * q.toNat) := by rw [τ45e]; exact zdn_ne (by omega)
        have τ45_q1 : τ45 (4 * q.toNat + 1) = τ39 (4 * q.toNat + 1) := by rw [τ45e]; exact zdn_ne (by omega)
        have τ45_q2 : τ45 (4 * q.toNat + 2) = τ39 (4 * q.toNat + 2) := by rw [τ45e]; exact zdn_ne (by omega)
        have τ45_q3 : τ45 (4 * q.toNat + 3) = τ39 (4 * q.toNat + 3) := by rw [τ45e]; exact zdn_ne (by omega)
        show zG C V41 (1 - 1) (40 - 40) 74 [(4, .int (zI (k))), (3, .ref hp26q), (2, .ref (md (70 + q.toNat))), (1, .int (zI (q))), (0, .ref (c 60))] [.int (zI (((τ14 (4 * q.toNat + 1) - τ14 (4 * q.toNat + 2)).toNat : Nat)))]
        exact zr_iret X rfl ⟨((τ14 (4 * q.toNat + 1) - τ14 (4 * q.toNat + 2)).toNat : Nat), md, τ45, κ36, rfl, hp42m.le (by omega), fx44, Or.inr (Or.inr ⟨by omega, trivial, ⟨by omega, by rw [τ45e, τ39e, fq0, hI6, show k.toNat = (τ14 (4 * q.toNat + 1) - τ14 (4 * q.toNat + 2)).toNat by omega, zmt_of (P := τ14 (4 * q.toNat + 2)) (by omega) (by omega) (by omega) (fun j hj => rfl), show (((τ14 (4 * q.toNat + 1) - τ14 (4 * q.toNat + 2)).toNat : Nat) : Int) = τ14 (4 * q.toNat + 1) - τ14 (4 * q.toNat + 2) by omega, τ14e]⟩⟩)⟩ dX8_compact_74
      · refine zr_aload_n X 38 4 dX8_compact_37 rfl rfl ?_
        have c846 : V1 (c 60) = some (60, .inr (9, [.ref (md 61), .int (zI (κ 0)), .ref (c 62), .ref (md 63), .ref (md 64), .ref (c 65), .int (zI (τ1 26)), .int (zI (τ1 28)), .int (zI (τ1 29)), .ref (c 66), .int (zI (τ1 36))])) := hI1.1
        refine zr_get X 41 9 0 c846 rfl iX8 (by decide) w2 rfl rfl dX8_compact_38 rfl ?_
        refine zr_aload_n X 42 2 dX8_compact_41 rfl rfl ?_
        refine zr_iconst X 43 dX8_compact_42 rfl ?_
        have hw48 := hI1.w (i := q.toNat) (by omega)
        have hw48r := hw48.rg
        refine zr_iald X 44 hw48.1 (by omega) dX8_compact_43 rfl ?_
        show zG C V1 (1 - 1) (40 - 40) 44 [(4, .int (zI (k))), (3, .ref hp26q), (2, .ref (md (70 + q.toNat))), (1, .int (zI (q))), (0, .ref (c 60))] [.int (zI (κ (10 + q.toNat))), .ref (md 61)]
        refine zr_iload X 46 0 dX8_compact_44 rfl rfl ?_
        refine zr_iadd X 47 dX8_compact_46 rfl ?_
        refine zr_aload_n X 48 1 dX8_compact_47 rfl rfl ?_
        refine zr_iload X 50 0 dX8_compact_48 rfl rfl ?_
        refine zr_iald X 51 hI3 (by omega) dX8_compact_50 rfl ?_
        have zb49 := zc.b hp26c (k).toNat
        obtain ⟨c850f, c850, c850c, c850v⟩ := hI1.ct.1
        refine zr_iast X 52 c850 (by omega) dX8_compact_51 rfl ?_
        obtain ⟨cm51h, cm51f⟩ := hI1.setTape (f := c850f) c850 c850c (a := (κ (10 + q.toNat)) + k) (by omega) (x := (hp26f (k).toNat)) (by omega) c850v
        obtain ⟨cm51V, cm51e⟩ : ∃ zz9 : zV, zz9 = (zu V1 (md 61) 61 (za Γ.2.1 0 ((κ 1).toNat) (zf c850f ((κ (10 + q.toNat)) + k).toNat (hp26f (k).toNat)))) := ⟨_, rfl⟩
        have cm51m : zMo Γ cm51V c md (zf τ1 (zTp ((κ (10 + q.toNat)) + k)) (hp26f (k).toNat)) κ E := by
          rw [cm51e]
          exact cm51h
        have cm51g : zag (fun x => x ≠ 61) V1 cm51V := by
          rw [cm51e]
          exact cm51f
        refine zr_view (cm51e).symm ?_
        have lc52 := cm51g _ _ _ hI3 (by omega)
        have fx53 : zfm V cm51V := zag.tr hI2 (cm51g.mono (fun t ht => by omega))
        obtain ⟨τ54, τ54e⟩ : ∃ zz9 : Nat → Int, zz9 = zf τ1 (zTp ((κ (10 + q.toNat)) + k)) (hp26f (k).toNat) := ⟨_, rfl⟩
        rw [← τ54e] at cm51m
        have τ54_q0 : τ54 (4 * q.toNat) = τ1 (4 * q.toNat) := by rw [τ54e]; exact zfT_lo (by omega)
        have τ54_q1 : τ54 (4 * q.toNat + 1) = τ1 (4 * q.toNat + 1) := by rw [τ54e]; exact zfT_lo (by omega)
        have τ54_q2 : τ54 (4 * q.toNat + 2) = τ1 (4 * q.toNat + 2) := by rw [τ54e]; exact zfT_lo (by omega)
        have τ54_q3 : τ54 (4 * q.toNat + 3) = τ1 (4 * q.toNat + 3) := by rw [τ54e]; exact zfT_lo (by omega)
        show zG C cm51V (1 - 1) (40 - 40) 52 [(4, .int (zI (k))), (3, .ref hp26q), (2, .ref (md (70 + q.toNat))), (1, .int (zI (q))), (0, .ref (c 60))] []
        refine zr_iinc X 55 0 [(4, .int (zI (k + 1))), (3, .ref hp26q), (2, .ref (md (70 + q.toNat))), (1, .int (zI (q))), (0, .ref (c 60))] dX8_compact_52 rfl rfl (by decide) rfl ?_
        refine zr_goto X 30 dX8_compact_55 rfl ?_
        have cp55 : τ54 = zly τ14 (zTp (τ14 (40 + q.toNat))) (k + 1).toNat (fun j => τ14 (zTp (τ14 (40 + q.toNat) + τ14 (4 * q.toNat + 2) + (j : Int)))) := by
          rw [τ54e, hI6, hp26z _ (by omega), h40]
          exact zly_step (by omega) (by omega) rfl
        exact ih _ (by omega) cm51V τ54 (k + 1) ⟨cm51m, fx53, lc52, by omega, by omega, cp55⟩ rfl
    exact loop _ V25 τ14 0 ⟨hp26m, fx27, hp26h, by omega, by omega, zly_0.symm⟩ rfl
set_option maxRecDepth 100000 in
set_option maxHeartbeats 4000000 in
theorem m_X8_position (l : Launch) (Γ : zGam) {V : zV} {c md : Nat → Nat} {τ κ : Nat → Int} {E : Int} {q : Int} (hM : zMo Γ V c md τ κ E) (hq : -2147483648 ≤ q ∧ q ≤ 2147483647) : zM l Γ 4 yX8_position wsX8_position 0 0 V [.ref (c 60), .int (zI (q))] (fun rv V' => ∃ (y : Int) (md' : Nat → Nat) (τ' κ' : Nat → Int), rv = some (.int (zI y)) ∧ zMo Γ V' c md' τ' κ' (E + 40) ∧ zfm V V' ∧ ((¬ (0 ≤ q ∧ q ≤ 5) ∧ y = 0 ∧ τ' = zf τ 36 1) ∨ ((0 ≤ q ∧ q ≤ 5) ∧ ¬ (True) ∧ y = 0 ∧ τ' = zf τ 36 2) ∨ ((0 ≤ q ∧ q ≤ 5) ∧ (True) ∧ (y = (zf τ 36 0) (4 * q.toNat + 2) ∧ τ' = (zf τ 36 0))))) := by
  have w0 : Cond.fieldLink RX8 14 "SashwordsModel" "windows" "[[I" ∈ wsX8_position := by decide +kernel
  have iX8 : ∀ w ∈ u_ws RX8 TX8 11, w ∈ wsX8_position := by decide +kernel
  refine zM_of (cc := cX8_position) (nL := 2) (ret := (some .int)) (own := RX8) (by decide +kernel) rfl rfl (Nat.le_of_ble_eq_true rfl) (fun C X hi0 => ?_)
  have nn1 : 0 ≤ κ 0 ∧ κ 0 ≤ κ 1 ∧ κ 0 ≤ E ∧ κ 1 ≤ 7000 := hM.n.1
  show zG C V 0 0 0 [(0, .ref (c 60)), (1, .int (zI (q)))] []
  refine zr_aload_n X 1 0 dX8_position_0 rfl rfl ?_
  refine zr_iload_n X 2 1 dX8_position_1 rfl rfl ?_
  refine zr_callS (kc' := 0) (ks' := 0) X 5 1 (m_X8_isNoWindow l Γ (V := V) (x := q) (by omega)) gX8_position_X8_isNoWindow rfl (by decide +kernel) rfl (by decide) rfl (Nat.le_of_ble_eq_true rfl) dX8_position_2 rfl (by omega) (by omega) (fun rv2 V3 hp4 => ?_)
  obtain ⟨⟨no5, no5e, no5a⟩, no5v⟩ := hp4
  rw [no5e, no5v]
  show zG C V 0 0 5 [(0, .ref (c 60)), (1, .int (zI (q)))] [.int (zI (no5)), .ref (c 60)]
  refine zr_iconst X 6 dX8_position_5 rfl ?_
  refine zr_callVe (kc' := 0) (ks' := 0) X 9 2 (m_X8_isThrown l Γ hM (a := no5) (b := 0) (by omega) (by omega)) gX8_position_X8_isThrown rfl (by decide +kernel) rfl (by decide) ⟨_, _, hM.1⟩ rfl rfl (Nat.le_of_ble_eq_true rfl) dX8_position_6 rfl (by omega) (by omega) (fun rv6 V7 hp8 => ?_)
  obtain ⟨⟨hp8x, hp8k, hp8e, hp8c, hp8m⟩, hp8g⟩ := hp8
  rw [hp8e]
  rcases hp8c with ⟨tc9a, tc9k, tc9x⟩ | ⟨tc9a, tc9b, tc9k, tc9x⟩ | ⟨tc9a, tc9b, tc9k, tc9x⟩
  · skip
    subst tc9k tc9x
    have fx10 : zfm V V7 := (hp8g.mono (fun t ht => by omega))
    obtain ⟨τ11, τ11e⟩ : ∃ zz9 : Nat → Int, zz9 = zf τ 36 1 := ⟨_, rfl⟩
    rw [← τ11e] at hp8m
    show zG C V7 0 0 9 [(0, .ref (c 60)), (1, .int (zI (q)))] [.int (zI (1))]
    refine zr_if_eq X 16 12 dX8_position_9 rfl rfl (by omega) (fun bq12 => absurd bq12 (by omega)) (fun bq12 => ?_)
    refine zr_iconst X 13 dX8_position_12 rfl ?_
    refine zr_goto X 24 dX8_position_13 rfl ?_
    exact zr_iret X rfl ⟨0, md, τ11, κ, rfl, hp8m.le (by omega), fx10, Or.inl ⟨by omega, rfl, by rw [τ11e]⟩⟩ dX8_position_24
  · exact absurd tc9b (by decide)
  · skip
    subst tc9k tc9x
    have fx13 : zfm V V7 := (hp8g.mono (fun t ht => by omega))
    obtain ⟨τ14, τ14e⟩ : ∃ zz9 : Nat → Int, zz9 = zf τ 36 0 := ⟨_, rfl⟩
    rw [← τ14e] at hp8m
    show zG C V7 0 0 9 [(0, .ref (c 60)), (1, .int (zI (q)))] [.int (zI (0))]
    refine zr_if_eq X 16 12 dX8_position_9 rfl rfl (by omega) (fun bq15 => ?_) (fun bq15 => absurd bq15 (by omega))
    refine zr_aload_n X 17 0 dX8_position_16 rfl rfl ?_
    have c816 : V7 (c 60) = some (60, .inr (9, [.ref (md 61), .int (zI (κ 0)), .ref (c 62), .ref (md 63), .ref (md 64), .ref (c 65), .int (zI (τ14 26)), .int (zI (τ14 28)), .int (zI (τ14 29)), .ref (c 66), .int (zI (τ14 36))])) := hp8m.1
    refine zr_get X 20 9 2 c816 rfl iX8 (by decide) w0 rfl rfl dX8_position_17 rfl ?_
    refine zr_iload_n X 21 1 dX8_position_20 rfl rfl ?_
    have c817 : V7 (c 62) = some (62, zq Γ.2.1 4 6 (fun i => some (md (70 + i)))) := hp8m.2.2.1
    refine zr_aaldI X 22 (.ref (md (70 + q.toNat))) c817 (by omega) rfl dX8_position_21 rfl ?_
    refine zr_iconst X 23 dX8_position_22 rfl ?_
    have hw19 := hp8m.w (i := q.toNat) (by omega)
    have hw19r := hw19.rg
    have z020 : (zf τ 36 0) (4 * q.toNat) = τ14 (4 * q.toNat) := by rw [τ14e]
    have z021 : (zf τ 36 0) (4 * q.toNat + 1) = τ14 (4 * q.toNat + 1) := by rw [τ14e]
    have z022 : (zf τ 36 0) (4 * q.toNat + 2) = τ14 (4 * q.toNat + 2) := by rw [τ14e]
    have z023 : (zf τ 36 0) (4 * q.toNat + 3) = τ14 (4 * q.toNat + 3) := by rw [τ14e]
    refine zr_iald X 24 hw19.1 (by omega) dX8_position_23 rfl ?_
    show zG C V7 0 0 24 [(0, .ref (c 60)), (1, .int (zI (q)))] [.int (zI (τ14 (4 * q.toNat + 2)))]
    exact zr_iret X rfl ⟨τ14 (4 * q.toNat + 2), md, τ14, κ, rfl, hp8m.le (by omega), fx13, Or.inr (Or.inr ⟨by omega, trivial, ⟨by omega, by rw [τ14e]⟩⟩)⟩ dX8_position_24
set_option maxRecDepth 100000 in
set_option maxHeartbeats 4000000 in
theorem m_X8_limit (l : Launch) (Γ : zGam) {V : zV} {c md : Nat → Nat} {τ κ : Nat → Int} {E : Int} {q : Int} (hM : zMo Γ V c md τ κ E) (hq : -2147483648 ≤ q ∧ q ≤ 2147483647) : zM l Γ 4 yX8_limit wsX8_limit 0 0 V [.ref (c 60), .int (zI (q))] (fun rv V' => ∃ (y : Int) (md' : Nat → Nat) (τ' κ' : Nat → Int), rv = some (.int (zI y)) ∧ zMo Γ V' c md' τ' κ' (E + 40) ∧ zfm V V' ∧ ((¬ (0 ≤ q ∧ q ≤ 5) ∧ y = 0 ∧ τ' = zf τ 36 1) ∨ ((0 ≤ q ∧ q ≤ 5) ∧ ¬ (True) ∧ y = 0 ∧ τ' = zf τ 36 2) ∨ ((0 ≤ q ∧ q ≤ 5) ∧ (True) ∧ (y = (zf τ 36 0) (4 * q.toNat + 1) ∧ τ' = (zf τ 36 0))))) := by
  have w0 : Cond.fieldLink RX8 14 "SashwordsModel" "windows" "[[I" ∈ wsX8_limit := by decide +kernel
  have iX8 : ∀ w ∈ u_ws RX8 TX8 11, w ∈ wsX8_limit := by decide +kernel
  refine zM_of (cc := cX8_limit) (nL := 2) (ret := (some .int)) (own := RX8) (by decide +kernel) rfl rfl (Nat.le_of_ble_eq_true rfl) (fun C X hi0 => ?_)
  have nn1 : 0 ≤ κ 0 ∧ κ 0 ≤ κ 1 ∧ κ 0 ≤ E ∧ κ 1 ≤ 7000 := hM.n.1
  show zG C V 0 0 0 [(0, .ref (c 60)), (1, .int (zI (q)))] []
  refine zr_aload_n X 1 0 dX8_limit_0 rfl rfl ?_
  refine zr_iload_n X 2 1 dX8_limit_1 rfl rfl ?_
  refine zr_callS (kc' := 0) (ks' := 0) X 5 1 (m_X8_isNoWindow l Γ (V := V) (x := q) (by omega)) gX8_limit_X8_isNoWindow rfl (by decide +kernel) rfl (by decide) rfl (Nat.le_of_ble_eq_true rfl) dX8_limit_2 rfl (by omega) (by omega) (fun rv2 V3 hp4 => ?_)
  obtain ⟨⟨no5, no5e, no5a⟩, no5v⟩ := hp4
  rw [no5e, no5v]
  show zG C V 0 0 5 [(0, .ref (c 60)), (1, .int (zI (q)))] [.int (zI (no5)), .ref (c 60)]
  refine zr_iconst X 6 dX8_limit_5 rfl ?_
  refine zr_callVe (kc' := 0) (ks' := 0) X 9 2 (m_X8_isThrown l Γ hM (a := no5) (b := 0) (by omega) (by omega)) gX8_limit_X8_isThrown rfl (by decide +kernel) rfl (by decide) ⟨_, _, hM.1⟩ rfl rfl (Nat.le_of_ble_eq_true rfl) dX8_limit_6 rfl (by omega) (by omega) (fun rv6 V7 hp8 => ?_)
  obtain ⟨⟨hp8x, hp8k, hp8e, hp8c, hp8m⟩, hp8g⟩ := hp8
  rw [hp8e]
  rcases hp8c with ⟨tc9a, tc9k, tc9x⟩ | ⟨tc9a, tc9b, tc9k, tc9x⟩ | ⟨tc9a, tc9b, tc9k, tc9x⟩
  · skip
    subst tc9k tc9x
    have fx10 : zfm V V7 := (hp8g.mono (fun t ht => by omega))
    obtain ⟨τ11, τ11e⟩ : ∃ zz9 : Nat → Int, zz9 = zf τ 36 1 := ⟨_, rfl⟩
    rw [← τ11e] at hp8m
    show zG C V7 0 0 9 [(0, .ref (c 60)), (1, .int (zI (q)))] [.int (zI (1))]
    refine zr_if_eq X 16 12 dX8_limit_9 rfl rfl (by omega) (fun bq12 => absurd bq12 (by omega)) (fun bq12 => ?_)
    refine zr_iconst X 13 dX8_limit_12 rfl ?_
    refine zr_goto X 24 dX8_limit_13 rfl ?_
    exact zr_iret X rfl ⟨0, md, τ11, κ, rfl, hp8m.le (by omega), fx10, Or.inl ⟨by omega, rfl, by rw [τ11e]⟩⟩ dX8_limit_24
  · exact absurd tc9b (by decide)
  · skip
    subst tc9k tc9x
    have fx13 : zfm V V7 := (hp8g.mono (fun t ht => by omega))
    obtain ⟨τ14, τ14e⟩ : ∃ zz9 : Nat → Int, zz9 = zf τ 36 0 := ⟨_, rfl⟩
    rw [← τ14e] at hp8m
    show zG C V7 0 0 9 [(0, .ref (c 60)), (1, .int (zI (q)))] [.int (zI (0))]
    refine zr_if_eq X 16 12 dX8_limit_9 rfl rfl (by omega) (fun bq15 => ?_) (fun bq15 => absurd bq15 (by omega))
    refine zr_aload_n X 17 0 dX8_limit_16 rfl rfl ?_
    have c816 : V7 (c 60) = some (60, .inr (9, [.ref (md 61), .int (zI (κ 0)), .ref (c 62), .ref (md 63), .ref (md 64), .ref (c 65), .int (zI (τ14 26)), .int (zI (τ14 28)), .int (zI (τ14 29)), .ref (c 66), .int (zI (τ14 36))])) := hp8m.1
    refine zr_get X 20 9 2 c816 rfl iX8 (by decide) w0 rfl rfl dX8_limit_17 rfl ?_
    refine zr_iload_n X 21 1 dX8_limit_20 rfl rfl ?_
    have c817 : V7 (c 62) = some (62, zq Γ.2.1 4 6 (fun i => some (md (70 + i)))) := hp8m.2.2.1
    refine zr_aaldI X 22 (.ref (md (70 + q.toNat))) c817 (by omega) rfl dX8_limit_21 rfl ?_
    refine zr_iconst X 23 dX8_limit_22 rfl ?_
    have hw19 := hp8m.w (i := q.toNat) (by omega)
    have hw19r := hw19.rg
    have z020 : (zf τ 36 0) (4 * q.toNat) = τ14 (4 * q.toNat) := by rw [τ14e]
    have z021 : (zf τ 36 0) (4 * q.toNat + 1) = τ14 (4 * q.toNat + 1) := by rw [τ14e]
    have z022 : (zf τ 36 0) (4 * q.toNat + 2) = τ14 (4 * q.toNat + 2) := by rw [τ14e]
    have z023 : (zf τ 36 0) (4 * q.toNat + 3) = τ14 (4 * q.toNat + 3) := by rw [τ14e]
    refine zr_iald X 24 hw19.1 (by omega) dX8_limit_23 rfl ?_
    show zG C V7 0 0 24 [(0, .ref (c 60)), (1, .int (zI (q)))] [.int (zI (τ14 (4 * q.toNat + 1)))]
    exact zr_iret X rfl ⟨τ14 (4 * q.toNat + 1), md, τ14, κ, rfl, hp8m.le (by omega), fx13, Or.inr (Or.inr ⟨by omega, trivial, ⟨by omega, by rw [τ14e]⟩⟩)⟩ dX8_limit_24
set_option maxRecDepth 100000 in
set_option maxHeartbeats 4000000 in
theorem m_X8_capacity (l : Launch) (Γ : zGam) {V : zV} {c md : Nat → Nat} {τ κ : Nat → Int} {E : Int} {q : Int} (hM : zMo Γ V c md τ κ E) (hq : -2147483648 ≤ q ∧ q ≤ 2147483647) : zM l Γ 4 yX8_capacity wsX8_capacity 0 0 V [.ref (c 60), .int (zI (q))] (fun rv V' => ∃ (y : Int) (md' : Nat → Nat) (τ' κ' : Nat → Int), rv = some (.int (zI y)) ∧ zMo Γ V' c md' τ' κ' (E + 40) ∧ zfm V V' ∧ ((¬ (0 ≤ q ∧ q ≤ 5) ∧ y = 0 ∧ τ' = zf τ 36 1) ∨ ((0 ≤ q ∧ q ≤ 5) ∧ ¬ (True) ∧ y = 0 ∧ τ' = zf τ 36 2) ∨ ((0 ≤ q ∧ q ≤ 5) ∧ (True) ∧ (y = (zf τ 36 0) (4 * q.toNat) ∧ τ' = (zf τ 36 0))))) := by
  have w0 : Cond.fieldLink RX8 14 "SashwordsModel" "windows" "[[I" ∈ wsX8_capacity := by decide +kernel
  have iX8 : ∀ w ∈ u_ws RX8 TX8 11, w ∈ wsX8_capacity := by decide +kernel
  refine zM_of (cc := cX8_capacity) (nL := 2) (ret := (some .int)) (own := RX8) (by decide +kernel) rfl rfl (Nat.le_of_ble_eq_true rfl) (fun C X hi0 => ?_)
  have nn1 : 0 ≤ κ 0 ∧ κ 0 ≤ κ 1 ∧ κ 0 ≤ E ∧ κ 1 ≤ 7000 := hM.n.1
  show zG C V 0 0 0 [(0, .ref (c 60)), (1, .int (zI (q)))] []
  refine zr_aload_n X 1 0 dX8_capacity_0 rfl rfl ?_
  refine zr_iload_n X 2 1 dX8_capacity_1 rfl rfl ?_
  refine zr_callS (kc' := 0) (ks' := 0) X 5 1 (m_X8_isNoWindow l Γ (V := V) (x := q) (by omega)) gX8_capacity_X8_isNoWindow rfl (by decide +kernel) rfl (by decide) rfl (Nat.le_of_ble_eq_true rfl) dX8_capacity_2 rfl (by omega) (by omega) (fun rv2 V3 hp4 => ?_)
  obtain ⟨⟨no5, no5e, no5a⟩, no5v⟩ := hp4
  rw [no5e, no5v]
  show zG C V 0 0 5 [(0, .ref (c 60)), (1, .int (zI (q)))] [.int (zI (no5)), .ref (c 60)]
  refine zr_iconst X 6 dX8_capacity_5 rfl ?_
  refine zr_callVe (kc' := 0) (ks' := 0) X 9 2 (m_X8_isThrown l Γ hM (a := no5) (b := 0) (by omega) (by omega)) gX8_capacity_X8_isThrown rfl (by decide +kernel) rfl (by decide) ⟨_, _, hM.1⟩ rfl rfl (Nat.le_of_ble_eq_true rfl) dX8_capacity_6 rfl (by omega) (by omega) (fun rv6 V7 hp8 => ?_)
  obtain ⟨⟨hp8x, hp8k, hp8e, hp8c, hp8m⟩, hp8g⟩ := hp8
  rw [hp8e]
  rcases hp8c with ⟨tc9a, tc9k, tc9x⟩ | ⟨tc9a, tc9b, tc9k, tc9x⟩ | ⟨tc9a, tc9b, tc9k, tc9x⟩
  · skip
    subst tc9k tc9x
    have fx10 : zfm V V7 := (hp8g.mono (fun t ht => by omega))
    obtain ⟨τ11, τ11e⟩ : ∃ zz9 : Nat → Int, zz9 = zf τ 36 1 := ⟨_, rfl⟩
    rw [← τ11e] at hp8m
    show zG C V7 0 0 9 [(0, .ref (c 60)), (1, .int (zI (q)))] [.int (zI (1))]
    refine zr_if_eq X 16 12 dX8_capacity_9 rfl rfl (by omega) (fun bq12 => absurd bq12 (by omega)) (fun bq12 => ?_)
    refine zr_iconst X 13 dX8_capacity_12 rfl ?_
    refine zr_goto X 24 dX8_capacity_13 rfl ?_
    exact zr_iret X rfl ⟨0, md, τ11, κ, rfl, hp8m.le (by omega), fx10, Or.inl ⟨by omega, rfl, by rw [τ11e]⟩⟩ dX8_capacity_24
  · exact absurd tc9b (by decide)
  · skip
    subst tc9k tc9x
    have fx13 : zfm V V7 := (hp8g.mono (fun t ht => by omega))
    obtain ⟨τ14, τ14e⟩ : ∃ zz9 : Nat → Int, zz9 = zf τ 36 0 := ⟨_, rfl⟩
    rw [← τ14e] at hp8m
    show zG C V7 0 0 9 [(0, .ref (c 60)), (1, .int (zI (q)))] [.int (zI (0))]
    refine zr_if_eq X 16 12 dX8_capacity_9 rfl rfl (by omega) (fun bq15 => ?_) (fun bq15 => absurd bq15 (by omega))
    refine zr_aload_n X 17 0 dX8_capacity_16 rfl rfl ?_
    have c816 : V7 (c 60) = some (60, .inr (9, [.ref (md 61), .int (zI (κ 0)), .ref (c 62), .ref (md 63), .ref (md 64), .ref (c 65), .int (zI (τ14 26)), .int (zI (τ14 28)), .int (zI (τ14 29)), .ref (c 66), .int (zI (τ14 36))])) := hp8m.1
    refine zr_get X 20 9 2 c816 rfl iX8 (by decide) w0 rfl rfl dX8_capacity_17 rfl ?_
    refine zr_iload_n X 21 1 dX8_capacity_20 rfl rfl ?_
    have c817 : V7 (c 62) = some (62, zq Γ.2.1 4 6 (fun i => some (md (70 + i)))) := hp8m.2.2.1
    refine zr_aaldI X 22 (.ref (md (70 + q.toNat))) c817 (by omega) rfl dX8_capacity_21 rfl ?_
    refine zr_iconst X 23 dX8_capacity_22 rfl ?_
    have hw19 := hp8m.w (i := q.toNat) (by omega)
    have hw19r := hw19.rg
    have z020 : (zf τ 36 0) (4 * q.toNat) = τ14 (4 * q.toNat) := by rw [τ14e]
    have z021 : (zf τ 36 0) (4 * q.toNat + 1) = τ14 (4 * q.toNat + 1) := by rw [τ14e]
    have z022 : (zf τ 36 0) (4 * q.toNat + 2) = τ14 (4 * q.toNat + 2) := by rw [τ14e]
    have z023 : (zf τ 36 0) (4 * q.toNat + 3) = τ14 (4 * q.toNat + 3) := by rw [τ14e]
    refine zr_iald X 24 hw19.1 (by omega) dX8_capacity_23 rfl ?_
    show zG C V7 0 0 24 [(0, .ref (c 60)), (1, .int (zI (q)))] [.int (zI (τ14 (4 * q.toNat)))]
    exact zr_iret X rfl ⟨τ14 (4 * q.toNat), md, τ14, κ, rfl, hp8m.le (by omega), fx13, Or.inr (Or.inr ⟨by omega, trivial, ⟨by omega, by rw [τ14e]⟩⟩)⟩ dX8_capacity_24
set_option maxRecDepth 100000 in
set_option maxHeartbeats 4000000 in
theorem m_X8_left (l : Launch) (Γ : zGam) {V : zV} {c md : Nat → Nat} {τ κ : Nat → Int} {E : Int} {q z : Int} (hM : zMo Γ V c md τ κ E) (hq : -2147483648 ≤ q ∧ q ≤ 2147483647) (hz : -2147483648 ≤ z ∧ z ≤ 2147483647) : zM l Γ 4 yX8_left wsX8_left 0 0 V [.ref (c 60), .int (zI (q)), .int (zI (z))] (fun rv V' => ∃ (y : Int) (md' : Nat → Nat) (τ' κ' : Nat → Int), rv = some (.int (zI y)) ∧ zMo Γ V' c md' τ' κ' (E + 40) ∧ zfm V V' ∧ ((¬ (0 ≤ q ∧ q ≤ 5) ∧ y = 0 ∧ τ' = zf τ 36 1) ∨ ((0 ≤ q ∧ q ≤ 5) ∧ ¬ (0 ≤ z ∧ z ≤ 1) ∧ y = 0 ∧ τ' = zf τ 36 2) ∨ ((0 ≤ q ∧ q ≤ 5) ∧ (0 ≤ z ∧ z ≤ 1) ∧ (y = (zf τ 36 0) (4 * q.toNat + 1) - (zf τ 36 0) (4 * q.toNat + 2) ∧ τ' = (zf τ 36 0))))) := by
  have w0 : Cond.fieldLink RX8 14 "SashwordsModel" "windows" "[[I" ∈ wsX8_left := by decide +kernel
  have iX8 : ∀ w ∈ u_ws RX8 TX8 11, w ∈ wsX8_left := by decide +kernel
  refine zM_of (cc := cX8_left) (nL := 3) (ret := (some .int)) (own := RX8) (by decide +kernel) rfl rfl (Nat.le_of_ble_eq_true rfl) (fun C X hi0 => ?_)
  have nn1 : 0 ≤ κ 0 ∧ κ 0 ≤ κ 1 ∧ κ 0 ≤ E ∧ κ 1 ≤ 7000 := hM.n.1
  show zG C V 0 0 0 [(0, .ref (c 60)), (1, .int (zI (q))), (2, .int (zI (z)))] []
  refine zr_aload_n X 1 0 dX8_left_0 rfl rfl ?_
  refine zr_iload_n X 2 1 dX8_left_1 rfl rfl ?_
  refine zr_callS (kc' := 0) (ks' := 0) X 5 1 (m_X8_isNoWindow l Γ (V := V) (x := q) (by omega)) gX8_left_X8_isNoWindow rfl (by decide +kernel) rfl (by decide) rfl (Nat.le_of_ble_eq_true rfl) dX8_left_2 rfl (by omega) (by omega) (fun rv2 V3 hp4 => ?_)
  obtain ⟨⟨no5, no5e, no5a⟩, no5v⟩ := hp4
  rw [no5e, no5v]
  show zG C V 0 0 5 [(0, .ref (c 60)), (1, .int (zI (q))), (2, .int (zI (z)))] [.int (zI (no5)), .ref (c 60)]
  refine zr_iload_n X 6 2 dX8_left_5 rfl rfl ?_
  refine zr_iconst X 7 dX8_left_6 rfl ?_
  refine zr_iconst X 8 dX8_left_7 rfl ?_
  refine zr_callS (kc' := 0) (ks' := 0) X 11 3 (m_X8_isNo l Γ (V := V) (x := z) (a := 0) (b := 1) (by omega) (by omega) (by omega)) gX8_left_X8_isNo rfl (by decide +kernel) rfl (by decide) rfl (Nat.le_of_ble_eq_true rfl) dX8_left_8 rfl (by omega) (by omega) (fun rv6 V7 hp8 => ?_)
  obtain ⟨⟨no9, no9e, no9a⟩, no9v⟩ := hp8
  rw [no9e, no9v]
  show zG C V 0 0 11 [(0, .ref (c 60)), (1, .int (zI (q))), (2, .int (zI (z)))] [.int (zI (no9)), .int (zI (no5)), .ref (c 60)]
  refine zr_callVe (kc' := 0) (ks' := 0) X 14 2 (m_X8_isThrown l Γ hM (a := no5) (b := no9) (by omega) (by omega)) gX8_left_X8_isThrown rfl (by decide +kernel) rfl (by decide) ⟨_, _, hM.1⟩ rfl rfl (Nat.le_of_ble_eq_true rfl) dX8_left_11 rfl (by omega) (by omega) (fun rv10 V11 hp12 => ?_)
  obtain ⟨⟨hp12x, hp12k, hp12e, hp12c, hp12m⟩, hp12g⟩ := hp12
  rw [hp12e]
  rcases hp12c with ⟨tc13a, tc13k, tc13x⟩ | ⟨tc13a, tc13b, tc13k, tc13x⟩ | ⟨tc13a, tc13b, tc13k, tc13x⟩
  · skip
    subst tc13k tc13x
    have fx14 : zfm V V11 := (hp12g.mono (fun t ht => by omega))
    obtain ⟨τ15, τ15e⟩ : ∃ zz9 : Nat → Int, zz9 = zf τ 36 1 := ⟨_, rfl⟩
    rw [← τ15e] at hp12m
    show zG C V11 0 0 14 [(0, .ref (c 60)), (1, .int (zI (q))), (2, .int (zI (z)))] [.int (zI (1))]
    refine zr_if_eq X 21 17 dX8_left_14 rfl rfl (by omega) (fun bq16 => absurd bq16 (by omega)) (fun bq16 => ?_)
    refine zr_iconst X 18 dX8_left_17 rfl ?_
    refine zr_goto X 30 dX8_left_18 rfl ?_
    exact zr_iret X rfl ⟨0, md, τ15, κ, rfl, hp12m.le (by omega), fx14, Or.inl ⟨by omega, rfl, by rw [τ15e]⟩⟩ dX8_left_30
  · skip
    subst tc13k tc13x
    have fx17 : zfm V V11 := (hp12g.mono (fun t ht => by omega))
    obtain ⟨τ18, τ18e⟩ : ∃ zz9 : Nat → Int, zz9 = zf τ 36 2 := ⟨_, rfl⟩
    rw [← τ18e] at hp12m
    show zG C V11 0 0 14 [(0, .ref (c 60)), (1, .int (zI (q))), (2, .int (zI (z)))] [.int (zI (1))]
    refine zr_if_eq X 21 17 dX8_left_14 rfl rfl (by omega) (fun bq19 => absurd bq19 (by omega)) (fun bq19 => ?_)
    refine zr_iconst X 18 dX8_left_17 rfl ?_
    refine zr_goto X 30 dX8_left_18 rfl ?_
    exact zr_iret X rfl ⟨0, md, τ18, κ, rfl, hp12m.le (by omega), fx17, Or.inr (Or.inl ⟨by omega, by omega, rfl, by rw [τ18e]⟩)⟩ dX8_left_30
  · skip
    subst tc13k tc13x
    have fx20 : zfm V V11 := (hp12g.mono (fun t ht => by omega))
    obtain ⟨τ21, τ21e⟩ : ∃ zz9 : Nat → Int, zz9 = zf τ 36 0 := ⟨_, rfl⟩
    rw [← τ21e] at hp12m
    show zG C V11 0 0 14 [(0, .ref (c 60)), (1, .int (zI (q))), (2, .int (zI (z)))] [.int (zI (0))]
    refine zr_if_eq X 21 17 dX8_left_14 rfl rfl (by omega) (fun bq22 => ?_) (fun bq22 => absurd bq22 (by omega))
    refine zr_aload_n X 22 0 dX8_left_21 rfl rfl ?_
    have c823 : V11 (c 60) = some (60, .inr (9, [.ref (md 61), .int (zI (κ 0)), .ref (c 62), .ref (md 63), .ref (md 64), .ref (c 65), .int (zI (τ21 26)), .int (zI (τ21 28)), .int (zI (τ21 29)), .ref (c 66), .int (zI (τ21 36))])) := hp12m.1
    refine zr_get X 25 9 2 c823 rfl iX8 (by decide) w0 rfl rfl dX8_left_22 rfl ?_
    refine zr_iload_n X 26 1 dX8_left_25 rfl rfl ?_
    have c824 : V11 (c 62) = some (62, zq Γ.2.1 4 6 (fun i => some (md (70 + i)))) := hp12m.2.2.1
    refine zr_aaldI X 27 (.ref (md (70 + q.toNat))) c824 (by omega) rfl dX8_left_26 rfl ?_
    have hw26 := hp12m.w (i := q.toNat) (by omega)
    have hw26r := hw26.rg
    have z027 : (zf τ 36 0) (4 * q.toNat) = τ21 (4 * q.toNat) := by rw [τ21e]
    have z028 : (zf τ 36 0) (4 * q.toNat + 1) = τ21 (4 * q.toNat + 1) := by rw [τ21e]
    have z029 : (zf τ 36 0) (4 * q.toNat + 2) = τ21 (4 * q.toNat + 2) := by rw [τ21e]
    have z030 : (zf τ 36 0) (4 * q.toNat + 3) = τ21 (4 * q.toNat + 3) := by rw [τ21e]
    refine zr_callS (kc' := 0) (ks' := 0) X 30 1 (m_X8_length l Γ hw26.1 (by omega)) gX8_left_X8_length rfl (by decide +kernel) rfl (by decide) rfl (Nat.le_of_ble_eq_true rfl) dX8_left_27 rfl (by omega) (by omega) (fun rv31 V32 hp33 => ?_)
    rw [hp33.1, hp33.2]
    show zG C V11 0 0 30 [(0, .ref (c 60)), (1, .int (zI (q))), (2, .int (zI (z)))] [.int (zI ((τ21 (4 * q.toNat + 1)) - (τ21 (4 * q.toNat + 2))))]
    exact zr_iret X rfl ⟨(τ21 (4 * q.toNat + 1)) - (τ21 (4 * q.toNat + 2)), md, τ21, κ, rfl, hp12m.le (by omega), fx20, Or.inr (Or.inr ⟨by omega, by omega, ⟨by omega, by rw [τ21e]⟩⟩)⟩ dX8_left_30
set_option maxRecDepth 100000 in
set_option maxHeartbeats 4000000 in
theorem m_X8_marked (l : Launch) (Γ : zGam) {V : zV} {c md : Nat → Nat} {τ κ : Nat → Int} {E : Int} {q : Int} (hM : zMo Γ V c md τ κ E) (hq : -2147483648 ≤ q ∧ q ≤ 2147483647) : zM l Γ 4 yX8_marked wsX8_marked 0 0 V [.ref (c 60), .int (zI (q))] (fun rv V' => ∃ (y : Int) (md' : Nat → Nat) (τ' κ' : Nat → Int), rv = some (.int (zI y)) ∧ zMo Γ V' c md' τ' κ' (E + 40) ∧ zfm V V' ∧ ((¬ (0 ≤ q ∧ q ≤ 5) ∧ y = 0 ∧ τ' = zf τ 36 1) ∨ ((0 ≤ q ∧ q ≤ 5) ∧ ¬ (True) ∧ y = 0 ∧ τ' = zf τ 36 2) ∨ ((0 ≤ q ∧ q ≤ 5) ∧ (True) ∧ (y = (zf τ 36 0) (4 * q.toNat + 3) ∧ τ' = (zf τ 36 0))))) := by
  have w0 : Cond.fieldLink RX8 14 "SashwordsModel" "windows" "[[I" ∈ wsX8_marked := by decide +kernel
  have iX8 : ∀ w ∈ u_ws RX8 TX8 11, w ∈ wsX8_marked := by decide +kernel
  refine zM_of (cc := cX8_marked) (nL := 2) (ret := (some .int)) (own := RX8) (by decide +kernel) rfl rfl (Nat.le_of_ble_eq_true rfl) (fun C X hi0 => ?_)
  have nn1 : 0 ≤ κ 0 ∧ κ 0 ≤ κ 1 ∧ κ 0 ≤ E ∧ κ 1 ≤ 7000 := hM.n.1
  show zG C V 0 0 0 [(0, .ref (c 60)), (1, .int (zI (q)))] []
  refine zr_aload_n X 1 0 dX8_marked_0 rfl rfl ?_
  refine zr_iload_n X 2 1 dX8_marked_1 rfl rfl ?_
  refine zr_callS (kc' := 0) (ks' := 0) X 5 1 (m_X8_isNoWindow l Γ (V := V) (x := q) (by omega)) gX8_marked_X8_isNoWindow rfl (by decide +kernel) rfl (by decide) rfl (Nat.le_of_ble_eq_true rfl) dX8_marked_2 rfl (by omega) (by omega) (fun rv2 V3 hp4 => ?_)
  obtain ⟨⟨no5, no5e, no5a⟩, no5v⟩ := hp4
  rw [no5e, no5v]
  show zG C V 0 0 5 [(0, .ref (c 60)), (1, .int (zI (q)))] [.int (zI (no5)), .ref (c 60)]
  refine zr_iconst X 6 dX8_marked_5 rfl ?_
  refine zr_callVe (kc' := 0) (ks' := 0) X 9 2 (m_X8_isThrown l Γ hM (a := no5) (b := 0) (by omega) (by omega)) gX8_marked_X8_isThrown rfl (by decide +kernel) rfl (by decide) ⟨_, _, hM.1⟩ rfl rfl (Nat.le_of_ble_eq_true rfl) dX8_marked_6 rfl (by omega) (by omega) (fun rv6 V7 hp8 => ?_)
  obtain ⟨⟨hp8x, hp8k, hp8e, hp8c, hp8m⟩, hp8g⟩ := hp8
  rw [hp8e]
  rcases hp8c with ⟨tc9a, tc9k, tc9x⟩ | ⟨tc9a, tc9b, tc9k, tc9x⟩ | ⟨tc9a, tc9b, tc9k, tc9x⟩
  · skip
    subst tc9k tc9x
    have fx10 : zfm V V7 := (hp8g.mono (fun t ht => by omega))
    obtain ⟨τ11, τ11e⟩ : ∃ zz9 : Nat → Int, zz9 = zf τ 36 1 := ⟨_, rfl⟩
    rw [← τ11e] at hp8m
    show zG C V7 0 0 9 [(0, .ref (c 60)), (1, .int (zI (q)))] [.int (zI (1))]
    refine zr_if_eq X 16 12 dX8_marked_9 rfl rfl (by omega) (fun bq12 => absurd bq12 (by omega)) (fun bq12 => ?_)
    refine zr_iconst X 13 dX8_marked_12 rfl ?_
    refine zr_goto X 25 dX8_marked_13 rfl ?_
    exact zr_iret X rfl ⟨0, md, τ11, κ, rfl, hp8m.le (by omega), fx10, Or.inl ⟨by omega, rfl, by rw [τ11e]⟩⟩ dX8_marked_25
  · exact absurd tc9b (by decide)
  · skip
    subst tc9k tc9x
    have fx13 : zfm V V7 := (hp8g.mono (fun t ht => by omega))
    obtain ⟨τ14, τ14e⟩ : ∃ zz9 : Nat → Int, zz9 = zf τ 36 0 := ⟨_, rfl⟩
    rw [← τ14e] at hp8m
    show zG C V7 0 0 9 [(0, .ref (c 60)), (1, .int (zI (q)))] [.int (zI (0))]
    refine zr_if_eq X 16 12 dX8_marked_9 rfl rfl (by omega) (fun bq15 => ?_) (fun bq15 => absurd bq15 (by omega))
    refine zr_aload_n X 17 0 dX8_marked_16 rfl rfl ?_
    have c816 : V7 (c 60) = some (60, .inr (9, [.ref (md 61), .int (zI (κ 0)), .ref (c 62), .ref (md 63), .ref (md 64), .ref (c 65), .int (zI (τ14 26)), .int (zI (τ14 28)), .int (zI (τ14 29)), .ref (c 66), .int (zI (τ14 36))])) := hp8m.1
    refine zr_get X 20 9 2 c816 rfl iX8 (by decide) w0 rfl rfl dX8_marked_17 rfl ?_
    refine zr_iload_n X 21 1 dX8_marked_20 rfl rfl ?_
    have c817 : V7 (c 62) = some (62, zq Γ.2.1 4 6 (fun i => some (md (70 + i)))) := hp8m.2.2.1
    refine zr_aaldI X 22 (.ref (md (70 + q.toNat))) c817 (by omega) rfl dX8_marked_21 rfl ?_
    have hw19 := hp8m.w (i := q.toNat) (by omega)
    have hw19r := hw19.rg
    have hw19d := hw19.mk
    have z020 : (zf τ 36 0) (4 * q.toNat) = τ14 (4 * q.toNat) := by rw [τ14e]
    have z021 : (zf τ 36 0) (4 * q.toNat + 1) = τ14 (4 * q.toNat + 1) := by rw [τ14e]
    have z022 : (zf τ 36 0) (4 * q.toNat + 2) = τ14 (4 * q.toNat + 2) := by rw [τ14e]
    have z023 : (zf τ 36 0) (4 * q.toNat + 3) = τ14 (4 * q.toNat + 3) := by rw [τ14e]
    refine zr_callS (kc' := 0) (ks' := 0) X 25 1 (m_X8_markOf l Γ hw19.1 (by omega) (by omega)) gX8_marked_X8_markOf rfl (by decide +kernel) rfl (by decide) rfl (Nat.le_of_ble_eq_true rfl) dX8_marked_22 rfl (by omega) (by omega) (fun rv24 V25 hp26 => ?_)
    obtain ⟨⟨y27, y27e, y270⟩, y27v⟩ := hp26
    rw [y27e, y27v]
    show zG C V7 0 0 25 [(0, .ref (c 60)), (1, .int (zI (q)))] [.int (zI (y27))]
    exact zr_iret X rfl ⟨y27, md, τ14, κ, rfl, hp8m.le (by omega), fx13, Or.inr (Or.inr ⟨by omega, trivial, ⟨by omega, by rw [τ14e]⟩⟩)⟩ dX8_marked_25
set_option maxRecDepth 100000 in
set_option maxHeartbeats 4000000 in
theorem m_X8_sign (l : Launch) (Γ : zGam) {V : zV} {c md : Nat → Nat} {τ κ : Nat → Int} {E : Int} {q z : Int} (hM : zMo Γ V c md τ κ E) (hq : -2147483648 ≤ q ∧ q ≤ 2147483647) (hz : -2147483648 ≤ z ∧ z ≤ 2147483647) : zM l Γ 4 yX8_sign wsX8_sign 0 0 V [.ref (c 60), .int (zI (q)), .int (zI (z))] (fun rv V' => ∃ (y : Int) (md' : Nat → Nat) (τ' κ' : Nat → Int), rv = some (.int (zI y)) ∧ zMo Γ V' c md' τ' κ' (E + 40) ∧ zfm V V' ∧ ((¬ (0 ≤ q ∧ q ≤ 5) ∧ y = 0 ∧ τ' = zf τ 36 1) ∨ ((0 ≤ q ∧ q ≤ 5) ∧ ¬ (True) ∧ y = 0 ∧ τ' = zf τ 36 2) ∨ ((0 ≤ q ∧ q ≤ 5) ∧ (True) ∧ (y = (if 0 ≤ z ∧ z < (zf τ 36 0) (4 * q.toNat + 1) - (zf τ 36 0) (4 * q.toNat + 2) then (zf τ 36 0) (zTp ((zf τ 36 0) (40 + q.toNat) + ((zf τ 36 0) (4 * q.toNat + 2) + z))) else -9) ∧ τ' = (zf τ 36 0))))) := by
  have w0 : Cond.fieldLink RX8 14 "SashwordsModel" "windows" "[[I" ∈ wsX8_sign := by decide +kernel
  have iX8 : ∀ w ∈ u_ws RX8 TX8 11, w ∈ wsX8_sign := by decide +kernel
  have w2 : Cond.fieldLink RX8 7 "SashwordsModel" "tape" "[I" ∈ wsX8_sign := by decide +kernel
  refine zM_of (cc := cX8_sign) (nL := 4) (ret := (some .int)) (own := RX8) (by decide +kernel) rfl rfl (Nat.le_of_ble_eq_true rfl) (fun C X hi0 => ?_)
  have nn1 : 0 ≤ κ 0 ∧ κ 0 ≤ κ 1 ∧ κ 0 ≤ E ∧ κ 1 ≤ 7000 := hM.n.1
  show zG C V 0 0 0 [(0, .ref (c 60)), (1, .int (zI (q))), (2, .int (zI (z)))] []
  refine zr_aload_n X 1 0 dX8_sign_0 rfl rfl ?_
  refine zr_iload_n X 2 1 dX8_sign_1 rfl rfl ?_
  refine zr_callS (kc' := 0) (ks' := 0) X 5 1 (m_X8_isNoWindow l Γ (V := V) (x := q) (by omega)) gX8_sign_X8_isNoWindow rfl (by decide +kernel) rfl (by decide) rfl (Nat.le_of_ble_eq_true rfl) dX8_sign_2 rfl (by omega) (by omega) (fun rv2 V3 hp4 => ?_)
  obtain ⟨⟨no5, no5e, no5a⟩, no5v⟩ := hp4
  rw [no5e, no5v]
  show zG C V 0 0 5 [(0, .ref (c 60)), (1, .int (zI (q))), (2, .int (zI (z)))] [.int (zI (no5)), .ref (c 60)]
  refine zr_iconst X 6 dX8_sign_5 rfl ?_
  refine zr_callVe (kc' := 0) (ks' := 0) X 9 2 (m_X8_isThrown l Γ hM (a := no5) (b := 0) (by omega) (by omega)) gX8_sign_X8_isThrown rfl (by decide +kernel) rfl (by decide) ⟨_, _, hM.1⟩ rfl rfl (Nat.le_of_ble_eq_true rfl) dX8_sign_6 rfl (by omega) (by omega) (fun rv6 V7 hp8 => ?_)
  obtain ⟨⟨hp8x, hp8k, hp8e, hp8c, hp8m⟩, hp8g⟩ := hp8
  rw [hp8e]
  rcases hp8c with ⟨tc9a, tc9k, tc9x⟩ | ⟨tc9a, tc9b, tc9k, tc9x⟩ | ⟨tc9a, tc9b, tc9k, tc9x⟩
  · skip
    subst tc9k tc9x
    have fx10 : zfm V V7 := (hp8g.mono (fun t ht => by omega))
    obtain ⟨τ11, τ11e⟩ : ∃ zz9 : Nat → Int, zz9 = zf τ 36 1 := ⟨_, rfl⟩
    rw [← τ11e] at hp8m
    show zG C V7 0 0 9 [(0, .ref (c 60)), (1, .int (zI (q))), (2, .int (zI (z)))] [.int (zI (1))]
    refine zr_if_eq X 14 12 dX8_sign_9 rfl rfl (by omega) (fun bq12 => absurd bq12 (by omega)) (fun bq12 => ?_)
    refine zr_iconst X 13 dX8_sign_12 rfl ?_
    exact zr_iret X rfl ⟨0, md, τ11, κ, rfl, hp8m.le (by omega), fx10, Or.inl ⟨by omega, rfl, by rw [τ11e]⟩⟩ dX8_sign_13
  · exact absurd tc9b (by decide)
  · skip
    subst tc9k tc9x
    have fx13 : zfm V V7 := (hp8g.mono (fun t ht => by omega))
    obtain ⟨τ14, τ14e⟩ : ∃ zz9 : Nat → Int, zz9 = zf τ 36 0 := ⟨_, rfl⟩
    rw [← τ14e] at hp8m
    show zG C V7 0 0 9 [(0, .ref (c 60)), (1, .int (zI (q))), (2, .int (zI (z)))] [.int (zI (0))]
    refine zr_if_eq X 14 12 dX8_sign_9 rfl rfl (by omega) (fun bq15 => ?_) (fun bq15 => absurd bq15 (by omega))
    refine zr_aload_n X 15 0 dX8_sign_14 rfl rfl ?_
    have c816 : V7 (c 60) = some (60, .inr (9, [.ref (md 61), .int (zI (κ 0)), .ref (c 62), .ref (md 63), .ref (md 64), .ref (c 65), .int (zI (τ14 26)), .int (zI (τ14 28)), .int (zI (τ14 29)), .ref (c 66), .int (zI (τ14 36))])) := hp8m.1
    refine zr_get X 18 9 2 c816 rfl iX8 (by decide) w0 rfl rfl dX8_sign_15 rfl ?_
    refine zr_iload_n X 19 1 dX8_sign_18 rfl rfl ?_
    have c817 : V7 (c 62) = some (62, zq Γ.2.1 4 6 (fun i => some (md (70 + i)))) := hp8m.2.2.1
    refine zr_aaldI X 20 (.ref (md (70 + q.toNat))) c817 (by omega) rfl dX8_sign_19 rfl ?_
    refine zr_astore_n X 21 [(3, .ref (md (70 + q.toNat))), (0, .ref (c 60)), (1, .int (zI (q))), (2, .int (zI (z)))] dX8_sign_20 rfl (by decide) rfl ?_
    refine zr_iload_n X 22 3 dX8_sign_21 rfl rfl ?_
    refine zr_iconst X 23 dX8_sign_22 rfl ?_
    refine zr_aload_n X 24 0 dX8_sign_23 rfl rfl ?_
    have hw19 := hp8m.w (i := q.toNat) (by omega)
    have hw19r := hw19.rg
    have z020 : (zf τ 36 0) (4 * q.toNat) = τ14 (4 * q.toNat) := by rw [τ14e]
    have z021 : (zf τ 36 0) (4 * q.toNat + 1) = τ14 (4 * q.toNat + 1) := by rw [τ14e]
    have z022 : (zf τ 36 0) (4 * q.toNat + 2) = τ14 (4 * q.toNat + 2) := by rw [τ14e]
    have z023 : (zf τ 36 0) (4 * q.toNat + 3) = τ14 (4 * q.toNat + 3) := by rw [τ14e]
    refine zr_callS (kc' := 0) (ks' := 0) X 27 1 (m_X8_length l Γ hw19.1 (by omega)) gX8_sign_X8_length rfl (by decide +kernel) rfl (by decide) rfl (Nat.le_of_ble_eq_true rfl) dX8_sign_24 rfl (by omega) (by omega) (fun rv24 V25 hp26 => ?_)
    rw [hp26.1, hp26.2]
    show zG C V7 0 0 27 [(3, .ref (md (70 + q.toNat))), (0, .ref (c 60)), (1, .int (zI (q))), (2, .int (zI (z)))] [.int (zI ((τ14 (4 * q.toNat + 1)) - (τ14 (4 * q.toNat + 2)))), .int (zI (0)), .int (zI (z))]
    refine zr_iconst X 28 dX8_sign_27 rfl ?_
    refine zr_isub X 29 dX8_sign_28 rfl ?_
    refine zr_callS (kc' := 0) (ks' := 0) X 32 3 (m_X8_isNo l Γ (V := V7) (x := z) (a := 0) (b := ((τ14 (4 * q.toNat + 1)) - (τ14 (4 * q.toNat + 2))) - 1) (by omega) (by omega) (by omega)) gX8_sign_X8_isNo rfl (by decide +kernel) rfl (by decide) rfl (Nat.le_of_ble_eq_true rfl) dX8_sign_29 rfl (by omega) (by omega) (fun rv27 V28 hp29 => ?_)
    obtain ⟨⟨no30, no30e, no30a⟩, no30v⟩ := hp29
    rw [no30e, no30v]
    show zG C V7 0 0 32 [(3, .ref (md (70 + q.toNat))), (0, .ref (c 60)), (1, .int (zI (q))), (2, .int (zI (z)))] [.int (zI (no30))]
    refine zr_if_eq X 40 35 dX8_sign_32 rfl rfl (by omega) (fun bq31 => ?_) (fun bq31 => ?_)
    · refine zr_aload_n X 41 1 dX8_sign_40 rfl rfl ?_
      refine zr_get X 44 9 0 c816 rfl iX8 (by decide) w2 rfl rfl dX8_sign_41 rfl ?_
      refine zr_aload_n X 45 0 dX8_sign_44 rfl rfl ?_
      refine zr_iconst X 46 dX8_sign_45 rfl ?_
      refine zr_iald X 47 hw19.1 (by omega) dX8_sign_46 rfl ?_
      show zG C V7 0 0 47 [(3, .ref (md (70 + q.toNat))), (0, .ref (c 60)), (1, .int (zI (q))), (2, .int (zI (z)))] [.int (zI (κ (10 + q.toNat))), .ref (md 61)]
      refine zr_aload_n X 48 0 dX8_sign_47 rfl rfl ?_
      refine zr_iconst X 49 dX8_sign_48 rfl ?_
      refine zr_iald X 50 hw19.1 (by omega) dX8_sign_49 rfl ?_
      show zG C V7 0 0 50 [(3, .ref (md (70 + q.toNat))), (0, .ref (c 60)), (1, .int (zI (q))), (2, .int (zI (z)))] [.int (zI (τ14 (4 * q.toNat + 2))), .int (zI (κ (10 + q.toNat))), .ref (md 61)]
      refine zr_iadd X 51 dX8_sign_50 rfl ?_
      refine zr_iload_n X 52 3 dX8_sign_51 rfl rfl ?_
      refine zr_iadd X 53 dX8_sign_52 rfl ?_
      obtain ⟨c832f, c832, c832c, c832v⟩ := hp8m.ct.1
      refine zr_iald X 54 c832 (by omega) dX8_sign_53 rfl ?_
      have zb33 := zc.b c832c (((κ (10 + q.toNat)) + (τ14 (4 * q.toNat + 2))) + z).toNat
      exact zr_iret X rfl ⟨c832f (((κ (10 + q.toNat)) + (τ14 (4 * q.toNat + 2))) + z).toNat, md, τ14, κ, rfl, hp8m.le (by omega), fx13, Or.inr (Or.inr ⟨by omega, trivial, ⟨(by have h40 := hp8m.ct.2.2.1.2 q.toNat (by omega); rw [if_pos (by omega), c832v _ (by omega), ← τ14e]; exact congrArg τ14 (by unfold zTp; omega)), by rw [τ14e]⟩⟩)⟩ dX8_sign_54
    · refine zr_bipush X 37 (-9) dX8_sign_35 rfl (by decide) ?_
      refine zr_goto X 54 dX8_sign_37 rfl ?_
      exact zr_iret X rfl ⟨-9, md, τ14, κ, rfl, hp8m.le (by omega), fx13, Or.inr (Or.inr ⟨by omega, trivial, ⟨by rw [if_neg (by omega)], by rw [τ14e]⟩⟩)⟩ dX8_sign_54
set_option maxRecDepth 100000 in
set_option maxHeartbeats 4000000 in
theorem m_X8_look (l : Launch) (Γ : zGam) {V : zV} {c md : Nat → Nat} {τ κ : Nat → Int} {E : Int} {q z : Int} (hM : zMo Γ V c md τ κ E) (hq : -2147483648 ≤ q ∧ q ≤ 2147483647) (hz : -2147483648 ≤ z ∧ z ≤ 2147483647) : zM l Γ 4 yX8_look wsX8_look 0 0 V [.ref (c 60), .int (zI (q)), .int (zI (z))] (fun rv V' => ∃ (y : Int) (md' : Nat → Nat) (τ' κ' : Nat → Int), rv = some (.int (zI y)) ∧ zMo Γ V' c md' τ' κ' (E + 40) ∧ zfm V V' ∧ ((¬ (0 ≤ q ∧ q ≤ 5) ∧ y = 0 ∧ τ' = zf τ 36 1) ∨ ((0 ≤ q ∧ q ≤ 5) ∧ ¬ (True) ∧ y = 0 ∧ τ' = zf τ 36 2) ∨ ((0 ≤ q ∧ q ≤ 5) ∧ (True) ∧ (y = (if 0 ≤ z ∧ z < (zf τ 36 0) (4 * q.toNat + 1) then (zf τ 36 0) (zTp ((zf τ 36 0) (40 + q.toNat) + z)) else -9) ∧ τ' = (zf τ 36 0))))) := by
  have w0 : Cond.fieldLink RX8 14 "SashwordsModel" "windows" "[[I" ∈ wsX8_look := by decide +kernel
  have iX8 : ∀ w ∈ u_ws RX8 TX8 11, w ∈ wsX8_look := by decide +kernel
  have w2 : Cond.fieldLink RX8 7 "SashwordsModel" "tape" "[I" ∈ wsX8_look := by decide +kernel
  refine zM_of (cc := cX8_look) (nL := 4) (ret := (some .int)) (own := RX8) (by decide +kernel) rfl rfl (Nat.le_of_ble_eq_true rfl) (fun C X hi0 => ?_)
  have nn1 : 0 ≤ κ 0 ∧ κ 0 ≤ κ 1 ∧ κ 0 ≤ E ∧ κ 1 ≤ 7000 := hM.n.1
  show zG C V 0 0 0 [(0, .ref (c 60)), (1, .int (zI (q))), (2, .int (zI (z)))] []
  refine zr_aload_n X 1 0 dX8_look_0 rfl rfl ?_
  refine zr_iload_n X 2 1 dX8_look_1 rfl rfl ?_
  refine zr_callS (kc' := 0) (ks' := 0) X 5 1 (m_X8_isNoWindow l Γ (V := V) (x := q) (by omega)) gX8_look_X8_isNoWindow rfl (by decide +kernel) rfl (by decide) rfl (Nat.le_of_ble_eq_true rfl) dX8_look_2 rfl (by omega) (by omega) (fun rv2 V3 hp4 => ?_)
  obtain ⟨⟨no5, no5e, no5a⟩, no5v⟩ := hp4
  rw [no5e, no5v]
  show zG C V 0 0 5 [(0, .ref (c 60)), (1, .int (zI (q))), (2, .int (zI (z)))] [.int (zI (no5)), .ref (c 60)]
  refine zr_iconst X 6 dX8_look_5 rfl ?_
  refine zr_callVe (kc' := 0) (ks' := 0) X 9 2 (m_X8_isThrown l Γ hM (a := no5) (b := 0) (by omega) (by omega)) gX8_look_X8_isThrown rfl (by decide +kernel) rfl (by decide) ⟨_, _, hM.1⟩ rfl rfl (Nat.le_of_ble_eq_true rfl) dX8_look_6 rfl (by omega) (by omega) (fun rv6 V7 hp8 => ?_)
  obtain ⟨⟨hp8x, hp8k, hp8e, hp8c, hp8m⟩, hp8g⟩ := hp8
  rw [hp8e]
  rcases hp8c with ⟨tc9a, tc9k, tc9x⟩ | ⟨tc9a, tc9b, tc9k, tc9x⟩ | ⟨tc9a, tc9b, tc9k, tc9x⟩
  · skip
    subst tc9k tc9x
    have fx10 : zfm V V7 := (hp8g.mono (fun t ht => by omega))
    obtain ⟨τ11, τ11e⟩ : ∃ zz9 : Nat → Int, zz9 = zf τ 36 1 := ⟨_, rfl⟩
    rw [← τ11e] at hp8m
    show zG C V7 0 0 9 [(0, .ref (c 60)), (1, .int (zI (q))), (2, .int (zI (z)))] [.int (zI (1))]
    refine zr_if_eq X 14 12 dX8_look_9 rfl rfl (by omega) (fun bq12 => absurd bq12 (by omega)) (fun bq12 => ?_)
    refine zr_iconst X 13 dX8_look_12 rfl ?_
    exact zr_iret X rfl ⟨0, md, τ11, κ, rfl, hp8m.le (by omega), fx10, Or.inl ⟨by omega, rfl, by rw [τ11e]⟩⟩ dX8_look_13
  · exact absurd tc9b (by decide)
  · skip
    subst tc9k tc9x
    have fx13 : zfm V V7 := (hp8g.mono (fun t ht => by omega))
    obtain ⟨τ14, τ14e⟩ : ∃ zz9 : Nat → Int, zz9 = zf τ 36 0 := ⟨_, rfl⟩
    rw [← τ14e] at hp8m
    show zG C V7 0 0 9 [(0, .ref (c 60)), (1, .int (zI (q))), (2, .int (zI (z)))] [.int (zI (0))]
    refine zr_if_eq X 14 12 dX8_look_9 rfl rfl (by omega) (fun bq15 => ?_) (fun bq15 => absurd bq15 (by omega))
    refine zr_aload_n X 15 0 dX8_look_14 rfl rfl ?_
    have c816 : V7 (c 60) = some (60, .inr (9, [.ref (md 61), .int (zI (κ 0)), .ref (c 62), .ref (md 63), .ref (md 64), .ref (c 65), .int (zI (τ14 26)), .int (zI (τ14 28)), .int (zI (τ14 29)), .ref (c 66), .int (zI (τ14 36))])) := hp8m.1
    refine zr_get X 18 9 2 c816 rfl iX8 (by decide) w0 rfl rfl dX8_look_15 rfl ?_
    refine zr_iload_n X 19 1 dX8_look_18 rfl rfl ?_
    have c817 : V7 (c 62) = some (62, zq Γ.2.1 4 6 (fun i => some (md (70 + i)))) := hp8m.2.2.1
    refine zr_aaldI X 20 (.ref (md (70 + q.toNat))) c817 (by omega) rfl dX8_look_19 rfl ?_
    refine zr_astore_n X 21 [(3, .ref (md (70 + q.toNat))), (0, .ref (c 60)), (1, .int (zI (q))), (2, .int (zI (z)))] dX8_look_20 rfl (by decide) rfl ?_
    refine zr_iload_n X 22 3 dX8_look_21 rfl rfl ?_
    refine zr_iconst X 23 dX8_look_22 rfl ?_
    refine zr_aload_n X 24 0 dX8_look_23 rfl rfl ?_
    refine zr_iconst X 25 dX8_look_24 rfl ?_
    have hw19 := hp8m.w (i := q.toNat) (by omega)
    have hw19r := hw19.rg
    have z020 : (zf τ 36 0) (4 * q.toNat) = τ14 (4 * q.toNat) := by rw [τ14e]
    have z021 : (zf τ 36 0) (4 * q.toNat + 1) = τ14 (4 * q.toNat + 1) := by rw [τ14e]
    have z022 : (zf τ 36 0) (4 * q.toNat + 2) = τ14 (4 * q.toNat + 2) := by rw [τ14e]
    have z023 : (zf τ 36 0) (4 * q.toNat + 3) = τ14 (4 * q.toNat + 3) := by rw [τ14e]
    refine zr_iald X 26 hw19.1 (by omega) dX8_look_25 rfl ?_
    show zG C V7 0 0 26 [(3, .ref (md (70 + q.toNat))), (0, .ref (c 60)), (1, .int (zI (q))), (2, .int (zI (z)))] [.int (zI (τ14 (4 * q.toNat + 1))), .int (zI (0)), .int (zI (z))]
    refine zr_iconst X 27 dX8_look_26 rfl ?_
    refine zr_isub X 28 dX8_look_27 rfl ?_
    refine zr_callS (kc' := 0) (ks' := 0) X 31 3 (m_X8_isNo l Γ (V := V7) (x := z) (a := 0) (b := (τ14 (4 * q.toNat + 1)) - 1) (by omega) (by omega) (by omega)) gX8_look_X8_isNo rfl (by decide +kernel) rfl (by decide) rfl (Nat.le_of_ble_eq_true rfl) dX8_look_28 rfl (by omega) (by omega) (fun rv24 V25 hp26 => ?_)
    obtain ⟨⟨no27, no27e, no27a⟩, no27v⟩ := hp26
    rw [no27e, no27v]
    show zG C V7 0 0 31 [(3, .ref (md (70 + q.toNat))), (0, .ref (c 60)), (1, .int (zI (q))), (2, .int (zI (z)))] [.int (zI (no27))]
    refine zr_if_eq X 39 34 dX8_look_31 rfl rfl (by omega) (fun bq28 => ?_) (fun bq28 => ?_)
    · refine zr_aload_n X 40 1 dX8_look_39 rfl rfl ?_
      refine zr_get X 43 9 0 c816 rfl iX8 (by decide) w2 rfl rfl dX8_look_40 rfl ?_
      refine zr_aload_n X 44 0 dX8_look_43 rfl rfl ?_
      refine zr_iconst X 45 dX8_look_44 rfl ?_
      refine zr_iald X 46 hw19.1 (by omega) dX8_look_45 rfl ?_
      show zG C V7 0 0 46 [(3, .ref (md (70 + q.toNat))), (0, .ref (c 60)), (1, .int (zI (q))), (2, .int (zI (z)))] [.int (zI (κ (10 + q.toNat))), .ref (md 61)]
      refine zr_iload_n X 47 3 dX8_look_46 rfl rfl ?_
      refine zr_iadd X 48 dX8_look_47 rfl ?_
      obtain ⟨c829f, c829, c829c, c829v⟩ := hp8m.ct.1
      refine zr_iald X 49 c829 (by omega) dX8_look_48 rfl ?_
      have zb30 := zc.b c829c ((κ (10 + q.toNat)) + z).toNat
      exact zr_iret X rfl ⟨c829f ((κ (10 + q.toNat)) + z).toNat, md, τ14, κ, rfl, hp8m.le (by omega), fx13, Or.inr (Or.inr ⟨by omega, trivial, ⟨(by have h40 := hp8m.ct.2.2.1.2 q.toNat (by omega); rw [if_pos (by omega), c829v _ (by omega), ← τ14e]; exact congrArg τ14 (by unfold zTp; omega)), by rw [τ14e]⟩⟩)⟩ dX8_look_49
    · refine zr_bipush X 36 (-9) dX8_look_34 rfl (by decide) ?_
      refine zr_goto X 49 dX8_look_36 rfl ?_
      exact zr_iret X rfl ⟨-9, md, τ14, κ, rfl, hp8m.le (by omega), fx13, Or.inr (Or.inr ⟨by omega, trivial, ⟨by rw [if_neg (by omega)], by rw [τ14e]⟩⟩)⟩ dX8_look_49
set_option maxRecDepth 100000 in
set_option maxHeartbeats 4000000 in
theorem m_X8_text_ (l : Launch) (Γ : zGam) {V : zV} {c md : Nat → Nat} {τ κ : Nat → Int} {E : Int} {q z : Int} (hM : zMo Γ V c md τ κ E) (hq : -2147483648 ≤ q ∧ q ≤ 2147483647) (hz : -2147483648 ≤ z ∧ z ≤ 2147483647) : zM l Γ 10 yX8_text_ wsX8_text_ 3011 6340 V [.ref (c 60), .int (zI (q)), .int (zI (z))] (fun rv V' => ∃ (zr : Nat) (md' : Nat → Nat) (τ' κ' : Nat → Int), rv = some (.ref zr) ∧ zMo Γ V' c md' τ' κ' (E + 40) ∧ zfm V V' ∧ ((¬ (0 ≤ q ∧ q ≤ 5) ∧ τ' = zf τ 36 1) ∨ ((0 ≤ q ∧ q ≤ 5) ∧ ¬ (0 ≤ z ∧ z ≤ 3) ∧ τ' = zf τ 36 2) ∨ ((0 ≤ q ∧ q ≤ 5) ∧ (0 ≤ z ∧ z ≤ 3) ∧ (τ' = (zf τ 36 0))))) := by
  have w0 : Cond.fieldLink RX8 14 "SashwordsModel" "windows" "[[I" ∈ wsX8_text_ := by decide +kernel
  have iX8 : ∀ w ∈ u_ws RX8 TX8 11, w ∈ wsX8_text_ := by decide +kernel
  refine zM_of (cc := cX8_text_) (nL := 4) (ret := (some (.object "java/lang/String"))) (own := RX8) (by decide +kernel) rfl rfl (Nat.le_of_ble_eq_true rfl) (fun C X hi0 => ?_)
  have nn1 : 0 ≤ κ 0 ∧ κ 0 ≤ κ 1 ∧ κ 0 ≤ E ∧ κ 1 ≤ 7000 := hM.n.1
  show zG C V 3011 6340 0 [(0, .ref (c 60)), (1, .int (zI (q))), (2, .int (zI (z)))] []
  refine zr_aload_n X 1 0 dX8_text__0 rfl rfl ?_
  refine zr_iload_n X 2 1 dX8_text__1 rfl rfl ?_
  refine zr_callS (kc' := 3011) (ks' := 6340) X 5 1 (m_X8_isNoWindow l Γ (V := V) (x := q) (by omega)) gX8_text__X8_isNoWindow rfl (by decide +kernel) rfl (by decide) rfl (Nat.le_of_ble_eq_true rfl) dX8_text__2 rfl (by omega) (by omega) (fun rv2 V3 hp4 => ?_)
  obtain ⟨⟨no5, no5e, no5a⟩, no5v⟩ := hp4
  rw [no5e, no5v]
  show zG C V 3011 6340 5 [(0, .ref (c 60)), (1, .int (zI (q))), (2, .int (zI (z)))] [.int (zI (no5)), .ref (c 60)]
  refine zr_iload_n X 6 2 dX8_text__5 rfl rfl ?_
  refine zr_iconst X 7 dX8_text__6 rfl ?_
  refine zr_iconst X 8 dX8_text__7 rfl ?_
  refine zr_callS (kc' := 3011) (ks' := 6340) X 11 3 (m_X8_isNo l Γ (V := V) (x := z) (a := 0) (b := 3) (by omega) (by omega) (by omega)) gX8_text__X8_isNo rfl (by decide +kernel) rfl (by decide) rfl (Nat.le_of_ble_eq_true rfl) dX8_text__8 rfl (by omega) (by omega) (fun rv6 V7 hp8 => ?_)
  obtain ⟨⟨no9, no9e, no9a⟩, no9v⟩ := hp8
  rw [no9e, no9v]
  show zG C V 3011 6340 11 [(0, .ref (c 60)), (1, .int (zI (q))), (2, .int (zI (z)))] [.int (zI (no9)), .int (zI (no5)), .ref (c 60)]
  refine zr_callVe (kc' := 3011) (ks' := 6340) X 14 2 (m_X8_isThrown l Γ hM (a := no5) (b := no9) (by omega) (by omega)) gX8_text__X8_isThrown rfl (by decide +kernel) rfl (by decide) ⟨_, _, hM.1⟩ rfl rfl (Nat.le_of_ble_eq_true rfl) dX8_text__11 rfl (by omega) (by omega) (fun rv10 V11 hp12 => ?_)
  obtain ⟨⟨hp12x, hp12k, hp12e, hp12c, hp12m⟩, hp12g⟩ := hp12
  rw [hp12e]
  rcases hp12c with ⟨tc13a, tc13k, tc13x⟩ | ⟨tc13a, tc13b, tc13k, tc13x⟩ | ⟨tc13a, tc13b, tc13k, tc13x⟩
  · skip
    subst tc13k tc13x
    have fx14 : zfm V V11 := (hp12g.mono (fun t ht => by omega))
    obtain ⟨τ15, τ15e⟩ : ∃ zz9 : Nat → Int, zz9 = zf τ 36 1 := ⟨_, rfl⟩
    rw [← τ15e] at hp12m
    show zG C V11 3011 6340 14 [(0, .ref (c 60)), (1, .int (zI (q))), (2, .int (zI (z)))] [.int (zI (1))]
    refine zr_if_eq X 20 17 dX8_text__14 rfl rfl (by omega) (fun bq16 => absurd bq16 (by omega)) (fun bq16 => ?_)
    refine zr_ldcS X 19 6 rfl dX8_text__17 rfl ?_
    exact zr_aret X rfl (Or.inl ⟨_, rfl⟩) ⟨Γ.2.2.1 6, md, τ15, κ, rfl, hp12m.le (by omega), fx14, Or.inl ⟨by omega, by rw [τ15e]⟩⟩ dX8_text__19
  · skip
    subst tc13k tc13x
    have fx17 : zfm V V11 := (hp12g.mono (fun t ht => by omega))
    obtain ⟨τ18, τ18e⟩ : ∃ zz9 : Nat → Int, zz9 = zf τ 36 2 := ⟨_, rfl⟩
    rw [← τ18e] at hp12m
    show zG C V11 3011 6340 14 [(0, .ref (c 60)), (1, .int (zI (q))), (2, .int (zI (z)))] [.int (zI (1))]
    refine zr_if_eq X 20 17 dX8_text__14 rfl rfl (by omega) (fun bq19 => absurd bq19 (by omega)) (fun bq19 => ?_)
    refine zr_ldcS X 19 6 rfl dX8_text__17 rfl ?_
    exact zr_aret X rfl (Or.inl ⟨_, rfl⟩) ⟨Γ.2.2.1 6, md, τ18, κ, rfl, hp12m.le (by omega), fx17, Or.inr (Or.inl ⟨by omega, by omega, by rw [τ18e]⟩)⟩ dX8_text__19
  · skip
    subst tc13k tc13x
    have fx20 : zfm V V11 := (hp12g.mono (fun t ht => by omega))
    obtain ⟨τ21, τ21e⟩ : ∃ zz9 : Nat → Int, zz9 = zf τ 36 0 := ⟨_, rfl⟩
    rw [← τ21e] at hp12m
    show zG C V11 3011 6340 14 [(0, .ref (c 60)), (1, .int (zI (q))), (2, .int (zI (z)))] [.int (zI (0))]
    refine zr_if_eq X 20 17 dX8_text__14 rfl rfl (by omega) (fun bq22 => ?_) (fun bq22 => absurd bq22 (by omega))
    refine zr_aload_n X 21 0 dX8_text__20 rfl rfl ?_
    refine zr_aload_n X 22 0 dX8_text__21 rfl rfl ?_
    have c823 : V11 (c 60) = some (60, .inr (9, [.ref (md 61), .int (zI (κ 0)), .ref (c 62), .ref (md 63), .ref (md 64), .ref (c 65), .int (zI (τ21 26)), .int (zI (τ21 28)), .int (zI (τ21 29)), .ref (c 66), .int (zI (τ21 36))])) := hp12m.1
    refine zr_get X 25 9 2 c823 rfl iX8 (by decide) w0 rfl rfl dX8_text__22 rfl ?_
    refine zr_iload_n X 26 1 dX8_text__25 rfl rfl ?_
    have c824 : V11 (c 62) = some (62, zq Γ.2.1 4 6 (fun i => some (md (70 + i)))) := hp12m.2.2.1
    refine zr_aaldI X 27 (.ref (md (70 + q.toNat))) c824 (by omega) rfl dX8_text__26 rfl ?_
    have hw26 := hp12m.w (i := q.toNat) (by omega)
    have hw26r := hw26.rg
    have z027 : (zf τ 36 0) (4 * q.toNat) = τ21 (4 * q.toNat) := by rw [τ21e]
    have z028 : (zf τ 36 0) (4 * q.toNat + 1) = τ21 (4 * q.toNat + 1) := by rw [τ21e]
    have z029 : (zf τ 36 0) (4 * q.toNat + 2) = τ21 (4 * q.toNat + 2) := by rw [τ21e]
    have z030 : (zf τ 36 0) (4 * q.toNat + 3) = τ21 (4 * q.toNat + 3) := by rw [τ21e]
    refine zr_callVe (kc' := (3011 - 1)) (ks' := (6340 - 40)) X 30 1 (m_X8_text l Γ (tg := 76) (i := q) hp12m (by omega)) gX8_text__X8_text rfl (by decide +kernel) rfl (by decide) ⟨_, _, hp12m.1⟩ rfl rfl (Nat.le_of_ble_eq_true rfl) dX8_text__27 rfl (by omega) (by omega) (fun rv31 V32 hp33 => ?_)
    obtain ⟨hp33q, hp33f, hp33e, hp33h, hp33c, hp33g, hp33z⟩ := hp33
    rw [hp33e]
    have hp33m := hp12m.kept hp33g (fun _ _ _ => trivial)
    have fx34 : zfm V V32 := zag.tr fx20 (hp33g.mono (fun _ _ => trivial))
    show zG C V32 (3011 - 1) (6340 - 40) 30 [(0, .ref (c 60)), (1, .int (zI (q))), (2, .int (zI (z)))] [.ref hp33q]
    refine zr_astore_n X 31 [(3, .ref hp33q), (0, .ref (c 60)), (1, .int (zI (q))), (2, .int (zI (z)))] dX8_text__30 rfl (by decide) rfl ?_
    refine zr_aload_n X 32 0 dX8_text__31 rfl rfl ?_
    refine zr_iconst X 33 dX8_text__32 rfl ?_
    refine zr_aload_n X 34 0 dX8_text__33 rfl rfl ?_
    refine zr_alen X 35 0 hp33h (by decide) dX8_text__34 rfl ?_
    refine zr_callS (kc' := (3011 - 1) - 3010) (ks' := (6340 - 40) - 6300) X 38 3 (m_X8_told l Γ (fr := 0) (to := ((τ21 (4 * q.toNat + 1) - τ21 (4 * q.toNat + 2)).toNat : Nat)) hp33h hp33c (by omega) (by omega) (by omega)) gX8_text__X8_told rfl (by decide +kernel) rfl (by decide) rfl (Nat.le_of_ble_eq_true rfl) dX8_text__35 rfl (by omega) (by omega) (fun rv35 V36 hp37 => ?_)
    obtain ⟨hp37z, hp37e, hp37f⟩ := hp37
    rw [hp37e]
    have hp37g : zag (fun x => x ≠ 7) V32 V36 := hp37f
    have hp37m := hp33m.kept hp37g (fun t h1 h2 => by omega)
    have lc38 := hp37g _ _ _ hp33h (by omega)
    have fx39 : zfm V V36 := zag.tr fx34 (hp37g.mono (fun t ht => by omega))
    show zG C V36 ((3011 - 1) - 3010) ((6340 - 40) - 6300) 38 [(3, .ref hp33q), (0, .ref (c 60)), (1, .int (zI (q))), (2, .int (zI (z)))] [.ref hp37z]
    exact zr_aret X rfl (Or.inl ⟨_, rfl⟩) ⟨hp37z, md, τ21, κ, rfl, hp37m.le (by omega), fx39, Or.inr (Or.inr ⟨by omega, by omega, by rw [τ21e]⟩)⟩ dX8_text__38
