/-! the model: the windows' calls, second half -/
set_option maxRecDepth 100000 in
set_option maxHeartbeats 4000000 in
theorem m_X8_rewind (l : Launch) (Γ : zGam) {V : zV} {c md : Nat → Nat} {τ κ : Nat → Int} {E : Int} {q : Int} (hM : zMo Γ V c md τ κ E) (hq : -2147483648 ≤ q ∧ q ≤ 2147483647) : zM l Γ 4 yX8_rewind wsX8_rewind 0 0 V [.ref (c 60), .int (zI (q))] (fun rv V' => ∃ (y : Int) (md' : Nat → Nat) (τ' κ' : Nat → Int), rv = some (.int (zI y)) ∧ zMo Γ V' c md' τ' κ' (E + 40) ∧ zfm V V' ∧ ((¬ (0 ≤ q ∧ q ≤ 5) ∧ y = 0 ∧ τ' = zf τ 36 1) ∨ ((0 ≤ q ∧ q ≤ 5) ∧ ¬ (True) ∧ y = 0 ∧ τ' = zf τ 36 2) ∨ ((0 ≤ q ∧ q ≤ 5) ∧ (True) ∧ (y = (zf τ 36 0) (4 * q.toNat + 1) - 0 ∧ τ' = zdn (zw4 (zf τ 36 0) q.toNat ((zf τ 36 0) (4 * q.toNat)) ((zf τ 36 0) (4 * q.toNat + 1)) 0 (-9)))))) := by
  have w0 : Cond.fieldLink RX8 14 "SashwordsModel" "windows" "[[I" ∈ wsX8_rewind := by decide +kernel
  have iX8 : ∀ w ∈ u_ws RX8 TX8 11, w ∈ wsX8_rewind := by decide +kernel
  refine zM_of (cc := cX8_rewind) (nL := 3) (ret := (some .int)) (own := RX8) (by decide +kernel) rfl rfl (Nat.le_of_ble_eq_true rfl) (fun C X hi0 => ?_)
  have nn1 : 0 ≤ κ 0 ∧ κ 0 ≤ κ 1 ∧ κ 0 ≤ E ∧ κ 1 ≤ 7000 := hM.n.1
  show zG C V 0 0 0 [(0, .ref (c 60)), (1, .int (zI (q)))] []
  refine zr_aload_n X 1 0 dX8_rewind_0 rfl rfl ?_
  refine zr_iload_n X 2 1 dX8_rewind_1 rfl rfl ?_
  refine zr_callS (kc' := 0) (ks' := 0) X 5 1 (m_X8_isNoWindow l Γ (V := V) (x := q) (by first | with_reducible assumption | decide | omega)) gX8_rewind_X8_isNoWindow rfl (by decide +kernel) rfl (by decide) rfl (Nat.le_of_ble_eq_true rfl) dX8_rewind_2 rfl (by first | with_reducible assumption | decide | omega) (by first | with_reducible assumption | decide | omega) (fun rv2 V3 hp4 => ?_)
  obtain ⟨⟨no5, no5e, no5a⟩, no5v⟩ := hp4
  rw [no5e, no5v]
  show zG C V 0 0 5 [(0, .ref (c 60)), (1, .int (zI (q)))] [.int (zI (no5)), .ref (c 60)]
  refine zr_iconst X 6 dX8_rewind_5 rfl ?_
  refine zr_callVe (kc' := 0) (ks' := 0) X 9 2 (m_X8_isThrown l Γ hM (a := no5) (b := 0) (by first | with_reducible assumption | decide | omega) (by first | with_reducible assumption | decide | omega)) gX8_rewind_X8_isThrown rfl (by decide +kernel) rfl (by decide) ⟨_, _, hM.1⟩ rfl rfl (Nat.le_of_ble_eq_true rfl) dX8_rewind_6 rfl (by first | with_reducible assumption | decide | omega) (by first | with_reducible assumption | decide | omega) (fun rv6 V7 hp8 => ?_)
  obtain ⟨⟨hp8x, hp8k, hp8e, hp8c, hp8m⟩, hp8g⟩ := hp8
  rw [hp8e]
  rcases hp8c with ⟨tc9a, tc9k, tc9x⟩ | ⟨tc9a, tc9b, tc9k, tc9x⟩ | ⟨tc9a, tc9b, tc9k, tc9x⟩
  · skip
    subst tc9k tc9x
    have fx10 : zfm V V7 := (hp8g.mono (fun t ht => by omega))
    obtain ⟨τ11, τ11e⟩ : ∃ zz9 : Nat → Int, zz9 = zf τ 36 1 := ⟨_, rfl⟩
    rw [← τ11e] at hp8m
    show zG C V7 0 0 9 [(0, .ref (c 60)), (1, .int (zI (q)))] [.int (zI (1))]
    refine zr_if_eq X 14 12 dX8_rewind_9 rfl rfl (by first | with_reducible assumption | decide | omega) (fun bq12 => absurd bq12 (by first | with_reducible assumption | decide | omega)) (fun bq12 => ?_)
    refine zr_iconst X 13 dX8_rewind_12 rfl ?_
    exact zr_iret X rfl ⟨0, md, τ11, κ, rfl, hp8m.le (by first | with_reducible assumption | decide | omega), fx10, Or.inl ⟨by omega, rfl, by rw [τ11e]⟩⟩ dX8_rewind_13
  · exact absurd tc9b (by decide)
  · skip
    subst tc9k tc9x
    have fx13 : zfm V V7 := (hp8g.mono (fun t ht => by omega))
    obtain ⟨τ14, τ14e⟩ : ∃ zz9 : Nat → Int, zz9 = zf τ 36 0 := ⟨_, rfl⟩
    rw [← τ14e] at hp8m
    show zG C V7 0 0 9 [(0, .ref (c 60)), (1, .int (zI (q)))] [.int (zI (0))]
    refine zr_if_eq X 14 12 dX8_rewind_9 rfl rfl (by first | with_reducible assumption | decide | omega) (fun bq15 => ?_) (fun bq15 => absurd bq15 (by first | with_reducible assumption | decide | omega))
    refine zr_aload_n X 15 0 dX8_rewind_14 rfl rfl ?_
    have c816 : V7 (c 60) = some (60, .inr (9, [.ref (md 61), .int (zI (κ 0)), .ref (c 62), .ref (md 63), .ref (md 64), .ref (c 65), .int (zI (τ14 26)), .int (zI (τ14 28)), .int (zI (τ14 29)), .ref (c 66), .int (zI (τ14 36))])) := hp8m.1
    refine zr_get X 18 9 2 c816 rfl iX8 (by decide) w0 rfl rfl dX8_rewind_15 rfl ?_
    refine zr_iload_n X 19 1 dX8_rewind_18 rfl rfl ?_
    have c817 : V7 (c 62) = some (62, zq Γ.2.1 4 6 (fun i => some (md (70 + i)))) := hp8m.2.2.1
    refine zr_aaldI X 20 (.ref (md (70 + q.toNat))) c817 (by first | with_reducible assumption | decide | omega) rfl dX8_rewind_19 rfl ?_
    refine zr_astore_n X 21 [(2, .ref (md (70 + q.toNat))), (0, .ref (c 60)), (1, .int (zI (q)))] dX8_rewind_20 rfl (by decide) rfl ?_
    refine zr_aload_n X 22 0 dX8_rewind_21 rfl rfl ?_
    refine zr_iconst X 23 dX8_rewind_22 rfl ?_
    refine zr_aload_n X 24 0 dX8_rewind_23 rfl rfl ?_
    refine zr_iconst X 25 dX8_rewind_24 rfl ?_
    have hw19 := hp8m.w (i := q.toNat) (by first | with_reducible assumption | decide | omega)
    have hw19r := hw19.rg
    have z020 : (zf τ 36 0) (4 * q.toNat) = τ14 (4 * q.toNat) := by rw [τ14e]
    have z021 : (zf τ 36 0) (4 * q.toNat + 1) = τ14 (4 * q.toNat + 1) := by rw [τ14e]
    have z022 : (zf τ 36 0) (4 * q.toNat + 2) = τ14 (4 * q.toNat + 2) := by rw [τ14e]
    have z023 : (zf τ 36 0) (4 * q.toNat + 3) = τ14 (4 * q.toNat + 3) := by rw [τ14e]
    refine zr_iald X 26 hw19.1 (by first | with_reducible assumption | decide | omega) dX8_rewind_25 rfl ?_
    show zG C V7 0 0 26 [(2, .ref (md (70 + q.toNat))), (0, .ref (c 60)), (1, .int (zI (q)))] [.int (zI (τ14 (4 * q.toNat + 1))), .int (zI (0)), .ref (md (70 + q.toNat))]
    refine zr_iconst X 27 dX8_rewind_26 rfl ?_
    refine zr_callS (kc' := 0) (ks' := 0) X 30 4 (m_X8_place l Γ (p1 := 0) (l1 := τ14 (4 * q.toNat + 1)) (m1 := -1) hw19.1 (by first | with_reducible assumption | decide | omega)) gX8_rewind_X8_place rfl (by decide +kernel) rfl (by decide) rfl (Nat.le_of_ble_eq_true rfl) dX8_rewind_27 rfl (by first | with_reducible assumption | decide | omega) (by first | with_reducible assumption | decide | omega) (fun rv24 V25 hp26 => ?_)
    rw [hp26.1, hp26.2]
    obtain ⟨cm27h, cm27f⟩ := hp8m.setW (i := q.toNat) (by first | with_reducible assumption | decide | omega) (τ14 (4 * q.toNat + 1)) (0) (-9) (-1) ⟨by omega, by omega, by omega, (Or.inl ⟨rfl, rfl⟩), by omega⟩
    obtain ⟨cm27V, cm27e⟩ : ∃ zz9 : zV, zz9 = (zu V7 (md (70 + q.toNat)) (70 + q.toNat) (za Γ.2.1 0 5 (zr5 (κ (10 + q.toNat)) (τ14 (4 * q.toNat)) (τ14 (4 * q.toNat + 1)) 0 (-1)))) := ⟨_, rfl⟩
    obtain ⟨κ28, κ28e⟩ : ∃ zz9 : Nat → Int, zz9 = zf κ (20 + q.toNat) (-1) := ⟨_, rfl⟩
    have cm27m : zMo Γ cm27V c md (zw4 τ14 q.toNat (τ14 (4 * q.toNat)) (τ14 (4 * q.toNat + 1)) (0) (-9)) κ28 E := by
      rw [κ28e, cm27e]
      exact cm27h
    have cm27g : zag (fun x => x ≠ 70 + q.toNat) V7 cm27V := by
      rw [cm27e]
      exact cm27f
    refine zr_view (cm27e).symm ?_
    have fx29 : zfm V cm27V := zag.tr fx13 (cm27g.mono (fun t ht => by omega))
    obtain ⟨τ30, τ30e⟩ : ∃ zz9 : Nat → Int, zz9 = zw4 τ14 q.toNat (τ14 (4 * q.toNat)) (τ14 (4 * q.toNat + 1)) (0) (-9) := ⟨_, rfl⟩
    rw [← τ30e] at cm27m
    have τ30_q0 : τ30 (4 * q.toNat) = τ14 (4 * q.toNat) := by rw [τ30e]; exact zw4_0
    have τ30_q1 : τ30 (4 * q.toNat + 1) = τ14 (4 * q.toNat + 1) := by rw [τ30e]; exact zw4_1
    have τ30_q2 : τ30 (4 * q.toNat + 2) = 0 := by rw [τ30e]; exact zw4_2
    have τ30_q3 : τ30 (4 * q.toNat + 3) = -9 := by rw [τ30e]; exact zw4_3
    show zG C cm27V 0 0 30 [(2, .ref (md (70 + q.toNat))), (0, .ref (c 60)), (1, .int (zI (q)))] []
    show zG C cm27V 0 0 30 [(2, .ref (md (70 + q.toNat))), (0, .ref (c 60)), (1, .int (zI (q)))] []
    refine zr_aload_n X 31 1 dX8_rewind_30 rfl rfl ?_
    refine zr_aload_n X 32 0 dX8_rewind_31 rfl rfl ?_
    have hw32 := cm27m.w (i := q.toNat) (by first | with_reducible assumption | decide | omega)
    have hw32r := hw32.rg
    refine zr_callS (kc' := 0) (ks' := 0) X 35 1 (m_X8_length l Γ hw32.1 (by first | with_reducible assumption | decide | omega)) gX8_rewind_X8_length rfl (by decide +kernel) rfl (by decide) rfl (Nat.le_of_ble_eq_true rfl) dX8_rewind_32 rfl (by first | with_reducible assumption | decide | omega) (by first | with_reducible assumption | decide | omega) (fun rv33 V34 hp35 => ?_)
    rw [hp35.1, hp35.2]
    show zG C cm27V 0 0 35 [(2, .ref (md (70 + q.toNat))), (0, .ref (c 60)), (1, .int (zI (q)))] [.int (zI ((τ30 (4 * q.toNat + 1)) - (τ30 (4 * q.toNat + 2)))), .ref (c 60)]
    refine zr_callVe (kc' := 0) (ks' := 0) X 38 1 (m_X8_done l Γ cm27m) gX8_rewind_X8_done rfl (by decide +kernel) rfl (by decide) ⟨_, _, cm27m.1⟩ rfl rfl (Nat.le_of_ble_eq_true rfl) dX8_rewind_35 rfl (by first | with_reducible assumption | decide | omega) (by first | with_reducible assumption | decide | omega) (fun rv36 V37 hp38 => ?_)
    obtain ⟨hp38e, hp38m, hp38g⟩ := hp38
    rw [hp38e]
    have fx39 : zfm V V37 := zag.tr fx29 (hp38g.mono (fun t ht => by omega))
    obtain ⟨τ40, τ40e⟩ : ∃ zz9 : Nat → Int, zz9 = zdn τ30 := ⟨_, rfl⟩
    rw [← τ40e] at hp38m
    have τ40_q0 : τ40 (4 * q.toNat) = τ30 (4 * q.toNat) := by rw [τ40e]; exact zdn_ne (by first | with_reducible assumption | decide | omega)
    have τ40_q1 : τ40 (4 * q.toNat + 1) = τ30 (4 * q.toNat + 1) := by rw [τ40e]; exact zdn_ne (by first | with_reducible assumption | decide | omega)
    have τ40_q2 : τ40 (4 * q.toNat + 2) = τ30 (4 * q.toNat + 2) := by rw [τ40e]; exact zdn_ne (by first | with_reducible assumption | decide | omega)
    have τ40_q3 : τ40 (4 * q.toNat + 3) = τ30 (4 * q.toNat + 3) := by rw [τ40e]; exact zdn_ne (by first | with_reducible assumption | decide | omega)
    show zG C V37 0 0 38 [(2, .ref (md (70 + q.toNat))), (0, .ref (c 60)), (1, .int (zI (q)))] [.int (zI ((τ30 (4 * q.toNat + 1)) - (τ30 (4 * q.toNat + 2))))]
    exact zr_iret X rfl ⟨(τ30 (4 * q.toNat + 1)) - (τ30 (4 * q.toNat + 2)), md, τ40, κ28, rfl, hp38m.le (by first | with_reducible assumption | decide | omega), fx39, Or.inr (Or.inr ⟨by omega, trivial, ⟨by omega, by rw [τ40e, τ30e, τ14e]⟩⟩)⟩ dX8_rewind_38
set_option maxRecDepth 100000 in
set_option maxHeartbeats 4000000 in
theorem m_X8_flip (l : Launch) (Γ : zGam) {V : zV} {c md : Nat → Nat} {τ κ : Nat → Int} {E : Int} {q : Int} (hM : zMo Γ V c md τ κ E) (hq : -2147483648 ≤ q ∧ q ≤ 2147483647) : zM l Γ 4 yX8_flip wsX8_flip 0 0 V [.ref (c 60), .int (zI (q))] (fun rv V' => ∃ (y : Int) (md' : Nat → Nat) (τ' κ' : Nat → Int), rv = some (.int (zI y)) ∧ zMo Γ V' c md' τ' κ' (E + 40) ∧ zfm V V' ∧ ((¬ (0 ≤ q ∧ q ≤ 5) ∧ y = 0 ∧ τ' = zf τ 36 1) ∨ ((0 ≤ q ∧ q ≤ 5) ∧ ¬ (True) ∧ y = 0 ∧ τ' = zf τ 36 2) ∨ ((0 ≤ q ∧ q ≤ 5) ∧ (True) ∧ (y = (zf τ 36 0) (4 * q.toNat + 2) - 0 ∧ τ' = zdn (zw4 (zf τ 36 0) q.toNat ((zf τ 36 0) (4 * q.toNat)) ((zf τ 36 0) (4 * q.toNat + 2)) 0 (-9)))))) := by
  have w0 : Cond.fieldLink RX8 14 "SashwordsModel" "windows" "[[I" ∈ wsX8_flip := by decide +kernel
  have iX8 : ∀ w ∈ u_ws RX8 TX8 11, w ∈ wsX8_flip := by decide +kernel
  refine zM_of (cc := cX8_flip) (nL := 3) (ret := (some .int)) (own := RX8) (by decide +kernel) rfl rfl (Nat.le_of_ble_eq_true rfl) (fun C X hi0 => ?_)
  have nn1 : 0 ≤ κ 0 ∧ κ 0 ≤ κ 1 ∧ κ 0 ≤ E ∧ κ 1 ≤ 7000 := hM.n.1
  show zG C V 0 0 0 [(0, .ref (c 60)), (1, .int (zI (q)))] []
  refine zr_aload_n X 1 0 dX8_flip_0 rfl rfl ?_
  refine zr_iload_n X 2 1 dX8_flip_1 rfl rfl ?_
  refine zr_callS (kc' := 0) (ks' := 0) X 5 1 (m_X8_isNoWindow l Γ (V := V) (x := q) (by first | with_reducible assumption | decide | omega)) gX8_flip_X8_isNoWindow rfl (by decide +kernel) rfl (by decide) rfl (Nat.le_of_ble_eq_true rfl) dX8_flip_2 rfl (by first | with_reducible assumption | decide | omega) (by first | with_reducible assumption | decide | omega) (fun rv2 V3 hp4 => ?_)
  obtain ⟨⟨no5, no5e, no5a⟩, no5v⟩ := hp4
  rw [no5e, no5v]
  show zG C V 0 0 5 [(0, .ref (c 60)), (1, .int (zI (q)))] [.int (zI (no5)), .ref (c 60)]
  refine zr_iconst X 6 dX8_flip_5 rfl ?_
  refine zr_callVe (kc' := 0) (ks' := 0) X 9 2 (m_X8_isThrown l Γ hM (a := no5) (b := 0) (by first | with_reducible assumption | decide | omega) (by first | with_reducible assumption | decide | omega)) gX8_flip_X8_isThrown rfl (by decide +kernel) rfl (by decide) ⟨_, _, hM.1⟩ rfl rfl (Nat.le_of_ble_eq_true rfl) dX8_flip_6 rfl (by first | with_reducible assumption | decide | omega) (by first | with_reducible assumption | decide | omega) (fun rv6 V7 hp8 => ?_)
  obtain ⟨⟨hp8x, hp8k, hp8e, hp8c, hp8m⟩, hp8g⟩ := hp8
  rw [hp8e]
  rcases hp8c with ⟨tc9a, tc9k, tc9x⟩ | ⟨tc9a, tc9b, tc9k, tc9x⟩ | ⟨tc9a, tc9b, tc9k, tc9x⟩
  · skip
    subst tc9k tc9x
    have fx10 : zfm V V7 := (hp8g.mono (fun t ht => by omega))
    obtain ⟨τ11, τ11e⟩ : ∃ zz9 : Nat → Int, zz9 = zf τ 36 1 := ⟨_, rfl⟩
    rw [← τ11e] at hp8m
    show zG C V7 0 0 9 [(0, .ref (c 60)), (1, .int (zI (q)))] [.int (zI (1))]
    refine zr_if_eq X 14 12 dX8_flip_9 rfl rfl (by first | with_reducible assumption | decide | omega) (fun bq12 => absurd bq12 (by first | with_reducible assumption | decide | omega)) (fun bq12 => ?_)
    refine zr_iconst X 13 dX8_flip_12 rfl ?_
    exact zr_iret X rfl ⟨0, md, τ11, κ, rfl, hp8m.le (by first | with_reducible assumption | decide | omega), fx10, Or.inl ⟨by omega, rfl, by rw [τ11e]⟩⟩ dX8_flip_13
  · exact absurd tc9b (by decide)
  · skip
    subst tc9k tc9x
    have fx13 : zfm V V7 := (hp8g.mono (fun t ht => by omega))
    obtain ⟨τ14, τ14e⟩ : ∃ zz9 : Nat → Int, zz9 = zf τ 36 0 := ⟨_, rfl⟩
    rw [← τ14e] at hp8m
    show zG C V7 0 0 9 [(0, .ref (c 60)), (1, .int (zI (q)))] [.int (zI (0))]
    refine zr_if_eq X 14 12 dX8_flip_9 rfl rfl (by first | with_reducible assumption | decide | omega) (fun bq15 => ?_) (fun bq15 => absurd bq15 (by first | with_reducible assumption | decide | omega))
    refine zr_aload_n X 15 0 dX8_flip_14 rfl rfl ?_
    have c816 : V7 (c 60) = some (60, .inr (9, [.ref (md 61), .int (zI (κ 0)), .ref (c 62), .ref (md 63), .ref (md 64), .ref (c 65), .int (zI (τ14 26)), .int (zI (τ14 28)), .int (zI (τ14 29)), .ref (c 66), .int (zI (τ14 36))])) := hp8m.1
    refine zr_get X 18 9 2 c816 rfl iX8 (by decide) w0 rfl rfl dX8_flip_15 rfl ?_
    refine zr_iload_n X 19 1 dX8_flip_18 rfl rfl ?_
    have c817 : V7 (c 62) = some (62, zq Γ.2.1 4 6 (fun i => some (md (70 + i)))) := hp8m.2.2.1
    refine zr_aaldI X 20 (.ref (md (70 + q.toNat))) c817 (by first | with_reducible assumption | decide | omega) rfl dX8_flip_19 rfl ?_
    refine zr_astore_n X 21 [(2, .ref (md (70 + q.toNat))), (0, .ref (c 60)), (1, .int (zI (q)))] dX8_flip_20 rfl (by decide) rfl ?_
    refine zr_aload_n X 22 0 dX8_flip_21 rfl rfl ?_
    refine zr_iconst X 23 dX8_flip_22 rfl ?_
    refine zr_aload_n X 24 0 dX8_flip_23 rfl rfl ?_
    refine zr_iconst X 25 dX8_flip_24 rfl ?_
    have hw19 := hp8m.w (i := q.toNat) (by first | with_reducible assumption | decide | omega)
    have hw19r := hw19.rg
    have z020 : (zf τ 36 0) (4 * q.toNat) = τ14 (4 * q.toNat) := by rw [τ14e]
    have z021 : (zf τ 36 0) (4 * q.toNat + 1) = τ14 (4 * q.toNat + 1) := by rw [τ14e]
    have z022 : (zf τ 36 0) (4 * q.toNat + 2) = τ14 (4 * q.toNat + 2) := by rw [τ14e]
    have z023 : (zf τ 36 0) (4 * q.toNat + 3) = τ14 (4 * q.toNat + 3) := by rw [τ14e]
    refine zr_iald X 26 hw19.1 (by first | with_reducible assumption | decide | omega) dX8_flip_25 rfl ?_
    show zG C V7 0 0 26 [(2, .ref (md (70 + q.toNat))), (0, .ref (c 60)), (1, .int (zI (q)))] [.int (zI (τ14 (4 * q.toNat + 2))), .int (zI (0)), .ref (md (70 + q.toNat))]
    refine zr_iconst X 27 dX8_flip_26 rfl ?_
    refine zr_callS (kc' := 0) (ks' := 0) X 30 4 (m_X8_place l Γ (p1 := 0) (l1 := τ14 (4 * q.toNat + 2)) (m1 := -1) hw19.1 (by first | with_reducible assumption | decide | omega)) gX8_flip_X8_place rfl (by decide +kernel) rfl (by decide) rfl (Nat.le_of_ble_eq_true rfl) dX8_flip_27 rfl (by first | with_reducible assumption | decide | omega) (by first | with_reducible assumption | decide | omega) (fun rv24 V25 hp26 => ?_)
    rw [hp26.1, hp26.2]
    obtain ⟨cm27h, cm27f⟩ := hp8m.setW (i := q.toNat) (by first | with_reducible assumption | decide | omega) (τ14 (4 * q.toNat + 2)) (0) (-9) (-1) ⟨by omega, by omega, by omega, (Or.inl ⟨rfl, rfl⟩), by omega⟩
    obtain ⟨cm27V, cm27e⟩ : ∃ zz9 : zV, zz9 = (zu V7 (md (70 + q.toNat)) (70 + q.toNat) (za Γ.2.1 0 5 (zr5 (κ (10 + q.toNat)) (τ14 (4 * q.toNat)) (τ14 (4 * q.toNat + 2)) 0 (-1)))) := ⟨_, rfl⟩
    obtain ⟨κ28, κ28e⟩ : ∃ zz9 : Nat → Int, zz9 = zf κ (20 + q.toNat) (-1) := ⟨_, rfl⟩
    have cm27m : zMo Γ cm27V c md (zw4 τ14 q.toNat (τ14 (4 * q.toNat)) (τ14 (4 * q.toNat + 2)) (0) (-9)) κ28 E := by
      rw [κ28e, cm27e]
      exact cm27h
    have cm27g : zag (fun x => x ≠ 70 + q.toNat) V7 cm27V := by
      rw [cm27e]
      exact cm27f
    refine zr_view (cm27e).symm ?_
    have fx29 : zfm V cm27V := zag.tr fx13 (cm27g.mono (fun t ht => by omega))
    obtain ⟨τ30, τ30e⟩ : ∃ zz9 : Nat → Int, zz9 = zw4 τ14 q.toNat (τ14 (4 * q.toNat)) (τ14 (4 * q.toNat + 2)) (0) (-9) := ⟨_, rfl⟩
    rw [← τ30e] at cm27m
    have τ30_q0 : τ30 (4 * q.toNat) = τ14 (4 * q.toNat) := by rw [τ30e]; exact zw4_0
    have τ30_q1 : τ30 (4 * q.toNat + 1) = τ14 (4 * q.toNat + 2) := by rw [τ30e]; exact zw4_1
    have τ30_q2 : τ30 (4 * q.toNat + 2) = 0 := by rw [τ30e]; exact zw4_2
    have τ30_q3 : τ30 (4 * q.toNat + 3) = -9 := by rw [τ30e]; exact zw4_3
    show zG C cm27V 0 0 30 [(2, .ref (md (70 + q.toNat))), (0, .ref (c 60)), (1, .int (zI (q)))] []
    show zG C cm27V 0 0 30 [(2, .ref (md (70 + q.toNat))), (0, .ref (c 60)), (1, .int (zI (q)))] []
    refine zr_aload_n X 31 1 dX8_flip_30 rfl rfl ?_
    refine zr_aload_n X 32 0 dX8_flip_31 rfl rfl ?_
    have hw32 := cm27m.w (i := q.toNat) (by first | with_reducible assumption | decide | omega)
    have hw32r := hw32.rg
    refine zr_callS (kc' := 0) (ks' := 0) X 35 1 (m_X8_length l Γ hw32.1 (by first | with_reducible assumption | decide | omega)) gX8_flip_X8_length rfl (by decide +kernel) rfl (by decide) rfl (Nat.le_of_ble_eq_true rfl) dX8_flip_32 rfl (by first | with_reducible assumption | decide | omega) (by first | with_reducible assumption | decide | omega) (fun rv33 V34 hp35 => ?_)
    rw [hp35.1, hp35.2]
    show zG C cm27V 0 0 35 [(2, .ref (md (70 + q.toNat))), (0, .ref (c 60)), (1, .int (zI (q)))] [.int (zI ((τ30 (4 * q.toNat + 1)) - (τ30 (4 * q.toNat + 2)))), .ref (c 60)]
    refine zr_callVe (kc' := 0) (ks' := 0) X 38 1 (m_X8_done l Γ cm27m) gX8_flip_X8_done rfl (by decide +kernel) rfl (by decide) ⟨_, _, cm27m.1⟩ rfl rfl (Nat.le_of_ble_eq_true rfl) dX8_flip_35 rfl (by first | with_reducible assumption | decide | omega) (by first | with_reducible assumption | decide | omega) (fun rv36 V37 hp38 => ?_)
    obtain ⟨hp38e, hp38m, hp38g⟩ := hp38
    rw [hp38e]
    have fx39 : zfm V V37 := zag.tr fx29 (hp38g.mono (fun t ht => by omega))
    obtain ⟨τ40, τ40e⟩ : ∃ zz9 : Nat → Int, zz9 = zdn τ30 := ⟨_, rfl⟩
    rw [← τ40e] at hp38m
    have τ40_q0 : τ40 (4 * q.toNat) = τ30 (4 * q.toNat) := by rw [τ40e]; exact zdn_ne (by first | with_reducible assumption | decide | omega)
    have τ40_q1 : τ40 (4 * q.toNat + 1) = τ30 (4 * q.toNat + 1) := by rw [τ40e]; exact zdn_ne (by first | with_reducible assumption | decide | omega)
    have τ40_q2 : τ40 (4 * q.toNat + 2) = τ30 (4 * q.toNat + 2) := by rw [τ40e]; exact zdn_ne (by first | with_reducible assumption | decide | omega)
    have τ40_q3 : τ40 (4 * q.toNat + 3) = τ30 (4 * q.toNat + 3) := by rw [τ40e]; exact zdn_ne (by first | with_reducible assumption | decide | omega)
    show zG C V37 0 0 38 [(2, .ref (md (70 + q.toNat))), (0, .ref (c 60)), (1, .int (zI (q)))] [.int (zI ((τ30 (4 * q.toNat + 1)) - (τ30 (4 * q.toNat + 2))))]
    exact zr_iret X rfl ⟨(τ30 (4 * q.toNat + 1)) - (τ30 (4 * q.toNat + 2)), md, τ40, κ28, rfl, hp38m.le (by first | with_reducible assumption | decide | omega), fx39, Or.inr (Or.inr ⟨by omega, trivial, ⟨by omega, by rw [τ40e, τ30e, τ14e]⟩⟩)⟩ dX8_flip_38
set_option maxRecDepth 100000 in
set_option maxHeartbeats 4000000 in
theorem m_X8_open (l : Launch) (Γ : zGam) {V : zV} {c md : Nat → Nat} {τ κ : Nat → Int} {E : Int} {q : Int} (hM : zMo Γ V c md τ κ E) (hq : -2147483648 ≤ q ∧ q ≤ 2147483647) : zM l Γ 4 yX8_open wsX8_open 0 0 V [.ref (c 60), .int (zI (q))] (fun rv V' => ∃ (y : Int) (md' : Nat → Nat) (τ' κ' : Nat → Int), rv = some (.int (zI y)) ∧ zMo Γ V' c md' τ' κ' (E + 40) ∧ zfm V V' ∧ ((¬ (0 ≤ q ∧ q ≤ 5) ∧ y = 0 ∧ τ' = zf τ 36 1) ∨ ((0 ≤ q ∧ q ≤ 5) ∧ ¬ (True) ∧ y = 0 ∧ τ' = zf τ 36 2) ∨ ((0 ≤ q ∧ q ≤ 5) ∧ (True) ∧ (y = (zf τ 36 0) (4 * q.toNat) - 0 ∧ τ' = zdn (zw4 (zf τ 36 0) q.toNat ((zf τ 36 0) (4 * q.toNat)) ((zf τ 36 0) (4 * q.toNat)) 0 (-9)))))) := by
  have w0 : Cond.fieldLink RX8 14 "SashwordsModel" "windows" "[[I" ∈ wsX8_open := by decide +kernel
  have iX8 : ∀ w ∈ u_ws RX8 TX8 11, w ∈ wsX8_open := by decide +kernel
  refine zM_of (cc := cX8_open) (nL := 3) (ret := (some .int)) (own := RX8) (by decide +kernel) rfl rfl (Nat.le_of_ble_eq_true rfl) (fun C X hi0 => ?_)
  have nn1 : 0 ≤ κ 0 ∧ κ 0 ≤ κ 1 ∧ κ 0 ≤ E ∧ κ 1 ≤ 7000 := hM.n.1
  show zG C V 0 0 0 [(0, .ref (c 60)), (1, .int (zI (q)))] []
  refine zr_aload_n X 1 0 dX8_open_0 rfl rfl ?_
  refine zr_iload_n X 2 1 dX8_open_1 rfl rfl ?_
  refine zr_callS (kc' := 0) (ks' := 0) X 5 1 (m_X8_isNoWindow l Γ (V := V) (x := q) (by first | with_reducible assumption | decide | omega)) gX8_open_X8_isNoWindow rfl (by decide +kernel) rfl (by decide) rfl (Nat.le_of_ble_eq_true rfl) dX8_open_2 rfl (by first | with_reducible assumption | decide | omega) (by first | with_reducible assumption | decide | omega) (fun rv2 V3 hp4 => ?_)
  obtain ⟨⟨no5, no5e, no5a⟩, no5v⟩ := hp4
  rw [no5e, no5v]
  show zG C V 0 0 5 [(0, .ref (c 60)), (1, .int (zI (q)))] [.int (zI (no5)), .ref (c 60)]
  refine zr_iconst X 6 dX8_open_5 rfl ?_
  refine zr_callVe (kc' := 0) (ks' := 0) X 9 2 (m_X8_isThrown l Γ hM (a := no5) (b := 0) (by first | with_reducible assumption | decide | omega) (by first | with_reducible assumption | decide | omega)) gX8_open_X8_isThrown rfl (by decide +kernel) rfl (by decide) ⟨_, _, hM.1⟩ rfl rfl (Nat.le_of_ble_eq_true rfl) dX8_open_6 rfl (by first | with_reducible assumption | decide | omega) (by first | with_reducible assumption | decide | omega) (fun rv6 V7 hp8 => ?_)
  obtain ⟨⟨hp8x, hp8k, hp8e, hp8c, hp8m⟩, hp8g⟩ := hp8
  rw [hp8e]
  rcases hp8c with ⟨tc9a, tc9k, tc9x⟩ | ⟨tc9a, tc9b, tc9k, tc9x⟩ | ⟨tc9a, tc9b, tc9k, tc9x⟩
  · skip
    subst tc9k tc9x
    have fx10 : zfm V V7 := (hp8g.mono (fun t ht => by omega))
    obtain ⟨τ11, τ11e⟩ : ∃ zz9 : Nat → Int, zz9 = zf τ 36 1 := ⟨_, rfl⟩
    rw [← τ11e] at hp8m
    show zG C V7 0 0 9 [(0, .ref (c 60)), (1, .int (zI (q)))] [.int (zI (1))]
    refine zr_if_eq X 14 12 dX8_open_9 rfl rfl (by first | with_reducible assumption | decide | omega) (fun bq12 => absurd bq12 (by first | with_reducible assumption | decide | omega)) (fun bq12 => ?_)
    refine zr_iconst X 13 dX8_open_12 rfl ?_
    exact zr_iret X rfl ⟨0, md, τ11, κ, rfl, hp8m.le (by first | with_reducible assumption | decide | omega), fx10, Or.inl ⟨by omega, rfl, by rw [τ11e]⟩⟩ dX8_open_13
  · exact absurd tc9b (by decide)
  · skip
    subst tc9k tc9x
    have fx13 : zfm V V7 := (hp8g.mono (fun t ht => by omega))
    obtain ⟨τ14, τ14e⟩ : ∃ zz9 : Nat → Int, zz9 = zf τ 36 0 := ⟨_, rfl⟩
    rw [← τ14e] at hp8m
    show zG C V7 0 0 9 [(0, .ref (c 60)), (1, .int (zI (q)))] [.int (zI (0))]
    refine zr_if_eq X 14 12 dX8_open_9 rfl rfl (by first | with_reducible assumption | decide | omega) (fun bq15 => ?_) (fun bq15 => absurd bq15 (by first | with_reducible assumption | decide | omega))
    refine zr_aload_n X 15 0 dX8_open_14 rfl rfl ?_
    have c816 : V7 (c 60) = some (60, .inr (9, [.ref (md 61), .int (zI (κ 0)), .ref (c 62), .ref (md 63), .ref (md 64), .ref (c 65), .int (zI (τ14 26)), .int (zI (τ14 28)), .int (zI (τ14 29)), .ref (c 66), .int (zI (τ14 36))])) := hp8m.1
    refine zr_get X 18 9 2 c816 rfl iX8 (by decide) w0 rfl rfl dX8_open_15 rfl ?_
    refine zr_iload_n X 19 1 dX8_open_18 rfl rfl ?_
    have c817 : V7 (c 62) = some (62, zq Γ.2.1 4 6 (fun i => some (md (70 + i)))) := hp8m.2.2.1
    refine zr_aaldI X 20 (.ref (md (70 + q.toNat))) c817 (by first | with_reducible assumption | decide | omega) rfl dX8_open_19 rfl ?_
    refine zr_astore_n X 21 [(2, .ref (md (70 + q.toNat))), (0, .ref (c 60)), (1, .int (zI (q)))] dX8_open_20 rfl (by decide) rfl ?_
    refine zr_aload_n X 22 0 dX8_open_21 rfl rfl ?_
    refine zr_iconst X 23 dX8_open_22 rfl ?_
    refine zr_aload_n X 24 0 dX8_open_23 rfl rfl ?_
    refine zr_iconst X 25 dX8_open_24 rfl ?_
    have hw19 := hp8m.w (i := q.toNat) (by first | with_reducible assumption | decide | omega)
    have hw19r := hw19.rg
    have z020 : (zf τ 36 0) (4 * q.toNat) = τ14 (4 * q.toNat) := by rw [τ14e]
    have z021 : (zf τ 36 0) (4 * q.toNat + 1) = τ14 (4 * q.toNat + 1) := by rw [τ14e]
    have z022 : (zf τ 36 0) (4 * q.toNat + 2) = τ14 (4 * q.toNat + 2) := by rw [τ14e]
    have z023 : (zf τ 36 0) (4 * q.toNat + 3) = τ14 (4 * q.toNat + 3) := by rw [τ14e]
    refine zr_iald X 26 hw19.1 (by first | with_reducible assumption | decide | omega) dX8_open_25 rfl ?_
    show zG C V7 0 0 26 [(2, .ref (md (70 + q.toNat))), (0, .ref (c 60)), (1, .int (zI (q)))] [.int (zI (τ14 (4 * q.toNat))), .int (zI (0)), .ref (md (70 + q.toNat))]
    refine zr_iconst X 27 dX8_open_26 rfl ?_
    refine zr_callS (kc' := 0) (ks' := 0) X 30 4 (m_X8_place l Γ (p1 := 0) (l1 := τ14 (4 * q.toNat)) (m1 := -1) hw19.1 (by first | with_reducible assumption | decide | omega)) gX8_open_X8_place rfl (by decide +kernel) rfl (by decide) rfl (Nat.le_of_ble_eq_true rfl) dX8_open_27 rfl (by first | with_reducible assumption | decide | omega) (by first | with_reducible assumption | decide | omega) (fun rv24 V25 hp26 => ?_)
    rw [hp26.1, hp26.2]
    obtain ⟨cm27h, cm27f⟩ := hp8m.setW (i := q.toNat) (by first | with_reducible assumption | decide | omega) (τ14 (4 * q.toNat)) (0) (-9) (-1) ⟨by omega, by omega, by omega, (Or.inl ⟨rfl, rfl⟩), by omega⟩
    obtain ⟨cm27V, cm27e⟩ : ∃ zz9 : zV, zz9 = (zu V7 (md (70 + q.toNat)) (70 + q.toNat) (za Γ.2.1 0 5 (zr5 (κ (10 + q.toNat)) (τ14 (4 * q.toNat)) (τ14 (4 * q.toNat)) 0 (-1)))) := ⟨_, rfl⟩
    obtain ⟨κ28, κ28e⟩ : ∃ zz9 : Nat → Int, zz9 = zf κ (20 + q.toNat) (-1) := ⟨_, rfl⟩
    have cm27m : zMo Γ cm27V c md (zw4 τ14 q.toNat (τ14 (4 * q.toNat)) (τ14 (4 * q.toNat)) (0) (-9)) κ28 E := by
      rw [κ28e, cm27e]
      exact cm27h
    have cm27g : zag (fun x => x ≠ 70 + q.toNat) V7 cm27V := by
      rw [cm27e]
      exact cm27f
    refine zr_view (cm27e).symm ?_
    have fx29 : zfm V cm27V := zag.tr fx13 (cm27g.mono (fun t ht => by omega))
    obtain ⟨τ30, τ30e⟩ : ∃ zz9 : Nat → Int, zz9 = zw4 τ14 q.toNat (τ14 (4 * q.toNat)) (τ14 (4 * q.toNat)) (0) (-9) := ⟨_, rfl⟩
    rw [← τ30e] at cm27m
    have τ30_q0 : τ30 (4 * q.toNat) = τ14 (4 * q.toNat) := by rw [τ30e]; exact zw4_0
    have τ30_q1 : τ30 (4 * q.toNat + 1) = τ14 (4 * q.toNat) := by rw [τ30e]; exact zw4_1
    have τ30_q2 : τ30 (4 * q.toNat + 2) = 0 := by rw [τ30e]; exact zw4_2
    have τ30_q3 : τ30 (4 * q.toNat + 3) = -9 := by rw [τ30e]; exact zw4_3
    show zG C cm27V 0 0 30 [(2, .ref (md (70 + q.toNat))), (0, .ref (c 60)), (1, .int (zI (q)))] []
    show zG C cm27V 0 0 30 [(2, .ref (md (70 + q.toNat))), (0, .ref (c 60)), (1, .int (zI (q)))] []
    refine zr_aload_n X 31 1 dX8_open_30 rfl rfl ?_
    refine zr_aload_n X 32 0 dX8_open_31 rfl rfl ?_
    have hw32 := cm27m.w (i := q.toNat) (by first | with_reducible assumption | decide | omega)
    have hw32r := hw32.rg
    refine zr_callS (kc' := 0) (ks' := 0) X 35 1 (m_X8_length l Γ hw32.1 (by first | with_reducible assumption | decide | omega)) gX8_open_X8_length rfl (by decide +kernel) rfl (by decide) rfl (Nat.le_of_ble_eq_true rfl) dX8_open_32 rfl (by first | with_reducible assumption | decide | omega) (by first | with_reducible assumption | decide | omega) (fun rv33 V34 hp35 => ?_)
    rw [hp35.1, hp35.2]
    show zG C cm27V 0 0 35 [(2, .ref (md (70 + q.toNat))), (0, .ref (c 60)), (1, .int (zI (q)))] [.int (zI ((τ30 (4 * q.toNat + 1)) - (τ30 (4 * q.toNat + 2)))), .ref (c 60)]
    refine zr_callVe (kc' := 0) (ks' := 0) X 38 1 (m_X8_done l Γ cm27m) gX8_open_X8_done rfl (by decide +kernel) rfl (by decide) ⟨_, _, cm27m.1⟩ rfl rfl (Nat.le_of_ble_eq_true rfl) dX8_open_35 rfl (by first | with_reducible assumption | decide | omega) (by first | with_reducible assumption | decide | omega) (fun rv36 V37 hp38 => ?_)
    obtain ⟨hp38e, hp38m, hp38g⟩ := hp38
    rw [hp38e]
    have fx39 : zfm V V37 := zag.tr fx29 (hp38g.mono (fun t ht => by omega))
    obtain ⟨τ40, τ40e⟩ : ∃ zz9 : Nat → Int, zz9 = zdn τ30 := ⟨_, rfl⟩
    rw [← τ40e] at hp38m
    have τ40_q0 : τ40 (4 * q.toNat) = τ30 (4 * q.toNat) := by rw [τ40e]; exact zdn_ne (by first | with_reducible assumption | decide | omega)
    have τ40_q1 : τ40 (4 * q.toNat + 1) = τ30 (4 * q.toNat + 1) := by rw [τ40e]; exact zdn_ne (by first | with_reducible assumption | decide | omega)
    have τ40_q2 : τ40 (4 * q.toNat + 2) = τ30 (4 * q.toNat + 2) := by rw [τ40e]; exact zdn_ne (by first | with_reducible assumption | decide | omega)
    have τ40_q3 : τ40 (4 * q.toNat + 3) = τ30 (4 * q.toNat + 3) := by rw [τ40e]; exact zdn_ne (by first | with_reducible assumption | decide | omega)
    show zG C V37 0 0 38 [(2, .ref (md (70 + q.toNat))), (0, .ref (c 60)), (1, .int (zI (q)))] [.int (zI ((τ30 (4 * q.toNat + 1)) - (τ30 (4 * q.toNat + 2))))]
    exact zr_iret X rfl ⟨(τ30 (4 * q.toNat + 1)) - (τ30 (4 * q.toNat + 2)), md, τ40, κ28, rfl, hp38m.le (by first | with_reducible assumption | decide | omega), fx39, Or.inr (Or.inr ⟨by omega, trivial, ⟨by omega, by rw [τ40e, τ30e, τ14e]⟩⟩)⟩ dX8_open_38
set_option maxRecDepth 100000 in
set_option maxHeartbeats 4000000 in
theorem m_X8_mark (l : Launch) (Γ : zGam) {V : zV} {c md : Nat → Nat} {τ κ : Nat → Int} {E : Int} {q : Int} (hM : zMo Γ V c md τ κ E) (hq : -2147483648 ≤ q ∧ q ≤ 2147483647) : zM l Γ 4 yX8_mark wsX8_mark 0 0 V [.ref (c 60), .int (zI (q))] (fun rv V' => ∃ (y : Int) (md' : Nat → Nat) (τ' κ' : Nat → Int), rv = some (.int (zI y)) ∧ zMo Γ V' c md' τ' κ' (E + 40) ∧ zfm V V' ∧ ((¬ (0 ≤ q ∧ q ≤ 5) ∧ y = 0 ∧ τ' = zf τ 36 1) ∨ ((0 ≤ q ∧ q ≤ 5) ∧ ¬ (True) ∧ y = 0 ∧ τ' = zf τ 36 2) ∨ ((0 ≤ q ∧ q ≤ 5) ∧ (True) ∧ (y = (zf τ 36 0) (4 * q.toNat + 2) ∧ τ' = zdn (zw4 (zf τ 36 0) q.toNat ((zf τ 36 0) (4 * q.toNat)) ((zf τ 36 0) (4 * q.toNat + 1)) ((zf τ 36 0) (4 * q.toNat + 2)) ((zf τ 36 0) (4 * q.toNat + 2))))))) := by
  have w0 : Cond.fieldLink RX8 14 "SashwordsModel" "windows" "[[I" ∈ wsX8_mark := by decide +kernel
  have iX8 : ∀ w ∈ u_ws RX8 TX8 11, w ∈ wsX8_mark := by decide +kernel
  refine zM_of (cc := cX8_mark) (nL := 3) (ret := (some .int)) (own := RX8) (by decide +kernel) rfl rfl (Nat.le_of_ble_eq_true rfl) (fun C X hi0 => ?_)
  have nn1 : 0 ≤ κ 0 ∧ κ 0 ≤ κ 1 ∧ κ 0 ≤ E ∧ κ 1 ≤ 7000 := hM.n.1
  show zG C V 0 0 0 [(0, .ref (c 60)), (1, .int (zI (q)))] []
  refine zr_aload_n X 1 0 dX8_mark_0 rfl rfl ?_
  refine zr_iload_n X 2 1 dX8_mark_1 rfl rfl ?_
  refine zr_callS (kc' := 0) (ks' := 0) X 5 1 (m_X8_isNoWindow l Γ (V := V) (x := q) (by first | with_reducible assumption | decide | omega)) gX8_mark_X8_isNoWindow rfl (by decide +kernel) rfl (by decide) rfl (Nat.le_of_ble_eq_true rfl) dX8_mark_2 rfl (by first | with_reducible assumption | decide | omega) (by first | with_reducible assumption | decide | omega) (fun rv2 V3 hp4 => ?_)
  obtain ⟨⟨no5, no5e, no5a⟩, no5v⟩ := hp4
  rw [no5e, no5v]
  show zG C V 0 0 5 [(0, .ref (c 60)), (1, .int (zI (q)))] [.int (zI (no5)), .ref (c 60)]
  refine zr_iconst X 6 dX8_mark_5 rfl ?_
  refine zr_callVe (kc' := 0) (ks' := 0) X 9 2 (m_X8_isThrown l Γ hM (a := no5) (b := 0) (by first | with_reducible assumption | decide | omega) (by first | with_reducible assumption | decide | omega)) gX8_mark_X8_isThrown rfl (by decide +kernel) rfl (by decide) ⟨_, _, hM.1⟩ rfl rfl (Nat.le_of_ble_eq_true rfl) dX8_mark_6 rfl (by first | with_reducible assumption | decide | omega) (by first | with_reducible assumption | decide | omega) (fun rv6 V7 hp8 => ?_)
  obtain ⟨⟨hp8x, hp8k, hp8e, hp8c, hp8m⟩, hp8g⟩ := hp8
  rw [hp8e]
  rcases hp8c with ⟨tc9a, tc9k, tc9x⟩ | ⟨tc9a, tc9b, tc9k, tc9x⟩ | ⟨tc9a, tc9b, tc9k, tc9x⟩
  · skip
    subst tc9k tc9x
    have fx10 : zfm V V7 := (hp8g.mono (fun t ht => by omega))
    obtain ⟨τ11, τ11e⟩ : ∃ zz9 : Nat → Int, zz9 = zf τ 36 1 := ⟨_, rfl⟩
    rw [← τ11e] at hp8m
    show zG C V7 0 0 9 [(0, .ref (c 60)), (1, .int (zI (q)))] [.int (zI (1))]
    refine zr_if_eq X 14 12 dX8_mark_9 rfl rfl (by first | with_reducible assumption | decide | omega) (fun bq12 => absurd bq12 (by first | with_reducible assumption | decide | omega)) (fun bq12 => ?_)
    refine zr_iconst X 13 dX8_mark_12 rfl ?_
    exact zr_iret X rfl ⟨0, md, τ11, κ, rfl, hp8m.le (by first | with_reducible assumption | decide | omega), fx10, Or.inl ⟨by omega, rfl, by rw [τ11e]⟩⟩ dX8_mark_13
  · exact absurd tc9b (by decide)
  · skip
    subst tc9k tc9x
    have fx13 : zfm V V7 := (hp8g.mono (fun t ht => by omega))
    obtain ⟨τ14, τ14e⟩ : ∃ zz9 : Nat → Int, zz9 = zf τ 36 0 := ⟨_, rfl⟩
    rw [← τ14e] at hp8m
    show zG C V7 0 0 9 [(0, .ref (c 60)), (1, .int (zI (q)))] [.int (zI (0))]
    refine zr_if_eq X 14 12 dX8_mark_9 rfl rfl (by first | with_reducible assumption | decide | omega) (fun bq15 => ?_) (fun bq15 => absurd bq15 (by first | with_reducible assumption | decide | omega))
    refine zr_aload_n X 15 0 dX8_mark_14 rfl rfl ?_
    have c816 : V7 (c 60) = some (60, .inr (9, [.ref (md 61), .int (zI (κ 0)), .ref (c 62), .ref (md 63), .ref (md 64), .ref (c 65), .int (zI (τ14 26)), .int (zI (τ14 28)), .int (zI (τ14 29)), .ref (c 66), .int (zI (τ14 36))])) := hp8m.1
    refine zr_get X 18 9 2 c816 rfl iX8 (by decide) w0 rfl rfl dX8_mark_15 rfl ?_
    refine zr_iload_n X 19 1 dX8_mark_18 rfl rfl ?_
    have c817 : V7 (c 62) = some (62, zq Γ.2.1 4 6 (fun i => some (md (70 + i)))) := hp8m.2.2.1
    refine zr_aaldI X 20 (.ref (md (70 + q.toNat))) c817 (by first | with_reducible assumption | decide | omega) rfl dX8_mark_19 rfl ?_
    refine zr_astore_n X 21 [(2, .ref (md (70 + q.toNat))), (0, .ref (c 60)), (1, .int (zI (q)))] dX8_mark_20 rfl (by decide) rfl ?_
    refine zr_aload_n X 22 0 dX8_mark_21 rfl rfl ?_
    refine zr_iconst X 23 dX8_mark_22 rfl ?_
    refine zr_aload_n X 24 0 dX8_mark_23 rfl rfl ?_
    refine zr_iconst X 25 dX8_mark_24 rfl ?_
    have hw19 := hp8m.w (i := q.toNat) (by first | with_reducible assumption | decide | omega)
    have hw19r := hw19.rg
    have z020 : (zf τ 36 0) (4 * q.toNat) = τ14 (4 * q.toNat) := by rw [τ14e]
    have z021 : (zf τ 36 0) (4 * q.toNat + 1) = τ14 (4 * q.toNat + 1) := by rw [τ14e]
    have z022 : (zf τ 36 0) (4 * q.toNat + 2) = τ14 (4 * q.toNat + 2) := by rw [τ14e]
    have z023 : (zf τ 36 0) (4 * q.toNat + 3) = τ14 (4 * q.toNat + 3) := by rw [τ14e]
    refine zr_iald X 26 hw19.1 (by first | with_reducible assumption | decide | omega) dX8_mark_25 rfl ?_
    show zG C V7 0 0 26 [(2, .ref (md (70 + q.toNat))), (0, .ref (c 60)), (1, .int (zI (q)))] [.int (zI (τ14 (4 * q.toNat + 2))), .int (zI (4)), .ref (md (70 + q.toNat))]
    refine zr_iast X 27 hw19.1 (by first | with_reducible assumption | decide | omega) dX8_mark_26 rfl ?_
    refine zr_view zv5_4 ?_
    show zG C (zu V7 (md (70 + q.toNat)) (70 + q.toNat) (za Γ.2.1 0 5 (zr5 (κ (10 + q.toNat)) (τ14 (4 * q.toNat)) (τ14 (4 * q.toNat + 1)) (τ14 (4 * q.toNat + 2)) (τ14 (4 * q.toNat + 2))))) 0 0 27 [(2, .ref (md (70 + q.toNat))), (0, .ref (c 60)), (1, .int (zI (q)))] []
    obtain ⟨cm24h, cm24f⟩ := hp8m.setW (i := q.toNat) (by first | with_reducible assumption | decide | omega) (τ14 (4 * q.toNat + 1)) (τ14 (4 * q.toNat + 2)) (τ14 (4 * q.toNat + 2)) (τ14 (4 * q.toNat + 2)) ⟨by omega, by omega, by omega, (Or.inr ⟨rfl, by omega⟩), by omega⟩
    obtain ⟨cm24V, cm24e⟩ : ∃ zz9 : zV, zz9 = (zu V7 (md (70 + q.toNat)) (70 + q.toNat) (za Γ.2.1 0 5 (zr5 (κ (10 + q.toNat)) (τ14 (4 * q.toNat)) (τ14 (4 * q.toNat + 1)) (τ14 (4 * q.toNat + 2)) (τ14 (4 * q.toNat + 2))))) := ⟨_, rfl⟩
    obtain ⟨κ25, κ25e⟩ : ∃ zz9 : Nat → Int, zz9 = zf κ (20 + q.toNat) (τ14 (4 * q.toNat + 2)) := ⟨_, rfl⟩
    have cm24m : zMo Γ cm24V c md (zw4 τ14 q.toNat (τ14 (4 * q.toNat)) (τ14 (4 * q.toNat + 1)) (τ14 (4 * q.toNat + 2)) (τ14 (4 * q.toNat + 2))) κ25 E := by
      rw [κ25e, cm24e]
      exact cm24h
    have cm24g : zag (fun x => x ≠ 70 + q.toNat) V7 cm24V := by
      rw [cm24e]
      exact cm24f
    refine zr_view (cm24e).symm ?_
    have fx26 : zfm V cm24V := zag.tr fx13 (cm24g.mono (fun t ht => by omega))
    obtain ⟨τ27, τ27e⟩ : ∃ zz9 : Nat → Int, zz9 = zw4 τ14 q.toNat (τ14 (4 * q.toNat)) (τ14 (4 * q.toNat + 1)) (τ14 (4 * q.toNat + 2)) (τ14 (4 * q.toNat + 2)) := ⟨_, rfl⟩
    rw [← τ27e] at cm24m
    have τ27_q0 : τ27 (4 * q.toNat) = τ14 (4 * q.toNat) := by rw [τ27e]; exact zw4_0
    have τ27_q1 : τ27 (4 * q.toNat + 1) = τ14 (4 * q.toNat + 1) := by rw [τ27e]; exact zw4_1
    have τ27_q2 : τ27 (4 * q.toNat + 2) = τ14 (4 * q.toNat + 2) := by rw [τ27e]; exact zw4_2
    have τ27_q3 : τ27 (4 * q.toNat + 3) = τ14 (4 * q.toNat + 2) := by rw [τ27e]; exact zw4_3
    show zG C cm24V 0 0 27 [(2, .ref (md (70 + q.toNat))), (0, .ref (c 60)), (1, .int (zI (q)))] []
    refine zr_aload_n X 28 1 dX8_mark_27 rfl rfl ?_
    refine zr_aload_n X 29 0 dX8_mark_28 rfl rfl ?_
    refine zr_iconst X 30 dX8_mark_29 rfl ?_
    have hw29 := cm24m.w (i := q.toNat) (by first | with_reducible assumption | decide | omega)
    have hw29r := hw29.rg
    refine zr_iald X 31 hw29.1 (by first | with_reducible assumption | decide | omega) dX8_mark_30 rfl ?_
    show zG C cm24V 0 0 31 [(2, .ref (md (70 + q.toNat))), (0, .ref (c 60)), (1, .int (zI (q)))] [.int (zI (τ27 (4 * q.toNat + 2))), .ref (c 60)]
    refine zr_callVe (kc' := 0) (ks' := 0) X 34 1 (m_X8_done l Γ cm24m) gX8_mark_X8_done rfl (by decide +kernel) rfl (by decide) ⟨_, _, cm24m.1⟩ rfl rfl (Nat.le_of_ble_eq_true rfl) dX8_mark_31 rfl (by first | with_reducible assumption | decide | omega) (by first | with_reducible assumption | decide | omega) (fun rv30 V31 hp32 => ?_)
    obtain ⟨hp32e, hp32m, hp32g⟩ := hp32
    rw [hp32e]
    have fx33 : zfm V V31 := zag.tr fx26 (hp32g.mono (fun t ht => by omega))
    obtain ⟨τ34, τ34e⟩ : ∃ zz9 : Nat → Int, zz9 = zdn τ27 := ⟨_, rfl⟩
    rw [← τ34e] at hp32m
    have τ34_q0 : τ34 (4 * q.toNat) = τ27 (4 * q.toNat) := by rw [τ34e]; exact zdn_ne (by first | with_reducible assumption | decide | omega)
    have τ34_q1 : τ34 (4 * q.toNat + 1) = τ27 (4 * q.toNat + 1) := by rw [τ34e]; exact zdn_ne (by first | with_reducible assumption | decide | omega)
    have τ34_q2 : τ34 (4 * q.toNat + 2) = τ27 (4 * q.toNat + 2) := by rw [τ34e]; exact zdn_ne (by first | with_reducible assumption | decide | omega)
    have τ34_q3 : τ34 (4 * q.toNat + 3) = τ27 (4 * q.toNat + 3) := by rw [τ34e]; exact zdn_ne (by first | with_reducible assumption | decide | omega)
    show zG C V31 0 0 34 [(2, .ref (md (70 + q.toNat))), (0, .ref (c 60)), (1, .int (zI (q)))] [.int (zI (τ27 (4 * q.toNat + 2)))]
    exact zr_iret X rfl ⟨τ27 (4 * q.toNat + 2), md, τ34, κ25, rfl, hp32m.le (by first | with_reducible assumption | decide | omega), fx33, Or.inr (Or.inr ⟨by omega, trivial, ⟨by omega, by rw [τ34e, τ27e, τ14e]⟩⟩)⟩ dX8_mark_34
set_option maxRecDepth 100000 in
set_option maxHeartbeats 4000000 in
theorem m_X8_reset (l : Launch) (Γ : zGam) {V : zV} {c md : Nat → Nat} {τ κ : Nat → Int} {E : Int} {q : Int} (hM : zMo Γ V c md τ κ E) (hq : -2147483648 ≤ q ∧ q ≤ 2147483647) : zM l Γ 4 yX8_reset wsX8_reset 0 0 V [.ref (c 60), .int (zI (q))] (fun rv V' => ∃ (y : Int) (md' : Nat → Nat) (τ' κ' : Nat → Int), rv = some (.int (zI y)) ∧ zMo Γ V' c md' τ' κ' (E + 40) ∧ zfm V V' ∧ ((¬ (0 ≤ q ∧ q ≤ 5) ∧ y = 0 ∧ τ' = zf τ 36 1) ∨ ((0 ≤ q ∧ q ≤ 5) ∧ ¬ (True) ∧ y = 0 ∧ τ' = zf τ 36 2) ∨ ((0 ≤ q ∧ q ≤ 5) ∧ (True) ∧ (((zf τ 36 0) (4 * q.toNat + 3) = -9 ∧ y = -9 ∧ τ' = zrf (zf τ 36 0)) ∨ ((zf τ 36 0) (4 * q.toNat + 3) ≠ -9 ∧ y = (zf τ 36 0) (4 * q.toNat + 3) ∧ τ' = zdn (zw4 (zf τ 36 0) q.toNat ((zf τ 36 0) (4 * q.toNat)) ((zf τ 36 0) (4 * q.toNat + 1)) ((zf τ 36 0) (4 * q.toNat + 3)) ((zf τ 36 0) (4 * q.toNat + 3)))))))) := by
  have w0 : Cond.fieldLink RX8 14 "SashwordsModel" "windows" "[[I" ∈ wsX8_reset := by decide +kernel
  have iX8 : ∀ w ∈ u_ws RX8 TX8 11, w ∈ wsX8_reset := by decide +kernel
  refine zM_of (cc := cX8_reset) (nL := 3) (ret := (some .int)) (own := RX8) (by decide +kernel) rfl rfl (Nat.le_of_ble_eq_true rfl) (fun C X hi0 => ?_)
  have nn1 : 0 ≤ κ 0 ∧ κ 0 ≤ κ 1 ∧ κ 0 ≤ E ∧ κ 1 ≤ 7000 := hM.n.1
  show zG C V 0 0 0 [(0, .ref (c 60)), (1, .int (zI (q)))] []
  refine zr_aload_n X 1 0 dX8_reset_0 rfl rfl ?_
  refine zr_iload_n X 2 1 dX8_reset_1 rfl rfl ?_
  refine zr_callS (kc' := 0) (ks' := 0) X 5 1 (m_X8_isNoWindow l Γ (V := V) (x := q) (by first | with_reducible assumption | decide | omega)) gX8_reset_X8_isNoWindow rfl (by decide +kernel) rfl (by decide) rfl (Nat.le_of_ble_eq_true rfl) dX8_reset_2 rfl (by first | with_reducible assumption | decide | omega) (by first | with_reducible assumption | decide | omega) (fun rv2 V3 hp4 => ?_)
  obtain ⟨⟨no5, no5e, no5a⟩, no5v⟩ := hp4
  rw [no5e, no5v]
  show zG C V 0 0 5 [(0, .ref (c 60)), (1, .int (zI (q)))] [.int (zI (no5)), .ref (c 60)]
  refine zr_iconst X 6 dX8_reset_5 rfl ?_
  refine zr_callVe (kc' := 0) (ks' := 0) X 9 2 (m_X8_isThrown l Γ hM (a := no5) (b := 0) (by first | with_reducible assumption | decide | omega) (by first | with_reducible assumption | decide | omega)) gX8_reset_X8_isThrown rfl (by decide +kernel) rfl (by decide) ⟨_, _, hM.1⟩ rfl rfl (Nat.le_of_ble_eq_true rfl) dX8_reset_6 rfl (by first | with_reducible assumption | decide | omega) (by first | with_reducible assumption | decide | omega) (fun rv6 V7 hp8 => ?_)
  obtain ⟨⟨hp8x, hp8k, hp8e, hp8c, hp8m⟩, hp8g⟩ := hp8
  rw [hp8e]
  rcases hp8c with ⟨tc9a, tc9k, tc9x⟩ | ⟨tc9a, tc9b, tc9k, tc9x⟩ | ⟨tc9a, tc9b, tc9k, tc9x⟩
  · skip
    subst tc9k tc9x
    have fx10 : zfm V V7 := (hp8g.mono (fun t ht => by omega))
    obtain ⟨τ11, τ11e⟩ : ∃ zz9 : Nat → Int, zz9 = zf τ 36 1 := ⟨_, rfl⟩
    rw [← τ11e] at hp8m
    show zG C V7 0 0 9 [(0, .ref (c 60)), (1, .int (zI (q)))] [.int (zI (1))]
    refine zr_if_eq X 14 12 dX8_reset_9 rfl rfl (by first | with_reducible assumption | decide | omega) (fun bq12 => absurd bq12 (by first | with_reducible assumption | decide | omega)) (fun bq12 => ?_)
    refine zr_iconst X 13 dX8_reset_12 rfl ?_
    exact zr_iret X rfl ⟨0, md, τ11, κ, rfl, hp8m.le (by first | with_reducible assumption | decide | omega), fx10, Or.inl ⟨by omega, rfl, by rw [τ11e]⟩⟩ dX8_reset_13
  · exact absurd tc9b (by decide)
  · skip
    subst tc9k tc9x
    have fx13 : zfm V V7 := (hp8g.mono (fun t ht => by omega))
    obtain ⟨τ14, τ14e⟩ : ∃ zz9 : Nat → Int, zz9 = zf τ 36 0 := ⟨_, rfl⟩
    rw [← τ14e] at hp8m
    show zG C V7 0 0 9 [(0, .ref (c 60)), (1, .int (zI (q)))] [.int (zI (0))]
    refine zr_if_eq X 14 12 dX8_reset_9 rfl rfl (by first | with_reducible assumption | decide | omega) (fun bq15 => ?_) (fun bq15 => absurd bq15 (by first | with_reducible assumption | decide | omega))
    refine zr_aload_n X 15 0 dX8_reset_14 rfl rfl ?_
    have c816 : V7 (c 60) = some (60, .inr (9, [.ref (md 61), .int (zI (κ 0)), .ref (c 62), .ref (md 63), .ref (md 64), .ref (c 65), .int (zI (τ14 26)), .int (zI (τ14 28)), .int (zI (τ14 29)), .ref (c 66), .int (zI (τ14 36))])) := hp8m.1
    refine zr_get X 18 9 2 c816 rfl iX8 (by decide) w0 rfl rfl dX8_reset_15 rfl ?_
    refine zr_iload_n X 19 1 dX8_reset_18 rfl rfl ?_
    have c817 : V7 (c 62) = some (62, zq Γ.2.1 4 6 (fun i => some (md (70 + i)))) := hp8m.2.2.1
    refine zr_aaldI X 20 (.ref (md (70 + q.toNat))) c817 (by first | with_reducible assumption | decide | omega) rfl dX8_reset_19 rfl ?_
    refine zr_astore_n X 21 [(2, .ref (md (70 + q.toNat))), (0, .ref (c 60)), (1, .int (zI (q)))] dX8_reset_20 rfl (by decide) rfl ?_
    refine zr_aload_n X 22 0 dX8_reset_21 rfl rfl ?_
    refine zr_iconst X 23 dX8_reset_22 rfl ?_
    have hw19 := hp8m.w (i := q.toNat) (by first | with_reducible assumption | decide | omega)
    have hw19r := hw19.rg
    have hw19d := hw19.mk
    have z020 : (zf τ 36 0) (4 * q.toNat) = τ14 (4 * q.toNat) := by rw [τ14e]
    have z021 : (zf τ 36 0) (4 * q.toNat + 1) = τ14 (4 * q.toNat + 1) := by rw [τ14e]
    have z022 : (zf τ 36 0) (4 * q.toNat + 2) = τ14 (4 * q.toNat + 2) := by rw [τ14e]
    have z023 : (zf τ 36 0) (4 * q.toNat + 3) = τ14 (4 * q.toNat + 3) := by rw [τ14e]
    refine zr_iald X 24 hw19.1 (by first | with_reducible assumption | decide | omega) dX8_reset_23 rfl ?_
    show zG C V7 0 0 24 [(2, .ref (md (70 + q.toNat))), (0, .ref (c 60)), (1, .int (zI (q)))] [.int (zI (κ (20 + q.toNat)))]
    refine zr_if_ge X 32 27 dX8_reset_24 rfl rfl (by first | with_reducible assumption | decide | omega) (fun bq24 => ?_) (fun bq24 => ?_)
    · refine zr_aload_n X 33 0 dX8_reset_32 rfl rfl ?_
      refine zr_iconst X 34 dX8_reset_33 rfl ?_
      refine zr_aload_n X 35 0 dX8_reset_34 rfl rfl ?_
      refine zr_iconst X 36 dX8_reset_35 rfl ?_
      refine zr_iald X 37 hw19.1 (by first | with_reducible assumption | decide | omega) dX8_reset_36 rfl ?_
      show zG C V7 0 0 37 [(2, .ref (md (70 + q.toNat))), (0, .ref (c 60)), (1, .int (zI (q)))] [.int (zI (κ (20 + q.toNat))), .int (zI (3)), .ref (md (70 + q.toNat))]
      refine zr_iast X 38 hw19.1 (by first | with_reducible assumption | decide | omega) dX8_reset_37 rfl ?_
      refine zr_view zv5_3 ?_
      show zG C (zu V7 (md (70 + q.toNat)) (70 + q.toNat) (za Γ.2.1 0 5 (zr5 (κ (10 + q.toNat)) (τ14 (4 * q.toNat)) (τ14 (4 * q.toNat + 1)) (κ (20 + q.toNat)) (κ (20 + q.toNat))))) 0 0 38 [(2, .ref (md (70 + q.toNat))), (0, .ref (c 60)), (1, .int (zI (q)))] []
      obtain ⟨cm25h, cm25f⟩ := hp8m.setW (i := q.toNat) (by first | with_reducible assumption | decide | omega) (τ14 (4 * q.toNat + 1)) (κ (20 + q.toNat)) (τ14 (4 * q.toNat + 3)) (κ (20 + q.toNat)) ⟨by omega, by omega, by omega, hw19.mk, by omega⟩
      obtain ⟨cm25V, cm25e⟩ : ∃ zz9 : zV, zz9 = (zu V7 (md (70 + q.toNat)) (70 + q.toNat) (za Γ.2.1 0 5 (zr5 (κ (10 + q.toNat)) (τ14 (4 * q.toNat)) (τ14 (4 * q.toNat + 1)) (κ (20 + q.toNat)) (κ (20 + q.toNat))))) := ⟨_, rfl⟩
      obtain ⟨κ26, κ26e⟩ : ∃ zz9 : Nat → Int, zz9 = zf κ (20 + q.toNat) (κ (20 + q.toNat)) := ⟨_, rfl⟩
      have cm25m : zMo Γ cm25V c md (zw4 τ14 q.toNat (τ14 (4 * q.toNat)) (τ14 (4 * q.toNat + 1)) (κ (20 + q.toNat)) (τ14 (4 * q.toNat + 3))) κ26 E := by
        rw [κ26e, cm25e]
        exact cm25h
      have cm25g : zag (fun x => x ≠ 70 + q.toNat) V7 cm25V := by
        rw [cm25e]
        exact cm25f
      refine zr_view (cm25e).symm ?_
      have fx27 : zfm V cm25V := zag.tr fx13 (cm25g.mono (fun t ht => by omega))
      obtain ⟨τ28, τ28e⟩ : ∃ zz9 : Nat → Int, zz9 = zw4 τ14 q.toNat (τ14 (4 * q.toNat)) (τ14 (4 * q.toNat + 1)) (κ (20 + q.toNat)) (τ14 (4 * q.toNat + 3)) := ⟨_, rfl⟩
      rw [← τ28e] at cm25m
      have τ28_q0 : τ28 (4 * q.toNat) = τ14 (4 * q.toNat) := by rw [τ28e]; exact zw4_0
      have τ28_q1 : τ28 (4 * q.toNat + 1) = τ14 (4 * q.toNat + 1) := by rw [τ28e]; exact zw4_1
      have τ28_q2 : τ28 (4 * q.toNat + 2) = κ (20 + q.toNat) := by rw [τ28e]; exact zw4_2
      have τ28_q3 : τ28 (4 * q.toNat + 3) = τ14 (4 * q.toNat + 3) := by rw [τ28e]; exact zw4_3
      show zG C cm25V 0 0 38 [(2, .ref (md (70 + q.toNat))), (0, .ref (c 60)), (1, .int (zI (q)))] []
      refine zr_aload_n X 39 1 dX8_reset_38 rfl rfl ?_
      refine zr_aload_n X 40 0 dX8_reset_39 rfl rfl ?_
      refine zr_iconst X 41 dX8_reset_40 rfl ?_
      have hw30 := cm25m.w (i := q.toNat) (by first | with_reducible assumption | decide | omega)
      have hw30r := hw30.rg
      have hw30d := hw30.mk
      refine zr_iald X 42 hw30.1 (by first | with_reducible assumption | decide | omega) dX8_reset_41 rfl ?_
      show zG C cm25V 0 0 42 [(2, .ref (md (70 + q.toNat))), (0, .ref (c 60)), (1, .int (zI (q)))] [.int (zI (τ28 (4 * q.toNat + 2))), .ref (c 60)]
      refine zr_callVe (kc' := 0) (ks' := 0) X 45 1 (m_X8_done l Γ cm25m) gX8_reset_X8_done rfl (by decide +kernel) rfl (by decide) ⟨_, _, cm25m.1⟩ rfl rfl (Nat.le_of_ble_eq_true rfl) dX8_reset_42 rfl (by first | with_reducible assumption | decide | omega) (by first | with_reducible assumption | decide | omega) (fun rv31 V32 hp33 => ?_)
      obtain ⟨hp33e, hp33m, hp33g⟩ := hp33
      rw [hp33e]
      have fx34 : zfm V V32 := zag.tr fx27 (hp33g.mono (fun t ht => by omega))
      obtain ⟨τ35, τ35e⟩ : ∃ zz9 : Nat → Int, zz9 = zdn τ28 := ⟨_, rfl⟩
      rw [← τ35e] at hp33m
      have τ35_q0 : τ35 (4 * q.toNat) = τ28 (4 * q.toNat) := by rw [τ35e]; exact zdn_ne (by first | with_reducible assumption | decide | omega)
      have τ35_q1 : τ35 (4 * q.toNat + 1) = τ28 (4 * q.toNat + 1) := by rw [τ35e]; exact zdn_ne (by first | with_reducible assumption | decide | omega)
      have τ35_q2 : τ35 (4 * q.toNat + 2) = τ28 (4 * q.toNat + 2) := by rw [τ35e]; exact zdn_ne (by first | with_reducible assumption | decide | omega)
      have τ35_q3 : τ35 (4 * q.toNat + 3) = τ28 (4 * q.toNat + 3) := by rw [τ35e]; exact zdn_ne (by first | with_reducible assumption | decide | omega)
      show zG C V32 0 0 45 [(2, .ref (md (70 + q.toNat))), (0, .ref (c 60)), (1, .int (zI (q)))] [.int (zI (τ28 (4 * q.toNat + 2)))]
      exact zr_iret X rfl ⟨τ28 (4 * q.toNat + 2), md, τ35, κ26, rfl, hp33m.le (by first | with_reducible assumption | decide | omega), fx34, Or.inr (Or.inr ⟨by omega, trivial, Or.inr ⟨by omega, by omega, by rw [τ35e, τ28e, show κ (20 + q.toNat) = τ14 (4 * q.toNat + 3) by omega, τ14e]⟩⟩)⟩ dX8_reset_45
    · refine zr_aload_n X 28 1 dX8_reset_27 rfl rfl ?_
      refine zr_callVe (kc' := 0) (ks' := 0) X 31 0 (m_X8_refused l Γ hp8m) gX8_reset_X8_refused rfl (by decide +kernel) rfl (by decide) ⟨_, _, hp8m.1⟩ rfl rfl (Nat.le_of_ble_eq_true rfl) dX8_reset_28 rfl (by first | with_reducible assumption | decide | omega) (by first | with_reducible assumption | decide | omega) (fun rv36 V37 hp38 => ?_)
      obtain ⟨hp38e, hp38m, hp38g⟩ := hp38
      rw [hp38e]
      have fx39 : zfm V V37 := zag.tr fx13 (hp38g.mono (fun t ht => by omega))
      obtain ⟨τ40, τ40e⟩ : ∃ zz9 : Nat → Int, zz9 = zrf τ14 := ⟨_, rfl⟩
      rw [← τ40e] at hp38m
      have τ40_q0 : τ40 (4 * q.toNat) = τ14 (4 * q.toNat) := by rw [τ40e]; exact zrf_ne (by first | with_reducible assumption | decide | omega)
      have τ40_q1 : τ40 (4 * q.toNat + 1) = τ14 (4 * q.toNat + 1) := by rw [τ40e]; exact zrf_ne (by first | with_reducible assumption | decide | omega)
      have τ40_q2 : τ40 (4 * q.toNat + 2) = τ14 (4 * q.toNat + 2) := by rw [τ40e]; exact zrf_ne (by first | with_reducible assumption | decide | omega)
      have τ40_q3 : τ40 (4 * q.toNat + 3) = τ14 (4 * q.toNat + 3) := by rw [τ40e]; exact zrf_ne (by first | with_reducible assumption | decide | omega)
      show zG C V37 0 0 31 [(2, .ref (md (70 + q.toNat))), (0, .ref (c 60)), (1, .int (zI (q)))] [.int (zI (-9))]
      exact zr_iret X rfl ⟨-9, md, τ40, κ, rfl, hp38m.le (by first | with_reducible assumption | decide | omega), fx39, Or.inr (Or.inr ⟨by omega, trivial, Or.inl ⟨by omega, rfl, by rw [τ40e, τ14e]⟩⟩)⟩ dX8_reset_31
set_option maxRecDepth 100000 in
set_option maxHeartbeats 4000000 in
theorem m_X8_read_ (l : Launch) (Γ : zGam) {V : zV} {c md : Nat → Nat} {τ κ : Nat → Int} {E : Int} {q n : Int} (hM : zMo Γ V c md τ κ E) (hq : -2147483648 ≤ q ∧ q ≤ 2147483647) (hn : -2147483648 ≤ n ∧ n ≤ 2147483647) : zM l Γ 10 yX8_read_ wsX8_read_ 3011 6340 V [.ref (c 60), .int (zI (q)), .int (zI (n))] (fun rv V' => ∃ (zr : Nat) (md' : Nat → Nat) (τ' κ' : Nat → Int), rv = some (.ref zr) ∧ zMo Γ V' c md' τ' κ' (E + 40) ∧ zfm V V' ∧ ((¬ (0 ≤ q ∧ q ≤ 5) ∧ τ' = zf τ 36 1) ∨ ((0 ≤ q ∧ q ≤ 5) ∧ ¬ (0 ≤ n ∧ n ≤ 40) ∧ τ' = zf τ 36 2) ∨ ((0 ≤ q ∧ q ≤ 5) ∧ (0 ≤ n ∧ n ≤ 40) ∧ (∃ k : Int, 0 ≤ k ∧ k ≤ n ∧ k ≤ (zf τ 36 0) (4 * q.toNat + 1) - (zf τ 36 0) (4 * q.toNat + 2) ∧ (k = n ∨ k = (zf τ 36 0) (4 * q.toNat + 1) - (zf τ 36 0) (4 * q.toNat + 2)) ∧ τ' = zdn (zw4 (zf τ 36 0) q.toNat ((zf τ 36 0) (4 * q.toNat)) ((zf τ 36 0) (4 * q.toNat + 1)) ((zf τ 36 0) (4 * q.toNat + 2) + k) ((zf τ 36 0) (4 * q.toNat + 3))))))) := by
  have w0 : Cond.fieldLink RX8 14 "SashwordsModel" "windows" "[[I" ∈ wsX8_read_ := by decide +kernel
  have iX8 : ∀ w ∈ u_ws RX8 TX8 11, w ∈ wsX8_read_ := by decide +kernel
  have w2 : Cond.methodLink RX8 97 Lib.Math.min.name ∈ wsX8_read_ := by decide +kernel
  have w3 : Cond.static Lib.Math.min.name ∈ wsX8_read_ := by decide +kernel
  have w4 : Cond.initialized "java/lang/Math" ∈ wsX8_read_ := by decide +kernel
  have w5 : Cond.code Lib.Math.min.name Lib.Math.min.code 2 (some .int) ∈ wsX8_read_ := by decide +kernel
  refine zM_of (cc := cX8_read_) (nL := 6) (ret := (some (.object "java/lang/String"))) (own := RX8) (by decide +kernel) rfl rfl (Nat.le_of_ble_eq_true rfl) (fun C X hi0 => ?_)
  have nn1 : 0 ≤ κ 0 ∧ κ 0 ≤ κ 1 ∧ κ 0 ≤ E ∧ κ 1 ≤ 7000 := hM.n.1
  show zG C V 3011 6340 0 [(0, .ref (c 60)), (1, .int (zI (q))), (2, .int (zI (n)))] []
  refine zr_aload_n X 1 0 dX8_read__0 rfl rfl ?_
  refine zr_iload_n X 2 1 dX8_read__1 rfl rfl ?_
  refine zr_callS (kc' := 3011) (ks' := 6340) X 5 1 (m_X8_isNoWindow l Γ (V := V) (x := q) (by first | with_reducible assumption | decide | omega)) gX8_read__X8_isNoWindow rfl (by decide +kernel) rfl (by decide) rfl (Nat.le_of_ble_eq_true rfl) dX8_read__2 rfl (by first | with_reducible assumption | decide | omega) (by first | with_reducible assumption | decide | omega) (fun rv2 V3 hp4 => ?_)
  obtain ⟨⟨no5, no5e, no5a⟩, no5v⟩ := hp4
  rw [no5e, no5v]
  show zG C V 3011 6340 5 [(0, .ref (c 60)), (1, .int (zI (q))), (2, .int (zI (n)))] [.int (zI (no5)), .ref (c 60)]
  refine zr_iload_n X 6 2 dX8_read__5 rfl rfl ?_
  refine zr_iconst X 7 dX8_read__6 rfl ?_
  refine zr_bipush X 9 (40) dX8_read__7 rfl (by decide) ?_
  refine zr_callS (kc' := 3011) (ks' := 6340) X 12 3 (m_X8_isNo l Γ (V := V) (x := n) (a := 0) (b := 40) (by first | with_reducible assumption | decide | omega) (by first | with_reducible assumption | decide | omega) (by first | with_reducible assumption | decide | omega)) gX8_read__X8_isNo rfl (by decide +kernel) rfl (by decide) rfl (Nat.le_of_ble_eq_true rfl) dX8_read__9 rfl (by first | with_reducible assumption | decide | omega) (by first | with_reducible assumption | decide | omega) (fun rv6 V7 hp8 => ?_)
  obtain ⟨⟨no9, no9e, no9a⟩, no9v⟩ := hp8
  rw [no9e, no9v]
  show zG C V 3011 6340 12 [(0, .ref (c 60)), (1, .int (zI (q))), (2, .int (zI (n)))] [.int (zI (no9)), .int (zI (no5)), .ref (c 60)]
  refine zr_callVe (kc' := 3011) (ks' := 6340) X 15 2 (m_X8_isThrown l Γ hM (a := no5) (b := no9) (by first | with_reducible assumption | decide | omega) (by first | with_reducible assumption | decide | omega)) gX8_read__X8_isThrown rfl (by decide +kernel) rfl (by decide) ⟨_, _, hM.1⟩ rfl rfl (Nat.le_of_ble_eq_true rfl) dX8_read__12 rfl (by first | with_reducible assumption | decide | omega) (by first | with_reducible assumption | decide | omega) (fun rv10 V11 hp12 => ?_)
  obtain ⟨⟨hp12x, hp12k, hp12e, hp12c, hp12m⟩, hp12g⟩ := hp12
  rw [hp12e]
  rcases hp12c with ⟨tc13a, tc13k, tc13x⟩ | ⟨tc13a, tc13b, tc13k, tc13x⟩ | ⟨tc13a, tc13b, tc13k, tc13x⟩
  · skip
    subst tc13k tc13x
    have fx14 : zfm V V11 := (hp12g.mono (fun t ht => by omega))
    obtain ⟨τ15, τ15e⟩ : ∃ zz9 : Nat → Int, zz9 = zf τ 36 1 := ⟨_, rfl⟩
    rw [← τ15e] at hp12m
    show zG C V11 3011 6340 15 [(0, .ref (c 60)), (1, .int (zI (q))), (2, .int (zI (n)))] [.int (zI (1))]
    refine zr_if_eq X 21 18 dX8_read__15 rfl rfl (by first | with_reducible assumption | decide | omega) (fun bq16 => absurd bq16 (by first | with_reducible assumption | decide | omega)) (fun bq16 => ?_)
    refine zr_ldcS X 20 6 rfl dX8_read__18 rfl ?_
    exact zr_aret X rfl (Or.inl ⟨_, rfl⟩) ⟨Γ.2.2.1 6, md, τ15, κ, rfl, hp12m.le (by first | with_reducible assumption | decide | omega), fx14, Or.inl ⟨by omega, by rw [τ15e]⟩⟩ dX8_read__20
  · skip
    subst tc13k tc13x
    have fx17 : zfm V V11 := (hp12g.mono (fun t ht => by omega))
    obtain ⟨τ18, τ18e⟩ : ∃ zz9 : Nat → Int, zz9 = zf τ 36 2 := ⟨_, rfl⟩
    rw [← τ18e] at hp12m
    show zG C V11 3011 6340 15 [(0, .ref (c 60)), (1, .int (zI (q))), (2, .int (zI (n)))] [.int (zI (1))]
    refine zr_if_eq X 21 18 dX8_read__15 rfl rfl (by first | with_reducible assumption | decide | omega) (fun bq19 => absurd bq19 (by first | with_reducible assumption | decide | omega)) (fun bq19 => ?_)
    refine zr_ldcS X 20 6 rfl dX8_read__18 rfl ?_
    exact zr_aret X rfl (Or.inl ⟨_, rfl⟩) ⟨Γ.2.2.1 6, md, τ18, κ, rfl, hp12m.le (by first | with_reducible assumption | decide | omega), fx17, Or.inr (Or.inl ⟨by omega, by omega, by rw [τ18e]⟩)⟩ dX8_read__20
  · skip
    subst tc13k tc13x
    have fx20 : zfm V V11 := (hp12g.mono (fun t ht => by omega))
    obtain ⟨τ21, τ21e⟩ : ∃ zz9 : Nat → Int, zz9 = zf τ 36 0 := ⟨_, rfl⟩
    rw [← τ21e] at hp12m
    show zG C V11 3011 6340 15 [(0, .ref (c 60)), (1, .int (zI (q))), (2, .int (zI (n)))] [.int (zI (0))]
    refine zr_if_eq X 21 18 dX8_read__15 rfl rfl (by first | with_reducible assumption | decide | omega) (fun bq22 => ?_) (fun bq22 => absurd bq22 (by first | with_reducible assumption | decide | omega))
    refine zr_aload_n X 22 0 dX8_read__21 rfl rfl ?_
    have c823 : V11 (c 60) = some (60, .inr (9, [.ref (md 61), .int (zI (κ 0)), .ref (c 62), .ref (md 63), .ref (md 64), .ref (c 65), .int (zI (τ21 26)), .int (zI (τ21 28)), .int (zI (τ21 29)), .ref (c 66), .int (zI (τ21 36))])) := hp12m.1
    refine zr_get X 25 9 2 c823 rfl iX8 (by decide) w0 rfl rfl dX8_read__22 rfl ?_
    refine zr_iload_n X 26 1 dX8_read__25 rfl rfl ?_
    have c824 : V11 (c 62) = some (62, zq Γ.2.1 4 6 (fun i => some (md (70 + i)))) := hp12m.2.2.1
    refine zr_aaldI X 27 (.ref (md (70 + q.toNat))) c824 (by first | with_reducible assumption | decide | omega) rfl dX8_read__26 rfl ?_
    refine zr_astore_n X 28 [(3, .ref (md (70 + q.toNat))), (0, .ref (c 60)), (1, .int (zI (q))), (2, .int (zI (n)))] dX8_read__27 rfl (by decide) rfl ?_
    refine zr_aload_n X 29 1 dX8_read__28 rfl rfl ?_
    refine zr_aload_n X 30 0 dX8_read__29 rfl rfl ?_
    have hw26 := hp12m.w (i := q.toNat) (by first | with_reducible assumption | decide | omega)
    have hw26r := hw26.rg
    have z027 : (zf τ 36 0) (4 * q.toNat) = τ21 (4 * q.toNat) := by rw [τ21e]
    have z028 : (zf τ 36 0) (4 * q.toNat + 1) = τ21 (4 * q.toNat + 1) := by rw [τ21e]
    have z029 : (zf τ 36 0) (4 * q.toNat + 2) = τ21 (4 * q.toNat + 2) := by rw [τ21e]
    have z030 : (zf τ 36 0) (4 * q.toNat + 3) = τ21 (4 * q.toNat + 3) := by rw [τ21e]
    refine zr_callVe (kc' := (3011 - 1)) (ks' := (6340 - 40)) X 33 1 (m_X8_text l Γ (tg := 76) (i := q) hp12m (by first | with_reducible assumption | decide | omega)) gX8_read__X8_text rfl (by decide +kernel) rfl (by decide) ⟨_, _, hp12m.1⟩ rfl rfl (Nat.le_of_ble_eq_true rfl) dX8_read__30 rfl (by first | with_reducible assumption | decide | omega) (by first | with_reducible assumption | decide | omega) (fun rv31 V32 hp33 => ?_)
    obtain ⟨hp33q, hp33f, hp33e, hp33h, hp33c, hp33g⟩ := hp33
    rw [hp33e]
    have hp33m := hp12m.kept hp33g (fun _ _ _ => trivial)
    have fx34 : zfm V V32 := zag.tr fx20 (hp33g.mono (fun _ _ => trivial))
    show zG C V32 (3011 - 1) (6340 - 40) 33 [(3, .ref (md (70 + q.toNat))), (0, .ref (c 60)), (1, .int (zI (q))), (2, .int (zI (n)))] [.ref hp33q]
    refine zr_astore X 35 [(4, .ref hp33q), (3, .ref (md (70 + q.toNat))), (0, .ref (c 60)), (1, .int (zI (q))), (2, .int (zI (n)))] dX8_read__33 rfl (by decide) rfl ?_
    refine zr_iload_n X 36 4 dX8_read__35 rfl rfl ?_
    refine zr_aload X 38 0 dX8_read__36 rfl rfl ?_
    refine zr_alen X 39 0 hp33h (by decide) dX8_read__38 rfl ?_
    obtain ⟨mz35, mz35e, mz35a⟩ : ∃ z9 : Int, z9 = (if (((τ21 (4 * q.toNat + 1) - τ21 (4 * q.toNat + 2)).toNat : Nat) : Int) < n then (((τ21 (4 * q.toNat + 1) - τ21 (4 * q.toNat + 2)).toNat : Nat) : Int) else n) ∧ (((((τ21 (4 * q.toNat + 1) - τ21 (4 * q.toNat + 2)).toNat : Nat) : Int) < n ∧ z9 = (((τ21 (4 * q.toNat + 1) - τ21 (4 * q.toNat + 2)).toNat : Nat) : Int)) ∨ (¬ (((τ21 (4 * q.toNat + 1) - τ21 (4 * q.toNat + 2)).toNat : Nat) : Int) < n ∧ z9 = n)) := zmine _ _
    refine zr_mmin X 42 (mz35) w2 w3 w4 w5 (by decide) (Nat.le_of_ble_eq_true rfl) (by first | with_reducible assumption | decide | omega) (by first | with_reducible assumption | decide | omega) mz35e dX8_read__39 rfl ?_
    clear mz35e
    refine zr_istore X 44 [(5, .int (zI (mz35))), (4, .ref hp33q), (3, .ref (md (70 + q.toNat))), (0, .ref (c 60)), (1, .int (zI (q))), (2, .int (zI (n)))] dX8_read__42 rfl (by decide) rfl ?_
    refine zr_aload_n X 45 2 dX8_read__44 rfl rfl ?_
    refine zr_iconst X 46 dX8_read__45 rfl ?_
    refine zr_dup2 X 47 dX8_read__46 rfl rfl rfl ?_
    have hw37 := hp33m.w (i := q.toNat) (by first | with_reducible assumption | decide | omega)
    have hw37r := hw37.rg
    have z038 : (zf τ 36 0) (4 * q.toNat) = τ21 (4 * q.toNat) := by rw [τ21e]
    have z039 : (zf τ 36 0) (4 * q.toNat + 1) = τ21 (4 * q.toNat + 1) := by rw [τ21e]
    have z040 : (zf τ 36 0) (4 * q.toNat + 2) = τ21 (4 * q.toNat + 2) := by rw [τ21e]
    have z041 : (zf τ 36 0) (4 * q.toNat + 3) = τ21 (4 * q.toNat + 3) := by rw [τ21e]
    refine zr_iald X 48 hw37.1 (by first | with_reducible assumption | decide | omega) dX8_read__47 rfl ?_
    show zG C V32 (3011 - 1) (6340 - 40) 48 [(5, .int (zI (mz35))), (4, .ref hp33q), (3, .ref (md (70 + q.toNat))), (0, .ref (c 60)), (1, .int (zI (q))), (2, .int (zI (n)))] [.int (zI (τ21 (4 * q.toNat + 2))), .int (zI (3)), .ref (md (70 + q.toNat))]
    refine zr_aload_n X 49 3 dX8_read__48 rfl rfl ?_
    refine zr_iload X 51 0 dX8_read__49 rfl rfl ?_
    refine zr_callVe (kc' := (3011 - 1)) (ks' := (6340 - 40)) X 54 1 (m_X8_done l Γ hp33m) gX8_read__X8_done rfl (by decide +kernel) rfl (by decide) ⟨_, _, hp33m.1⟩ rfl rfl (Nat.le_of_ble_eq_true rfl) dX8_read__51 rfl (by first | with_reducible assumption | decide | omega) (by first | with_reducible assumption | decide | omega) (fun rv42 V43 hp44 => ?_)
    obtain ⟨hp44e, hp44m, hp44g⟩ := hp44
    rw [hp44e]
    have lc45 := hp44g _ _ _ hp33h (by first | with_reducible assumption | decide | omega)
    have fx46 : zfm V V43 := zag.tr fx34 (hp44g.mono (fun t ht => by omega))
    obtain ⟨τ47, τ47e⟩ : ∃ zz9 : Nat → Int, zz9 = zdn τ21 := ⟨_, rfl⟩
    rw [← τ47e] at hp44m
    have τ47_q0 : τ47 (4 * q.toNat) = τ21 (4 * q.toNat) := by rw [τ47e]; exact zdn_ne (by first | with_reducible assumption | decide | omega)
    have τ47_q1 : τ47 (4 * q.toNat + 1) = τ21 (4 * q.toNat + 1) := by rw [τ47e]; exact zdn_ne (by first | with_reducible assumption | decide | omega)
    have τ47_q2 : τ47 (4 * q.toNat + 2) = τ21 (4 * q.toNat + 2) := by rw [τ47e]; exact zdn_ne (by first | with_reducible assumption | decide | omega)
    have τ47_q3 : τ47 (4 * q.toNat + 3) = τ21 (4 * q.toNat + 3) := by rw [τ47e]; exact zdn_ne (by first | with_reducible assumption | decide | omega)
    show zG C V43 (3011 - 1) (6340 - 40) 54 [(5, .int (zI (mz35))), (4, .ref hp33q), (3, .ref (md (70 + q.toNat))), (0, .ref (c 60)), (1, .int (zI (q))), (2, .int (zI (n)))] [.int (zI (mz35)), .int (zI (τ21 (4 * q.toNat + 2))), .int (zI (3)), .ref (md (70 + q.toNat))]
    refine zr_iadd X 55 dX8_read__54 rfl ?_
    have hw49 := hp44m.w (i := q.toNat) (by first | with_reducible assumption | decide | omega)
    have hw49r := hw49.rg
    refine zr_iast X 56 hw49.1 (by first | with_reducible assumption | decide | omega) dX8_read__55 rfl ?_
    refine zr_view zv5_3 ?_
    show zG C (zu V43 (md (70 + q.toNat)) (70 + q.toNat) (za Γ.2.1 0 5 (zr5 (κ (10 + q.toNat)) (τ47 (4 * q.toNat)) (τ47 (4 * q.toNat + 1)) ((τ21 (4 * q.toNat + 2)) + mz35) (κ (20 + q.toNat))))) (3011 - 1) (6340 - 40) 56 [(5, .int (zI (mz35))), (4, .ref hp33q), (3, .ref (md (70 + q.toNat))), (0, .ref (c 60)), (1, .int (zI (q))), (2, .int (zI (n)))] []
    obtain ⟨cm50h, cm50f⟩ := hp44m.setW (i := q.toNat) (by first | with_reducible assumption | decide | omega) (τ47 (4 * q.toNat + 1)) ((τ21 (4 * q.toNat + 2)) + mz35) (τ47 (4 * q.toNat + 3)) (κ (20 + q.toNat)) ⟨by omega, by omega, by omega, hw49.mk, by omega⟩
    obtain ⟨cm50V, cm50e⟩ : ∃ zz9 : zV, zz9 = (zu V43 (md (70 + q.toNat)) (70 + q.toNat) (za Γ.2.1 0 5 (zr5 (κ (10 + q.toNat)) (τ47 (4 * q.toNat)) (τ47 (4 * q.toNat + 1)) ((τ21 (4 * q.toNat + 2)) + mz35) (κ (20 + q.toNat))))) := ⟨_, rfl⟩
    obtain ⟨κ51, κ51e⟩ : ∃ zz9 : Nat → Int, zz9 = zf κ (20 + q.toNat) (κ (20 + q.toNat)) := ⟨_, rfl⟩
    have cm50m : zMo Γ cm50V c md (zw4 τ47 q.toNat (τ47 (4 * q.toNat)) (τ47 (4 * q.toNat + 1)) ((τ21 (4 * q.toNat + 2)) + mz35) (τ47 (4 * q.toNat + 3))) κ51 E := by
      rw [κ51e, cm50e]
      exact cm50h
    have cm50g : zag (fun x => x ≠ 70 + q.toNat) V43 cm50V := by
      rw [cm50e]
      exact cm50f
    refine zr_view (cm50e).symm ?_
    have lc52 := cm50g _ _ _ lc45 (by first | with_reducible assumption | decide | omega)
    have fx53 : zfm V cm50V := zag.tr fx46 (cm50g.mono (fun t ht => by omega))
    obtain ⟨τ54, τ54e⟩ : ∃ zz9 : Nat → Int, zz9 = zw4 τ47 q.toNat (τ47 (4 * q.toNat)) (τ47 (4 * q.toNat + 1)) ((τ21 (4 * q.toNat + 2)) + mz35) (τ47 (4 * q.toNat + 3)) := ⟨_, rfl⟩
    rw [← τ54e] at cm50m
    have τ54_q0 : τ54 (4 * q.toNat) = τ47 (4 * q.toNat) := by rw [τ54e]; exact zw4_0
    have τ54_q1 : τ54 (4 * q.toNat + 1) = τ47 (4 * q.toNat + 1) := by rw [τ54e]; exact zw4_1
    have τ54_q2 : τ54 (4 * q.toNat + 2) = (τ21 (4 * q.toNat + 2)) + mz35 := by rw [τ54e]; exact zw4_2
    have τ54_q3 : τ54 (4 * q.toNat + 3) = τ47 (4 * q.toNat + 3) := by rw [τ54e]; exact zw4_3
    show zG C cm50V (3011 - 1) (6340 - 40) 56 [(5, .int (zI (mz35))), (4, .ref hp33q), (3, .ref (md (70 + q.toNat))), (0, .ref (c 60)), (1, .int (zI (q))), (2, .int (zI (n)))] []
    refine zr_aload X 58 1 dX8_read__56 rfl rfl ?_
    refine zr_iconst X 59 dX8_read__58 rfl ?_
    refine zr_iload X 61 0 dX8_read__59 rfl rfl ?_
    refine zr_callS (kc' := (3011 - 1) - 3010) (ks' := (6340 - 40) - 6300) X 64 3 (m_X8_told l Γ (fr := 0) (to := mz35) lc52 hp33c (by first | with_reducible assumption | decide | omega) (by first | with_reducible assumption | decide | omega) (by first | with_reducible assumption | decide | omega)) gX8_read__X8_told rfl (by decide +kernel) rfl (by decide) rfl (Nat.le_of_ble_eq_true rfl) dX8_read__61 rfl (by first | with_reducible assumption | decide | omega) (by first | with_reducible assumption | decide | omega) (fun rv55 V56 hp57 => ?_)
    obtain ⟨hp57z, hp57e, hp57f⟩ := hp57
    rw [hp57e]
    have hp57g : zag (fun x => x ≠ 7) cm50V V56 := hp57f
    have hp57m := cm50m.kept hp57g (fun t h1 h2 => by omega)
    have lc58 := hp57g _ _ _ lc52 (by first | with_reducible assumption | decide | omega)
    have fx59 : zfm V V56 := zag.tr fx53 (hp57g.mono (fun t ht => by omega))
    show zG C V56 ((3011 - 1) - 3010) ((6340 - 40) - 6300) 64 [(5, .int (zI (mz35))), (4, .ref hp33q), (3, .ref (md (70 + q.toNat))), (0, .ref (c 60)), (1, .int (zI (q))), (2, .int (zI (n)))] [.ref hp57z]
    exact zr_aret X rfl (Or.inl ⟨_, rfl⟩) ⟨hp57z, md, τ54, κ51, rfl, hp57m.le (by first | with_reducible assumption | decide | omega), fx59, Or.inr (Or.inr ⟨by omega, by omega, ⟨mz35, by omega, by omega, by omega, by omega, by rw [τ54e, τ47e, zdn_zw4 (by first | with_reducible assumption | decide | omega)]; rw [show zdn τ21 (4 * q.toNat) = τ21 (4 * q.toNat) from zdn_ne (by first | with_reducible assumption | decide | omega), show zdn τ21 (4 * q.toNat + 1) = τ21 (4 * q.toNat + 1) from zdn_ne (by first | with_reducible assumption | decide | omega), show zdn τ21 (4 * q.toNat + 3) = τ21 (4 * q.toNat + 3) from zdn_ne (by first | with_reducible assumption | decide | omega), τ21e]⟩⟩)⟩ dX8_read__64
