/-! the model: its calls -/
theorem zw4_h8 {τ : Nat → Int} {i : Nat} {a b d e : Int} {j : Nat} (h : 24 ≤ j) (hi : i < 6) : zw4 τ i a b d e j = τ j := by
  unfold zw4
  rw [if_neg (by first | with_reducible assumption | decide | omega), if_neg (by first | with_reducible assumption | decide | omega), if_neg (by first | with_reducible assumption | decide | omega), if_neg (by first | with_reducible assumption | decide | omega)]
theorem zWm.rg {Γ : zGam} {V : zV} {tag w : Nat} {en c l p m st mk : Int} (h : zWm Γ V tag w en c l p m st mk) : 0 ≤ st ∧ st + c ≤ en ∧ 0 ≤ p ∧ p ≤ l ∧ l ≤ c ∧ c ≤ 40 ∧ m ≤ p ∧ -9 ≤ m ∧ -1 ≤ mk := by
  obtain ⟨h1, h2, h3, h4, h5, h6, h7, h8, h9⟩ := h
  exact ⟨h2, h3, h4, h5, h6, h7, h9, by omega, by omega⟩
theorem zWm.mk {Γ : zGam} {V : zV} {tag w : Nat} {en c l p m st mk : Int} (h : zWm Γ V tag w en c l p m st mk) : (m = -9 ∧ mk = -1) ∨ (m = mk ∧ 0 ≤ mk) := h.2.2.2.2.2.2.2.1
theorem zdn_lo {τ : Nat → Int} {j : Nat} (h : j ≠ 30) : zdn τ j = τ j := zdn_ne h
theorem zrf_ne {τ : Nat → Int} {j : Nat} (h : j ≠ 31) : zrf τ j = τ j := by
  rw [← zrf_zf]
  exact zf_ne h
set_option maxRecDepth 100000 in
set_option maxHeartbeats 4000000 in
theorem m_X8_isThrown (l : Launch) (Γ : zGam) {V : zV} {c md : Nat → Nat} {τ κ : Nat → Int} {E : Int} {a b : Int} (hM : zMo Γ V c md τ κ E) (ha : a = 0 ∨ a = 1) (hb : b = 0 ∨ b = 1) : zM l Γ 0 yX8_isThrown wsX8_isThrown 0 0 V [.ref (c 60), .int (zI (a)), .int (zI (b))] (fun rv V' => (∃ x k : Int, rv = some (.int (zI x)) ∧ ((a = 1 ∧ k = 1 ∧ x = 1) ∨ (a = 0 ∧ b = 1 ∧ k = 2 ∧ x = 1) ∨ (a = 0 ∧ b = 0 ∧ k = 0 ∧ x = 0)) ∧ zMo Γ V' c md (zf τ 36 k) κ E) ∧ zag (fun x => x ≠ 60) V V') := by
  have w0 : Cond.fieldLink RX8 38 "SashwordsModel" "thrown" "I" ∈ wsX8_isThrown := by decide +kernel
  have iX8 : ∀ w ∈ u_ws RX8 TX8 11, w ∈ wsX8_isThrown := by decide +kernel
  refine zM_of (cc := cX8_isThrown) (nL := 3) (ret := (some .boolean)) (own := RX8) (by decide +kernel) rfl rfl (Nat.le_of_ble_eq_true rfl) (fun C X hi0 => ?_)
  have nn1 : (0 ≤ κ 0 ∧ κ 0 ≤ κ 1 ∧ κ 0 ≤ E ∧ κ 1 ≤ 7000) ∧ (0 ≤ τ 24 ∧ τ 24 ≤ 80 ∧ 0 ≤ τ 25 ∧ τ 25 ≤ 80) ∧ 1 ≤ τ 26 ∧ τ 26 ≤ 8 ∧ 0 ≤ τ 29 ∧ τ 29 ≤ τ 28 ∧ τ 28 ≤ 160 ∧ τ 27 ≤ τ 26 ∧ τ 27 = τ 28 - τ 29 := hM.n
  show zG C V 0 0 0 [(0, .ref (c 60)), (1, .int (zI (a))), (2, .int (zI (b)))] []
  refine zr_aload_n X 1 0 dX8_isThrown_0 rfl rfl ?_
  refine zr_iload_n X 2 1 dX8_isThrown_1 rfl rfl ?_
  refine zr_if_eq X 9 5 dX8_isThrown_2 rfl rfl (by first | with_reducible assumption | decide | omega) (fun bq2 => ?_) (fun bq2 => ?_)
  · refine zr_iload_n X 10 2 dX8_isThrown_9 rfl rfl ?_
    refine zr_if_eq X 17 13 dX8_isThrown_10 rfl rfl (by first | with_reducible assumption | decide | omega) (fun bq3 => ?_) (fun bq3 => ?_)
    · refine zr_iconst X 18 dX8_isThrown_17 rfl ?_
      have c84 : V (c 60) = some (60, .inr (9, [.ref (md 61), .int (zI (κ 0)), .ref (c 62), .ref (md 63), .ref (md 64), .ref (c 65), .int (zI (τ 26)), .int (zI (τ 28)), .int (zI (τ 29)), .ref (c 66), .int (zI (τ 36))])) := hM.1
      refine zr_put X 21 9 10 [.ref (md 61), .int (zI (κ 0)), .ref (c 62), .ref (md 63), .ref (md 64), .ref (c 65), .int (zI (τ 26)), .int (zI (τ 28)), .int (zI (τ 29)), .ref (c 66), .int (zI (0))] tyX8 c84 rfl iX8 tyX8_ok nmX8 (by decide) w0 rfl rfl rfl rfl (Nat.le_of_ble_eq_true rfl) rfl dX8_isThrown_18 rfl ?_
      have th5 := hM.setM (τ 26) (τ 28) (τ 29) (0) (by first | with_reducible assumption | decide | omega)
      rw [zmf_36 (by first | with_reducible assumption | decide | omega)] at th5
      obtain ⟨cm6h, cm6f⟩ := th5
      obtain ⟨cm6V, cm6e⟩ : ∃ zz9 : zV, zz9 = (zu V (c 60) 60 (.inr (9, [.ref (md 61), .int (zI (κ 0)), .ref (c 62), .ref (md 63), .ref (md 64), .ref (c 65), .int (zI (τ 26)), .int (zI (τ 28)), .int (zI (τ 29)), .ref (c 66), .int (zI (0))]))) := ⟨_, rfl⟩
      have cm6m : zMo Γ cm6V c md (zf τ 36 (0)) κ E := by
        rw [cm6e]
        exact cm6h
      have cm6g : zag (fun x => x ≠ 60) V cm6V := by
        rw [cm6e]
        exact cm6f
      refine zr_view (cm6e).symm ?_
      have fx7 : zfm V cm6V := (cm6g.mono (fun t ht => by omega))
      obtain ⟨τ8, τ8e⟩ : ∃ zz9 : Nat → Int, zz9 = zf τ 36 (0) := ⟨_, rfl⟩
      rw [← τ8e] at cm6m
      have τ8_24 : τ8 24 = τ 24 := by rw [τ8e]; exact rfl
      have τ8_25 : τ8 25 = τ 25 := by rw [τ8e]; exact rfl
      have τ8_26 : τ8 26 = τ 26 := by rw [τ8e]; exact rfl
      have τ8_27 : τ8 27 = τ 27 := by rw [τ8e]; exact rfl
      have τ8_28 : τ8 28 = τ 28 := by rw [τ8e]; exact rfl
      have τ8_29 : τ8 29 = τ 29 := by rw [τ8e]; exact rfl
      have τ8_30 : τ8 30 = τ 30 := by rw [τ8e]; exact rfl
      have τ8_31 : τ8 31 = τ 31 := by rw [τ8e]; exact rfl
      have τ8_32 : τ8 32 = τ 32 := by rw [τ8e]; exact rfl
      have τ8_33 : τ8 33 = τ 33 := by rw [τ8e]; exact rfl
      have τ8_36 : τ8 36 = 0 := by rw [τ8e]; exact rfl
      show zG C cm6V 0 0 21 [(0, .ref (c 60)), (1, .int (zI (a))), (2, .int (zI (b)))] []
      refine zr_aload_n X 22 0 dX8_isThrown_21 rfl rfl ?_
      have c89 : cm6V (c 60) = some (60, .inr (9, [.ref (md 61), .int (zI (κ 0)), .ref (c 62), .ref (md 63), .ref (md 64), .ref (c 65), .int (zI (τ8 26)), .int (zI (τ8 28)), .int (zI (τ8 29)), .ref (c 66), .int (zI (τ8 36))])) := cm6m.1
      refine zr_get X 25 9 10 c89 rfl iX8 (by decide) w0 rfl rfl dX8_isThrown_22 rfl ?_
      refine zr_if_le X 32 28 dX8_isThrown_25 rfl rfl (by first | with_reducible assumption | decide | omega) (fun bq10 => ?_) (fun bq10 => ?_)
      · refine zr_iconst X 33 dX8_isThrown_32 rfl ?_
        exact zr_zret X rfl rfl ⟨⟨0, 0, rfl, by omega, by rw [← τ8e]; exact cm6m⟩, cm6g⟩ dX8_isThrown_33
      · refine zr_iconst X 29 dX8_isThrown_28 rfl ?_
        refine zr_goto X 33 dX8_isThrown_29 rfl ?_
        exact zr_zret X rfl rfl ⟨⟨1, 0, rfl, by omega, by rw [← τ8e]; exact cm6m⟩, cm6g⟩ dX8_isThrown_33
    · refine zr_iconst X 14 dX8_isThrown_13 rfl ?_
      refine zr_goto X 18 dX8_isThrown_14 rfl ?_
      have c811 : V (c 60) = some (60, .inr (9, [.ref (md 61), .int (zI (κ 0)), .ref (c 62), .ref (md 63), .ref (md 64), .ref (c 65), .int (zI (τ 26)), .int (zI (τ 28)), .int (zI (τ 29)), .ref (c 66), .int (zI (τ 36))])) := hM.1
      refine zr_put X 21 9 10 [.ref (md 61), .int (zI (κ 0)), .ref (c 62), .ref (md 63), .ref (md 64), .ref (c 65), .int (zI (τ 26)), .int (zI (τ 28)), .int (zI (τ 29)), .ref (c 66), .int (zI (2))] tyX8 c811 rfl iX8 tyX8_ok nmX8 (by decide) w0 rfl rfl rfl rfl (Nat.le_of_ble_eq_true rfl) rfl dX8_isThrown_18 rfl ?_
      have th12 := hM.setM (τ 26) (τ 28) (τ 29) (2) (by first | with_reducible assumption | decide | omega)
      rw [zmf_36 (by first | with_reducible assumption | decide | omega)] at th12
      obtain ⟨cm13h, cm13f⟩ := th12
      obtain ⟨cm13V, cm13e⟩ : ∃ zz9 : zV, zz9 = (zu V (c 60) 60 (.inr (9, [.ref (md 61), .int (zI (κ 0)), .ref (c 62), .ref (md 63), .ref (md 64), .ref (c 65), .int (zI (τ 26)), .int (zI (τ 28)), .int (zI (τ 29)), .ref (c 66), .int (zI (2))]))) := ⟨_, rfl⟩
      have cm13m : zMo Γ cm13V c md (zf τ 36 (2)) κ E := by
        rw [cm13e]
        exact cm13h
      have cm13g : zag (fun x => x ≠ 60) V cm13V := by
        rw [cm13e]
        exact cm13f
      refine zr_view (cm13e).symm ?_
      have fx14 : zfm V cm13V := (cm13g.mono (fun t ht => by omega))
      obtain ⟨τ15, τ15e⟩ : ∃ zz9 : Nat → Int, zz9 = zf τ 36 (2) := ⟨_, rfl⟩
      rw [← τ15e] at cm13m
      have τ15_24 : τ15 24 = τ 24 := by rw [τ15e]; exact rfl
      have τ15_25 : τ15 25 = τ 25 := by rw [τ15e]; exact rfl
      have τ15_26 : τ15 26 = τ 26 := by rw [τ15e]; exact rfl
      have τ15_27 : τ15 27 = τ 27 := by rw [τ15e]; exact rfl
      have τ15_28 : τ15 28 = τ 28 := by rw [τ15e]; exact rfl
      have τ15_29 : τ15 29 = τ 29 := by rw [τ15e]; exact rfl
      have τ15_30 : τ15 30 = τ 30 := by rw [τ15e]; exact rfl
      have τ15_31 : τ15 31 = τ 31 := by rw [τ15e]; exact rfl
      have τ15_32 : τ15 32 = τ 32 := by rw [τ15e]; exact rfl
      have τ15_33 : τ15 33 = τ 33 := by rw [τ15e]; exact rfl
      have τ15_36 : τ15 36 = 2 := by rw [τ15e]; exact rfl
      show zG C cm13V 0 0 21 [(0, .ref (c 60)), (1, .int (zI (a))), (2, .int (zI (b)))] []
      refine zr_aload_n X 22 0 dX8_isThrown_21 rfl rfl ?_
      have c816 : cm13V (c 60) = some (60, .inr (9, [.ref (md 61), .int (zI (κ 0)), .ref (c 62), .ref (md 63), .ref (md 64), .ref (c 65), .int (zI (τ15 26)), .int (zI (τ15 28)), .int (zI (τ15 29)), .ref (c 66), .int (zI (τ15 36))])) := cm13m.1
      refine zr_get X 25 9 10 c816 rfl iX8 (by decide) w0 rfl rfl dX8_isThrown_22 rfl ?_
      refine zr_if_le X 32 28 dX8_isThrown_25 rfl rfl (by first | with_reducible assumption | decide | omega) (fun bq17 => ?_) (fun bq17 => ?_)
      · refine zr_iconst X 33 dX8_isThrown_32 rfl ?_
        exact zr_zret X rfl rfl ⟨⟨0, 2, rfl, by omega, by rw [← τ15e]; exact cm13m⟩, cm13g⟩ dX8_isThrown_33
      · refine zr_iconst X 29 dX8_isThrown_28 rfl ?_
        refine zr_goto X 33 dX8_isThrown_29 rfl ?_
        exact zr_zret X rfl rfl ⟨⟨1, 2, rfl, by omega, by rw [← τ15e]; exact cm13m⟩, cm13g⟩ dX8_isThrown_33
  · refine zr_iconst X 6 dX8_isThrown_5 rfl ?_
    refine zr_goto X 18 dX8_isThrown_6 rfl ?_
    have c818 : V (c 60) = some (60, .inr (9, [.ref (md 61), .int (zI (κ 0)), .ref (c 62), .ref (md 63), .ref (md 64), .ref (c 65), .int (zI (τ 26)), .int (zI (τ 28)), .int (zI (τ 29)), .ref (c 66), .int (zI (τ 36))])) := hM.1
    refine zr_put X 21 9 10 [.ref (md 61), .int (zI (κ 0)), .ref (c 62), .ref (md 63), .ref (md 64), .ref (c 65), .int (zI (τ 26)), .int (zI (τ 28)), .int (zI (τ 29)), .ref (c 66), .int (zI (1))] tyX8 c818 rfl iX8 tyX8_ok nmX8 (by decide) w0 rfl rfl rfl rfl (Nat.le_of_ble_eq_true rfl) rfl dX8_isThrown_18 rfl ?_
    have th19 := hM.setM (τ 26) (τ 28) (τ 29) (1) (by first | with_reducible assumption | decide | omega)
    rw [zmf_36 (by first | with_reducible assumption | decide | omega)] at th19
    obtain ⟨cm20h, cm20f⟩ := th19
    obtain ⟨cm20V, cm20e⟩ : ∃ zz9 : zV, zz9 = (zu V (c 60) 60 (.inr (9, [.ref (md 61), .int (zI (κ 0)), .ref (c 62), .ref (md 63), .ref (md 64), .ref (c 65), .int (zI (τ 26)), .int (zI (τ 28)), .int (zI (τ 29)), .ref (c 66), .int (zI (1))]))) := ⟨_, rfl⟩
    have cm20m : zMo Γ cm20V c md (zf τ 36 (1)) κ E := by
      rw [cm20e]
      exact cm20h
    have cm20g : zag (fun x => x ≠ 60) V cm20V := by
      rw [cm20e]
      exact cm20f
    refine zr_view (cm20e).symm ?_
    have fx21 : zfm V cm20V := (cm20g.mono (fun t ht => by omega))
    obtain ⟨τ22, τ22e⟩ : ∃ zz9 : Nat → Int, zz9 = zf τ 36 (1) := ⟨_, rfl⟩
    rw [← τ22e] at cm20m
    have τ22_24 : τ22 24 = τ 24 := by rw [τ22e]; exact rfl
    have τ22_25 : τ22 25 = τ 25 := by rw [τ22e]; exact rfl
    have τ22_26 : τ22 26 = τ 26 := by rw [τ22e]; exact rfl
    have τ22_27 : τ22 27 = τ 27 := by rw [τ22e]; exact rfl
    have τ22_28 : τ22 28 = τ 28 := by rw [τ22e]; exact rfl
    have τ22_29 : τ22 29 = τ 29 := by rw [τ22e]; exact rfl
    have τ22_30 : τ22 30 = τ 30 := by rw [τ22e]; exact rfl
    have τ22_31 : τ22 31 = τ 31 := by rw [τ22e]; exact rfl
    have τ22_32 : τ22 32 = τ 32 := by rw [τ22e]; exact rfl
    have τ22_33 : τ22 33 = τ 33 := by rw [τ22e]; exact rfl
    have τ22_36 : τ22 36 = 1 := by rw [τ22e]; exact rfl
    show zG C cm20V 0 0 21 [(0, .ref (c 60)), (1, .int (zI (a))), (2, .int (zI (b)))] []
    refine zr_aload_n X 22 0 dX8_isThrown_21 rfl rfl ?_
    have c823 : cm20V (c 60) = some (60, .inr (9, [.ref (md 61), .int (zI (κ 0)), .ref (c 62), .ref (md 63), .ref (md 64), .ref (c 65), .int (zI (τ22 26)), .int (zI (τ22 28)), .int (zI (τ22 29)), .ref (c 66), .int (zI (τ22 36))])) := cm20m.1
    refine zr_get X 25 9 10 c823 rfl iX8 (by decide) w0 rfl rfl dX8_isThrown_22 rfl ?_
    refine zr_if_le X 32 28 dX8_isThrown_25 rfl rfl (by first | with_reducible assumption | decide | omega) (fun bq24 => ?_) (fun bq24 => ?_)
    · refine zr_iconst X 33 dX8_isThrown_32 rfl ?_
      exact zr_zret X rfl rfl ⟨⟨0, 1, rfl, by omega, by rw [← τ22e]; exact cm20m⟩, cm20g⟩ dX8_isThrown_33
    · refine zr_iconst X 29 dX8_isThrown_28 rfl ?_
      refine zr_goto X 33 dX8_isThrown_29 rfl ?_
      exact zr_zret X rfl rfl ⟨⟨1, 1, rfl, by omega, by rw [← τ22e]; exact cm20m⟩, cm20g⟩ dX8_isThrown_33
set_option maxRecDepth 100000 in
set_option maxHeartbeats 4000000 in
theorem m_X8_done (l : Launch) (Γ : zGam) {V : zV} {c md : Nat → Nat} {τ κ : Nat → Int} {E : Int} {y : Int32} (hM : zMo Γ V c md τ κ E) : zM l Γ 0 yX8_done wsX8_done 0 0 V [.ref (c 60), .int (y)] (fun rv V' => rv = some (.int y) ∧ zMo Γ V' c md (zdn τ) κ E ∧ zag (fun x => x ≠ 66) V V') := by
  have w0 : Cond.fieldLink RX8 31 "SashwordsModel" "tallies" "[I" ∈ wsX8_done := by decide +kernel
  have iX8 : ∀ w ∈ u_ws RX8 TX8 11, w ∈ wsX8_done := by decide +kernel
  refine zM_of (cc := cX8_done) (nL := 2) (ret := (some .int)) (own := RX8) (by decide +kernel) rfl rfl (Nat.le_of_ble_eq_true rfl) (fun C X hi0 => ?_)
  have nn1 : 0 ≤ κ 0 ∧ κ 0 ≤ κ 1 ∧ κ 0 ≤ E ∧ κ 1 ≤ 7000 := hM.n.1
  show zG C V 0 0 0 [(0, .ref (c 60)), (1, .int (y))] []
  refine zr_aload_n X 1 0 dX8_done_0 rfl rfl ?_
  have c82 : V (c 60) = some (60, .inr (9, [.ref (md 61), .int (zI (κ 0)), .ref (c 62), .ref (md 63), .ref (md 64), .ref (c 65), .int (zI (τ 26)), .int (zI (τ 28)), .int (zI (τ 29)), .ref (c 66), .int (zI (τ 36))])) := hM.1
  refine zr_get X 4 9 9 c82 rfl iX8 (by decide) w0 rfl rfl dX8_done_1 rfl ?_
  refine zr_iconst X 5 dX8_done_4 rfl ?_
  refine zr_dup2 X 6 dX8_done_5 rfl rfl rfl ?_
  obtain ⟨c83f, c83, c830, c831, c832, c833⟩ := hM.2.2.2.2.2.2.2.1
  refine zr_iald X 7 c83 (by first | with_reducible assumption | decide | omega) dX8_done_6 rfl ?_
  show zG C V 0 0 7 [(0, .ref (c 60)), (1, .int (y))] [.int (zI (c83f (0 : Int).toNat)), .int (zI (0)), .ref (c 66)]
  refine zr_iconst X 8 dX8_done_7 rfl ?_
  refine zr_iadd X 9 dX8_done_8 rfl ?_
  refine zr_iast X 10 c83 (by first | with_reducible assumption | decide | omega) dX8_done_9 rfl ?_
  have c83x : c83f (0 : Int).toNat + 1 = τ 30 + 1 := by
    show c83f 0 + 1 = τ 30 + 1
    rw [c830]
  have c83y := hM.setTal c83 ⟨c830, c831, c832, c833⟩ 0 (by decide) (c83f (0 : Int).toNat + 1)
  rw [show zf τ (30 + 0) (c83f (0 : Int).toNat + 1) = zf τ (30 + 0) (τ 30 + 1) by rw [c83x]] at c83y
  rw [zdn_zf] at c83y
  obtain ⟨cm4h, cm4f⟩ := c83y
  obtain ⟨cm4V, cm4e⟩ : ∃ zz9 : zV, zz9 = (zu V (c 66) 66 (za Γ.2.1 0 4 (zf c83f (0 : Int).toNat ((c83f (0 : Int).toNat) + 1)))) := ⟨_, rfl⟩
  have cm4m : zMo Γ cm4V c md (zdn τ) κ E := by
    rw [cm4e]
    exact cm4h
  have cm4g : zag (fun x => x ≠ 66) V cm4V := by
    rw [cm4e]
    exact cm4f
  refine zr_view (cm4e).symm ?_
  have fx5 : zfm V cm4V := (cm4g.mono (fun t ht => by omega))
  obtain ⟨τ6, τ6e⟩ : ∃ zz9 : Nat → Int, zz9 = zdn τ := ⟨_, rfl⟩
  rw [← τ6e] at cm4m
  show zG C cm4V 0 0 10 [(0, .ref (c 60)), (1, .int (y))] []
  refine zr_iload_n X 11 1 dX8_done_10 rfl rfl ?_
  exact zr_iret X rfl ⟨rfl, by rw [← τ6e]; exact cm4m, cm4g⟩ dX8_done_11
set_option maxRecDepth 100000 in
set_option maxHeartbeats 4000000 in
theorem m_X8_refused (l : Launch) (Γ : zGam) {V : zV} {c md : Nat → Nat} {τ κ : Nat → Int} {E : Int} (hM : zMo Γ V c md τ κ E) : zM l Γ 0 yX8_refused wsX8_refused 0 0 V [.ref (c 60)] (fun rv V' => rv = some (.int (zI (-9))) ∧ zMo Γ V' c md (zrf τ) κ E ∧ zag (fun x => x ≠ 66) V V') := by
  have w0 : Cond.fieldLink RX8 31 "SashwordsModel" "tallies" "[I" ∈ wsX8_refused := by decide +kernel
  have iX8 : ∀ w ∈ u_ws RX8 TX8 11, w ∈ wsX8_refused := by decide +kernel
  refine zM_of (cc := cX8_refused) (nL := 1) (ret := (some .int)) (own := RX8) (by decide +kernel) rfl rfl (Nat.le_of_ble_eq_true rfl) (fun C X hi0 => ?_)
  have nn1 : 0 ≤ κ 0 ∧ κ 0 ≤ κ 1 ∧ κ 0 ≤ E ∧ κ 1 ≤ 7000 := hM.n.1
  show zG C V 0 0 0 [(0, .ref (c 60))] []
  refine zr_aload_n X 1 0 dX8_refused_0 rfl rfl ?_
  have c82 : V (c 60) = some (60, .inr (9, [.ref (md 61), .int (zI (κ 0)), .ref (c 62), .ref (md 63), .ref (md 64), .ref (c 65), .int (zI (τ 26)), .int (zI (τ 28)), .int (zI (τ 29)), .ref (c 66), .int (zI (τ 36))])) := hM.1
  refine zr_get X 4 9 9 c82 rfl iX8 (by decide) w0 rfl rfl dX8_refused_1 rfl ?_
  refine zr_iconst X 5 dX8_refused_4 rfl ?_
  refine zr_dup2 X 6 dX8_refused_5 rfl rfl rfl ?_
  obtain ⟨c83f, c83, c830, c831, c832, c833⟩ := hM.2.2.2.2.2.2.2.1
  refine zr_iald X 7 c83 (by first | with_reducible assumption | decide | omega) dX8_refused_6 rfl ?_
  show zG C V 0 0 7 [(0, .ref (c 60))] [.int (zI (c83f (1 : Int).toNat)), .int (zI (1)), .ref (c 66)]
  refine zr_iconst X 8 dX8_refused_7 rfl ?_
  refine zr_iadd X 9 dX8_refused_8 rfl ?_
  refine zr_iast X 10 c83 (by first | with_reducible assumption | decide | omega) dX8_refused_9 rfl ?_
  have c83x : c83f (1 : Int).toNat + 1 = τ 31 + 1 := by
    show c83f 1 + 1 = τ 31 + 1
    rw [c831]
  have c83y := hM.setTal c83 ⟨c830, c831, c832, c833⟩ 1 (by decide) (c83f (1 : Int).toNat + 1)
  rw [show zf τ (30 + 1) (c83f (1 : Int).toNat + 1) = zf τ (30 + 1) (τ 31 + 1) by rw [c83x]] at c83y
  rw [zrf_zf] at c83y
  obtain ⟨cm4h, cm4f⟩ := c83y
  obtain ⟨cm4V, cm4e⟩ : ∃ zz9 : zV, zz9 = (zu V (c 66) 66 (za Γ.2.1 0 4 (zf c83f (1 : Int).toNat ((c83f (1 : Int).toNat) + 1)))) := ⟨_, rfl⟩
  have cm4m : zMo Γ cm4V c md (zrf τ) κ E := by
    rw [cm4e]
    exact cm4h
  have cm4g : zag (fun x => x ≠ 66) V cm4V := by
    rw [cm4e]
    exact cm4f
  refine zr_view (cm4e).symm ?_
  have fx5 : zfm V cm4V := (cm4g.mono (fun t ht => by omega))
  obtain ⟨τ6, τ6e⟩ : ∃ zz9 : Nat → Int, zz9 = zrf τ := ⟨_, rfl⟩
  rw [← τ6e] at cm4m
  show zG C cm4V 0 0 10 [(0, .ref (c 60))] []
  refine zr_bipush X 12 (-9) dX8_refused_10 rfl (by decide) ?_
  exact zr_iret X rfl ⟨rfl, by rw [← τ6e]; exact cm4m, cm4g⟩ dX8_refused_12
set_option maxRecDepth 100000 in
set_option maxHeartbeats 4000000 in
theorem m_X8_text (l : Launch) (Γ : zGam) {V : zV} {c md : Nat → Nat} {τ κ : Nat → Int} {E : Int} {i : Int} {tg : Nat} (hM : zMo Γ V c md τ κ E) (hi : 0 ≤ i ∧ i < 6) : zM l Γ 1 yX8_text wsX8_text 1 40 V [.ref (c 60), .ref (md (70 + i.toNat))] (fun rv V' => ∃ (q : Nat) (f' : Nat → Int), rv = some (.ref q) ∧ V' q = some (tg, za Γ.2.1 0 (τ (4 * i.toNat + 1) - τ (4 * i.toNat + 2)).toNat f') ∧ zc f' ∧ zag zal V V') := by
  have w0 : Cond.arrayClass .int ∈ wsX8_text := by decide +kernel
  have w1 : Cond.fieldLink RX8 7 "SashwordsModel" "tape" "[I" ∈ wsX8_text := by decide +kernel
  have iX8 : ∀ w ∈ u_ws RX8 TX8 11, w ∈ wsX8_text := by decide +kernel
  refine zM_of (cc := cX8_text) (nL := 4) (ret := (some (.array .int))) (own := RX8) (by decide +kernel) rfl rfl (Nat.le_of_ble_eq_true rfl) (fun C X hi0 => ?_)
  have nn1 : 0 ≤ κ 0 ∧ κ 0 ≤ κ 1 ∧ κ 0 ≤ E ∧ κ 1 ≤ 7000 := hM.n.1
  have c82 : V (c 60) = some (60, .inr (9, [.ref (md 61), .int (zI (κ 0)), .ref (c 62), .ref (md 63), .ref (md 64), .ref (c 65), .int (zI (τ 26)), .int (zI (τ 28)), .int (zI (τ 29)), .ref (c 66), .int (zI (τ 36))])) := hM.1
  obtain ⟨c83f, c83, c83c⟩ := hM.2.1
  have hw5 := hM.w (i := i.toNat) (by first | with_reducible assumption | decide | omega)
  have hw5r := hw5.rg
  show zG C V 1 40 0 [(0, .ref (c 60)), (1, .ref (md (70 + i.toNat)))] []
  refine zr_aload_n X 1 1 dX8_text_0 rfl rfl ?_
  refine zr_callS (kc' := 1) (ks' := 40) X 4 1 (m_X8_length l Γ hw5.1 (by first | with_reducible assumption | decide | omega)) gX8_text_X8_length rfl (by decide +kernel) rfl (by decide) rfl (Nat.le_of_ble_eq_true rfl) dX8_text_1 rfl (by first | with_reducible assumption | decide | omega) (by first | with_reducible assumption | decide | omega) (fun rv6 V7 hp8 => ?_)
  rw [hp8.1, hp8.2]
  show zG C V 1 40 4 [(0, .ref (c 60)), (1, .ref (md (70 + i.toNat)))] [.int (zI ((τ (4 * i.toNat + 1)) - (τ (4 * i.toNat + 2))))]
  refine zr_newai (kc' := (1 - 1)) (ks' := (40 - ((τ (4 * i.toNat + 1)) - (τ (4 * i.toNat + 2))).toNat)) X 6 tg w0 (by first | with_reducible assumption | decide | omega) dX8_text_4 rfl (by first | with_reducible assumption | decide | omega) (by first | with_reducible assumption | decide | omega) (fun q9 hq10 => ?_)
  refine zr_astore_n X 7 [(2, .ref q9), (0, .ref (c 60)), (1, .ref (md (70 + i.toNat)))] dX8_text_6 rfl (by decide) rfl ?_
  refine zr_iconst X 8 dX8_text_7 rfl ?_
  refine zr_istore_n X 9 [(3, .int (zI (0))), (2, .ref q9), (0, .ref (c 60)), (1, .ref (md (70 + i.toNat)))] dX8_text_8 rfl (by decide) rfl ?_
  refine zr_sub [0, 1, 3, 2] [(3, .int (zI (0))), (2, .ref q9), (1, .ref (md (70 + i.toNat))), (0, .ref (c 60))] rfl ?_
  have loop : ∀ (N : Nat) (f1 : Nat → Int) (k : Int), zc f1 ∧ 0 ≤ k ∧ k ≤ τ (4 * i.toNat + 1) - τ (4 * i.toNat + 2) → (τ (4 * i.toNat + 1) - τ (4 * i.toNat + 2) - k).toNat = N → zG C (zu V q9 tg (za Γ.2.1 0 (τ (4 * i.toNat + 1) - τ (4 * i.toNat + 2)).toNat f1)) (1 - 1) (40 - ((τ (4 * i.toNat + 1)) - (τ (4 * i.toNat + 2))).toNat) 9 [(3, .int (zI (k))), (2, .ref q9), (1, .ref (md (70 + i.toNat))), (0, .ref (c 60))] [] := by
    intro N
    induction N using Nat.strongRecOn with
    | _ N ih =>
    intro f1 k hI hN
    obtain ⟨hI1, hI2, hI3⟩ := id hI
    refine zr_iload_n X 10 0 dX8_text_9 rfl rfl ?_
    refine zr_aload_n X 11 1 dX8_text_10 rfl rfl ?_
    refine zr_alen X 12 0 (zu_eq _ _ _ _) (by decide) dX8_text_11 rfl ?_
    refine zr_icmp_ge X 38 15 dX8_text_12 rfl rfl (by first | with_reducible assumption | decide | omega) (by first | with_reducible assumption | decide | omega) (fun bq11 => ?_) (fun bq11 => ?_)
    · refine zr_aload_n X 39 1 dX8_text_38 rfl rfl ?_
      exact zr_aret X rfl (Or.inr ⟨_, rfl⟩) ⟨q9, f1, rfl, zu_eq _ _ _ _, hI1, zag.rf.new hq10⟩ dX8_text_39
    · refine zr_aload_n X 16 1 dX8_text_15 rfl rfl ?_
      refine zr_iload_n X 17 0 dX8_text_16 rfl rfl ?_
      refine zr_aload_n X 18 3 dX8_text_17 rfl rfl ?_
      refine zr_get X 21 9 0 ((zu_ne (zne_new c82 hq10)).trans c82) rfl iX8 (by decide) w1 rfl rfl dX8_text_18 rfl ?_
      refine zr_aload_n X 22 2 dX8_text_21 rfl rfl ?_
      refine zr_iconst X 23 dX8_text_22 rfl ?_
      refine zr_iald X 24 ((zu_ne (zne_new hw5.1 hq10)).trans hw5.1) (by first | with_reducible assumption | decide | omega) dX8_text_23 rfl ?_
      show zG C (zu V q9 tg (za Γ.2.1 0 (τ (4 * i.toNat + 1) - τ (4 * i.toNat + 2)).toNat f1)) (1 - 1) (40 - ((τ (4 * i.toNat + 1)) - (τ (4 * i.toNat + 2))).toNat) 24 [(3, .int (zI (k))), (2, .ref q9), (1, .ref (md (70 + i.toNat))), (0, .ref (c 60))] [.int (zI (κ (10 + i.toNat))), .ref (md 61), .int (zI (k)), .ref q9]
      refine zr_aload_n X 25 2 dX8_text_24 rfl rfl ?_
      refine zr_iconst X 26 dX8_text_25 rfl ?_
      refine zr_iald X 27 ((zu_ne (zne_new hw5.1 hq10)).trans hw5.1) (by first | with_reducible assumption | decide | omega) dX8_text_26 rfl ?_
      show zG C (zu V q9 tg (za Γ.2.1 0 (τ (4 * i.toNat + 1) - τ (4 * i.toNat + 2)).toNat f1)) (1 - 1) (40 - ((τ (4 * i.toNat + 1)) - (τ (4 * i.toNat + 2))).toNat) 27 [(3, .int (zI (k))), (2, .ref q9), (1, .ref (md (70 + i.toNat))), (0, .ref (c 60))] [.int (zI (τ (4 * i.toNat + 2))), .int (zI (κ (10 + i.toNat))), .ref (md 61), .int (zI (k)), .ref q9]
      refine zr_iadd X 28 dX8_text_27 rfl ?_
      refine zr_iload_n X 29 0 dX8_text_28 rfl rfl ?_
      refine zr_iadd X 30 dX8_text_29 rfl ?_
      refine zr_iald X 31 ((zu_ne (zne_new c83 hq10)).trans c83) (by first | with_reducible assumption | decide | omega) dX8_text_30 rfl ?_
      have zb12 := zc.b c83c (((κ (10 + i.toNat)) + (τ (4 * i.toNat + 2))) + k).toNat
      refine zr_iast X 32 (zu_eq _ _ _ _) (by first | with_reducible assumption | decide | omega) dX8_text_31 rfl ?_
      refine zr_view (zu_zu _ _ _ _ _ _) ?_
      refine zr_iinc X 35 0 [(3, .int (zI (k + 1))), (2, .ref q9), (1, .ref (md (70 + i.toNat))), (0, .ref (c 60))] dX8_text_32 rfl rfl (by decide) rfl ?_
      refine zr_goto X 9 dX8_text_35 rfl ?_
      exact ih _ (by first | with_reducible assumption | decide | omega) (zf f1 (k).toNat (c83f (((κ (10 + i.toNat)) + (τ (4 * i.toNat + 2))) + k).toNat)) (k + 1) ⟨zc_zf hI1 (by first | with_reducible assumption | decide | omega), by omega, by omega⟩ rfl
  exact loop _ (fun _ => 0) 0 ⟨z0c, by omega, by omega⟩ rfl
set_option maxRecDepth 100000 in
set_option maxHeartbeats 4000000 in
theorem m_X8_textOf (l : Launch) (Γ : zGam) {V : zV} {c md : Nat → Nat} {τ κ : Nat → Int} {E : Int} {q : Int} {tg : Nat} (hM : zMo Γ V c md τ κ E) (hq : 0 ≤ q ∧ q ≤ 7) : zM l Γ 2 yX8_textOf wsX8_textOf 1 40 V [.ref (c 60), .int (zI (q))] (fun rv V' => ∃ (r tr : Nat) (f' : Nat → Int), rv = some (.ref r) ∧ V' r = some (tr, za Γ.2.1 0 (zsz τ q).toNat f') ∧ zc f' ∧ (tr = 63 ∨ tr = 64 ∨ tr = tg) ∧ 0 ≤ zsz τ q ∧ zsz τ q ≤ 80 ∧ zag zal V V') := by
  have w0 : Cond.fieldLink RX8 14 "SashwordsModel" "windows" "[[I" ∈ wsX8_textOf := by decide +kernel
  have iX8 : ∀ w ∈ u_ws RX8 TX8 11, w ∈ wsX8_textOf := by decide +kernel
  have w2 : Cond.fieldLink RX8 21 "SashwordsModel" "kept" "[I" ∈ wsX8_textOf := by decide +kernel
  have w3 : Cond.fieldLink RX8 18 "SashwordsModel" "built" "[I" ∈ wsX8_textOf := by decide +kernel
  refine zM_of (cc := cX8_textOf) (nL := 2) (ret := (some (.array .int))) (own := RX8) (by decide +kernel) rfl rfl (Nat.le_of_ble_eq_true rfl) (fun C X hi0 => ?_)
  have nn1 : (0 ≤ κ 0 ∧ κ 0 ≤ κ 1 ∧ κ 0 ≤ E ∧ κ 1 ≤ 7000) ∧ (0 ≤ τ 24 ∧ τ 24 ≤ 80 ∧ 0 ≤ τ 25 ∧ τ 25 ≤ 80) ∧ 1 ≤ τ 26 ∧ τ 26 ≤ 8 ∧ 0 ≤ τ 29 ∧ τ 29 ≤ τ 28 ∧ τ 28 ≤ 160 ∧ τ 27 ≤ τ 26 ∧ τ 27 = τ 28 - τ 29 := hM.n
  show zG C V 1 40 0 [(0, .ref (c 60)), (1, .int (zI (q)))] []
  refine zr_iload_n X 1 1 dX8_textOf_0 rfl rfl ?_
  refine zr_bipush X 3 (6) dX8_textOf_1 rfl (by decide) ?_
  refine zr_icmp_ne X 13 6 dX8_textOf_3 rfl rfl (by first | with_reducible assumption | decide | omega) (by first | with_reducible assumption | decide | omega) (fun bq2 => ?_) (fun bq2 => ?_)
  · refine zr_iload_n X 14 1 dX8_textOf_13 rfl rfl ?_
    refine zr_bipush X 16 (7) dX8_textOf_14 rfl (by decide) ?_
    refine zr_icmp_ne X 26 19 dX8_textOf_16 rfl rfl (by first | with_reducible assumption | decide | omega) (by first | with_reducible assumption | decide | omega) (fun bq3 => ?_) (fun bq3 => ?_)
    · refine zr_aload_n X 27 0 dX8_textOf_26 rfl rfl ?_
      refine zr_aload_n X 28 0 dX8_textOf_27 rfl rfl ?_
      have c84 : V (c 60) = some (60, .inr (9, [.ref (md 61), .int (zI (κ 0)), .ref (c 62), .ref (md 63), .ref (md 64), .ref (c 65), .int (zI (τ 26)), .int (zI (τ 28)), .int (zI (τ 29)), .ref (c 66), .int (zI (τ 36))])) := hM.1
      refine zr_get X 31 9 2 c84 rfl iX8 (by decide) w0 rfl rfl dX8_textOf_28 rfl ?_
      refine zr_iload_n X 32 1 dX8_textOf_31 rfl rfl ?_
      have c85 : V (c 62) = some (62, zq Γ.2.1 4 6 (fun i => some (md (70 + i)))) := hM.2.2.1
      refine zr_aaldI X 33 (.ref (md (70 + q.toNat))) c85 (by first | with_reducible assumption | decide | omega) rfl dX8_textOf_32 rfl ?_
      have hw7 := hM.w (i := q.toNat) (by first | with_reducible assumption | decide | omega)
      have hw7r := hw7.rg
      refine zr_callVe (kc' := (1 - 1)) (ks' := (40 - 40)) X 36 1 (m_X8_text l Γ (tg := tg) (i := q) hM (by first | with_reducible assumption | decide | omega)) gX8_textOf_X8_text rfl (by decide +kernel) rfl (by decide) ⟨_, _, hM.1⟩ rfl rfl (Nat.le_of_ble_eq_true rfl) dX8_textOf_33 rfl (by first | with_reducible assumption | decide | omega) (by first | with_reducible assumption | decide | omega) (fun rv8 V9 hp10 => ?_)
      obtain ⟨hp10q, hp10f, hp10e, hp10h, hp10c, hp10g⟩ := hp10
      rw [hp10e]
      have hp10m := hM.kept hp10g (fun _ _ _ => trivial)
      have fx11 : zfm V V9 := (hp10g.mono (fun _ _ => trivial))
      show zG C V9 (1 - 1) (40 - 40) 36 [(0, .ref (c 60)), (1, .int (zI (q)))] [.ref hp10q]
      exact zr_aret X rfl (Or.inr ⟨_, rfl⟩) (by have ez : zsz τ q = τ (4 * q.toNat + 1) - τ (4 * q.toNat + 2) := (by unfold zsz; rw [if_pos (by first | with_reducible assumption | decide | omega)]); rw [ez]; exact ⟨_, _, _, rfl, hp10h, hp10c, by omega, by omega, by omega, hp10g⟩) dX8_textOf_36
    · refine zr_aload_n X 20 0 dX8_textOf_19 rfl rfl ?_
      have c812 : V (c 60) = some (60, .inr (9, [.ref (md 61), .int (zI (κ 0)), .ref (c 62), .ref (md 63), .ref (md 64), .ref (c 65), .int (zI (τ 26)), .int (zI (τ 28)), .int (zI (τ 29)), .ref (c 66), .int (zI (τ 36))])) := hM.1
      refine zr_get X 23 9 4 c812 rfl iX8 (by decide) w2 rfl rfl dX8_textOf_20 rfl ?_
      refine zr_goto X 36 dX8_textOf_23 rfl ?_
      obtain ⟨c813f, c813, c813c⟩ := hM.2.2.2.2.2.1
      exact zr_aret X rfl (Or.inr ⟨_, rfl⟩) (by have ez : zsz τ q = τ 25 := (by unfold zsz; rw [if_neg (by first | with_reducible assumption | decide | omega), if_neg (by first | with_reducible assumption | decide | omega)]); rw [ez]; exact ⟨_, _, _, rfl, c813, c813c, by omega, by omega, by omega, zag.rf⟩) dX8_textOf_36
  · refine zr_aload_n X 7 0 dX8_textOf_6 rfl rfl ?_
    have c814 : V (c 60) = some (60, .inr (9, [.ref (md 61), .int (zI (κ 0)), .ref (c 62), .ref (md 63), .ref (md 64), .ref (c 65), .int (zI (τ 26)), .int (zI (τ 28)), .int (zI (τ 29)), .ref (c 66), .int (zI (τ 36))])) := hM.1
    refine zr_get X 10 9 3 c814 rfl iX8 (by decide) w3 rfl rfl dX8_textOf_7 rfl ?_
    refine zr_goto X 36 dX8_textOf_10 rfl ?_
    obtain ⟨c815f, c815, c815c⟩ := hM.2.2.2.2.1
    exact zr_aret X rfl (Or.inr ⟨_, rfl⟩) (by have ez : zsz τ q = τ 24 := (by unfold zsz; rw [if_neg (by first | with_reducible assumption | decide | omega), if_pos (by first | with_reducible assumption | decide | omega)]); rw [ez]; exact ⟨_, _, _, rfl, c815, c815c, by omega, by omega, by omega, zag.rf⟩) dX8_textOf_36
