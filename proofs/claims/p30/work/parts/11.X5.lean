/-! class Window -/
/-- the numbers of a window fit together, and the row is n long -/
def zWb (st cap lim pos mk : Int) (n : Nat) : Prop := 0 ≤ st ∧ st + cap ≤ n ∧ 0 ≤ pos ∧ pos ≤ lim ∧ lim ≤ cap ∧ (mk = -9 ∨ 0 ≤ mk) ∧ mk ≤ pos ∧ n ≤ 100
set_option maxRecDepth 100000 in
set_option maxHeartbeats 4000000 in
theorem m_X5_size (l : Launch) (Γ : zGam) {V : zV} {w r tg : Nat} {st cap lim pos mk : Int} (hw : V w = some (tg, .inr (6, [.ref r, .int (zI st), .int (zI cap), .int (zI lim), .int (zI pos), .int (zI mk)]))) (hb : 0 ≤ pos ∧ pos ≤ lim ∧ lim ≤ 1000) : zM l Γ 0 yX5_size wsX5_size 0 0 V [.ref w] (fun rv V' => rv = some (.int (zI (lim - pos))) ∧ V' = V) := by
  have w0 : Cond.fieldLink RX5 25 "Sashwords$Window" "limit" "I" ∈ wsX5_size := by decide +kernel
  have iX5 : ∀ w ∈ u_ws RX5 TX5 6, w ∈ wsX5_size := by decide +kernel
  have w2 : Cond.fieldLink RX5 31 "Sashwords$Window" "position" "I" ∈ wsX5_size := by decide +kernel
  refine zM_of (cc := cX5_size) (nL := 1) (ret := (some .int)) (own := RX5) (by decide +kernel) rfl rfl (Nat.le_of_ble_eq_true rfl) (fun C X hi0 => ?_)
  show zG C V 0 0 0 [(0, .ref w)] []
  refine zr_aload_n X 1 0 dX5_size_0 rfl rfl ?_
  refine zr_get X 4 6 3 hw rfl iX5 (by decide) w0 rfl rfl dX5_size_1 rfl ?_
  refine zr_aload_n X 5 0 dX5_size_4 rfl rfl ?_
  refine zr_get X 8 6 4 hw rfl iX5 (by decide) w2 rfl rfl dX5_size_5 rfl ?_
  refine zr_isub X 9 dX5_size_8 rfl ?_
  exact zr_iret X rfl ⟨rfl, rfl⟩ dX5_size_9
set_option maxRecDepth 100000 in
set_option maxHeartbeats 4000000 in
theorem m_X5_atPlace (l : Launch) (Γ : zGam) {V : zV} {w r tg tr n : Nat} {st cap lim pos mk : Int} {f : Nat → Int} {p : Int} (hw : V w = some (tg, .inr (6, [.ref r, .int (zI st), .int (zI cap), .int (zI lim), .int (zI pos), .int (zI mk)]))) (hr : V r = some (tr, za Γ.2.1 1 n f)) (hb : zWb st cap lim pos mk n) (hp : -2147483648 ≤ p ∧ p ≤ 2147483647) : zM l Γ 0 yX5_atPlace wsX5_atPlace 0 0 V [.ref w, .int (zI (p))] (fun rv V' => rv = some (.int (zI (if 0 ≤ p ∧ p < lim then f (st + p).toNat else -9))) ∧ V' = V) := by
  obtain ⟨hb1, hb2, hb3, hb4, hb5, hb6, hb7, hb8⟩ := id hb
  have w0 : Cond.fieldLink RX5 25 "Sashwords$Window" "limit" "I" ∈ wsX5_atPlace := by decide +kernel
  have iX5 : ∀ w ∈ u_ws RX5 TX5 6, w ∈ wsX5_atPlace := by decide +kernel
  have w2 : Cond.fieldLink RX5 38 "Sashwords$Window" "start" "I" ∈ wsX5_atPlace := by decide +kernel
  have w3 : Cond.fieldLink RX5 15 "Sashwords$Window" "row" "[C" ∈ wsX5_atPlace := by decide +kernel
  refine zM_of (cc := cX5_atPlace) (nL := 3) (ret := (some .int)) (own := RX5) (by decide +kernel) rfl rfl (Nat.le_of_ble_eq_true rfl) (fun C X hi0 => ?_)
  show zG C V 0 0 0 [(0, .ref w), (1, .int (zI (p)))] []
  refine zr_iload_n X 1 1 dX5_atPlace_0 rfl rfl ?_
  refine zr_if_lt X 12 4 dX5_atPlace_1 rfl rfl (by first | with_reducible assumption | decide | omega) (fun bq1 => ?_) (fun bq1 => ?_)
  · refine zr_bipush X 14 (-9) dX5_atPlace_12 rfl (by decide) ?_
    exact zr_iret X rfl ⟨by rw [if_neg (by first | with_reducible assumption | decide | omega)], rfl⟩ dX5_atPlace_14
  · refine zr_iload_n X 5 1 dX5_atPlace_4 rfl rfl ?_
    refine zr_aload_n X 6 0 dX5_atPlace_5 rfl rfl ?_
    refine zr_get X 9 6 3 hw rfl iX5 (by decide) w0 rfl rfl dX5_atPlace_6 rfl ?_
    refine zr_icmp_lt X 15 12 dX5_atPlace_9 rfl rfl (by first | with_reducible assumption | decide | omega) (by first | with_reducible assumption | decide | omega) (fun bq2 => ?_) (fun bq2 => ?_)
    · refine zr_aload_n X 16 0 dX5_atPlace_15 rfl rfl ?_
      refine zr_get X 19 6 1 hw rfl iX5 (by decide) w2 rfl rfl dX5_atPlace_16 rfl ?_
      refine zr_iload_n X 20 1 dX5_atPlace_19 rfl rfl ?_
      refine zr_iadd X 21 dX5_atPlace_20 rfl ?_
      refine zr_istore_n X 22 [(2, .int (zI (st + p))), (0, .ref w), (1, .int (zI (p)))] dX5_atPlace_21 rfl (by decide) rfl ?_
      refine zr_iload_n X 23 0 dX5_atPlace_22 rfl rfl ?_
      refine zr_if_lt X 35 26 dX5_atPlace_23 rfl rfl (by first | with_reducible assumption | decide | omega) (fun bq3 => ?_) (fun bq3 => ?_)
      · refine zr_bipush X 37 (-9) dX5_atPlace_35 rfl (by decide) ?_
        refine zr_goto X 46 dX5_atPlace_37 rfl ?_
        exact zr_iret X rfl ⟨by rw [if_neg (by first | with_reducible assumption | decide | omega)], rfl⟩ dX5_atPlace_46
      · refine zr_iload_n X 27 0 dX5_atPlace_26 rfl rfl ?_
        refine zr_aload_n X 28 1 dX5_atPlace_27 rfl rfl ?_
        refine zr_get X 31 6 0 hw rfl iX5 (by decide) w3 rfl rfl dX5_atPlace_28 rfl ?_
        refine zr_alen X 32 1 hr (by decide) dX5_atPlace_31 rfl ?_
        refine zr_icmp_lt X 40 35 dX5_atPlace_32 rfl rfl (by first | with_reducible assumption | decide | omega) (by first | with_reducible assumption | decide | omega) (fun bq4 => ?_) (fun bq4 => ?_)
        · refine zr_aload_n X 41 1 dX5_atPlace_40 rfl rfl ?_
          refine zr_get X 44 6 0 hw rfl iX5 (by decide) w3 rfl rfl dX5_atPlace_41 rfl ?_
          refine zr_iload_n X 45 0 dX5_atPlace_44 rfl rfl ?_
          refine zr_cald X 46 hr (by first | with_reducible assumption | decide | omega) dX5_atPlace_45 rfl ?_
          exact zr_iret X rfl ⟨by rw [if_pos (by first | with_reducible assumption | decide | omega)], rfl⟩ dX5_atPlace_46
        · refine zr_bipush X 37 (-9) dX5_atPlace_35 rfl (by decide) ?_
          refine zr_goto X 46 dX5_atPlace_37 rfl ?_
          exact zr_iret X rfl ⟨by rw [if_neg (by first | with_reducible assumption | decide | omega)], rfl⟩ dX5_atPlace_46
    · refine zr_bipush X 14 (-9) dX5_atPlace_12 rfl (by decide) ?_
      exact zr_iret X rfl ⟨by rw [if_neg (by first | with_reducible assumption | decide | omega)], rfl⟩ dX5_atPlace_14
set_option maxRecDepth 100000 in
set_option maxHeartbeats 4000000 in
theorem m_X5_at (l : Launch) (Γ : zGam) {V : zV} {w r tg tr n : Nat} {st cap lim pos mk : Int} {f : Nat → Int} {k : Int} (hw : V w = some (tg, .inr (6, [.ref r, .int (zI st), .int (zI cap), .int (zI lim), .int (zI pos), .int (zI mk)]))) (hr : V r = some (tr, za Γ.2.1 1 n f)) (hb : zWb st cap lim pos mk n) (hp : -2147483648 ≤ k ∧ k ≤ 2147483647) : zM l Γ 1 yX5_at wsX5_at 0 0 V [.ref w, .int (zI (k))] (fun rv V' => rv = some (.int (zI (if 0 ≤ k ∧ k < lim - pos then f (st + pos + k).toNat else -9))) ∧ V' = V) := by
  obtain ⟨hb1, hb2, hb3, hb4, hb5, hb6, hb7, hb8⟩ := id hb
  have w0 : Cond.fieldLink RX5 25 "Sashwords$Window" "limit" "I" ∈ wsX5_at := by decide +kernel
  have iX5 : ∀ w ∈ u_ws RX5 TX5 6, w ∈ wsX5_at := by decide +kernel
  have w2 : Cond.fieldLink RX5 31 "Sashwords$Window" "position" "I" ∈ wsX5_at := by decide +kernel
  refine zM_of (cc := cX5_at) (nL := 2) (ret := (some .int)) (own := RX5) (by decide +kernel) rfl rfl (Nat.le_of_ble_eq_true rfl) (fun C X hi0 => ?_)
  show zG C V 0 0 0 [(0, .ref w), (1, .int (zI (k)))] []
  refine zr_iload_n X 1 1 dX5_at_0 rfl rfl ?_
  refine zr_if_lt X 17 4 dX5_at_1 rfl rfl (by first | with_reducible assumption | decide | omega) (fun bq1 => ?_) (fun bq1 => ?_)
  · refine zr_bipush X 19 (-9) dX5_at_17 rfl (by decide) ?_
    refine zr_goto X 32 dX5_at_19 rfl ?_
    exact zr_iret X rfl ⟨by rw [if_neg (by first | with_reducible assumption | decide | omega)], rfl⟩ dX5_at_32
  · refine zr_iload_n X 5 1 dX5_at_4 rfl rfl ?_
    refine zr_aload_n X 6 0 dX5_at_5 rfl rfl ?_
    refine zr_get X 9 6 3 hw rfl iX5 (by decide) w0 rfl rfl dX5_at_6 rfl ?_
    refine zr_aload_n X 10 0 dX5_at_9 rfl rfl ?_
    refine zr_get X 13 6 4 hw rfl iX5 (by decide) w2 rfl rfl dX5_at_10 rfl ?_
    refine zr_isub X 14 dX5_at_13 rfl ?_
    refine zr_icmp_lt X 22 17 dX5_at_14 rfl rfl (by first | with_reducible assumption | decide | omega) (by first | with_reducible assumption | decide | omega) (fun bq2 => ?_) (fun bq2 => ?_)
    · refine zr_aload_n X 23 0 dX5_at_22 rfl rfl ?_
      refine zr_aload_n X 24 0 dX5_at_23 rfl rfl ?_
      refine zr_get X 27 6 4 hw rfl iX5 (by decide) w2 rfl rfl dX5_at_24 rfl ?_
      refine zr_iload_n X 28 1 dX5_at_27 rfl rfl ?_
      refine zr_iadd X 29 dX5_at_28 rfl ?_
      refine zr_callV (kc' := 0) (ks' := 0) X 32 1 (m_X5_atPlace l Γ (p := pos + k) hw hr hb (by first | with_reducible assumption | decide | omega)) gX5_at_X5_atPlace rfl (by decide +kernel) rfl (by decide) hw rfl rfl (Nat.le_of_ble_eq_true rfl) dX5_at_29 rfl (by first | with_reducible assumption | decide | omega) (by first | with_reducible assumption | decide | omega) (fun rv3 V4 hp5 => ?_)
      rw [hp5.1, hp5.2]
      show zG C V 0 0 32 [(0, .ref w), (1, .int (zI (k)))] [.int (zI (if 0 ≤ (pos + k) ∧ (pos + k) < lim then f (st + (pos + k)).toNat else -9))]
      exact zr_iret X rfl ⟨by rw [if_pos (by first | with_reducible assumption | decide | omega), if_pos (by first | with_reducible assumption | decide | omega), Int.add_assoc], rfl⟩ dX5_at_32
    · refine zr_bipush X 19 (-9) dX5_at_17 rfl (by decide) ?_
      refine zr_goto X 32 dX5_at_19 rfl ?_
      exact zr_iret X rfl ⟨by rw [if_neg (by first | with_reducible assumption | decide | omega)], rfl⟩ dX5_at_32
set_option maxRecDepth 100000 in
set_option maxHeartbeats 4000000 in
theorem m_X5_goTo (l : Launch) (Γ : zGam) {V : zV} {w r tg : Nat} {st cap lim pos mk : Int} {p q : Int} (hw : V w = some (tg, .inr (6, [.ref r, .int (zI st), .int (zI cap), .int (zI lim), .int (zI pos), .int (zI mk)]))) : zM l Γ 0 yX5_goTo wsX5_goTo 0 0 V [.ref w, .int (zI (p)), .int (zI (q))] (fun rv V' => rv = none ∧ V' = zu V w tg (.inr (6, [.ref r, .int (zI (st)), .int (zI (cap)), .int (zI (q)), .int (zI (p)), .int (zI (-9))]))) := by
  have w0 : Cond.fieldLink RX5 31 "Sashwords$Window" "position" "I" ∈ wsX5_goTo := by decide +kernel
  have iX5 : ∀ w ∈ u_ws RX5 TX5 6, w ∈ wsX5_goTo := by decide +kernel
  have w2 : Cond.fieldLink RX5 25 "Sashwords$Window" "limit" "I" ∈ wsX5_goTo := by decide +kernel
  have w3 : Cond.fieldLink RX5 28 "Sashwords$Window" "mark" "I" ∈ wsX5_goTo := by decide +kernel
  refine zM_of (cc := cX5_goTo) (nL := 3) (ret := none) (own := RX5) (by decide +kernel) rfl rfl (Nat.le_of_ble_eq_true rfl) (fun C X hi0 => ?_)
  show zG C V 0 0 0 [(0, .ref w), (1, .int (zI (p))), (2, .int (zI (q)))] []
  refine zr_aload_n X 1 0 dX5_goTo_0 rfl rfl ?_
  refine zr_iload_n X 2 1 dX5_goTo_1 rfl rfl ?_
  refine zr_put X 5 6 4 [.ref r, .int (zI (st)), .int (zI (cap)), .int (zI (lim)), .int (zI (p)), .int (zI (mk))] tyX5 hw rfl iX5 tyX5_ok nmX5 (by decide) w0 rfl rfl rfl rfl (Nat.le_of_ble_eq_true rfl) rfl dX5_goTo_2 rfl ?_
  refine zr_aload_n X 6 0 dX5_goTo_5 rfl rfl ?_
  refine zr_iload_n X 7 2 dX5_goTo_6 rfl rfl ?_
  refine zr_put X 10 6 3 [.ref r, .int (zI (st)), .int (zI (cap)), .int (zI (q)), .int (zI (p)), .int (zI (mk))] tyX5 (zu_eq _ _ _ _) rfl iX5 tyX5_ok nmX5 (by decide) w2 rfl rfl rfl rfl (Nat.le_of_ble_eq_true rfl) rfl dX5_goTo_7 rfl ?_
  refine zr_view (zu_zu _ _ _ _ _ _) ?_
  refine zr_aload_n X 11 0 dX5_goTo_10 rfl rfl ?_
  refine zr_bipush X 13 (-9) dX5_goTo_11 rfl (by decide) ?_
  refine zr_put X 16 6 5 [.ref r, .int (zI (st)), .int (zI (cap)), .int (zI (q)), .int (zI (p)), .int (zI (-9))] tyX5 (zu_eq _ _ _ _) rfl iX5 tyX5_ok nmX5 (by decide) w3 rfl rfl rfl rfl (Nat.le_of_ble_eq_true rfl) rfl dX5_goTo_13 rfl ?_
  refine zr_view (zu_zu _ _ _ _ _ _) ?_
  exact zr_vret X rfl ⟨rfl, rfl⟩ dX5_goTo_16
set_option maxRecDepth 100000 in
set_option maxHeartbeats 4000000 in
theorem m_X5_setMark (l : Launch) (Γ : zGam) {V : zV} {w r tg : Nat} {st cap lim pos mk : Int} (hw : V w = some (tg, .inr (6, [.ref r, .int (zI st), .int (zI cap), .int (zI lim), .int (zI pos), .int (zI mk)]))) : zM l Γ 0 yX5_setMark wsX5_setMark 0 0 V [.ref w] (fun rv V' => rv = none ∧ V' = zu V w tg (.inr (6, [.ref r, .int (zI (st)), .int (zI (cap)), .int (zI (lim)), .int (zI (pos)), .int (zI (pos))]))) := by
  have w0 : Cond.fieldLink RX5 31 "Sashwords$Window" "position" "I" ∈ wsX5_setMark := by decide +kernel
  have iX5 : ∀ w ∈ u_ws RX5 TX5 6, w ∈ wsX5_setMark := by decide +kernel
  have w2 : Cond.fieldLink RX5 28 "Sashwords$Window" "mark" "I" ∈ wsX5_setMark := by decide +kernel
  refine zM_of (cc := cX5_setMark) (nL := 1) (ret := none) (own := RX5) (by decide +kernel) rfl rfl (Nat.le_of_ble_eq_true rfl) (fun C X hi0 => ?_)
  show zG C V 0 0 0 [(0, .ref w)] []
  refine zr_aload_n X 1 0 dX5_setMark_0 rfl rfl ?_
  refine zr_aload_n X 2 0 dX5_setMark_1 rfl rfl ?_
  refine zr_get X 5 6 4 hw rfl iX5 (by decide) w0 rfl rfl dX5_setMark_2 rfl ?_
  refine zr_put X 8 6 5 [.ref r, .int (zI (st)), .int (zI (cap)), .int (zI (lim)), .int (zI (pos)), .int (zI (pos))] tyX5 hw rfl iX5 tyX5_ok nmX5 (by decide) w2 rfl rfl rfl rfl (Nat.le_of_ble_eq_true rfl) rfl dX5_setMark_5 rfl ?_
  exact zr_vret X rfl ⟨rfl, rfl⟩ dX5_setMark_8
set_option maxRecDepth 100000 in
set_option maxHeartbeats 4000000 in
theorem m_X5_goToMark (l : Launch) (Γ : zGam) {V : zV} {w r tg : Nat} {st cap lim pos mk : Int} (hw : V w = some (tg, .inr (6, [.ref r, .int (zI st), .int (zI cap), .int (zI lim), .int (zI pos), .int (zI mk)]))) : zM l Γ 0 yX5_goToMark wsX5_goToMark 0 0 V [.ref w] (fun rv V' => rv = none ∧ V' = zu V w tg (.inr (6, [.ref r, .int (zI (st)), .int (zI (cap)), .int (zI (lim)), .int (zI (mk)), .int (zI (mk))]))) := by
  have w0 : Cond.fieldLink RX5 28 "Sashwords$Window" "mark" "I" ∈ wsX5_goToMark := by decide +kernel
  have iX5 : ∀ w ∈ u_ws RX5 TX5 6, w ∈ wsX5_goToMark := by decide +kernel
  have w2 : Cond.fieldLink RX5 31 "Sashwords$Window" "position" "I" ∈ wsX5_goToMark := by decide +kernel
  refine zM_of (cc := cX5_goToMark) (nL := 1) (ret := none) (own := RX5) (by decide +kernel) rfl rfl (Nat.le_of_ble_eq_true rfl) (fun C X hi0 => ?_)
  show zG C V 0 0 0 [(0, .ref w)] []
  refine zr_aload_n X 1 0 dX5_goToMark_0 rfl rfl ?_
  refine zr_aload_n X 2 0 dX5_goToMark_1 rfl rfl ?_
  refine zr_get X 5 6 5 hw rfl iX5 (by decide) w0 rfl rfl dX5_goToMark_2 rfl ?_
  refine zr_put X 8 6 4 [.ref r, .int (zI (st)), .int (zI (cap)), .int (zI (lim)), .int (zI (mk)), .int (zI (mk))] tyX5 hw rfl iX5 tyX5_ok nmX5 (by decide) w2 rfl rfl rfl rfl (Nat.le_of_ble_eq_true rfl) rfl dX5_goToMark_5 rfl ?_
  exact zr_vret X rfl ⟨rfl, rfl⟩ dX5_goToMark_8
set_option maxRecDepth 100000 in
set_option maxHeartbeats 4000000 in
theorem m_X5_store (l : Launch) (Γ : zGam) {V : zV} {w r tg tr n : Nat} {st cap lim pos mk : Int} {f : Nat → Int} {p x : Int} (hw : V w = some (tg, .inr (6, [.ref r, .int (zI st), .int (zI cap), .int (zI lim), .int (zI pos), .int (zI mk)]))) (hr : V r = some (tr, za Γ.2.1 1 n f)) (hp : 0 ≤ st + p ∧ st + p < n ∧ n ≤ 100 ∧ 0 ≤ st ∧ st ≤ 100 ∧ -100 ≤ p ∧ p ≤ 100 ∧ 0 ≤ x ∧ x ≤ 65535) : zM l Γ 0 yX5_store wsX5_store 0 0 V [.ref w, .int (zI (p)), .int (zI (x))] (fun rv V' => rv = none ∧ V' = zu V r tr (za Γ.2.1 1 n (zf f (st + p).toNat x))) := by
  have w0 : Cond.fieldLink RX5 38 "Sashwords$Window" "start" "I" ∈ wsX5_store := by decide +kernel
  have iX5 : ∀ w ∈ u_ws RX5 TX5 6, w ∈ wsX5_store := by decide +kernel
  have w2 : Cond.fieldLink RX5 15 "Sashwords$Window" "row" "[C" ∈ wsX5_store := by decide +kernel
  refine zM_of (cc := cX5_store) (nL := 4) (ret := none) (own := RX5) (by decide +kernel) rfl rfl (Nat.le_of_ble_eq_true rfl) (fun C X hi0 => ?_)
  show zG C V 0 0 0 [(0, .ref w), (1, .int (zI (p))), (2, .int (zI (x)))] []
  refine zr_aload_n X 1 0 dX5_store_0 rfl rfl ?_
  refine zr_get X 4 6 1 hw rfl iX5 (by decide) w0 rfl rfl dX5_store_1 rfl ?_
  refine zr_iload_n X 5 1 dX5_store_4 rfl rfl ?_
  refine zr_iadd X 6 dX5_store_5 rfl ?_
  refine zr_istore_n X 7 [(3, .int (zI (st + p))), (0, .ref w), (1, .int (zI (p))), (2, .int (zI (x)))] dX5_store_6 rfl (by decide) rfl ?_
  refine zr_iload_n X 8 0 dX5_store_7 rfl rfl ?_
  refine zr_if_lt X 28 11 dX5_store_8 rfl rfl (by first | with_reducible assumption | decide | omega) (fun bq1 => ?_) (fun bq1 => ?_)
  · exact zr_vret X rfl ⟨rfl, by omega⟩ dX5_store_28
  · refine zr_iload_n X 12 0 dX5_store_11 rfl rfl ?_
    refine zr_aload_n X 13 1 dX5_store_12 rfl rfl ?_
    refine zr_get X 16 6 0 hw rfl iX5 (by decide) w2 rfl rfl dX5_store_13 rfl ?_
    refine zr_alen X 17 1 hr (by decide) dX5_store_16 rfl ?_
    refine zr_icmp_ge X 28 20 dX5_store_17 rfl rfl (by first | with_reducible assumption | decide | omega) (by first | with_reducible assumption | decide | omega) (fun bq2 => ?_) (fun bq2 => ?_)
    · exact zr_vret X rfl ⟨rfl, by omega⟩ dX5_store_28
    · refine zr_aload_n X 21 1 dX5_store_20 rfl rfl ?_
      refine zr_get X 24 6 0 hw rfl iX5 (by decide) w2 rfl rfl dX5_store_21 rfl ?_
      refine zr_iload_n X 25 0 dX5_store_24 rfl rfl ?_
      refine zr_iload_n X 26 3 dX5_store_25 rfl rfl ?_
      refine zr_i2cI X 27 dX5_store_26 rfl (by first | with_reducible assumption | decide | omega) ?_
      refine zr_cast X 28 hr (by first | with_reducible assumption | decide | omega) (by first | with_reducible assumption | decide | omega) dX5_store_27 rfl ?_
      exact zr_vret X rfl ⟨rfl, rfl⟩ dX5_store_28
set_option maxRecDepth 100000 in
set_option maxHeartbeats 4000000 in
theorem m_X5_readSign (l : Launch) (Γ : zGam) {V : zV} {w r tg tr n : Nat} {st cap lim pos mk : Int} {f : Nat → Int} (hw : V w = some (tg, .inr (6, [.ref r, .int (zI st), .int (zI cap), .int (zI lim), .int (zI pos), .int (zI mk)]))) (hr : V r = some (tr, za Γ.2.1 1 n f)) (hb : zWb st cap lim pos mk n) (hlt : pos < lim) : zM l Γ 2 yX5_readSign wsX5_readSign 0 0 V [.ref w] (fun rv V' => rv = some (.int (zI (f (st + pos).toNat))) ∧ V' = zu V w tg (.inr (6, [.ref r, .int (zI (st)), .int (zI (cap)), .int (zI (lim)), .int (zI (pos + 1)), .int (zI (mk))]))) := by
  obtain ⟨hb1, hb2, hb3, hb4, hb5, hb6, hb7, hb8⟩ := id hb
  have w0 : Cond.fieldLink RX5 31 "Sashwords$Window" "position" "I" ∈ wsX5_readSign := by decide +kernel
  have iX5 : ∀ w ∈ u_ws RX5 TX5 6, w ∈ wsX5_readSign := by decide +kernel
  refine zM_of (cc := cX5_readSign) (nL := 2) (ret := (some .int)) (own := RX5) (by decide +kernel) rfl rfl (Nat.le_of_ble_eq_true rfl) (fun C X hi0 => ?_)
  show zG C V 0 0 0 [(0, .ref w)] []
  refine zr_aload_n X 1 0 dX5_readSign_0 rfl rfl ?_
  refine zr_iconst X 2 dX5_readSign_1 rfl ?_
  refine zr_callV (kc' := 0) (ks' := 0) X 5 1 (m_X5_at l Γ (k := 0) hw hr hb (by first | with_reducible assumption | decide | omega)) gX5_readSign_X5_at rfl (by decide +kernel) rfl (by decide) hw rfl rfl (Nat.le_of_ble_eq_true rfl) dX5_readSign_2 rfl (by first | with_reducible assumption | decide | omega) (by first | with_reducible assumption | decide | omega) (fun rv1 V2 hp3 => ?_)
  rw [hp3.1, hp3.2]
  show zG C V 0 0 5 [(0, .ref w)] [.int (zI (if 0 ≤ 0 ∧ 0 < lim - pos then f (st + pos + 0).toNat else -9))]
  refine zr_istore_n X 6 [(1, .int (zI (if 0 ≤ 0 ∧ 0 < lim - pos then f (st + pos + 0).toNat else -9))), (0, .ref w)] dX5_readSign_5 rfl (by decide) rfl ?_
  refine zr_aload_n X 7 1 dX5_readSign_6 rfl rfl ?_
  refine zr_callV (kc' := 0) (ks' := 0) X 10 0 (m_X5_size l Γ hw (by first | with_reducible assumption | decide | omega)) gX5_readSign_X5_size rfl (by decide +kernel) rfl (by decide) hw rfl rfl (Nat.le_of_ble_eq_true rfl) dX5_readSign_7 rfl (by first | with_reducible assumption | decide | omega) (by first | with_reducible assumption | decide | omega) (fun rv4 V5 hp6 => ?_)
  rw [hp6.1, hp6.2]
  show zG C V 0 0 10 [(1, .int (zI (if 0 ≤ 0 ∧ 0 < lim - pos then f (st + pos + 0).toNat else -9))), (0, .ref w)] [.int (zI (lim - pos))]
  refine zr_if_le X 23 13 dX5_readSign_10 rfl rfl (by first | with_reducible assumption | decide | omega) (fun bq7 => ?_) (fun bq7 => ?_)
  · refine zr_iload_n X 24 0 dX5_readSign_23 rfl rfl ?_
    exact zr_iret X rfl (by exfalso; omega) dX5_readSign_24
  · refine zr_aload_n X 14 1 dX5_readSign_13 rfl rfl ?_
    refine zr_dup X 15 dX5_readSign_14 rfl rfl ?_
    refine zr_get X 18 6 4 hw rfl iX5 (by decide) w0 rfl rfl dX5_readSign_15 rfl ?_
    refine zr_iconst X 19 dX5_readSign_18 rfl ?_
    refine zr_iadd X 20 dX5_readSign_19 rfl ?_
    refine zr_put X 23 6 4 [.ref r, .int (zI (st)), .int (zI (cap)), .int (zI (lim)), .int (zI (pos + 1)), .int (zI (mk))] tyX5 hw rfl iX5 tyX5_ok nmX5 (by decide) w0 rfl rfl rfl rfl (Nat.le_of_ble_eq_true rfl) rfl dX5_readSign_20 rfl ?_
    refine zr_iload_n X 24 0 dX5_readSign_23 rfl rfl ?_
    exact zr_iret X rfl ⟨by rw [if_pos (by first | with_reducible assumption | decide | omega), Int.add_zero], rfl⟩ dX5_readSign_24
set_option maxRecDepth 100000 in
set_option maxHeartbeats 4000000 in
theorem m_X5_writeSign_y (l : Launch) (Γ : zGam) {V : zV} {w r tg tr n : Nat} {st cap lim pos mk : Int} {f : Nat → Int} {x : Int} (hw : V w = some (tg, .inr (6, [.ref r, .int (zI st), .int (zI cap), .int (zI lim), .int (zI pos), .int (zI mk)]))) (hr : V r = some (tr, za Γ.2.1 1 n f)) (hb : zWb st cap lim pos mk n) (hx : 0 ≤ x ∧ x ≤ 255) (hlt : pos < lim) : zM l Γ 1 yX5_writeSign wsX5_writeSign 0 0 V [.ref w, .int (zI (x))] (fun rv V' => rv = some (.int (zI 1)) ∧ V' = zu (zu V r tr (za Γ.2.1 1 n (zf f (st + pos).toNat x))) w tg (.inr (6, [.ref r, .int (zI (st)), .int (zI (cap)), .int (zI (lim)), .int (zI (pos + 1)), .int (zI (mk))]))) := by
  obtain ⟨hb1, hb2, hb3, hb4, hb5, hb6, hb7, hb8⟩ := id hb
  have w0 : Cond.fieldLink RX5 31 "Sashwords$Window" "position" "I" ∈ wsX5_writeSign := by decide +kernel
  have iX5 : ∀ w ∈ u_ws RX5 TX5 6, w ∈ wsX5_writeSign := by decide +kernel
  refine zM_of (cc := cX5_writeSign) (nL := 2) (ret := (some .boolean)) (own := RX5) (by decide +kernel) rfl rfl (Nat.le_of_ble_eq_true rfl) (fun C X hi0 => ?_)
  show zG C V 0 0 0 [(0, .ref w), (1, .int (zI (x)))] []
  refine zr_aload_n X 1 0 dX5_writeSign_0 rfl rfl ?_
  refine zr_callV (kc' := 0) (ks' := 0) X 4 0 (m_X5_size l Γ hw (by first | with_reducible assumption | decide | omega)) gX5_writeSign_X5_size rfl (by decide +kernel) rfl (by decide) hw rfl rfl (Nat.le_of_ble_eq_true rfl) dX5_writeSign_1 rfl (by first | with_reducible assumption | decide | omega) (by first | with_reducible assumption | decide | omega) (fun rv1 V2 hp3 => ?_)
  rw [hp3.1, hp3.2]
  show zG C V 0 0 4 [(0, .ref w), (1, .int (zI (x)))] [.int (zI (lim - pos))]
  refine zr_if_gt X 9 7 dX5_writeSign_4 rfl rfl (by first | with_reducible assumption | decide | omega) (fun bq4 => ?_) (fun bq4 => ?_)
  · refine zr_aload_n X 10 0 dX5_writeSign_9 rfl rfl ?_
    refine zr_aload_n X 11 0 dX5_writeSign_10 rfl rfl ?_
    refine zr_get X 14 6 4 hw rfl iX5 (by decide) w0 rfl rfl dX5_writeSign_11 rfl ?_
    refine zr_iload_n X 15 1 dX5_writeSign_14 rfl rfl ?_
    refine zr_callV (kc' := 0) (ks' := 0) X 18 2 (m_X5_store l Γ (p := pos) (x := x) hw hr (by first | with_reducible assumption | decide | omega)) gX5_writeSign_X5_store rfl (by decide +kernel) rfl (by decide) hw rfl rfl (Nat.le_of_ble_eq_true rfl) dX5_writeSign_15 rfl (by first | with_reducible assumption | decide | omega) (by first | with_reducible assumption | decide | omega) (fun rv5 V6 hp7 => ?_)
    rw [hp7.1, hp7.2]
    show zG C (zu V r tr (za Γ.2.1 1 n (zf f (st + pos).toNat x))) 0 0 18 [(0, .ref w), (1, .int (zI (x)))] []
    refine zr_aload_n X 19 0 dX5_writeSign_18 rfl rfl ?_
    refine zr_dup X 20 dX5_writeSign_19 rfl rfl ?_
    refine zr_get X 23 6 4 ((zu_ne (zne_oa hw hr)).trans hw) rfl iX5 (by decide) w0 rfl rfl dX5_writeSign_20 rfl ?_
    refine zr_iconst X 24 dX5_writeSign_23 rfl ?_
    refine zr_iadd X 25 dX5_writeSign_24 rfl ?_
    refine zr_put X 28 6 4 [.ref r, .int (zI (st)), .int (zI (cap)), .int (zI (lim)), .int (zI (pos + 1)), .int (zI (mk))] tyX5 ((zu_ne (zne_oa hw hr)).trans hw) rfl iX5 tyX5_ok nmX5 (by decide) w0 rfl rfl rfl rfl (Nat.le_of_ble_eq_true rfl) rfl dX5_writeSign_25 rfl ?_
    refine zr_iconst X 29 dX5_writeSign_28 rfl ?_
    exact zr_zret X rfl rfl ⟨rfl, rfl⟩ dX5_writeSign_29
  · exfalso
    omega
set_option maxRecDepth 100000 in
set_option maxHeartbeats 4000000 in
theorem m_X5_writeSign_n (l : Launch) (Γ : zGam) {V : zV} {w r tg : Nat} {st cap lim pos mk : Int} {x : Int} (hw : V w = some (tg, .inr (6, [.ref r, .int (zI st), .int (zI cap), .int (zI lim), .int (zI pos), .int (zI mk)]))) (hlt : pos = lim ∧ 0 ≤ pos ∧ lim ≤ 1000) : zM l Γ 1 yX5_writeSign wsX5_writeSign 0 0 V [.ref w, .int (zI (x))] (fun rv V' => rv = some (.int (zI 0)) ∧ V' = V) := by
  refine zM_of (cc := cX5_writeSign) (nL := 2) (ret := (some .boolean)) (own := RX5) (by decide +kernel) rfl rfl (Nat.le_of_ble_eq_true rfl) (fun C X hi0 => ?_)
  show zG C V 0 0 0 [(0, .ref w), (1, .int (zI (x)))] []
  refine zr_aload_n X 1 0 dX5_writeSign_0 rfl rfl ?_
  refine zr_callV (kc' := 0) (ks' := 0) X 4 0 (m_X5_size l Γ hw (by first | with_reducible assumption | decide | omega)) gX5_writeSign_X5_size rfl (by decide +kernel) rfl (by decide) hw rfl rfl (Nat.le_of_ble_eq_true rfl) dX5_writeSign_1 rfl (by first | with_reducible assumption | decide | omega) (by first | with_reducible assumption | decide | omega) (fun rv1 V2 hp3 => ?_)
  rw [hp3.1, hp3.2]
  show zG C V 0 0 4 [(0, .ref w), (1, .int (zI (x)))] [.int (zI (lim - pos))]
  refine zr_if_gt X 9 7 dX5_writeSign_4 rfl rfl (by first | with_reducible assumption | decide | omega) (fun bq4 => ?_) (fun bq4 => ?_)
  · exfalso
    omega
  · refine zr_iconst X 8 dX5_writeSign_7 rfl ?_
    exact zr_zret X rfl rfl ⟨rfl, rfl⟩ dX5_writeSign_8
set_option maxRecDepth 100000 in
set_option maxHeartbeats 4000000 in
theorem m_X5_becomeLike_ne (l : Launch) (Γ : zGam) {V : zV} {w o r r0 tg to : Nat} {st cap lim pos mk st0 cap0 lim0 pos0 mk0 : Int} (hw : V w = some (tg, .inr (6, [.ref r0, .int (zI st0), .int (zI cap0), .int (zI lim0), .int (zI pos0), .int (zI mk0)]))) (ho : V o = some (to, .inr (6, [.ref r, .int (zI st), .int (zI cap), .int (zI lim), .int (zI pos), .int (zI mk)]))) (hne : w ≠ o) : zM l Γ 0 yX5_becomeLike wsX5_becomeLike 0 0 V [.ref w, .ref o] (fun rv V' => rv = none ∧ V' = zu V w tg (.inr (6, [.ref r, .int (zI (st)), .int (zI (cap)), .int (zI (lim)), .int (zI (pos)), .int (zI (mk))]))) := by
  have w0 : Cond.fieldLink RX5 15 "Sashwords$Window" "row" "[C" ∈ wsX5_becomeLike := by decide +kernel
  have iX5 : ∀ w ∈ u_ws RX5 TX5 6, w ∈ wsX5_becomeLike := by decide +kernel
  have w2 : Cond.fieldLink RX5 38 "Sashwords$Window" "start" "I" ∈ wsX5_becomeLike := by decide +kernel
  have w3 : Cond.fieldLink RX5 21 "Sashwords$Window" "capacity" "I" ∈ wsX5_becomeLike := by decide +kernel
  have w4 : Cond.fieldLink RX5 25 "Sashwords$Window" "limit" "I" ∈ wsX5_becomeLike := by decide +kernel
  have w5 : Cond.fieldLink RX5 31 "Sashwords$Window" "position" "I" ∈ wsX5_becomeLike := by decide +kernel
  have w6 : Cond.fieldLink RX5 28 "Sashwords$Window" "mark" "I" ∈ wsX5_becomeLike := by decide +kernel
  refine zM_of (cc := cX5_becomeLike) (nL := 2) (ret := none) (own := RX5) (by decide +kernel) rfl rfl (Nat.le_of_ble_eq_true rfl) (fun C X hi0 => ?_)
  show zG C V 0 0 0 [(0, .ref w), (1, .ref o)] []
  refine zr_aload_n X 1 0 dX5_becomeLike_0 rfl rfl ?_
  refine zr_aload_n X 2 1 dX5_becomeLike_1 rfl rfl ?_
  refine zr_get X 5 6 0 ho rfl iX5 (by decide) w0 rfl rfl dX5_becomeLike_2 rfl ?_
  refine zr_put X 8 6 0 [.ref r, .int (zI (st0)), .int (zI (cap0)), .int (zI (lim0)), .int (zI (pos0)), .int (zI (mk0))] tyX5 hw rfl iX5 tyX5_ok nmX5 (by decide) w0 rfl rfl rfl rfl (Nat.le_of_ble_eq_true rfl) rfl dX5_becomeLike_5 rfl ?_
  refine zr_aload_n X 9 0 dX5_becomeLike_8 rfl rfl ?_
  refine zr_aload_n X 10 1 dX5_becomeLike_9 rfl rfl ?_
  refine zr_get X 13 6 1 ((zu_ne (Ne.symm hne)).trans ho) rfl iX5 (by decide) w2 rfl rfl dX5_becomeLike_10 rfl ?_
  refine zr_put X 16 6 1 [.ref r, .int (zI (st)), .int (zI (cap0)), .int (zI (lim0)), .int (zI (pos0)), .int (zI (mk0))] tyX5 (zu_eq _ _ _ _) rfl iX5 tyX5_ok nmX5 (by decide) w2 rfl rfl rfl rfl (Nat.le_of_ble_eq_true rfl) rfl dX5_becomeLike_13 rfl ?_
  refine zr_view (zu_zu _ _ _ _ _ _) ?_
  refine zr_aload_n X 17 0 dX5_becomeLike_16 rfl rfl ?_
  refine zr_aload_n X 18 1 dX5_becomeLike_17 rfl rfl ?_
  refine zr_get X 21 6 2 ((zu_ne (Ne.symm hne)).trans ho) rfl iX5 (by decide) w3 rfl rfl dX5_becomeLike_18 rfl ?_
  refine zr_put X 24 6 2 [.ref r, .int (zI (st)), .int (zI (cap)), .int (zI (lim0)), .int (zI (pos0)), .int (zI (mk0))] tyX5 (zu_eq _ _ _ _) rfl iX5 tyX5_ok nmX5 (by decide) w3 rfl rfl rfl rfl (Nat.le_of_ble_eq_true rfl) rfl dX5_becomeLike_21 rfl ?_
  refine zr_view (zu_zu _ _ _ _ _ _) ?_
  refine zr_aload_n X 25 0 dX5_becomeLike_24 rfl rfl ?_
  refine zr_aload_n X 26 1 dX5_becomeLike_25 rfl rfl ?_
  refine zr_get X 29 6 3 ((zu_ne (Ne.symm hne)).trans ho) rfl iX5 (by decide) w4 rfl rfl dX5_becomeLike_26 rfl ?_
  refine zr_put X 32 6 3 [.ref r, .int (zI (st)), .int (zI (cap)), .int (zI (lim)), .int (zI (pos0)), .int (zI (mk0))] tyX5 (zu_eq _ _ _ _) rfl iX5 tyX5_ok nmX5 (by decide) w4 rfl rfl rfl rfl (Nat.le_of_ble_eq_true rfl) rfl dX5_becomeLike_29 rfl ?_
  refine zr_view (zu_zu _ _ _ _ _ _) ?_
  refine zr_aload_n X 33 0 dX5_becomeLike_32 rfl rfl ?_
  refine zr_aload_n X 34 1 dX5_becomeLike_33 rfl rfl ?_
  refine zr_get X 37 6 4 ((zu_ne (Ne.symm hne)).trans ho) rfl iX5 (by decide) w5 rfl rfl dX5_becomeLike_34 rfl ?_
  refine zr_put X 40 6 4 [.ref r, .int (zI (st)), .int (zI (cap)), .int (zI (lim)), .int (zI (pos)), .int (zI (mk0))] tyX5 (zu_eq _ _ _ _) rfl iX5 tyX5_ok nmX5 (by decide) w5 rfl rfl rfl rfl (Nat.le_of_ble_eq_true rfl) rfl dX5_becomeLike_37 rfl ?_
  refine zr_view (zu_zu _ _ _ _ _ _) ?_
  refine zr_aload_n X 41 0 dX5_becomeLike_40 rfl rfl ?_
  refine zr_aload_n X 42 1 dX5_becomeLike_41 rfl rfl ?_
  refine zr_get X 45 6 5 ((zu_ne (Ne.symm hne)).trans ho) rfl iX5 (by decide) w6 rfl rfl dX5_becomeLike_42 rfl ?_
  refine zr_put X 48 6 5 [.ref r, .int (zI (st)), .int (zI (cap)), .int (zI (lim)), .int (zI (pos)), .int (zI (mk))] tyX5 (zu_eq _ _ _ _) rfl iX5 tyX5_ok nmX5 (by decide) w6 rfl rfl rfl rfl (Nat.le_of_ble_eq_true rfl) rfl dX5_becomeLike_45 rfl ?_
  refine zr_view (zu_zu _ _ _ _ _ _) ?_
  exact zr_vret X rfl ⟨rfl, rfl⟩ dX5_becomeLike_48
set_option maxRecDepth 100000 in
set_option maxHeartbeats 4000000 in
theorem m_X5_becomeLike_eq (l : Launch) (Γ : zGam) {V : zV} {w r tg : Nat} {st cap lim pos mk : Int} (hw : V w = some (tg, .inr (6, [.ref r, .int (zI st), .int (zI cap), .int (zI lim), .int (zI pos), .int (zI mk)]))) : zM l Γ 0 yX5_becomeLike wsX5_becomeLike 0 0 V [.ref w, .ref w] (fun rv V' => rv = none ∧ V' = V) := by
  have w0 : Cond.fieldLink RX5 15 "Sashwords$Window" "row" "[C" ∈ wsX5_becomeLike := by decide +kernel
  have iX5 : ∀ w ∈ u_ws RX5 TX5 6, w ∈ wsX5_becomeLike := by decide +kernel
  have w2 : Cond.fieldLink RX5 38 "Sashwords$Window" "start" "I" ∈ wsX5_becomeLike := by decide +kernel
  have w3 : Cond.fieldLink RX5 21 "Sashwords$Window" "capacity" "I" ∈ wsX5_becomeLike := by decide +kernel
  have w4 : Cond.fieldLink RX5 25 "Sashwords$Window" "limit" "I" ∈ wsX5_becomeLike := by decide +kernel
  have w5 : Cond.fieldLink RX5 31 "Sashwords$Window" "position" "I" ∈ wsX5_becomeLike := by decide +kernel
  have w6 : Cond.fieldLink RX5 28 "Sashwords$Window" "mark" "I" ∈ wsX5_becomeLike := by decide +kernel
  refine zM_of (cc := cX5_becomeLike) (nL := 2) (ret := none) (own := RX5) (by decide +kernel) rfl rfl (Nat.le_of_ble_eq_true rfl) (fun C X hi0 => ?_)
  show zG C V 0 0 0 [(0, .ref w), (1, .ref w)] []
  refine zr_aload_n X 1 0 dX5_becomeLike_0 rfl rfl ?_
  refine zr_aload_n X 2 1 dX5_becomeLike_1 rfl rfl ?_
  refine zr_get X 5 6 0 hw rfl iX5 (by decide) w0 rfl rfl dX5_becomeLike_2 rfl ?_
  refine zr_put X 8 6 0 [.ref r, .int (zI (st)), .int (zI (cap)), .int (zI (lim)), .int (zI (pos)), .int (zI (mk))] tyX5 hw rfl iX5 tyX5_ok nmX5 (by decide) w0 rfl rfl rfl rfl (Nat.le_of_ble_eq_true rfl) rfl dX5_becomeLike_5 rfl ?_
  refine zr_aload_n X 9 0 dX5_becomeLike_8 rfl rfl ?_
  refine zr_aload_n X 10 1 dX5_becomeLike_9 rfl rfl ?_
  refine zr_get X 13 6 1 (zu_eq _ _ _ _) rfl iX5 (by decide) w2 rfl rfl dX5_becomeLike_10 rfl ?_
  refine zr_put X 16 6 1 [.ref r, .int (zI (st)), .int (zI (cap)), .int (zI (lim)), .int (zI (pos)), .int (zI (mk))] tyX5 (zu_eq _ _ _ _) rfl iX5 tyX5_ok nmX5 (by decide) w2 rfl rfl rfl rfl (Nat.le_of_ble_eq_true rfl) rfl dX5_becomeLike_13 rfl ?_
  refine zr_view (zu_zu _ _ _ _ _ _) ?_
  refine zr_aload_n X 17 0 dX5_becomeLike_16 rfl rfl ?_
  refine zr_aload_n X 18 1 dX5_becomeLike_17 rfl rfl ?_
  refine zr_get X 21 6 2 (zu_eq _ _ _ _) rfl iX5 (by decide) w3 rfl rfl dX5_becomeLike_18 rfl ?_
  refine zr_put X 24 6 2 [.ref r, .int (zI (st)), .int (zI (cap)), .int (zI (lim)), .int (zI (pos)), .int (zI (mk))] tyX5 (zu_eq _ _ _ _) rfl iX5 tyX5_ok nmX5 (by decide) w3 rfl rfl rfl rfl (Nat.le_of_ble_eq_true rfl) rfl dX5_becomeLike_21 rfl ?_
  refine zr_view (zu_zu _ _ _ _ _ _) ?_
  refine zr_aload_n X 25 0 dX5_becomeLike_24 rfl rfl ?_
  refine zr_aload_n X 26 1 dX5_becomeLike_25 rfl rfl ?_
  refine zr_get X 29 6 3 (zu_eq _ _ _ _) rfl iX5 (by decide) w4 rfl rfl dX5_becomeLike_26 rfl ?_
  refine zr_put X 32 6 3 [.ref r, .int (zI (st)), .int (zI (cap)), .int (zI (lim)), .int (zI (pos)), .int (zI (mk))] tyX5 (zu_eq _ _ _ _) rfl iX5 tyX5_ok nmX5 (by decide) w4 rfl rfl rfl rfl (Nat.le_of_ble_eq_true rfl) rfl dX5_becomeLike_29 rfl ?_
  refine zr_view (zu_zu _ _ _ _ _ _) ?_
  refine zr_aload_n X 33 0 dX5_becomeLike_32 rfl rfl ?_
  refine zr_aload_n X 34 1 dX5_becomeLike_33 rfl rfl ?_
  refine zr_get X 37 6 4 (zu_eq _ _ _ _) rfl iX5 (by decide) w5 rfl rfl dX5_becomeLike_34 rfl ?_
  refine zr_put X 40 6 4 [.ref r, .int (zI (st)), .int (zI (cap)), .int (zI (lim)), .int (zI (pos)), .int (zI (mk))] tyX5 (zu_eq _ _ _ _) rfl iX5 tyX5_ok nmX5 (by decide) w5 rfl rfl rfl rfl (Nat.le_of_ble_eq_true rfl) rfl dX5_becomeLike_37 rfl ?_
  refine zr_view (zu_zu _ _ _ _ _ _) ?_
  refine zr_aload_n X 41 0 dX5_becomeLike_40 rfl rfl ?_
  refine zr_aload_n X 42 1 dX5_becomeLike_41 rfl rfl ?_
  refine zr_get X 45 6 5 (zu_eq _ _ _ _) rfl iX5 (by decide) w6 rfl rfl dX5_becomeLike_42 rfl ?_
  refine zr_put X 48 6 5 [.ref r, .int (zI (st)), .int (zI (cap)), .int (zI (lim)), .int (zI (pos)), .int (zI (mk))] tyX5 (zu_eq _ _ _ _) rfl iX5 tyX5_ok nmX5 (by decide) w6 rfl rfl rfl rfl (Nat.le_of_ble_eq_true rfl) rfl dX5_becomeLike_45 rfl ?_
  refine zr_view (zu_zu _ _ _ _ _ _) ?_
  exact zr_vret X rfl ⟨rfl, zu_id hw⟩ dX5_becomeLike_48
set_option maxRecDepth 100000 in
set_option maxHeartbeats 4000000 in
theorem m_X5_becomeSlice_ne (l : Launch) (Γ : zGam) {V : zV} {w o r r0 tg to : Nat} {st cap lim pos mk st0 cap0 lim0 pos0 mk0 : Int} (hw : V w = some (tg, .inr (6, [.ref r0, .int (zI st0), .int (zI cap0), .int (zI lim0), .int (zI pos0), .int (zI mk0)]))) (ho : V o = some (to, .inr (6, [.ref r, .int (zI st), .int (zI cap), .int (zI lim), .int (zI pos), .int (zI mk)]))) (hne : w ≠ o) (hb : 0 ≤ pos ∧ pos ≤ lim ∧ lim ≤ 1000) : zM l Γ 1 yX5_becomeSlice wsX5_becomeSlice 0 0 V [.ref w, .ref o] (fun rv V' => rv = none ∧ V' = zu V w tg (.inr (6, [.ref r, .int (zI (st + pos)), .int (zI (lim - pos)), .int (zI (lim - pos)), .int (zI (0)), .int (zI (-9))]))) := by
  have w0 : Cond.fieldLink RX5 15 "Sashwords$Window" "row" "[C" ∈ wsX5_becomeSlice := by decide +kernel
  have iX5 : ∀ w ∈ u_ws RX5 TX5 6, w ∈ wsX5_becomeSlice := by decide +kernel
  have w2 : Cond.fieldLink RX5 38 "Sashwords$Window" "start" "I" ∈ wsX5_becomeSlice := by decide +kernel
  have w3 : Cond.fieldLink RX5 31 "Sashwords$Window" "position" "I" ∈ wsX5_becomeSlice := by decide +kernel
  have w4 : Cond.fieldLink RX5 21 "Sashwords$Window" "capacity" "I" ∈ wsX5_becomeSlice := by decide +kernel
  refine zM_of (cc := cX5_becomeSlice) (nL := 3) (ret := none) (own := RX5) (by decide +kernel) rfl rfl (Nat.le_of_ble_eq_true rfl) (fun C X hi0 => ?_)
  show zG C V 0 0 0 [(0, .ref w), (1, .ref o)] []
  refine zr_aload_n X 1 1 dX5_becomeSlice_0 rfl rfl ?_
  refine zr_callV (kc' := 0) (ks' := 0) X 4 0 (m_X5_size l Γ ho (by first | with_reducible assumption | decide | omega)) gX5_becomeSlice_X5_size rfl (by decide +kernel) rfl (by decide) ho rfl rfl (Nat.le_of_ble_eq_true rfl) dX5_becomeSlice_1 rfl (by first | with_reducible assumption | decide | omega) (by first | with_reducible assumption | decide | omega) (fun rv1 V2 hp3 => ?_)
  rw [hp3.1, hp3.2]
  show zG C V 0 0 4 [(0, .ref w), (1, .ref o)] [.int (zI (lim - pos))]
  refine zr_istore_n X 5 [(2, .int (zI (lim - pos))), (0, .ref w), (1, .ref o)] dX5_becomeSlice_4 rfl (by decide) rfl ?_
  refine zr_aload_n X 6 1 dX5_becomeSlice_5 rfl rfl ?_
  refine zr_aload_n X 7 2 dX5_becomeSlice_6 rfl rfl ?_
  refine zr_get X 10 6 0 ho rfl iX5 (by decide) w0 rfl rfl dX5_becomeSlice_7 rfl ?_
  refine zr_put X 13 6 0 [.ref r, .int (zI (st0)), .int (zI (cap0)), .int (zI (lim0)), .int (zI (pos0)), .int (zI (mk0))] tyX5 hw rfl iX5 tyX5_ok nmX5 (by decide) w0 rfl rfl rfl rfl (Nat.le_of_ble_eq_true rfl) rfl dX5_becomeSlice_10 rfl ?_
  refine zr_aload_n X 14 1 dX5_becomeSlice_13 rfl rfl ?_
  refine zr_aload_n X 15 2 dX5_becomeSlice_14 rfl rfl ?_
  refine zr_get X 18 6 1 ((zu_ne (Ne.symm hne)).trans ho) rfl iX5 (by decide) w2 rfl rfl dX5_becomeSlice_15 rfl ?_
  refine zr_aload_n X 19 2 dX5_becomeSlice_18 rfl rfl ?_
  refine zr_get X 22 6 4 ((zu_ne (Ne.symm hne)).trans ho) rfl iX5 (by decide) w3 rfl rfl dX5_becomeSlice_19 rfl ?_
  refine zr_iadd X 23 dX5_becomeSlice_22 rfl ?_
  refine zr_put X 26 6 1 [.ref r, .int (zI (st + pos)), .int (zI (cap0)), .int (zI (lim0)), .int (zI (pos0)), .int (zI (mk0))] tyX5 (zu_eq _ _ _ _) rfl iX5 tyX5_ok nmX5 (by decide) w2 rfl rfl rfl rfl (Nat.le_of_ble_eq_true rfl) rfl dX5_becomeSlice_23 rfl ?_
  refine zr_view (zu_zu _ _ _ _ _ _) ?_
  refine zr_aload_n X 27 1 dX5_becomeSlice_26 rfl rfl ?_
  refine zr_iload_n X 28 0 dX5_becomeSlice_27 rfl rfl ?_
  refine zr_put X 31 6 2 [.ref r, .int (zI (st + pos)), .int (zI (lim - pos)), .int (zI (lim0)), .int (zI (pos0)), .int (zI (mk0))] tyX5 (zu_eq _ _ _ _) rfl iX5 tyX5_ok nmX5 (by decide) w4 rfl rfl rfl rfl (Nat.le_of_ble_eq_true rfl) rfl dX5_becomeSlice_28 rfl ?_
  refine zr_view (zu_zu _ _ _ _ _ _) ?_
  refine zr_aload_n X 32 1 dX5_becomeSlice_31 rfl rfl ?_
  refine zr_iconst X 33 dX5_becomeSlice_32 rfl ?_
  refine zr_iload_n X 34 0 dX5_becomeSlice_33 rfl rfl ?_
  refine zr_callV (kc' := 0) (ks' := 0) X 37 2 (m_X5_goTo l Γ (p := 0) (q := lim - pos) (zu_eq _ _ _ _)) gX5_becomeSlice_X5_goTo rfl (by decide +kernel) rfl (by decide) (zu_eq _ _ _ _) rfl rfl (Nat.le_of_ble_eq_true rfl) dX5_becomeSlice_34 rfl (by first | with_reducible assumption | decide | omega) (by first | with_reducible assumption | decide | omega) (fun rv4 V5 hp6 => ?_)
  rw [hp6.1, hp6.2]
  rw [zu_zu]
  show zG C (zu V w tg (.inr (6, [.ref r, .int (zI (st + pos)), .int (zI (lim - pos)), .int (zI (lim - pos)), .int (zI (0)), .int (zI (-9))]))) 0 0 37 [(2, .int (zI (lim - pos))), (0, .ref w), (1, .ref o)] []
  exact zr_vret X rfl ⟨rfl, rfl⟩ dX5_becomeSlice_37
set_option maxRecDepth 100000 in
set_option maxHeartbeats 4000000 in
theorem m_X5_becomeSlice_eq (l : Launch) (Γ : zGam) {V : zV} {w r tg : Nat} {st cap lim pos mk : Int} (hw : V w = some (tg, .inr (6, [.ref r, .int (zI st), .int (zI cap), .int (zI lim), .int (zI pos), .int (zI mk)]))) (hb : 0 ≤ pos ∧ pos ≤ lim ∧ lim ≤ 1000) : zM l Γ 1 yX5_becomeSlice wsX5_becomeSlice 0 0 V [.ref w, .ref w] (fun rv V' => rv = none ∧ V' = zu V w tg (.inr (6, [.ref r, .int (zI (st + pos)), .int (zI (lim - pos)), .int (zI (lim - pos)), .int (zI (0)), .int (zI (-9))]))) := by
  have w0 : Cond.fieldLink RX5 15 "Sashwords$Window" "row" "[C" ∈ wsX5_becomeSlice := by decide +kernel
  have iX5 : ∀ w ∈ u_ws RX5 TX5 6, w ∈ wsX5_becomeSlice := by decide +kernel
  have w2 : Cond.fieldLink RX5 38 "Sashwords$Window" "start" "I" ∈ wsX5_becomeSlice := by decide +kernel
  have w3 : Cond.fieldLink RX5 31 "Sashwords$Window" "position" "I" ∈ wsX5_becomeSlice := by decide +kernel
  have w4 : Cond.fieldLink RX5 21 "Sashwords$Window" "capacity" "I" ∈ wsX5_becomeSlice := by decide +kernel
  refine zM_of (cc := cX5_becomeSlice) (nL := 3) (ret := none) (own := RX5) (by decide +kernel) rfl rfl (Nat.le_of_ble_eq_true rfl) (fun C X hi0 => ?_)
  show zG C V 0 0 0 [(0, .ref w), (1, .ref w)] []
  refine zr_aload_n X 1 1 dX5_becomeSlice_0 rfl rfl ?_
  refine zr_callV (kc' := 0) (ks' := 0) X 4 0 (m_X5_size l Γ hw (by first | with_reducible assumption | decide | omega)) gX5_becomeSlice_X5_size rfl (by decide +kernel) rfl (by decide) hw rfl rfl (Nat.le_of_ble_eq_true rfl) dX5_becomeSlice_1 rfl (by first | with_reducible assumption | decide | omega) (by first | with_reducible assumption | decide | omega) (fun rv1 V2 hp3 => ?_)
  rw [hp3.1, hp3.2]
  show zG C V 0 0 4 [(0, .ref w), (1, .ref w)] [.int (zI (lim - pos))]
  refine zr_istore_n X 5 [(2, .int (zI (lim - pos))), (0, .ref w), (1, .ref w)] dX5_becomeSlice_4 rfl (by decide) rfl ?_
  refine zr_aload_n X 6 1 dX5_becomeSlice_5 rfl rfl ?_
  refine zr_aload_n X 7 2 dX5_becomeSlice_6 rfl rfl ?_
  refine zr_get X 10 6 0 hw rfl iX5 (by decide) w0 rfl rfl dX5_becomeSlice_7 rfl ?_
  refine zr_put X 13 6 0 [.ref r, .int (zI (st)), .int (zI (cap)), .int (zI (lim)), .int (zI (pos)), .int (zI (mk))] tyX5 hw rfl iX5 tyX5_ok nmX5 (by decide) w0 rfl rfl rfl rfl (Nat.le_of_ble_eq_true rfl) rfl dX5_becomeSlice_10 rfl ?_
  refine zr_aload_n X 14 1 dX5_becomeSlice_13 rfl rfl ?_
  refine zr_aload_n X 15 2 dX5_becomeSlice_14 rfl rfl ?_
  refine zr_get X 18 6 1 (zu_eq _ _ _ _) rfl iX5 (by decide) w2 rfl rfl dX5_becomeSlice_15 rfl ?_
  refine zr_aload_n X 19 2 dX5_becomeSlice_18 rfl rfl ?_
  refine zr_get X 22 6 4 (zu_eq _ _ _ _) rfl iX5 (by decide) w3 rfl rfl dX5_becomeSlice_19 rfl ?_
  refine zr_iadd X 23 dX5_becomeSlice_22 rfl ?_
  refine zr_put X 26 6 1 [.ref r, .int (zI (st + pos)), .int (zI (cap)), .int (zI (lim)), .int (zI (pos)), .int (zI (mk))] tyX5 (zu_eq _ _ _ _) rfl iX5 tyX5_ok nmX5 (by decide) w2 rfl rfl rfl rfl (Nat.le_of_ble_eq_true rfl) rfl dX5_becomeSlice_23 rfl ?_
  refine zr_view (zu_zu _ _ _ _ _ _) ?_
  refine zr_aload_n X 27 1 dX5_becomeSlice_26 rfl rfl ?_
  refine zr_iload_n X 28 0 dX5_becomeSlice_27 rfl rfl ?_
  refine zr_put X 31 6 2 [.ref r, .int (zI (st + pos)), .int (zI (lim - pos)), .int (zI (lim)), .int (zI (pos)), .int (zI (mk))] tyX5 (zu_eq _ _ _ _) rfl iX5 tyX5_ok nmX5 (by decide) w4 rfl rfl rfl rfl (Nat.le_of_ble_eq_true rfl) rfl dX5_becomeSlice_28 rfl ?_
  refine zr_view (zu_zu _ _ _ _ _ _) ?_
  refine zr_aload_n X 32 1 dX5_becomeSlice_31 rfl rfl ?_
  refine zr_iconst X 33 dX5_becomeSlice_32 rfl ?_
  refine zr_iload_n X 34 0 dX5_becomeSlice_33 rfl rfl ?_
  refine zr_callV (kc' := 0) (ks' := 0) X 37 2 (m_X5_goTo l Γ (p := 0) (q := lim - pos) (zu_eq _ _ _ _)) gX5_becomeSlice_X5_goTo rfl (by decide +kernel) rfl (by decide) (zu_eq _ _ _ _) rfl rfl (Nat.le_of_ble_eq_true rfl) dX5_becomeSlice_34 rfl (by first | with_reducible assumption | decide | omega) (by first | with_reducible assumption | decide | omega) (fun rv4 V5 hp6 => ?_)
  rw [hp6.1, hp6.2]
  rw [zu_zu]
  show zG C (zu V w tg (.inr (6, [.ref r, .int (zI (st + pos)), .int (zI (lim - pos)), .int (zI (lim - pos)), .int (zI (0)), .int (zI (-9))]))) 0 0 37 [(2, .int (zI (lim - pos))), (0, .ref w), (1, .ref w)] []
  exact zr_vret X rfl ⟨rfl, rfl⟩ dX5_becomeSlice_37
set_option maxRecDepth 100000 in
set_option maxHeartbeats 4000000 in
theorem m_X5_becomePart_ne (l : Launch) (Γ : zGam) {V : zV} {w o r r0 tg to : Nat} {st cap lim pos mk st0 cap0 lim0 pos0 mk0 : Int} {a b : Int} (hw : V w = some (tg, .inr (6, [.ref r0, .int (zI st0), .int (zI cap0), .int (zI lim0), .int (zI pos0), .int (zI mk0)]))) (ho : V o = some (to, .inr (6, [.ref r, .int (zI st), .int (zI cap), .int (zI lim), .int (zI pos), .int (zI mk)]))) (hne : w ≠ o) : zM l Γ 0 yX5_becomePart wsX5_becomePart 0 0 V [.ref w, .ref o, .int (zI (a)), .int (zI (b))] (fun rv V' => rv = none ∧ V' = zu V w tg (.inr (6, [.ref r, .int (zI (st)), .int (zI (cap)), .int (zI (pos + b)), .int (zI (pos + a)), .int (zI (pos + a))]))) := by
  have w0 : Cond.fieldLink RX5 31 "Sashwords$Window" "position" "I" ∈ wsX5_becomePart := by decide +kernel
  have iX5 : ∀ w ∈ u_ws RX5 TX5 6, w ∈ wsX5_becomePart := by decide +kernel
  have w2 : Cond.fieldLink RX5 15 "Sashwords$Window" "row" "[C" ∈ wsX5_becomePart := by decide +kernel
  have w3 : Cond.fieldLink RX5 38 "Sashwords$Window" "start" "I" ∈ wsX5_becomePart := by decide +kernel
  have w4 : Cond.fieldLink RX5 21 "Sashwords$Window" "capacity" "I" ∈ wsX5_becomePart := by decide +kernel
  have w5 : Cond.fieldLink RX5 25 "Sashwords$Window" "limit" "I" ∈ wsX5_becomePart := by decide +kernel
  have w6 : Cond.fieldLink RX5 28 "Sashwords$Window" "mark" "I" ∈ wsX5_becomePart := by decide +kernel
  refine zM_of (cc := cX5_becomePart) (nL := 5) (ret := none) (own := RX5) (by decide +kernel) rfl rfl (Nat.le_of_ble_eq_true rfl) (fun C X hi0 => ?_)
  show zG C V 0 0 0 [(0, .ref w), (1, .ref o), (2, .int (zI (a))), (3, .int (zI (b)))] []
  refine zr_aload_n X 1 1 dX5_becomePart_0 rfl rfl ?_
  refine zr_get X 4 6 4 ho rfl iX5 (by decide) w0 rfl rfl dX5_becomePart_1 rfl ?_
  refine zr_istore X 6 [(4, .int (zI (pos))), (0, .ref w), (1, .ref o), (2, .int (zI (a))), (3, .int (zI (b)))] dX5_becomePart_4 rfl (by decide) rfl ?_
  refine zr_aload_n X 7 1 dX5_becomePart_6 rfl rfl ?_
  refine zr_aload_n X 8 2 dX5_becomePart_7 rfl rfl ?_
  refine zr_get X 11 6 0 ho rfl iX5 (by decide) w2 rfl rfl dX5_becomePart_8 rfl ?_
  refine zr_put X 14 6 0 [.ref r, .int (zI (st0)), .int (zI (cap0)), .int (zI (lim0)), .int (zI (pos0)), .int (zI (mk0))] tyX5 hw rfl iX5 tyX5_ok nmX5 (by decide) w2 rfl rfl rfl rfl (Nat.le_of_ble_eq_true rfl) rfl dX5_becomePart_11 rfl ?_
  refine zr_aload_n X 15 1 dX5_becomePart_14 rfl rfl ?_
  refine zr_aload_n X 16 2 dX5_becomePart_15 rfl rfl ?_
  refine zr_get X 19 6 1 ((zu_ne (Ne.symm hne)).trans ho) rfl iX5 (by decide) w3 rfl rfl dX5_becomePart_16 rfl ?_
  refine zr_put X 22 6 1 [.ref r, .int (zI (st)), .int (zI (cap0)), .int (zI (lim0)), .int (zI (pos0)), .int (zI (mk0))] tyX5 (zu_eq _ _ _ _) rfl iX5 tyX5_ok nmX5 (by decide) w3 rfl rfl rfl rfl (Nat.le_of_ble_eq_true rfl) rfl dX5_becomePart_19 rfl ?_
  refine zr_view (zu_zu _ _ _ _ _ _) ?_
  refine zr_aload_n X 23 1 dX5_becomePart_22 rfl rfl ?_
  refine zr_aload_n X 24 2 dX5_becomePart_23 rfl rfl ?_
  refine zr_get X 27 6 2 ((zu_ne (Ne.symm hne)).trans ho) rfl iX5 (by decide) w4 rfl rfl dX5_becomePart_24 rfl ?_
  refine zr_put X 30 6 2 [.ref r, .int (zI (st)), .int (zI (cap)), .int (zI (lim0)), .int (zI (pos0)), .int (zI (mk0))] tyX5 (zu_eq _ _ _ _) rfl iX5 tyX5_ok nmX5 (by decide) w4 rfl rfl rfl rfl (Nat.le_of_ble_eq_true rfl) rfl dX5_becomePart_27 rfl ?_
  refine zr_view (zu_zu _ _ _ _ _ _) ?_
  refine zr_aload_n X 31 1 dX5_becomePart_30 rfl rfl ?_
  refine zr_iload X 33 0 dX5_becomePart_31 rfl rfl ?_
  refine zr_iload_n X 34 3 dX5_becomePart_33 rfl rfl ?_
  refine zr_iadd X 35 dX5_becomePart_34 rfl ?_
  refine zr_put X 38 6 4 [.ref r, .int (zI (st)), .int (zI (cap)), .int (zI (lim0)), .int (zI (pos + a)), .int (zI (mk0))] tyX5 (zu_eq _ _ _ _) rfl iX5 tyX5_ok nmX5 (by decide) w0 rfl rfl rfl rfl (Nat.le_of_ble_eq_true rfl) rfl dX5_becomePart_35 rfl ?_
  refine zr_view (zu_zu _ _ _ _ _ _) ?_
  refine zr_aload_n X 39 1 dX5_becomePart_38 rfl rfl ?_
  refine zr_iload X 41 0 dX5_becomePart_39 rfl rfl ?_
  refine zr_iload_n X 42 4 dX5_becomePart_41 rfl rfl ?_
  refine zr_iadd X 43 dX5_becomePart_42 rfl ?_
  refine zr_put X 46 6 3 [.ref r, .int (zI (st)), .int (zI (cap)), .int (zI (pos + b)), .int (zI (pos + a)), .int (zI (mk0))] tyX5 (zu_eq _ _ _ _) rfl iX5 tyX5_ok nmX5 (by decide) w5 rfl rfl rfl rfl (Nat.le_of_ble_eq_true rfl) rfl dX5_becomePart_43 rfl ?_
  refine zr_view (zu_zu _ _ _ _ _ _) ?_
  refine zr_aload_n X 47 1 dX5_becomePart_46 rfl rfl ?_
  refine zr_aload_n X 48 1 dX5_becomePart_47 rfl rfl ?_
  refine zr_get X 51 6 4 (zu_eq _ _ _ _) rfl iX5 (by decide) w0 rfl rfl dX5_becomePart_48 rfl ?_
  refine zr_put X 54 6 5 [.ref r, .int (zI (st)), .int (zI (cap)), .int (zI (pos + b)), .int (zI (pos + a)), .int (zI (pos + a))] tyX5 (zu_eq _ _ _ _) rfl iX5 tyX5_ok nmX5 (by decide) w6 rfl rfl rfl rfl (Nat.le_of_ble_eq_true rfl) rfl dX5_becomePart_51 rfl ?_
  refine zr_view (zu_zu _ _ _ _ _ _) ?_
  exact zr_vret X rfl ⟨rfl, rfl⟩ dX5_becomePart_54
set_option maxRecDepth 100000 in
set_option maxHeartbeats 4000000 in
theorem m_X5_becomePart_eq (l : Launch) (Γ : zGam) {V : zV} {w r tg : Nat} {st cap lim pos mk : Int} {a b : Int} (hw : V w = some (tg, .inr (6, [.ref r, .int (zI st), .int (zI cap), .int (zI lim), .int (zI pos), .int (zI mk)]))) : zM l Γ 0 yX5_becomePart wsX5_becomePart 0 0 V [.ref w, .ref w, .int (zI (a)), .int (zI (b))] (fun rv V' => rv = none ∧ V' = zu V w tg (.inr (6, [.ref r, .int (zI (st)), .int (zI (cap)), .int (zI (pos + b)), .int (zI (pos + a)), .int (zI (pos + a))]))) := by
  have w0 : Cond.fieldLink RX5 31 "Sashwords$Window" "position" "I" ∈ wsX5_becomePart := by decide +kernel
  have iX5 : ∀ w ∈ u_ws RX5 TX5 6, w ∈ wsX5_becomePart := by decide +kernel
  have w2 : Cond.fieldLink RX5 15 "Sashwords$Window" "row" "[C" ∈ wsX5_becomePart := by decide +kernel
  have w3 : Cond.fieldLink RX5 38 "Sashwords$Window" "start" "I" ∈ wsX5_becomePart := by decide +kernel
  have w4 : Cond.fieldLink RX5 21 "Sashwords$Window" "capacity" "I" ∈ wsX5_becomePart := by decide +kernel
  have w5 : Cond.fieldLink RX5 25 "Sashwords$Window" "limit" "I" ∈ wsX5_becomePart := by decide +kernel
  have w6 : Cond.fieldLink RX5 28 "Sashwords$Window" "mark" "I" ∈ wsX5_becomePart := by decide +kernel
  refine zM_of (cc := cX5_becomePart) (nL := 5) (ret := none) (own := RX5) (by decide +kernel) rfl rfl (Nat.le_of_ble_eq_true rfl) (fun C X hi0 => ?_)
  show zG C V 0 0 0 [(0, .ref w), (1, .ref w), (2, .int (zI (a))), (3, .int (zI (b)))] []
  refine zr_aload_n X 1 1 dX5_becomePart_0 rfl rfl ?_
  refine zr_get X 4 6 4 hw rfl iX5 (by decide) w0 rfl rfl dX5_becomePart_1 rfl ?_
  refine zr_istore X 6 [(4, .int (zI (pos))), (0, .ref w), (1, .ref w), (2, .int (zI (a))), (3, .int (zI (b)))] dX5_becomePart_4 rfl (by decide) rfl ?_
  refine zr_aload_n X 7 1 dX5_becomePart_6 rfl rfl ?_
  refine zr_aload_n X 8 2 dX5_becomePart_7 rfl rfl ?_
  refine zr_get X 11 6 0 hw rfl iX5 (by decide) w2 rfl rfl dX5_becomePart_8 rfl ?_
  refine zr_put X 14 6 0 [.ref r, .int (zI (st)), .int (zI (cap)), .int (zI (lim)), .int (zI (pos)), .int (zI (mk))] tyX5 hw rfl iX5 tyX5_ok nmX5 (by decide) w2 rfl rfl rfl rfl (Nat.le_of_ble_eq_true rfl) rfl dX5_becomePart_11 rfl ?_
  refine zr_aload_n X 15 1 dX5_becomePart_14 rfl rfl ?_
  refine zr_aload_n X 16 2 dX5_becomePart_15 rfl rfl ?_
  refine zr_get X 19 6 1 (zu_eq _ _ _ _) rfl iX5 (by decide) w3 rfl rfl dX5_becomePart_16 rfl ?_
  refine zr_put X 22 6 1 [.ref r, .int (zI (st)), .int (zI (cap)), .int (zI (lim)), .int (zI (pos)), .int (zI (mk))] tyX5 (zu_eq _ _ _ _) rfl iX5 tyX5_ok nmX5 (by decide) w3 rfl rfl rfl rfl (Nat.le_of_ble_eq_true rfl) rfl dX5_becomePart_19 rfl ?_
  refine zr_view (zu_zu _ _ _ _ _ _) ?_
  refine zr_aload_n X 23 1 dX5_becomePart_22 rfl rfl ?_
  refine zr_aload_n X 24 2 dX5_becomePart_23 rfl rfl ?_
  refine zr_get X 27 6 2 (zu_eq _ _ _ _) rfl iX5 (by decide) w4 rfl rfl dX5_becomePart_24 rfl ?_
  refine zr_put X 30 6 2 [.ref r, .int (zI (st)), .int (zI (cap)), .int (zI (lim)), .int (zI (pos)), .int (zI (mk))] tyX5 (zu_eq _ _ _ _) rfl iX5 tyX5_ok nmX5 (by decide) w4 rfl rfl rfl rfl (Nat.le_of_ble_eq_true rfl) rfl dX5_becomePart_27 rfl ?_
  refine zr_view (zu_zu _ _ _ _ _ _) ?_
  refine zr_aload_n X 31 1 dX5_becomePart_30 rfl rfl ?_
  refine zr_iload X 33 0 dX5_becomePart_31 rfl rfl ?_
  refine zr_iload_n X 34 3 dX5_becomePart_33 rfl rfl ?_
  refine zr_iadd X 35 dX5_becomePart_34 rfl ?_
  refine zr_put X 38 6 4 [.ref r, .int (zI (st)), .int (zI (cap)), .int (zI (lim)), .int (zI (pos + a)), .int (zI (mk))] tyX5 (zu_eq _ _ _ _) rfl iX5 tyX5_ok nmX5 (by decide) w0 rfl rfl rfl rfl (Nat.le_of_ble_eq_true rfl) rfl dX5_becomePart_35 rfl ?_
  refine zr_view (zu_zu _ _ _ _ _ _) ?_
  refine zr_aload_n X 39 1 dX5_becomePart_38 rfl rfl ?_
  refine zr_iload X 41 0 dX5_becomePart_39 rfl rfl ?_
  refine zr_iload_n X 42 4 dX5_becomePart_41 rfl rfl ?_
  refine zr_iadd X 43 dX5_becomePart_42 rfl ?_
  refine zr_put X 46 6 3 [.ref r, .int (zI (st)), .int (zI (cap)), .int (zI (pos + b)), .int (zI (pos + a)), .int (zI (mk))] tyX5 (zu_eq _ _ _ _) rfl iX5 tyX5_ok nmX5 (by decide) w5 rfl rfl rfl rfl (Nat.le_of_ble_eq_true rfl) rfl dX5_becomePart_43 rfl ?_
  refine zr_view (zu_zu _ _ _ _ _ _) ?_
  refine zr_aload_n X 47 1 dX5_becomePart_46 rfl rfl ?_
  refine zr_aload_n X 48 1 dX5_becomePart_47 rfl rfl ?_
  refine zr_get X 51 6 4 (zu_eq _ _ _ _) rfl iX5 (by decide) w0 rfl rfl dX5_becomePart_48 rfl ?_
  refine zr_put X 54 6 5 [.ref r, .int (zI (st)), .int (zI (cap)), .int (zI (pos + b)), .int (zI (pos + a)), .int (zI (pos + a))] tyX5 (zu_eq _ _ _ _) rfl iX5 tyX5_ok nmX5 (by decide) w6 rfl rfl rfl rfl (Nat.le_of_ble_eq_true rfl) rfl dX5_becomePart_51 rfl ?_
  refine zr_view (zu_zu _ _ _ _ _ _) ?_
  exact zr_vret X rfl ⟨rfl, rfl⟩ dX5_becomePart_54
set_option maxRecDepth 100000 in
set_option maxHeartbeats 4000000 in
theorem m_X5_isOrdered (l : Launch) (Γ : zGam) {V : zV} {w r tg n : Nat} {st cap lim pos mk : Int} (hw : V w = some (tg, .inr (6, [.ref r, .int (zI st), .int (zI cap), .int (zI lim), .int (zI pos), .int (zI mk)]))) (hb : zWb st cap lim pos mk n) : zM l Γ 0 yX5_isOrdered wsX5_isOrdered 0 0 V [.ref w] (fun rv V' => rv = some (.int (zI 1)) ∧ V' = V) := by
  obtain ⟨hb1, hb2, hb3, hb4, hb5, hb6, hb7, hb8⟩ := id hb
  have w0 : Cond.fieldLink RX5 28 "Sashwords$Window" "mark" "I" ∈ wsX5_isOrdered := by decide +kernel
  have iX5 : ∀ w ∈ u_ws RX5 TX5 6, w ∈ wsX5_isOrdered := by decide +kernel
  have w2 : Cond.fieldLink RX5 31 "Sashwords$Window" "position" "I" ∈ wsX5_isOrdered := by decide +kernel
  have w3 : Cond.fieldLink RX5 25 "Sashwords$Window" "limit" "I" ∈ wsX5_isOrdered := by decide +kernel
  have w4 : Cond.fieldLink RX5 21 "Sashwords$Window" "capacity" "I" ∈ wsX5_isOrdered := by decide +kernel
  refine zM_of (cc := cX5_isOrdered) (nL := 2) (ret := (some .boolean)) (own := RX5) (by decide +kernel) rfl rfl (Nat.le_of_ble_eq_true rfl) (fun C X hi0 => ?_)
  show zG C V 0 0 0 [(0, .ref w)] []
  refine zr_aload_n X 1 0 dX5_isOrdered_0 rfl rfl ?_
  refine zr_get X 4 6 5 hw rfl iX5 (by decide) w0 rfl rfl dX5_isOrdered_1 rfl ?_
  refine zr_bipush X 6 (-9) dX5_isOrdered_4 rfl (by decide) ?_
  refine zr_icmp_eq X 28 9 dX5_isOrdered_6 rfl rfl (by first | with_reducible assumption | decide | omega) (by first | with_reducible assumption | decide | omega) (fun bq1 => ?_) (fun bq1 => ?_)
  · refine zr_iconst X 29 dX5_isOrdered_28 rfl ?_
    refine zr_goto X 33 dX5_isOrdered_29 rfl ?_
    refine zr_istore_n X 34 [(1, .int (zI (1))), (0, .ref w)] dX5_isOrdered_33 rfl (by decide) rfl ?_
    refine zr_iload_n X 35 0 dX5_isOrdered_34 rfl rfl ?_
    refine zr_if_eq X 72 38 dX5_isOrdered_35 rfl rfl (by first | with_reducible assumption | decide | omega) (fun bq2 => absurd bq2 (by first | with_reducible assumption | decide | omega)) (fun bq2 => ?_)
    refine zr_iconst X 39 dX5_isOrdered_38 rfl ?_
    refine zr_aload_n X 40 1 dX5_isOrdered_39 rfl rfl ?_
    refine zr_get X 43 6 4 hw rfl iX5 (by decide) w2 rfl rfl dX5_isOrdered_40 rfl ?_
    refine zr_icmp_gt X 72 46 dX5_isOrdered_43 rfl rfl (by first | with_reducible assumption | decide | omega) (by first | with_reducible assumption | decide | omega) (fun bq3 => ?_) (fun bq3 => ?_)
    · refine zr_iconst X 73 dX5_isOrdered_72 rfl ?_
      exact zr_zret X rfl rfl (by exfalso; omega) dX5_isOrdered_73
    · refine zr_aload_n X 47 1 dX5_isOrdered_46 rfl rfl ?_
      refine zr_get X 50 6 4 hw rfl iX5 (by decide) w2 rfl rfl dX5_isOrdered_47 rfl ?_
      refine zr_aload_n X 51 1 dX5_isOrdered_50 rfl rfl ?_
      refine zr_get X 54 6 3 hw rfl iX5 (by decide) w3 rfl rfl dX5_isOrdered_51 rfl ?_
      refine zr_icmp_gt X 72 57 dX5_isOrdered_54 rfl rfl (by first | with_reducible assumption | decide | omega) (by first | with_reducible assumption | decide | omega) (fun bq4 => ?_) (fun bq4 => ?_)
      · refine zr_iconst X 73 dX5_isOrdered_72 rfl ?_
        exact zr_zret X rfl rfl (by exfalso; omega) dX5_isOrdered_73
      · refine zr_aload_n X 58 1 dX5_isOrdered_57 rfl rfl ?_
        refine zr_get X 61 6 3 hw rfl iX5 (by decide) w3 rfl rfl dX5_isOrdered_58 rfl ?_
        refine zr_aload_n X 62 1 dX5_isOrdered_61 rfl rfl ?_
        refine zr_get X 65 6 2 hw rfl iX5 (by decide) w4 rfl rfl dX5_isOrdered_62 rfl ?_
        refine zr_icmp_gt X 72 68 dX5_isOrdered_65 rfl rfl (by first | with_reducible assumption | decide | omega) (by first | with_reducible assumption | decide | omega) (fun bq5 => ?_) (fun bq5 => ?_)
        · refine zr_iconst X 73 dX5_isOrdered_72 rfl ?_
          exact zr_zret X rfl rfl (by exfalso; omega) dX5_isOrdered_73
        · refine zr_iconst X 69 dX5_isOrdered_68 rfl ?_
          refine zr_goto X 73 dX5_isOrdered_69 rfl ?_
          exact zr_zret X rfl rfl ⟨rfl, rfl⟩ dX5_isOrdered_73
  · refine zr_iconst X 10 dX5_isOrdered_9 rfl ?_
    refine zr_aload_n X 11 0 dX5_isOrdered_10 rfl rfl ?_
    refine zr_get X 14 6 5 hw rfl iX5 (by decide) w0 rfl rfl dX5_isOrdered_11 rfl ?_
    refine zr_icmp_gt X 32 17 dX5_isOrdered_14 rfl rfl (by first | with_reducible assumption | decide | omega) (by first | with_reducible assumption | decide | omega) (fun bq6 => ?_) (fun bq6 => ?_)
    · refine zr_iconst X 33 dX5_isOrdered_32 rfl ?_
      refine zr_istore_n X 34 [(1, .int (zI (0))), (0, .ref w)] dX5_isOrdered_33 rfl (by decide) rfl ?_
      refine zr_iload_n X 35 0 dX5_isOrdered_34 rfl rfl ?_
      refine zr_if_eq X 72 38 dX5_isOrdered_35 rfl rfl (by first | with_reducible assumption | decide | omega) (fun bq7 => ?_) (fun bq7 => absurd bq7 (by first | with_reducible assumption | decide | omega))
      refine zr_iconst X 73 dX5_isOrdered_72 rfl ?_
      exact zr_zret X rfl rfl (by exfalso; omega) dX5_isOrdered_73
    · refine zr_aload_n X 18 0 dX5_isOrdered_17 rfl rfl ?_
      refine zr_get X 21 6 5 hw rfl iX5 (by decide) w0 rfl rfl dX5_isOrdered_18 rfl ?_
      refine zr_aload_n X 22 0 dX5_isOrdered_21 rfl rfl ?_
      refine zr_get X 25 6 4 hw rfl iX5 (by decide) w2 rfl rfl dX5_isOrdered_22 rfl ?_
      refine zr_icmp_gt X 32 28 dX5_isOrdered_25 rfl rfl (by first | with_reducible assumption | decide | omega) (by first | with_reducible assumption | decide | omega) (fun bq8 => ?_) (fun bq8 => ?_)
      · refine zr_iconst X 33 dX5_isOrdered_32 rfl ?_
        refine zr_istore_n X 34 [(1, .int (zI (0))), (0, .ref w)] dX5_isOrdered_33 rfl (by decide) rfl ?_
        refine zr_iload_n X 35 0 dX5_isOrdered_34 rfl rfl ?_
        refine zr_if_eq X 72 38 dX5_isOrdered_35 rfl rfl (by first | with_reducible assumption | decide | omega) (fun bq9 => ?_) (fun bq9 => absurd bq9 (by first | with_reducible assumption | decide | omega))
        refine zr_iconst X 73 dX5_isOrdered_72 rfl ?_
        exact zr_zret X rfl rfl (by exfalso; omega) dX5_isOrdered_73
      · refine zr_iconst X 29 dX5_isOrdered_28 rfl ?_
        refine zr_goto X 33 dX5_isOrdered_29 rfl ?_
        refine zr_istore_n X 34 [(1, .int (zI (1))), (0, .ref w)] dX5_isOrdered_33 rfl (by decide) rfl ?_
        refine zr_iload_n X 35 0 dX5_isOrdered_34 rfl rfl ?_
        refine zr_if_eq X 72 38 dX5_isOrdered_35 rfl rfl (by first | with_reducible assumption | decide | omega) (fun bq10 => absurd bq10 (by first | with_reducible assumption | decide | omega)) (fun bq10 => ?_)
        refine zr_iconst X 39 dX5_isOrdered_38 rfl ?_
        refine zr_aload_n X 40 1 dX5_isOrdered_39 rfl rfl ?_
        refine zr_get X 43 6 4 hw rfl iX5 (by decide) w2 rfl rfl dX5_isOrdered_40 rfl ?_
        refine zr_icmp_gt X 72 46 dX5_isOrdered_43 rfl rfl (by first | with_reducible assumption | decide | omega) (by first | with_reducible assumption | decide | omega) (fun bq11 => ?_) (fun bq11 => ?_)
        · refine zr_iconst X 73 dX5_isOrdered_72 rfl ?_
          exact zr_zret X rfl rfl (by exfalso; omega) dX5_isOrdered_73
        · refine zr_aload_n X 47 1 dX5_isOrdered_46 rfl rfl ?_
          refine zr_get X 50 6 4 hw rfl iX5 (by decide) w2 rfl rfl dX5_isOrdered_47 rfl ?_
          refine zr_aload_n X 51 1 dX5_isOrdered_50 rfl rfl ?_
          refine zr_get X 54 6 3 hw rfl iX5 (by decide) w3 rfl rfl dX5_isOrdered_51 rfl ?_
          refine zr_icmp_gt X 72 57 dX5_isOrdered_54 rfl rfl (by first | with_reducible assumption | decide | omega) (by first | with_reducible assumption | decide | omega) (fun bq12 => ?_) (fun bq12 => ?_)
          · refine zr_iconst X 73 dX5_isOrdered_72 rfl ?_
            exact zr_zret X rfl rfl (by exfalso; omega) dX5_isOrdered_73
          · refine zr_aload_n X 58 1 dX5_isOrdered_57 rfl rfl ?_
            refine zr_get X 61 6 3 hw rfl iX5 (by decide) w3 rfl rfl dX5_isOrdered_58 rfl ?_
            refine zr_aload_n X 62 1 dX5_isOrdered_61 rfl rfl ?_
            refine zr_get X 65 6 2 hw rfl iX5 (by decide) w4 rfl rfl dX5_isOrdered_62 rfl ?_
            refine zr_icmp_gt X 72 68 dX5_isOrdered_65 rfl rfl (by first | with_reducible assumption | decide | omega) (by first | with_reducible assumption | decide | omega) (fun bq13 => ?_) (fun bq13 => ?_)
            · refine zr_iconst X 73 dX5_isOrdered_72 rfl ?_
              exact zr_zret X rfl rfl (by exfalso; omega) dX5_isOrdered_73
            · refine zr_iconst X 69 dX5_isOrdered_68 rfl ?_
              refine zr_goto X 73 dX5_isOrdered_69 rfl ?_
              exact zr_zret X rfl rfl ⟨rfl, rfl⟩ dX5_isOrdered_73
