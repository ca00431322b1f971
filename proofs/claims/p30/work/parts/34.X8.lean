/-! the model: its helpers -/
theorem zmf_36 {τ : Nat → Int} {k : Int} (h : τ 27 = τ 28 - τ 29) : zmf τ (τ 26) (τ 28) (τ 29) k = zf τ 36 k := by
  funext j
  unfold zmf zf
  by_cases h1 : j = 26
  · simp [h1]
  · by_cases h2 : j = 27
    · simp [h2, h]
    · by_cases h3 : j = 28
      · simp [h3]
      · by_cases h4 : j = 29
        · simp [h4]
        · simp [h1, h2, h3, h4]
theorem zdn_zf {τ : Nat → Int} : zf τ (30 + 0) (τ 30 + 1) = zdn τ := by
  funext j
  unfold zdn zx4 zf
  by_cases h1 : j = 30
  · simp [h1]
  · by_cases h2 : j = 31
    · simp [h2]
    · by_cases h3 : j = 32
      · simp [h3]
      · by_cases h4 : j = 33
        · simp [h4]
        · simp [h1, h2, h3, h4]
theorem zrf_zf {τ : Nat → Int} : zf τ (30 + 1) (τ 31 + 1) = zrf τ := by
  funext j
  unfold zrf zx4 zf
  by_cases h1 : j = 30
  · simp [h1]
  · by_cases h2 : j = 31
    · simp [h2]
    · by_cases h3 : j = 32
      · simp [h3]
      · by_cases h4 : j = 33
        · simp [h4]
        · simp [h1, h2, h3, h4]
theorem zv5_2 {V : zV} {a tg : Nat} {aC : Nat → ClassId} {x1 x2 x3 x4 x5 x : Int} : zu V a tg (za aC 0 5 (zf (zr5 x1 x2 x3 x4 x5) (2 : Int).toNat x)) = zu V a tg (za aC 0 5 (zr5 x1 x2 x x4 x5)) := by
  rw [show (2 : Int).toNat = 2 from rfl, zr5_2]
theorem zv5_3 {V : zV} {a tg : Nat} {aC : Nat → ClassId} {x1 x2 x3 x4 x5 x : Int} : zu V a tg (za aC 0 5 (zf (zr5 x1 x2 x3 x4 x5) (3 : Int).toNat x)) = zu V a tg (za aC 0 5 (zr5 x1 x2 x3 x x5)) := by
  rw [show (3 : Int).toNat = 3 from rfl, zr5_3]
theorem zv5_4 {V : zV} {a tg : Nat} {aC : Nat → ClassId} {x1 x2 x3 x4 x5 x : Int} : zu V a tg (za aC 0 5 (zf (zr5 x1 x2 x3 x4 x5) (4 : Int).toNat x)) = zu V a tg (za aC 0 5 (zr5 x1 x2 x3 x4 x)) := by
  rw [show (4 : Int).toNat = 4 from rfl, zr5_4]
theorem zv5_n {V : zV} {a tg : Nat} {aC : Nat → ClassId} {x1 x2 x3 x4 x5 : Int} : zu V a tg (za aC 0 5 (zf (zf (zf (zf (zf (fun _ => 0) (0 : Int).toNat x1) (1 : Int).toNat x2) (2 : Int).toNat x3) (3 : Int).toNat x4) (4 : Int).toNat x5)) = zu V a tg (za aC 0 5 (zr5 x1 x2 x3 x4 x5)) := congrArg (fun g => zu V a tg (za aC 0 5 g)) zr5_new
theorem znz {y : Int} (h : y = 0 ∨ y = 1) : narrow .boolean (.int (zI y)) = .int (zI y) := by
  rcases h with rfl | rfl <;> rfl
theorem zc.b {f : Nat → Int} (h : zc f) (j : Nat) : 0 ≤ f j ∧ f j ≤ 255 := h j
/-- what the model leaves as it is -/
def zfm (V V' : zV) : Prop := zag (fun t => t < 60 ∧ t ≠ 7) V V'
set_option maxRecDepth 100000 in
set_option maxHeartbeats 4000000 in
theorem m_X8_isNo (l : Launch) (Γ : zGam) {V : zV} {x a b : Int} (hx : -2147483648 ≤ x ∧ x ≤ 2147483647) (ha : -2147483648 ≤ a ∧ a ≤ 2147483647) (hb : -2147483648 ≤ b ∧ b ≤ 2147483647) : zM l Γ 0 yX8_isNo wsX8_isNo 0 0 V [.int (zI (x)), .int (zI (a)), .int (zI (b))] (fun rv V' => (∃ y : Int, rv = some (.int (zI y)) ∧ ((y = 0 ∧ a ≤ x ∧ x ≤ b) ∨ (y = 1 ∧ ¬ (a ≤ x ∧ x ≤ b)))) ∧ V' = V) := by
  refine zM_of (cc := cX8_isNo) (nL := 3) (ret := (some .boolean)) (own := RX8) (by decide +kernel) rfl rfl (Nat.le_of_ble_eq_true rfl) (fun C X hi0 => ?_)
  show zG C V 0 0 0 [(0, .int (zI (x))), (1, .int (zI (a))), (2, .int (zI (b)))] []
  refine zr_iload_n X 1 0 dX8_isNo_0 rfl rfl ?_
  refine zr_iload_n X 2 1 dX8_isNo_1 rfl rfl ?_
  refine zr_icmp_lt X 10 5 dX8_isNo_2 rfl rfl (by first | with_reducible assumption | decide | omega) (by first | with_reducible assumption | decide | omega) (fun bq1 => ?_) (fun bq1 => ?_)
  · refine zr_iconst X 11 dX8_isNo_10 rfl ?_
    refine zr_goto X 15 dX8_isNo_11 rfl ?_
    exact zr_zret X rfl rfl ⟨⟨1, rfl, by omega⟩, rfl⟩ dX8_isNo_15
  · refine zr_iload_n X 6 0 dX8_isNo_5 rfl rfl ?_
    refine zr_iload_n X 7 2 dX8_isNo_6 rfl rfl ?_
    refine zr_icmp_le X 14 10 dX8_isNo_7 rfl rfl (by first | with_reducible assumption | decide | omega) (by first | with_reducible assumption | decide | omega) (fun bq2 => ?_) (fun bq2 => ?_)
    · refine zr_iconst X 15 dX8_isNo_14 rfl ?_
      exact zr_zret X rfl rfl ⟨⟨0, rfl, by omega⟩, rfl⟩ dX8_isNo_15
    · refine zr_iconst X 11 dX8_isNo_10 rfl ?_
      refine zr_goto X 15 dX8_isNo_11 rfl ?_
      exact zr_zret X rfl rfl ⟨⟨1, rfl, by omega⟩, rfl⟩ dX8_isNo_15
set_option maxRecDepth 100000 in
set_option maxHeartbeats 4000000 in
theorem m_X8_isNoWindow (l : Launch) (Γ : zGam) {V : zV} {x : Int} (hx : -2147483648 ≤ x ∧ x ≤ 2147483647) : zM l Γ 1 yX8_isNoWindow wsX8_isNoWindow 0 0 V [.int (zI (x))] (fun rv V' => (∃ y : Int, rv = some (.int (zI y)) ∧ ((y = 0 ∧ 0 ≤ x ∧ x ≤ 5) ∨ (y = 1 ∧ ¬ (0 ≤ x ∧ x ≤ 5)))) ∧ V' = V) := by
  refine zM_of (cc := cX8_isNoWindow) (nL := 1) (ret := (some .boolean)) (own := RX8) (by decide +kernel) rfl rfl (Nat.le_of_ble_eq_true rfl) (fun C X hi0 => ?_)
  show zG C V 0 0 0 [(0, .int (zI (x)))] []
  refine zr_iload_n X 1 0 dX8_isNoWindow_0 rfl rfl ?_
  refine zr_iconst X 2 dX8_isNoWindow_1 rfl ?_
  refine zr_iconst X 3 dX8_isNoWindow_2 rfl ?_
  refine zr_callS (kc' := 0) (ks' := 0) X 6 3 (m_X8_isNo l Γ (V := V) (x := x) (a := 0) (b := 5) (by first | with_reducible assumption | decide | omega) (by first | with_reducible assumption | decide | omega) (by first | with_reducible assumption | decide | omega)) gX8_isNoWindow_X8_isNo rfl (by decide +kernel) rfl (by decide) rfl (Nat.le_of_ble_eq_true rfl) dX8_isNoWindow_3 rfl (by first | with_reducible assumption | decide | omega) (by first | with_reducible assumption | decide | omega) (fun rv1 V2 hp3 => ?_)
  obtain ⟨⟨no4, no4e, no4a⟩, no4v⟩ := hp3
  rw [no4e, no4v]
  show zG C V 0 0 6 [(0, .int (zI (x)))] [.int (zI (no4))]
  exact zr_zret X rfl (znz (by first | with_reducible assumption | decide | omega)) ⟨⟨no4, rfl, by omega⟩, rfl⟩ dX8_isNoWindow_6
set_option maxRecDepth 100000 in
set_option maxHeartbeats 4000000 in
theorem m_X8_isNoSource (l : Launch) (Γ : zGam) {V : zV} {x : Int} (hx : -2147483648 ≤ x ∧ x ≤ 2147483647) : zM l Γ 1 yX8_isNoSource wsX8_isNoSource 0 0 V [.int (zI (x))] (fun rv V' => (∃ y : Int, rv = some (.int (zI y)) ∧ ((y = 0 ∧ 0 ≤ x ∧ x ≤ 7) ∨ (y = 1 ∧ ¬ (0 ≤ x ∧ x ≤ 7)))) ∧ V' = V) := by
  refine zM_of (cc := cX8_isNoSource) (nL := 1) (ret := (some .boolean)) (own := RX8) (by decide +kernel) rfl rfl (Nat.le_of_ble_eq_true rfl) (fun C X hi0 => ?_)
  show zG C V 0 0 0 [(0, .int (zI (x)))] []
  refine zr_iload_n X 1 0 dX8_isNoSource_0 rfl rfl ?_
  refine zr_iconst X 2 dX8_isNoSource_1 rfl ?_
  refine zr_bipush X 4 (7) dX8_isNoSource_2 rfl (by decide) ?_
  refine zr_callS (kc' := 0) (ks' := 0) X 7 3 (m_X8_isNo l Γ (V := V) (x := x) (a := 0) (b := 7) (by first | with_reducible assumption | decide | omega) (by first | with_reducible assumption | decide | omega) (by first | with_reducible assumption | decide | omega)) gX8_isNoSource_X8_isNo rfl (by decide +kernel) rfl (by decide) rfl (Nat.le_of_ble_eq_true rfl) dX8_isNoSource_4 rfl (by first | with_reducible assumption | decide | omega) (by first | with_reducible assumption | decide | omega) (fun rv1 V2 hp3 => ?_)
  obtain ⟨⟨no4, no4e, no4a⟩, no4v⟩ := hp3
  rw [no4e, no4v]
  show zG C V 0 0 7 [(0, .int (zI (x)))] [.int (zI (no4))]
  exact zr_zret X rfl (znz (by first | with_reducible assumption | decide | omega)) ⟨⟨no4, rfl, by omega⟩, rfl⟩ dX8_isNoSource_7
set_option maxRecDepth 100000 in
set_option maxHeartbeats 4000000 in
theorem m_X8_length (l : Launch) (Γ : zGam) {V : zV} {w tg : Nat} {st cp li po mk : Int} (hw : V w = some (tg, za Γ.2.1 0 5 (zr5 st cp li po mk))) (hr : 0 ≤ po ∧ po ≤ li ∧ li ≤ 40) : zM l Γ 0 yX8_length wsX8_length 0 0 V [.ref w] (fun rv V' => rv = some (.int (zI (li - po))) ∧ V' = V) := by
  refine zM_of (cc := cX8_length) (nL := 1) (ret := (some .int)) (own := RX8) (by decide +kernel) rfl rfl (Nat.le_of_ble_eq_true rfl) (fun C X hi0 => ?_)
  show zG C V 0 0 0 [(0, .ref w)] []
  refine zr_aload_n X 1 0 dX8_length_0 rfl rfl ?_
  refine zr_iconst X 2 dX8_length_1 rfl ?_
  refine zr_iald X 3 hw (by first | with_reducible assumption | decide | omega) dX8_length_2 rfl ?_
  show zG C V 0 0 3 [(0, .ref w)] [.int (zI (li))]
  refine zr_aload_n X 4 0 dX8_length_3 rfl rfl ?_
  refine zr_iconst X 5 dX8_length_4 rfl ?_
  refine zr_iald X 6 hw (by first | with_reducible assumption | decide | omega) dX8_length_5 rfl ?_
  show zG C V 0 0 6 [(0, .ref w)] [.int (zI (po)), .int (zI (li))]
  refine zr_isub X 7 dX8_length_6 rfl ?_
  exact zr_iret X rfl ⟨rfl, rfl⟩ dX8_length_7
set_option maxRecDepth 100000 in
set_option maxHeartbeats 4000000 in
theorem m_X8_markOf (l : Launch) (Γ : zGam) {V : zV} {w tg : Nat} {st cp li po mk : Int} (hw : V w = some (tg, za Γ.2.1 0 5 (zr5 st cp li po mk))) (hr : 0 ≤ po ∧ po ≤ li ∧ li ≤ 40) (hmk : -1 ≤ mk ∧ mk ≤ 40) : zM l Γ 0 yX8_markOf wsX8_markOf 0 0 V [.ref w] (fun rv V' => (∃ y : Int, rv = some (.int (zI y)) ∧ ((mk < 0 ∧ y = -9) ∨ (0 ≤ mk ∧ y = mk))) ∧ V' = V) := by
  refine zM_of (cc := cX8_markOf) (nL := 1) (ret := (some .int)) (own := RX8) (by decide +kernel) rfl rfl (Nat.le_of_ble_eq_true rfl) (fun C X hi0 => ?_)
  show zG C V 0 0 0 [(0, .ref w)] []
  refine zr_aload_n X 1 0 dX8_markOf_0 rfl rfl ?_
  refine zr_iconst X 2 dX8_markOf_1 rfl ?_
  refine zr_iald X 3 hw (by first | with_reducible assumption | decide | omega) dX8_markOf_2 rfl ?_
  show zG C V 0 0 3 [(0, .ref w)] [.int (zI (mk))]
  refine zr_if_ge X 11 6 dX8_markOf_3 rfl rfl (by first | with_reducible assumption | decide | omega) (fun bq1 => ?_) (fun bq1 => ?_)
  · refine zr_aload_n X 12 0 dX8_markOf_11 rfl rfl ?_
    refine zr_iconst X 13 dX8_markOf_12 rfl ?_
    refine zr_iald X 14 hw (by first | with_reducible assumption | decide | omega) dX8_markOf_13 rfl ?_
    show zG C V 0 0 14 [(0, .ref w)] [.int (zI (mk))]
    exact zr_iret X rfl ⟨⟨mk, rfl, by omega⟩, rfl⟩ dX8_markOf_14
  · refine zr_bipush X 8 (-9) dX8_markOf_6 rfl (by decide) ?_
    refine zr_goto X 14 dX8_markOf_8 rfl ?_
    exact zr_iret X rfl ⟨⟨-9, rfl, by omega⟩, rfl⟩ dX8_markOf_14
set_option maxRecDepth 100000 in
set_option maxHeartbeats 4000000 in
theorem m_X8_place (l : Launch) (Γ : zGam) {V : zV} {w tg : Nat} {st cp li po mk : Int} {p1 l1 m1 : Int} (hw : V w = some (tg, za Γ.2.1 0 5 (zr5 st cp li po mk))) (hr : 0 ≤ po ∧ po ≤ li ∧ li ≤ 40) : zM l Γ 0 yX8_place wsX8_place 0 0 V [.ref w, .int (zI (p1)), .int (zI (l1)), .int (zI (m1))] (fun rv V' => rv = none ∧ V' = zu V w tg (za Γ.2.1 0 5 (zr5 st cp l1 p1 m1))) := by
  refine zM_of (cc := cX8_place) (nL := 4) (ret := none) (own := RX8) (by decide +kernel) rfl rfl (Nat.le_of_ble_eq_true rfl) (fun C X hi0 => ?_)
  show zG C V 0 0 0 [(0, .ref w), (1, .int (zI (p1))), (2, .int (zI (l1))), (3, .int (zI (m1)))] []
  refine zr_aload_n X 1 0 dX8_place_0 rfl rfl ?_
  refine zr_iconst X 2 dX8_place_1 rfl ?_
  refine zr_iload_n X 3 1 dX8_place_2 rfl rfl ?_
  refine zr_iast X 4 hw (by first | with_reducible assumption | decide | omega) dX8_place_3 rfl ?_
  refine zr_view zv5_3 ?_
  show zG C (zu V w tg (za Γ.2.1 0 5 (zr5 st cp li p1 mk))) 0 0 4 [(0, .ref w), (1, .int (zI (p1))), (2, .int (zI (l1))), (3, .int (zI (m1)))] []
  refine zr_aload_n X 5 0 dX8_place_4 rfl rfl ?_
  refine zr_iconst X 6 dX8_place_5 rfl ?_
  refine zr_iload_n X 7 2 dX8_place_6 rfl rfl ?_
  refine zr_iast X 8 (zu_eq _ _ _ _) (by first | with_reducible assumption | decide | omega) dX8_place_7 rfl ?_
  refine zr_view zv5_2 ?_
  refine zr_view (zu_zu _ _ _ _ _ _) ?_
  show zG C (zu V w tg (za Γ.2.1 0 5 (zr5 st cp l1 p1 mk))) 0 0 8 [(0, .ref w), (1, .int (zI (p1))), (2, .int (zI (l1))), (3, .int (zI (m1)))] []
  refine zr_aload_n X 9 0 dX8_place_8 rfl rfl ?_
  refine zr_iconst X 10 dX8_place_9 rfl ?_
  refine zr_iload_n X 11 3 dX8_place_10 rfl rfl ?_
  refine zr_iast X 12 (zu_eq _ _ _ _) (by first | with_reducible assumption | decide | omega) dX8_place_11 rfl ?_
  refine zr_view zv5_4 ?_
  refine zr_view (zu_zu _ _ _ _ _ _) ?_
  show zG C (zu V w tg (za Γ.2.1 0 5 (zr5 st cp l1 p1 m1))) 0 0 12 [(0, .ref w), (1, .int (zI (p1))), (2, .int (zI (l1))), (3, .int (zI (m1)))] []
  exact zr_vret X rfl ⟨rfl, rfl⟩ dX8_place_12
set_option maxRecDepth 100000 in
set_option maxHeartbeats 4000000 in
theorem m_X8_letter (l : Launch) (Γ : zGam) {V : zV} {x k : Int} (hx : 0 ≤ x ∧ x ≤ 2147483647) (hk : 0 ≤ k ∧ k ≤ 1000) : zM l Γ 0 yX8_letter wsX8_letter 0 0 V [.int (zI (x)), .int (zI (k))] (fun rv V' => (∃ y : Int, rv = some (.int (zI y)) ∧ 97 ≤ y ∧ y ≤ 99) ∧ V' = V) := by
  refine zM_of (cc := cX8_letter) (nL := 4) (ret := (some .int)) (own := RX8) (by decide +kernel) rfl rfl (Nat.le_of_ble_eq_true rfl) (fun C X hi0 => ?_)
  show zG C V 0 0 0 [(0, .int (zI (x))), (1, .int (zI (k)))] []
  refine zr_iload_n X 1 0 dX8_letter_0 rfl rfl ?_
  refine zr_istore_n X 2 [(2, .int (zI (x))), (0, .int (zI (x))), (1, .int (zI (k)))] dX8_letter_1 rfl (by decide) rfl ?_
  refine zr_iconst X 3 dX8_letter_2 rfl ?_
  refine zr_istore_n X 4 [(3, .int (zI (0))), (2, .int (zI (x))), (0, .int (zI (x))), (1, .int (zI (k)))] dX8_letter_3 rfl (by decide) rfl ?_
  refine zr_sub [0, 1, 3, 2] [(3, .int (zI (0))), (2, .int (zI (x))), (1, .int (zI (k))), (0, .int (zI (x)))] rfl ?_
  have loop : ∀ (N : Nat) (x1 : Int) (j : Int), 0 ≤ x1 ∧ x1 ≤ 2147483647 ∧ 0 ≤ j ∧ j ≤ k → (k - j).toNat = N → zG C V 0 0 4 [(3, .int (zI (j))), (2, .int (zI (x1))), (1, .int (zI (k))), (0, .int (zI (x)))] [] := by
    intro N
    induction N using Nat.strongRecOn with
    | _ N ih =>
    intro x1 j hI hN
    obtain ⟨hI1, hI2, hI3, hI4⟩ := id hI
    refine zr_iload_n X 5 0 dX8_letter_4 rfl rfl ?_
    refine zr_iload_n X 6 2 dX8_letter_5 rfl rfl ?_
    refine zr_icmp_ge X 19 9 dX8_letter_6 rfl rfl (by first | with_reducible assumption | decide | omega) (by first | with_reducible assumption | decide | omega) (fun bq1 => ?_) (fun bq1 => ?_)
    · refine zr_bipush X 21 (97) dX8_letter_19 rfl (by decide) ?_
      refine zr_iload_n X 22 1 dX8_letter_21 rfl rfl ?_
      refine zr_iconst X 23 dX8_letter_22 rfl ?_
      refine zr_irem X 24 dX8_letter_23 rfl (by first | with_reducible assumption | decide | omega) (by first | with_reducible assumption | decide | omega) ?_
      refine zr_iadd X 25 dX8_letter_24 rfl ?_
      exact zr_iret X rfl ⟨⟨97 + (x1 % 3), rfl, by omega, by omega⟩, rfl⟩ dX8_letter_25
    · refine zr_iload_n X 10 1 dX8_letter_9 rfl rfl ?_
      refine zr_iconst X 11 dX8_letter_10 rfl ?_
      refine zr_idiv X 12 dX8_letter_11 rfl (by first | with_reducible assumption | decide | omega) (by first | with_reducible assumption | decide | omega) ?_
      refine zr_istore_n X 13 [(2, .int (zI (x1 / 3))), (3, .int (zI (j))), (1, .int (zI (k))), (0, .int (zI (x)))] dX8_letter_12 rfl (by decide) rfl ?_
      refine zr_iinc X 16 1 [(3, .int (zI (j + 1))), (2, .int (zI (x1 / 3))), (1, .int (zI (k))), (0, .int (zI (x)))] dX8_letter_13 rfl rfl (by decide) rfl ?_
      refine zr_goto X 4 dX8_letter_16 rfl ?_
      exact ih _ (by first | with_reducible assumption | decide | omega) (x1 / 3) (j + 1) ⟨by omega, by omega, by omega, by omega⟩ rfl
  exact loop _ x 0 ⟨by omega, by omega, by omega, by omega⟩ rfl
set_option maxRecDepth 100000 in
set_option maxHeartbeats 4000000 in
theorem m_X8_told (l : Launch) (Γ : zGam) {V : zV}{a ta n : Nat} {f : Nat → Int} {fr to : Int} (ha : V a = some (ta, za Γ.2.1 0 n f)) (hac : zc f) (han : n ≤ 200) (h7 : ta ≠ 7) (hft : 0 ≤ fr ∧ fr ≤ 200 ∧ to ≤ n ∧ -1000 ≤ to ∧ to - fr ≤ 160) : zM l Γ 8 yX8_told wsX8_told 3010 6300 V [.ref a, .int (zI (fr)), .int (zI (to))] (fun rv V' => ∃ z : Nat, rv = some (.ref z) ∧ zfr V V') := by
  have w0 : Cond.classLink RX8 66 RJ4 ∈ wsX8_told := by decide +kernel
  have w1 : Cond.instantiable RJ4 4 ∈ wsX8_told := by decide +kernel
  have w2 : Cond.initialized RJ4 ∈ wsX8_told := by decide +kernel
  have iJ4 : ∀ w ∈ u_ws RJ4 TJ4 4, w ∈ wsX8_told := by decide +kernel
  have w4 : Cond.initialized yJ4_init_da8c8.cls ∈ wsX8_told := by decide +kernel
  have w5 : Cond.methodLink RX8 68 yJ4_init_da8c8 ∈ wsX8_told := by decide +kernel
  have w6 : Cond.instanceMethod yJ4_init_da8c8 ∈ wsX8_told := by decide +kernel
  refine zM_of (cc := cX8_told) (nL := 5) (ret := (some (.object "java/lang/String"))) (own := RX8) (by decide +kernel) rfl rfl (Nat.le_of_ble_eq_true rfl) (fun C X hi0 => ?_)
  show zG C V 3010 6300 0 [(0, .ref a), (1, .int (zI (fr))), (2, .int (zI (to)))] []
  refine zr_new (kc' := (3010 - 1)) (ks' := (6300 - 4)) X 3 1 7 [.null, .int (zI (0)), .int (zI (0)), .int (zI (0))] tyJ4 rfl iJ4 tyJ4_ok w0 w1 w2 (zdf_J4) dX8_told_0 rfl (by first | with_reducible assumption | decide | omega) (by first | with_reducible assumption | decide | omega) (fun q1 hq2 => ?_)
  refine zr_dup X 4 dX8_told_3 rfl rfl ?_
  refine zr_callI (kc' := (3010 - 1) - 1) (ks' := (6300 - 4) - 16) X 7 0 (m_J4_init_da8c8 l Γ (zu_eq _ _ _ _)) gX8_told_J4_init_da8c8 rfl w4 w5 w6 rfl (by decide +kernel) rfl (by decide) rfl (Nat.le_of_ble_eq_true rfl) dX8_told_4 rfl (by first | with_reducible assumption | decide | omega) (by first | with_reducible assumption | decide | omega) (fun rv3 V4 hp5 => ?_)
  obtain ⟨hp5e, hp5b, hp5f⟩ := hp5
  rw [hp5e]
  have ff6 : zfr V V4 := zag.tr (P := fun t => t ≠ 7) (zag.rf.new hq2) hp5f
  have ff7 := zag.tr (P := fun t => t ≠ 7) zag.rf ff6
  show zG C V4 ((3010 - 1) - 1) ((6300 - 4) - 16) 7 [(0, .ref a), (1, .int (zI (fr))), (2, .int (zI (to)))] [.ref q1]
  refine zr_astore_n X 8 [(3, .ref q1), (0, .ref a), (1, .int (zI (fr))), (2, .int (zI (to)))] dX8_told_7 rfl (by decide) rfl ?_
  refine zr_iload_n X 9 2 dX8_told_8 rfl rfl ?_
  refine zr_istore X 11 [(4, .int (zI (fr))), (3, .ref q1), (0, .ref a), (1, .int (zI (fr))), (2, .int (zI (to)))] dX8_told_9 rfl (by decide) rfl ?_
  refine zr_room (3002 - 16) (6200 - 2 * 16) (by first | with_reducible assumption | decide | omega) (by first | with_reducible assumption | decide | omega) ?_
  have hb8 : zSB Γ V4 q1 (fr - fr) 16 := by
    rw [Int.sub_self]
    exact hp5b
  refine zr_sub [0, 1, 4, 3, 2] [(4, .int (zI (fr))), (3, .ref q1), (2, .int (zI (to))), (1, .int (zI (fr))), (0, .ref a)] rfl ?_
  have loop : ∀ (N : Nat) (V1 : zV) (k : Int) (cap : Nat), zSB Γ V1 q1 (k - fr) cap ∧ zfr V V1 ∧ fr ≤ k ∧ (k ≤ to ∨ k = fr) ∧ 16 ≤ cap ∧ cap ≤ 900 → (to - k).toNat = N → zG C V1 (3002 - cap) (6200 - 2 * cap) 11 [(4, .int (zI (k))), (3, .ref q1), (2, .int (zI (to))), (1, .int (zI (fr))), (0, .ref a)] [] := by
    intro N
    induction N using Nat.strongRecOn with
    | _ N ih =>
    intro V1 k cap hI hN
    obtain ⟨hI1, hI2, hI3, hI4, hI5, hI6⟩ := id hI
    have ha1 := hI2 _ _ _ ha h7
    refine zr_iload X 13 0 dX8_told_11 rfl rfl ?_
    refine zr_iload_n X 14 2 dX8_told_13 rfl rfl ?_
    refine zr_icmp_ge X 33 17 dX8_told_14 rfl rfl (by first | with_reducible assumption | decide | omega) (by first | with_reducible assumption | decide | omega) (fun bq9 => ?_) (fun bq9 => ?_)
    · refine zr_aload_n X 34 1 dX8_told_33 rfl rfl ?_
      have hp12r := hI1.rg
      refine zr_callVe (kc' := 3002 - cap - 2) (ks' := 6200 - 2 * cap - ((k - fr).toNat + 4)) X 37 0 (zsb_str l Γ hI1) gX8_told_J4_toString_0e30d rfl (by decide +kernel) rfl (by decide) hI1.cl rfl rfl (Nat.le_of_ble_eq_true rfl) dX8_told_34 rfl (by first | with_reducible assumption | decide | omega) (by first | with_reducible assumption | decide | omega) (fun rv10 V11 hp12 => ?_)
      obtain ⟨hp12z, hp12e, hp12n, hp12f⟩ := hp12
      rw [hp12e]
      have ff13 := zag.tr (P := fun t => t ≠ 7) hI2 hp12f
      show zG C V11 (3002 - cap - 2) (6200 - 2 * cap - ((k - fr).toNat + 4)) 37 [(4, .int (zI (k))), (3, .ref q1), (2, .int (zI (to))), (1, .int (zI (fr))), (0, .ref a)] [.ref hp12z]
      exact zr_aret X rfl (Or.inl ⟨_, rfl⟩) ⟨_, rfl, ff13⟩ dX8_told_37
    · refine zr_aload_n X 18 1 dX8_told_17 rfl rfl ?_
      refine zr_aload_n X 19 4 dX8_told_18 rfl rfl ?_
      refine zr_iload X 21 0 dX8_told_19 rfl rfl ?_
      refine zr_iald X 22 ha1 (by first | with_reducible assumption | decide | omega) dX8_told_21 rfl ?_
      have zb14 := zc.b hac (k).toNat
      refine zr_i2cI X 23 dX8_told_22 rfl (by first | with_reducible assumption | decide | omega) ?_
      have gr18r := hI1.rg
      obtain ⟨gr18p, gr18c, gr18k, gr18⟩ := zgrow1w (k - fr) cap (by first | with_reducible assumption | decide | omega)
      refine zr_callVe (kc' := 3002 - cap - gr18c) (ks' := 6200 - 2 * cap - gr18k) X 26 1 (zsb_app_c l Γ hI1 (x := (f (k).toNat)) (by first | with_reducible assumption | decide | omega) gr18) gX8_told_J4_append_cf468 rfl (by decide +kernel) rfl (by decide) hI1.cl rfl rfl (Nat.le_of_ble_eq_true rfl) dX8_told_23 rfl (by first | with_reducible assumption | decide | omega) (by first | with_reducible assumption | decide | omega) (fun rv15 V16 hp17 => ?_)
      obtain ⟨hp17e, hp17b, hp17f⟩ := hp17
      rw [hp17e]
      have gr18s := hp17b.rg
      have ff19 := zag.tr (P := fun t => t ≠ 7) hI2 hp17f
      show zG C V16 (3002 - cap - gr18c) (6200 - 2 * cap - gr18k) 26 [(4, .int (zI (k))), (3, .ref q1), (2, .int (zI (to))), (1, .int (zI (fr))), (0, .ref a)] [.ref q1]
      refine zr_pop X 27 dX8_told_26 rfl rfl ?_
      refine zr_iinc X 30 0 [(4, .int (zI (k + 1))), (3, .ref q1), (2, .int (zI (to))), (1, .int (zI (fr))), (0, .ref a)] dX8_told_27 rfl rfl (by decide) rfl ?_
      refine zr_goto X 11 dX8_told_30 rfl ?_
      refine zr_room (3002 - gr18p) (6200 - 2 * gr18p) (by first | with_reducible assumption | decide | omega) (by first | with_reducible assumption | decide | omega) ?_
      have hb20 : zSB Γ V16 q1 (k + 1 - fr) gr18p := by
        rw [show k + 1 - fr = k - fr + 1 by omega]
        exact hp17b
      exact ih _ (by first | with_reducible assumption | decide | omega) V16 (k + 1) gr18p ⟨hb20, ff19, by omega, by omega, by omega, by omega⟩ rfl
  exact loop _ V4 fr 16 ⟨hb8, ff7, by omega, by omega, by omega, by omega⟩ rfl
set_option maxRecDepth 100000 in
set_option maxHeartbeats 4000000 in
theorem m_X8_joined (l : Launch) (Γ : zGam) {V : zV}{a ta n : Nat} {f : Nat → Int} {b tb m : Nat} {h : Nat → Int} {tg : Nat} (ha : V a = some (ta, za Γ.2.1 0 n f)) (hac : zc f) (han : n ≤ 200) (hb : V b = some (tb, za Γ.2.1 0 m h)) (hbc : zc h) (hbn : m ≤ 200) : zM l Γ 0 yX8_joined wsX8_joined 1 (n + m) V [.ref a, .ref b] (fun rv V' => ∃ (q : Nat) (f' : Nat → Int), rv = some (.ref q) ∧ V' q = some (tg, za Γ.2.1 0 (n + m) f') ∧ zc f' ∧ zag zal V V') := by
  have w0 : Cond.arrayClass .int ∈ wsX8_joined := by decide +kernel
  refine zM_of (cc := cX8_joined) (nL := 4) (ret := (some (.array .int))) (own := RX8) (by decide +kernel) rfl rfl (Nat.le_of_ble_eq_true rfl) (fun C X hi0 => ?_)
  show zG C V 1 (n + m) 0 [(0, .ref a), (1, .ref b)] []
  refine zr_aload_n X 1 0 dX8_joined_0 rfl rfl ?_
  refine zr_alen X 2 0 ha (by decide) dX8_joined_1 rfl ?_
  refine zr_aload_n X 3 1 dX8_joined_2 rfl rfl ?_
  refine zr_alen X 4 0 hb (by decide) dX8_joined_3 rfl ?_
  refine zr_iadd X 5 dX8_joined_4 rfl ?_
  refine zr_newai (kc' := (1 - 1)) (ks' := ((n + m) - ((n : Nat) + (m : Nat) : Int).toNat)) X 7 tg w0 (by first | with_reducible assumption | decide | omega) dX8_joined_5 rfl (by first | with_reducible assumption | decide | omega) (by first | with_reducible assumption | decide | omega) (fun q1 hq2 => ?_)
  refine zr_astore_n X 8 [(2, .ref q1), (0, .ref a), (1, .ref b)] dX8_joined_7 rfl (by decide) rfl ?_
  refine zr_iconst X 9 dX8_joined_8 rfl ?_
  refine zr_istore_n X 10 [(3, .int (zI (0))), (2, .ref q1), (0, .ref a), (1, .ref b)] dX8_joined_9 rfl (by decide) rfl ?_
  refine zr_view (V' := zu V q1 tg (za Γ.2.1 0 (n + m) (fun _ => 0))) (by rw [show ((n : Int) + (m : Int)).toNat = n + m by omega]) ?_
  refine zr_sub [0, 1, 3, 2] [(3, .int (zI (0))), (2, .ref q1), (1, .ref b), (0, .ref a)] rfl ?_
  have loop : ∀ (N : Nat) (f1 : Nat → Int) (k : Int), zc f1 ∧ 0 ≤ k ∧ k ≤ ((n + m : Nat) : Int) → (((n + m : Nat) : Int) - k).toNat = N → zG C (zu V q1 tg (za Γ.2.1 0 (n + m) f1)) (1 - 1) ((n + m) - ((n : Nat) + (m : Nat) : Int).toNat) 10 [(3, .int (zI (k))), (2, .ref q1), (1, .ref b), (0, .ref a)] [] := by
    intro N
    induction N using Nat.strongRecOn with
    | _ N ih =>
    intro f1 k hI hN
    obtain ⟨hI1, hI2, hI3⟩ := id hI
    refine zr_iload_n X 11 0 dX8_joined_10 rfl rfl ?_
    refine zr_aload_n X 12 1 dX8_joined_11 rfl rfl ?_
    refine zr_alen X 13 0 (zu_eq _ _ _ _) (by decide) dX8_joined_12 rfl ?_
    refine zr_icmp_ge X 43 16 dX8_joined_13 rfl rfl (by first | with_reducible assumption | decide | omega) (by first | with_reducible assumption | decide | omega) (fun bq3 => ?_) (fun bq3 => ?_)
    · refine zr_aload_n X 44 1 dX8_joined_43 rfl rfl ?_
      exact zr_aret X rfl (Or.inr ⟨_, rfl⟩) ⟨q1, f1, rfl, zu_eq _ _ _ _, hI1, zag.rf.new hq2⟩ dX8_joined_44
    · refine zr_aload_n X 17 1 dX8_joined_16 rfl rfl ?_
      refine zr_iload_n X 18 0 dX8_joined_17 rfl rfl ?_
      refine zr_iload_n X 19 0 dX8_joined_18 rfl rfl ?_
      refine zr_aload_n X 20 3 dX8_joined_19 rfl rfl ?_
      refine zr_alen X 21 0 ((zu_ne (zne_new ha hq2)).trans ha) (by decide) dX8_joined_20 rfl ?_
      refine zr_icmp_ge X 30 24 dX8_joined_21 rfl rfl (by first | with_reducible assumption | decide | omega) (by first | with_reducible assumption | decide | omega) (fun bq4 => ?_) (fun bq4 => ?_)
      · refine zr_aload_n X 31 2 dX8_joined_30 rfl rfl ?_
        refine zr_iload_n X 32 0 dX8_joined_31 rfl rfl ?_
        refine zr_aload_n X 33 3 dX8_joined_32 rfl rfl ?_
        refine zr_alen X 34 0 ((zu_ne (zne_new ha hq2)).trans ha) (by decide) dX8_joined_33 rfl ?_
        refine zr_isub X 35 dX8_joined_34 rfl ?_
        refine zr_iald X 36 ((zu_ne (zne_new hb hq2)).trans hb) (by first | with_reducible assumption | decide | omega) dX8_joined_35 rfl ?_
        have zb5 := zc.b hbc (k - (n : Nat)).toNat
        refine zr_iast X 37 (zu_eq _ _ _ _) (by first | with_reducible assumption | decide | omega) dX8_joined_36 rfl ?_
        refine zr_view (zu_zu _ _ _ _ _ _) ?_
        refine zr_iinc X 40 0 [(3, .int (zI (k + 1))), (2, .ref q1), (1, .ref b), (0, .ref a)] dX8_joined_37 rfl rfl (by decide) rfl ?_
        refine zr_goto X 10 dX8_joined_40 rfl ?_
        exact ih _ (by first | with_reducible assumption | decide | omega) (zf f1 (k).toNat (h (k - (n : Nat)).toNat)) (k + 1) ⟨zc_zf hI1 (by first | with_reducible assumption | decide | omega), by omega, by omega⟩ rfl
      · refine zr_aload_n X 25 3 dX8_joined_24 rfl rfl ?_
        refine zr_iload_n X 26 0 dX8_joined_25 rfl rfl ?_
        refine zr_iald X 27 ((zu_ne (zne_new ha hq2)).trans ha) (by first | with_reducible assumption | decide | omega) dX8_joined_26 rfl ?_
        have zb6 := zc.b hac (k).toNat
        refine zr_goto X 36 dX8_joined_27 rfl ?_
        refine zr_iast X 37 (zu_eq _ _ _ _) (by first | with_reducible assumption | decide | omega) dX8_joined_36 rfl ?_
        refine zr_view (zu_zu _ _ _ _ _ _) ?_
        refine zr_iinc X 40 0 [(3, .int (zI (k + 1))), (2, .ref q1), (1, .ref b), (0, .ref a)] dX8_joined_37 rfl rfl (by decide) rfl ?_
        refine zr_goto X 10 dX8_joined_40 rfl ?_
        exact ih _ (by first | with_reducible assumption | decide | omega) (zf f1 (k).toNat (f (k).toNat)) (k + 1) ⟨zc_zf hI1 (by first | with_reducible assumption | decide | omega), by omega, by omega⟩ rfl
  exact loop _ (fun _ => 0) 0 ⟨z0c, by omega, by omega⟩ rfl
set_option maxRecDepth 100000 in
set_option maxHeartbeats 4000000 in
theorem m_X8_lies (l : Launch) (Γ : zGam) {V : zV}{a ta n : Nat} {f : Nat → Int} {b tb m : Nat} {h : Nat → Int} {p : Int} (ha : V a = some (ta, za Γ.2.1 0 n f)) (hac : zc f) (han : n ≤ 200) (hb : V b = some (tb, za Γ.2.1 0 m h)) (hbc : zc h) (hbn : m ≤ 200) (hp : 0 ≤ p ∧ p ≤ 1000) : zM l Γ 0 yX8_lies wsX8_lies 0 0 V [.ref a, .ref b, .int (zI (p))] (fun rv V' => (∃ y : Int, rv = some (.int (zI y)) ∧ (y = 0 ∨ y = 1)) ∧ V' = V) := by
  refine zM_of (cc := cX8_lies) (nL := 4) (ret := (some .boolean)) (own := RX8) (by decide +kernel) rfl rfl (Nat.le_of_ble_eq_true rfl) (fun C X hi0 => ?_)
  show zG C V 0 0 0 [(0, .ref a), (1, .ref b), (2, .int (zI (p)))] []
  refine zr_iload_n X 1 2 dX8_lies_0 rfl rfl ?_
  refine zr_aload_n X 2 1 dX8_lies_1 rfl rfl ?_
  refine zr_alen X 3 0 hb (by decide) dX8_lies_2 rfl ?_
  refine zr_iadd X 4 dX8_lies_3 rfl ?_
  refine zr_aload_n X 5 0 dX8_lies_4 rfl rfl ?_
  refine zr_alen X 6 0 ha (by decide) dX8_lies_5 rfl ?_
  refine zr_icmp_le X 11 9 dX8_lies_6 rfl rfl (by first | with_reducible assumption | decide | omega) (by first | with_reducible assumption | decide | omega) (fun bq1 => ?_) (fun bq1 => ?_)
  · refine zr_iconst X 12 dX8_lies_11 rfl ?_
    refine zr_istore_n X 13 [(3, .int (zI (0))), (0, .ref a), (1, .ref b), (2, .int (zI (p)))] dX8_lies_12 rfl (by decide) rfl ?_
    refine zr_sub [0, 3, 2, 1] [(3, .int (zI (0))), (2, .int (zI (p))), (1, .ref b), (0, .ref a)] rfl ?_
    have loop : ∀ (N : Nat) (k : Int), 0 ≤ k ∧ k ≤ (m : Int) → ((m : Int) - k).toNat = N → zG C V 0 0 13 [(3, .int (zI (k))), (2, .int (zI (p))), (1, .ref b), (0, .ref a)] [] := by
      intro N
      induction N using Nat.strongRecOn with
      | _ N ih =>
      intro k hI hN
      obtain ⟨hI1, hI2⟩ := id hI
      refine zr_iload_n X 14 0 dX8_lies_13 rfl rfl ?_
      refine zr_aload_n X 15 2 dX8_lies_14 rfl rfl ?_
      refine zr_alen X 16 0 hb (by decide) dX8_lies_15 rfl ?_
      refine zr_icmp_ge X 36 19 dX8_lies_16 rfl rfl (by first | with_reducible assumption | decide | omega) (by first | with_reducible assumption | decide | omega) (fun bq2 => ?_) (fun bq2 => ?_)
      · refine zr_iload_n X 37 0 dX8_lies_36 rfl rfl ?_
        refine zr_aload_n X 38 2 dX8_lies_37 rfl rfl ?_
        refine zr_alen X 39 0 hb (by decide) dX8_lies_38 rfl ?_
        refine zr_icmp_ne X 46 42 dX8_lies_39 rfl rfl (by first | with_reducible assumption | decide | omega) (by first | with_reducible assumption | decide | omega) (fun bq3 => ?_) (fun bq3 => ?_)
        · refine zr_iconst X 47 dX8_lies_46 rfl ?_
          exact zr_zret X rfl rfl ⟨⟨0, rfl, by omega⟩, rfl⟩ dX8_lies_47
        · refine zr_iconst X 43 dX8_lies_42 rfl ?_
          refine zr_goto X 47 dX8_lies_43 rfl ?_
          exact zr_zret X rfl rfl ⟨⟨1, rfl, by omega⟩, rfl⟩ dX8_lies_47
      · refine zr_aload_n X 20 3 dX8_lies_19 rfl rfl ?_
        refine zr_iload_n X 21 1 dX8_lies_20 rfl rfl ?_
        refine zr_iload_n X 22 0 dX8_lies_21 rfl rfl ?_
        refine zr_iadd X 23 dX8_lies_22 rfl ?_
        refine zr_iald X 24 ha (by first | with_reducible assumption | decide | omega) dX8_lies_23 rfl ?_
        have zb4 := zc.b hac (p + k).toNat
        refine zr_aload_n X 25 2 dX8_lies_24 rfl rfl ?_
        refine zr_iload_n X 26 0 dX8_lies_25 rfl rfl ?_
        refine zr_iald X 27 hb (by first | with_reducible assumption | decide | omega) dX8_lies_26 rfl ?_
        have zb5 := zc.b hbc (k).toNat
        refine zr_icmp_ne X 36 30 dX8_lies_27 rfl rfl (by first | with_reducible assumption | decide | omega) (by first | with_reducible assumption | decide | omega) (fun bq6 => ?_) (fun bq6 => ?_)
        · refine zr_iload_n X 37 0 dX8_lies_36 rfl rfl ?_
          refine zr_aload_n X 38 2 dX8_lies_37 rfl rfl ?_
          refine zr_alen X 39 0 hb (by decide) dX8_lies_38 rfl ?_
          refine zr_icmp_ne X 46 42 dX8_lies_39 rfl rfl (by first | with_reducible assumption | decide | omega) (by first | with_reducible assumption | decide | omega) (fun bq7 => ?_) (fun bq7 => ?_)
          · refine zr_iconst X 47 dX8_lies_46 rfl ?_
            exact zr_zret X rfl rfl ⟨⟨0, rfl, by omega⟩, rfl⟩ dX8_lies_47
          · refine zr_iconst X 43 dX8_lies_42 rfl ?_
            refine zr_goto X 47 dX8_lies_43 rfl ?_
            exact zr_zret X rfl rfl ⟨⟨1, rfl, by omega⟩, rfl⟩ dX8_lies_47
        · refine zr_iinc X 33 0 [(3, .int (zI (k + 1))), (2, .int (zI (p))), (1, .ref b), (0, .ref a)] dX8_lies_30 rfl rfl (by decide) rfl ?_
          refine zr_goto X 13 dX8_lies_33 rfl ?_
          exact ih _ (by first | with_reducible assumption | decide | omega) (k + 1) ⟨by omega, by omega⟩ rfl
    exact loop _ 0 ⟨by omega, by omega⟩ rfl
  · refine zr_iconst X 10 dX8_lies_9 rfl ?_
    exact zr_zret X rfl rfl ⟨⟨0, rfl, by omega⟩, rfl⟩ dX8_lies_10
set_option maxRecDepth 100000 in
set_option maxHeartbeats 4000000 in
theorem m_X8_nth (l : Launch) (Γ : zGam) {V : zV}{a ta n : Nat} {f : Nat → Int} {b tb m : Nat} {h : Nat → Int} {w : Int} (ha : V a = some (ta, za Γ.2.1 0 n f)) (hac : zc f) (han : n ≤ 200) (hb : V b = some (tb, za Γ.2.1 0 m h)) (hbc : zc h) (hbn : m ≤ 200) (hw : 0 ≤ w ∧ w ≤ 1000) : zM l Γ 1 yX8_nth wsX8_nth 0 0 V [.ref a, .ref b, .int (zI (w))] (fun rv V' => (∃ y : Int, rv = some (.int (zI y)) ∧ -1 ≤ y ∧ y ≤ (n : Int) ∧ (0 ≤ y → w ≤ y)) ∧ V' = V) := by
  refine zM_of (cc := cX8_nth) (nL := 5) (ret := (some .int)) (own := RX8) (by decide +kernel) rfl rfl (Nat.le_of_ble_eq_true rfl) (fun C X hi0 => ?_)
  show zG C V 0 0 0 [(0, .ref a), (1, .ref b), (2, .int (zI (w)))] []
  refine zr_iload_n X 1 2 dX8_nth_0 rfl rfl ?_
  refine zr_istore_n X 2 [(3, .int (zI (w))), (0, .ref a), (1, .ref b), (2, .int (zI (w)))] dX8_nth_1 rfl (by decide) rfl ?_
  refine zr_iconst X 3 dX8_nth_2 rfl ?_
  refine zr_istore X 5 [(4, .int (zI (0))), (3, .int (zI (w))), (0, .ref a), (1, .ref b), (2, .int (zI (w)))] dX8_nth_3 rfl (by decide) rfl ?_
  refine zr_sub [0, 1, 4, 3, 2] [(4, .int (zI (0))), (3, .int (zI (w))), (2, .int (zI (w))), (1, .ref b), (0, .ref a)] rfl ?_
  have loop : ∀ (N : Nat) (lf : Int) (p : Int), 0 ≤ p ∧ p ≤ (n : Int) + 1 ∧ 0 ≤ lf ∧ w - p ≤ lf ∧ lf ≤ w → ((n : Int) + 1 - p).toNat = N → zG C V 0 0 5 [(4, .int (zI (p))), (3, .int (zI (lf))), (2, .int (zI (w))), (1, .ref b), (0, .ref a)] [] := by
    intro N
    induction N using Nat.strongRecOn with
    | _ N ih =>
    intro lf p hI hN
    obtain ⟨hI1, hI2, hI3, hI4, hI5⟩ := id hI
    refine zr_iload X 7 0 dX8_nth_5 rfl rfl ?_
    refine zr_aload_n X 8 3 dX8_nth_7 rfl rfl ?_
    refine zr_alen X 9 0 hb (by decide) dX8_nth_8 rfl ?_
    refine zr_iadd X 10 dX8_nth_9 rfl ?_
    refine zr_aload_n X 11 4 dX8_nth_10 rfl rfl ?_
    refine zr_alen X 12 0 ha (by decide) dX8_nth_11 rfl ?_
    refine zr_icmp_gt X 44 15 dX8_nth_12 rfl rfl (by first | with_reducible assumption | decide | omega) (by first | with_reducible assumption | decide | omega) (fun bq1 => ?_) (fun bq1 => ?_)
    · refine zr_iconst X 45 dX8_nth_44 rfl ?_
      exact zr_iret X rfl ⟨⟨-1, rfl, by omega, by omega, by omega⟩, rfl⟩ dX8_nth_45
    · refine zr_aload_n X 16 4 dX8_nth_15 rfl rfl ?_
      refine zr_aload_n X 17 3 dX8_nth_16 rfl rfl ?_
      refine zr_iload X 19 0 dX8_nth_17 rfl rfl ?_
      refine zr_callS (kc' := 0) (ks' := 0) X 22 3 (m_X8_lies l Γ (p := p) ha hac (by first | with_reducible assumption | decide | omega) hb hbc (by first | with_reducible assumption | decide | omega) (by first | with_reducible assumption | decide | omega)) gX8_nth_X8_lies rfl (by decide +kernel) rfl (by decide) rfl (Nat.le_of_ble_eq_true rfl) dX8_nth_19 rfl (by first | with_reducible assumption | decide | omega) (by first | with_reducible assumption | decide | omega) (fun rv2 V3 hp4 => ?_)
      obtain ⟨⟨y5, y5e, y50⟩, y5v⟩ := hp4
      rw [y5e, y5v]
      show zG C V 0 0 22 [(4, .int (zI (p))), (3, .int (zI (lf))), (2, .int (zI (w))), (1, .ref b), (0, .ref a)] [.int (zI (y5))]
      refine zr_if_ne X 28 25 dX8_nth_22 rfl rfl (by first | with_reducible assumption | decide | omega) (fun bq6 => ?_) (fun bq6 => ?_)
      · refine zr_iload_n X 29 1 dX8_nth_28 rfl rfl ?_
        refine zr_if_ne X 35 32 dX8_nth_29 rfl rfl (by first | with_reducible assumption | decide | omega) (fun bq7 => ?_) (fun bq7 => ?_)
        · refine zr_iinc X 38 1 [(3, .int (zI (lf + (-1)))), (4, .int (zI (p))), (2, .int (zI (w))), (1, .ref b), (0, .ref a)] dX8_nth_35 rfl rfl (by decide) rfl ?_
          refine zr_iinc X 41 1 [(4, .int (zI (p + 1))), (3, .int (zI (lf + (-1)))), (2, .int (zI (w))), (1, .ref b), (0, .ref a)] dX8_nth_38 rfl rfl (by decide) rfl ?_
          refine zr_goto X 5 dX8_nth_41 rfl ?_
          exact ih _ (by first | with_reducible assumption | decide | omega) (lf + (-1)) (p + 1) ⟨by omega, by omega, by omega, by omega, by omega⟩ rfl
        · refine zr_iload X 34 0 dX8_nth_32 rfl rfl ?_
          exact zr_iret X rfl ⟨⟨p, rfl, by omega, by omega, by omega⟩, rfl⟩ dX8_nth_34
      · refine zr_goto X 38 dX8_nth_25 rfl ?_
        refine zr_iinc X 41 0 [(4, .int (zI (p + 1))), (3, .int (zI (lf))), (2, .int (zI (w))), (1, .ref b), (0, .ref a)] dX8_nth_38 rfl rfl (by decide) rfl ?_
        refine zr_goto X 5 dX8_nth_41 rfl ?_
        exact ih _ (by first | with_reducible assumption | decide | omega) lf (p + 1) ⟨by omega, by omega, by omega, by omega, by omega⟩ rfl
  exact loop _ w 0 ⟨by omega, by omega, by omega, by omega, by omega⟩ rfl
set_option maxRecDepth 100000 in
set_option maxHeartbeats 4000000 in
theorem m_X8_places (l : Launch) (Γ : zGam) {V : zV}{a ta n : Nat} {f : Nat → Int} {b tb m : Nat} {h : Nat → Int} (ha : V a = some (ta, za Γ.2.1 0 n f)) (hac : zc f) (han : n ≤ 200) (hb : V b = some (tb, za Γ.2.1 0 m h)) (hbc : zc h) (hbn : m ≤ 200) : zM l Γ 2 yX8_places wsX8_places 0 0 V [.ref a, .ref b] (fun rv V' => (∃ y : Int, rv = some (.int (zI y)) ∧ 0 ≤ y ∧ y ≤ 1000) ∧ V' = V) := by
  refine zM_of (cc := cX8_places) (nL := 3) (ret := (some .int)) (own := RX8) (by decide +kernel) rfl rfl (Nat.le_of_ble_eq_true rfl) (fun C X hi0 => ?_)
  show zG C V 0 0 0 [(0, .ref a), (1, .ref b)] []
  refine zr_iconst X 1 dX8_places_0 rfl ?_
  refine zr_istore_n X 2 [(2, .int (zI (0))), (0, .ref a), (1, .ref b)] dX8_places_1 rfl (by decide) rfl ?_
  refine zr_sub [0, 2, 1] [(2, .int (zI (0))), (1, .ref b), (0, .ref a)] rfl ?_
  have loop : ∀ (N : Nat) (k : Int), 0 ≤ k ∧ k ≤ (n : Int) + 1 → ((n : Int) + 1 - k).toNat = N → zG C V 0 0 2 [(2, .int (zI (k))), (1, .ref b), (0, .ref a)] [] := by
    intro N
    induction N using Nat.strongRecOn with
    | _ N ih =>
    intro k hI hN
    obtain ⟨hI1, hI2⟩ := id hI
    refine zr_aload_n X 3 2 dX8_places_2 rfl rfl ?_
    refine zr_aload_n X 4 1 dX8_places_3 rfl rfl ?_
    refine zr_iload_n X 5 0 dX8_places_4 rfl rfl ?_
    refine zr_callS (kc' := 0) (ks' := 0) X 8 3 (m_X8_nth l Γ (w := k) ha hac (by first | with_reducible assumption | decide | omega) hb hbc (by first | with_reducible assumption | decide | omega) (by first | with_reducible assumption | decide | omega)) gX8_places_X8_nth rfl (by decide +kernel) rfl (by decide) rfl (Nat.le_of_ble_eq_true rfl) dX8_places_5 rfl (by first | with_reducible assumption | decide | omega) (by first | with_reducible assumption | decide | omega) (fun rv1 V2 hp3 => ?_)
    obtain ⟨⟨y4, y4e, y40, y41, y42⟩, y4v⟩ := hp3
    rw [y4e, y4v]
    show zG C V 0 0 8 [(2, .int (zI (k))), (1, .ref b), (0, .ref a)] [.int (zI (y4))]
    refine zr_if_lt X 17 11 dX8_places_8 rfl rfl (by first | with_reducible assumption | decide | omega) (fun bq5 => ?_) (fun bq5 => ?_)
    · refine zr_iload_n X 18 0 dX8_places_17 rfl rfl ?_
      exact zr_iret X rfl ⟨⟨k, rfl, by omega, by omega⟩, rfl⟩ dX8_places_18
    · refine zr_iinc X 14 0 [(2, .int (zI (k + 1))), (1, .ref b), (0, .ref a)] dX8_places_11 rfl rfl (by decide) rfl ?_
      refine zr_goto X 2 dX8_places_14 rfl ?_
      exact ih _ (by first | with_reducible assumption | decide | omega) (k + 1) ⟨by omega, by omega⟩ rfl
  exact loop _ 0 ⟨by omega, by omega⟩ rfl
theorem zmaxe (x y : Int) : ∃ z9 : Int, z9 = (if x < y then y else x) ∧ ((x < y ∧ z9 = y) ∨ (¬ x < y ∧ z9 = x)) := by
  by_cases h : x < y
  · exact ⟨y, (if_pos h).symm, Or.inl ⟨h, rfl⟩⟩
  · exact ⟨x, (if_neg h).symm, Or.inr ⟨h, rfl⟩⟩
theorem zmine (x y : Int) : ∃ z9 : Int, z9 = (if y < x then y else x) ∧ ((y < x ∧ z9 = y) ∨ (¬ y < x ∧ z9 = x)) := by
  by_cases h : y < x
  · exact ⟨y, (if_pos h).symm, Or.inl ⟨h, rfl⟩⟩
  · exact ⟨x, (if_neg h).symm, Or.inr ⟨h, rfl⟩⟩
set_option maxRecDepth 100000 in
set_option maxHeartbeats 4000000 in
theorem m_X8_lastOf (l : Launch) (Γ : zGam) {V : zV}{a ta n : Nat} {f : Nat → Int} {b tb m : Nat} {h : Nat → Int} (ha : V a = some (ta, za Γ.2.1 0 n f)) (hac : zc f) (han : n ≤ 200) (hb : V b = some (tb, za Γ.2.1 0 m h)) (hbc : zc h) (hbn : m ≤ 200) : zM l Γ 1 yX8_lastOf wsX8_lastOf 0 0 V [.ref a, .ref b] (fun rv V' => (∃ y : Int, rv = some (.int (zI y)) ∧ -1 ≤ y ∧ y ≤ 1000) ∧ V' = V) := by
  have w0 : Cond.methodLink RX8 146 Lib.Math.max.name ∈ wsX8_lastOf := by decide +kernel
  have w1 : Cond.static Lib.Math.max.name ∈ wsX8_lastOf := by decide +kernel
  have w2 : Cond.initialized "java/lang/Math" ∈ wsX8_lastOf := by decide +kernel
  have w3 : Cond.code Lib.Math.max.name Lib.Math.max.code 2 (some .int) ∈ wsX8_lastOf := by decide +kernel
  refine zM_of (cc := cX8_lastOf) (nL := 3) (ret := (some .int)) (own := RX8) (by decide +kernel) rfl rfl (Nat.le_of_ble_eq_true rfl) (fun C X hi0 => ?_)
  show zG C V 0 0 0 [(0, .ref a), (1, .ref b)] []
  refine zr_aload_n X 1 0 dX8_lastOf_0 rfl rfl ?_
  refine zr_alen X 2 0 ha (by decide) dX8_lastOf_1 rfl ?_
  refine zr_aload_n X 3 1 dX8_lastOf_2 rfl rfl ?_
  refine zr_alen X 4 0 hb (by decide) dX8_lastOf_3 rfl ?_
  refine zr_isub X 5 dX8_lastOf_4 rfl ?_
  refine zr_istore_n X 6 [(2, .int (zI ((n : Nat) - (m : Nat)))), (0, .ref a), (1, .ref b)] dX8_lastOf_5 rfl (by decide) rfl ?_
  refine zr_sub [0, 2, 1] [(2, .int (zI ((n : Nat) - (m : Nat)))), (1, .ref b), (0, .ref a)] rfl ?_
  have loop : ∀ (N : Nat) (k : Int), -1000 ≤ k ∧ k ≤ (n : Int) → (k + 1000).toNat = N → zG C V 0 0 6 [(2, .int (zI (k))), (1, .ref b), (0, .ref a)] [] := by
    intro N
    induction N using Nat.strongRecOn with
    | _ N ih =>
    intro k hI hN
    obtain ⟨hI1, hI2⟩ := id hI
    refine zr_iload_n X 7 0 dX8_lastOf_6 rfl rfl ?_
    refine zr_if_lt X 25 10 dX8_lastOf_7 rfl rfl (by first | with_reducible assumption | decide | omega) (fun bq1 => ?_) (fun bq1 => ?_)
    · refine zr_iload_n X 26 0 dX8_lastOf_25 rfl rfl ?_
      refine zr_iconst X 27 dX8_lastOf_26 rfl ?_
      obtain ⟨mz2, mz2e, mz2a⟩ : ∃ z9 : Int, z9 = (if k < -1 then -1 else k) ∧ ((k < -1 ∧ z9 = -1) ∨ (¬ k < -1 ∧ z9 = k)) := zmaxe _ _
      refine zr_mmax X 30 (mz2) w0 w1 w2 w3 (by decide) (Nat.le_of_ble_eq_true rfl) (by first | with_reducible assumption | decide | omega) (by first | with_reducible assumption | decide | omega) mz2e dX8_lastOf_27 rfl ?_
      clear mz2e
      exact zr_iret X rfl ⟨⟨mz2, rfl, by omega, by omega⟩, rfl⟩ dX8_lastOf_30
    · refine zr_aload_n X 11 2 dX8_lastOf_10 rfl rfl ?_
      refine zr_aload_n X 12 1 dX8_lastOf_11 rfl rfl ?_
      refine zr_iload_n X 13 0 dX8_lastOf_12 rfl rfl ?_
      refine zr_callS (kc' := 0) (ks' := 0) X 16 3 (m_X8_lies l Γ (p := k) ha hac (by first | with_reducible assumption | decide | omega) hb hbc (by first | with_reducible assumption | decide | omega) (by first | with_reducible assumption | decide | omega)) gX8_lastOf_X8_lies rfl (by decide +kernel) rfl (by decide) rfl (Nat.le_of_ble_eq_true rfl) dX8_lastOf_13 rfl (by first | with_reducible assumption | decide | omega) (by first | with_reducible assumption | decide | omega) (fun rv3 V4 hp5 => ?_)
      obtain ⟨⟨y6, y6e, y60⟩, y6v⟩ := hp5
      rw [y6e, y6v]
      show zG C V 0 0 16 [(2, .int (zI (k))), (1, .ref b), (0, .ref a)] [.int (zI (y6))]
      refine zr_if_ne X 25 19 dX8_lastOf_16 rfl rfl (by first | with_reducible assumption | decide | omega) (fun bq7 => ?_) (fun bq7 => ?_)
      · refine zr_iload_n X 26 0 dX8_lastOf_25 rfl rfl ?_
        refine zr_iconst X 27 dX8_lastOf_26 rfl ?_
        obtain ⟨mz8, mz8e, mz8a⟩ : ∃ z9 : Int, z9 = (if k < -1 then -1 else k) ∧ ((k < -1 ∧ z9 = -1) ∨ (¬ k < -1 ∧ z9 = k)) := zmaxe _ _
        refine zr_mmax X 30 (mz8) w0 w1 w2 w3 (by decide) (Nat.le_of_ble_eq_true rfl) (by first | with_reducible assumption | decide | omega) (by first | with_reducible assumption | decide | omega) mz8e dX8_lastOf_27 rfl ?_
        clear mz8e
        exact zr_iret X rfl ⟨⟨mz8, rfl, by omega, by omega⟩, rfl⟩ dX8_lastOf_30
      · refine zr_iinc X 22 0 [(2, .int (zI (k + (-1)))), (1, .ref b), (0, .ref a)] dX8_lastOf_19 rfl rfl (by decide) rfl ?_
        refine zr_goto X 6 dX8_lastOf_22 rfl ?_
        exact ih _ (by first | with_reducible assumption | decide | omega) (k + (-1)) ⟨by omega, by omega⟩ rfl
  exact loop _ ((n : Nat) - (m : Nat)) ⟨by omega, by omega⟩ rfl
set_option maxRecDepth 100000 in
set_option maxHeartbeats 4000000 in
theorem m_X8_isBorder (l : Launch) (Γ : zGam) {V : zV}{a ta n : Nat} {f : Nat → Int} {mn q : Int} (ha : V a = some (ta, za Γ.2.1 0 n f)) (hac : zc f) (han : n ≤ 200) (hm : 0 ≤ mn ∧ mn ≤ (n : Int)) (hq : -1 ≤ q ∧ q ≤ 1000) : zM l Γ 0 yX8_isBorder wsX8_isBorder 0 0 V [.ref a, .int (zI (mn)), .int (zI (q))] (fun rv V' => (∃ y : Int, rv = some (.int (zI y)) ∧ (y = 0 ∨ y = 1)) ∧ V' = V) := by
  refine zM_of (cc := cX8_isBorder) (nL := 5) (ret := (some .boolean)) (own := RX8) (by decide +kernel) rfl rfl (Nat.le_of_ble_eq_true rfl) (fun C X hi0 => ?_)
  show zG C V 0 0 0 [(0, .ref a), (1, .int (zI (mn))), (2, .int (zI (q)))] []
  refine zr_iload_n X 1 2 dX8_isBorder_0 rfl rfl ?_
  refine zr_iload_n X 2 1 dX8_isBorder_1 rfl rfl ?_
  refine zr_icmp_ge X 9 5 dX8_isBorder_2 rfl rfl (by first | with_reducible assumption | decide | omega) (by first | with_reducible assumption | decide | omega) (fun bq1 => ?_) (fun bq1 => ?_)
  · refine zr_iconst X 10 dX8_isBorder_9 rfl ?_
    refine zr_istore_n X 11 [(3, .int (zI (0))), (0, .ref a), (1, .int (zI (mn))), (2, .int (zI (q)))] dX8_isBorder_10 rfl (by decide) rfl ?_
    refine zr_iconst X 12 dX8_isBorder_11 rfl ?_
    refine zr_istore X 14 [(4, .int (zI (0))), (3, .int (zI (0))), (0, .ref a), (1, .int (zI (mn))), (2, .int (zI (q)))] dX8_isBorder_12 rfl (by decide) rfl ?_
    refine zr_sub [0, 1, 4, 3, 2] [(4, .int (zI (0))), (3, .int (zI (0))), (2, .int (zI (q))), (1, .int (zI (mn))), (0, .ref a)] rfl ?_
    have loop : ∀ (N : Nat) (is : Int) (k : Int), 0 ≤ k ∧ k ≤ 1000 ∧ (is = 0 ∨ is = 1) ∧ (is = 1 → q < mn) ∧ (k ≤ q ∨ k = 0) → (1000 - k).toNat = N → zG C V 0 0 14 [(4, .int (zI (k))), (3, .int (zI (is))), (2, .int (zI (q))), (1, .int (zI (mn))), (0, .ref a)] [] := by
      intro N
      induction N using Nat.strongRecOn with
      | _ N ih =>
      intro is k hI hN
      obtain ⟨hI1, hI2, hI3, hI4, hI5⟩ := id hI
      refine zr_iload X 16 0 dX8_isBorder_14 rfl rfl ?_
      refine zr_iload_n X 17 2 dX8_isBorder_16 rfl rfl ?_
      refine zr_icmp_ge X 51 20 dX8_isBorder_17 rfl rfl (by first | with_reducible assumption | decide | omega) (by first | with_reducible assumption | decide | omega) (fun bq2 => ?_) (fun bq2 => ?_)
      · refine zr_iload_n X 52 1 dX8_isBorder_51 rfl rfl ?_
        exact zr_zret X rfl (znz (by first | with_reducible assumption | decide | omega)) ⟨⟨is, rfl, by omega⟩, rfl⟩ dX8_isBorder_52
      · refine zr_iload_n X 21 1 dX8_isBorder_20 rfl rfl ?_
        refine zr_if_eq X 51 24 dX8_isBorder_21 rfl rfl (by first | with_reducible assumption | decide | omega) (fun bq3 => ?_) (fun bq3 => ?_)
        · refine zr_iload_n X 52 1 dX8_isBorder_51 rfl rfl ?_
          exact zr_zret X rfl (znz (by first | with_reducible assumption | decide | omega)) ⟨⟨is, rfl, by omega⟩, rfl⟩ dX8_isBorder_52
        · refine zr_aload_n X 25 4 dX8_isBorder_24 rfl rfl ?_
          refine zr_iload X 27 0 dX8_isBorder_25 rfl rfl ?_
          refine zr_iald X 28 ha (by first | with_reducible assumption | decide | omega) dX8_isBorder_27 rfl ?_
          have zb4 := zc.b hac (k).toNat
          refine zr_aload_n X 29 4 dX8_isBorder_28 rfl rfl ?_
          refine zr_iload_n X 30 3 dX8_isBorder_29 rfl rfl ?_
          refine zr_iload_n X 31 2 dX8_isBorder_30 rfl rfl ?_
          refine zr_isub X 32 dX8_isBorder_31 rfl ?_
          refine zr_iload X 34 0 dX8_isBorder_32 rfl rfl ?_
          refine zr_iadd X 35 dX8_isBorder_34 rfl ?_
          refine zr_iald X 36 ha (by first | with_reducible assumption | decide | omega) dX8_isBorder_35 rfl ?_
          have zb5 := zc.b hac ((mn - q) + k).toNat
          refine zr_icmp_ne X 43 39 dX8_isBorder_36 rfl rfl (by first | with_reducible assumption | decide | omega) (by first | with_reducible assumption | decide | omega) (fun bq6 => ?_) (fun bq6 => ?_)
          · refine zr_iconst X 44 dX8_isBorder_43 rfl ?_
            refine zr_istore_n X 45 [(3, .int (zI (0))), (4, .int (zI (k))), (2, .int (zI (q))), (1, .int (zI (mn))), (0, .ref a)] dX8_isBorder_44 rfl (by decide) rfl ?_
            refine zr_iinc X 48 1 [(4, .int (zI (k + 1))), (3, .int (zI (0))), (2, .int (zI (q))), (1, .int (zI (mn))), (0, .ref a)] dX8_isBorder_45 rfl rfl (by decide) rfl ?_
            refine zr_goto X 14 dX8_isBorder_48 rfl ?_
            exact ih _ (by first | with_reducible assumption | decide | omega) 0 (k + 1) ⟨by omega, by omega, by omega, by omega, by omega⟩ rfl
          · refine zr_iconst X 40 dX8_isBorder_39 rfl ?_
            refine zr_goto X 44 dX8_isBorder_40 rfl ?_
            refine zr_istore_n X 45 [(3, .int (zI (1))), (4, .int (zI (k))), (2, .int (zI (q))), (1, .int (zI (mn))), (0, .ref a)] dX8_isBorder_44 rfl (by decide) rfl ?_
            refine zr_iinc X 48 1 [(4, .int (zI (k + 1))), (3, .int (zI (1))), (2, .int (zI (q))), (1, .int (zI (mn))), (0, .ref a)] dX8_isBorder_45 rfl rfl (by decide) rfl ?_
            refine zr_goto X 14 dX8_isBorder_48 rfl ?_
            exact ih _ (by first | with_reducible assumption | decide | omega) 1 (k + 1) ⟨by omega, by omega, by omega, by omega, by omega⟩ rfl
    exact loop _ 0 0 ⟨by omega, by omega, by omega, by omega, by omega⟩ rfl
  · refine zr_iconst X 6 dX8_isBorder_5 rfl ?_
    refine zr_goto X 10 dX8_isBorder_6 rfl ?_
    refine zr_istore_n X 11 [(3, .int (zI (1))), (0, .ref a), (1, .int (zI (mn))), (2, .int (zI (q)))] dX8_isBorder_10 rfl (by decide) rfl ?_
    refine zr_iconst X 12 dX8_isBorder_11 rfl ?_
    refine zr_istore X 14 [(4, .int (zI (0))), (3, .int (zI (1))), (0, .ref a), (1, .int (zI (mn))), (2, .int (zI (q)))] dX8_isBorder_12 rfl (by decide) rfl ?_
    refine zr_sub [0, 1, 4, 3, 2] [(4, .int (zI (0))), (3, .int (zI (1))), (2, .int (zI (q))), (1, .int (zI (mn))), (0, .ref a)] rfl ?_
    have loop : ∀ (N : Nat) (is : Int) (k : Int), 0 ≤ k ∧ k ≤ 1000 ∧ (is = 0 ∨ is = 1) ∧ (is = 1 → q < mn) ∧ (k ≤ q ∨ k = 0) → (1000 - k).toNat = N → zG C V 0 0 14 [(4, .int (zI (k))), (3, .int (zI (is))), (2, .int (zI (q))), (1, .int (zI (mn))), (0, .ref a)] [] := by
      intro N
      induction N using Nat.strongRecOn with
      | _ N ih =>
      intro is k hI hN
      obtain ⟨hI1, hI2, hI3, hI4, hI5⟩ := id hI
      refine zr_iload X 16 0 dX8_isBorder_14 rfl rfl ?_
      refine zr_iload_n X 17 2 dX8_isBorder_16 rfl rfl ?_
      refine zr_icmp_ge X 51 20 dX8_isBorder_17 rfl rfl (by first | with_reducible assumption | decide | omega) (by first | with_reducible assumption | decide | omega) (fun bq7 => ?_) (fun bq7 => ?_)
      · refine zr_iload_n X 52 1 dX8_isBorder_51 rfl rfl ?_
        exact zr_zret X rfl (znz (by first | with_reducible assumption | decide | omega)) ⟨⟨is, rfl, by omega⟩, rfl⟩ dX8_isBorder_52
      · refine zr_iload_n X 21 1 dX8_isBorder_20 rfl rfl ?_
        refine zr_if_eq X 51 24 dX8_isBorder_21 rfl rfl (by first | with_reducible assumption | decide | omega) (fun bq8 => ?_) (fun bq8 => ?_)
        · refine zr_iload_n X 52 1 dX8_isBorder_51 rfl rfl ?_
          exact zr_zret X rfl (znz (by first | with_reducible assumption | decide | omega)) ⟨⟨is, rfl, by omega⟩, rfl⟩ dX8_isBorder_52
        · refine zr_aload_n X 25 4 dX8_isBorder_24 rfl rfl ?_
          refine zr_iload X 27 0 dX8_isBorder_25 rfl rfl ?_
          refine zr_iald X 28 ha (by first | with_reducible assumption | decide | omega) dX8_isBorder_27 rfl ?_
          have zb9 := zc.b hac (k).toNat
          refine zr_aload_n X 29 4 dX8_isBorder_28 rfl rfl ?_
          refine zr_iload_n X 30 3 dX8_isBorder_29 rfl rfl ?_
          refine zr_iload_n X 31 2 dX8_isBorder_30 rfl rfl ?_
          refine zr_isub X 32 dX8_isBorder_31 rfl ?_
          refine zr_iload X 34 0 dX8_isBorder_32 rfl rfl ?_
          refine zr_iadd X 35 dX8_isBorder_34 rfl ?_
          refine zr_iald X 36 ha (by first | with_reducible assumption | decide | omega) dX8_isBorder_35 rfl ?_
          have zb10 := zc.b hac ((mn - q) + k).toNat
          refine zr_icmp_ne X 43 39 dX8_isBorder_36 rfl rfl (by first | with_reducible assumption | decide | omega) (by first | with_reducible assumption | decide | omega) (fun bq11 => ?_) (fun bq11 => ?_)
          · refine zr_iconst X 44 dX8_isBorder_43 rfl ?_
            refine zr_istore_n X 45 [(3, .int (zI (0))), (4, .int (zI (k))), (2, .int (zI (q))), (1, .int (zI (mn))), (0, .ref a)] dX8_isBorder_44 rfl (by decide) rfl ?_
            refine zr_iinc X 48 1 [(4, .int (zI (k + 1))), (3, .int (zI (0))), (2, .int (zI (q))), (1, .int (zI (mn))), (0, .ref a)] dX8_isBorder_45 rfl rfl (by decide) rfl ?_
            refine zr_goto X 14 dX8_isBorder_48 rfl ?_
            exact ih _ (by first | with_reducible assumption | decide | omega) 0 (k + 1) ⟨by omega, by omega, by omega, by omega, by omega⟩ rfl
          · refine zr_iconst X 40 dX8_isBorder_39 rfl ?_
            refine zr_goto X 44 dX8_isBorder_40 rfl ?_
            refine zr_istore_n X 45 [(3, .int (zI (1))), (4, .int (zI (k))), (2, .int (zI (q))), (1, .int (zI (mn))), (0, .ref a)] dX8_isBorder_44 rfl (by decide) rfl ?_
            refine zr_iinc X 48 1 [(4, .int (zI (k + 1))), (3, .int (zI (1))), (2, .int (zI (q))), (1, .int (zI (mn))), (0, .ref a)] dX8_isBorder_45 rfl rfl (by decide) rfl ?_
            refine zr_goto X 14 dX8_isBorder_48 rfl ?_
            exact ih _ (by first | with_reducible assumption | decide | omega) 1 (k + 1) ⟨by omega, by omega, by omega, by omega, by omega⟩ rfl
    exact loop _ 1 0 ⟨by omega, by omega, by omega, by omega, by omega⟩ rfl
set_option maxRecDepth 100000 in
set_option maxHeartbeats 4000000 in
theorem m_X8_greatest (l : Launch) (Γ : zGam) {V : zV}{a ta n : Nat} {f : Nat → Int} {mn : Int} (ha : V a = some (ta, za Γ.2.1 0 n f)) (hac : zc f) (han : n ≤ 200) (hm : 0 ≤ mn ∧ mn ≤ (n : Int)) : zM l Γ 1 yX8_greatest wsX8_greatest 0 0 V [.ref a, .int (zI (mn))] (fun rv V' => (∃ y : Int, rv = some (.int (zI y)) ∧ 0 ≤ y ∧ y ≤ 1000) ∧ V' = V) := by
  have w0 : Cond.methodLink RX8 146 Lib.Math.max.name ∈ wsX8_greatest := by decide +kernel
  have w1 : Cond.static Lib.Math.max.name ∈ wsX8_greatest := by decide +kernel
  have w2 : Cond.initialized "java/lang/Math" ∈ wsX8_greatest := by decide +kernel
  have w3 : Cond.code Lib.Math.max.name Lib.Math.max.code 2 (some .int) ∈ wsX8_greatest := by decide +kernel
  refine zM_of (cc := cX8_greatest) (nL := 3) (ret := (some .int)) (own := RX8) (by decide +kernel) rfl rfl (Nat.le_of_ble_eq_true rfl) (fun C X hi0 => ?_)
  show zG C V 0 0 0 [(0, .ref a), (1, .int (zI (mn)))] []
  refine zr_iload_n X 1 1 dX8_greatest_0 rfl rfl ?_
  refine zr_iconst X 2 dX8_greatest_1 rfl ?_
  refine zr_isub X 3 dX8_greatest_2 rfl ?_
  refine zr_iconst X 4 dX8_greatest_3 rfl ?_
  obtain ⟨mz1, mz1e, mz1a⟩ : ∃ z9 : Int, z9 = (if mn - 1 < 0 then 0 else mn - 1) ∧ ((mn - 1 < 0 ∧ z9 = 0) ∨ (¬ mn - 1 < 0 ∧ z9 = mn - 1)) := zmaxe _ _
  refine zr_mmax X 7 (mz1) w0 w1 w2 w3 (by decide) (Nat.le_of_ble_eq_true rfl) (by first | with_reducible assumption | decide | omega) (by first | with_reducible assumption | decide | omega) mz1e dX8_greatest_4 rfl ?_
  clear mz1e
  refine zr_istore_n X 8 [(2, .int (zI (mz1))), (0, .ref a), (1, .int (zI (mn)))] dX8_greatest_7 rfl (by decide) rfl ?_
  refine zr_sub [0, 2, 1] [(2, .int (zI (mz1))), (1, .int (zI (mn))), (0, .ref a)] rfl ?_
  have loop : ∀ (N : Nat) (q : Int), 0 ≤ q ∧ q ≤ 1000 → q.toNat = N → zG C V 0 0 8 [(2, .int (zI (q))), (1, .int (zI (mn))), (0, .ref a)] [] := by
    intro N
    induction N using Nat.strongRecOn with
    | _ N ih =>
    intro q hI hN
    obtain ⟨hI1, hI2⟩ := id hI
    refine zr_iload_n X 9 0 dX8_greatest_8 rfl rfl ?_
    refine zr_if_le X 27 12 dX8_greatest_9 rfl rfl (by first | with_reducible assumption | decide | omega) (fun bq2 => ?_) (fun bq2 => ?_)
    · refine zr_iload_n X 28 0 dX8_greatest_27 rfl rfl ?_
      exact zr_iret X rfl ⟨⟨q, rfl, by omega, by omega⟩, rfl⟩ dX8_greatest_28
    · refine zr_aload_n X 13 2 dX8_greatest_12 rfl rfl ?_
      refine zr_iload_n X 14 1 dX8_greatest_13 rfl rfl ?_
      refine zr_iload_n X 15 0 dX8_greatest_14 rfl rfl ?_
      refine zr_callS (kc' := 0) (ks' := 0) X 18 3 (m_X8_isBorder l Γ (mn := mn) (q := q) ha hac (by first | with_reducible assumption | decide | omega) (by first | with_reducible assumption | decide | omega) (by first | with_reducible assumption | decide | omega)) gX8_greatest_X8_isBorder rfl (by decide +kernel) rfl (by decide) rfl (Nat.le_of_ble_eq_true rfl) dX8_greatest_15 rfl (by first | with_reducible assumption | decide | omega) (by first | with_reducible assumption | decide | omega) (fun rv3 V4 hp5 => ?_)
      obtain ⟨⟨y6, y6e, y60⟩, y6v⟩ := hp5
      rw [y6e, y6v]
      show zG C V 0 0 18 [(2, .int (zI (q))), (1, .int (zI (mn))), (0, .ref a)] [.int (zI (y6))]
      refine zr_if_ne X 27 21 dX8_greatest_18 rfl rfl (by first | with_reducible assumption | decide | omega) (fun bq7 => ?_) (fun bq7 => ?_)
      · refine zr_iload_n X 28 0 dX8_greatest_27 rfl rfl ?_
        exact zr_iret X rfl ⟨⟨q, rfl, by omega, by omega⟩, rfl⟩ dX8_greatest_28
      · refine zr_iinc X 24 0 [(2, .int (zI (q + (-1)))), (1, .int (zI (mn))), (0, .ref a)] dX8_greatest_21 rfl rfl (by decide) rfl ?_
        refine zr_goto X 8 dX8_greatest_24 rfl ?_
        exact ih _ (by first | with_reducible assumption | decide | omega) (q + (-1)) ⟨by omega, by omega⟩ rfl
  exact loop _ mz1 ⟨by omega, by omega⟩ rfl
