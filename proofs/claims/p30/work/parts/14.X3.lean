/-! class Seeker -/
set_option maxRecDepth 100000 in
set_option maxHeartbeats 4000000 in
theorem m_X3_foundAt (l : Launch) (Γ : zGam) {V : zV} {k bo pl tk tp : Nat} {mn : Int} {pf : Nat → Int} {q : Int} (hk : V k = some (tk, .inr (5, [.ref bo, .ref pl, .int (zI mn)]))) (hpl : V pl = some (tp, za Γ.2.1 0 81 pf)) (hmn : 0 ≤ mn ∧ mn ≤ 81) (hq : -2147483648 ≤ q ∧ q ≤ 2147483647) : zM l Γ 0 yX3_foundAt wsX3_foundAt 0 0 V [.ref k, .int (zI (q))] (fun rv V' => rv = some (.int (zI (if 0 ≤ q ∧ q < mn then pf q.toNat else -1))) ∧ V' = V) := by
  have w0 : Cond.fieldLink RX3 22 "Sashwords$Seeker" "many" "I" ∈ wsX3_foundAt := by decide +kernel
  have iX3 : ∀ w ∈ u_ws RX3 TX3 3, w ∈ wsX3_foundAt := by decide +kernel
  have w2 : Cond.fieldLink RX3 18 "Sashwords$Seeker" "places" "[I" ∈ wsX3_foundAt := by decide +kernel
  refine zM_of (cc := cX3_foundAt) (nL := 2) (ret := (some .int)) (own := RX3) (by decide +kernel) rfl rfl (Nat.le_of_ble_eq_true rfl) (fun C X hi0 => ?_)
  show zG C V 0 0 0 [(0, .ref k), (1, .int (zI (q)))] []
  refine zr_iload_n X 1 1 dX3_foundAt_0 rfl rfl ?_
  refine zr_if_lt X 21 4 dX3_foundAt_1 rfl rfl (by first | with_reducible assumption | decide | omega) (fun bq1 => ?_) (fun bq1 => ?_)
  · refine zr_iconst X 22 dX3_foundAt_21 rfl ?_
    refine zr_goto X 31 dX3_foundAt_22 rfl ?_
    exact zr_iret X rfl ⟨by rw [if_neg (by first | with_reducible assumption | decide | omega)], rfl⟩ dX3_foundAt_31
  · refine zr_iload_n X 5 1 dX3_foundAt_4 rfl rfl ?_
    refine zr_aload_n X 6 0 dX3_foundAt_5 rfl rfl ?_
    refine zr_get X 9 5 2 hk rfl iX3 (by decide) w0 rfl rfl dX3_foundAt_6 rfl ?_
    refine zr_icmp_ge X 21 12 dX3_foundAt_9 rfl rfl (by first | with_reducible assumption | decide | omega) (by first | with_reducible assumption | decide | omega) (fun bq2 => ?_) (fun bq2 => ?_)
    · refine zr_iconst X 22 dX3_foundAt_21 rfl ?_
      refine zr_goto X 31 dX3_foundAt_22 rfl ?_
      exact zr_iret X rfl ⟨by rw [if_neg (by first | with_reducible assumption | decide | omega)], rfl⟩ dX3_foundAt_31
    · refine zr_iload_n X 13 1 dX3_foundAt_12 rfl rfl ?_
      refine zr_aload_n X 14 0 dX3_foundAt_13 rfl rfl ?_
      refine zr_get X 17 5 1 hk rfl iX3 (by decide) w2 rfl rfl dX3_foundAt_14 rfl ?_
      refine zr_alen X 18 0 hpl (by decide) dX3_foundAt_17 rfl ?_
      refine zr_icmp_lt X 25 21 dX3_foundAt_18 rfl rfl (by first | with_reducible assumption | decide | omega) (by first | with_reducible assumption | decide | omega) (fun bq3 => ?_) (fun bq3 => ?_)
      · refine zr_aload_n X 26 0 dX3_foundAt_25 rfl rfl ?_
        refine zr_get X 29 5 1 hk rfl iX3 (by decide) w2 rfl rfl dX3_foundAt_26 rfl ?_
        refine zr_iload_n X 30 1 dX3_foundAt_29 rfl rfl ?_
        refine zr_iald X 31 hpl (by first | with_reducible assumption | decide | omega) dX3_foundAt_30 rfl ?_
        exact zr_iret X rfl ⟨by rw [if_pos (by first | with_reducible assumption | decide | omega)], rfl⟩ dX3_foundAt_31
      · refine zr_iconst X 22 dX3_foundAt_21 rfl ?_
        refine zr_goto X 31 dX3_foundAt_22 rfl ?_
        exact zr_iret X rfl ⟨by rw [if_neg (by first | with_reducible assumption | decide | omega)], rfl⟩ dX3_foundAt_31
/-- places: each at least 0 and below 2000 -/
def zpl (f : Nat → Int) : Prop := ∀ j, -2000 ≤ f j ∧ f j ≤ 2000
theorem zpl_zf {f : Nat → Int} (h : zpl f) {i : Nat} {x : Int} (hx : -2000 ≤ x ∧ x ≤ 2000) : zpl (zf f i x) := by
  intro j
  unfold zf
  split
  · exact hx
  · exact h j
theorem zpl_zero : zpl (fun _ => 0) := fun _ => ⟨(by decide : (-2000 : Int) ≤ 0), (by decide : (0 : Int) ≤ 2000)⟩
set_option maxRecDepth 100000 in
set_option maxHeartbeats 4000000 in
theorem m_X3_note (l : Launch) (Γ : zGam) {V : zV} {k bo pl tk tp : Nat} {mn : Int} {pf : Nat → Int} {x : Int} (hk : V k = some (tk, .inr (5, [.ref bo, .ref pl, .int (zI mn)]))) (hpl : V pl = some (tp, za Γ.2.1 0 81 pf)) (hmn : 0 ≤ mn ∧ mn ≤ 81) (hpf : zpl pf) (hx : -2000 ≤ x ∧ x ≤ 2000) : zM l Γ 0 yX3_note wsX3_note 0 0 V [.ref k, .int (zI (x))] (fun rv V' => rv = none ∧ ∃ p' m', zpl p' ∧ 0 ≤ m' ∧ m' ≤ 81 ∧ V' = zu (zu V pl tp (za Γ.2.1 0 81 p')) k tk (.inr (5, [.ref bo, .ref pl, .int (zI (m'))]))) := by
  have w0 : Cond.fieldLink RX3 22 "Sashwords$Seeker" "many" "I" ∈ wsX3_note := by decide +kernel
  have iX3 : ∀ w ∈ u_ws RX3 TX3 3, w ∈ wsX3_note := by decide +kernel
  have w2 : Cond.fieldLink RX3 18 "Sashwords$Seeker" "places" "[I" ∈ wsX3_note := by decide +kernel
  refine zM_of (cc := cX3_note) (nL := 2) (ret := none) (own := RX3) (by decide +kernel) rfl rfl (Nat.le_of_ble_eq_true rfl) (fun C X hi0 => ?_)
  show zG C V 0 0 0 [(0, .ref k), (1, .int (zI (x)))] []
  refine zr_aload_n X 1 0 dX3_note_0 rfl rfl ?_
  refine zr_get X 4 5 2 hk rfl iX3 (by decide) w0 rfl rfl dX3_note_1 rfl ?_
  refine zr_if_lt X 39 7 dX3_note_4 rfl rfl (by first | with_reducible assumption | decide | omega) (fun bq1 => ?_) (fun bq1 => ?_)
  · exact zr_vret X rfl ⟨rfl, pf, mn, hpf, by omega, by omega, by rw [zu_id hpl, zu_id hk]⟩ dX3_note_39
  · refine zr_aload_n X 8 0 dX3_note_7 rfl rfl ?_
    refine zr_get X 11 5 2 hk rfl iX3 (by decide) w0 rfl rfl dX3_note_8 rfl ?_
    refine zr_aload_n X 12 0 dX3_note_11 rfl rfl ?_
    refine zr_get X 15 5 1 hk rfl iX3 (by decide) w2 rfl rfl dX3_note_12 rfl ?_
    refine zr_alen X 16 0 hpl (by decide) dX3_note_15 rfl ?_
    refine zr_icmp_ge X 39 19 dX3_note_16 rfl rfl (by first | with_reducible assumption | decide | omega) (by first | with_reducible assumption | decide | omega) (fun bq2 => ?_) (fun bq2 => ?_)
    · exact zr_vret X rfl ⟨rfl, pf, mn, hpf, by omega, by omega, by rw [zu_id hpl, zu_id hk]⟩ dX3_note_39
    · refine zr_aload_n X 20 0 dX3_note_19 rfl rfl ?_
      refine zr_get X 23 5 1 hk rfl iX3 (by decide) w2 rfl rfl dX3_note_20 rfl ?_
      refine zr_aload_n X 24 0 dX3_note_23 rfl rfl ?_
      refine zr_get X 27 5 2 hk rfl iX3 (by decide) w0 rfl rfl dX3_note_24 rfl ?_
      refine zr_iload_n X 28 1 dX3_note_27 rfl rfl ?_
      refine zr_iast X 29 hpl (by first | with_reducible assumption | decide | omega)  dX3_note_28 rfl ?_
      refine zr_aload_n X 30 0 dX3_note_29 rfl rfl ?_
      refine zr_dup X 31 dX3_note_30 rfl rfl ?_
      refine zr_get X 34 5 2 ((zu_ne (zne_oa hk hpl)).trans hk) rfl iX3 (by decide) w0 rfl rfl dX3_note_31 rfl ?_
      refine zr_iconst X 35 dX3_note_34 rfl ?_
      refine zr_iadd X 36 dX3_note_35 rfl ?_
      refine zr_put X 39 5 2 [.ref bo, .ref pl, .int (zI (mn + 1))] tyX3 ((zu_ne (zne_oa hk hpl)).trans hk) rfl iX3 tyX3_ok nmX3 (by decide) w0 rfl rfl rfl rfl (Nat.le_of_ble_eq_true rfl) rfl dX3_note_36 rfl ?_
      exact zr_vret X rfl ⟨rfl, (zf pf (mn).toNat x), mn + 1, zpl_zf hpf hx, by omega, by omega, rfl⟩ dX3_note_39
set_option maxRecDepth 100000 in
set_option maxHeartbeats 4000000 in
theorem m_X3_seek (l : Launch) (Γ : zGam) {V : zV} {k bo pl tk tp : Nat} {mn : Int} {pf : Nat → Int} {ga ca ta tb : Nat} {lk : Int} {gf : Nat → Int} {o1 r1 o2 r2 : Nat} {m1 m2 : Int} {h1 h2 : Int → Int} (hk : V k = some (tk, .inr (5, [.ref bo, .ref pl, .int (zI mn)]))) (hpl : V pl = some (tp, za Γ.2.1 0 81 pf)) (hmn : 0 ≤ mn ∧ mn ≤ 81) (ht : V bo = some (tb, .inr (2, [.ref ga, .ref ca, .int (zI lk)]))) (hga : V ga = some (ta, za Γ.2.1 0 81 gf)) (hbd : zbd gf) (hpf : zpl pf) (hgp : ga ≠ pl) (hT1 : zTx Γ V o1 r1 m1 h1) (hT2 : zTx Γ V o2 r2 m2 h2) (n1k : o1 ≠ k) (n1g : o1 ≠ ga) (n1p : o1 ≠ pl) (r1k : r1 ≠ k) (r1g : r1 ≠ ga) (r1p : r1 ≠ pl) (n2k : o2 ≠ k) (n2g : o2 ≠ ga) (n2p : o2 ≠ pl) (r2k : r2 ≠ k) (r2g : r2 ≠ ga) (r2p : r2 ≠ pl) : zM l Γ 7 yX3_seek wsX3_seek 0 0 V [.ref k, .ref o1, .ref o2] (fun rv V' => rv = none ∧ ∃ g' p' m', zbd g' ∧ zpl p' ∧ 0 ≤ m' ∧ m' ≤ 81 ∧ V' = zu (zu (zu V ga ta (za Γ.2.1 0 81 g')) pl tp (za Γ.2.1 0 81 p')) k tk (.inr (5, [.ref bo, .ref pl, .int (zI (m'))]))) := by
  have hTr1 := hT1.rg
  have hTr2 := hT2.rg
  have hkg : k ≠ ga := zne_oa hk hga
  have hkp : k ≠ pl := zne_oa hk hpl
  have w0 : Cond.fieldLink RX3 22 "Sashwords$Seeker" "many" "I" ∈ wsX3_seek := by decide +kernel
  have iX3 : ∀ w ∈ u_ws RX3 TX3 3, w ∈ wsX3_seek := by decide +kernel
  have w2 : Cond.fieldLink RX3 12 "Sashwords$Seeker" "borders" "LSashwords$Borders;" ∈ wsX3_seek := by decide +kernel
  refine zM_of (cc := cX3_seek) (nL := 6) (ret := none) (own := RX3) (by decide +kernel) rfl rfl (Nat.le_of_ble_eq_true rfl) (fun C X hi0 => ?_)
  show zG C V 0 0 0 [(0, .ref k), (1, .ref o1), (2, .ref o2)] []
  refine zr_aload_n X 1 0 dX3_seek_0 rfl rfl ?_
  refine zr_iconst X 2 dX3_seek_1 rfl ?_
  refine zr_put X 5 5 2 [.ref bo, .ref pl, .int (zI (0))] tyX3 hk rfl iX3 tyX3_ok nmX3 (by decide) w0 rfl rfl rfl rfl (Nat.le_of_ble_eq_true rfl) rfl dX3_seek_2 rfl ?_
  refine zr_aload_n X 6 0 dX3_seek_5 rfl rfl ?_
  refine zr_get X 9 5 0 (zu_eq _ _ _ _) rfl iX3 (by decide) w2 rfl rfl dX3_seek_6 rfl ?_
  refine zr_aload_n X 10 2 dX3_seek_9 rfl rfl ?_
  refine zr_callV (kc' := 0) (ks' := 0) X 13 1 (m_X0_measure l Γ ((zu_ne (zne_oo ht hk (by decide))).trans ht) ((zu_ne (Ne.symm (zne_oa hk hga))).trans hga) hbd (hT2.kept (by simp [zu, n2k, n2g, n2p]) (by simp [zu, r2k, r2g, r2p])) n2g r2g) gX3_seek_X0_measure rfl (by decide +kernel) rfl (by decide) ((zu_ne (zne_oo ht hk (by decide))).trans ht) rfl rfl (Nat.le_of_ble_eq_true rfl) dX3_seek_10 rfl (by first | with_reducible assumption | decide | omega) (by first | with_reducible assumption | decide | omega) (fun rv1 V2 hp3 => ?_)
  obtain ⟨gf4e, gf4, gf4b, gf4v⟩ := hp3
  rw [gf4e, gf4v]
  show zG C (zu (zu V k tk (.inr (5, [.ref bo, .ref pl, .int (zI (0))]))) ga ta (za Γ.2.1 0 81 gf4)) 0 0 13 [(0, .ref k), (1, .ref o1), (2, .ref o2)] []
  refine zr_aload_n X 14 2 dX3_seek_13 rfl rfl ?_
  refine zr_txSize X 17 (hT2.kept (by simp [zu, n2k, n2g, n2p]) (by simp [zu, r2k, r2g, r2p])) gX3_seek_X5_size_u30X5 gX3_seek_X2_size_u30X2 (by decide) (Nat.le_of_ble_eq_true rfl) dX3_seek_14 rfl ?_
  refine zr_istore_n X 18 [(3, .int (zI (m2))), (0, .ref k), (1, .ref o1), (2, .ref o2)] dX3_seek_17 rfl (by decide) rfl ?_
  have join : ∀ (p0 : Nat → Int) (k0 : Int), zpl p0 ∧ 0 ≤ k0 ∧ k0 ≤ 81 → zG C (zu (zu (zu V ga ta (za Γ.2.1 0 81 gf4)) pl tp (za Γ.2.1 0 81 p0)) k tk (.inr (5, [.ref bo, .ref pl, .int (zI (k0))]))) 0 0 27 [(3, .int (zI (m2))), (2, .ref o2), (1, .ref o1), (0, .ref k)] [] := by
    intro p0 k0 hJ
    obtain ⟨hJ1, hJ2, hJ3⟩ := id hJ
    refine zr_iconst X 28 dX3_seek_27 rfl ?_
    refine zr_istore X 30 [(4, .int (zI (0))), (3, .int (zI (m2))), (2, .ref o2), (1, .ref o1), (0, .ref k)] dX3_seek_28 rfl (by decide) rfl ?_
    refine zr_iconst X 31 dX3_seek_30 rfl ?_
    refine zr_istore X 33 [(5, .int (zI (0))), (4, .int (zI (0))), (3, .int (zI (m2))), (2, .ref o2), (1, .ref o1), (0, .ref k)] dX3_seek_31 rfl (by decide) rfl ?_
    have loop : ∀ (N : Nat) (p1 : Nat → Int) (k1 : Int) (q : Int) (i : Int), zpl p1 ∧ 0 ≤ k1 ∧ k1 ≤ 81 ∧ 0 ≤ q ∧ q ≤ m2 ∧ 0 ≤ i ∧ i ≤ 1000 → (1001 - i).toNat = N → zG C (zu (zu (zu V ga ta (za Γ.2.1 0 81 gf4)) pl tp (za Γ.2.1 0 81 p1)) k tk (.inr (5, [.ref bo, .ref pl, .int (zI (k1))]))) 0 0 33 [(5, .int (zI (i))), (4, .int (zI (q))), (3, .int (zI (m2))), (2, .ref o2), (1, .ref o1), (0, .ref k)] [] := by
      intro N
      induction N using Nat.strongRecOn with
      | _ N ih =>
      intro p1 k1 q i hI hN
      obtain ⟨hI1, hI2, hI3, hI4, hI5, hI6, hI7⟩ := id hI
      refine zr_iload X 35 0 dX3_seek_33 rfl rfl ?_
      refine zr_aload_n X 36 4 dX3_seek_35 rfl rfl ?_
      refine zr_txSize X 39 (hT1.kept (by simp [zu, n1k, n1g, n1p]) (by simp [zu, r1k, r1g, r1p])) gX3_seek_X5_size_u30X5 gX3_seek_X2_size_u30X2 (by decide) (Nat.le_of_ble_eq_true rfl) dX3_seek_36 rfl ?_
      refine zr_icmp_ge X 82 42 dX3_seek_39 rfl rfl (by first | with_reducible assumption | decide | omega) (by first | with_reducible assumption | decide | omega) (fun bq5 => ?_) (fun bq5 => ?_)
      · exact zr_vret X rfl ⟨rfl, gf4, p1, k1, gf4b, hI1, by omega, by omega, rfl⟩ dX3_seek_82
      · refine zr_aload_n X 43 5 dX3_seek_42 rfl rfl ?_
        refine zr_get X 46 5 0 (zu_eq _ _ _ _) rfl iX3 (by decide) w2 rfl rfl dX3_seek_43 rfl ?_
        refine zr_aload_n X 47 3 dX3_seek_46 rfl rfl ?_
        refine zr_iload X 49 1 dX3_seek_47 rfl rfl ?_
        refine zr_aload_n X 50 4 dX3_seek_49 rfl rfl ?_
        refine zr_iload X 52 0 dX3_seek_50 rfl rfl ?_
        refine zr_txAt X 55 (hT1.kept (by simp [zu, n1k, n1g, n1p]) (by simp [zu, r1k, r1g, r1p])) (by first | with_reducible assumption | decide | omega) gX3_seek_X5_at_u40X5 gX3_seek_X2_at_u40X2 (by decide) (Nat.le_of_ble_eq_true rfl) dX3_seek_52 rfl ?_
        rw [if_pos (show 0 ≤ i ∧ i < m1 by omega)]
        have hx6 := hTr1.2.2 i
        show zG C (zu (zu (zu V ga ta (za Γ.2.1 0 81 gf4)) pl tp (za Γ.2.1 0 81 p1)) k tk (.inr (5, [.ref bo, .ref pl, .int (zI (k1))]))) 0 0 55 [(5, .int (zI (i))), (4, .int (zI (q))), (3, .int (zI (m2))), (2, .ref o2), (1, .ref o1), (0, .ref k)] [.int (zI (h1 i)), .int (zI (q)), .ref o2, .ref bo]
        refine zr_callV (kc' := 0) (ks' := 0) X 58 3 (m_X0_grown l Γ (q := q) (x := h1 i) ((zu_ne (zne_oo ht hk (by decide))).trans ((zu_ne (zne_oa ht hpl)).trans ((zu_ne (zne_oa ht hga)).trans ht))) ((zu_ne (Ne.symm (zne_oa hk hga))).trans ((zu_ne hgp).trans (zu_eq _ _ _ _))) gf4b (hT2.kept (by simp [zu, n2k, n2g, n2p]) (by simp [zu, r2k, r2g, r2p])) (by first | with_reducible assumption | decide | omega) (by first | with_reducible assumption | decide | omega)) gX3_seek_X0_grown rfl (by decide +kernel) rfl (by decide) ((zu_ne (zne_oo ht hk (by decide))).trans ((zu_ne (zne_oa ht hpl)).trans ((zu_ne (zne_oa ht hga)).trans ht))) rfl rfl (Nat.le_of_ble_eq_true rfl) dX3_seek_55 rfl (by first | with_reducible assumption | decide | omega) (by first | with_reducible assumption | decide | omega) (fun rv7 V8 hp9 => ?_)
        obtain ⟨⟨y10, y10e, y10a, y10b⟩, y10v⟩ := hp9
        rw [y10e, y10v]
        show zG C (zu (zu (zu V ga ta (za Γ.2.1 0 81 gf4)) pl tp (za Γ.2.1 0 81 p1)) k tk (.inr (5, [.ref bo, .ref pl, .int (zI (k1))]))) 0 0 58 [(5, .int (zI (i))), (4, .int (zI (q))), (3, .int (zI (m2))), (2, .ref o2), (1, .ref o1), (0, .ref k)] [.int (zI (y10))]
        refine zr_istore X 60 [(4, .int (zI (y10))), (5, .int (zI (i))), (3, .int (zI (m2))), (2, .ref o2), (1, .ref o1), (0, .ref k)] dX3_seek_58 rfl (by decide) rfl ?_
        refine zr_iload X 62 0 dX3_seek_60 rfl rfl ?_
        refine zr_iload_n X 63 2 dX3_seek_62 rfl rfl ?_
        refine zr_icmp_ne X 76 66 dX3_seek_63 rfl rfl (by first | with_reducible assumption | decide | omega) (by first | with_reducible assumption | decide | omega) (fun bq11 => ?_) (fun bq11 => ?_)
        · refine zr_iinc X 79 1 [(5, .int (zI (i + 1))), (4, .int (zI (y10))), (3, .int (zI (m2))), (2, .ref o2), (1, .ref o1), (0, .ref k)] dX3_seek_76 rfl rfl (by decide) rfl ?_
          refine zr_goto X 33 dX3_seek_79 rfl ?_
          exact ih _ (by first | with_reducible assumption | decide | omega) p1 k1 y10 (i + 1) ⟨hI1, by omega, by omega, by omega, by omega, by omega, by omega⟩ rfl
        · refine zr_aload_n X 67 5 dX3_seek_66 rfl rfl ?_
          refine zr_iload X 69 1 dX3_seek_67 rfl rfl ?_
          refine zr_iconst X 70 dX3_seek_69 rfl ?_
          refine zr_iadd X 71 dX3_seek_70 rfl ?_
          refine zr_iload_n X 72 2 dX3_seek_71 rfl rfl ?_
          refine zr_isub X 73 dX3_seek_72 rfl ?_
          refine zr_callV (kc' := 0) (ks' := 0) X 76 1 (m_X3_note l Γ (x := (i + 1) - m2) (zu_eq _ _ _ _) ((zu_ne (Ne.symm (zne_oa hk hpl))).trans (zu_eq _ _ _ _)) (by first | with_reducible assumption | decide | omega) hI1 (by first | with_reducible assumption | decide | omega)) gX3_seek_X3_note rfl (by decide +kernel) rfl (by decide) (zu_eq _ _ _ _) rfl rfl (Nat.le_of_ble_eq_true rfl) dX3_seek_73 rfl (by first | with_reducible assumption | decide | omega) (by first | with_reducible assumption | decide | omega) (fun rv12 V13 hp14 => ?_)
          obtain ⟨p15e, p15, p15m, p15b, p15c, p15d, p15v⟩ := hp14
          rw [p15e, p15v]
          show zG C (zu (zu (zu (zu (zu V ga ta (za Γ.2.1 0 81 gf4)) pl tp (za Γ.2.1 0 81 p1)) k tk (.inr (5, [.ref bo, .ref pl, .int (zI (k1))]))) pl tp (za Γ.2.1 0 81 p15)) k tk (.inr (5, [.ref bo, .ref pl, .int (zI (p15m))]))) 0 0 76 [(4, .int (zI (y10))), (5, .int (zI (i))), (3, .int (zI (m2))), (2, .ref o2), (1, .ref o1), (0, .ref k)] []
          refine zr_iinc X 79 1 [(5, .int (zI (i + 1))), (4, .int (zI (y10))), (3, .int (zI (m2))), (2, .ref o2), (1, .ref o1), (0, .ref k)] dX3_seek_76 rfl rfl (by decide) rfl ?_
          refine zr_goto X 33 dX3_seek_79 rfl ?_
          refine zr_view (V' := (zu (zu (zu V ga ta (za Γ.2.1 0 81 gf4)) pl tp (za Γ.2.1 0 81 p15)) k tk (.inr (5, [.ref bo, .ref pl, .int (zI (p15m))])))) (by
              funext z
              simp only [zu]
              by_cases e0 : z = ga
              · subst e0; simp [hpl, hgp, Ne.symm hgp, hkg, Ne.symm hkg, hkp, Ne.symm hkp, Int.add_assoc]
              by_cases e1 : z = pl
              · subst e1; simp [hpl, hgp, Ne.symm hgp, hkg, Ne.symm hkg, hkp, Ne.symm hkp, Int.add_assoc]
              by_cases e2 : z = k
              · subst e2; simp [hpl, hgp, Ne.symm hgp, hkg, Ne.symm hkg, hkp, Ne.symm hkp, Int.add_assoc]
              simp [e0, e1, e2]) ?_
          exact ih _ (by first | with_reducible assumption | decide | omega) p15 p15m y10 (i + 1) ⟨p15b, by omega, by omega, by omega, by omega, by omega, by omega⟩ rfl
    exact loop _ p0 k0 0 0 ⟨hJ1, by omega, by omega, by omega, by omega, by omega, by omega⟩ rfl
  refine zr_iload_n X 19 0 dX3_seek_18 rfl rfl ?_
  refine zr_if_ne X 27 22 dX3_seek_19 rfl rfl (by first | with_reducible assumption | decide | omega) (fun bq16 => ?_) (fun bq16 => ?_)
  · refine zr_sub [0, 3, 2, 1] [(3, .int (zI (m2))), (2, .ref o2), (1, .ref o1), (0, .ref k)] rfl ?_
    refine zr_view (V' := (zu (zu (zu V ga ta (za Γ.2.1 0 81 gf4)) pl tp (za Γ.2.1 0 81 pf)) k tk (.inr (5, [.ref bo, .ref pl, .int (zI (0))])))) (by
        funext z
        simp only [zu]
        by_cases e0 : z = ga
        · subst e0; simp [hpl, hgp, Ne.symm hgp, hkg, Ne.symm hkg, hkp, Ne.symm hkp, Int.add_assoc]
        by_cases e1 : z = pl
        · subst e1; simp [hpl, hgp, Ne.symm hgp, hkg, Ne.symm hkg, hkp, Ne.symm hkp, Int.add_assoc]
        by_cases e2 : z = k
        · subst e2; simp [hpl, hgp, Ne.symm hgp, hkg, Ne.symm hkg, hkp, Ne.symm hkp, Int.add_assoc]
        simp [e0, e1, e2]) ?_
    exact join pf 0 ⟨hpf, by omega, by omega⟩
  · refine zr_aload_n X 23 1 dX3_seek_22 rfl rfl ?_
    refine zr_iconst X 24 dX3_seek_23 rfl ?_
    refine zr_callV (kc' := 0) (ks' := 0) X 27 1 (m_X3_note l Γ (x := 0) ((zu_ne (zne_oa hk hga)).trans (zu_eq _ _ _ _)) ((zu_ne (Ne.symm hgp)).trans ((zu_ne (Ne.symm (zne_oa hk hpl))).trans hpl)) (by first | with_reducible assumption | decide | omega) hpf (by first | with_reducible assumption | decide | omega)) gX3_seek_X3_note rfl (by decide +kernel) rfl (by decide) ((zu_ne (zne_oa hk hga)).trans (zu_eq _ _ _ _)) rfl rfl (Nat.le_of_ble_eq_true rfl) dX3_seek_24 rfl (by first | with_reducible assumption | decide | omega) (by first | with_reducible assumption | decide | omega) (fun rv17 V18 hp19 => ?_)
    obtain ⟨p20e, p20, p20m, p20b, p20c, p20d, p20v⟩ := hp19
    rw [p20e, p20v]
    show zG C (zu (zu (zu (zu V k tk (.inr (5, [.ref bo, .ref pl, .int (zI (0))]))) ga ta (za Γ.2.1 0 81 gf4)) pl tp (za Γ.2.1 0 81 p20)) k tk (.inr (5, [.ref bo, .ref pl, .int (zI (p20m))]))) 0 0 27 [(3, .int (zI (m2))), (0, .ref k), (1, .ref o1), (2, .ref o2)] []
    refine zr_sub [0, 3, 2, 1] [(3, .int (zI (m2))), (2, .ref o2), (1, .ref o1), (0, .ref k)] rfl ?_
    refine zr_view (V' := (zu (zu (zu V ga ta (za Γ.2.1 0 81 gf4)) pl tp (za Γ.2.1 0 81 p20)) k tk (.inr (5, [.ref bo, .ref pl, .int (zI (p20m))])))) (by
        funext z
        simp only [zu]
        by_cases e0 : z = ga
        · subst e0; simp [hpl, hgp, Ne.symm hgp, hkg, Ne.symm hkg, hkp, Ne.symm hkp, Int.add_assoc]
        by_cases e1 : z = pl
        · subst e1; simp [hpl, hgp, Ne.symm hgp, hkg, Ne.symm hkg, hkp, Ne.symm hkp, Int.add_assoc]
        by_cases e2 : z = k
        · subst e2; simp [hpl, hgp, Ne.symm hgp, hkg, Ne.symm hkg, hkp, Ne.symm hkp, Int.add_assoc]
        simp [e0, e1, e2]) ?_
    exact join p20 p20m ⟨p20b, by omega, by omega⟩
