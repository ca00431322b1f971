/-! Window: what makes rows, and moving text to the front; the constructor of Text and of Script and Window -/
set_option maxRecDepth 100000 in
set_option maxHeartbeats 4000000 in
theorem m_X5_moveTextToFront (l : Launch) (Γ : zGam) {V : zV} {w r tg tr n : Nat} {st cap lim pos mk : Int} {f : Nat → Int} (hw : V w = some (tg, .inr (6, [.ref r, .int (zI st), .int (zI cap), .int (zI lim), .int (zI pos), .int (zI mk)]))) (hr : V r = some (tr, za Γ.2.1 1 n f)) (hb : zWb st cap lim pos mk n) (hcf : zc f) : zM l Γ 3 yX5_moveTextToFront wsX5_moveTextToFront 0 0 V [.ref w] (fun rv V' => rv = none ∧ ∃ g', zc g' ∧ V' = zu (zu V r tr (za Γ.2.1 1 n g')) w tg (.inr (6, [.ref r, .int (zI (st)), .int (zI (cap)), .int (zI (cap)), .int (zI (lim - pos)), .int (zI (-9))]))) := by
  obtain ⟨hb1, hb2, hb3, hb4, hb5, hb6, hb7, hb8⟩ := id hb
  have hwr : w ≠ r := zne_oa hw hr
  have w0 : Cond.fieldLink RX5 21 "Sashwords$Window" "capacity" "I" ∈ wsX5_moveTextToFront := by decide +kernel
  have iX5 : ∀ w ∈ u_ws RX5 TX5 6, w ∈ wsX5_moveTextToFront := by decide +kernel
  refine zM_of (cc := cX5_moveTextToFront) (nL := 3) (ret := none) (own := RX5) (by decide +kernel) rfl rfl (Nat.le_of_ble_eq_true rfl) (fun C X hi0 => ?_)
  show zG C V 0 0 0 [(0, .ref w)] []
  refine zr_aload_n X 1 0 dX5_moveTextToFront_0 rfl rfl ?_
  refine zr_callV (kc' := 0) (ks' := 0) X 4 0 (m_X5_size l Γ hw (by first | with_reducible assumption | decide | omega)) gX5_moveTextToFront_X5_size rfl (by decide +kernel) rfl (by decide) hw rfl rfl (Nat.le_of_ble_eq_true rfl) dX5_moveTextToFront_1 rfl (by first | with_reducible assumption | decide | omega) (by first | with_reducible assumption | decide | omega) (fun rv1 V2 hp3 => ?_)
  rw [hp3.1, hp3.2]
  show zG C V 0 0 4 [(0, .ref w)] [.int (zI (lim - pos))]
  refine zr_istore_n X 5 [(1, .int (zI (lim - pos))), (0, .ref w)] dX5_moveTextToFront_4 rfl (by decide) rfl ?_
  refine zr_iconst X 6 dX5_moveTextToFront_5 rfl ?_
  refine zr_istore_n X 7 [(2, .int (zI (0))), (1, .int (zI (lim - pos))), (0, .ref w)] dX5_moveTextToFront_6 rfl (by decide) rfl ?_
  refine zr_view (V' := zu V r tr (za Γ.2.1 1 n f)) (zu_id hr).symm ?_
  have loop : ∀ (N : Nat) (g1 : Nat → Int) (k : Int), zc g1 ∧ 0 ≤ k ∧ k ≤ lim - pos → (lim - pos - k).toNat = N → zG C (zu V r tr (za Γ.2.1 1 n g1)) 0 0 7 [(2, .int (zI (k))), (1, .int (zI (lim - pos))), (0, .ref w)] [] := by
    intro N
    induction N using Nat.strongRecOn with
    | _ N ih =>
    intro g1 k hI hN
    obtain ⟨hI1, hI2, hI3⟩ := id hI
    refine zr_iload_n X 8 0 dX5_moveTextToFront_7 rfl rfl ?_
    refine zr_iload_n X 9 1 dX5_moveTextToFront_8 rfl rfl ?_
    refine zr_icmp_ge X 28 12 dX5_moveTextToFront_9 rfl rfl (by first | with_reducible assumption | decide | omega) (by first | with_reducible assumption | decide | omega) (fun bq4 => ?_) (fun bq4 => ?_)
    · refine zr_aload_n X 29 2 dX5_moveTextToFront_28 rfl rfl ?_
      refine zr_iload_n X 30 1 dX5_moveTextToFront_29 rfl rfl ?_
      refine zr_aload_n X 31 2 dX5_moveTextToFront_30 rfl rfl ?_
      refine zr_get X 34 6 2 ((zu_ne (zne_oa hw hr)).trans hw) rfl iX5 (by decide) w0 rfl rfl dX5_moveTextToFront_31 rfl ?_
      refine zr_callV (kc' := 0) (ks' := 0) X 37 2 (m_X5_goTo l Γ (p := lim - pos) (q := cap) ((zu_ne (zne_oa hw hr)).trans hw)) gX5_moveTextToFront_X5_goTo rfl (by decide +kernel) rfl (by decide) ((zu_ne (zne_oa hw hr)).trans hw) rfl rfl (Nat.le_of_ble_eq_true rfl) dX5_moveTextToFront_34 rfl (by first | with_reducible assumption | decide | omega) (by first | with_reducible assumption | decide | omega) (fun rv5 V6 hp7 => ?_)
      rw [hp7.1, hp7.2]
      show zG C (zu (zu V r tr (za Γ.2.1 1 n g1)) w tg (.inr (6, [.ref r, .int (zI (st)), .int (zI (cap)), .int (zI (cap)), .int (zI (lim - pos)), .int (zI (-9))]))) 0 0 37 [(2, .int (zI (k))), (1, .int (zI (lim - pos))), (0, .ref w)] []
      exact zr_vret X rfl ⟨rfl, g1, hI1, rfl⟩ dX5_moveTextToFront_37
    · refine zr_aload_n X 13 2 dX5_moveTextToFront_12 rfl rfl ?_
      refine zr_iload_n X 14 0 dX5_moveTextToFront_13 rfl rfl ?_
      refine zr_aload_n X 15 2 dX5_moveTextToFront_14 rfl rfl ?_
      refine zr_iload_n X 16 0 dX5_moveTextToFront_15 rfl rfl ?_
      refine zr_callV (kc' := 0) (ks' := 0) X 19 1 (m_X5_at l Γ (k := k) ((zu_ne (zne_oa hw hr)).trans hw) (zu_eq _ _ _ _) hb (by first | with_reducible assumption | decide | omega)) gX5_moveTextToFront_X5_at rfl (by decide +kernel) rfl (by decide) ((zu_ne (zne_oa hw hr)).trans hw) rfl rfl (Nat.le_of_ble_eq_true rfl) dX5_moveTextToFront_16 rfl (by first | with_reducible assumption | decide | omega) (by first | with_reducible assumption | decide | omega) (fun rv8 V9 hp10 => ?_)
      rw [hp10.1, hp10.2]
      rw [if_pos (show 0 ≤ k ∧ k < lim - pos by omega)]
      have hxx := hI1 (st + pos + k).toNat
      show zG C (zu V r tr (za Γ.2.1 1 n g1)) 0 0 19 [(2, .int (zI (k))), (1, .int (zI (lim - pos))), (0, .ref w)] [.int (zI (g1 (st + pos + k).toNat)), .int (zI (k)), .ref w]
      refine zr_callV (kc' := 0) (ks' := 0) X 22 2 (m_X5_store l Γ (p := k) (x := g1 (st + pos + k).toNat) ((zu_ne (zne_oa hw hr)).trans hw) (zu_eq _ _ _ _) (by first | with_reducible assumption | decide | omega)) gX5_moveTextToFront_X5_store rfl (by decide +kernel) rfl (by decide) ((zu_ne (zne_oa hw hr)).trans hw) rfl rfl (Nat.le_of_ble_eq_true rfl) dX5_moveTextToFront_19 rfl (by first | with_reducible assumption | decide | omega) (by first | with_reducible assumption | decide | omega) (fun rv11 V12 hp13 => ?_)
      rw [hp13.1, hp13.2]
      rw [zu_zu]
      show zG C (zu V r tr (za Γ.2.1 1 n (zf g1 (st + k).toNat (g1 (st + pos + k).toNat)))) 0 0 22 [(2, .int (zI (k))), (1, .int (zI (lim - pos))), (0, .ref w)] []
      refine zr_iinc X 25 0 [(2, .int (zI (k + 1))), (1, .int (zI (lim - pos))), (0, .ref w)] dX5_moveTextToFront_22 rfl rfl (by decide) rfl ?_
      refine zr_goto X 7 dX5_moveTextToFront_25 rfl ?_
      exact ih _ (by first | with_reducible assumption | decide | omega) (zf g1 (st + k).toNat (g1 (st + pos + k).toNat)) (k + 1) ⟨zc_zf hI1 (hI1 _), by omega, by omega⟩ rfl
  exact loop _ f 0 ⟨hcf, by omega, by omega⟩ rfl
set_option maxRecDepth 100000 in
set_option maxHeartbeats 4000000 in
theorem m_X5_becomeNew (l : Launch) (Γ : zGam) {V : zV} {w r tg : Nat} {st cap lim pos mk : Int} {z : Int} (hw : V w = some (tg, .inr (6, [.ref r, .int (zI st), .int (zI cap), .int (zI lim), .int (zI pos), .int (zI mk)]))) (hz : 0 ≤ z ∧ z ≤ 40) : zM l Γ 2 yX5_becomeNew wsX5_becomeNew 1 z.toNat V [.ref w, .int (zI (z))] (fun rv V' => rv = none ∧ ∃ q, V q = none ∧ V' = zu (zu V q 50 (za Γ.2.1 1 z.toNat (fun _ => 0))) w tg (.inr (6, [.ref q, .int (zI (0)), .int (zI (((z.toNat : Nat) : Int))), .int (zI (((z.toNat : Nat) : Int))), .int (zI (0)), .int (zI (-9))]))) := by
  have w0 : Cond.methodLink RX5 9 Lib.Math.max.name ∈ wsX5_becomeNew := by decide +kernel
  have w1 : Cond.static Lib.Math.max.name ∈ wsX5_becomeNew := by decide +kernel
  have w2 : Cond.initialized "java/lang/Math" ∈ wsX5_becomeNew := by decide +kernel
  have w3 : Cond.code Lib.Math.max.name Lib.Math.max.code 2 (some .int) ∈ wsX5_becomeNew := by decide +kernel
  have w4 : Cond.arrayClass .char ∈ wsX5_becomeNew := by decide +kernel
  have w5 : Cond.fieldLink RX5 15 "Sashwords$Window" "row" "[C" ∈ wsX5_becomeNew := by decide +kernel
  have iX5 : ∀ w ∈ u_ws RX5 TX5 6, w ∈ wsX5_becomeNew := by decide +kernel
  have w7 : Cond.fieldLink RX5 38 "Sashwords$Window" "start" "I" ∈ wsX5_becomeNew := by decide +kernel
  have w8 : Cond.fieldLink RX5 21 "Sashwords$Window" "capacity" "I" ∈ wsX5_becomeNew := by decide +kernel
  refine zM_of (cc := cX5_becomeNew) (nL := 2) (ret := none) (own := RX5) (by decide +kernel) rfl rfl (Nat.le_of_ble_eq_true rfl) (fun C X hi0 => ?_)
  show zG C V 1 z.toNat 0 [(0, .ref w), (1, .int (zI (z)))] []
  refine zr_aload_n X 1 0 dX5_becomeNew_0 rfl rfl ?_
  refine zr_iload_n X 2 1 dX5_becomeNew_1 rfl rfl ?_
  refine zr_iconst X 3 dX5_becomeNew_2 rfl ?_
  refine zr_mmax X 6 (z) w0 w1 w2 w3 (by decide) (Nat.le_of_ble_eq_true rfl) (by first | with_reducible assumption | decide | omega) (by first | with_reducible assumption | decide | omega) (by split <;> omega) dX5_becomeNew_3 rfl ?_
  refine zr_newac (kc' := (1 - 1)) (ks' := (z.toNat - (z).toNat)) X 8 50 w4 (by first | with_reducible assumption | decide | omega) dX5_becomeNew_6 rfl (by first | with_reducible assumption | decide | omega) (by first | with_reducible assumption | decide | omega) (fun q1 hq2 => ?_)
  refine zr_put X 11 6 0 [.ref q1, .int (zI (st)), .int (zI (cap)), .int (zI (lim)), .int (zI (pos)), .int (zI (mk))] tyX5 ((zu_ne (zne_new hw hq2)).trans hw) rfl iX5 tyX5_ok nmX5 (by decide) w5 rfl rfl rfl rfl (Nat.le_of_ble_eq_true rfl) rfl dX5_becomeNew_8 rfl ?_
  refine zr_aload_n X 12 0 dX5_becomeNew_11 rfl rfl ?_
  refine zr_iconst X 13 dX5_becomeNew_12 rfl ?_
  refine zr_put X 16 6 1 [.ref q1, .int (zI (0)), .int (zI (cap)), .int (zI (lim)), .int (zI (pos)), .int (zI (mk))] tyX5 (zu_eq _ _ _ _) rfl iX5 tyX5_ok nmX5 (by decide) w7 rfl rfl rfl rfl (Nat.le_of_ble_eq_true rfl) rfl dX5_becomeNew_13 rfl ?_
  refine zr_view (zu_zu _ _ _ _ _ _) ?_
  refine zr_aload_n X 17 0 dX5_becomeNew_16 rfl rfl ?_
  refine zr_aload_n X 18 0 dX5_becomeNew_17 rfl rfl ?_
  refine zr_get X 21 6 0 (zu_eq _ _ _ _) rfl iX5 (by decide) w5 rfl rfl dX5_becomeNew_18 rfl ?_
  refine zr_alen X 22 1 ((zu_ne (Ne.symm (zne_new hw hq2))).trans (zu_eq _ _ _ _)) (by decide) dX5_becomeNew_21 rfl ?_
  refine zr_put X 25 6 2 [.ref q1, .int (zI (0)), .int (zI (((z).toNat : Nat))), .int (zI (lim)), .int (zI (pos)), .int (zI (mk))] tyX5 (zu_eq _ _ _ _) rfl iX5 tyX5_ok nmX5 (by decide) w8 rfl rfl rfl rfl (Nat.le_of_ble_eq_true rfl) rfl dX5_becomeNew_22 rfl ?_
  refine zr_view (zu_zu _ _ _ _ _ _) ?_
  refine zr_aload_n X 26 0 dX5_becomeNew_25 rfl rfl ?_
  refine zr_iconst X 27 dX5_becomeNew_26 rfl ?_
  refine zr_aload_n X 28 0 dX5_becomeNew_27 rfl rfl ?_
  refine zr_get X 31 6 2 (zu_eq _ _ _ _) rfl iX5 (by decide) w8 rfl rfl dX5_becomeNew_28 rfl ?_
  refine zr_callV (kc' := (1 - 1)) (ks' := (z.toNat - (z).toNat)) X 34 2 (m_X5_goTo l Γ (p := 0) (q := ((z).toNat : Nat)) (zu_eq _ _ _ _)) gX5_becomeNew_X5_goTo rfl (by decide +kernel) rfl (by decide) (zu_eq _ _ _ _) rfl rfl (Nat.le_of_ble_eq_true rfl) dX5_becomeNew_31 rfl (by first | with_reducible assumption | decide | omega) (by first | with_reducible assumption | decide | omega) (fun rv3 V4 hp5 => ?_)
  rw [hp5.1, hp5.2]
  rw [zu_zu]
  show zG C (zu (zu V q1 50 (za Γ.2.1 1 ((z).toNat) (fun _ => 0))) w tg (.inr (6, [.ref q1, .int (zI (0)), .int (zI (((z).toNat : Nat))), .int (zI (((z).toNat : Nat))), .int (zI (0)), .int (zI (-9))]))) (1 - 1) (z.toNat - (z).toNat) 34 [(0, .ref w), (1, .int (zI (z)))] []
  exact zr_vret X rfl ⟨rfl, q1, hq2, rfl⟩ dX5_becomeNew_34
