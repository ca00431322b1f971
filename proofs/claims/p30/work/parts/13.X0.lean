/-! class Borders -/
def zbd (f : Nat → Int) : Prop := ∀ j, 0 ≤ f j ∧ f j ≤ 1000
theorem zbd_zf {f : Nat → Int} (h : zbd f) {i : Nat} {x : Int} (hx : 0 ≤ x ∧ x ≤ 1000) : zbd (zf f i x) := by
  intro j
  unfold zf
  split
  · exact hx
  · exact h j
theorem zbd_zero : zbd (fun _ => 0) := fun _ => ⟨Int.le_refl _, (by decide : (0 : Int) ≤ 1000)⟩
set_option maxRecDepth 100000 in
set_option maxHeartbeats 4000000 in
theorem m_X0_greatestOf (l : Launch) (Γ : zGam) {V : zV} {t ga ca tt ta : Nat} {lk : Int} {gf : Nat → Int} {k : Int} (ht : V t = some (tt, .inr (2, [.ref ga, .ref ca, .int (zI lk)]))) (hga : V ga = some (ta, za Γ.2.1 0 81 gf)) (hk : -2147483648 ≤ k ∧ k ≤ 2147483647) : zM l Γ 0 yX0_greatestOf wsX0_greatestOf 0 0 V [.ref t, .int (zI (k))] (fun rv V' => rv = some (.int (zI (if 0 ≤ k ∧ k < 81 then gf k.toNat else 0))) ∧ V' = V) := by
  have w0 : Cond.fieldLink RX0 9 "Sashwords$Borders" "greatest" "[I" ∈ wsX0_greatestOf := by decide +kernel
  have iX0 : ∀ w ∈ u_ws RX0 TX0 3, w ∈ wsX0_greatestOf := by decide +kernel
  refine zM_of (cc := cX0_greatestOf) (nL := 2) (ret := (some .int)) (own := RX0) (by decide +kernel) rfl rfl (Nat.le_of_ble_eq_true rfl) (fun C X hi0 => ?_)
  show zG C V 0 0 0 [(0, .ref t), (1, .int (zI (k)))] []
  refine zr_iload_n X 1 1 dX0_greatestOf_0 rfl rfl ?_
  refine zr_if_lt X 13 4 dX0_greatestOf_1 rfl rfl (by first | with_reducible assumption | decide | omega) (fun bq1 => ?_) (fun bq1 => ?_)
  · refine zr_iconst X 14 dX0_greatestOf_13 rfl ?_
    refine zr_goto X 23 dX0_greatestOf_14 rfl ?_
    exact zr_iret X rfl ⟨by rw [if_neg (by first | with_reducible assumption | decide | omega)], rfl⟩ dX0_greatestOf_23
  · refine zr_iload_n X 5 1 dX0_greatestOf_4 rfl rfl ?_
    refine zr_aload_n X 6 0 dX0_greatestOf_5 rfl rfl ?_
    refine zr_get X 9 2 0 ht rfl iX0 (by decide) w0 rfl rfl dX0_greatestOf_6 rfl ?_
    refine zr_alen X 10 0 hga (by decide) dX0_greatestOf_9 rfl ?_
    refine zr_icmp_lt X 17 13 dX0_greatestOf_10 rfl rfl (by first | with_reducible assumption | decide | omega) (by first | with_reducible assumption | decide | omega) (fun bq2 => ?_) (fun bq2 => ?_)
    · refine zr_aload_n X 18 0 dX0_greatestOf_17 rfl rfl ?_
      refine zr_get X 21 2 0 ht rfl iX0 (by decide) w0 rfl rfl dX0_greatestOf_18 rfl ?_
      refine zr_iload_n X 22 1 dX0_greatestOf_21 rfl rfl ?_
      refine zr_iald X 23 hga (by first | with_reducible assumption | decide | omega) dX0_greatestOf_22 rfl ?_
      exact zr_iret X rfl ⟨by rw [if_pos (by first | with_reducible assumption | decide | omega)], rfl⟩ dX0_greatestOf_23
    · refine zr_iconst X 14 dX0_greatestOf_13 rfl ?_
      refine zr_goto X 23 dX0_greatestOf_14 rfl ?_
      exact zr_iret X rfl ⟨by rw [if_neg (by first | with_reducible assumption | decide | omega)], rfl⟩ dX0_greatestOf_23
set_option maxRecDepth 100000 in
set_option maxHeartbeats 4000000 in
theorem m_X0_linkAt (l : Launch) (Γ : zGam) {V : zV} {t ga ca tt tc : Nat} {lk : Int} {cf : Nat → Int} {k : Int} (ht : V t = some (tt, .inr (2, [.ref ga, .ref ca, .int (zI lk)]))) (hca : V ca = some (tc, za Γ.2.1 0 80 cf)) (hk : -2147483648 ≤ k ∧ k ≤ 2147483647 ∧ 0 ≤ lk ∧ lk ≤ 80) : zM l Γ 0 yX0_linkAt wsX0_linkAt 0 0 V [.ref t, .int (zI (k))] (fun rv V' => rv = some (.int (zI (if 0 ≤ k ∧ k < lk then cf k.toNat else -1))) ∧ V' = V) := by
  have w0 : Cond.fieldLink RX0 39 "Sashwords$Borders" "links" "I" ∈ wsX0_linkAt := by decide +kernel
  have iX0 : ∀ w ∈ u_ws RX0 TX0 3, w ∈ wsX0_linkAt := by decide +kernel
  have w2 : Cond.fieldLink RX0 15 "Sashwords$Borders" "chainRow" "[I" ∈ wsX0_linkAt := by decide +kernel
  refine zM_of (cc := cX0_linkAt) (nL := 2) (ret := (some .int)) (own := RX0) (by decide +kernel) rfl rfl (Nat.le_of_ble_eq_true rfl) (fun C X hi0 => ?_)
  show zG C V 0 0 0 [(0, .ref t), (1, .int (zI (k)))] []
  refine zr_iload_n X 1 1 dX0_linkAt_0 rfl rfl ?_
  refine zr_if_lt X 21 4 dX0_linkAt_1 rfl rfl (by first | with_reducible assumption | decide | omega) (fun bq1 => ?_) (fun bq1 => ?_)
  · refine zr_iconst X 22 dX0_linkAt_21 rfl ?_
    refine zr_goto X 31 dX0_linkAt_22 rfl ?_
    exact zr_iret X rfl ⟨by rw [if_neg (by first | with_reducible assumption | decide | omega)], rfl⟩ dX0_linkAt_31
  · refine zr_iload_n X 5 1 dX0_linkAt_4 rfl rfl ?_
    refine zr_aload_n X 6 0 dX0_linkAt_5 rfl rfl ?_
    refine zr_get X 9 2 2 ht rfl iX0 (by decide) w0 rfl rfl dX0_linkAt_6 rfl ?_
    refine zr_icmp_ge X 21 12 dX0_linkAt_9 rfl rfl (by first | with_reducible assumption | decide | omega) (by first | with_reducible assumption | decide | omega) (fun bq2 => ?_) (fun bq2 => ?_)
    · refine zr_iconst X 22 dX0_linkAt_21 rfl ?_
      refine zr_goto X 31 dX0_linkAt_22 rfl ?_
      exact zr_iret X rfl ⟨by rw [if_neg (by first | with_reducible assumption | decide | omega)], rfl⟩ dX0_linkAt_31
    · refine zr_iload_n X 13 1 dX0_linkAt_12 rfl rfl ?_
      refine zr_aload_n X 14 0 dX0_linkAt_13 rfl rfl ?_
      refine zr_get X 17 2 1 ht rfl iX0 (by decide) w2 rfl rfl dX0_linkAt_14 rfl ?_
      refine zr_alen X 18 0 hca (by decide) dX0_linkAt_17 rfl ?_
      refine zr_icmp_lt X 25 21 dX0_linkAt_18 rfl rfl (by first | with_reducible assumption | decide | omega) (by first | with_reducible assumption | decide | omega) (fun bq3 => ?_) (fun bq3 => ?_)
      · refine zr_aload_n X 26 0 dX0_linkAt_25 rfl rfl ?_
        refine zr_get X 29 2 1 ht rfl iX0 (by decide) w2 rfl rfl dX0_linkAt_26 rfl ?_
        refine zr_iload_n X 30 1 dX0_linkAt_29 rfl rfl ?_
        refine zr_iald X 31 hca (by first | with_reducible assumption | decide | omega) dX0_linkAt_30 rfl ?_
        exact zr_iret X rfl ⟨by rw [if_pos (by first | with_reducible assumption | decide | omega)], rfl⟩ dX0_linkAt_31
      · refine zr_iconst X 22 dX0_linkAt_21 rfl ?_
        refine zr_goto X 31 dX0_linkAt_22 rfl ?_
        exact zr_iret X rfl ⟨by rw [if_neg (by first | with_reducible assumption | decide | omega)], rfl⟩ dX0_linkAt_31
theorem zbd_if {f : Nat → Int} (h : zbd f) (k : Int) : ∃ x : Int, (if 0 ≤ k ∧ k < 81 then f k.toNat else 0) = x ∧ 0 ≤ x ∧ x ≤ 1000 := by
  by_cases c : 0 ≤ k ∧ k < 81
  · exact ⟨_, if_pos c, (h _).1, (h _).2⟩
  · exact ⟨0, if_neg c, by omega, by omega⟩
set_option maxRecDepth 100000 in
set_option maxHeartbeats 4000000 in
theorem m_X0_grown (l : Launch) (Γ : zGam) {V : zV} {t ga ca tt ta : Nat} {lk : Int} {gf : Nat → Int} {o r : Nat} {m q x : Int} {h : Int → Int} (ht : V t = some (tt, .inr (2, [.ref ga, .ref ca, .int (zI lk)]))) (hga : V ga = some (ta, za Γ.2.1 0 81 gf)) (hbd : zbd gf) (hT : zTx Γ V o r m h) (hq : 0 ≤ q ∧ q ≤ m) (hx : 0 ≤ x ∧ x ≤ 255) : zM l Γ 5 yX0_grown wsX0_grown 0 0 V [.ref t, .ref o, .int (zI (q)), .int (zI (x))] (fun rv V' => (∃ y : Int, rv = some (.int (zI y)) ∧ 0 ≤ y ∧ y ≤ m) ∧ V' = V) := by
  have hTr := hT.rg
  refine zM_of (cc := cX0_grown) (nL := 6) (ret := (some .int)) (own := RX0) (by decide +kernel) rfl rfl (Nat.le_of_ble_eq_true rfl) (fun C X hi0 => ?_)
  show zG C V 0 0 0 [(0, .ref t), (1, .ref o), (2, .int (zI (q))), (3, .int (zI (x)))] []
  refine zr_iload_n X 1 2 dX0_grown_0 rfl rfl ?_
  refine zr_istore X 3 [(4, .int (zI (q))), (0, .ref t), (1, .ref o), (2, .int (zI (q))), (3, .int (zI (x)))] dX0_grown_1 rfl (by decide) rfl ?_
  refine zr_iload_n X 4 3 dX0_grown_3 rfl rfl ?_
  refine zr_istore X 6 [(5, .int (zI (q))), (4, .int (zI (q))), (0, .ref t), (1, .ref o), (2, .int (zI (q))), (3, .int (zI (x)))] dX0_grown_4 rfl (by decide) rfl ?_
  refine zr_sub [0, 1, 5, 4, 3, 2] [(5, .int (zI (q))), (4, .int (zI (q))), (3, .int (zI (x))), (2, .int (zI (q))), (1, .ref o), (0, .ref t)] rfl ?_
  have loop : ∀ (N : Nat) (n : Int) (st : Int), 0 ≤ n ∧ n ≤ 1000 ∧ st ≤ 1000 ∧ -1 ≤ st → (st + 1).toNat = N → zG C V 0 0 6 [(5, .int (zI (st))), (4, .int (zI (n))), (3, .int (zI (x))), (2, .int (zI (q))), (1, .ref o), (0, .ref t)] [] := by
    intro N
    induction N using Nat.strongRecOn with
    | _ N ih =>
    intro n st hI hN
    obtain ⟨hI1, hI2, hI3, hI4⟩ := id hI
    refine zr_iload X 8 0 dX0_grown_6 rfl rfl ?_
    refine zr_if_le X 40 11 dX0_grown_8 rfl rfl (by first | with_reducible assumption | decide | omega) (fun bq1 => ?_) (fun bq1 => ?_)
    · refine zr_aload_n X 41 4 dX0_grown_40 rfl rfl ?_
      refine zr_iload X 43 1 dX0_grown_41 rfl rfl ?_
      refine zr_txAt X 46 hT (by first | with_reducible assumption | decide | omega) gX0_grown_X5_at_u24X5 gX0_grown_X2_at_u24X2 (by decide) (Nat.le_of_ble_eq_true rfl) dX0_grown_43 rfl ?_
      obtain ⟨x2, hx2, hx2a, hx2b, hx2c⟩ := zTx_if (m := m) hTr.2.2 n
      rw [hx2]
      show zG C V 0 0 46 [(5, .int (zI (st))), (4, .int (zI (n))), (3, .int (zI (x))), (2, .int (zI (q))), (1, .ref o), (0, .ref t)] [.int (zI (x2))]
      refine zr_iload_n X 47 2 dX0_grown_46 rfl rfl ?_
      refine zr_icmp_ne X 57 50 dX0_grown_47 rfl rfl (by first | with_reducible assumption | decide | omega) (by first | with_reducible assumption | decide | omega) (fun bq3 => ?_) (fun bq3 => ?_)
      · refine zr_iconst X 58 dX0_grown_57 rfl ?_
        exact zr_iret X rfl ⟨⟨0, rfl, by omega, by omega⟩, rfl⟩ dX0_grown_58
      · refine zr_iload X 52 1 dX0_grown_50 rfl rfl ?_
        refine zr_iconst X 53 dX0_grown_52 rfl ?_
        refine zr_iadd X 54 dX0_grown_53 rfl ?_
        refine zr_goto X 58 dX0_grown_54 rfl ?_
        exact zr_iret X rfl ⟨⟨n + 1, rfl, by omega, by omega⟩, rfl⟩ dX0_grown_58
    · refine zr_iload X 13 1 dX0_grown_11 rfl rfl ?_
      refine zr_if_le X 40 16 dX0_grown_13 rfl rfl (by first | with_reducible assumption | decide | omega) (fun bq4 => ?_) (fun bq4 => ?_)
      · refine zr_aload_n X 41 4 dX0_grown_40 rfl rfl ?_
        refine zr_iload X 43 1 dX0_grown_41 rfl rfl ?_
        refine zr_txAt X 46 hT (by first | with_reducible assumption | decide | omega) gX0_grown_X5_at_u24X5 gX0_grown_X2_at_u24X2 (by decide) (Nat.le_of_ble_eq_true rfl) dX0_grown_43 rfl ?_
        obtain ⟨x5, hx5, hx5a, hx5b, hx5c⟩ := zTx_if (m := m) hTr.2.2 n
        rw [hx5]
        show zG C V 0 0 46 [(5, .int (zI (st))), (4, .int (zI (n))), (3, .int (zI (x))), (2, .int (zI (q))), (1, .ref o), (0, .ref t)] [.int (zI (x5))]
        refine zr_iload_n X 47 2 dX0_grown_46 rfl rfl ?_
        refine zr_icmp_ne X 57 50 dX0_grown_47 rfl rfl (by first | with_reducible assumption | decide | omega) (by first | with_reducible assumption | decide | omega) (fun bq6 => ?_) (fun bq6 => ?_)
        · refine zr_iconst X 58 dX0_grown_57 rfl ?_
          exact zr_iret X rfl ⟨⟨0, rfl, by omega, by omega⟩, rfl⟩ dX0_grown_58
        · refine zr_iload X 52 1 dX0_grown_50 rfl rfl ?_
          refine zr_iconst X 53 dX0_grown_52 rfl ?_
          refine zr_iadd X 54 dX0_grown_53 rfl ?_
          refine zr_goto X 58 dX0_grown_54 rfl ?_
          exact zr_iret X rfl ⟨⟨n + 1, rfl, by omega, by omega⟩, rfl⟩ dX0_grown_58
      · refine zr_aload_n X 17 4 dX0_grown_16 rfl rfl ?_
        refine zr_iload X 19 1 dX0_grown_17 rfl rfl ?_
        refine zr_txAt X 22 hT (by first | with_reducible assumption | decide | omega) gX0_grown_X5_at_u24X5 gX0_grown_X2_at_u24X2 (by decide) (Nat.le_of_ble_eq_true rfl) dX0_grown_19 rfl ?_
        obtain ⟨x7, hx7, hx7a, hx7b, hx7c⟩ := zTx_if (m := m) hTr.2.2 n
        rw [hx7]
        show zG C V 0 0 22 [(5, .int (zI (st))), (4, .int (zI (n))), (3, .int (zI (x))), (2, .int (zI (q))), (1, .ref o), (0, .ref t)] [.int (zI (x7))]
        refine zr_iload_n X 23 2 dX0_grown_22 rfl rfl ?_
        refine zr_icmp_eq X 40 26 dX0_grown_23 rfl rfl (by first | with_reducible assumption | decide | omega) (by first | with_reducible assumption | decide | omega) (fun bq8 => ?_) (fun bq8 => ?_)
        · refine zr_aload_n X 41 4 dX0_grown_40 rfl rfl ?_
          refine zr_iload X 43 1 dX0_grown_41 rfl rfl ?_
          refine zr_txAt X 46 hT (by first | with_reducible assumption | decide | omega) gX0_grown_X5_at_u24X5 gX0_grown_X2_at_u24X2 (by decide) (Nat.le_of_ble_eq_true rfl) dX0_grown_43 rfl ?_
          obtain ⟨x9, hx9, hx9a, hx9b, hx9c⟩ := zTx_if (m := m) hTr.2.2 n
          rw [hx9]
          show zG C V 0 0 46 [(5, .int (zI (st))), (4, .int (zI (n))), (3, .int (zI (x))), (2, .int (zI (q))), (1, .ref o), (0, .ref t)] [.int (zI (x9))]
          refine zr_iload_n X 47 2 dX0_grown_46 rfl rfl ?_
          refine zr_icmp_ne X 57 50 dX0_grown_47 rfl rfl (by first | with_reducible assumption | decide | omega) (by first | with_reducible assumption | decide | omega) (fun bq10 => ?_) (fun bq10 => ?_)
          · refine zr_iconst X 58 dX0_grown_57 rfl ?_
            exact zr_iret X rfl ⟨⟨0, rfl, by omega, by omega⟩, rfl⟩ dX0_grown_58
          · refine zr_iload X 52 1 dX0_grown_50 rfl rfl ?_
            refine zr_iconst X 53 dX0_grown_52 rfl ?_
            refine zr_iadd X 54 dX0_grown_53 rfl ?_
            refine zr_goto X 58 dX0_grown_54 rfl ?_
            exact zr_iret X rfl ⟨⟨n + 1, rfl, by omega, by omega⟩, rfl⟩ dX0_grown_58
        · refine zr_aload_n X 27 5 dX0_grown_26 rfl rfl ?_
          refine zr_iload X 29 1 dX0_grown_27 rfl rfl ?_
          refine zr_callV (kc' := 0) (ks' := 0) X 32 1 (m_X0_greatestOf l Γ (k := n) ht hga (by first | with_reducible assumption | decide | omega)) gX0_grown_X0_greatestOf rfl (by decide +kernel) rfl (by decide) ht rfl rfl (Nat.le_of_ble_eq_true rfl) dX0_grown_29 rfl (by first | with_reducible assumption | decide | omega) (by first | with_reducible assumption | decide | omega) (fun rv11 V12 hp13 => ?_)
          rw [hp13.1, hp13.2]
          obtain ⟨x14, hx14, hx14a, hx14b⟩ := zbd_if hbd n
          rw [hx14]
          show zG C V 0 0 32 [(5, .int (zI (st))), (4, .int (zI (n))), (3, .int (zI (x))), (2, .int (zI (q))), (1, .ref o), (0, .ref t)] [.int (zI (x14))]
          refine zr_istore X 34 [(4, .int (zI (x14))), (5, .int (zI (st))), (3, .int (zI (x))), (2, .int (zI (q))), (1, .ref o), (0, .ref t)] dX0_grown_32 rfl (by decide) rfl ?_
          refine zr_iinc X 37 1 [(5, .int (zI (st + (-1)))), (4, .int (zI (x14))), (3, .int (zI (x))), (2, .int (zI (q))), (1, .ref o), (0, .ref t)] dX0_grown_34 rfl rfl (by decide) rfl ?_
          refine zr_goto X 6 dX0_grown_37 rfl ?_
          exact ih _ (by first | with_reducible assumption | decide | omega) x14 (st + (-1)) ⟨by omega, by omega, by omega, by omega⟩ rfl
  exact loop _ q q ⟨by omega, by omega, by omega, by omega⟩ rfl
set_option maxRecDepth 100000 in
set_option maxHeartbeats 4000000 in
theorem m_X0_measure (l : Launch) (Γ : zGam) {V : zV} {t ga ca tt ta : Nat} {lk : Int} {gf : Nat → Int} {o r : Nat} {m : Int} {h : Int → Int} (ht : V t = some (tt, .inr (2, [.ref ga, .ref ca, .int (zI lk)]))) (hga : V ga = some (ta, za Γ.2.1 0 81 gf)) (hbd : zbd gf) (hT : zTx Γ V o r m h) (hoga : o ≠ ga) (hrga : r ≠ ga) : zM l Γ 6 yX0_measure wsX0_measure 0 0 V [.ref t, .ref o] (fun rv V' => rv = none ∧ ∃ g', zbd g' ∧ V' = zu V ga ta (za Γ.2.1 0 81 g')) := by
  have hTr := hT.rg
  have w0 : Cond.fieldLink RX0 9 "Sashwords$Borders" "greatest" "[I" ∈ wsX0_measure := by decide +kernel
  have iX0 : ∀ w ∈ u_ws RX0 TX0 3, w ∈ wsX0_measure := by decide +kernel
  refine zM_of (cc := cX0_measure) (nL := 4) (ret := none) (own := RX0) (by decide +kernel) rfl rfl (Nat.le_of_ble_eq_true rfl) (fun C X hi0 => ?_)
  show zG C V 0 0 0 [(0, .ref t), (1, .ref o)] []
  refine zr_iconst X 1 dX0_measure_0 rfl ?_
  refine zr_istore_n X 2 [(2, .int (zI (0))), (0, .ref t), (1, .ref o)] dX0_measure_1 rfl (by decide) rfl ?_
  refine zr_iconst X 3 dX0_measure_2 rfl ?_
  refine zr_istore_n X 4 [(3, .int (zI (1))), (2, .int (zI (0))), (0, .ref t), (1, .ref o)] dX0_measure_3 rfl (by decide) rfl ?_
  refine zr_view (V' := zu V ga ta (za Γ.2.1 0 81 gf)) (zu_id hga).symm ?_
  refine zr_sub [0, 1, 3, 2] [(3, .int (zI (1))), (2, .int (zI (0))), (1, .ref o), (0, .ref t)] rfl ?_
  have loop : ∀ (N : Nat) (g1 : Nat → Int) (q : Int) (n : Int), zbd g1 ∧ 0 ≤ q ∧ q ≤ m ∧ 1 ≤ n ∧ n ≤ 1001 → (1001 - n).toNat = N → zG C (zu V ga ta (za Γ.2.1 0 81 g1)) 0 0 4 [(3, .int (zI (n))), (2, .int (zI (q))), (1, .ref o), (0, .ref t)] [] := by
    intro N
    induction N using Nat.strongRecOn with
    | _ N ih =>
    intro g1 q n hI hN
    obtain ⟨hI1, hI2, hI3, hI4, hI5⟩ := id hI
    refine zr_iload_n X 5 0 dX0_measure_4 rfl rfl ?_
    refine zr_aload_n X 6 2 dX0_measure_5 rfl rfl ?_
    refine zr_txSize X 9 (hT.kept (by simp [zu, hoga]) (by simp [zu, hrga])) gX0_measure_X5_size_u18X5 gX0_measure_X2_size_u18X2 (by decide) (Nat.le_of_ble_eq_true rfl) dX0_measure_6 rfl ?_
    refine zr_icmp_ge X 50 12 dX0_measure_9 rfl rfl (by first | with_reducible assumption | decide | omega) (by first | with_reducible assumption | decide | omega) (fun bq1 => ?_) (fun bq1 => ?_)
    · exact zr_vret X rfl ⟨rfl, g1, hI1, rfl⟩ dX0_measure_50
    · refine zr_iload_n X 13 0 dX0_measure_12 rfl rfl ?_
      refine zr_iconst X 14 dX0_measure_13 rfl ?_
      refine zr_iadd X 15 dX0_measure_14 rfl ?_
      refine zr_aload_n X 16 3 dX0_measure_15 rfl rfl ?_
      refine zr_get X 19 2 0 ((zu_ne (zne_oa ht hga)).trans ht) rfl iX0 (by decide) w0 rfl rfl dX0_measure_16 rfl ?_
      refine zr_alen X 20 0 (zu_eq _ _ _ _) (by decide) dX0_measure_19 rfl ?_
      refine zr_icmp_ge X 50 23 dX0_measure_20 rfl rfl (by first | with_reducible assumption | decide | omega) (by first | with_reducible assumption | decide | omega) (fun bq2 => ?_) (fun bq2 => ?_)
      · exact zr_vret X rfl ⟨rfl, g1, hI1, rfl⟩ dX0_measure_50
      · refine zr_aload_n X 24 3 dX0_measure_23 rfl rfl ?_
        refine zr_aload_n X 25 2 dX0_measure_24 rfl rfl ?_
        refine zr_iload_n X 26 1 dX0_measure_25 rfl rfl ?_
        refine zr_aload_n X 27 2 dX0_measure_26 rfl rfl ?_
        refine zr_iload_n X 28 0 dX0_measure_27 rfl rfl ?_
        refine zr_txAt X 31 (hT.kept (by simp [zu, hoga]) (by simp [zu, hrga])) (by first | with_reducible assumption | decide | omega) gX0_measure_X5_at_u24X5 gX0_measure_X2_at_u24X2 (by decide) (Nat.le_of_ble_eq_true rfl) dX0_measure_28 rfl ?_
        rw [if_pos (show 0 ≤ n ∧ n < m by omega)]
        have hx3 := hTr.2.2 n
        show zG C (zu V ga ta (za Γ.2.1 0 81 g1)) 0 0 31 [(3, .int (zI (n))), (2, .int (zI (q))), (1, .ref o), (0, .ref t)] [.int (zI (h n)), .int (zI (q)), .ref o, .ref t]
        refine zr_callV (kc' := 0) (ks' := 0) X 34 3 (m_X0_grown l Γ (q := q) (x := h n) ((zu_ne (zne_oa ht hga)).trans ht) (zu_eq _ _ _ _) hI1 (hT.kept (by simp [zu, hoga]) (by simp [zu, hrga])) (by first | with_reducible assumption | decide | omega) (by first | with_reducible assumption | decide | omega)) gX0_measure_X0_grown rfl (by decide +kernel) rfl (by decide) ((zu_ne (zne_oa ht hga)).trans ht) rfl rfl (Nat.le_of_ble_eq_true rfl) dX0_measure_31 rfl (by first | with_reducible assumption | decide | omega) (by first | with_reducible assumption | decide | omega) (fun rv4 V5 hp6 => ?_)
        obtain ⟨⟨y7, y7e, y7a, y7b⟩, y7v⟩ := hp6
        rw [y7e, y7v]
        show zG C (zu V ga ta (za Γ.2.1 0 81 g1)) 0 0 34 [(3, .int (zI (n))), (2, .int (zI (q))), (1, .ref o), (0, .ref t)] [.int (zI (y7))]
        refine zr_istore_n X 35 [(2, .int (zI (y7))), (3, .int (zI (n))), (1, .ref o), (0, .ref t)] dX0_measure_34 rfl (by decide) rfl ?_
        refine zr_aload_n X 36 3 dX0_measure_35 rfl rfl ?_
        refine zr_get X 39 2 0 ((zu_ne (zne_oa ht hga)).trans ht) rfl iX0 (by decide) w0 rfl rfl dX0_measure_36 rfl ?_
        refine zr_iload_n X 40 1 dX0_measure_39 rfl rfl ?_
        refine zr_iconst X 41 dX0_measure_40 rfl ?_
        refine zr_iadd X 42 dX0_measure_41 rfl ?_
        refine zr_iload_n X 43 0 dX0_measure_42 rfl rfl ?_
        refine zr_iast X 44 (zu_eq _ _ _ _) (by first | with_reducible assumption | decide | omega)  dX0_measure_43 rfl ?_
        refine zr_view (zu_zu _ _ _ _ _ _) ?_
        refine zr_iinc X 47 1 [(3, .int (zI (n + 1))), (2, .int (zI (y7))), (1, .ref o), (0, .ref t)] dX0_measure_44 rfl rfl (by decide) rfl ?_
        refine zr_goto X 4 dX0_measure_47 rfl ?_
        exact ih _ (by first | with_reducible assumption | decide | omega) (zf g1 (n + 1).toNat y7) y7 (n + 1) ⟨zbd_zf hI1 (by first | with_reducible assumption | decide | omega), by omega, by omega, by omega, by omega⟩ rfl
  exact loop _ gf 0 1 ⟨hbd, by omega, by omega, by omega, by omega⟩ rfl
set_option maxRecDepth 100000 in
set_option maxHeartbeats 4000000 in
theorem m_X0_measureChain (l : Launch) (Γ : zGam) {V : zV} {t ga ca tt ta tc : Nat} {lk : Int} {gf cf : Nat → Int} {o r : Nat} {m : Int} {h : Int → Int} (ht : V t = some (tt, .inr (2, [.ref ga, .ref ca, .int (zI lk)]))) (hga : V ga = some (ta, za Γ.2.1 0 81 gf)) (hca : V ca = some (tc, za Γ.2.1 0 80 cf)) (hbd : zbd gf) (hcd : zbd cf) (hT : zTx Γ V o r m h) (hoga : o ≠ ga) (hrga : r ≠ ga) (hoca : o ≠ ca) (hrca : r ≠ ca) (hot : o ≠ t) (hrt : r ≠ t) (hgc : ga ≠ ca) : zM l Γ 7 yX0_measureChain wsX0_measureChain 0 0 V [.ref t, .ref o] (fun rv V' => rv = none ∧ ∃ g' c' k', zbd g' ∧ zbd c' ∧ 0 ≤ k' ∧ k' ≤ 80 ∧ V' = zu (zu (zu V ga ta (za Γ.2.1 0 81 g')) ca tc (za Γ.2.1 0 80 c')) t tt (.inr (2, [.ref ga, .ref ca, .int (zI (k'))]))) := by
  have hTr := hT.rg
  have htg : t ≠ ga := zne_oa ht hga
  have htc : t ≠ ca := zne_oa ht hca
  have w0 : Cond.fieldLink RX0 39 "Sashwords$Borders" "links" "I" ∈ wsX0_measureChain := by decide +kernel
  have iX0 : ∀ w ∈ u_ws RX0 TX0 3, w ∈ wsX0_measureChain := by decide +kernel
  have w2 : Cond.fieldLink RX0 15 "Sashwords$Borders" "chainRow" "[I" ∈ wsX0_measureChain := by decide +kernel
  refine zM_of (cc := cX0_measureChain) (nL := 4) (ret := none) (own := RX0) (by decide +kernel) rfl rfl (Nat.le_of_ble_eq_true rfl) (fun C X hi0 => ?_)
  show zG C V 0 0 0 [(0, .ref t), (1, .ref o)] []
  refine zr_aload_n X 1 0 dX0_measureChain_0 rfl rfl ?_
  refine zr_aload_n X 2 1 dX0_measureChain_1 rfl rfl ?_
  refine zr_callV (kc' := 0) (ks' := 0) X 5 1 (m_X0_measure l Γ ht hga hbd hT hoga hrga) gX0_measureChain_X0_measure rfl (by decide +kernel) rfl (by decide) ht rfl rfl (Nat.le_of_ble_eq_true rfl) dX0_measureChain_2 rfl (by first | with_reducible assumption | decide | omega) (by first | with_reducible assumption | decide | omega) (fun rv1 V2 hp3 => ?_)
  obtain ⟨gf4e, gf4, gf4b, gf4v⟩ := hp3
  rw [gf4e, gf4v]
  show zG C (zu V ga ta (za Γ.2.1 0 81 gf4)) 0 0 5 [(0, .ref t), (1, .ref o)] []
  refine zr_aload_n X 6 0 dX0_measureChain_5 rfl rfl ?_
  refine zr_iconst X 7 dX0_measureChain_6 rfl ?_
  refine zr_put X 10 2 2 [.ref ga, .ref ca, .int (zI (0))] tyX0 ((zu_ne (zne_oa ht hga)).trans ht) rfl iX0 tyX0_ok nmX0 (by decide) w0 rfl rfl rfl rfl (Nat.le_of_ble_eq_true rfl) rfl dX0_measureChain_7 rfl ?_
  refine zr_aload_n X 11 1 dX0_measureChain_10 rfl rfl ?_
  refine zr_txSize X 14 (hT.kept (by simp [zu, hoga, hoca, hot]) (by simp [zu, hrga, hrca, hrt])) gX0_measureChain_X5_size_u18X5 gX0_measureChain_X2_size_u18X2 (by decide) (Nat.le_of_ble_eq_true rfl) dX0_measureChain_11 rfl ?_
  refine zr_istore_n X 15 [(2, .int (zI (m))), (0, .ref t), (1, .ref o)] dX0_measureChain_14 rfl (by decide) rfl ?_
  refine zr_aload_n X 16 2 dX0_measureChain_15 rfl rfl ?_
  refine zr_txSize X 19 (hT.kept (by simp [zu, hoga, hoca, hot]) (by simp [zu, hrga, hrca, hrt])) gX0_measureChain_X5_size_u18X5 gX0_measureChain_X2_size_u18X2 (by decide) (Nat.le_of_ble_eq_true rfl) dX0_measureChain_16 rfl ?_
  refine zr_istore_n X 20 [(3, .int (zI (m))), (2, .int (zI (m))), (0, .ref t), (1, .ref o)] dX0_measureChain_19 rfl (by decide) rfl ?_
  refine zr_view (V' := zu (zu (zu V ga ta (za Γ.2.1 0 81 gf4)) ca tc (za Γ.2.1 0 80 cf)) t tt (.inr (2, [.ref ga, .ref ca, .int (zI (0))]))) (by rw [zu_id (V := zu V ga ta (za Γ.2.1 0 81 gf4)) ((zu_ne (Ne.symm hgc)).trans hca)]) ?_
  refine zr_sub [0, 1, 3, 2] [(3, .int (zI (m))), (2, .int (zI (m))), (1, .ref o), (0, .ref t)] rfl ?_
  have loop : ∀ (N : Nat) (c1 : Nat → Int) (k1 : Int) (n : Int) (st : Int), zbd c1 ∧ 0 ≤ k1 ∧ k1 ≤ 80 ∧ 0 ≤ n ∧ n ≤ 1000 ∧ -1 ≤ st ∧ st ≤ 1000 → (st + 1).toNat = N → zG C (zu (zu (zu V ga ta (za Γ.2.1 0 81 gf4)) ca tc (za Γ.2.1 0 80 c1)) t tt (.inr (2, [.ref ga, .ref ca, .int (zI (k1))]))) 0 0 20 [(3, .int (zI (st))), (2, .int (zI (n))), (1, .ref o), (0, .ref t)] [] := by
    intro N
    induction N using Nat.strongRecOn with
    | _ N ih =>
    intro c1 k1 n st hI hN
    obtain ⟨hI1, hI2, hI3, hI4, hI5, hI6, hI7⟩ := id hI
    refine zr_iload_n X 21 0 dX0_measureChain_20 rfl rfl ?_
    refine zr_if_le X 72 24 dX0_measureChain_21 rfl rfl (by first | with_reducible assumption | decide | omega) (fun bq5 => ?_) (fun bq5 => ?_)
    · exact zr_vret X rfl ⟨rfl, gf4, c1, k1, gf4b, hI1, by omega, by omega, rfl⟩ dX0_measureChain_72
    · refine zr_iload_n X 25 1 dX0_measureChain_24 rfl rfl ?_
      refine zr_if_le X 72 28 dX0_measureChain_25 rfl rfl (by first | with_reducible assumption | decide | omega) (fun bq6 => ?_) (fun bq6 => ?_)
      · exact zr_vret X rfl ⟨rfl, gf4, c1, k1, gf4b, hI1, by omega, by omega, rfl⟩ dX0_measureChain_72
      · refine zr_aload_n X 29 3 dX0_measureChain_28 rfl rfl ?_
        refine zr_iload_n X 30 1 dX0_measureChain_29 rfl rfl ?_
        refine zr_callV (kc' := 0) (ks' := 0) X 33 1 (m_X0_greatestOf l Γ (k := n) (zu_eq _ _ _ _) ((zu_ne (Ne.symm (zne_oa ht hga))).trans ((zu_ne hgc).trans (zu_eq _ _ _ _))) (by first | with_reducible assumption | decide | omega)) gX0_measureChain_X0_greatestOf rfl (by decide +kernel) rfl (by decide) (zu_eq _ _ _ _) rfl rfl (Nat.le_of_ble_eq_true rfl) dX0_measureChain_30 rfl (by first | with_reducible assumption | decide | omega) (by first | with_reducible assumption | decide | omega) (fun rv7 V8 hp9 => ?_)
        rw [hp9.1, hp9.2]
        obtain ⟨x10, hx10, hx10a, hx10b⟩ := zbd_if gf4b n
        rw [hx10]
        show zG C (zu (zu (zu V ga ta (za Γ.2.1 0 81 gf4)) ca tc (za Γ.2.1 0 80 c1)) t tt (.inr (2, [.ref ga, .ref ca, .int (zI (k1))]))) 0 0 33 [(3, .int (zI (st))), (2, .int (zI (n))), (1, .ref o), (0, .ref t)] [.int (zI (x10))]
        refine zr_istore_n X 34 [(2, .int (zI (x10))), (3, .int (zI (st))), (1, .ref o), (0, .ref t)] dX0_measureChain_33 rfl (by decide) rfl ?_
        refine zr_aload_n X 35 3 dX0_measureChain_34 rfl rfl ?_
        refine zr_get X 38 2 2 (zu_eq _ _ _ _) rfl iX0 (by decide) w0 rfl rfl dX0_measureChain_35 rfl ?_
        refine zr_aload_n X 39 3 dX0_measureChain_38 rfl rfl ?_
        refine zr_get X 42 2 1 (zu_eq _ _ _ _) rfl iX0 (by decide) w2 rfl rfl dX0_measureChain_39 rfl ?_
        refine zr_alen X 43 0 ((zu_ne (Ne.symm (zne_oa ht hca))).trans (zu_eq _ _ _ _)) (by decide) dX0_measureChain_42 rfl ?_
        refine zr_icmp_ge X 66 46 dX0_measureChain_43 rfl rfl (by first | with_reducible assumption | decide | omega) (by first | with_reducible assumption | decide | omega) (fun bq11 => ?_) (fun bq11 => ?_)
        · refine zr_iinc X 69 1 [(3, .int (zI (st + (-1)))), (2, .int (zI (x10))), (1, .ref o), (0, .ref t)] dX0_measureChain_66 rfl rfl (by decide) rfl ?_
          refine zr_goto X 20 dX0_measureChain_69 rfl ?_
          exact ih _ (by first | with_reducible assumption | decide | omega) c1 k1 x10 (st + (-1)) ⟨hI1, by omega, by omega, by omega, by omega, by omega, by omega⟩ rfl
        · refine zr_aload_n X 47 3 dX0_measureChain_46 rfl rfl ?_
          refine zr_get X 50 2 1 (zu_eq _ _ _ _) rfl iX0 (by decide) w2 rfl rfl dX0_measureChain_47 rfl ?_
          refine zr_aload_n X 51 3 dX0_measureChain_50 rfl rfl ?_
          refine zr_get X 54 2 2 (zu_eq _ _ _ _) rfl iX0 (by decide) w0 rfl rfl dX0_measureChain_51 rfl ?_
          refine zr_iload_n X 55 0 dX0_measureChain_54 rfl rfl ?_
          refine zr_iast X 56 ((zu_ne (Ne.symm (zne_oa ht hca))).trans (zu_eq _ _ _ _)) (by first | with_reducible assumption | decide | omega)  dX0_measureChain_55 rfl ?_
          refine zr_aload_n X 57 3 dX0_measureChain_56 rfl rfl ?_
          refine zr_dup X 58 dX0_measureChain_57 rfl rfl ?_
          refine zr_get X 61 2 2 ((zu_ne (zne_oa ht hca)).trans (zu_eq _ _ _ _)) rfl iX0 (by decide) w0 rfl rfl dX0_measureChain_58 rfl ?_
          refine zr_iconst X 62 dX0_measureChain_61 rfl ?_
          refine zr_iadd X 63 dX0_measureChain_62 rfl ?_
          refine zr_put X 66 2 2 [.ref ga, .ref ca, .int (zI (k1 + 1))] tyX0 ((zu_ne (zne_oa ht hca)).trans (zu_eq _ _ _ _)) rfl iX0 tyX0_ok nmX0 (by decide) w0 rfl rfl rfl rfl (Nat.le_of_ble_eq_true rfl) rfl dX0_measureChain_63 rfl ?_
          refine zr_iinc X 69 1 [(3, .int (zI (st + (-1)))), (2, .int (zI (x10))), (1, .ref o), (0, .ref t)] dX0_measureChain_66 rfl rfl (by decide) rfl ?_
          refine zr_goto X 20 dX0_measureChain_69 rfl ?_
          refine zr_view (V' := (zu (zu (zu V ga ta (za Γ.2.1 0 81 gf4)) ca tc (za Γ.2.1 0 80 (zf c1 (k1).toNat x10))) t tt (.inr (2, [.ref ga, .ref ca, .int (zI (k1 + 1))])))) (by
              funext z
              simp only [zu]
              by_cases e0 : z = ga
              · subst e0; simp [hgc, Ne.symm hgc, htg, Ne.symm htg, htc, Ne.symm htc, Int.add_assoc]
              by_cases e1 : z = ca
              · subst e1; simp [hgc, Ne.symm hgc, htg, Ne.symm htg, htc, Ne.symm htc, Int.add_assoc]
              by_cases e2 : z = t
              · subst e2; simp [hgc, Ne.symm hgc, htg, Ne.symm htg, htc, Ne.symm htc, Int.add_assoc]
              simp [e0, e1, e2]) ?_
          exact ih _ (by first | with_reducible assumption | decide | omega) (zf c1 (k1).toNat x10) (k1 + 1) x10 (st + (-1)) ⟨zbd_zf hI1 (by first | with_reducible assumption | decide | omega), by omega, by omega, by omega, by omega, by omega, by omega⟩ rfl
  exact loop _ cf 0 m m ⟨hcd, by omega, by omega, by omega, by omega, by omega, by omega⟩ rfl
