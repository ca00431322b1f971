section
/-! class Borders -/
def zbd (f : Nat → Int) : Prop := ∀ j, 0 ≤ f j ∧ f j ≤ 1000
theorem zbd_zf {f : Nat → Int} (h : zbd f) {i : Nat} {x : Int} (hx : 0 ≤ x ∧ x ≤ 1000) : zbd (zf f i x) := by
  intro j
  unfold zf
  split
  · exact hx
  · exact h j
theorem zbd_zero : zbd (fun _ => 0) := fun _ => ⟨Int.le_refl _, (by decide : (0 : Int) ≤ 1000)⟩
set_option maxRecDepth 100000 in
set_option maxHeartbeats 4000000 in
theorem m_X0_greatestOf (l : Launch) (Γ : zGam) {V : zV} {t ga ca tt ta : Nat} {lk : Int} {gf : Nat → Int} {k : Int} (ht : V t = some (tt, .inr (2, [.ref ga, .ref ca, .int (zI lk)]))) (hga : V ga = some (ta, za Γ.2.1 0 81 gf)) (hk : -2147483648 ≤ k ∧ k ≤ 2147483647) : zM l Γ 0 yX0_greatestOf wsX0_greatestOf 0 0 V [.ref t, .int (zI (k))] (fun rv V' => rv = some (.int (zI (if 0 ≤ k ∧ k < 81 then gf k.toNat else 0))) ∧ V' = V) := by
  have w0 : Cond.fieldLink RX0 9 "Sashwords$Borders" "greatest" "[I" ∈ wsX0_greatestOf := by decide +kernel
  have iX0 : ∀ w ∈ u_ws RX0 TX0 3, w ∈ wsX0_greatestOf := by decide +kernel
  refine zM_of (cc := cX0_greatestOf) (nL := 2) (ret := (some .int)) (own := RX0) (by decide +kernel) rfl rfl (Nat.le_of_ble_eq_true rfl) (fun C X hi0 => ?_)
  show zG C V 0 0 0 [(0, .ref t), (1, .int (zI (k)))] []
  refine zr_iload_n X 1 1 dX0_greatestOf_0 rfl rfl ?_
  refine zr_if_lt X 13 4 dX0_greatestOf_1 rfl rfl (by omega) (fun bq1 => ?_) (fun bq1 => ?_)
  · refine zr_iconst X 14 dX0_greatestOf_13 rfl ?_
    refine zr_goto X 23 dX0_greatestOf_14 rfl ?_
    exact zr_iret X rfl ⟨by rw [if_neg (by omega)], rfl⟩ dX0_greatestOf_23
  · refine zr_iload_n X 5 1 dX0_greatestOf_4 rfl rfl ?_
    refine zr_aload_n X 6 0 dX0_greatestOf_5 rfl rfl ?_
    refine zr_get X 9 2 0 ht rfl iX0 (by decide) w0 rfl rfl dX0_greatestOf_6 rfl ?_
    refine zr_alen X 10 0 hga (by decide) dX0_greatestOf_9 rfl ?_
    refine zr_icmp_lt X 17 13 dX0_greatestOf_10 rfl rfl (by omega) (by omega) (fun bq2 => ?_) (fun bq2 => ?_)
    · refine zr_aload_n X 18 0 dX0_greatestOf_17 rfl rfl ?_
      refine zr_get X 21 2 0 ht rfl iX0 (by decide) w0 rfl rfl dX0_greatestOf_18 rfl ?_
      refine zr_iload_n X 22 1 dX0_greatestOf_21 rfl rfl ?_
      refine zr_iald X 23 hga (by omega) dX0_greatestOf_22 rfl ?_
      exact zr_iret X rfl ⟨by rw [if_pos (by omega)], rfl⟩ dX0_greatestOf_23
    · refine zr_iconst X 14 dX0_greatestOf_13 rfl ?_
      refine zr_goto X 23 dX0_greatestOf_14 rfl ?_
      exact zr_iret X rfl ⟨by rw [if_neg (by omega)], rfl⟩ dX0_greatestOf_23
set_option maxRecDepth 100000 in
set_option maxHeartbeats 4000000 in
theorem m_X0_linkAt (l : Launch) (Γ : zGam) {V : zV} {t ga ca tt tc : Nat} {lk : Int} {cf : Nat → Int} {k : Int} (ht : V t = some (tt, .inr (2, [.ref ga, .ref ca, .int (zI lk)]))) (hca : V ca = some (tc, za Γ.2.1 0 80 cf)) (hk : -2147483648 ≤ k ∧ k ≤ 2147483647 ∧ 0 ≤ lk ∧ lk ≤ 80) : zM l Γ 0 yX0_linkAt wsX0_linkAt 0 0 V [.ref t, .int (zI (k))] (fun rv V' => rv = some (.int (zI (if 0 ≤ k ∧ k < lk then cf k.toNat else -1))) ∧ V' = V) := by
  have w0 : Cond.fieldLink RX0 39 "Sashwords$Borders" "links" "I" ∈ wsX0_linkAt := by decide +kernel
  have iX0 : ∀ w ∈ u_ws RX0 TX0 3, w ∈ wsX0_linkAt := by decide +kernel
  have w2 : Cond.fieldLink RX0 15 "Sashwords$Borders" "chainRow" "[I" ∈ wsX0_linkAt := by decide +kernel
  refine zM_of (cc := cX0_linkAt) (nL := 2) (ret := (some .int)) (own := RX0) (by decide +kernel) rfl rfl (Nat.le_of_ble_eq_true rfl) (fun C X hi0 => ?_)
  show zG C V 0 0 0 [(0, .ref t), (1, .int (zI (k)))] []
  refine zr_iload_n X 1 1 dX0_linkAt_0 rfl rfl ?_
  refine zr_if_lt X 21 4 dX0_linkAt_1 rfl rfl (by omega) (fun bq1 => ?_) (fun bq1 => ?_)
  · refine zr_iconst X 22 dX0_linkAt_21 rfl ?_
    refine zr_goto X 31 dX0_linkAt_22 rfl ?_
    exact zr_iret X rfl ⟨by rw [if_neg (by omega)], rfl⟩ dX0_linkAt_31
  · refine zr_iload_n X 5 1 dX0_linkAt_4 rfl rfl ?_
    refine zr_aload_n X 6 0 dX0_linkAt_5 rfl rfl ?_
    refine zr_get X 9 2 2 ht rfl iX0 (by decide) w0 rfl rfl dX0_linkAt_6 rfl ?_
    refine zr_icmp_ge X 21 12 dX0_linkAt_9 rfl rfl (by omega) (by omega) (fun bq2 => ?_) (fun bq2 => ?_)
    · refine zr_iconst X 22 dX0_linkAt_21 rfl ?_
      refine zr_goto X 31 dX0_linkAt_22 rfl ?_
      exact zr_iret X rfl ⟨by rw [if_neg (by omega)], rfl⟩ dX0_linkAt_31
    · refine zr_iload_n X 13 1 dX0_linkAt_12 rfl rfl ?_
      refine zr_aload_n X 14 0 dX0_linkAt_13 rfl rfl ?_
      refine zr_get X 17 2 1 ht rfl iX0 (by decide) w2 rfl rfl dX0_linkAt_14 rfl ?_
      refine zr_alen X 18 0 hca (by decide) dX0_linkAt_17 rfl ?_
      refine zr_icmp_lt X 25 21 dX0_linkAt_18 rfl rfl (by omega) (by omega) (fun bq3 => ?_) (fun bq3 => ?_)
      · refine zr_aload_n X 26 0 dX0_linkAt_25 rfl rfl ?_
        refine zr_get X 29 2 1 ht rfl iX0 (by decide) w2 rfl rfl dX0_linkAt_26 rfl ?_
        refine zr_iload_n X 30 1 dX0_linkAt_29 rfl rfl ?_
        refine zr_iald X 31 hca (by omega) dX0_linkAt_30 rfl ?_
        exact zr_iret X rfl ⟨by rw [if_pos (by omega)], rfl⟩ dX0_linkAt_31
      · refine zr_iconst X 22 dX0_linkAt_21 rfl ?_
        refine zr_goto X 31 dX0_linkAt_22 rfl ?_
        exact zr_iret X rfl ⟨by rw [if_neg (by omega)], rfl⟩ dX0_linkAt_31
theorem zbd_if {f : Nat → Int} (h : zbd f) (k : Int) : ∃ x : Int, (if 0 ≤ k ∧ k < 81 then f k.toNat else 0) = x ∧ 0 ≤ x ∧ x ≤ 1000 := by
  by_cases c : 0 ≤ k ∧ k < 81
  · exact ⟨_, if_pos c, (h _).1, (h _).2⟩
  · exact ⟨0, if_neg c, by omega, by omega⟩
def zaw (m : Int) (h : Int → Int) : Nat → Int := fun j => if 0 ≤ (j : Int) ∧ (j : Int) < m then h j else -9
theorem zaw_at {m n : Int} {h : Int → Int} (hn : 0 ≤ n) : zaw m h n.toNat = if 0 ≤ n ∧ n < m then h n else -9 := by
  unfold zaw
  rw [Int.toNat_of_nonneg hn]
set_option maxRecDepth 100000 in
set_option maxHeartbeats 4000000 in
theorem m_X0_grown (l : Launch) (Γ : zGam) {V : zV} {t ga ca tt ta : Nat} {lk : Int} {gf : Nat → Int} {o r : Nat} {m q x : Int} {h : Int → Int} (ht : V t = some (tt, .inr (2, [.ref ga, .ref ca, .int (zI lk)]))) (hga : V ga = some (ta, za Γ.2.1 0 81 gf)) (hbd : zbd gf) (hT : zTx Γ V o r m h) (hq : 0 ≤ q ∧ q ≤ m) (hx : 0 ≤ x ∧ x ≤ 255) (hm : m ≤ 80) (hg : ∀ n : Nat, 0 < n → (n : Int) ≤ q → n < 81 → zgb (zaw m h) n (gf n).toNat) : zM l Γ 5 yX0_grown wsX0_grown 0 0 V [.ref t, .ref o, .int (zI (q)), .int (zI (x))] (fun rv V' => (∃ y : Int, rv = some (.int (zI y)) ∧ 0 ≤ y ∧ y ≤ m ∧ ∃ n : Nat, (∀ (t9 : Nat → Int) (p9 e9 : Nat), zgl (zaw m h) t9 p9 e9 q.toNat x → zgl (zaw m h) t9 p9 e9 n x) ∧ (n = 0 ∨ zaw m h n = x) ∧ y = ((if zaw m h n = x then n + 1 else 0 : Nat) : Int)) ∧ V' = V) := by
  have hTr := hT.rg
  refine zM_of (cc := cX0_grown) (nL := 6) (ret := (some .int)) (own := RX0) (by decide +kernel) rfl rfl (Nat.le_of_ble_eq_true rfl) (fun C X hi0 => ?_)
  show zG C V 0 0 0 [(0, .ref t), (1, .ref o), (2, .int (zI (q))), (3, .int (zI (x)))] []
  refine zr_iload_n X 1 2 dX0_grown_0 rfl rfl ?_
  refine zr_istore X 3 [(4, .int (zI (q))), (0, .ref t), (1, .ref o), (2, .int (zI (q))), (3, .int (zI (x)))] dX0_grown_1 rfl (by decide) rfl ?_
  refine zr_iload_n X 4 3 dX0_grown_3 rfl rfl ?_
  refine zr_istore X 6 [(5, .int (zI (q))), (4, .int (zI (q))), (0, .ref t), (1, .ref o), (2, .int (zI (q))), (3, .int (zI (x)))] dX0_grown_4 rfl (by decide) rfl ?_
  refine zr_sub [0, 1, 5, 4, 3, 2] [(5, .int (zI (q))), (4, .int (zI (q))), (3, .int (zI (x))), (2, .int (zI (q))), (1, .ref o), (0, .ref t)] rfl ?_
  have loop : ∀ (N : Nat) (n : Int) (st : Int), 0 ≤ n ∧ n ≤ q ∧ st ≤ 1000 ∧ n ≤ st ∧ (∀ (t9 : Nat → Int) (p9 e9 : Nat), zgl (zaw m h) t9 p9 e9 q.toNat x → zgl (zaw m h) t9 p9 e9 n.toNat x) → (st + 1).toNat = N → zG C V 0 0 6 [(5, .int (zI (st))), (4, .int (zI (n))), (3, .int (zI (x))), (2, .int (zI (q))), (1, .ref o), (0, .ref t)] [] := by
    intro N
    induction N using Nat.strongRecOn with
    | _ N ih =>
    intro n st hI hN
    obtain ⟨hI1, hI2, hI3, hI4, hI5⟩ := id hI
    refine zr_iload X 8 0 dX0_grown_6 rfl rfl ?_
    refine zr_if_le X 40 11 dX0_grown_8 rfl rfl (by omega) (fun bq1 => ?_) (fun bq1 => ?_)
    · refine zr_aload_n X 41 4 dX0_grown_40 rfl rfl ?_
      refine zr_iload X 43 1 dX0_grown_41 rfl rfl ?_
      refine zr_txAt X 46 hT (by omega) gX0_grown_X5_at_u24X5 gX0_grown_X2_at_u24X2 (by decide) (Nat.le_of_ble_eq_true rfl) dX0_grown_43 rfl ?_
      obtain ⟨x2, hx2, hx2a, hx2b, hx2c⟩ := zTx_if (m := m) hTr.2.2 n
      rw [hx2]
      show zG C V 0 0 46 [(5, .int (zI (st))), (4, .int (zI (n))), (3, .int (zI (x))), (2, .int (zI (q))), (1, .ref o), (0, .ref t)] [.int (zI (x2))]
      have e46q : zaw m h n.toNat = x2 := (zaw_at (by omega)).trans hx2
      refine zr_iload_n X 47 2 dX0_grown_46 rfl rfl ?_
      refine zr_icmp_ne X 57 50 dX0_grown_47 rfl rfl (by omega) (by omega) (fun bq3 => ?_) (fun bq3 => ?_)
      · refine zr_iconst X 58 dX0_grown_57 rfl ?_
        exact zr_iret X rfl ⟨⟨0, rfl, by omega, by omega, n.toNat, hI5, by omega, by rw [if_neg (by omega)]; rfl⟩, rfl⟩ dX0_grown_58
      · refine zr_iload X 52 1 dX0_grown_50 rfl rfl ?_
        refine zr_iconst X 53 dX0_grown_52 rfl ?_
        refine zr_iadd X 54 dX0_grown_53 rfl ?_
        refine zr_goto X 58 dX0_grown_54 rfl ?_
        exact zr_iret X rfl ⟨⟨n + 1, rfl, by omega, by omega, n.toNat, hI5, by omega, by rw [if_pos (by omega)]; omega⟩, rfl⟩ dX0_grown_58
    · refine zr_iload X 13 1 dX0_grown_11 rfl rfl ?_
      refine zr_if_le X 40 16 dX0_grown_13 rfl rfl (by omega) (fun bq4 => ?_) (fun bq4 => ?_)
      · refine zr_aload_n X 41 4 dX0_grown_40 rfl rfl ?_
        refine zr_iload X 43 1 dX0_grown_41 rfl rfl ?_
        refine zr_txAt X 46 hT (by omega) gX0_grown_X5_at_u24X5 gX0_grown_X2_at_u24X2 (by decide) (Nat.le_of_ble_eq_true rfl) dX0_grown_43 rfl ?_
        obtain ⟨x5, hx5, hx5a, hx5b, hx5c⟩ := zTx_if (m := m) hTr.2.2 n
        rw [hx5]
        show zG C V 0 0 46 [(5, .int (zI (st))), (4, .int (zI (n))), (3, .int (zI (x))), (2, .int (zI (q))), (1, .ref o), (0, .ref t)] [.int (zI (x5))]
        have e46q : zaw m h n.toNat = x5 := (zaw_at (by omega)).trans hx5
        refine zr_iload_n X 47 2 dX0_grown_46 rfl rfl ?_
        refine zr_icmp_ne X 57 50 dX0_grown_47 rfl rfl (by omega) (by omega) (fun bq6 => ?_) (fun bq6 => ?_)
        · refine zr_iconst X 58 dX0_grown_57 rfl ?_
          exact zr_iret X rfl ⟨⟨0, rfl, by omega, by omega, n.toNat, hI5, by omega, by rw [if_neg (by omega)]; rfl⟩, rfl⟩ dX0_grown_58
        · refine zr_iload X 52 1 dX0_grown_50 rfl rfl ?_
          refine zr_iconst X 53 dX0_grown_52 rfl ?_
          refine zr_iadd X 54 dX0_grown_53 rfl ?_
          refine zr_goto X 58 dX0_grown_54 rfl ?_
          exact zr_iret X rfl ⟨⟨n + 1, rfl, by omega, by omega, n.toNat, hI5, by omega, by rw [if_pos (by omega)]; omega⟩, rfl⟩ dX0_grown_58
      · refine zr_aload_n X 17 4 dX0_grown_16 rfl rfl ?_
        refine zr_iload X 19 1 dX0_grown_17 rfl rfl ?_
        refine zr_txAt X 22 hT (by omega) gX0_grown_X5_at_u24X5 gX0_grown_X2_at_u24X2 (by decide) (Nat.le_of_ble_eq_true rfl) dX0_grown_19 rfl ?_
        obtain ⟨x7, hx7, hx7a, hx7b, hx7c⟩ := zTx_if (m := m) hTr.2.2 n
        rw [hx7]
        show zG C V 0 0 22 [(5, .int (zI (st))), (4, .int (zI (n))), (3, .int (zI (x))), (2, .int (zI (q))), (1, .ref o), (0, .ref t)] [.int (zI (x7))]
        have e22q : zaw m h n.toNat = x7 := (zaw_at (by omega)).trans hx7
        refine zr_iload_n X 23 2 dX0_grown_22 rfl rfl ?_
        refine zr_icmp_eq X 40 26 dX0_grown_23 rfl rfl (by omega) (by omega) (fun bq8 => ?_) (fun bq8 => ?_)
        · refine zr_aload_n X 41 4 dX0_grown_40 rfl rfl ?_
          refine zr_iload X 43 1 dX0_grown_41 rfl rfl ?_
          refine zr_txAt X 46 hT (by omega) gX0_grown_X5_at_u24X5 gX0_grown_X2_at_u24X2 (by decide) (Nat.le_of_ble_eq_true rfl) dX0_grown_43 rfl ?_
          obtain ⟨x9, hx9, hx9a, hx9b, hx9c⟩ := zTx_if (m := m) hTr.2.2 n
          rw [hx9]
          show zG C V 0 0 46 [(5, .int (zI (st))), (4, .int (zI (n))), (3, .int (zI (x))), (2, .int (zI (q))), (1, .ref o), (0, .ref t)] [.int (zI (x9))]
          have e46q : zaw m h n.toNat = x9 := (zaw_at (by omega)).trans hx9
          refine zr_iload_n X 47 2 dX0_grown_46 rfl rfl ?_
          refine zr_icmp_ne X 57 50 dX0_grown_47 rfl rfl (by omega) (by omega) (fun bq10 => ?_) (fun bq10 => ?_)
          · refine zr_iconst X 58 dX0_grown_57 rfl ?_
            exact zr_iret X rfl ⟨⟨0, rfl, by omega, by omega, n.toNat, hI5, by omega, by rw [if_neg (by omega)]; rfl⟩, rfl⟩ dX0_grown_58
          · refine zr_iload X 52 1 dX0_grown_50 rfl rfl ?_
            refine zr_iconst X 53 dX0_grown_52 rfl ?_
            refine zr_iadd X 54 dX0_grown_53 rfl ?_
            refine zr_goto X 58 dX0_grown_54 rfl ?_
            exact zr_iret X rfl ⟨⟨n + 1, rfl, by omega, by omega, n.toNat, hI5, by omega, by rw [if_pos (by omega)]; omega⟩, rfl⟩ dX0_grown_58
        · refine zr_aload_n X 27 5 dX0_grown_26 rfl rfl ?_
          refine zr_iload X 29 1 dX0_grown_27 rfl rfl ?_
          refine zr_callV (kc' := 0) (ks' := 0) X 32 1 (m_X0_greatestOf l Γ (k := n) ht hga (by omega)) gX0_grown_X0_greatestOf rfl (by decide +kernel) rfl (by decide) ht rfl rfl (Nat.le_of_ble_eq_true rfl) dX0_grown_29 rfl (by omega) (by omega) (fun rv11 V12 hp13 => ?_)
          rw [hp13.1, hp13.2]
          obtain ⟨x14, hx14, hx14a, hx14b⟩ := zbd_if hbd n
          rw [hx14]
          show zG C V 0 0 32 [(5, .int (zI (st))), (4, .int (zI (n))), (3, .int (zI (x))), (2, .int (zI (q))), (1, .ref o), (0, .ref t)] [.int (zI (x14))]
          refine zr_istore X 34 [(4, .int (zI (x14))), (5, .int (zI (st))), (3, .int (zI (x))), (2, .int (zI (q))), (1, .ref o), (0, .ref t)] dX0_grown_32 rfl (by decide) rfl ?_
          refine zr_iinc X 37 1 [(5, .int (zI (st + (-1)))), (4, .int (zI (x14))), (3, .int (zI (x))), (2, .int (zI (q))), (1, .ref o), (0, .ref t)] dX0_grown_34 rfl rfl (by decide) rfl ?_
          refine zr_goto X 6 dX0_grown_37 rfl ?_
          have eg : gf n.toNat = x14 := by rw [← hx14, if_pos (by omega)]
          have hb9 := hg n.toNat (by omega) (by omega) (by omega)
          rw [eg] at hb9
          have hb8 := hb9.1
          exact ih _ (by omega) x14 (st + (-1)) ⟨by omega, by omega, by omega, by omega, fun t9 p9 e9 z9 => ((hI5 t9 p9 e9 z9).step hb9 (by omega) (by omega)).1⟩ rfl
  exact loop _ q q ⟨by omega, by omega, by omega, by omega, fun _ _ _ z9 => z9⟩ rfl
/-- no border of the first sign, none of no sign -/
def zb1 (g : Nat → Int) : Prop := g 0 = 0 ∧ g 1 = 0
theorem zb1.put {g : Nat → Int} (h : zb1 g) {n : Nat} (hn : 1 < n) {y : Int} : zb1 (zf g n y) := ⟨(if_neg (by omega)).trans h.1, (if_neg (by omega)).trans h.2⟩
theorem zgr_put {w g : Nat → Int} {n y : Int} (h : ∀ k : Nat, 0 < k → (k : Int) ≤ n → k < 81 → zgb w k (g k).toNat) (hn : 0 ≤ n) (hz : zgb w (n.toNat + 1) y.toNat) : ∀ k : Nat, 0 < k → (k : Int) ≤ n + 1 → k < 81 → zgb w k (zf g (n + 1).toNat y k).toNat := fun k a b c => by
  unfold zf
  by_cases e : k = (n + 1).toNat
  · rw [if_pos e, show k = n.toNat + 1 by omega]
    exact hz
  · rw [if_neg e]
    exact h k a (by omega) c
set_option maxRecDepth 100000 in
set_option maxHeartbeats 4000000 in
theorem m_X0_measure (l : Launch) (Γ : zGam) {V : zV} {t ga ca tt ta : Nat} {lk : Int} {gf : Nat → Int} {o r : Nat} {m : Int} {h : Int → Int} (ht : V t = some (tt, .inr (2, [.ref ga, .ref ca, .int (zI lk)]))) (hga : V ga = some (ta, za Γ.2.1 0 81 gf)) (hbd : zbd gf) (hT : zTx Γ V o r m h) (hoga : o ≠ ga) (hrga : r ≠ ga) (hm : m ≤ 80) (hb1 : zb1 gf) : zM l Γ 6 yX0_measure wsX0_measure 0 0 V [.ref t, .ref o] (fun rv V' => rv = none ∧ ∃ g', zbd g' ∧ zb1 g' ∧ (∀ k : Nat, 0 < k → (k : Int) ≤ m → k < 81 → zgb (zaw m h) k (g' k).toNat) ∧ V' = zu V ga ta (za Γ.2.1 0 81 g')) := by
  have hTr := hT.rg
  have w0 : Cond.fieldLink RX0 9 "Sashwords$Borders" "greatest" "[I" ∈ wsX0_measure := by decide +kernel
  have iX0 : ∀ w ∈ u_ws RX0 TX0 3, w ∈ wsX0_measure := by decide +kernel
  refine zM_of (cc := cX0_measure) (nL := 4) (ret := none) (own := RX0) (by decide +kernel) rfl rfl (Nat.le_of_ble_eq_true rfl) (fun C X hi0 => ?_)
  show zG C V 0 0 0 [(0, .ref t), (1, .ref o)] []
  refine zr_iconst X 1 dX0_measure_0 rfl ?_
  refine zr_istore_n X 2 [(2, .int (zI (0))), (0, .ref t), (1, .ref o)] dX0_measure_1 rfl (by decide) rfl ?_
  refine zr_iconst X 3 dX0_measure_2 rfl ?_
  refine zr_istore_n X 4 [(3, .int (zI (1))), (2, .int (zI (0))), (0, .ref t), (1, .ref o)] dX0_measure_3 rfl (by decide) rfl ?_
  refine zr_view (V' := zu V ga ta (za Γ.2.1 0 81 gf)) (zu_id hga).symm ?_
  refine zr_sub [0, 1, 3, 2] [(3, .int (zI (1))), (2, .int (zI (0))), (1, .ref o), (0, .ref t)] rfl ?_
  have loop : ∀ (N : Nat) (g1 : Nat → Int) (q : Int) (n : Int), zbd g1 ∧ 0 ≤ q ∧ q ≤ m ∧ 1 ≤ n ∧ n ≤ 1001 ∧ q < n ∧ zb1 g1 ∧ zgb (zaw m h) n.toNat q.toNat ∧ (∀ k : Nat, 0 < k → (k : Int) ≤ n → k < 81 → zgb (zaw m h) k (g1 k).toNat) → (1001 - n).toNat = N → zG C (zu V ga ta (za Γ.2.1 0 81 g1)) 0 0 4 [(3, .int (zI (n))), (2, .int (zI (q))), (1, .ref o), (0, .ref t)] [] := by
    intro N
    induction N using Nat.strongRecOn with
    | _ N ih =>
    intro g1 q n hI hN
    obtain ⟨hI1, hI2, hI3, hI4, hI5, hI6, hI7, hI8, hI9⟩ := id hI
    refine zr_iload_n X 5 0 dX0_measure_4 rfl rfl ?_
    refine zr_aload_n X 6 2 dX0_measure_5 rfl rfl ?_
    refine zr_txSize X 9 (hT.kept (by simp [zu, hoga]) (by simp [zu, hrga])) gX0_measure_X5_size_u18X5 gX0_measure_X2_size_u18X2 (by decide) (Nat.le_of_ble_eq_true rfl) dX0_measure_6 rfl ?_
    refine zr_icmp_ge X 50 12 dX0_measure_9 rfl rfl (by omega) (by omega) (fun bq1 => ?_) (fun bq1 => ?_)
    · exact zr_vret X rfl ⟨rfl, g1, hI1, hI7, fun k9 a9 b9 c9 => hI9 k9 a9 (by omega) c9, rfl⟩ dX0_measure_50
    · refine zr_iload_n X 13 0 dX0_measure_12 rfl rfl ?_
      refine zr_iconst X 14 dX0_measure_13 rfl ?_
      refine zr_iadd X 15 dX0_measure_14 rfl ?_
      refine zr_aload_n X 16 3 dX0_measure_15 rfl rfl ?_
      refine zr_get X 19 2 0 ((zu_ne (zne_oa ht hga)).trans ht) rfl iX0 (by decide) w0 rfl rfl dX0_measure_16 rfl ?_
      refine zr_alen X 20 0 (zu_eq _ _ _ _) (by decide) dX0_measure_19 rfl ?_
      refine zr_icmp_ge X 50 23 dX0_measure_20 rfl rfl (by omega) (by omega) (fun bq2 => ?_) (fun bq2 => ?_)
      · exact zr_vret X rfl ⟨rfl, g1, hI1, hI7, fun k9 a9 b9 c9 => hI9 k9 a9 (by omega) c9, rfl⟩ dX0_measure_50
      · refine zr_aload_n X 24 3 dX0_measure_23 rfl rfl ?_
        refine zr_aload_n X 25 2 dX0_measure_24 rfl rfl ?_
        refine zr_iload_n X 26 1 dX0_measure_25 rfl rfl ?_
        refine zr_aload_n X 27 2 dX0_measure_26 rfl rfl ?_
        refine zr_iload_n X 28 0 dX0_measure_27 rfl rfl ?_
        refine zr_txAt X 31 (hT.kept (by simp [zu, hoga]) (by simp [zu, hrga])) (by omega) gX0_measure_X5_at_u24X5 gX0_measure_X2_at_u24X2 (by decide) (Nat.le_of_ble_eq_true rfl) dX0_measure_28 rfl ?_
        rw [if_pos (show 0 ≤ n ∧ n < m by omega)]
        have hx3 := hTr.2.2 n
        show zG C (zu V ga ta (za Γ.2.1 0 81 g1)) 0 0 31 [(3, .int (zI (n))), (2, .int (zI (q))), (1, .ref o), (0, .ref t)] [.int (zI (h n)), .int (zI (q)), .ref o, .ref t]
        have eatq : zaw m h n.toNat = h n := (zaw_at (by omega)).trans (if_pos (by omega))
        refine zr_callV (kc' := 0) (ks' := 0) X 34 3 (m_X0_grown l Γ (q := q) (x := h n) ((zu_ne (zne_oa ht hga)).trans ht) (zu_eq _ _ _ _) hI1 (hT.kept (by simp [zu, hoga]) (by simp [zu, hrga])) (by omega) (by omega) (by omega) (fun k9 a9 b9 c9 => hI9 k9 a9 (by omega) c9)) gX0_measure_X0_grown rfl (by decide +kernel) rfl (by decide) ((zu_ne (zne_oa ht hga)).trans ht) rfl rfl (Nat.le_of_ble_eq_true rfl) dX0_measure_31 rfl (by omega) (by omega) (fun rv4 V5 hp6 => ?_)
        obtain ⟨⟨y7, y7e, y7a, y7b, y7n, y7z, y7w, y7u⟩, y7v⟩ := hp6
        rw [y7e, y7v]
        show zG C (zu V ga ta (za Γ.2.1 0 81 g1)) 0 0 34 [(3, .int (zI (n))), (2, .int (zI (q))), (1, .ref o), (0, .ref t)] [.int (zI (y7))]
        refine zr_istore_n X 35 [(2, .int (zI (y7))), (3, .int (zI (n))), (1, .ref o), (0, .ref t)] dX0_measure_34 rfl (by decide) rfl ?_
        refine zr_aload_n X 36 3 dX0_measure_35 rfl rfl ?_
        refine zr_get X 39 2 0 ((zu_ne (zne_oa ht hga)).trans ht) rfl iX0 (by decide) w0 rfl rfl dX0_measure_36 rfl ?_
        refine zr_iload_n X 40 1 dX0_measure_39 rfl rfl ?_
        refine zr_iconst X 41 dX0_measure_40 rfl ?_
        refine zr_iadd X 42 dX0_measure_41 rfl ?_
        refine zr_iload_n X 43 0 dX0_measure_42 rfl rfl ?_
        refine zr_iast X 44 (zu_eq _ _ _ _) (by omega)  dX0_measure_43 rfl ?_
        refine zr_view (zu_zu _ _ _ _ _ _) ?_
        refine zr_iinc X 47 1 [(3, .int (zI (n + 1))), (2, .int (zI (y7))), (1, .ref o), (0, .ref t)] dX0_measure_44 rfl rfl (by decide) rfl ?_
        refine zr_goto X 4 dX0_measure_47 rfl ?_
        have hz0 : zgl (zaw m h) (zaw m h) (n.toNat - 1) n.toNat q.toNat (zaw m h n.toNat) := .init (zgb.gm (by omega) hI8)
        rw [eatq] at hz0
        have hz1 := y7z _ _ _ hz0
        rw [← eatq] at hz1 y7w y7u
        have hz2 := zgl.bdone (by omega) hz1 y7w
        have hz3 := congrArg Int.toNat y7u
        rw [Int.toNat_natCast] at hz3
        rw [← hz3] at hz2
        have hz4 := hz2.1
        exact ih _ (by omega) (zf g1 (n + 1).toNat y7) y7 (n + 1) ⟨zbd_zf hI1 (by omega), by omega, by omega, by omega, by omega, by omega, hI7.put (by omega), by rw [show (n + 1).toNat = n.toNat + 1 by omega]; exact hz2, zgr_put hI9 (by omega) hz2⟩ rfl
  exact loop _ gf 0 1 ⟨hbd, by omega, by omega, by omega, by omega, by omega, hb1, zgb_1, fun k9 a9 b9 c9 => by rw [show k9 = 1 by omega, hb1.2]; exact zgb_1⟩ rfl
set_option maxRecDepth 100000 in
set_option maxHeartbeats 4000000 in
theorem m_X0_measureChain (l : Launch) (Γ : zGam) {V : zV} {t ga ca tt ta tc : Nat} {lk : Int} {gf cf : Nat → Int} {o r : Nat} {m : Int} {h : Int → Int} (ht : V t = some (tt, .inr (2, [.ref ga, .ref ca, .int (zI lk)]))) (hga : V ga = some (ta, za Γ.2.1 0 81 gf)) (hca : V ca = some (tc, za Γ.2.1 0 80 cf)) (hbd : zbd gf) (hcd : zbd cf) (hT : zTx Γ V o r m h) (hoga : o ≠ ga) (hrga : r ≠ ga) (hm : m ≤ 80) (hb1 : zb1 gf) (hoca : o ≠ ca) (hrca : r ≠ ca) (hot : o ≠ t) (hrt : r ≠ t) (hgc : ga ≠ ca) : zM l Γ 7 yX0_measureChain wsX0_measureChain 0 0 V [.ref t, .ref o] (fun rv V' => rv = none ∧ ∃ g' c' k', zbd g' ∧ zbd c' ∧ zb1 g' ∧ 0 ≤ k' ∧ k' ≤ 80 ∧ V' = zu (zu (zu V ga ta (za Γ.2.1 0 81 g')) ca tc (za Γ.2.1 0 80 c')) t tt (.inr (2, [.ref ga, .ref ca, .int (zI (k'))]))) := by
  have hTr := hT.rg
  have htg : t ≠ ga := zne_oa ht hga
  have htc : t ≠ ca := zne_oa ht hca
  have w0 : Cond.fieldLink RX0 39 "Sashwords$Borders" "links" "I" ∈ wsX0_measureChain := by decide +kernel
  have iX0 : ∀ w ∈ u_ws RX0 TX0 3, w ∈ wsX0_measureChain := by decide +kernel
  have w2 : Cond.fieldLink RX0 15 "Sashwords$Borders" "chainRow" "[I" ∈ wsX0_measureChain := by decide +kernel
  refine zM_of (cc := cX0_measureChain) (nL := 4) (ret := none) (own := RX0) (by decide +kernel) rfl rfl (Nat.le_of_ble_eq_true rfl) (fun C X hi0 => ?_)
  show zG C V 0 0 0 [(0, .ref t), (1, .ref o)] []
  refine zr_aload_n X 1 0 dX0_measureChain_0 rfl rfl ?_
  refine zr_aload_n X 2 1 dX0_measureChain_1 rfl rfl ?_
  refine zr_callV (kc' := 0) (ks' := 0) X 5 1 (m_X0_measure l Γ ht hga hbd hT hoga hrga (by omega) hb1) gX0_measureChain_X0_measure rfl (by decide +kernel) rfl (by decide) ht rfl rfl (Nat.le_of_ble_eq_true rfl) dX0_measureChain_2 rfl (by omega) (by omega) (fun rv1 V2 hp3 => ?_)
  obtain ⟨gf4e, gf4, gf4b, gf4h, gf4z, gf4v⟩ := hp3
  rw [gf4e, gf4v]
  show zG C (zu V ga ta (za Γ.2.1 0 81 gf4)) 0 0 5 [(0, .ref t), (1, .ref o)] []
  refine zr_aload_n X 6 0 dX0_measureChain_5 rfl rfl ?_
  refine zr_iconst X 7 dX0_measureChain_6 rfl ?_
  refine zr_put X 10 2 2 [.ref ga, .ref ca, .int (zI (0))] tyX0 ((zu_ne (zne_oa ht hga)).trans ht) rfl iX0 tyX0_ok nmX0 (by decide) w0 rfl rfl rfl rfl (Nat.le_of_ble_eq_true rfl) rfl dX0_measureChain_7 rfl ?_
  refine zr_aload_n X 11 1 dX0_measureChain_10 rfl rfl ?_
  refine zr_txSize X 14 (hT.kept (by simp [zu, hoga, hoca, hot]) (by simp [zu, hrga, hrca, hrt])) gX0_measureChain_X5_size_u18X5 gX0_measureChain_X2_size_u18X2 (by decide) (Nat.le_of_ble_eq_true rfl) dX0_measureChain_11 rfl ?_
  refine zr_istore_n X 15 [(2, .int (zI (m))), (0, .ref t), (1, .ref o)] dX0_measureChain_14 rfl (by decide) rfl ?_
  refine zr_aload_n X 16 2 dX0_measureChain_15 rfl rfl ?_
  refine zr_txSize X 19 (hT.kept (by simp [zu, hoga, hoca, hot]) (by simp [zu, hrga, hrca, hrt])) gX0_measureChain_X5_size_u18X5 gX0_measureChain_X2_size_u18X2 (by decide) (Nat.le_of_ble_eq_true rfl) dX0_measureChain_16 rfl ?_
  refine zr_istore_n X 20 [(3, .int (zI (m))), (2, .int (zI (m))), (0, .ref t), (1, .ref o)] dX0_measureChain_19 rfl (by decide) rfl ?_
  refine zr_view (V' := zu (zu (zu V ga ta (za Γ.2.1 0 81 gf4)) ca tc (za Γ.2.1 0 80 cf)) t tt (.inr (2, [.ref ga, .ref ca, .int (zI (0))]))) (by rw [zu_id (V := zu V ga ta (za Γ.2.1 0 81 gf4)) ((zu_ne (Ne.symm hgc)).trans hca)]) ?_
  refine zr_sub [0, 1, 3, 2] [(3, .int (zI (m))), (2, .int (zI (m))), (1, .ref o), (0, .ref t)] rfl ?_
  have loop : ∀ (N : Nat) (c1 : Nat → Int) (k1 : Int) (n : Int) (st : Int), zbd c1 ∧ 0 ≤ k1 ∧ k1 ≤ 80 ∧ 0 ≤ n ∧ n ≤ 1000 ∧ -1 ≤ st ∧ st ≤ 1000 → (st + 1).toNat = N → zG C (zu (zu (zu V ga ta (za Γ.2.1 0 81 gf4)) ca tc (za Γ.2.1 0 80 c1)) t tt (.inr (2, [.ref ga, .ref ca, .int (zI (k1))]))) 0 0 20 [(3, .int (zI (st))), (2, .int (zI (n))), (1, .ref o), (0, .ref t)] [] := by
    intro N
    induction N using Nat.strongRecOn with
    | _ N ih =>
    intro c1 k1 n st hI hN
    obtain ⟨hI1, hI2, hI3, hI4, hI5, hI6, hI7⟩ := id hI
    refine zr_iload_n X 21 0 dX0_measureChain_20 rfl rfl ?_
    refine zr_if_le X 72 24 dX0_measureChain_21 rfl rfl (by omega) (fun bq5 => ?_) (fun bq5 => ?_)
    · exact zr_vret X rfl ⟨rfl, gf4, c1, k1, gf4b, hI1, gf4h, by omega, by omega, rfl⟩ dX0_measureChain_72
    · refine zr_iload_n X 25 1 dX0_measureChain_24 rfl rfl ?_
      refine zr_if_le X 72 28 dX0_measureChain_25 rfl rfl (by omega) (fun bq6 => ?_) (fun bq6 => ?_)
      · exact zr_vret X rfl ⟨rfl, gf4, c1, k1, gf4b, hI1, gf4h, by omega, by omega, rfl⟩ dX0_measureChain_72
      · refine zr_aload_n X 29 3 dX0_measureChain_28 rfl rfl ?_
        refine zr_iload_n X 30 1 dX0_measureChain_29 rfl rfl ?_
        refine zr_callV (kc' := 0) (ks' := 0) X 33 1 (m_X0_greatestOf l Γ (k := n) (zu_eq _ _ _ _) ((zu_ne (Ne.symm (zne_oa ht hga))).trans ((zu_ne hgc).trans (zu_eq _ _ _ _))) (by omega)) gX0_measureChain_X0_greatestOf rfl (by decide +kernel) rfl (by decide) (zu_eq _ _ _ _) rfl rfl (Nat.le_of_ble_eq_true rfl) dX0_measureChain_30 rfl (by omega) (by omega) (fun rv7 V8 hp9 => ?_)
        rw [hp9.1, hp9.2]
        obtain ⟨x10, hx10, hx10a, hx10b⟩ := zbd_if gf4b n
        rw [hx10]
        show zG C (zu (zu (zu V ga ta (za Γ.2.1 0 81 gf4)) ca tc (za Γ.2.1 0 80 c1)) t tt (.inr (2, [.ref ga, .ref ca, .int (zI (k1))]))) 0 0 33 [(3, .int (zI (st))), (2, .int (zI (n))), (1, .ref o), (0, .ref t)] [.int (zI (x10))]
        refine zr_istore_n X 34 [(2, .int (zI (x10))), (3, .int (zI (st))), (1, .ref o), (0, .ref t)] dX0_measureChain_33 rfl (by decide) rfl ?_
        refine zr_aload_n X 35 3 dX0_measureChain_34 rfl rfl ?_
        refine zr_get X 38 2 2 (zu_eq _ _ _ _) rfl iX0 (by decide) w0 rfl rfl dX0_measureChain_35 rfl ?_
        refine zr_aload_n X 39 3 dX0_measureChain_38 rfl rfl ?_
        refine zr_get X 42 2 1 (zu_eq _ _ _ _) rfl iX0 (by decide) w2 rfl rfl dX0_measureChain_39 rfl ?_
        refine zr_alen X 43 0 ((zu_ne (Ne.symm (zne_oa ht hca))).trans (zu_eq _ _ _ _)) (by decide) dX0_measureChain_42 rfl ?_
        refine zr_icmp_ge X 66 46 dX0_measureChain_43 rfl rfl (by omega) (by omega) (fun bq11 => ?_) (fun bq11 => ?_)
        · refine zr_iinc X 69 1 [(3, .int (zI (st + (-1)))), (2, .int (zI (x10))), (1, .ref o), (0, .ref t)] dX0_measureChain_66 rfl rfl (by decide) rfl ?_
          refine zr_goto X 20 dX0_measureChain_69 rfl ?_
          exact ih _ (by omega) c1 k1 x10 (st + (-1)) ⟨hI1, by omega, by omega, by omega, by omega, by omega, by omega⟩ rfl
        · refine zr_aload_n X 47 3 dX0_measureChain_46 rfl rfl ?_
          refine zr_get X 50 2 1 (zu_eq _ _ _ _) rfl iX0 (by decide) w2 rfl rfl dX0_measureChain_47 rfl ?_
          refine zr_aload_n X 51 3 dX0_measureChain_50 rfl rfl ?_
          refine zr_get X 54 2 2 (zu_eq _ _ _ _) rfl iX0 (by decide) w0 rfl rfl dX0_measureChain_51 rfl ?_
          refine zr_iload_n X 55 0 dX0_measureChain_54 rfl rfl ?_
          refine zr_iast X 56 ((zu_ne (Ne.symm (zne_oa ht hca))).trans (zu_eq _ _ _ _)) (by omega)  dX0_measureChain_55 rfl ?_
          refine zr_aload_n X 57 3 dX0_measureChain_56 rfl rfl ?_
          refine zr_dup X 58 dX0_measureChain_57 rfl rfl ?_
          refine zr_get X 61 2 2 ((zu_ne (zne_oa ht hca)).trans (zu_eq _ _ _ _)) rfl iX0 (by decide) w0 rfl rfl dX0_measureChain_58 rfl ?_
          refine zr_iconst X 62 dX0_measureChain_61 rfl ?_
          refine zr_iadd X 63 dX0_measureChain_62 rfl ?_
          refine zr_put X 66 2 2 [.ref ga, .ref ca, .int (zI (k1 + 1))] tyX0 ((zu_ne (zne_oa ht hca)).trans (zu_eq _ _ _ _)) rfl iX0 tyX0_ok nmX0 (by decide) w0 rfl rfl rfl rfl (Nat.le_of_ble_eq_true rfl) rfl dX0_measureChain_63 rfl ?_
          refine zr_iinc X 69 1 [(3, .int (zI (st + (-1)))), (2, .int (zI (x10))), (1, .ref o), (0, .ref t)] dX0_measureChain_66 rfl rfl (by decide) rfl ?_
          refine zr_goto X 20 dX0_measureChain_69 rfl ?_
          refine zr_view (V' := (zu (zu (zu V ga ta (za Γ.2.1 0 81 gf4)) ca tc (za Γ.2.1 0 80 (zf c1 (k1).toNat x10))) t tt (.inr (2, [.ref ga, .ref ca, .int (zI (k1 + 1))])))) (by
              funext z
              simp only [zu]
              by_cases e0 : z = ga
              · subst e0; simp [hgc, Ne.symm hgc, htg, Ne.symm htg, htc, Ne.symm htc, Int.add_assoc]
              by_cases e1 : z = ca
              · subst e1; simp [hgc, Ne.symm hgc, htg, Ne.symm htg, htc, Ne.symm htc, Int.add_assoc]
              by_cases e2 : z = t
              · subst e2; simp [hgc, Ne.symm hgc, htg, Ne.symm htg, htc, Ne.symm htc, Int.add_assoc]
              simp [e0, e1, e2]) ?_
          exact ih _ (by omega) (zf c1 (k1).toNat x10) (k1 + 1) x10 (st + (-1)) ⟨zbd_zf hI1 (by omega), by omega, by omega, by omega, by omega, by omega, by omega⟩ rfl
  exact loop _ cf 0 m m ⟨hcd, by omega, by omega, by omega, by omega, by omega, by omega⟩ rfl
end
section
/-! class Seeker -/
set_option maxRecDepth 100000 in
set_option maxHeartbeats 4000000 in
theorem m_X3_foundAt (l : Launch) (Γ : zGam) {V : zV} {k bo pl tk tp : Nat} {mn : Int} {pf : Nat → Int} {q : Int} (hk : V k = some (tk, .inr (5, [.ref bo, .ref pl, .int (zI mn)]))) (hpl : V pl = some (tp, za Γ.2.1 0 81 pf)) (hmn : 0 ≤ mn ∧ mn ≤ 81) (hq : -2147483648 ≤ q ∧ q ≤ 2147483647) : zM l Γ 0 yX3_foundAt wsX3_foundAt 0 0 V [.ref k, .int (zI (q))] (fun rv V' => rv = some (.int (zI (if 0 ≤ q ∧ q < mn then pf q.toNat else -1))) ∧ V' = V) := by
  have w0 : Cond.fieldLink RX3 22 "Sashwords$Seeker" "many" "I" ∈ wsX3_foundAt := by decide +kernel
  have iX3 : ∀ w ∈ u_ws RX3 TX3 3, w ∈ wsX3_foundAt := by decide +kernel
  have w2 : Cond.fieldLink RX3 18 "Sashwords$Seeker" "places" "[I" ∈ wsX3_foundAt := by decide +kernel
  refine zM_of (cc := cX3_foundAt) (nL := 2) (ret := (some .int)) (own := RX3) (by decide +kernel) rfl rfl (Nat.le_of_ble_eq_true rfl) (fun C X hi0 => ?_)
  show zG C V 0 0 0 [(0, .ref k), (1, .int (zI (q)))] []
  refine zr_iload_n X 1 1 dX3_foundAt_0 rfl rfl ?_
  refine zr_if_lt X 21 4 dX3_foundAt_1 rfl rfl (by omega) (fun bq1 => ?_) (fun bq1 => ?_)
  · refine zr_iconst X 22 dX3_foundAt_21 rfl ?_
    refine zr_goto X 31 dX3_foundAt_22 rfl ?_
    exact zr_iret X rfl ⟨by rw [if_neg (by omega)], rfl⟩ dX3_foundAt_31
  · refine zr_iload_n X 5 1 dX3_foundAt_4 rfl rfl ?_
    refine zr_aload_n X 6 0 dX3_foundAt_5 rfl rfl ?_
    refine zr_get X 9 5 2 hk rfl iX3 (by decide) w0 rfl rfl dX3_foundAt_6 rfl ?_
    refine zr_icmp_ge X 21 12 dX3_foundAt_9 rfl rfl (by omega) (by omega) (fun bq2 => ?_) (fun bq2 => ?_)
    · refine zr_iconst X 22 dX3_foundAt_21 rfl ?_
      refine zr_goto X 31 dX3_foundAt_22 rfl ?_
      exact zr_iret X rfl ⟨by rw [if_neg (by omega)], rfl⟩ dX3_foundAt_31
    · refine zr_iload_n X 13 1 dX3_foundAt_12 rfl rfl ?_
      refine zr_aload_n X 14 0 dX3_foundAt_13 rfl rfl ?_
      refine zr_get X 17 5 1 hk rfl iX3 (by decide) w2 rfl rfl dX3_foundAt_14 rfl ?_
      refine zr_alen X 18 0 hpl (by decide) dX3_foundAt_17 rfl ?_
      refine zr_icmp_lt X 25 21 dX3_foundAt_18 rfl rfl (by omega) (by omega) (fun bq3 => ?_) (fun bq3 => ?_)
      · refine zr_aload_n X 26 0 dX3_foundAt_25 rfl rfl ?_
        refine zr_get X 29 5 1 hk rfl iX3 (by decide) w2 rfl rfl dX3_foundAt_26 rfl ?_
        refine zr_iload_n X 30 1 dX3_foundAt_29 rfl rfl ?_
        refine zr_iald X 31 hpl (by omega) dX3_foundAt_30 rfl ?_
        exact zr_iret X rfl ⟨by rw [if_pos (by omega)], rfl⟩ dX3_foundAt_31
      · refine zr_iconst X 22 dX3_foundAt_21 rfl ?_
        refine zr_goto X 31 dX3_foundAt_22 rfl ?_
        exact zr_iret X rfl ⟨by rw [if_neg (by omega)], rfl⟩ dX3_foundAt_31
/-- places: each at least 0 and below 2000 -/
def zpl (f : Nat → Int) : Prop := ∀ j, -2000 ≤ f j ∧ f j ≤ 2000
theorem zpl_zf {f : Nat → Int} (h : zpl f) {i : Nat} {x : Int} (hx : -2000 ≤ x ∧ x ≤ 2000) : zpl (zf f i x) := by
  intro j
  unfold zf
  split
  · exact hx
  · exact h j
theorem zpl_zero : zpl (fun _ => 0) := fun _ => ⟨(by decide : (-2000 : Int) ≤ 0), (by decide : (0 : Int) ≤ 2000)⟩
set_option maxRecDepth 100000 in
set_option maxHeartbeats 4000000 in
theorem m_X3_note (l : Launch) (Γ : zGam) {V : zV} {k bo pl tk tp : Nat} {mn : Int} {pf : Nat → Int} {x : Int} (hk : V k = some (tk, .inr (5, [.ref bo, .ref pl, .int (zI mn)]))) (hpl : V pl = some (tp, za Γ.2.1 0 81 pf)) (hmn : 0 ≤ mn ∧ mn ≤ 80) : zM l Γ 0 yX3_note wsX3_note 0 0 V [.ref k, .int (zI (x))] (fun rv V' => rv = none ∧ V' = zu (zu V pl tp (za Γ.2.1 0 81 (zf pf mn.toNat x))) k tk (.inr (5, [.ref bo, .ref pl, .int (zI (mn + 1))]))) := by
  have w0 : Cond.fieldLink RX3 22 "Sashwords$Seeker" "many" "I" ∈ wsX3_note := by decide +kernel
  have iX3 : ∀ w ∈ u_ws RX3 TX3 3, w ∈ wsX3_note := by decide +kernel
  have w2 : Cond.fieldLink RX3 18 "Sashwords$Seeker" "places" "[I" ∈ wsX3_note := by decide +kernel
  refine zM_of (cc := cX3_note) (nL := 2) (ret := none) (own := RX3) (by decide +kernel) rfl rfl (Nat.le_of_ble_eq_true rfl) (fun C X hi0 => ?_)
  show zG C V 0 0 0 [(0, .ref k), (1, .int (zI (x)))] []
  refine zr_aload_n X 1 0 dX3_note_0 rfl rfl ?_
  refine zr_get X 4 5 2 hk rfl iX3 (by decide) w0 rfl rfl dX3_note_1 rfl ?_
  refine zr_if_lt X 39 7 dX3_note_4 rfl rfl (by omega) (fun bq1 => ?_) (fun bq1 => ?_)
  · exact zr_vret X rfl (False.elim (by omega)) dX3_note_39
  · refine zr_aload_n X 8 0 dX3_note_7 rfl rfl ?_
    refine zr_get X 11 5 2 hk rfl iX3 (by decide) w0 rfl rfl dX3_note_8 rfl ?_
    refine zr_aload_n X 12 0 dX3_note_11 rfl rfl ?_
    refine zr_get X 15 5 1 hk rfl iX3 (by decide) w2 rfl rfl dX3_note_12 rfl ?_
    refine zr_alen X 16 0 hpl (by decide) dX3_note_15 rfl ?_
    refine zr_icmp_ge X 39 19 dX3_note_16 rfl rfl (by omega) (by omega) (fun bq2 => ?_) (fun bq2 => ?_)
    · exact zr_vret X rfl (False.elim (by omega)) dX3_note_39
    · refine zr_aload_n X 20 0 dX3_note_19 rfl rfl ?_
      refine zr_get X 23 5 1 hk rfl iX3 (by decide) w2 rfl rfl dX3_note_20 rfl ?_
      refine zr_aload_n X 24 0 dX3_note_23 rfl rfl ?_
      refine zr_get X 27 5 2 hk rfl iX3 (by decide) w0 rfl rfl dX3_note_24 rfl ?_
      refine zr_iload_n X 28 1 dX3_note_27 rfl rfl ?_
      refine zr_iast X 29 hpl (by omega)  dX3_note_28 rfl ?_
      refine zr_aload_n X 30 0 dX3_note_29 rfl rfl ?_
      refine zr_dup X 31 dX3_note_30 rfl rfl ?_
      refine zr_get X 34 5 2 ((zu_ne (zne_oa hk hpl)).trans hk) rfl iX3 (by decide) w0 rfl rfl dX3_note_31 rfl ?_
      refine zr_iconst X 35 dX3_note_34 rfl ?_
      refine zr_iadd X 36 dX3_note_35 rfl ?_
      refine zr_put X 39 5 2 [.ref bo, .ref pl, .int (zI (mn + 1))] tyX3 ((zu_ne (zne_oa hk hpl)).trans hk) rfl iX3 tyX3_ok nmX3 (by decide) w0 rfl rfl rfl rfl (Nat.le_of_ble_eq_true rfl) rfl dX3_note_36 rfl ?_
      exact zr_vret X rfl ⟨rfl, rfl⟩ dX3_note_39
set_option maxRecDepth 100000 in
set_option maxHeartbeats 4000000 in
theorem m_X3_seek (l : Launch) (Γ : zGam) {V : zV} {k bo pl tk tp : Nat} {mn : Int} {pf : Nat → Int} {ga ca ta tb : Nat} {lk : Int} {gf : Nat → Int} {o1 r1 o2 r2 : Nat} {m1 m2 : Int} {h1 h2 : Int → Int} (hk : V k = some (tk, .inr (5, [.ref bo, .ref pl, .int (zI mn)]))) (hpl : V pl = some (tp, za Γ.2.1 0 81 pf)) (hmn : 0 ≤ mn ∧ mn ≤ 81) (ht : V bo = some (tb, .inr (2, [.ref ga, .ref ca, .int (zI lk)]))) (hga : V ga = some (ta, za Γ.2.1 0 81 gf)) (hbd : zbd gf) (hpf : zpl pf) (hgp : ga ≠ pl) (hb1 : zb1 gf) (hm1 : m1 ≤ 80) (hm2 : m2 ≤ 80) (hT1 : zTx Γ V o1 r1 m1 h1) (hT2 : zTx Γ V o2 r2 m2 h2) (n1k : o1 ≠ k) (n1g : o1 ≠ ga) (n1p : o1 ≠ pl) (r1k : r1 ≠ k) (r1g : r1 ≠ ga) (r1p : r1 ≠ pl) (n2k : o2 ≠ k) (n2g : o2 ≠ ga) (n2p : o2 ≠ pl) (r2k : r2 ≠ k) (r2g : r2 ≠ ga) (r2p : r2 ≠ pl) : zM l Γ 7 yX3_seek wsX3_seek 0 0 V [.ref k, .ref o1, .ref o2] (fun rv V' => rv = none ∧ ∃ g' p' m', zbd g' ∧ zb1 g' ∧ zpl p' ∧ 0 ≤ m' ∧ m' ≤ 81 ∧ zfo (zaw m2 h2) (zaw m1 h1) m2.toNat (m1.toNat + 1 - m2.toNat) m' p' ∧ V' = zu (zu (zu V ga ta (za Γ.2.1 0 81 g')) pl tp (za Γ.2.1 0 81 p')) k tk (.inr (5, [.ref bo, .ref pl, .int (zI (m'))]))) := by
  have hTr1 := hT1.rg
  have hTr2 := hT2.rg
  have hkg : k ≠ ga := zne_oa hk hga
  have hkp : k ≠ pl := zne_oa hk hpl
  have w0 : Cond.fieldLink RX3 22 "Sashwords$Seeker" "many" "I" ∈ wsX3_seek := by decide +kernel
  have iX3 : ∀ w ∈ u_ws RX3 TX3 3, w ∈ wsX3_seek := by decide +kernel
  have w2 : Cond.fieldLink RX3 12 "Sashwords$Seeker" "borders" "LSashwords$Borders;" ∈ wsX3_seek := by decide +kernel
  refine zM_of (cc := cX3_seek) (nL := 6) (ret := none) (own := RX3) (by decide +kernel) rfl rfl (Nat.le_of_ble_eq_true rfl) (fun C X hi0 => ?_)
  show zG C V 0 0 0 [(0, .ref k), (1, .ref o1), (2, .ref o2)] []
  refine zr_aload_n X 1 0 dX3_seek_0 rfl rfl ?_
  refine zr_iconst X 2 dX3_seek_1 rfl ?_
  refine zr_put X 5 5 2 [.ref bo, .ref pl, .int (zI (0))] tyX3 hk rfl iX3 tyX3_ok nmX3 (by decide) w0 rfl rfl rfl rfl (Nat.le_of_ble_eq_true rfl) rfl dX3_seek_2 rfl ?_
  refine zr_aload_n X 6 0 dX3_seek_5 rfl rfl ?_
  refine zr_get X 9 5 0 (zu_eq _ _ _ _) rfl iX3 (by decide) w2 rfl rfl dX3_seek_6 rfl ?_
  refine zr_aload_n X 10 2 dX3_seek_9 rfl rfl ?_
  refine zr_callV (kc' := 0) (ks' := 0) X 13 1 (m_X0_measure l Γ ((zu_ne (zne_oo ht hk (by decide))).trans ht) ((zu_ne (Ne.symm (zne_oa hk hga))).trans hga) hbd (hT2.kept (by simp [zu, n2k, n2g, n2p]) (by simp [zu, r2k, r2g, r2p])) n2g r2g (by omega) hb1) gX3_seek_X0_measure rfl (by decide +kernel) rfl (by decide) ((zu_ne (zne_oo ht hk (by decide))).trans ht) rfl rfl (Nat.le_of_ble_eq_true rfl) dX3_seek_10 rfl (by omega) (by omega) (fun rv1 V2 hp3 => ?_)
  obtain ⟨gf4e, gf4, gf4b, gf4h, gf4z, gf4v⟩ := hp3
  rw [gf4e, gf4v]
  show zG C (zu (zu V k tk (.inr (5, [.ref bo, .ref pl, .int (zI (0))]))) ga ta (za Γ.2.1 0 81 gf4)) 0 0 13 [(0, .ref k), (1, .ref o1), (2, .ref o2)] []
  refine zr_aload_n X 14 2 dX3_seek_13 rfl rfl ?_
  refine zr_txSize X 17 (hT2.kept (by simp [zu, n2k, n2g, n2p]) (by simp [zu, r2k, r2g, r2p])) gX3_seek_X5_size_u30X5 gX3_seek_X2_size_u30X2 (by decide) (Nat.le_of_ble_eq_true rfl) dX3_seek_14 rfl ?_
  refine zr_istore_n X 18 [(3, .int (zI (m2))), (0, .ref k), (1, .ref o1), (2, .ref o2)] dX3_seek_17 rfl (by decide) rfl ?_
  have join : ∀ (p0 : Nat → Int) (k0 : Int), zpl p0 ∧ zfo (zaw m2 h2) (zaw m1 h1) m2.toNat (0 + 1 - m2.toNat) k0 p0 → zG C (zu (zu (zu V ga ta (za Γ.2.1 0 81 gf4)) pl tp (za Γ.2.1 0 81 p0)) k tk (.inr (5, [.ref bo, .ref pl, .int (zI (k0))]))) 0 0 27 [(3, .int (zI (m2))), (2, .ref o2), (1, .ref o1), (0, .ref k)] [] := by
    intro p0 k0 hJ
    obtain ⟨hJ1, hJ2⟩ := id hJ
    refine zr_iconst X 28 dX3_seek_27 rfl ?_
    refine zr_istore X 30 [(4, .int (zI (0))), (3, .int (zI (m2))), (2, .ref o2), (1, .ref o1), (0, .ref k)] dX3_seek_28 rfl (by decide) rfl ?_
    refine zr_iconst X 31 dX3_seek_30 rfl ?_
    refine zr_istore X 33 [(5, .int (zI (0))), (4, .int (zI (0))), (3, .int (zI (m2))), (2, .ref o2), (1, .ref o1), (0, .ref k)] dX3_seek_31 rfl (by decide) rfl ?_
    have loop : ∀ (N : Nat) (p1 : Nat → Int) (k1 : Int) (q : Int) (i : Int), zpl p1 ∧ zfo (zaw m2 h2) (zaw m1 h1) m2.toNat (i.toNat + 1 - m2.toNat) k1 p1 ∧ 0 ≤ q ∧ q ≤ m2 ∧ 0 ≤ i ∧ i ≤ m1 ∧ zgm (zaw m2 h2) (zaw m1 h1) m2.toNat i.toNat q.toNat → (1001 - i).toNat = N → zG C (zu (zu (zu V ga ta (za Γ.2.1 0 81 gf4)) pl tp (za Γ.2.1 0 81 p1)) k tk (.inr (5, [.ref bo, .ref pl, .int (zI (k1))]))) 0 0 33 [(5, .int (zI (i))), (4, .int (zI (q))), (3, .int (zI (m2))), (2, .ref o2), (1, .ref o1), (0, .ref k)] [] := by
      intro N
      induction N using Nat.strongRecOn with
      | _ N ih =>
      intro p1 k1 q i hI hN
      obtain ⟨hI1, hI2, hI3, hI4, hI5, hI6, hI8⟩ := id hI
      refine zr_iload X 35 0 dX3_seek_33 rfl rfl ?_
      refine zr_aload_n X 36 4 dX3_seek_35 rfl rfl ?_
      refine zr_txSize X 39 (hT1.kept (by simp [zu, n1k, n1g, n1p]) (by simp [zu, r1k, r1g, r1p])) gX3_seek_X5_size_u30X5 gX3_seek_X2_size_u30X2 (by decide) (Nat.le_of_ble_eq_true rfl) dX3_seek_36 rfl ?_
      refine zr_icmp_ge X 82 42 dX3_seek_39 rfl rfl (by omega) (by omega) (fun bq5 => ?_) (fun bq5 => ?_)
      · have hle := hI2.le
        have him : i = m1 := by omega
        rw [him] at hI2
        exact zr_vret X rfl ⟨rfl, gf4, p1, k1, gf4b, gf4h, hI1, by omega, by omega, hI2, rfl⟩ dX3_seek_82
      · refine zr_aload_n X 43 5 dX3_seek_42 rfl rfl ?_
        refine zr_get X 46 5 0 (zu_eq _ _ _ _) rfl iX3 (by decide) w2 rfl rfl dX3_seek_43 rfl ?_
        refine zr_aload_n X 47 3 dX3_seek_46 rfl rfl ?_
        refine zr_iload X 49 1 dX3_seek_47 rfl rfl ?_
        refine zr_aload_n X 50 4 dX3_seek_49 rfl rfl ?_
        refine zr_iload X 52 0 dX3_seek_50 rfl rfl ?_
        refine zr_txAt X 55 (hT1.kept (by simp [zu, n1k, n1g, n1p]) (by simp [zu, r1k, r1g, r1p])) (by omega) gX3_seek_X5_at_u40X5 gX3_seek_X2_at_u40X2 (by decide) (Nat.le_of_ble_eq_true rfl) dX3_seek_52 rfl ?_
        rw [if_pos (show 0 ≤ i ∧ i < m1 by omega)]
        have hx6 := hTr1.2.2 i
        show zG C (zu (zu (zu V ga ta (za Γ.2.1 0 81 gf4)) pl tp (za Γ.2.1 0 81 p1)) k tk (.inr (5, [.ref bo, .ref pl, .int (zI (k1))]))) 0 0 55 [(5, .int (zI (i))), (4, .int (zI (q))), (3, .int (zI (m2))), (2, .ref o2), (1, .ref o1), (0, .ref k)] [.int (zI (h1 i)), .int (zI (q)), .ref o2, .ref bo]
        have eati : zaw m1 h1 i.toNat = h1 i := (zaw_at (by omega)).trans (if_pos (by omega))
        refine zr_callV (kc' := 0) (ks' := 0) X 58 3 (m_X0_grown l Γ (q := q) (x := h1 i) ((zu_ne (zne_oo ht hk (by decide))).trans ((zu_ne (zne_oa ht hpl)).trans ((zu_ne (zne_oa ht hga)).trans ht))) ((zu_ne (Ne.symm (zne_oa hk hga))).trans ((zu_ne hgp).trans (zu_eq _ _ _ _))) gf4b (hT2.kept (by simp [zu, n2k, n2g, n2p]) (by simp [zu, r2k, r2g, r2p])) (by omega) (by omega) (by omega) (fun k9 a9 b9 c9 => gf4z k9 a9 (by omega) c9)) gX3_seek_X0_grown rfl (by decide +kernel) rfl (by decide) ((zu_ne (zne_oo ht hk (by decide))).trans ((zu_ne (zne_oa ht hpl)).trans ((zu_ne (zne_oa ht hga)).trans ht))) rfl rfl (Nat.le_of_ble_eq_true rfl) dX3_seek_55 rfl (by omega) (by omega) (fun rv7 V8 hp9 => ?_)
        obtain ⟨⟨y10, y10e, y10a, y10b, y10n, y10z, y10w, y10u⟩, y10v⟩ := hp9
        rw [y10e, y10v]
        show zG C (zu (zu (zu V ga ta (za Γ.2.1 0 81 gf4)) pl tp (za Γ.2.1 0 81 p1)) k tk (.inr (5, [.ref bo, .ref pl, .int (zI (k1))]))) 0 0 58 [(5, .int (zI (i))), (4, .int (zI (q))), (3, .int (zI (m2))), (2, .ref o2), (1, .ref o1), (0, .ref k)] [.int (zI (y10))]
        refine zr_istore X 60 [(4, .int (zI (y10))), (5, .int (zI (i))), (3, .int (zI (m2))), (2, .ref o2), (1, .ref o1), (0, .ref k)] dX3_seek_58 rfl (by decide) rfl ?_
        refine zr_iload X 62 0 dX3_seek_60 rfl rfl ?_
        refine zr_iload_n X 63 2 dX3_seek_62 rfl rfl ?_
        refine zr_icmp_ne X 76 66 dX3_seek_63 rfl rfl (by omega) (by omega) (fun bq11 => ?_) (fun bq11 => ?_)
        · refine zr_iinc X 79 1 [(5, .int (zI (i + 1))), (4, .int (zI (y10))), (3, .int (zI (m2))), (2, .ref o2), (1, .ref o1), (0, .ref k)] dX3_seek_76 rfl rfl (by decide) rfl ?_
          refine zr_goto X 33 dX3_seek_79 rfl ?_
          have hz0 : zgl (zaw m2 h2) (zaw m1 h1) m2.toNat i.toNat q.toNat (zaw m1 h1 i.toNat) := .init hI8
          rw [eati] at hz0
          have hz1 := y10z _ _ _ hz0
          rw [← eati] at hz1 y10w y10u
          have hz4 : zaw m2 h2 m2.toNat ≠ zaw m1 h1 i.toNat := by rw [eati, (zaw_at (by omega)).trans (if_neg (by omega))]; omega
          have hz2 := zgl.done hz1 hz4 y10w
          have hz3 := congrArg Int.toNat y10u
          rw [Int.toNat_natCast] at hz3
          rw [← hz3] at hz2
          have hz5 := zfo.no hI2 hz2 (by omega)
          exact ih _ (by omega) p1 k1 y10 (i + 1) ⟨hI1, by rw [show (i + 1).toNat = i.toNat + 1 by omega]; exact hz5, by omega, by omega, by omega, by omega, by rw [show (i + 1).toNat = i.toNat + 1 by omega]; exact hz2⟩ rfl
        · refine zr_aload_n X 67 5 dX3_seek_66 rfl rfl ?_
          refine zr_iload X 69 1 dX3_seek_67 rfl rfl ?_
          refine zr_iconst X 70 dX3_seek_69 rfl ?_
          refine zr_iadd X 71 dX3_seek_70 rfl ?_
          refine zr_iload_n X 72 2 dX3_seek_71 rfl rfl ?_
          refine zr_isub X 73 dX3_seek_72 rfl ?_
          refine zr_callV (kc' := 0) (ks' := 0) X 76 1 (m_X3_note l Γ (x := (i + 1) - m2) (zu_eq _ _ _ _) ((zu_ne (Ne.symm (zne_oa hk hpl))).trans (zu_eq _ _ _ _)) (by have := hI2.le; omega)) gX3_seek_X3_note rfl (by decide +kernel) rfl (by decide) (zu_eq _ _ _ _) rfl rfl (Nat.le_of_ble_eq_true rfl) dX3_seek_73 rfl (by omega) (by omega) (fun rv12 V13 hp14 => ?_)
          obtain ⟨hp14e, hp14v⟩ := hp14
          rw [hp14e, hp14v]
          show zG C (zu (zu (zu (zu (zu V ga ta (za Γ.2.1 0 81 gf4)) pl tp (za Γ.2.1 0 81 p1)) k tk (.inr (5, [.ref bo, .ref pl, .int (zI (k1))]))) pl tp (za Γ.2.1 0 81 (zf p1 (k1 : Int).toNat ((i + 1) - m2)))) k tk (.inr (5, [.ref bo, .ref pl, .int (zI (k1 + 1))]))) 0 0 76 [(4, .int (zI (y10))), (5, .int (zI (i))), (3, .int (zI (m2))), (2, .ref o2), (1, .ref o1), (0, .ref k)] []
          refine zr_iinc X 79 1 [(5, .int (zI (i + 1))), (4, .int (zI (y10))), (3, .int (zI (m2))), (2, .ref o2), (1, .ref o1), (0, .ref k)] dX3_seek_76 rfl rfl (by decide) rfl ?_
          refine zr_goto X 33 dX3_seek_79 rfl ?_
          refine zr_view (V' := (zu (zu (zu V ga ta (za Γ.2.1 0 81 gf4)) pl tp (za Γ.2.1 0 81 (zf p1 (k1 : Int).toNat ((i + 1) - m2)))) k tk (.inr (5, [.ref bo, .ref pl, .int (zI (k1 + 1))])))) (by
              funext z
              simp only [zu]
              by_cases e0 : z = ga
              · subst e0; simp [hpl, hgp, Ne.symm hgp, hkg, Ne.symm hkg, hkp, Ne.symm hkp, Int.add_assoc]
              by_cases e1 : z = pl
              · subst e1; simp [hpl, hgp, Ne.symm hgp, hkg, Ne.symm hkg, hkp, Ne.symm hkp, Int.add_assoc]
              by_cases e2 : z = k
              · subst e2; simp [hpl, hgp, Ne.symm hgp, hkg, Ne.symm hkg, hkp, Ne.symm hkp, Int.add_assoc]
              simp [e0, e1, e2]) ?_
          have hz0 : zgl (zaw m2 h2) (zaw m1 h1) m2.toNat i.toNat q.toNat (zaw m1 h1 i.toNat) := .init hI8
          rw [eati] at hz0
          have hz1 := y10z _ _ _ hz0
          rw [← eati] at hz1 y10w y10u
          have hz4 : zaw m2 h2 m2.toNat ≠ zaw m1 h1 i.toNat := by rw [eati, (zaw_at (by omega)).trans (if_neg (by omega))]; omega
          have hz2 := zgl.done hz1 hz4 y10w
          have hz3 := congrArg Int.toNat y10u
          rw [Int.toNat_natCast] at hz3
          rw [← hz3] at hz2
          have hz5 := zfo.yes (f' := (zf p1 (k1 : Int).toNat ((i + 1) - m2))) hI2 hz2 (by omega) (show (i + 1) - m2 = _ by omega) (by unfold zf; rw [if_pos rfl]) (fun j hj => by unfold zf; rw [if_neg hj])
          exact ih _ (by omega) (zf p1 (k1 : Int).toNat ((i + 1) - m2)) (k1 + 1) y10 (i + 1) ⟨zpl_zf hI1 (by omega), by rw [show (i + 1).toNat = i.toNat + 1 by omega]; exact hz5, by omega, by omega, by omega, by omega, by rw [show (i + 1).toNat = i.toNat + 1 by omega]; exact hz2⟩ rfl
    exact loop _ p0 k0 0 0 ⟨hJ1, hJ2, by omega, by omega, by omega, by omega, zgm_0⟩ rfl
  refine zr_iload_n X 19 0 dX3_seek_18 rfl rfl ?_
  refine zr_if_ne X 27 22 dX3_seek_19 rfl rfl (by omega) (fun bq15 => ?_) (fun bq15 => ?_)
  · refine zr_sub [0, 3, 2, 1] [(3, .int (zI (m2))), (2, .ref o2), (1, .ref o1), (0, .ref k)] rfl ?_
    refine zr_view (V' := (zu (zu (zu V ga ta (za Γ.2.1 0 81 gf4)) pl tp (za Γ.2.1 0 81 pf)) k tk (.inr (5, [.ref bo, .ref pl, .int (zI (0))])))) (by
        funext z
        simp only [zu]
        by_cases e0 : z = ga
        · subst e0; simp [hpl, hgp, Ne.symm hgp, hkg, Ne.symm hkg, hkp, Ne.symm hkp, Int.add_assoc]
        by_cases e1 : z = pl
        · subst e1; simp [hpl, hgp, Ne.symm hgp, hkg, Ne.symm hkg, hkp, Ne.symm hkp, Int.add_assoc]
        by_cases e2 : z = k
        · subst e2; simp [hpl, hgp, Ne.symm hgp, hkg, Ne.symm hkg, hkp, Ne.symm hkp, Int.add_assoc]
        simp [e0, e1, e2]) ?_
    have hm20 : 0 + 1 - m2.toNat = 0 := by omega
    exact join pf 0 ⟨hpf, by rw [hm20]; exact zfo_0⟩
  · refine zr_aload_n X 23 1 dX3_seek_22 rfl rfl ?_
    refine zr_iconst X 24 dX3_seek_23 rfl ?_
    refine zr_callV (kc' := 0) (ks' := 0) X 27 1 (m_X3_note l Γ (x := 0) ((zu_ne (zne_oa hk hga)).trans (zu_eq _ _ _ _)) ((zu_ne (Ne.symm hgp)).trans ((zu_ne (Ne.symm (zne_oa hk hpl))).trans hpl)) (by omega)) gX3_seek_X3_note rfl (by decide +kernel) rfl (by decide) ((zu_ne (zne_oa hk hga)).trans (zu_eq _ _ _ _)) rfl rfl (Nat.le_of_ble_eq_true rfl) dX3_seek_24 rfl (by omega) (by omega) (fun rv16 V17 hp18 => ?_)
    obtain ⟨hp18e, hp18v⟩ := hp18
    rw [hp18e, hp18v]
    show zG C (zu (zu (zu (zu V k tk (.inr (5, [.ref bo, .ref pl, .int (zI (0))]))) ga ta (za Γ.2.1 0 81 gf4)) pl tp (za Γ.2.1 0 81 (zf pf (0 : Int).toNat (0)))) k tk (.inr (5, [.ref bo, .ref pl, .int (zI (0 + 1))]))) 0 0 27 [(3, .int (zI (m2))), (0, .ref k), (1, .ref o1), (2, .ref o2)] []
    refine zr_sub [0, 3, 2, 1] [(3, .int (zI (m2))), (2, .ref o2), (1, .ref o1), (0, .ref k)] rfl ?_
    refine zr_view (V' := (zu (zu (zu V ga ta (za Γ.2.1 0 81 gf4)) pl tp (za Γ.2.1 0 81 (zf pf (0 : Int).toNat (0)))) k tk (.inr (5, [.ref bo, .ref pl, .int (zI (0 + 1))])))) (by
        funext z
        simp only [zu]
        by_cases e0 : z = ga
        · subst e0; simp [hpl, hgp, Ne.symm hgp, hkg, Ne.symm hkg, hkp, Ne.symm hkp, Int.add_assoc]
        by_cases e1 : z = pl
        · subst e1; simp [hpl, hgp, Ne.symm hgp, hkg, Ne.symm hkg, hkp, Ne.symm hkp, Int.add_assoc]
        by_cases e2 : z = k
        · subst e2; simp [hpl, hgp, Ne.symm hgp, hkg, Ne.symm hkg, hkp, Ne.symm hkp, Int.add_assoc]
        simp [e0, e1, e2]) ?_
    have hm20 : m2 = 0 := by omega
    exact join (zf pf (0 : Int).toNat (0)) (0 + 1) ⟨zpl_zf hpf (by omega), by rw [hm20]; exact zfo.one (by unfold zf; rw [if_pos (by omega)]) (fun j hj => by unfold zf; rw [if_neg (by omega)])⟩
end
section
/-! Sashwords.matches, class Pipe -/
set_option maxRecDepth 100000 in
set_option maxHeartbeats 4000000 in
theorem m_X6_matches (l : Launch) (Γ : zGam) {V : zV} {o1 r1 o2 r2 : Nat} {m1 m2 fr mn ap : Int} {h1 h2 : Int → Int} (hT1 : zTx Γ V o1 r1 m1 h1) (hT2 : zTx Γ V o2 r2 m2 h2) (hfr : 0 ≤ fr ∧ fr ≤ 1000) (hmn : 0 ≤ mn ∧ mn ≤ 1000) (hap : 0 ≤ ap ∧ ap ≤ 1000) : zM l Γ 4 yX6_matches wsX6_matches 0 0 V [.ref o1, .int (zI (fr)), .int (zI (mn)), .ref o2, .int (zI (ap))] (fun rv V' => (∃ x : Int, rv = some (.int (zI x)) ∧ (x = 0 ∨ x = 1)) ∧ V' = V) := by
  have hTr1 := hT1.rg
  have hTr2 := hT2.rg
  refine zM_of (cc := cX6_matches) (nL := 6) (ret := (some .boolean)) (own := RX6) (by decide +kernel) rfl rfl (Nat.le_of_ble_eq_true rfl) (fun C X hi0 => ?_)
  show zG C V 0 0 0 [(0, .ref o1), (1, .int (zI (fr))), (2, .int (zI (mn))), (3, .ref o2), (4, .int (zI (ap)))] []
  refine zr_iload_n X 1 1 dX6_matches_0 rfl rfl ?_
  refine zr_iload_n X 2 2 dX6_matches_1 rfl rfl ?_
  refine zr_iadd X 3 dX6_matches_2 rfl ?_
  refine zr_aload_n X 4 0 dX6_matches_3 rfl rfl ?_
  refine zr_txSize X 7 hT1 gX6_matches_X5_size_u165X5 gX6_matches_X2_size_u165X2 (by decide) (Nat.le_of_ble_eq_true rfl) dX6_matches_4 rfl ?_
  refine zr_icmp_gt X 21 10 dX6_matches_7 rfl rfl (by omega) (by omega) (fun bq1 => ?_) (fun bq1 => ?_)
  · refine zr_iconst X 22 dX6_matches_21 rfl ?_
    exact zr_zret X rfl rfl ⟨⟨0, rfl, by omega⟩, rfl⟩ dX6_matches_22
  · refine zr_iload X 12 4 dX6_matches_10 rfl rfl ?_
    refine zr_iload_n X 13 2 dX6_matches_12 rfl rfl ?_
    refine zr_iadd X 14 dX6_matches_13 rfl ?_
    refine zr_aload_n X 15 3 dX6_matches_14 rfl rfl ?_
    refine zr_txSize X 18 hT2 gX6_matches_X5_size_u165X5 gX6_matches_X2_size_u165X2 (by decide) (Nat.le_of_ble_eq_true rfl) dX6_matches_15 rfl ?_
    refine zr_icmp_le X 23 21 dX6_matches_18 rfl rfl (by omega) (by omega) (fun bq2 => ?_) (fun bq2 => ?_)
    · refine zr_iconst X 24 dX6_matches_23 rfl ?_
      refine zr_istore X 26 [(5, .int (zI (0))), (0, .ref o1), (1, .int (zI (fr))), (2, .int (zI (mn))), (3, .ref o2), (4, .int (zI (ap)))] dX6_matches_24 rfl (by decide) rfl ?_
      refine zr_sub [0, 5, 4, 3, 2, 1] [(5, .int (zI (0))), (4, .int (zI (ap))), (3, .ref o2), (2, .int (zI (mn))), (1, .int (zI (fr))), (0, .ref o1)] rfl ?_
      have loop : ∀ (N : Nat) (k : Int), 0 ≤ k ∧ k ≤ mn → (mn - k).toNat = N → zG C V 0 0 26 [(5, .int (zI (k))), (4, .int (zI (ap))), (3, .ref o2), (2, .int (zI (mn))), (1, .int (zI (fr))), (0, .ref o1)] [] := by
        intro N
        induction N using Nat.strongRecOn with
        | _ N ih =>
        intro k hI hN
        obtain ⟨hI1, hI2⟩ := id hI
        refine zr_iload X 28 0 dX6_matches_26 rfl rfl ?_
        refine zr_iload_n X 29 3 dX6_matches_28 rfl rfl ?_
        refine zr_icmp_ge X 60 32 dX6_matches_29 rfl rfl (by omega) (by omega) (fun bq3 => ?_) (fun bq3 => ?_)
        · refine zr_iconst X 61 dX6_matches_60 rfl ?_
          exact zr_zret X rfl rfl ⟨⟨1, rfl, by omega⟩, rfl⟩ dX6_matches_61
        · refine zr_aload_n X 33 5 dX6_matches_32 rfl rfl ?_
          refine zr_iload_n X 34 4 dX6_matches_33 rfl rfl ?_
          refine zr_iload X 36 0 dX6_matches_34 rfl rfl ?_
          refine zr_iadd X 37 dX6_matches_36 rfl ?_
          refine zr_txAt X 40 hT1 (by omega) gX6_matches_X5_at_u334X5 gX6_matches_X2_at_u334X2 (by decide) (Nat.le_of_ble_eq_true rfl) dX6_matches_37 rfl ?_
          rw [if_pos (show 0 ≤ (fr + k) ∧ (fr + k) < m1 by omega)]
          have hx4 := hTr1.2.2 (fr + k)
          show zG C V 0 0 40 [(5, .int (zI (k))), (4, .int (zI (ap))), (3, .ref o2), (2, .int (zI (mn))), (1, .int (zI (fr))), (0, .ref o1)] [.int (zI (h1 (fr + k)))]
          refine zr_aload_n X 41 2 dX6_matches_40 rfl rfl ?_
          refine zr_iload X 43 1 dX6_matches_41 rfl rfl ?_
          refine zr_iload X 45 0 dX6_matches_43 rfl rfl ?_
          refine zr_iadd X 46 dX6_matches_45 rfl ?_
          refine zr_txAt X 49 hT2 (by omega) gX6_matches_X5_at_u334X5 gX6_matches_X2_at_u334X2 (by decide) (Nat.le_of_ble_eq_true rfl) dX6_matches_46 rfl ?_
          rw [if_pos (show 0 ≤ (ap + k) ∧ (ap + k) < m2 by omega)]
          have hx5 := hTr2.2.2 (ap + k)
          show zG C V 0 0 49 [(5, .int (zI (k))), (4, .int (zI (ap))), (3, .ref o2), (2, .int (zI (mn))), (1, .int (zI (fr))), (0, .ref o1)] [.int (zI (h2 (ap + k))), .int (zI (h1 (fr + k)))]
          refine zr_icmp_eq X 54 52 dX6_matches_49 rfl rfl (by omega) (by omega) (fun bq6 => ?_) (fun bq6 => ?_)
          · refine zr_iinc X 57 0 [(5, .int (zI (k + 1))), (4, .int (zI (ap))), (3, .ref o2), (2, .int (zI (mn))), (1, .int (zI (fr))), (0, .ref o1)] dX6_matches_54 rfl rfl (by decide) rfl ?_
            refine zr_goto X 26 dX6_matches_57 rfl ?_
            exact ih _ (by omega) (k + 1) ⟨by omega, by omega⟩ rfl
          · refine zr_iconst X 53 dX6_matches_52 rfl ?_
            exact zr_zret X rfl rfl ⟨⟨0, rfl, by omega⟩, rfl⟩ dX6_matches_53
      exact loop _ 0 ⟨by omega, by omega⟩ rfl
    · refine zr_iconst X 22 dX6_matches_21 rfl ?_
      exact zr_zret X rfl rfl ⟨⟨0, rfl, by omega⟩, rfl⟩ dX6_matches_22
theorem zif01 (p : Prop) [Decidable p] : ∃ x : Int, (if p then 1 else 0 : Int) = x ∧ ((x = 1 ∧ p) ∨ (x = 0 ∧ ¬ p)) := by
  by_cases h : p
  · exact ⟨1, if_pos h, Or.inl ⟨rfl, h⟩⟩
  · exact ⟨0, if_neg h, Or.inr ⟨rfl, h⟩⟩
set_option maxRecDepth 100000 in
set_option maxHeartbeats 4000000 in
theorem m_X1_makeNew (l : Launch) (Γ : zGam) {V : zV} {li ho se ca gh gs gc tl th ts tc uh us uc : Nat} {wd lh ls lc : Int} {fh fs fc : Nat → Int} {w : Int} (hl : V li = some (tl, .inr (3, [.ref ho, .ref se, .ref ca, .int (zI wd)]))) (hh : V ho = some (th, .inr (4, [.ref gh, .int (zI lh)]))) (hs : V se = some (ts, .inr (4, [.ref gs, .int (zI ls)]))) (hc : V ca = some (tc, .inr (4, [.ref gc, .int (zI lc)]))) (ah : V gh = some (uh, za Γ.2.1 1 8 fh)) (as : V gs = some (us, za Γ.2.1 1 160 fs)) (ac : V gc = some (uc, za Γ.2.1 1 160 fc)) (hb : 0 ≤ wd ∧ wd ≤ 8 ∧ 0 ≤ lh ∧ lh ≤ 8 ∧ 0 ≤ ls ∧ ls ≤ 160 ∧ 0 ≤ lc ∧ lc ≤ 160) (hz : zc fh ∧ zc fs ∧ zc fc) (hne : ho ≠ se ∧ ho ≠ ca ∧ se ≠ ca ∧ gh ≠ gs ∧ gh ≠ gc ∧ gs ≠ gc) : zM l Γ 1 yX1_makeNew wsX1_makeNew 0 0 V [.ref li, .int (zI (w))] (fun rv V' => rv = none ∧ V' = zu (zu (zu (zu V li tl (.inr (3, [.ref ho, .ref se, .ref ca, .int (zI (w))]))) ho th (.inr (4, [.ref gh, .int (zI (0))]))) se ts (.inr (4, [.ref gs, .int (zI (0))]))) ca tc (.inr (4, [.ref gc, .int (zI (0))]))) := by
  have w0 : Cond.fieldLink RX1 26 "Sashwords$Pipe" "width" "I" ∈ wsX1_makeNew := by decide +kernel
  have iX1 : ∀ w ∈ u_ws RX1 TX1 4, w ∈ wsX1_makeNew := by decide +kernel
  have w2 : Cond.fieldLink RX1 14 "Sashwords$Pipe" "holds" "LSashwords$Script;" ∈ wsX1_makeNew := by decide +kernel
  have w3 : Cond.fieldLink RX1 20 "Sashwords$Pipe" "sent" "LSashwords$Script;" ∈ wsX1_makeNew := by decide +kernel
  have w4 : Cond.fieldLink RX1 23 "Sashwords$Pipe" "came" "LSashwords$Script;" ∈ wsX1_makeNew := by decide +kernel
  refine zM_of (cc := cX1_makeNew) (nL := 2) (ret := none) (own := RX1) (by decide +kernel) rfl rfl (Nat.le_of_ble_eq_true rfl) (fun C X hi0 => ?_)
  show zG C V 0 0 0 [(0, .ref li), (1, .int (zI (w)))] []
  refine zr_aload_n X 1 0 dX1_makeNew_0 rfl rfl ?_
  refine zr_iload_n X 2 1 dX1_makeNew_1 rfl rfl ?_
  refine zr_put X 5 3 3 [.ref ho, .ref se, .ref ca, .int (zI (w))] tyX1 hl rfl iX1 tyX1_ok nmX1 (by decide) w0 rfl rfl rfl rfl (Nat.le_of_ble_eq_true rfl) rfl dX1_makeNew_2 rfl ?_
  refine zr_aload_n X 6 0 dX1_makeNew_5 rfl rfl ?_
  refine zr_get X 9 3 0 (zu_eq _ _ _ _) rfl iX1 (by decide) w2 rfl rfl dX1_makeNew_6 rfl ?_
  refine zr_callV (kc' := 0) (ks' := 0) X 12 0 (m_X2_clear l Γ ((zu_ne (zne_oo hh hl (by decide))).trans hh)) gX1_makeNew_X2_clear rfl (by decide +kernel) rfl (by decide) ((zu_ne (zne_oo hh hl (by decide))).trans hh) rfl rfl (Nat.le_of_ble_eq_true rfl) dX1_makeNew_9 rfl (by omega) (by omega) (fun rv1 V2 hp3 => ?_)
  rw [hp3.1, hp3.2]
  show zG C (zu (zu V li tl (.inr (3, [.ref ho, .ref se, .ref ca, .int (zI (w))]))) ho th (.inr (4, [.ref gh, .int (zI (0))]))) 0 0 12 [(0, .ref li), (1, .int (zI (w)))] []
  refine zr_aload_n X 13 0 dX1_makeNew_12 rfl rfl ?_
  refine zr_get X 16 3 1 ((zu_ne (zne_oo hl hh (by decide))).trans (zu_eq _ _ _ _)) rfl iX1 (by decide) w3 rfl rfl dX1_makeNew_13 rfl ?_
  refine zr_callV (kc' := 0) (ks' := 0) X 19 0 (m_X2_clear l Γ ((zu_ne (Ne.symm hne.1)).trans ((zu_ne (zne_oo hs hl (by decide))).trans hs))) gX1_makeNew_X2_clear rfl (by decide +kernel) rfl (by decide) ((zu_ne (Ne.symm hne.1)).trans ((zu_ne (zne_oo hs hl (by decide))).trans hs)) rfl rfl (Nat.le_of_ble_eq_true rfl) dX1_makeNew_16 rfl (by omega) (by omega) (fun rv4 V5 hp6 => ?_)
  rw [hp6.1, hp6.2]
  show zG C (zu (zu (zu V li tl (.inr (3, [.ref ho, .ref se, .ref ca, .int (zI (w))]))) ho th (.inr (4, [.ref gh, .int (zI (0))]))) se ts (.inr (4, [.ref gs, .int (zI (0))]))) 0 0 19 [(0, .ref li), (1, .int (zI (w)))] []
  refine zr_aload_n X 20 0 dX1_makeNew_19 rfl rfl ?_
  refine zr_get X 23 3 2 ((zu_ne (zne_oo hl hs (by decide))).trans ((zu_ne (zne_oo hl hh (by decide))).trans (zu_eq _ _ _ _))) rfl iX1 (by decide) w4 rfl rfl dX1_makeNew_20 rfl ?_
  refine zr_callV (kc' := 0) (ks' := 0) X 26 0 (m_X2_clear l Γ ((zu_ne (Ne.symm hne.2.2.1)).trans ((zu_ne (Ne.symm hne.2.1)).trans ((zu_ne (zne_oo hc hl (by decide))).trans hc)))) gX1_makeNew_X2_clear rfl (by decide +kernel) rfl (by decide) ((zu_ne (Ne.symm hne.2.2.1)).trans ((zu_ne (Ne.symm hne.2.1)).trans ((zu_ne (zne_oo hc hl (by decide))).trans hc))) rfl rfl (Nat.le_of_ble_eq_true rfl) dX1_makeNew_23 rfl (by omega) (by omega) (fun rv7 V8 hp9 => ?_)
  rw [hp9.1, hp9.2]
  show zG C (zu (zu (zu (zu V li tl (.inr (3, [.ref ho, .ref se, .ref ca, .int (zI (w))]))) ho th (.inr (4, [.ref gh, .int (zI (0))]))) se ts (.inr (4, [.ref gs, .int (zI (0))]))) ca tc (.inr (4, [.ref gc, .int (zI (0))]))) 0 0 26 [(0, .ref li), (1, .int (zI (w)))] []
  exact zr_vret X rfl ⟨rfl, rfl⟩ dX1_makeNew_26
set_option maxRecDepth 100000 in
set_option maxHeartbeats 4000000 in
theorem m_X1_takeIn_y (l : Launch) (Γ : zGam) {V : zV} {li ho se ca gh gs gc tl th ts tc uh us uc : Nat} {wd lh ls lc : Int} {fh fs fc : Nat → Int} {x : Int} (hl : V li = some (tl, .inr (3, [.ref ho, .ref se, .ref ca, .int (zI wd)]))) (hh : V ho = some (th, .inr (4, [.ref gh, .int (zI lh)]))) (hs : V se = some (ts, .inr (4, [.ref gs, .int (zI ls)]))) (hc : V ca = some (tc, .inr (4, [.ref gc, .int (zI lc)]))) (ah : V gh = some (uh, za Γ.2.1 1 8 fh)) (as : V gs = some (us, za Γ.2.1 1 160 fs)) (ac : V gc = some (uc, za Γ.2.1 1 160 fc)) (hb : 0 ≤ wd ∧ wd ≤ 8 ∧ 0 ≤ lh ∧ lh ≤ 8 ∧ 0 ≤ ls ∧ ls ≤ 160 ∧ 0 ≤ lc ∧ lc ≤ 160) (hz : zc fh ∧ zc fs ∧ zc fc) (hne : ho ≠ se ∧ ho ≠ ca ∧ se ≠ ca ∧ gh ≠ gs ∧ gh ≠ gc ∧ gs ≠ gc) (hx : 0 ≤ x ∧ x ≤ 255) (hy : lh < wd ∧ ls < 160) : zM l Γ 2 yX1_takeIn wsX1_takeIn 0 0 V [.ref li, .int (zI (x))] (fun rv V' => rv = some (.int (zI 1)) ∧ V' = zu (zu (zu (zu V gh uh (za Γ.2.1 1 8 (zf fh lh.toNat x))) ho th (.inr (4, [.ref gh, .int (zI (lh + 1))]))) gs us (za Γ.2.1 1 160 (zf fs ls.toNat x))) se ts (.inr (4, [.ref gs, .int (zI (ls + 1))]))) := by
  have w0 : Cond.fieldLink RX1 14 "Sashwords$Pipe" "holds" "LSashwords$Script;" ∈ wsX1_takeIn := by decide +kernel
  have iX1 : ∀ w ∈ u_ws RX1 TX1 4, w ∈ wsX1_takeIn := by decide +kernel
  have w2 : Cond.fieldLink RX1 26 "Sashwords$Pipe" "width" "I" ∈ wsX1_takeIn := by decide +kernel
  have w3 : Cond.fieldLink RX1 20 "Sashwords$Pipe" "sent" "LSashwords$Script;" ∈ wsX1_takeIn := by decide +kernel
  refine zM_of (cc := cX1_takeIn) (nL := 2) (ret := (some .boolean)) (own := RX1) (by decide +kernel) rfl rfl (Nat.le_of_ble_eq_true rfl) (fun C X hi0 => ?_)
  show zG C V 0 0 0 [(0, .ref li), (1, .int (zI (x)))] []
  refine zr_aload_n X 1 0 dX1_takeIn_0 rfl rfl ?_
  refine zr_get X 4 3 0 hl rfl iX1 (by decide) w0 rfl rfl dX1_takeIn_1 rfl ?_
  refine zr_callV (kc' := 0) (ks' := 0) X 7 0 (m_X2_size l Γ hh) gX1_takeIn_X2_size rfl (by decide +kernel) rfl (by decide) hh rfl rfl (Nat.le_of_ble_eq_true rfl) dX1_takeIn_4 rfl (by omega) (by omega) (fun rv1 V2 hp3 => ?_)
  rw [hp3.1, hp3.2]
  show zG C V 0 0 7 [(0, .ref li), (1, .int (zI (x)))] [.int (zI (lh))]
  refine zr_aload_n X 8 0 dX1_takeIn_7 rfl rfl ?_
  refine zr_get X 11 3 3 hl rfl iX1 (by decide) w2 rfl rfl dX1_takeIn_8 rfl ?_
  refine zr_icmp_ge X 24 14 dX1_takeIn_11 rfl rfl (by omega) (by omega) (fun bq4 => ?_) (fun bq4 => ?_)
  · exfalso
    omega
  · refine zr_aload_n X 15 0 dX1_takeIn_14 rfl rfl ?_
    refine zr_get X 18 3 1 hl rfl iX1 (by decide) w3 rfl rfl dX1_takeIn_15 rfl ?_
    refine zr_callV (kc' := 0) (ks' := 0) X 21 0 (m_X2_isFull l Γ hs as (by omega)) gX1_takeIn_X2_isFull rfl (by decide +kernel) rfl (by decide) hs rfl rfl (Nat.le_of_ble_eq_true rfl) dX1_takeIn_18 rfl (by omega) (by omega) (fun rv5 V6 hp7 => ?_)
    rw [hp7.1, hp7.2]
    obtain ⟨x8, hx8, hx8a⟩ := zif01 ((160 : Nat) ≤ ls)
    rw [hx8]
    show zG C V 0 0 21 [(0, .ref li), (1, .int (zI (x)))] [.int (zI (x8))]
    refine zr_if_eq X 26 24 dX1_takeIn_21 rfl rfl (by omega) (fun bq9 => ?_) (fun bq9 => ?_)
    · refine zr_aload_n X 27 0 dX1_takeIn_26 rfl rfl ?_
      refine zr_get X 30 3 0 hl rfl iX1 (by decide) w0 rfl rfl dX1_takeIn_27 rfl ?_
      refine zr_iload_n X 31 1 dX1_takeIn_30 rfl rfl ?_
      refine zr_callV (kc' := 0) (ks' := 0) X 34 1 (m_X2_add l Γ (x := x) hh ah (by omega) hx (by omega)) gX1_takeIn_X2_add rfl (by decide +kernel) rfl (by decide) hh rfl rfl (Nat.le_of_ble_eq_true rfl) dX1_takeIn_31 rfl (by omega) (by omega) (fun rv10 V11 hp12 => ?_)
      rw [hp12.1, hp12.2]
      show zG C (zu (zu V gh uh (za Γ.2.1 1 8 (zf fh (lh).toNat x))) ho th (.inr (4, [.ref gh, .int (zI (lh + 1))]))) 0 0 34 [(0, .ref li), (1, .int (zI (x)))] []
      refine zr_aload_n X 35 0 dX1_takeIn_34 rfl rfl ?_
      refine zr_get X 38 3 1 ((zu_ne (zne_oo hl hh (by decide))).trans ((zu_ne (zne_oa hl ah)).trans hl)) rfl iX1 (by decide) w3 rfl rfl dX1_takeIn_35 rfl ?_
      refine zr_iload_n X 39 1 dX1_takeIn_38 rfl rfl ?_
      refine zr_callV (kc' := 0) (ks' := 0) X 42 1 (m_X2_add l Γ (x := x) ((zu_ne (Ne.symm hne.1)).trans ((zu_ne (zne_oa hs ah)).trans hs)) ((zu_ne (Ne.symm (zne_oa hh as))).trans ((zu_ne (Ne.symm hne.2.2.2.1)).trans as)) (by omega) hx (by omega)) gX1_takeIn_X2_add rfl (by decide +kernel) rfl (by decide) ((zu_ne (Ne.symm hne.1)).trans ((zu_ne (zne_oa hs ah)).trans hs)) rfl rfl (Nat.le_of_ble_eq_true rfl) dX1_takeIn_39 rfl (by omega) (by omega) (fun rv13 V14 hp15 => ?_)
      rw [hp15.1, hp15.2]
      show zG C (zu (zu (zu (zu V gh uh (za Γ.2.1 1 8 (zf fh (lh).toNat x))) ho th (.inr (4, [.ref gh, .int (zI (lh + 1))]))) gs us (za Γ.2.1 1 160 (zf fs (ls).toNat x))) se ts (.inr (4, [.ref gs, .int (zI (ls + 1))]))) 0 0 42 [(0, .ref li), (1, .int (zI (x)))] []
      refine zr_iconst X 43 dX1_takeIn_42 rfl ?_
      exact zr_zret X rfl rfl ⟨rfl, rfl⟩ dX1_takeIn_43
    · exfalso
      omega
set_option maxRecDepth 100000 in
set_option maxHeartbeats 4000000 in
theorem m_X1_takeIn_n (l : Launch) (Γ : zGam) {V : zV} {li ho se ca gh gs gc tl th ts tc uh us uc : Nat} {wd lh ls lc : Int} {fh fs fc : Nat → Int} {x : Int} (hl : V li = some (tl, .inr (3, [.ref ho, .ref se, .ref ca, .int (zI wd)]))) (hh : V ho = some (th, .inr (4, [.ref gh, .int (zI lh)]))) (hs : V se = some (ts, .inr (4, [.ref gs, .int (zI ls)]))) (hc : V ca = some (tc, .inr (4, [.ref gc, .int (zI lc)]))) (ah : V gh = some (uh, za Γ.2.1 1 8 fh)) (as : V gs = some (us, za Γ.2.1 1 160 fs)) (ac : V gc = some (uc, za Γ.2.1 1 160 fc)) (hb : 0 ≤ wd ∧ wd ≤ 8 ∧ 0 ≤ lh ∧ lh ≤ 8 ∧ 0 ≤ ls ∧ ls ≤ 160 ∧ 0 ≤ lc ∧ lc ≤ 160) (hz : zc fh ∧ zc fs ∧ zc fc) (hne : ho ≠ se ∧ ho ≠ ca ∧ se ≠ ca ∧ gh ≠ gs ∧ gh ≠ gc ∧ gs ≠ gc) (hy : wd ≤ lh ∨ ls = 160) : zM l Γ 2 yX1_takeIn wsX1_takeIn 0 0 V [.ref li, .int (zI (x))] (fun rv V' => rv = some (.int (zI 0)) ∧ V' = V) := by
  have w0 : Cond.fieldLink RX1 14 "Sashwords$Pipe" "holds" "LSashwords$Script;" ∈ wsX1_takeIn := by decide +kernel
  have iX1 : ∀ w ∈ u_ws RX1 TX1 4, w ∈ wsX1_takeIn := by decide +kernel
  have w2 : Cond.fieldLink RX1 26 "Sashwords$Pipe" "width" "I" ∈ wsX1_takeIn := by decide +kernel
  have w3 : Cond.fieldLink RX1 20 "Sashwords$Pipe" "sent" "LSashwords$Script;" ∈ wsX1_takeIn := by decide +kernel
  refine zM_of (cc := cX1_takeIn) (nL := 2) (ret := (some .boolean)) (own := RX1) (by decide +kernel) rfl rfl (Nat.le_of_ble_eq_true rfl) (fun C X hi0 => ?_)
  show zG C V 0 0 0 [(0, .ref li), (1, .int (zI (x)))] []
  refine zr_aload_n X 1 0 dX1_takeIn_0 rfl rfl ?_
  refine zr_get X 4 3 0 hl rfl iX1 (by decide) w0 rfl rfl dX1_takeIn_1 rfl ?_
  refine zr_callV (kc' := 0) (ks' := 0) X 7 0 (m_X2_size l Γ hh) gX1_takeIn_X2_size rfl (by decide +kernel) rfl (by decide) hh rfl rfl (Nat.le_of_ble_eq_true rfl) dX1_takeIn_4 rfl (by omega) (by omega) (fun rv1 V2 hp3 => ?_)
  rw [hp3.1, hp3.2]
  show zG C V 0 0 7 [(0, .ref li), (1, .int (zI (x)))] [.int (zI (lh))]
  refine zr_aload_n X 8 0 dX1_takeIn_7 rfl rfl ?_
  refine zr_get X 11 3 3 hl rfl iX1 (by decide) w2 rfl rfl dX1_takeIn_8 rfl ?_
  refine zr_icmp_ge X 24 14 dX1_takeIn_11 rfl rfl (by omega) (by omega) (fun bq4 => ?_) (fun bq4 => ?_)
  · refine zr_iconst X 25 dX1_takeIn_24 rfl ?_
    exact zr_zret X rfl rfl ⟨rfl, rfl⟩ dX1_takeIn_25
  · refine zr_aload_n X 15 0 dX1_takeIn_14 rfl rfl ?_
    refine zr_get X 18 3 1 hl rfl iX1 (by decide) w3 rfl rfl dX1_takeIn_15 rfl ?_
    refine zr_callV (kc' := 0) (ks' := 0) X 21 0 (m_X2_isFull l Γ hs as (by omega)) gX1_takeIn_X2_isFull rfl (by decide +kernel) rfl (by decide) hs rfl rfl (Nat.le_of_ble_eq_true rfl) dX1_takeIn_18 rfl (by omega) (by omega) (fun rv5 V6 hp7 => ?_)
    rw [hp7.1, hp7.2]
    obtain ⟨x8, hx8, hx8a⟩ := zif01 ((160 : Nat) ≤ ls)
    rw [hx8]
    show zG C V 0 0 21 [(0, .ref li), (1, .int (zI (x)))] [.int (zI (x8))]
    refine zr_if_eq X 26 24 dX1_takeIn_21 rfl rfl (by omega) (fun bq9 => ?_) (fun bq9 => ?_)
    · exfalso
      omega
    · refine zr_iconst X 25 dX1_takeIn_24 rfl ?_
      exact zr_zret X rfl rfl ⟨rfl, rfl⟩ dX1_takeIn_25
set_option maxRecDepth 100000 in
set_option maxHeartbeats 4000000 in
theorem m_X1_giveOut (l : Launch) (Γ : zGam) {V : zV} {li ho se ca gh gs gc tl th ts tc uh us uc : Nat} {wd lh ls lc : Int} {fh fs fc : Nat → Int} (hl : V li = some (tl, .inr (3, [.ref ho, .ref se, .ref ca, .int (zI wd)]))) (hh : V ho = some (th, .inr (4, [.ref gh, .int (zI lh)]))) (hs : V se = some (ts, .inr (4, [.ref gs, .int (zI ls)]))) (hc : V ca = some (tc, .inr (4, [.ref gc, .int (zI lc)]))) (ah : V gh = some (uh, za Γ.2.1 1 8 fh)) (as : V gs = some (us, za Γ.2.1 1 160 fs)) (ac : V gc = some (uc, za Γ.2.1 1 160 fc)) (hb : 0 ≤ wd ∧ wd ≤ 8 ∧ 0 ≤ lh ∧ lh ≤ 8 ∧ 0 ≤ ls ∧ ls ≤ 160 ∧ 0 ≤ lc ∧ lc ≤ 160) (hz : zc fh ∧ zc fs ∧ zc fc) (hne : ho ≠ se ∧ ho ≠ ca ∧ se ≠ ca ∧ gh ≠ gs ∧ gh ≠ gc ∧ gs ≠ gc) (hy : 0 < lh ∧ lc < 160) : zM l Γ 4 yX1_giveOut wsX1_giveOut 0 0 V [.ref li] (fun rv V' => rv = some (.int (zI (fh 0))) ∧ ∃ f', zc f' ∧ V' = zu (zu (zu (zu V gh uh (za Γ.2.1 1 8 f')) ho th (.inr (4, [.ref gh, .int (zI (lh - 1))]))) gc uc (za Γ.2.1 1 160 (zf fc lc.toNat (fh 0)))) ca tc (.inr (4, [.ref gc, .int (zI (lc + 1))]))) := by
  have w0 : Cond.fieldLink RX1 14 "Sashwords$Pipe" "holds" "LSashwords$Script;" ∈ wsX1_giveOut := by decide +kernel
  have iX1 : ∀ w ∈ u_ws RX1 TX1 4, w ∈ wsX1_giveOut := by decide +kernel
  have w2 : Cond.fieldLink RX1 23 "Sashwords$Pipe" "came" "LSashwords$Script;" ∈ wsX1_giveOut := by decide +kernel
  refine zM_of (cc := cX1_giveOut) (nL := 2) (ret := (some .int)) (own := RX1) (by decide +kernel) rfl rfl (Nat.le_of_ble_eq_true rfl) (fun C X hi0 => ?_)
  show zG C V 0 0 0 [(0, .ref li)] []
  refine zr_aload_n X 1 0 dX1_giveOut_0 rfl rfl ?_
  refine zr_get X 4 3 0 hl rfl iX1 (by decide) w0 rfl rfl dX1_giveOut_1 rfl ?_
  refine zr_callV (kc' := 0) (ks' := 0) X 7 0 (m_X2_takeFirst l Γ hh ah (by omega) hz.1 (by omega)) gX1_giveOut_X2_takeFirst rfl (by decide +kernel) rfl (by decide) hh rfl rfl (Nat.le_of_ble_eq_true rfl) dX1_giveOut_4 rfl (by omega) (by omega) (fun rv1 V2 hp3 => ?_)
  obtain ⟨f4e, f4, f4c, f4v⟩ := hp3
  rw [f4e, f4v]
  show zG C (zu (zu V gh uh (za Γ.2.1 1 8 f4)) ho th (.inr (4, [.ref gh, .int (zI (lh - 1))]))) 0 0 7 [(0, .ref li)] [.int (zI (fh 0))]
  refine zr_istore_n X 8 [(1, .int (zI (fh 0))), (0, .ref li)] dX1_giveOut_7 rfl (by decide) rfl ?_
  refine zr_aload_n X 9 1 dX1_giveOut_8 rfl rfl ?_
  refine zr_get X 12 3 2 ((zu_ne (zne_oo hl hh (by decide))).trans ((zu_ne (zne_oa hl ah)).trans hl)) rfl iX1 (by decide) w2 rfl rfl dX1_giveOut_9 rfl ?_
  refine zr_iload_n X 13 0 dX1_giveOut_12 rfl rfl ?_
  refine zr_callV (kc' := 0) (ks' := 0) X 16 1 (m_X2_add l Γ (x := fh 0) ((zu_ne (Ne.symm hne.2.1)).trans ((zu_ne (zne_oa hc ah)).trans hc)) ((zu_ne (Ne.symm (zne_oa hh ac))).trans ((zu_ne (Ne.symm hne.2.2.2.2.1)).trans ac)) (by omega) (hz.1 0) (by omega)) gX1_giveOut_X2_add rfl (by decide +kernel) rfl (by decide) ((zu_ne (Ne.symm hne.2.1)).trans ((zu_ne (zne_oa hc ah)).trans hc)) rfl rfl (Nat.le_of_ble_eq_true rfl) dX1_giveOut_13 rfl (by omega) (by omega) (fun rv5 V6 hp7 => ?_)
  rw [hp7.1, hp7.2]
  show zG C (zu (zu (zu (zu V gh uh (za Γ.2.1 1 8 f4)) ho th (.inr (4, [.ref gh, .int (zI (lh - 1))]))) gc uc (za Γ.2.1 1 160 (zf fc (lc).toNat (fh 0)))) ca tc (.inr (4, [.ref gc, .int (zI (lc + 1))]))) 0 0 16 [(1, .int (zI (fh 0))), (0, .ref li)] []
  refine zr_iload_n X 17 0 dX1_giveOut_16 rfl rfl ?_
  exact zr_iret X rfl ⟨rfl, f4, f4c, rfl⟩ dX1_giveOut_17
theorem zTx_s (l : Launch) (Γ : zGam) {V : zV} {b g tb tg n : Nat} {len : Int} {f : Nat → Int} (hb : V b = some (tb, .inr (4, [.ref g, .int (zI len)]))) (hg : V g = some (tg, za Γ.2.1 1 n f)) (hn : 0 ≤ len ∧ len ≤ n ∧ n ≤ 1000) (hc : zc f) : zTx Γ V b g len (fun k => f k.toNat) := Or.inr ⟨tb, tg, n, f, hb, hg, hn, hc, rfl⟩
theorem zTx_w (l : Launch) (Γ : zGam) {V : zV} {w r tg tr n : Nat} {st cap lim pos mk : Int} {f : Nat → Int} (hw : V w = some (tg, .inr (6, [.ref r, .int (zI st), .int (zI cap), .int (zI lim), .int (zI pos), .int (zI mk)]))) (hr : V r = some (tr, za Γ.2.1 1 n f)) (hb : zWb st cap lim pos mk n) (hc : zc f) : zTx Γ V w r (lim - pos) (fun k => f (st + pos + k).toNat) := Or.inl ⟨tg, tr, n, st, cap, lim, pos, mk, f, hw, hr, hb, hc, rfl, rfl⟩
set_option maxRecDepth 100000 in
set_option maxHeartbeats 4000000 in
theorem m_X1_isWhole (l : Launch) (Γ : zGam) {V : zV} {li ho se ca gh gs gc tl th ts tc uh us uc : Nat} {wd lh ls lc : Int} {fh fs fc : Nat → Int} (hl : V li = some (tl, .inr (3, [.ref ho, .ref se, .ref ca, .int (zI wd)]))) (hh : V ho = some (th, .inr (4, [.ref gh, .int (zI lh)]))) (hs : V se = some (ts, .inr (4, [.ref gs, .int (zI ls)]))) (hc : V ca = some (tc, .inr (4, [.ref gc, .int (zI lc)]))) (ah : V gh = some (uh, za Γ.2.1 1 8 fh)) (as : V gs = some (us, za Γ.2.1 1 160 fs)) (ac : V gc = some (uc, za Γ.2.1 1 160 fc)) (hb : 0 ≤ wd ∧ wd ≤ 8 ∧ 0 ≤ lh ∧ lh ≤ 8 ∧ 0 ≤ ls ∧ ls ≤ 160 ∧ 0 ≤ lc ∧ lc ≤ 160) (hz : zc fh ∧ zc fs ∧ zc fc) (hne : ho ≠ se ∧ ho ≠ ca ∧ se ≠ ca ∧ gh ≠ gs ∧ gh ≠ gc ∧ gs ≠ gc) : zM l Γ 5 yX1_isWhole wsX1_isWhole 0 0 V [.ref li] (fun rv V' => (∃ x : Int, rv = some (.int (zI x)) ∧ (x = 0 ∨ x = 1)) ∧ V' = V) := by
  have w0 : Cond.fieldLink RX1 23 "Sashwords$Pipe" "came" "LSashwords$Script;" ∈ wsX1_isWhole := by decide +kernel
  have iX1 : ∀ w ∈ u_ws RX1 TX1 4, w ∈ wsX1_isWhole := by decide +kernel
  have w2 : Cond.fieldLink RX1 14 "Sashwords$Pipe" "holds" "LSashwords$Script;" ∈ wsX1_isWhole := by decide +kernel
  have w3 : Cond.fieldLink RX1 20 "Sashwords$Pipe" "sent" "LSashwords$Script;" ∈ wsX1_isWhole := by decide +kernel
  have w4 : Cond.initialized yX6_matches.cls ∈ wsX1_isWhole := by decide +kernel
  have w5 : Cond.static yX6_matches ∈ wsX1_isWhole := by decide +kernel
  refine zM_of (cc := cX1_isWhole) (nL := 1) (ret := (some .boolean)) (own := RX1) (by decide +kernel) rfl rfl (Nat.le_of_ble_eq_true rfl) (fun C X hi0 => ?_)
  show zG C V 0 0 0 [(0, .ref li)] []
  refine zr_aload_n X 1 0 dX1_isWhole_0 rfl rfl ?_
  refine zr_get X 4 3 2 hl rfl iX1 (by decide) w0 rfl rfl dX1_isWhole_1 rfl ?_
  refine zr_callV (kc' := 0) (ks' := 0) X 7 0 (m_X2_size l Γ hc) gX1_isWhole_X2_size rfl (by decide +kernel) rfl (by decide) hc rfl rfl (Nat.le_of_ble_eq_true rfl) dX1_isWhole_4 rfl (by omega) (by omega) (fun rv1 V2 hp3 => ?_)
  rw [hp3.1, hp3.2]
  show zG C V 0 0 7 [(0, .ref li)] [.int (zI (lc))]
  refine zr_aload_n X 8 0 dX1_isWhole_7 rfl rfl ?_
  refine zr_get X 11 3 0 hl rfl iX1 (by decide) w2 rfl rfl dX1_isWhole_8 rfl ?_
  refine zr_callV (kc' := 0) (ks' := 0) X 14 0 (m_X2_size l Γ hh) gX1_isWhole_X2_size rfl (by decide +kernel) rfl (by decide) hh rfl rfl (Nat.le_of_ble_eq_true rfl) dX1_isWhole_11 rfl (by omega) (by omega) (fun rv4 V5 hp6 => ?_)
  rw [hp6.1, hp6.2]
  show zG C V 0 0 14 [(0, .ref li)] [.int (zI (lh)), .int (zI (lc))]
  refine zr_iadd X 15 dX1_isWhole_14 rfl ?_
  refine zr_aload_n X 16 0 dX1_isWhole_15 rfl rfl ?_
  refine zr_get X 19 3 1 hl rfl iX1 (by decide) w3 rfl rfl dX1_isWhole_16 rfl ?_
  refine zr_callV (kc' := 0) (ks' := 0) X 22 0 (m_X2_size l Γ hs) gX1_isWhole_X2_size rfl (by decide +kernel) rfl (by decide) hs rfl rfl (Nat.le_of_ble_eq_true rfl) dX1_isWhole_19 rfl (by omega) (by omega) (fun rv7 V8 hp9 => ?_)
  rw [hp9.1, hp9.2]
  show zG C V 0 0 22 [(0, .ref li)] [.int (zI (ls)), .int (zI (lc + lh))]
  refine zr_icmp_ne X 81 25 dX1_isWhole_22 rfl rfl (by omega) (by omega) (fun bq10 => ?_) (fun bq10 => ?_)
  · refine zr_iconst X 82 dX1_isWhole_81 rfl ?_
    exact zr_zret X rfl rfl ⟨⟨0, rfl, by omega⟩, rfl⟩ dX1_isWhole_82
  · refine zr_aload_n X 26 0 dX1_isWhole_25 rfl rfl ?_
    refine zr_get X 29 3 2 hl rfl iX1 (by decide) w0 rfl rfl dX1_isWhole_26 rfl ?_
    refine zr_iconst X 30 dX1_isWhole_29 rfl ?_
    refine zr_aload_n X 31 0 dX1_isWhole_30 rfl rfl ?_
    refine zr_get X 34 3 2 hl rfl iX1 (by decide) w0 rfl rfl dX1_isWhole_31 rfl ?_
    refine zr_callV (kc' := 0) (ks' := 0) X 37 0 (m_X2_size l Γ hc) gX1_isWhole_X2_size rfl (by decide +kernel) rfl (by decide) hc rfl rfl (Nat.le_of_ble_eq_true rfl) dX1_isWhole_34 rfl (by omega) (by omega) (fun rv11 V12 hp13 => ?_)
    rw [hp13.1, hp13.2]
    show zG C V 0 0 37 [(0, .ref li)] [.int (zI (lc)), .int (zI (0)), .ref ca]
    refine zr_aload_n X 38 0 dX1_isWhole_37 rfl rfl ?_
    refine zr_get X 41 3 1 hl rfl iX1 (by decide) w3 rfl rfl dX1_isWhole_38 rfl ?_
    refine zr_iconst X 42 dX1_isWhole_41 rfl ?_
    refine zr_callSNst (kc' := 0) (ks' := 0) X 45 5 6 (m_X6_matches l Γ (fr := 0) (mn := lc) (ap := 0) (zTx_s l Γ hc ac (by omega) hz.2.2) (zTx_s l Γ hs as (by omega) hz.2.1) (by omega) (by omega) (by omega)) gX1_isWhole_X6_matches_n47 rfl w4 rfl w5 (by decide +kernel) rfl (by decide) rfl (Nat.le_of_ble_eq_true rfl) dX1_isWhole_42 rfl (by omega) (by omega) (fun rv15 V16 hp17 => ?_)
    obtain ⟨⟨x14, x14e, x14a⟩, x14v⟩ := hp17
    rw [x14e, x14v]
    show zG C V 0 0 45 [(0, .ref li)] [.int (zI (x14))]
    refine zr_if_eq X 81 48 dX1_isWhole_45 rfl rfl (by omega) (fun bq18 => ?_) (fun bq18 => ?_)
    · refine zr_iconst X 82 dX1_isWhole_81 rfl ?_
      exact zr_zret X rfl rfl ⟨⟨0, rfl, by omega⟩, rfl⟩ dX1_isWhole_82
    · refine zr_aload_n X 49 0 dX1_isWhole_48 rfl rfl ?_
      refine zr_get X 52 3 0 hl rfl iX1 (by decide) w2 rfl rfl dX1_isWhole_49 rfl ?_
      refine zr_iconst X 53 dX1_isWhole_52 rfl ?_
      refine zr_aload_n X 54 0 dX1_isWhole_53 rfl rfl ?_
      refine zr_get X 57 3 0 hl rfl iX1 (by decide) w2 rfl rfl dX1_isWhole_54 rfl ?_
      refine zr_callV (kc' := 0) (ks' := 0) X 60 0 (m_X2_size l Γ hh) gX1_isWhole_X2_size rfl (by decide +kernel) rfl (by decide) hh rfl rfl (Nat.le_of_ble_eq_true rfl) dX1_isWhole_57 rfl (by omega) (by omega) (fun rv19 V20 hp21 => ?_)
      rw [hp21.1, hp21.2]
      show zG C V 0 0 60 [(0, .ref li)] [.int (zI (lh)), .int (zI (0)), .ref ho]
      refine zr_aload_n X 61 0 dX1_isWhole_60 rfl rfl ?_
      refine zr_get X 64 3 1 hl rfl iX1 (by decide) w3 rfl rfl dX1_isWhole_61 rfl ?_
      refine zr_aload_n X 65 0 dX1_isWhole_64 rfl rfl ?_
      refine zr_get X 68 3 2 hl rfl iX1 (by decide) w0 rfl rfl dX1_isWhole_65 rfl ?_
      refine zr_callV (kc' := 0) (ks' := 0) X 71 0 (m_X2_size l Γ hc) gX1_isWhole_X2_size rfl (by decide +kernel) rfl (by decide) hc rfl rfl (Nat.le_of_ble_eq_true rfl) dX1_isWhole_68 rfl (by omega) (by omega) (fun rv22 V23 hp24 => ?_)
      rw [hp24.1, hp24.2]
      show zG C V 0 0 71 [(0, .ref li)] [.int (zI (lc)), .ref se, .int (zI (lh)), .int (zI (0)), .ref ho]
      refine zr_callSNst (kc' := 0) (ks' := 0) X 74 5 6 (m_X6_matches l Γ (fr := 0) (mn := lh) (ap := lc) (zTx_s l Γ hh ah (by omega) hz.1) (zTx_s l Γ hs as (by omega) hz.2.1) (by omega) (by omega) (by omega)) gX1_isWhole_X6_matches_n47 rfl w4 rfl w5 (by decide +kernel) rfl (by decide) rfl (Nat.le_of_ble_eq_true rfl) dX1_isWhole_71 rfl (by omega) (by omega) (fun rv26 V27 hp28 => ?_)
      obtain ⟨⟨x25, x25e, x25a⟩, x25v⟩ := hp28
      rw [x25e, x25v]
      show zG C V 0 0 74 [(0, .ref li)] [.int (zI (x25))]
      refine zr_if_eq X 81 77 dX1_isWhole_74 rfl rfl (by omega) (fun bq29 => ?_) (fun bq29 => ?_)
      · refine zr_iconst X 82 dX1_isWhole_81 rfl ?_
        exact zr_zret X rfl rfl ⟨⟨0, rfl, by omega⟩, rfl⟩ dX1_isWhole_82
      · refine zr_iconst X 78 dX1_isWhole_77 rfl ?_
        refine zr_goto X 82 dX1_isWhole_78 rfl ?_
        exact zr_zret X rfl rfl ⟨⟨1, rfl, by omega⟩, rfl⟩ dX1_isWhole_82
end
