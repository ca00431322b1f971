/-! Sashwords: the windows' calls with loops -/
theorem zw4_0 {σ : Nat → Int} {i : Nat} {c l p m : Int} : zw4 σ i c l p m (4 * i) = c := by unfold zw4; rw [if_pos rfl]
theorem zw4_1 {σ : Nat → Int} {i : Nat} {c l p m : Int} : zw4 σ i c l p m (4 * i + 1) = l := by unfold zw4; rw [if_neg (by first | with_reducible assumption | decide | omega), if_pos rfl]
theorem zw4_2 {σ : Nat → Int} {i : Nat} {c l p m : Int} : zw4 σ i c l p m (4 * i + 2) = p := by unfold zw4; rw [if_neg (by first | with_reducible assumption | decide | omega), if_neg (by first | with_reducible assumption | decide | omega), if_pos rfl]
theorem zw4_3 {σ : Nat → Int} {i : Nat} {c l p m : Int} : zw4 σ i c l p m (4 * i + 3) = m := by unfold zw4; rw [if_neg (by first | with_reducible assumption | decide | omega), if_neg (by first | with_reducible assumption | decide | omega), if_neg (by first | with_reducible assumption | decide | omega), if_pos rfl]
theorem zw4_ne {σ : Nat → Int} {i j k : Nat} {c l p m : Int} (h : j ≠ i) (hk : k < 4) : zw4 σ i c l p m (4 * j + k) = σ (4 * j + k) := by
  unfold zw4
  rw [if_neg (by first | with_reducible assumption | decide | omega), if_neg (by first | with_reducible assumption | decide | omega), if_neg (by first | with_reducible assumption | decide | omega), if_neg (by first | with_reducible assumption | decide | omega)]
theorem zw4_ne0 {σ : Nat → Int} {i j : Nat} {c l p m : Int} (h : j ≠ i) : zw4 σ i c l p m (4 * j) = σ (4 * j) := zw4_ne (k := 0) h (by first | with_reducible assumption | decide | omega)
theorem zw4_zw4 {σ : Nat → Int} {i : Nat} {c l p m c' l' p' m' : Int} : zw4 (zw4 σ i c l p m) i c' l' p' m' = zw4 σ i c' l' p' m' := by
  funext j
  unfold zw4
  by_cases h0 : j = 4 * i
  · simp [h0]
  · by_cases h1 : j = 4 * i + 1
    · simp [h1]
    · by_cases h2 : j = 4 * i + 2
      · simp [h2]
      · by_cases h3 : j = 4 * i + 3
        · simp [h3]
        · simp [h0, h1, h2, h3]
theorem zw4_comm {σ : Nat → Int} {i j : Nat} {c l p m c' l' p' m' : Int} (h : i ≠ j) : zw4 (zw4 σ i c l p m) j c' l' p' m' = zw4 (zw4 σ j c' l' p' m') i c l p m := by
  funext k
  unfold zw4
  by_cases h0 : k = 4 * i ∨ k = 4 * i + 1 ∨ k = 4 * i + 2 ∨ k = 4 * i + 3
  · rw [if_neg (by first | with_reducible assumption | decide | omega), if_neg (by first | with_reducible assumption | decide | omega), if_neg (by first | with_reducible assumption | decide | omega), if_neg (by first | with_reducible assumption | decide | omega)]
    rw [if_neg (c := k = 4 * j) (by first | with_reducible assumption | decide | omega), if_neg (c := k = 4 * j + 1) (by first | with_reducible assumption | decide | omega), if_neg (c := k = 4 * j + 2) (by first | with_reducible assumption | decide | omega), if_neg (c := k = 4 * j + 3) (by first | with_reducible assumption | decide | omega)]
  · rw [if_neg (c := k = 4 * i) (by first | with_reducible assumption | decide | omega), if_neg (c := k = 4 * i + 1) (by first | with_reducible assumption | decide | omega), if_neg (c := k = 4 * i + 2) (by first | with_reducible assumption | decide | omega), if_neg (c := k = 4 * i + 3) (by first | with_reducible assumption | decide | omega)]
    rw [if_neg (c := k = 4 * i) (by first | with_reducible assumption | decide | omega), if_neg (c := k = 4 * i + 1) (by first | with_reducible assumption | decide | omega), if_neg (c := k = 4 * i + 2) (by first | with_reducible assumption | decide | omega), if_neg (c := k = 4 * i + 3) (by first | with_reducible assumption | decide | omega)]
theorem zw4_id {σ : Nat → Int} {i : Nat} : zw4 σ i (σ (4 * i)) (σ (4 * i + 1)) (σ (4 * i + 2)) (σ (4 * i + 3)) = σ := by
  funext j
  unfold zw4
  by_cases h0 : j = 4 * i
  · simp [h0]
  · by_cases h1 : j = 4 * i + 1
    · simp [h1]
    · by_cases h2 : j = 4 * i + 2
      · simp [h2]
      · by_cases h3 : j = 4 * i + 3
        · simp [h3]
        · simp [h0, h1, h2, h3]
theorem zmulb {a b A B : Int} (ha : 0 ≤ a ∧ a ≤ A) (hb : 0 ≤ b ∧ b ≤ B) : 0 ≤ a * b ∧ a * b ≤ A * B := ⟨Int.mul_nonneg ha.1 hb.1, Int.mul_le_mul ha.2 hb.2 hb.1 (by first | with_reducible assumption | decide | omega)⟩
theorem zSB.kept {Γ : zGam} {V V' : zV} {P : Nat → Prop} {b cap : Nat} {cnt : Int} (h : zSB Γ V b cnt cap) (ha : zag P V V') (h7 : P 7) : zSB Γ V' b cnt cap := by
  obtain ⟨v, mb, f, h1, h2, h3⟩ := h
  exact ⟨v, mb, f, ha _ _ _ h1 h7, ha _ _ _ h2 h7, h3⟩
theorem zfr.ag {V V' : zV} (h : zfr V V') : zag (fun t => t ≠ 7) V V' := h
theorem zS.fr {Γ : zGam} {V V' : zV} {ad : Nat → Nat} {σ : Nat → Int} (h : zS Γ V ad σ) (hf : zfr V V') : zS Γ V' ad σ ∧ zfx V V' := ⟨h.kept hf.ag (fun t _ _ h7 => h7), hf.ag.mono (fun t ht => by omega)⟩
set_option maxRecDepth 100000 in
set_option maxHeartbeats 4000000 in
theorem m_X6_run (l : Launch) (hlt : l.stackTraces = false) (Γ : zGam) {V : zV} {ad : Nat → Nat} {σ : Nat → Int} {q x st n : Int} (hS : zS Γ V ad σ) (hq : -2147483648 ≤ q ∧ q ≤ 2147483647) (hx : -2147483648 ≤ x ∧ x ≤ 2147483647) (hst : -2147483648 ≤ st ∧ st ≤ 2147483647) (hn : -2147483648 ≤ n ∧ n ≤ 2147483647) : zN l Γ 8 yX6_run wsX6_run 4 24 V [.ref (ad 1), .int (zI (q)), .int (zI (x)), .int (zI (st)), .int (zI (n))] (fun rv V' => ∃ (y : Int) (σ' : Nat → Int), rv = some (.int (zI y)) ∧ zS Γ V' ad σ' ∧ zfx V V' ∧ ((0 ≤ q ∧ q < 6 ∧ 0 ≤ x ∧ x ≤ 255 ∧ 0 ≤ st ∧ st ≤ 255 ∧ 0 ≤ n ∧ n ≤ 40) ∧ 0 ≤ y ∧ y ≤ n ∧ y ≤ σ (4 * q.toNat + 1) - σ (4 * q.toNat + 2) ∧ (y = n ∨ y = σ (4 * q.toNat + 1) - σ (4 * q.toNat + 2)) ∧ σ' = zdn (zw4 σ q.toNat (σ (4 * q.toNat)) (σ (4 * q.toNat + 1)) (σ (4 * q.toNat + 2) + y) (σ (4 * q.toNat + 3))))) (fun E V' => V' = V ∧ ((E = zIO ∧ ¬ (0 ≤ q ∧ q < 6)) ∨ (E = zIA ∧ (0 ≤ q ∧ q < 6) ∧ ¬ (0 ≤ x ∧ x ≤ 255 ∧ 0 ≤ st ∧ st ≤ 255 ∧ 0 ≤ n ∧ n ≤ 40)))) := by
  refine zN_of (cc := cX6_run) (nL := 7) (ret := (some .int)) (own := RX6) hlt (by decide +kernel) rfl rfl (Nat.le_of_ble_eq_true rfl) (fun C X Y => ?_)
  have hx1 : V (ad 1) = some (1, .inr (7, [.ref (ad 2), .ref (ad 20), .ref (ad 22), .ref (ad 24), .ref (ad 16), .ref (ad 31), .ref (ad 33), .ref (ad 35), .ref (ad 40), .ref (ad 45), .int (zI (σ 30)), .int (zI (σ 31)), .int (zI (σ 32)), .int (zI (σ 33))])) := hS.1
  show zG C V 4 24 0 [(0, .ref (ad 1)), (1, .int (zI (q))), (2, .int (zI (x))), (3, .int (zI (st))), (4, .int (zI (n)))] []
  refine zr_aload_n X 1 0 dX6_run_0 rfl rfl ?_
  refine zr_iload_n X 2 1 dX6_run_1 rfl rfl ?_
  refine zr_callVN (kc' := 4 - 1) (ks' := 24 - 6) X Y 5 1 (m_X6_windowOf l hlt Γ hS (q := q) (by first | with_reducible assumption | decide | omega)) gX6_run_X6_windowOf rfl (by decide +kernel) rfl (by decide) hx1 rfl rfl (Nat.le_of_ble_eq_true rfl) dX6_run_2 rfl (by first | with_reducible assumption | decide | omega) (by first | with_reducible assumption | decide | omega) (fun E W hX => ⟨hX.2.2, Or.inl ⟨hX.1, by have := hX.2.1; omega⟩⟩) (fun rv2 V3 hp4 => ?_)
  obtain ⟨hp4a, hp4b, hp4c⟩ := hp4
  rw [hp4b, hp4c]
  have hw5 := hS.w (i := q.toNat) (by first | with_reducible assumption | decide | omega)
  have hw5r := hw5.rg
  show zG C V (4 - 1) (24 - 6) 5 [(0, .ref (ad 1)), (1, .int (zI (q))), (2, .int (zI (x))), (3, .int (zI (st))), (4, .int (zI (n)))] [.ref (ad (10 + q.toNat))]
  refine zr_astore X 7 [(5, .ref (ad (10 + q.toNat))), (0, .ref (ad 1)), (1, .int (zI (q))), (2, .int (zI (x))), (3, .int (zI (st))), (4, .int (zI (n)))] dX6_run_5 rfl (by decide) rfl ?_
  refine zr_iload_n X 8 3 dX6_run_7 rfl rfl ?_
  refine zr_iconst X 9 dX6_run_8 rfl ?_
  refine zr_sipush X 12 (255) dX6_run_9 rfl (by decide) ?_
  refine zr_callSN (kc' := (4 - 1) - 1) (ks' := (24 - 6) - 6) X Y 15 3 (m_X6_requireWithin l hlt Γ (V := V) (x := x) (a := 0) (b := 255) (by first | with_reducible assumption | decide | omega) (by first | with_reducible assumption | decide | omega) (by first | with_reducible assumption | decide | omega)) gX6_run_X6_requireWithin rfl (by decide +kernel) rfl (by decide) rfl (Nat.le_of_ble_eq_true rfl) dX6_run_12 rfl (by first | with_reducible assumption | decide | omega) (by first | with_reducible assumption | decide | omega) (fun E W hX => ⟨hX.2.2, Or.inr ⟨hX.1, by have := hX.2.1; omega⟩⟩) (fun rv6 V7 hp8 => ?_)
  obtain ⟨hp8a, hp8b, hp8c⟩ := hp8
  rw [hp8b, hp8c]
  show zG C V ((4 - 1) - 1) ((24 - 6) - 6) 15 [(5, .ref (ad (10 + q.toNat))), (0, .ref (ad 1)), (1, .int (zI (q))), (2, .int (zI (x))), (3, .int (zI (st))), (4, .int (zI (n)))] []
  refine zr_iload_n X 16 4 dX6_run_15 rfl rfl ?_
  refine zr_iconst X 17 dX6_run_16 rfl ?_
  refine zr_sipush X 20 (255) dX6_run_17 rfl (by decide) ?_
  refine zr_callSN (kc' := ((4 - 1) - 1) - 1) (ks' := ((24 - 6) - 6) - 6) X Y 23 3 (m_X6_requireWithin l hlt Γ (V := V) (x := st) (a := 0) (b := 255) (by first | with_reducible assumption | decide | omega) (by first | with_reducible assumption | decide | omega) (by first | with_reducible assumption | decide | omega)) gX6_run_X6_requireWithin rfl (by decide +kernel) rfl (by decide) rfl (Nat.le_of_ble_eq_true rfl) dX6_run_20 rfl (by first | with_reducible assumption | decide | omega) (by first | with_reducible assumption | decide | omega) (fun E W hX => ⟨hX.2.2, Or.inr ⟨hX.1, by have := hX.2.1; omega⟩⟩) (fun rv9 V10 hp11 => ?_)
  obtain ⟨hp11a, hp11b, hp11c⟩ := hp11
  rw [hp11b, hp11c]
  show zG C V (((4 - 1) - 1) - 1) (((24 - 6) - 6) - 6) 23 [(5, .ref (ad (10 + q.toNat))), (0, .ref (ad 1)), (1, .int (zI (q))), (2, .int (zI (x))), (3, .int (zI (st))), (4, .int (zI (n)))] []
  refine zr_iload X 25 5 dX6_run_23 rfl rfl ?_
  refine zr_iconst X 26 dX6_run_25 rfl ?_
  refine zr_bipush X 28 (40) dX6_run_26 rfl (by decide) ?_
  refine zr_callSN (kc' := (((4 - 1) - 1) - 1) - 1) (ks' := (((24 - 6) - 6) - 6) - 6) X Y 31 3 (m_X6_requireWithin l hlt Γ (V := V) (x := n) (a := 0) (b := 40) (by first | with_reducible assumption | decide | omega) (by first | with_reducible assumption | decide | omega) (by first | with_reducible assumption | decide | omega)) gX6_run_X6_requireWithin rfl (by decide +kernel) rfl (by decide) rfl (Nat.le_of_ble_eq_true rfl) dX6_run_28 rfl (by first | with_reducible assumption | decide | omega) (by first | with_reducible assumption | decide | omega) (fun E W hX => ⟨hX.2.2, Or.inr ⟨hX.1, by have := hX.2.1; omega⟩⟩) (fun rv12 V13 hp14 => ?_)
  obtain ⟨hp14a, hp14b, hp14c⟩ := hp14
  rw [hp14b, hp14c]
  show zG C V ((((4 - 1) - 1) - 1) - 1) ((((24 - 6) - 6) - 6) - 6) 31 [(5, .ref (ad (10 + q.toNat))), (0, .ref (ad 1)), (1, .int (zI (q))), (2, .int (zI (x))), (3, .int (zI (st))), (4, .int (zI (n)))] []
  refine zr_iconst X 32 dX6_run_31 rfl ?_
  refine zr_istore X 34 [(6, .int (zI (0))), (5, .ref (ad (10 + q.toNat))), (0, .ref (ad 1)), (1, .int (zI (q))), (2, .int (zI (x))), (3, .int (zI (st))), (4, .int (zI (n)))] dX6_run_32 rfl (by decide) rfl ?_
  refine zr_sub [0, 1, 6, 5, 4, 3, 2] [(6, .int (zI (0))), (5, .ref (ad (10 + q.toNat))), (4, .int (zI (n))), (3, .int (zI (st))), (2, .int (zI (x))), (1, .int (zI (q))), (0, .ref (ad 1))] rfl ?_
  have loop : ∀ (N : Nat) (V1 : zV) (σ1 : Nat → Int) (k : Int), zS Γ V1 ad σ1 ∧ zfx V V1 ∧ σ1 = zw4 σ q.toNat (σ (4 * q.toNat)) (σ (4 * q.toNat + 1)) (σ (4 * q.toNat + 2) + k) (σ (4 * q.toNat + 3)) ∧ 0 ≤ k ∧ k ≤ n ∧ σ (4 * q.toNat + 2) + k ≤ σ (4 * q.toNat + 1) → (n - k).toNat = N → zG C V1 ((((4 - 1) - 1) - 1) - 1) ((((24 - 6) - 6) - 6) - 6) 34 [(6, .int (zI (k))), (5, .ref (ad (10 + q.toNat))), (4, .int (zI (n))), (3, .int (zI (st))), (2, .int (zI (x))), (1, .int (zI (q))), (0, .ref (ad 1))] [] := by
    intro N
    induction N using Nat.strongRecOn with
    | _ N ih =>
    intro V1 σ1 k hI hN
    obtain ⟨hI1, hI2, hI3, hI4, hI5, hI6⟩ := id hI
    have hx15 : V1 (ad 1) = some (1, .inr (7, [.ref (ad 2), .ref (ad 20), .ref (ad 22), .ref (ad 24), .ref (ad 16), .ref (ad 31), .ref (ad 33), .ref (ad 35), .ref (ad 40), .ref (ad 45), .int (zI (σ1 30)), .int (zI (σ1 31)), .int (zI (σ1 32)), .int (zI (σ1 33))])) := hI1.1
    have hw16 : zWi Γ V1 (10 + q.toNat) (ad (10 + q.toNat)) (σ (4 * q.toNat)) (σ (4 * q.toNat + 1)) (σ (4 * q.toNat + 2) + k) (σ (4 * q.toNat + 3)) := by
      have h := hI1.w (i := q.toNat) (by first | with_reducible assumption | decide | omega)
      rw [hI3, zw4_0, zw4_1, zw4_2, zw4_3] at h
      exact h
    have hw16r := hw16.rg
    have hks := zmulb (a := k) (b := st) (A := 40) (B := 255) (by first | with_reducible assumption | decide | omega) (by first | with_reducible assumption | decide | omega)
    refine zr_iload X 36 0 dX6_run_34 rfl rfl ?_
    refine zr_iload X 38 2 dX6_run_36 rfl rfl ?_
    refine zr_icmp_ge X 65 41 dX6_run_38 rfl rfl (by first | with_reducible assumption | decide | omega) (by first | with_reducible assumption | decide | omega) (fun bq17 => ?_) (fun bq17 => ?_)
    · refine zr_aload_n X 66 6 dX6_run_65 rfl rfl ?_
      refine zr_iload X 68 0 dX6_run_66 rfl rfl ?_
      refine zr_callVe (kc' := ((((4 - 1) - 1) - 1) - 1)) (ks' := ((((24 - 6) - 6) - 6) - 6)) X 71 1 (m_X6_done l Γ hI1) gX6_run_X6_done rfl (by decide +kernel) rfl (by decide) hI1.x rfl rfl (Nat.le_of_ble_eq_true rfl) dX6_run_68 rfl (by first | with_reducible assumption | decide | omega) (by first | with_reducible assumption | decide | omega) (fun rv18 V19 hp20 => ?_)
      obtain ⟨hp20e, hS21, fx22⟩ := hp20
      rw [hp20e]
      obtain ⟨σ23, σ23e⟩ : ∃ zz9 : Nat → Int, zz9 = zdn σ1 := ⟨_, rfl⟩
      rw [← σ23e] at hS21
      have fx24 := zag.tr hI2 fx22
      have hx25 : V19 (ad 1) = some (1, .inr (7, [.ref (ad 2), .ref (ad 20), .ref (ad 22), .ref (ad 24), .ref (ad 16), .ref (ad 31), .ref (ad 33), .ref (ad 35), .ref (ad 40), .ref (ad 45), .int (zI (σ23 30)), .int (zI (σ23 31)), .int (zI (σ23 32)), .int (zI (σ23 33))])) := hS21.1
      show zG C V19 ((((4 - 1) - 1) - 1) - 1) ((((24 - 6) - 6) - 6) - 6) 71 [(6, .int (zI (k))), (5, .ref (ad (10 + q.toNat))), (4, .int (zI (n))), (3, .int (zI (st))), (2, .int (zI (x))), (1, .int (zI (q))), (0, .ref (ad 1))] [.int (zI (k))]
      exact zr_iret X rfl ⟨k, σ23, rfl, hS21, fx24, ⟨by omega, by omega, by omega, by omega, by omega, by rw [σ23e, hI3]⟩⟩ dX6_run_71
    · refine zr_aload X 43 1 dX6_run_41 rfl rfl ?_
      refine zr_iload_n X 44 4 dX6_run_43 rfl rfl ?_
      refine zr_iload X 46 0 dX6_run_44 rfl rfl ?_
      refine zr_iload_n X 47 3 dX6_run_46 rfl rfl ?_
      refine zr_imul X 48 dX6_run_47 rfl ?_
      refine zr_iadd X 49 dX6_run_48 rfl ?_
      refine zr_sipush X 52 (256) dX6_run_49 rfl (by decide) ?_
      refine zr_irem X 53 dX6_run_52 rfl (by first | with_reducible assumption | decide | omega) (by first | with_reducible assumption | decide | omega) ?_
      by_cases wr26 : σ (4 * q.toNat + 2) + k < σ (4 * q.toNat + 1)
      · skip
        refine zr_callVe (kc' := ((((4 - 1) - 1) - 1) - 1)) (ks' := ((((24 - 6) - 6) - 6) - 6)) X 56 1 (e_write_y l Γ hw16 (by first | with_reducible assumption | decide | omega) (x := (x + (k * st)) % 256) (by first | with_reducible assumption | decide | omega) wr26) gX6_run_X5_writeSign rfl (by decide +kernel) rfl (by decide) hw16.cl rfl rfl (Nat.le_of_ble_eq_true rfl) dX6_run_53 rfl (by first | with_reducible assumption | decide | omega) (by first | with_reducible assumption | decide | omega) (fun rv27 V28 hp29 => ?_)
        obtain ⟨hp29e, hp29z⟩ := hp29
        rw [hp29e]
        obtain ⟨hS30, fx31⟩ := hI1.setW (i := q.toNat) (by first | with_reducible assumption | decide | omega) hp29z
        have hw32 := hp29z.1
        obtain ⟨σ33, σ33e⟩ : ∃ zz9 : Nat → Int, zz9 = zw4 σ1 q.toNat (σ (4 * q.toNat)) (σ (4 * q.toNat + 1)) (σ (4 * q.toNat + 2) + k + 1) (σ (4 * q.toNat + 3)) := ⟨_, rfl⟩
        rw [← σ33e] at hS30
        have fx34 := zag.tr hI2 fx31
        have hx35 : V28 (ad 1) = some (1, .inr (7, [.ref (ad 2), .ref (ad 20), .ref (ad 22), .ref (ad 24), .ref (ad 16), .ref (ad 31), .ref (ad 33), .ref (ad 35), .ref (ad 40), .ref (ad 45), .int (zI (σ33 30)), .int (zI (σ33 31)), .int (zI (σ33 32)), .int (zI (σ33 33))])) := hS30.1
        show zG C V28 ((((4 - 1) - 1) - 1) - 1) ((((24 - 6) - 6) - 6) - 6) 56 [(6, .int (zI (k))), (5, .ref (ad (10 + q.toNat))), (4, .int (zI (n))), (3, .int (zI (st))), (2, .int (zI (x))), (1, .int (zI (q))), (0, .ref (ad 1))] [.int (zI (1))]
        refine zr_if_eq X 65 59 dX6_run_56 rfl rfl (by first | with_reducible assumption | decide | omega) (fun bq36 => absurd bq36 (by first | with_reducible assumption | decide | omega)) (fun bq36 => ?_)
        refine zr_iinc X 62 0 [(6, .int (zI (k + 1))), (5, .ref (ad (10 + q.toNat))), (4, .int (zI (n))), (3, .int (zI (st))), (2, .int (zI (x))), (1, .int (zI (q))), (0, .ref (ad 1))] dX6_run_59 rfl rfl (by decide) rfl ?_
        refine zr_goto X 34 dX6_run_62 rfl ?_
        exact ih _ (by first | with_reducible assumption | decide | omega) V28 σ33 (k + 1) ⟨hS30, fx34, by rw [σ33e, hI3, zw4_zw4, Int.add_assoc], by omega, by omega, by omega⟩ rfl
      · skip
        refine zr_callVe (kc' := ((((4 - 1) - 1) - 1) - 1)) (ks' := ((((24 - 6) - 6) - 6) - 6)) X 56 1 (e_write_n l Γ hw16 (x := (x + (k * st)) % 256) wr26) gX6_run_X5_writeSign rfl (by decide +kernel) rfl (by decide) hw16.cl rfl rfl (Nat.le_of_ble_eq_true rfl) dX6_run_53 rfl (by first | with_reducible assumption | decide | omega) (by first | with_reducible assumption | decide | omega) (fun rv37 V38 hp39 => ?_)
        rw [hp39.1, hp39.2]
        show zG C V1 ((((4 - 1) - 1) - 1) - 1) ((((24 - 6) - 6) - 6) - 6) 56 [(6, .int (zI (k))), (5, .ref (ad (10 + q.toNat))), (4, .int (zI (n))), (3, .int (zI (st))), (2, .int (zI (x))), (1, .int (zI (q))), (0, .ref (ad 1))] [.int (zI (0))]
        refine zr_if_eq X 65 59 dX6_run_56 rfl rfl (by first | with_reducible assumption | decide | omega) (fun bq40 => ?_) (fun bq40 => absurd bq40 (by first | with_reducible assumption | decide | omega))
        refine zr_aload_n X 66 6 dX6_run_65 rfl rfl ?_
        refine zr_iload X 68 0 dX6_run_66 rfl rfl ?_
        refine zr_callVe (kc' := ((((4 - 1) - 1) - 1) - 1)) (ks' := ((((24 - 6) - 6) - 6) - 6)) X 71 1 (m_X6_done l Γ hI1) gX6_run_X6_done rfl (by decide +kernel) rfl (by decide) hI1.x rfl rfl (Nat.le_of_ble_eq_true rfl) dX6_run_68 rfl (by first | with_reducible assumption | decide | omega) (by first | with_reducible assumption | decide | omega) (fun rv41 V42 hp43 => ?_)
        obtain ⟨hp43e, hS44, fx45⟩ := hp43
        rw [hp43e]
        obtain ⟨σ46, σ46e⟩ : ∃ zz9 : Nat → Int, zz9 = zdn σ1 := ⟨_, rfl⟩
        rw [← σ46e] at hS44
        have fx47 := zag.tr hI2 fx45
        have hx48 : V42 (ad 1) = some (1, .inr (7, [.ref (ad 2), .ref (ad 20), .ref (ad 22), .ref (ad 24), .ref (ad 16), .ref (ad 31), .ref (ad 33), .ref (ad 35), .ref (ad 40), .ref (ad 45), .int (zI (σ46 30)), .int (zI (σ46 31)), .int (zI (σ46 32)), .int (zI (σ46 33))])) := hS44.1
        show zG C V42 ((((4 - 1) - 1) - 1) - 1) ((((24 - 6) - 6) - 6) - 6) 71 [(6, .int (zI (k))), (5, .ref (ad (10 + q.toNat))), (4, .int (zI (n))), (3, .int (zI (st))), (2, .int (zI (x))), (1, .int (zI (q))), (0, .ref (ad 1))] [.int (zI (k))]
        exact zr_iret X rfl ⟨k, σ46, rfl, hS44, fx47, ⟨by omega, by omega, by omega, by omega, by omega, by rw [σ46e, hI3]⟩⟩ dX6_run_71
  exact loop _ V σ 0 ⟨hS, zag.rf, (by rw [Int.add_zero]; exact zw4_id.symm), by omega, by omega, by omega⟩ rfl
set_option maxRecDepth 100000 in
set_option maxHeartbeats 4000000 in
theorem m_X6_write (l : Launch) (hlt : l.stackTraces = false) (Γ : zGam) {V : zV} {ad : Nat → Nat} {σ : Nat → Int} {q x n : Int} (hS : zS Γ V ad σ) (hq : -2147483648 ≤ q ∧ q ≤ 2147483647) (hx : -2147483648 ≤ x ∧ x ≤ 2147483647) (hn : -2147483648 ≤ n ∧ n ≤ 2147483647) : zN l Γ 8 yX6_write wsX6_write 3 18 V [.ref (ad 1), .int (zI (q)), .int (zI (x)), .int (zI (n))] (fun rv V' => ∃ (y : Int) (σ' : Nat → Int), rv = some (.int (zI y)) ∧ zS Γ V' ad σ' ∧ zfx V V' ∧ ((0 ≤ q ∧ q < 6 ∧ 0 ≤ x ∧ 0 ≤ n ∧ n ≤ 20) ∧ 0 ≤ y ∧ y ≤ n ∧ y ≤ σ (4 * q.toNat + 1) - σ (4 * q.toNat + 2) ∧ (y = n ∨ y = σ (4 * q.toNat + 1) - σ (4 * q.toNat + 2)) ∧ σ' = zdn (zw4 σ q.toNat (σ (4 * q.toNat)) (σ (4 * q.toNat + 1)) (σ (4 * q.toNat + 2) + y) (σ (4 * q.toNat + 3))))) (fun E V' => V' = V ∧ ((E = zIO ∧ ¬ (0 ≤ q ∧ q < 6)) ∨ (E = zIA ∧ (0 ≤ q ∧ q < 6) ∧ ¬ (0 ≤ x ∧ 0 ≤ n ∧ n ≤ 20)))) := by
  refine zN_of (cc := cX6_write) (nL := 7) (ret := (some .int)) (own := RX6) hlt (by decide +kernel) rfl rfl (Nat.le_of_ble_eq_true rfl) (fun C X Y => ?_)
  have hx1 : V (ad 1) = some (1, .inr (7, [.ref (ad 2), .ref (ad 20), .ref (ad 22), .ref (ad 24), .ref (ad 16), .ref (ad 31), .ref (ad 33), .ref (ad 35), .ref (ad 40), .ref (ad 45), .int (zI (σ 30)), .int (zI (σ 31)), .int (zI (σ 32)), .int (zI (σ 33))])) := hS.1
  show zG C V 3 18 0 [(0, .ref (ad 1)), (1, .int (zI (q))), (2, .int (zI (x))), (3, .int (zI (n)))] []
  refine zr_aload_n X 1 0 dX6_write_0 rfl rfl ?_
  refine zr_iload_n X 2 1 dX6_write_1 rfl rfl ?_
  refine zr_callVN (kc' := 3 - 1) (ks' := 18 - 6) X Y 5 1 (m_X6_windowOf l hlt Γ hS (q := q) (by first | with_reducible assumption | decide | omega)) gX6_write_X6_windowOf rfl (by decide +kernel) rfl (by decide) hx1 rfl rfl (Nat.le_of_ble_eq_true rfl) dX6_write_2 rfl (by first | with_reducible assumption | decide | omega) (by first | with_reducible assumption | decide | omega) (fun E W hX => ⟨hX.2.2, Or.inl ⟨hX.1, by have := hX.2.1; omega⟩⟩) (fun rv2 V3 hp4 => ?_)
  obtain ⟨hp4a, hp4b, hp4c⟩ := hp4
  rw [hp4b, hp4c]
  have hw5 := hS.w (i := q.toNat) (by first | with_reducible assumption | decide | omega)
  have hw5r := hw5.rg
  show zG C V (3 - 1) (18 - 6) 5 [(0, .ref (ad 1)), (1, .int (zI (q))), (2, .int (zI (x))), (3, .int (zI (n)))] [.ref (ad (10 + q.toNat))]
  refine zr_astore X 7 [(4, .ref (ad (10 + q.toNat))), (0, .ref (ad 1)), (1, .int (zI (q))), (2, .int (zI (x))), (3, .int (zI (n)))] dX6_write_5 rfl (by decide) rfl ?_
  refine zr_iload_n X 8 3 dX6_write_7 rfl rfl ?_
  refine zr_iload_n X 9 4 dX6_write_8 rfl rfl ?_
  refine zr_callSN (kc' := (3 - 1) - 2) (ks' := (18 - 6) - 12) X Y 12 2 (m_X6_requireLetters l hlt Γ (V := V) (x := x) (k := n) (by first | with_reducible assumption | decide | omega) (by first | with_reducible assumption | decide | omega)) gX6_write_X6_requireLetters rfl (by decide +kernel) rfl (by decide) rfl (Nat.le_of_ble_eq_true rfl) dX6_write_9 rfl (by first | with_reducible assumption | decide | omega) (by first | with_reducible assumption | decide | omega) (fun E W hX => ⟨hX.2.2, Or.inr ⟨hX.1, by have := hX.2.1; omega⟩⟩) (fun rv6 V7 hp8 => ?_)
  obtain ⟨hp8a, hp8b, hp8c⟩ := hp8
  rw [hp8b, hp8c]
  show zG C V ((3 - 1) - 2) ((18 - 6) - 12) 12 [(4, .ref (ad (10 + q.toNat))), (0, .ref (ad 1)), (1, .int (zI (q))), (2, .int (zI (x))), (3, .int (zI (n)))] []
  refine zr_iload_n X 13 3 dX6_write_12 rfl rfl ?_
  refine zr_istore X 15 [(5, .int (zI (x))), (4, .ref (ad (10 + q.toNat))), (0, .ref (ad 1)), (1, .int (zI (q))), (2, .int (zI (x))), (3, .int (zI (n)))] dX6_write_13 rfl (by decide) rfl ?_
  refine zr_iconst X 16 dX6_write_15 rfl ?_
  refine zr_istore X 18 [(6, .int (zI (0))), (5, .int (zI (x))), (4, .ref (ad (10 + q.toNat))), (0, .ref (ad 1)), (1, .int (zI (q))), (2, .int (zI (x))), (3, .int (zI (n)))] dX6_write_16 rfl (by decide) rfl ?_
  refine zr_sub [0, 1, 2, 6, 5, 4, 3] [(6, .int (zI (0))), (5, .int (zI (x))), (4, .ref (ad (10 + q.toNat))), (3, .int (zI (n))), (2, .int (zI (x))), (1, .int (zI (q))), (0, .ref (ad 1))] rfl ?_
  have loop : ∀ (N : Nat) (V1 : zV) (σ1 : Nat → Int) (k : Int) (x1 : Int), zS Γ V1 ad σ1 ∧ zfx V V1 ∧ σ1 = zw4 σ q.toNat (σ (4 * q.toNat)) (σ (4 * q.toNat + 1)) (σ (4 * q.toNat + 2) + k) (σ (4 * q.toNat + 3)) ∧ 0 ≤ k ∧ k ≤ n ∧ σ (4 * q.toNat + 2) + k ≤ σ (4 * q.toNat + 1) ∧ 0 ≤ x1 ∧ x1 ≤ 2147483647 → (n - k).toNat = N → zG C V1 ((3 - 1) - 2) ((18 - 6) - 12) 18 [(6, .int (zI (k))), (5, .int (zI (x1))), (4, .ref (ad (10 + q.toNat))), (3, .int (zI (n))), (2, .int (zI (x))), (1, .int (zI (q))), (0, .ref (ad 1))] [] := by
    intro N
    induction N using Nat.strongRecOn with
    | _ N ih =>
    intro V1 σ1 k x1 hI hN
    obtain ⟨hI1, hI2, hI3, hI4, hI5, hI6, hI7, hI8⟩ := id hI
    have hx9 : V1 (ad 1) = some (1, .inr (7, [.ref (ad 2), .ref (ad 20), .ref (ad 22), .ref (ad 24), .ref (ad 16), .ref (ad 31), .ref (ad 33), .ref (ad 35), .ref (ad 40), .ref (ad 45), .int (zI (σ1 30)), .int (zI (σ1 31)), .int (zI (σ1 32)), .int (zI (σ1 33))])) := hI1.1
    have hw10 : zWi Γ V1 (10 + q.toNat) (ad (10 + q.toNat)) (σ (4 * q.toNat)) (σ (4 * q.toNat + 1)) (σ (4 * q.toNat + 2) + k) (σ (4 * q.toNat + 3)) := by
      have h := hI1.w (i := q.toNat) (by first | with_reducible assumption | decide | omega)
      rw [hI3, zw4_0, zw4_1, zw4_2, zw4_3] at h
      exact h
    have hw10r := hw10.rg
    refine zr_iload X 20 0 dX6_write_18 rfl rfl ?_
    refine zr_iload_n X 21 3 dX6_write_20 rfl rfl ?_
    refine zr_icmp_ge X 49 24 dX6_write_21 rfl rfl (by first | with_reducible assumption | decide | omega) (by first | with_reducible assumption | decide | omega) (fun bq11 => ?_) (fun bq11 => ?_)
    · refine zr_aload_n X 50 6 dX6_write_49 rfl rfl ?_
      refine zr_iload X 52 0 dX6_write_50 rfl rfl ?_
      refine zr_callVe (kc' := ((3 - 1) - 2)) (ks' := ((18 - 6) - 12)) X 55 1 (m_X6_done l Γ hI1) gX6_write_X6_done rfl (by decide +kernel) rfl (by decide) hI1.x rfl rfl (Nat.le_of_ble_eq_true rfl) dX6_write_52 rfl (by first | with_reducible assumption | decide | omega) (by first | with_reducible assumption | decide | omega) (fun rv12 V13 hp14 => ?_)
      obtain ⟨hp14e, hS15, fx16⟩ := hp14
      rw [hp14e]
      obtain ⟨σ17, σ17e⟩ : ∃ zz9 : Nat → Int, zz9 = zdn σ1 := ⟨_, rfl⟩
      rw [← σ17e] at hS15
      have fx18 := zag.tr hI2 fx16
      have hx19 : V13 (ad 1) = some (1, .inr (7, [.ref (ad 2), .ref (ad 20), .ref (ad 22), .ref (ad 24), .ref (ad 16), .ref (ad 31), .ref (ad 33), .ref (ad 35), .ref (ad 40), .ref (ad 45), .int (zI (σ17 30)), .int (zI (σ17 31)), .int (zI (σ17 32)), .int (zI (σ17 33))])) := hS15.1
      show zG C V13 ((3 - 1) - 2) ((18 - 6) - 12) 55 [(6, .int (zI (k))), (5, .int (zI (x1))), (4, .ref (ad (10 + q.toNat))), (3, .int (zI (n))), (2, .int (zI (x))), (1, .int (zI (q))), (0, .ref (ad 1))] [.int (zI (k))]
      exact zr_iret X rfl ⟨k, σ17, rfl, hS15, fx18, ⟨by omega, by omega, by omega, by omega, by omega, by rw [σ17e, hI3]⟩⟩ dX6_write_55
    · refine zr_aload X 26 2 dX6_write_24 rfl rfl ?_
      refine zr_iload X 28 1 dX6_write_26 rfl rfl ?_
      refine zr_callS (kc' := ((3 - 1) - 2)) (ks' := ((18 - 6) - 12)) X 31 1 (m_X6_lowestLetter l Γ (V := V1) (x := x1) (by first | with_reducible assumption | decide | omega)) gX6_write_X6_lowestLetter rfl (by decide +kernel) rfl (by decide) rfl (Nat.le_of_ble_eq_true rfl) dX6_write_28 rfl (by first | with_reducible assumption | decide | omega) (by first | with_reducible assumption | decide | omega) (fun rv20 V21 hp22 => ?_)
      rw [hp22.1, hp22.2]
      show zG C V1 ((3 - 1) - 2) ((18 - 6) - 12) 31 [(6, .int (zI (k))), (5, .int (zI (x1))), (4, .ref (ad (10 + q.toNat))), (3, .int (zI (n))), (2, .int (zI (x))), (1, .int (zI (q))), (0, .ref (ad 1))] [.int (zI (97 + x1 % 3)), .ref (ad (10 + q.toNat))]
      by_cases wr23 : σ (4 * q.toNat + 2) + k < σ (4 * q.toNat + 1)
      · skip
        refine zr_callVe (kc' := ((3 - 1) - 2)) (ks' := ((18 - 6) - 12)) X 34 1 (e_write_y l Γ hw10 (by first | with_reducible assumption | decide | omega) (x := 97 + x1 % 3) (by first | with_reducible assumption | decide | omega) wr23) gX6_write_X5_writeSign rfl (by decide +kernel) rfl (by decide) hw10.cl rfl rfl (Nat.le_of_ble_eq_true rfl) dX6_write_31 rfl (by first | with_reducible assumption | decide | omega) (by first | with_reducible assumption | decide | omega) (fun rv24 V25 hp26 => ?_)
        obtain ⟨hp26e, hp26z⟩ := hp26
        rw [hp26e]
        obtain ⟨hS27, fx28⟩ := hI1.setW (i := q.toNat) (by first | with_reducible assumption | decide | omega) hp26z
        have hw29 := hp26z.1
        obtain ⟨σ30, σ30e⟩ : ∃ zz9 : Nat → Int, zz9 = zw4 σ1 q.toNat (σ (4 * q.toNat)) (σ (4 * q.toNat + 1)) (σ (4 * q.toNat + 2) + k + 1) (σ (4 * q.toNat + 3)) := ⟨_, rfl⟩
        rw [← σ30e] at hS27
        have fx31 := zag.tr hI2 fx28
        have hx32 : V25 (ad 1) = some (1, .inr (7, [.ref (ad 2), .ref (ad 20), .ref (ad 22), .ref (ad 24), .ref (ad 16), .ref (ad 31), .ref (ad 33), .ref (ad 35), .ref (ad 40), .ref (ad 45), .int (zI (σ30 30)), .int (zI (σ30 31)), .int (zI (σ30 32)), .int (zI (σ30 33))])) := hS27.1
        show zG C V25 ((3 - 1) - 2) ((18 - 6) - 12) 34 [(6, .int (zI (k))), (5, .int (zI (x1))), (4, .ref (ad (10 + q.toNat))), (3, .int (zI (n))), (2, .int (zI (x))), (1, .int (zI (q))), (0, .ref (ad 1))] [.int (zI (1))]
        refine zr_if_eq X 49 37 dX6_write_34 rfl rfl (by first | with_reducible assumption | decide | omega) (fun bq33 => absurd bq33 (by first | with_reducible assumption | decide | omega)) (fun bq33 => ?_)
        refine zr_iload X 39 1 dX6_write_37 rfl rfl ?_
        refine zr_iconst X 40 dX6_write_39 rfl ?_
        refine zr_idiv X 41 dX6_write_40 rfl (by first | with_reducible assumption | decide | omega) (by first | with_reducible assumption | decide | omega) ?_
        refine zr_istore X 43 [(5, .int (zI (x1 / 3))), (6, .int (zI (k))), (4, .ref (ad (10 + q.toNat))), (3, .int (zI (n))), (2, .int (zI (x))), (1, .int (zI (q))), (0, .ref (ad 1))] dX6_write_41 rfl (by decide) rfl ?_
        refine zr_iinc X 46 1 [(6, .int (zI (k + 1))), (5, .int (zI (x1 / 3))), (4, .ref (ad (10 + q.toNat))), (3, .int (zI (n))), (2, .int (zI (x))), (1, .int (zI (q))), (0, .ref (ad 1))] dX6_write_43 rfl rfl (by decide) rfl ?_
        refine zr_goto X 18 dX6_write_46 rfl ?_
        exact ih _ (by first | with_reducible assumption | decide | omega) V25 σ30 (k + 1) (x1 / 3) ⟨hS27, fx31, by rw [σ30e, hI3, zw4_zw4, Int.add_assoc], by omega, by omega, by omega, by omega, by omega⟩ rfl
      · skip
        refine zr_callVe (kc' := ((3 - 1) - 2)) (ks' := ((18 - 6) - 12)) X 34 1 (e_write_n l Γ hw10 (x := 97 + x1 % 3) wr23) gX6_write_X5_writeSign rfl (by decide +kernel) rfl (by decide) hw10.cl rfl rfl (Nat.le_of_ble_eq_true rfl) dX6_write_31 rfl (by first | with_reducible assumption | decide | omega) (by first | with_reducible assumption | decide | omega) (fun rv34 V35 hp36 => ?_)
        rw [hp36.1, hp36.2]
        show zG C V1 ((3 - 1) - 2) ((18 - 6) - 12) 34 [(6, .int (zI (k))), (5, .int (zI (x1))), (4, .ref (ad (10 + q.toNat))), (3, .int (zI (n))), (2, .int (zI (x))), (1, .int (zI (q))), (0, .ref (ad 1))] [.int (zI (0))]
        refine zr_if_eq X 49 37 dX6_write_34 rfl rfl (by first | with_reducible assumption | decide | omega) (fun bq37 => ?_) (fun bq37 => absurd bq37 (by first | with_reducible assumption | decide | omega))
        refine zr_aload_n X 50 6 dX6_write_49 rfl rfl ?_
        refine zr_iload X 52 0 dX6_write_50 rfl rfl ?_
        refine zr_callVe (kc' := ((3 - 1) - 2)) (ks' := ((18 - 6) - 12)) X 55 1 (m_X6_done l Γ hI1) gX6_write_X6_done rfl (by decide +kernel) rfl (by decide) hI1.x rfl rfl (Nat.le_of_ble_eq_true rfl) dX6_write_52 rfl (by first | with_reducible assumption | decide | omega) (by first | with_reducible assumption | decide | omega) (fun rv38 V39 hp40 => ?_)
        obtain ⟨hp40e, hS41, fx42⟩ := hp40
        rw [hp40e]
        obtain ⟨σ43, σ43e⟩ : ∃ zz9 : Nat → Int, zz9 = zdn σ1 := ⟨_, rfl⟩
        rw [← σ43e] at hS41
        have fx44 := zag.tr hI2 fx42
        have hx45 : V39 (ad 1) = some (1, .inr (7, [.ref (ad 2), .ref (ad 20), .ref (ad 22), .ref (ad 24), .ref (ad 16), .ref (ad 31), .ref (ad 33), .ref (ad 35), .ref (ad 40), .ref (ad 45), .int (zI (σ43 30)), .int (zI (σ43 31)), .int (zI (σ43 32)), .int (zI (σ43 33))])) := hS41.1
        show zG C V39 ((3 - 1) - 2) ((18 - 6) - 12) 55 [(6, .int (zI (k))), (5, .int (zI (x1))), (4, .ref (ad (10 + q.toNat))), (3, .int (zI (n))), (2, .int (zI (x))), (1, .int (zI (q))), (0, .ref (ad 1))] [.int (zI (k))]
        exact zr_iret X rfl ⟨k, σ43, rfl, hS41, fx44, ⟨by omega, by omega, by omega, by omega, by omega, by rw [σ43e, hI3]⟩⟩ dX6_write_55
  exact loop _ V σ 0 x ⟨hS, zag.rf, (by rw [Int.add_zero]; exact zw4_id.symm), by omega, by omega, by omega, by omega, by omega⟩ rfl
theorem zw4_two {σ : Nat → Int} {i j : Nat} (h : i ≠ j) {a b c d a' b' c' d' e f g k e' f' g' k' : Int} : zw4 (zw4 (zw4 (zw4 σ i a b c d) j e f g k) i a' b' c' d') j e' f' g' k' = zw4 (zw4 σ i a' b' c' d') j e' f' g' k' := by
  rw [zw4_comm (σ := zw4 σ i a b c d) (Ne.symm h), zw4_zw4, zw4_zw4]
set_option maxRecDepth 100000 in
set_option maxHeartbeats 4000000 in
theorem m_X6_pour_ne (l : Launch) (hlt : l.stackTraces = false) (Γ : zGam) {V : zV} {ad : Nat → Nat} {σ : Nat → Int} {q q2 n : Int} (hS : zS Γ V ad σ) (hq : -2147483648 ≤ q ∧ q ≤ 2147483647) (hq2 : -2147483648 ≤ q2 ∧ q2 ≤ 2147483647) (hn : -2147483648 ≤ n ∧ n ≤ 2147483647) (hne : q ≠ q2) : zN l Γ 8 yX6_pour wsX6_pour 4 24 V [.ref (ad 1), .int (zI (q)), .int (zI (q2)), .int (zI (n))] (fun rv V' => ∃ (y : Int) (σ' : Nat → Int), rv = some (.int (zI y)) ∧ zS Γ V' ad σ' ∧ zfx V V' ∧ ((0 ≤ q ∧ q < 6 ∧ 0 ≤ q2 ∧ q2 < 6 ∧ q ≠ q2 ∧ 0 ≤ n ∧ n ≤ 40) ∧ 0 ≤ y ∧ y ≤ n ∧ y ≤ σ (4 * q.toNat + 1) - σ (4 * q.toNat + 2) ∧ y ≤ σ (4 * q2.toNat + 1) - σ (4 * q2.toNat + 2) ∧ (y = n ∨ y = σ (4 * q.toNat + 1) - σ (4 * q.toNat + 2) ∨ y = σ (4 * q2.toNat + 1) - σ (4 * q2.toNat + 2)) ∧ σ' = zdn (zw4 (zw4 σ q.toNat (σ (4 * q.toNat)) (σ (4 * q.toNat + 1)) (σ (4 * q.toNat + 2) + y) (σ (4 * q.toNat + 3))) q2.toNat (σ (4 * q2.toNat)) (σ (4 * q2.toNat + 1)) (σ (4 * q2.toNat + 2) + y) (σ (4 * q2.toNat + 3))))) (fun E V' => V' = V ∧ ((E = zIO ∧ ¬ (0 ≤ q ∧ q < 6 ∧ 0 ≤ q2 ∧ q2 < 6)) ∨ (E = zIA ∧ (0 ≤ q ∧ q < 6 ∧ 0 ≤ q2 ∧ q2 < 6) ∧ ¬ (q ≠ q2 ∧ 0 ≤ n ∧ n ≤ 40)))) := by
  refine zN_of (cc := cX6_pour) (nL := 7) (ret := (some .int)) (own := RX6) hlt (by decide +kernel) rfl rfl (Nat.le_of_ble_eq_true rfl) (fun C X Y => ?_)
  have hx1 : V (ad 1) = some (1, .inr (7, [.ref (ad 2), .ref (ad 20), .ref (ad 22), .ref (ad 24), .ref (ad 16), .ref (ad 31), .ref (ad 33), .ref (ad 35), .ref (ad 40), .ref (ad 45), .int (zI (σ 30)), .int (zI (σ 31)), .int (zI (σ 32)), .int (zI (σ 33))])) := hS.1
  show zG C V 4 24 0 [(0, .ref (ad 1)), (1, .int (zI (q))), (2, .int (zI (q2))), (3, .int (zI (n)))] []
  refine zr_aload_n X 1 0 dX6_pour_0 rfl rfl ?_
  refine zr_iload_n X 2 1 dX6_pour_1 rfl rfl ?_
  refine zr_callVN (kc' := 4 - 1) (ks' := 24 - 6) X Y 5 1 (m_X6_windowOf l hlt Γ hS (q := q) (by first | with_reducible assumption | decide | omega)) gX6_pour_X6_windowOf rfl (by decide +kernel) rfl (by decide) hx1 rfl rfl (Nat.le_of_ble_eq_true rfl) dX6_pour_2 rfl (by first | with_reducible assumption | decide | omega) (by first | with_reducible assumption | decide | omega) (fun E W hX => ⟨hX.2.2, Or.inl ⟨hX.1, by have := hX.2.1; omega⟩⟩) (fun rv2 V3 hp4 => ?_)
  obtain ⟨hp4a, hp4b, hp4c⟩ := hp4
  rw [hp4b, hp4c]
  have hw5 := hS.w (i := q.toNat) (by first | with_reducible assumption | decide | omega)
  have hw5r := hw5.rg
  show zG C V (4 - 1) (24 - 6) 5 [(0, .ref (ad 1)), (1, .int (zI (q))), (2, .int (zI (q2))), (3, .int (zI (n)))] [.ref (ad (10 + q.toNat))]
  refine zr_astore X 7 [(4, .ref (ad (10 + q.toNat))), (0, .ref (ad 1)), (1, .int (zI (q))), (2, .int (zI (q2))), (3, .int (zI (n)))] dX6_pour_5 rfl (by decide) rfl ?_
  refine zr_aload_n X 8 1 dX6_pour_7 rfl rfl ?_
  refine zr_iload_n X 9 3 dX6_pour_8 rfl rfl ?_
  refine zr_callVN (kc' := (4 - 1) - 1) (ks' := (24 - 6) - 6) X Y 12 1 (m_X6_windowOf l hlt Γ hS (q := q2) (by first | with_reducible assumption | decide | omega)) gX6_pour_X6_windowOf rfl (by decide +kernel) rfl (by decide) hx1 rfl rfl (Nat.le_of_ble_eq_true rfl) dX6_pour_9 rfl (by first | with_reducible assumption | decide | omega) (by first | with_reducible assumption | decide | omega) (fun E W hX => ⟨hX.2.2, Or.inl ⟨hX.1, by have := hX.2.1; omega⟩⟩) (fun rv6 V7 hp8 => ?_)
  obtain ⟨hp8a, hp8b, hp8c⟩ := hp8
  rw [hp8b, hp8c]
  have hw9 := hS.w (i := q2.toNat) (by first | with_reducible assumption | decide | omega)
  have hw9r := hw9.rg
  show zG C V ((4 - 1) - 1) ((24 - 6) - 6) 12 [(4, .ref (ad (10 + q.toNat))), (0, .ref (ad 1)), (1, .int (zI (q))), (2, .int (zI (q2))), (3, .int (zI (n)))] [.ref (ad (10 + q2.toNat))]
  refine zr_astore X 14 [(5, .ref (ad (10 + q2.toNat))), (4, .ref (ad (10 + q.toNat))), (0, .ref (ad 1)), (1, .int (zI (q))), (2, .int (zI (q2))), (3, .int (zI (n)))] dX6_pour_12 rfl (by decide) rfl ?_
  refine zr_iload_n X 15 3 dX6_pour_14 rfl rfl ?_
  refine zr_iload_n X 16 4 dX6_pour_15 rfl rfl ?_
  refine zr_icmp_eq X 23 19 dX6_pour_16 rfl rfl (by first | with_reducible assumption | decide | omega) (by first | with_reducible assumption | decide | omega) (fun bq10 => ?_) (fun bq10 => ?_)
  · exfalso
    omega
  · refine zr_iconst X 20 dX6_pour_19 rfl ?_
    refine zr_goto X 24 dX6_pour_20 rfl ?_
    refine zr_callSN (kc' := ((4 - 1) - 1) - 1) (ks' := ((24 - 6) - 6) - 6) X Y 27 1 (m_X6_require l hlt Γ (V := V) (b := 1) (by first | with_reducible assumption | decide | omega)) gX6_pour_X6_require rfl (by decide +kernel) rfl (by decide) rfl (Nat.le_of_ble_eq_true rfl) dX6_pour_24 rfl (by first | with_reducible assumption | decide | omega) (by first | with_reducible assumption | decide | omega) (fun E W hX => ⟨hX.2.2, Or.inr ⟨hX.1, by have := hX.2.1; omega⟩⟩) (fun rv11 V12 hp13 => ?_)
    obtain ⟨hp13a, hp13b, hp13c⟩ := hp13
    rw [hp13b, hp13c]
    show zG C V (((4 - 1) - 1) - 1) (((24 - 6) - 6) - 6) 27 [(5, .ref (ad (10 + q2.toNat))), (4, .ref (ad (10 + q.toNat))), (0, .ref (ad 1)), (1, .int (zI (q))), (2, .int (zI (q2))), (3, .int (zI (n)))] []
    refine zr_iload_n X 28 5 dX6_pour_27 rfl rfl ?_
    refine zr_iconst X 29 dX6_pour_28 rfl ?_
    refine zr_bipush X 31 (40) dX6_pour_29 rfl (by decide) ?_
    refine zr_callSN (kc' := (((4 - 1) - 1) - 1) - 1) (ks' := (((24 - 6) - 6) - 6) - 6) X Y 34 3 (m_X6_requireWithin l hlt Γ (V := V) (x := n) (a := 0) (b := 40) (by first | with_reducible assumption | decide | omega) (by first | with_reducible assumption | decide | omega) (by first | with_reducible assumption | decide | omega)) gX6_pour_X6_requireWithin rfl (by decide +kernel) rfl (by decide) rfl (Nat.le_of_ble_eq_true rfl) dX6_pour_31 rfl (by first | with_reducible assumption | decide | omega) (by first | with_reducible assumption | decide | omega) (fun E W hX => ⟨hX.2.2, Or.inr ⟨hX.1, by have := hX.2.1; omega⟩⟩) (fun rv14 V15 hp16 => ?_)
    obtain ⟨hp16a, hp16b, hp16c⟩ := hp16
    rw [hp16b, hp16c]
    show zG C V ((((4 - 1) - 1) - 1) - 1) ((((24 - 6) - 6) - 6) - 6) 34 [(5, .ref (ad (10 + q2.toNat))), (4, .ref (ad (10 + q.toNat))), (0, .ref (ad 1)), (1, .int (zI (q))), (2, .int (zI (q2))), (3, .int (zI (n)))] []
    refine zr_iconst X 35 dX6_pour_34 rfl ?_
    refine zr_istore X 37 [(6, .int (zI (0))), (5, .ref (ad (10 + q2.toNat))), (4, .ref (ad (10 + q.toNat))), (0, .ref (ad 1)), (1, .int (zI (q))), (2, .int (zI (q2))), (3, .int (zI (n)))] dX6_pour_35 rfl (by decide) rfl ?_
    refine zr_sub [0, 1, 2, 6, 5, 4, 3] [(6, .int (zI (0))), (5, .ref (ad (10 + q2.toNat))), (4, .ref (ad (10 + q.toNat))), (3, .int (zI (n))), (2, .int (zI (q2))), (1, .int (zI (q))), (0, .ref (ad 1))] rfl ?_
    have loop : ∀ (N : Nat) (V1 : zV) (σ1 : Nat → Int) (k : Int), zS Γ V1 ad σ1 ∧ zfx V V1 ∧ σ1 = zw4 (zw4 σ q.toNat (σ (4 * q.toNat)) (σ (4 * q.toNat + 1)) (σ (4 * q.toNat + 2) + k) (σ (4 * q.toNat + 3))) q2.toNat (σ (4 * q2.toNat)) (σ (4 * q2.toNat + 1)) (σ (4 * q2.toNat + 2) + k) (σ (4 * q2.toNat + 3)) ∧ 0 ≤ k ∧ k ≤ n ∧ σ (4 * q.toNat + 2) + k ≤ σ (4 * q.toNat + 1) ∧ σ (4 * q2.toNat + 2) + k ≤ σ (4 * q2.toNat + 1) → (n - k).toNat = N → zG C V1 ((((4 - 1) - 1) - 1) - 1) ((((24 - 6) - 6) - 6) - 6) 37 [(6, .int (zI (k))), (5, .ref (ad (10 + q2.toNat))), (4, .ref (ad (10 + q.toNat))), (3, .int (zI (n))), (2, .int (zI (q2))), (1, .int (zI (q))), (0, .ref (ad 1))] [] := by
      intro N
      induction N using Nat.strongRecOn with
      | _ N ih =>
      intro V1 σ1 k hI hN
      obtain ⟨hI1, hI2, hI3, hI4, hI5, hI6, hI7⟩ := id hI
      have hx17 : V1 (ad 1) = some (1, .inr (7, [.ref (ad 2), .ref (ad 20), .ref (ad 22), .ref (ad 24), .ref (ad 16), .ref (ad 31), .ref (ad 33), .ref (ad 35), .ref (ad 40), .ref (ad 45), .int (zI (σ1 30)), .int (zI (σ1 31)), .int (zI (σ1 32)), .int (zI (σ1 33))])) := hI1.1
      have hw18 : zWi Γ V1 (10 + q.toNat) (ad (10 + q.toNat)) (σ (4 * q.toNat)) (σ (4 * q.toNat + 1)) (σ (4 * q.toNat + 2) + k) (σ (4 * q.toNat + 3)) := by
        have h := hI1.w (i := q.toNat) (by first | with_reducible assumption | decide | omega)
        rw [hI3, zw4_ne0 (show q.toNat ≠ q2.toNat by omega), zw4_ne (show q.toNat ≠ q2.toNat by omega) (by first | with_reducible assumption | decide | omega), zw4_ne (show q.toNat ≠ q2.toNat by omega) (by first | with_reducible assumption | decide | omega), zw4_ne (show q.toNat ≠ q2.toNat by omega) (by first | with_reducible assumption | decide | omega), zw4_0, zw4_1, zw4_2, zw4_3] at h
        exact h
      have hw18r := hw18.rg
      have hw19 : zWi Γ V1 (10 + q2.toNat) (ad (10 + q2.toNat)) (σ (4 * q2.toNat)) (σ (4 * q2.toNat + 1)) (σ (4 * q2.toNat + 2) + k) (σ (4 * q2.toNat + 3)) := by
        have h := hI1.w (i := q2.toNat) (by first | with_reducible assumption | decide | omega)
        rw [hI3, zw4_0, zw4_1, zw4_2, zw4_3] at h
        exact h
      have hw19r := hw19.rg
      refine zr_iload X 39 0 dX6_pour_37 rfl rfl ?_
      refine zr_iload_n X 40 3 dX6_pour_39 rfl rfl ?_
      refine zr_icmp_ge X 76 43 dX6_pour_40 rfl rfl (by first | with_reducible assumption | decide | omega) (by first | with_reducible assumption | decide | omega) (fun bq20 => ?_) (fun bq20 => ?_)
      · refine zr_aload_n X 77 6 dX6_pour_76 rfl rfl ?_
        refine zr_iload X 79 0 dX6_pour_77 rfl rfl ?_
        refine zr_callVe (kc' := ((((4 - 1) - 1) - 1) - 1)) (ks' := ((((24 - 6) - 6) - 6) - 6)) X 82 1 (m_X6_done l Γ hI1) gX6_pour_X6_done rfl (by decide +kernel) rfl (by decide) hI1.x rfl rfl (Nat.le_of_ble_eq_true rfl) dX6_pour_79 rfl (by first | with_reducible assumption | decide | omega) (by first | with_reducible assumption | decide | omega) (fun rv21 V22 hp23 => ?_)
        obtain ⟨hp23e, hS24, fx25⟩ := hp23
        rw [hp23e]
        obtain ⟨σ26, σ26e⟩ : ∃ zz9 : Nat → Int, zz9 = zdn σ1 := ⟨_, rfl⟩
        rw [← σ26e] at hS24
        have fx27 := zag.tr hI2 fx25
        have hx28 : V22 (ad 1) = some (1, .inr (7, [.ref (ad 2), .ref (ad 20), .ref (ad 22), .ref (ad 24), .ref (ad 16), .ref (ad 31), .ref (ad 33), .ref (ad 35), .ref (ad 40), .ref (ad 45), .int (zI (σ26 30)), .int (zI (σ26 31)), .int (zI (σ26 32)), .int (zI (σ26 33))])) := hS24.1
        show zG C V22 ((((4 - 1) - 1) - 1) - 1) ((((24 - 6) - 6) - 6) - 6) 82 [(6, .int (zI (k))), (5, .ref (ad (10 + q2.toNat))), (4, .ref (ad (10 + q.toNat))), (3, .int (zI (n))), (2, .int (zI (q2))), (1, .int (zI (q))), (0, .ref (ad 1))] [.int (zI (k))]
        exact zr_iret X rfl ⟨k, σ26, rfl, hS24, fx27, ⟨by omega, by omega, by omega, by omega, by omega, by omega, by rw [σ26e, hI3]⟩⟩ dX6_pour_82
      · refine zr_aload X 45 2 dX6_pour_43 rfl rfl ?_
        refine zr_callVe (kc' := ((((4 - 1) - 1) - 1) - 1)) (ks' := ((((24 - 6) - 6) - 6) - 6)) X 48 0 (e_size l Γ hw18) gX6_pour_X5_size rfl (by decide +kernel) rfl (by decide) hw18.cl rfl rfl (Nat.le_of_ble_eq_true rfl) dX6_pour_45 rfl (by first | with_reducible assumption | decide | omega) (by first | with_reducible assumption | decide | omega) (fun rv29 V30 hp31 => ?_)
        rw [hp31.1, hp31.2]
        show zG C V1 ((((4 - 1) - 1) - 1) - 1) ((((24 - 6) - 6) - 6) - 6) 48 [(6, .int (zI (k))), (5, .ref (ad (10 + q2.toNat))), (4, .ref (ad (10 + q.toNat))), (3, .int (zI (n))), (2, .int (zI (q2))), (1, .int (zI (q))), (0, .ref (ad 1))] [.int (zI ((σ (4 * q.toNat + 1)) - (σ (4 * q.toNat + 2) + k)))]
        refine zr_if_le X 76 51 dX6_pour_48 rfl rfl (by first | with_reducible assumption | decide | omega) (fun bq32 => ?_) (fun bq32 => ?_)
        · refine zr_aload_n X 77 6 dX6_pour_76 rfl rfl ?_
          refine zr_iload X 79 0 dX6_pour_77 rfl rfl ?_
          refine zr_callVe (kc' := ((((4 - 1) - 1) - 1) - 1)) (ks' := ((((24 - 6) - 6) - 6) - 6)) X 82 1 (m_X6_done l Γ hI1) gX6_pour_X6_done rfl (by decide +kernel) rfl (by decide) hI1.x rfl rfl (Nat.le_of_ble_eq_true rfl) dX6_pour_79 rfl (by first | with_reducible assumption | decide | omega) (by first | with_reducible assumption | decide | omega) (fun rv33 V34 hp35 => ?_)
          obtain ⟨hp35e, hS36, fx37⟩ := hp35
          rw [hp35e]
          obtain ⟨σ38, σ38e⟩ : ∃ zz9 : Nat → Int, zz9 = zdn σ1 := ⟨_, rfl⟩
          rw [← σ38e] at hS36
          have fx39 := zag.tr hI2 fx37
          have hx40 : V34 (ad 1) = some (1, .inr (7, [.ref (ad 2), .ref (ad 20), .ref (ad 22), .ref (ad 24), .ref (ad 16), .ref (ad 31), .ref (ad 33), .ref (ad 35), .ref (ad 40), .ref (ad 45), .int (zI (σ38 30)), .int (zI (σ38 31)), .int (zI (σ38 32)), .int (zI (σ38 33))])) := hS36.1
          show zG C V34 ((((4 - 1) - 1) - 1) - 1) ((((24 - 6) - 6) - 6) - 6) 82 [(6, .int (zI (k))), (5, .ref (ad (10 + q2.toNat))), (4, .ref (ad (10 + q.toNat))), (3, .int (zI (n))), (2, .int (zI (q2))), (1, .int (zI (q))), (0, .ref (ad 1))] [.int (zI (k))]
          exact zr_iret X rfl ⟨k, σ38, rfl, hS36, fx39, ⟨by omega, by omega, by omega, by omega, by omega, by omega, by rw [σ38e, hI3]⟩⟩ dX6_pour_82
        · refine zr_aload X 53 1 dX6_pour_51 rfl rfl ?_
          refine zr_callVe (kc' := ((((4 - 1) - 1) - 1) - 1)) (ks' := ((((24 - 6) - 6) - 6) - 6)) X 56 0 (e_size l Γ hw19) gX6_pour_X5_size rfl (by decide +kernel) rfl (by decide) hw19.cl rfl rfl (Nat.le_of_ble_eq_true rfl) dX6_pour_53 rfl (by first | with_reducible assumption | decide | omega) (by first | with_reducible assumption | decide | omega) (fun rv41 V42 hp43 => ?_)
          rw [hp43.1, hp43.2]
          show zG C V1 ((((4 - 1) - 1) - 1) - 1) ((((24 - 6) - 6) - 6) - 6) 56 [(6, .int (zI (k))), (5, .ref (ad (10 + q2.toNat))), (4, .ref (ad (10 + q.toNat))), (3, .int (zI (n))), (2, .int (zI (q2))), (1, .int (zI (q))), (0, .ref (ad 1))] [.int (zI ((σ (4 * q2.toNat + 1)) - (σ (4 * q2.toNat + 2) + k)))]
          refine zr_if_le X 76 59 dX6_pour_56 rfl rfl (by first | with_reducible assumption | decide | omega) (fun bq44 => ?_) (fun bq44 => ?_)
          · refine zr_aload_n X 77 6 dX6_pour_76 rfl rfl ?_
            refine zr_iload X 79 0 dX6_pour_77 rfl rfl ?_
            refine zr_callVe (kc' := ((((4 - 1) - 1) - 1) - 1)) (ks' := ((((24 - 6) - 6) - 6) - 6)) X 82 1 (m_X6_done l Γ hI1) gX6_pour_X6_done rfl (by decide +kernel) rfl (by decide) hI1.x rfl rfl (Nat.le_of_ble_eq_true rfl) dX6_pour_79 rfl (by first | with_reducible assumption | decide | omega) (by first | with_reducible assumption | decide | omega) (fun rv45 V46 hp47 => ?_)
            obtain ⟨hp47e, hS48, fx49⟩ := hp47
            rw [hp47e]
            obtain ⟨σ50, σ50e⟩ : ∃ zz9 : Nat → Int, zz9 = zdn σ1 := ⟨_, rfl⟩
            rw [← σ50e] at hS48
            have fx51 := zag.tr hI2 fx49
            have hx52 : V46 (ad 1) = some (1, .inr (7, [.ref (ad 2), .ref (ad 20), .ref (ad 22), .ref (ad 24), .ref (ad 16), .ref (ad 31), .ref (ad 33), .ref (ad 35), .ref (ad 40), .ref (ad 45), .int (zI (σ50 30)), .int (zI (σ50 31)), .int (zI (σ50 32)), .int (zI (σ50 33))])) := hS48.1
            show zG C V46 ((((4 - 1) - 1) - 1) - 1) ((((24 - 6) - 6) - 6) - 6) 82 [(6, .int (zI (k))), (5, .ref (ad (10 + q2.toNat))), (4, .ref (ad (10 + q.toNat))), (3, .int (zI (n))), (2, .int (zI (q2))), (1, .int (zI (q))), (0, .ref (ad 1))] [.int (zI (k))]
            exact zr_iret X rfl ⟨k, σ50, rfl, hS48, fx51, ⟨by omega, by omega, by omega, by omega, by omega, by omega, by rw [σ50e, hI3]⟩⟩ dX6_pour_82
          · refine zr_aload X 61 1 dX6_pour_59 rfl rfl ?_
            refine zr_aload X 63 2 dX6_pour_61 rfl rfl ?_
            refine zr_callVe (kc' := ((((4 - 1) - 1) - 1) - 1)) (ks' := ((((24 - 6) - 6) - 6) - 6)) X 66 0 (e_read l Γ hw18 (by first | with_reducible assumption | decide | omega) (by first | with_reducible assumption | decide | omega)) gX6_pour_X5_readSign rfl (by decide +kernel) rfl (by decide) hw18.cl rfl rfl (Nat.le_of_ble_eq_true rfl) dX6_pour_63 rfl (by first | with_reducible assumption | decide | omega) (by first | with_reducible assumption | decide | omega) (fun rv53 V54 hp55 => ?_)
            obtain ⟨hp55x, hp55e, hp55a, hp55b, hp55z⟩ := hp55
            rw [hp55e]
            obtain ⟨hS56, fx57⟩ := hI1.setW (i := q.toNat) (by first | with_reducible assumption | decide | omega) hp55z
            have hw58 := hp55z.1
            have hw59 := hw19.other hp55z (by first | with_reducible assumption | decide | omega) (by first | with_reducible assumption | decide | omega)
            obtain ⟨σ60, σ60e⟩ : ∃ zz9 : Nat → Int, zz9 = zw4 σ1 q.toNat (σ (4 * q.toNat)) (σ (4 * q.toNat + 1)) (σ (4 * q.toNat + 2) + k + 1) (σ (4 * q.toNat + 3)) := ⟨_, rfl⟩
            rw [← σ60e] at hS56
            have fx61 := zag.tr hI2 fx57
            have hx62 : V54 (ad 1) = some (1, .inr (7, [.ref (ad 2), .ref (ad 20), .ref (ad 22), .ref (ad 24), .ref (ad 16), .ref (ad 31), .ref (ad 33), .ref (ad 35), .ref (ad 40), .ref (ad 45), .int (zI (σ60 30)), .int (zI (σ60 31)), .int (zI (σ60 32)), .int (zI (σ60 33))])) := hS56.1
            show zG C V54 ((((4 - 1) - 1) - 1) - 1) ((((24 - 6) - 6) - 6) - 6) 66 [(6, .int (zI (k))), (5, .ref (ad (10 + q2.toNat))), (4, .ref (ad (10 + q.toNat))), (3, .int (zI (n))), (2, .int (zI (q2))), (1, .int (zI (q))), (0, .ref (ad 1))] [.int (zI (hp55x)), .ref (ad (10 + q2.toNat))]
            refine zr_callVe (kc' := ((((4 - 1) - 1) - 1) - 1)) (ks' := ((((24 - 6) - 6) - 6) - 6)) X 69 1 (e_write_y l Γ hw59 (by first | with_reducible assumption | decide | omega) (x := hp55x) (by first | with_reducible assumption | decide | omega) (by first | with_reducible assumption | decide | omega)) gX6_pour_X5_writeSign rfl (by decide +kernel) rfl (by decide) hw59.cl rfl rfl (Nat.le_of_ble_eq_true rfl) dX6_pour_66 rfl (by first | with_reducible assumption | decide | omega) (by first | with_reducible assumption | decide | omega) (fun rv63 V64 hp65 => ?_)
            obtain ⟨hp65e, hp65z⟩ := hp65
            rw [hp65e]
            obtain ⟨hS66, fx67⟩ := hS56.setW (i := q2.toNat) (by first | with_reducible assumption | decide | omega) hp65z
            have hw68 := hw58.other hp65z (by first | with_reducible assumption | decide | omega) (by first | with_reducible assumption | decide | omega)
            have hw69 := hp65z.1
            obtain ⟨σ70, σ70e⟩ : ∃ zz9 : Nat → Int, zz9 = zw4 σ60 q2.toNat (σ (4 * q2.toNat)) (σ (4 * q2.toNat + 1)) (σ (4 * q2.toNat + 2) + k + 1) (σ (4 * q2.toNat + 3)) := ⟨_, rfl⟩
            rw [← σ70e] at hS66
            have fx71 := zag.tr fx61 fx67
            have hx72 : V64 (ad 1) = some (1, .inr (7, [.ref (ad 2), .ref (ad 20), .ref (ad 22), .ref (ad 24), .ref (ad 16), .ref (ad 31), .ref (ad 33), .ref (ad 35), .ref (ad 40), .ref (ad 45), .int (zI (σ70 30)), .int (zI (σ70 31)), .int (zI (σ70 32)), .int (zI (σ70 33))])) := hS66.1
            show zG C V64 ((((4 - 1) - 1) - 1) - 1) ((((24 - 6) - 6) - 6) - 6) 69 [(6, .int (zI (k))), (5, .ref (ad (10 + q2.toNat))), (4, .ref (ad (10 + q.toNat))), (3, .int (zI (n))), (2, .int (zI (q2))), (1, .int (zI (q))), (0, .ref (ad 1))] [.int (zI (1))]
            refine zr_pop X 70 dX6_pour_69 rfl rfl ?_
            refine zr_iinc X 73 0 [(6, .int (zI (k + 1))), (5, .ref (ad (10 + q2.toNat))), (4, .ref (ad (10 + q.toNat))), (3, .int (zI (n))), (2, .int (zI (q2))), (1, .int (zI (q))), (0, .ref (ad 1))] dX6_pour_70 rfl rfl (by decide) rfl ?_
            refine zr_goto X 37 dX6_pour_73 rfl ?_
            exact ih _ (by first | with_reducible assumption | decide | omega) V64 σ70 (k + 1) ⟨hS66, fx71, by rw [σ70e, σ60e, hI3, zw4_two (show q.toNat ≠ q2.toNat by omega), Int.add_assoc, Int.add_assoc], by omega, by omega, by omega, by omega⟩ rfl
    exact loop _ V σ 0 ⟨hS, zag.rf, (by rw [Int.add_zero, Int.add_zero, zw4_id, zw4_id]), by omega, by omega, by omega, by omega⟩ rfl
set_option maxRecDepth 100000 in
set_option maxHeartbeats 4000000 in
theorem m_X6_pour_eq (l : Launch) (hlt : l.stackTraces = false) (Γ : zGam) {V : zV} {ad : Nat → Nat} {σ : Nat → Int} {q n : Int} (hS : zS Γ V ad σ) (hq : -2147483648 ≤ q ∧ q ≤ 2147483647) (hn : -2147483648 ≤ n ∧ n ≤ 2147483647) : zN l Γ 8 yX6_pour wsX6_pour 4 24 V [.ref (ad 1), .int (zI (q)), .int (zI (q)), .int (zI (n))] (fun rv V' => ∃ (y : Int) (σ' : Nat → Int), rv = some (.int (zI y)) ∧ zS Γ V' ad σ' ∧ zfx V V' ∧ (False)) (fun E V' => V' = V ∧ ((E = zIO ∧ ¬ (0 ≤ q ∧ q < 6)) ∨ (E = zIA ∧ (0 ≤ q ∧ q < 6)))) := by
  refine zN_of (cc := cX6_pour) (nL := 7) (ret := (some .int)) (own := RX6) hlt (by decide +kernel) rfl rfl (Nat.le_of_ble_eq_true rfl) (fun C X Y => ?_)
  have hx1 : V (ad 1) = some (1, .inr (7, [.ref (ad 2), .ref (ad 20), .ref (ad 22), .ref (ad 24), .ref (ad 16), .ref (ad 31), .ref (ad 33), .ref (ad 35), .ref (ad 40), .ref (ad 45), .int (zI (σ 30)), .int (zI (σ 31)), .int (zI (σ 32)), .int (zI (σ 33))])) := hS.1
  show zG C V 4 24 0 [(0, .ref (ad 1)), (1, .int (zI (q))), (2, .int (zI (q))), (3, .int (zI (n)))] []
  refine zr_aload_n X 1 0 dX6_pour_0 rfl rfl ?_
  refine zr_iload_n X 2 1 dX6_pour_1 rfl rfl ?_
  refine zr_callVN (kc' := 4 - 1) (ks' := 24 - 6) X Y 5 1 (m_X6_windowOf l hlt Γ hS (q := q) (by first | with_reducible assumption | decide | omega)) gX6_pour_X6_windowOf rfl (by decide +kernel) rfl (by decide) hx1 rfl rfl (Nat.le_of_ble_eq_true rfl) dX6_pour_2 rfl (by first | with_reducible assumption | decide | omega) (by first | with_reducible assumption | decide | omega) (fun E W hX => ⟨hX.2.2, Or.inl ⟨hX.1, by have := hX.2.1; omega⟩⟩) (fun rv2 V3 hp4 => ?_)
  obtain ⟨hp4a, hp4b, hp4c⟩ := hp4
  rw [hp4b, hp4c]
  have hw5 := hS.w (i := q.toNat) (by first | with_reducible assumption | decide | omega)
  have hw5r := hw5.rg
  show zG C V (4 - 1) (24 - 6) 5 [(0, .ref (ad 1)), (1, .int (zI (q))), (2, .int (zI (q))), (3, .int (zI (n)))] [.ref (ad (10 + q.toNat))]
  refine zr_astore X 7 [(4, .ref (ad (10 + q.toNat))), (0, .ref (ad 1)), (1, .int (zI (q))), (2, .int (zI (q))), (3, .int (zI (n)))] dX6_pour_5 rfl (by decide) rfl ?_
  refine zr_aload_n X 8 1 dX6_pour_7 rfl rfl ?_
  refine zr_iload_n X 9 3 dX6_pour_8 rfl rfl ?_
  refine zr_callVN (kc' := (4 - 1) - 1) (ks' := (24 - 6) - 6) X Y 12 1 (m_X6_windowOf l hlt Γ hS (q := q) (by first | with_reducible assumption | decide | omega)) gX6_pour_X6_windowOf rfl (by decide +kernel) rfl (by decide) hx1 rfl rfl (Nat.le_of_ble_eq_true rfl) dX6_pour_9 rfl (by first | with_reducible assumption | decide | omega) (by first | with_reducible assumption | decide | omega) (fun E W hX => ⟨hX.2.2, Or.inl ⟨hX.1, by have := hX.2.1; omega⟩⟩) (fun rv6 V7 hp8 => ?_)
  obtain ⟨hp8a, hp8b, hp8c⟩ := hp8
  rw [hp8b, hp8c]
  have hw9 := hS.w (i := q.toNat) (by first | with_reducible assumption | decide | omega)
  have hw9r := hw9.rg
  show zG C V ((4 - 1) - 1) ((24 - 6) - 6) 12 [(4, .ref (ad (10 + q.toNat))), (0, .ref (ad 1)), (1, .int (zI (q))), (2, .int (zI (q))), (3, .int (zI (n)))] [.ref (ad (10 + q.toNat))]
  refine zr_astore X 14 [(5, .ref (ad (10 + q.toNat))), (4, .ref (ad (10 + q.toNat))), (0, .ref (ad 1)), (1, .int (zI (q))), (2, .int (zI (q))), (3, .int (zI (n)))] dX6_pour_12 rfl (by decide) rfl ?_
  refine zr_iload_n X 15 3 dX6_pour_14 rfl rfl ?_
  refine zr_iload_n X 16 4 dX6_pour_15 rfl rfl ?_
  refine zr_icmp_eq X 23 19 dX6_pour_16 rfl rfl (by first | with_reducible assumption | decide | omega) (by first | with_reducible assumption | decide | omega) (fun bq10 => ?_) (fun bq10 => ?_)
  · refine zr_iconst X 24 dX6_pour_23 rfl ?_
    refine zr_callSN (kc' := ((4 - 1) - 1) - 1) (ks' := ((24 - 6) - 6) - 6) X Y 27 1 (m_X6_require l hlt Γ (V := V) (b := 0) (by first | with_reducible assumption | decide | omega)) gX6_pour_X6_require rfl (by decide +kernel) rfl (by decide) rfl (Nat.le_of_ble_eq_true rfl) dX6_pour_24 rfl (by first | with_reducible assumption | decide | omega) (by first | with_reducible assumption | decide | omega) (fun E W hX => ⟨hX.2.2, Or.inr ⟨hX.1, by have := hX.2.1; omega⟩⟩) (fun rv11 V12 hp13 => ?_)
    obtain ⟨hp13a, hp13b, hp13c⟩ := hp13
    rw [hp13b, hp13c]
    show zG C V (((4 - 1) - 1) - 1) (((24 - 6) - 6) - 6) 27 [(5, .ref (ad (10 + q.toNat))), (4, .ref (ad (10 + q.toNat))), (0, .ref (ad 1)), (1, .int (zI (q))), (2, .int (zI (q))), (3, .int (zI (n)))] []
    exfalso
    omega
  · exfalso
    omega
set_option maxRecDepth 100000 in
set_option maxHeartbeats 4000000 in
theorem m_X6_sign (l : Launch) (hlt : l.stackTraces = false) (Γ : zGam) {V : zV} {ad : Nat → Nat} {σ : Nat → Int} {q z : Int} (hS : zS Γ V ad σ) (hq : -2147483648 ≤ q ∧ q ≤ 2147483647) (hz : -2147483648 ≤ z ∧ z ≤ 2147483647) : zN l Γ 8 yX6_sign wsX6_sign 2 12 V [.ref (ad 1), .int (zI (q)), .int (zI (z))] (fun rv V' => ∃ (y : Int) (σ' : Nat → Int), rv = some (.int (zI y)) ∧ zS Γ V' ad σ' ∧ zfx V V' ∧ ((0 ≤ q ∧ q < 6) ∧ -9 ≤ y ∧ y ≤ 255 ∧ σ' = σ)) (fun E V' => V' = V ∧ ((E = zIO ∧ ¬ (0 ≤ q ∧ q < 6)) ∨ (E = zIA ∧ False))) := by
  refine zN_of (cc := cX6_sign) (nL := 3) (ret := (some .int)) (own := RX6) hlt (by decide +kernel) rfl rfl (Nat.le_of_ble_eq_true rfl) (fun C X Y => ?_)
  have hx1 : V (ad 1) = some (1, .inr (7, [.ref (ad 2), .ref (ad 20), .ref (ad 22), .ref (ad 24), .ref (ad 16), .ref (ad 31), .ref (ad 33), .ref (ad 35), .ref (ad 40), .ref (ad 45), .int (zI (σ 30)), .int (zI (σ 31)), .int (zI (σ 32)), .int (zI (σ 33))])) := hS.1
  show zG C V 2 12 0 [(0, .ref (ad 1)), (1, .int (zI (q))), (2, .int (zI (z)))] []
  refine zr_aload_n X 1 0 dX6_sign_0 rfl rfl ?_
  refine zr_iload_n X 2 1 dX6_sign_1 rfl rfl ?_
  refine zr_callVN (kc' := 2 - 1) (ks' := 12 - 6) X Y 5 1 (m_X6_windowOf l hlt Γ hS (q := q) (by first | with_reducible assumption | decide | omega)) gX6_sign_X6_windowOf rfl (by decide +kernel) rfl (by decide) hx1 rfl rfl (Nat.le_of_ble_eq_true rfl) dX6_sign_2 rfl (by first | with_reducible assumption | decide | omega) (by first | with_reducible assumption | decide | omega) (fun E W hX => ⟨hX.2.2, Or.inl ⟨hX.1, by have := hX.2.1; omega⟩⟩) (fun rv2 V3 hp4 => ?_)
  obtain ⟨hp4a, hp4b, hp4c⟩ := hp4
  rw [hp4b, hp4c]
  have hw5 := hS.w (i := q.toNat) (by first | with_reducible assumption | decide | omega)
  have hw5r := hw5.rg
  show zG C V (2 - 1) (12 - 6) 5 [(0, .ref (ad 1)), (1, .int (zI (q))), (2, .int (zI (z)))] [.ref (ad (10 + q.toNat))]
  refine zr_iload_n X 6 2 dX6_sign_5 rfl rfl ?_
  refine zr_callVe (kc' := (2 - 1)) (ks' := (12 - 6)) X 9 1 (e_at l Γ hw5 (k := z) (by first | with_reducible assumption | decide | omega)) gX6_sign_X5_at rfl (by decide +kernel) rfl (by decide) hw5.cl rfl rfl (Nat.le_of_ble_eq_true rfl) dX6_sign_6 rfl (by first | with_reducible assumption | decide | omega) (by first | with_reducible assumption | decide | omega) (fun rv6 V7 hp8 => ?_)
  obtain ⟨hp8x, hp8e, hp8v, hp8a, hp8b, hp8c, hp8d⟩ := hp8
  rw [hp8e, hp8v]
  show zG C V (2 - 1) (12 - 6) 9 [(0, .ref (ad 1)), (1, .int (zI (q))), (2, .int (zI (z)))] [.int (zI (hp8x))]
  exact zr_iret X rfl ⟨hp8x, σ, rfl, hS, zag.rf, ⟨by omega, by omega, by omega, rfl⟩⟩ dX6_sign_9
set_option maxRecDepth 100000 in
set_option maxHeartbeats 4000000 in
theorem m_X6_look (l : Launch) (hlt : l.stackTraces = false) (Γ : zGam) {V : zV} {ad : Nat → Nat} {σ : Nat → Int} {q z : Int} (hS : zS Γ V ad σ) (hq : -2147483648 ≤ q ∧ q ≤ 2147483647) (hz : -2147483648 ≤ z ∧ z ≤ 2147483647) : zN l Γ 8 yX6_look wsX6_look 2 12 V [.ref (ad 1), .int (zI (q)), .int (zI (z))] (fun rv V' => ∃ (y : Int) (σ' : Nat → Int), rv = some (.int (zI y)) ∧ zS Γ V' ad σ' ∧ zfx V V' ∧ ((0 ≤ q ∧ q < 6) ∧ -9 ≤ y ∧ y ≤ 255 ∧ σ' = σ)) (fun E V' => V' = V ∧ ((E = zIO ∧ ¬ (0 ≤ q ∧ q < 6)) ∨ (E = zIA ∧ False))) := by
  refine zN_of (cc := cX6_look) (nL := 3) (ret := (some .int)) (own := RX6) hlt (by decide +kernel) rfl rfl (Nat.le_of_ble_eq_true rfl) (fun C X Y => ?_)
  have hx1 : V (ad 1) = some (1, .inr (7, [.ref (ad 2), .ref (ad 20), .ref (ad 22), .ref (ad 24), .ref (ad 16), .ref (ad 31), .ref (ad 33), .ref (ad 35), .ref (ad 40), .ref (ad 45), .int (zI (σ 30)), .int (zI (σ 31)), .int (zI (σ 32)), .int (zI (σ 33))])) := hS.1
  show zG C V 2 12 0 [(0, .ref (ad 1)), (1, .int (zI (q))), (2, .int (zI (z)))] []
  refine zr_aload_n X 1 0 dX6_look_0 rfl rfl ?_
  refine zr_iload_n X 2 1 dX6_look_1 rfl rfl ?_
  refine zr_callVN (kc' := 2 - 1) (ks' := 12 - 6) X Y 5 1 (m_X6_windowOf l hlt Γ hS (q := q) (by first | with_reducible assumption | decide | omega)) gX6_look_X6_windowOf rfl (by decide +kernel) rfl (by decide) hx1 rfl rfl (Nat.le_of_ble_eq_true rfl) dX6_look_2 rfl (by first | with_reducible assumption | decide | omega) (by first | with_reducible assumption | decide | omega) (fun E W hX => ⟨hX.2.2, Or.inl ⟨hX.1, by have := hX.2.1; omega⟩⟩) (fun rv2 V3 hp4 => ?_)
  obtain ⟨hp4a, hp4b, hp4c⟩ := hp4
  rw [hp4b, hp4c]
  have hw5 := hS.w (i := q.toNat) (by first | with_reducible assumption | decide | omega)
  have hw5r := hw5.rg
  show zG C V (2 - 1) (12 - 6) 5 [(0, .ref (ad 1)), (1, .int (zI (q))), (2, .int (zI (z)))] [.ref (ad (10 + q.toNat))]
  refine zr_iload_n X 6 2 dX6_look_5 rfl rfl ?_
  refine zr_callVe (kc' := (2 - 1)) (ks' := (12 - 6)) X 9 1 (e_atPlace l Γ hw5 (k := z) (by first | with_reducible assumption | decide | omega)) gX6_look_X5_atPlace rfl (by decide +kernel) rfl (by decide) hw5.cl rfl rfl (Nat.le_of_ble_eq_true rfl) dX6_look_6 rfl (by first | with_reducible assumption | decide | omega) (by first | with_reducible assumption | decide | omega) (fun rv6 V7 hp8 => ?_)
  obtain ⟨hp8x, hp8e, hp8v, hp8a, hp8b, hp8c, hp8d⟩ := hp8
  rw [hp8e, hp8v]
  show zG C V (2 - 1) (12 - 6) 9 [(0, .ref (ad 1)), (1, .int (zI (q))), (2, .int (zI (z)))] [.int (zI (hp8x))]
  exact zr_iret X rfl ⟨hp8x, σ, rfl, hS, zag.rf, ⟨by omega, by omega, by omega, rfl⟩⟩ dX6_look_9
