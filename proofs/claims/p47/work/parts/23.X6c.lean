section
/-! Sashwords: the windows' calls with loops -/
theorem zw4_0 {σ : Nat → Int} {i : Nat} {c l p m : Int} : zw4 σ i c l p m (4 * i) = c := by unfold zw4; rw [if_pos rfl]
theorem zw4_1 {σ : Nat → Int} {i : Nat} {c l p m : Int} : zw4 σ i c l p m (4 * i + 1) = l := by unfold zw4; rw [if_neg (by omega), if_pos rfl]
theorem zw4_2 {σ : Nat → Int} {i : Nat} {c l p m : Int} : zw4 σ i c l p m (4 * i + 2) = p := by unfold zw4; rw [if_neg (by omega), if_neg (by omega), if_pos rfl]
theorem zw4_3 {σ : Nat → Int} {i : Nat} {c l p m : Int} : zw4 σ i c l p m (4 * i + 3) = m := by unfold zw4; rw [if_neg (by omega), if_neg (by omega), if_neg (by omega), if_pos rfl]
theorem zw4_ne {σ : Nat → Int} {i j k : Nat} {c l p m : Int} (h : j ≠ i) (hk : k < 4) : zw4 σ i c l p m (4 * j + k) = σ (4 * j + k) := by
  unfold zw4
  rw [if_neg (by omega), if_neg (by omega), if_neg (by omega), if_neg (by omega)]
theorem zw4_ne0 {σ : Nat → Int} {i j : Nat} {c l p m : Int} (h : j ≠ i) : zw4 σ i c l p m (4 * j) = σ (4 * j) := zw4_ne (k := 0) h (by omega)
theorem zw4_zw4 {σ : Nat → Int} {i : Nat} {c l p m c' l' p' m' : Int} : zw4 (zw4 σ i c l p m) i c' l' p' m' = zw4 σ i c' l' p' m' := by
  funext j
  unfold zw4
  by_cases h0 : j = 4 * i
  · simp [h0]
  · by_cases h1 : j = 4 * i + 1
    · simp [h1]
    · by_cases h2 : j = 4 * i + 2
      · simp [h2]
      · by_cases h3 : j = 4 * i + 3
        · simp [h3]
        · simp [h0, h1, h2, h3]
theorem zw4_comm {σ : Nat → Int} {i j : Nat} {c l p m c' l' p' m' : Int} (h : i ≠ j) : zw4 (zw4 σ i c l p m) j c' l' p' m' = zw4 (zw4 σ j c' l' p' m') i c l p m := by
  funext k
  unfold zw4
  by_cases h0 : k = 4 * i ∨ k = 4 * i + 1 ∨ k = 4 * i + 2 ∨ k = 4 * i + 3
  · rw [if_neg (by omega), if_neg (by omega), if_neg (by omega), if_neg (by omega)]
    rw [if_neg (c := k = 4 * j) (by omega), if_neg (c := k = 4 * j + 1) (by omega), if_neg (c := k = 4 * j + 2) (by omega), if_neg (c := k = 4 * j + 3) (by omega)]
  · rw [if_neg (c := k = 4 * i) (by omega), if_neg (c := k = 4 * i + 1) (by omega), if_neg (c := k = 4 * i + 2) (by omega), if_neg (c := k = 4 * i + 3) (by omega)]
    rw [if_neg (c := k = 4 * i) (by omega), if_neg (c := k = 4 * i + 1) (by omega), if_neg (c := k = 4 * i + 2) (by omega), if_neg (c := k = 4 * i + 3) (by omega)]
theorem zw4_id {σ : Nat → Int} {i : Nat} : zw4 σ i (σ (4 * i)) (σ (4 * i + 1)) (σ (4 * i + 2)) (σ (4 * i + 3)) = σ := by
  funext j
  unfold zw4
  by_cases h0 : j = 4 * i
  · simp [h0]
  · by_cases h1 : j = 4 * i + 1
    · simp [h1]
    · by_cases h2 : j = 4 * i + 2
      · simp [h2]
      · by_cases h3 : j = 4 * i + 3
        · simp [h3]
        · simp [h0, h1, h2, h3]
theorem zmulb {a b A B : Int} (ha : 0 ≤ a ∧ a ≤ A) (hb : 0 ≤ b ∧ b ≤ B) : 0 ≤ a * b ∧ a * b ≤ A * B := ⟨Int.mul_nonneg ha.1 hb.1, Int.mul_le_mul ha.2 hb.2 hb.1 (by omega)⟩
theorem zSB.kept {Γ : zGam} {V V' : zV} {P : Nat → Prop} {b cap : Nat} {cnt : Int} (h : zSB Γ V b cnt cap) (ha : zag P V V') (h7 : P 7) : zSB Γ V' b cnt cap := by
  obtain ⟨v, mb, f, h1, h2, h3⟩ := h
  exact ⟨v, mb, f, ha _ _ _ h1 h7, ha _ _ _ h2 h7, h3⟩
theorem zfr.ag {V V' : zV} (h : zfr V V') : zag (fun t => t ≠ 7) V V' := h
theorem zS.fr {Γ : zGam} {V V' : zV} {ad : Nat → Nat} {σ : Nat → Int} (h : zS Γ V ad σ) (hf : zfr V V') : zS Γ V' ad σ ∧ zfx V V' := ⟨h.kept hf.ag (fun t _ _ h7 => h7), hf.ag.mono (fun t ht => by omega)⟩
set_option maxRecDepth 100000 in
set_option maxHeartbeats 4000000 in
theorem m_X6_run (l : Launch) (hlt : l.stackTraces = false) (Γ : zGam) {V : zV} {ad : Nat → Nat} {σ : Nat → Int} {q x st n : Int} (hS : zS Γ V ad σ) (hq : -2147483648 ≤ q ∧ q ≤ 2147483647) (hx : -2147483648 ≤ x ∧ x ≤ 2147483647) (hst : -2147483648 ≤ st ∧ st ≤ 2147483647) (hn : -2147483648 ≤ n ∧ n ≤ 2147483647) : zN l Γ 8 yX6_run wsX6_run 4 24 V [.ref (ad 1), .int (zI (q)), .int (zI (x)), .int (zI (st)), .int (zI (n))] (fun rv V' => ∃ (y : Int) (σ' : Nat → Int), rv = some (.int (zI y)) ∧ zS Γ V' ad σ' ∧ zfx V V' ∧ ((0 ≤ q ∧ q < 6 ∧ 0 ≤ x ∧ x ≤ 255 ∧ 0 ≤ st ∧ st ≤ 255 ∧ 0 ≤ n ∧ n ≤ 40) ∧ 0 ≤ y ∧ y ≤ n ∧ y ≤ σ (4 * q.toNat + 1) - σ (4 * q.toNat + 2) ∧ (y = n ∨ y = σ (4 * q.toNat + 1) - σ (4 * q.toNat + 2)) ∧ σ' = zdn (zw4 σ q.toNat (σ (4 * q.toNat)) (σ (4 * q.toNat + 1)) (σ (4 * q.toNat + 2) + y) (σ (4 * q.toNat + 3))))) (fun E V' => V' = V ∧ ((E = zIO ∧ ¬ (0 ≤ q ∧ q < 6)) ∨ (E = zIA ∧ (0 ≤ q ∧ q < 6) ∧ ¬ (0 ≤ x ∧ x ≤ 255 ∧ 0 ≤ st ∧ st ≤ 255 ∧ 0 ≤ n ∧ n ≤ 40)))) := by
  refine zN_of (cc := cX6_run) (nL := 7) (ret := (some .int)) (own := RX6) hlt (by decide +kernel) rfl rfl (Nat.le_of_ble_eq_true rfl) (fun C X Y => ?_)
  have hx1 : V (ad 1) = some (1, .inr (7, [.ref (ad 2), .ref (ad 20), .ref (ad 22), .ref (ad 24), .ref (ad 16), .ref (ad 31), .ref (ad 33), .ref (ad 35), .ref (ad 40), .ref (ad 45), .int (zI (σ 30)), .int (zI (σ 31)), .int (zI (σ 32)), .int (zI (σ 33))])) := hS.1
  show zG C V 4 24 0 [(0, .ref (ad 1)), (1, .int (zI (q))), (2, .int (zI (x))), (3, .int (zI (st))), (4, .int (zI (n)))] []
  refine zr_aload_n X 1 0 dX6_run_0 rfl rfl ?_
  refine zr_iload_n X 2 1 dX6_run_1 rfl rfl ?_
  refine zr_callVN (kc' := 4 - 1) (ks' := 24 - 6) X Y 5 1 (m_X6_windowOf l hlt Γ hS (q := q) (by omega)) gX6_run_X6_windowOf rfl (by decide +kernel) rfl (by decide) hx1 rfl rfl (Nat.le_of_ble_eq_true rfl) dX6_run_2 rfl (by omega) (by omega) (fun E W hX => ⟨hX.2.2, Or.inl ⟨hX.1, by have := hX.2.1; omega⟩⟩) (fun rv2 V3 hp4 => ?_)
  obtain ⟨hp4a, hp4b, hp4c⟩ := hp4
  rw [hp4b, hp4c]
  have hw5 := hS.w (i := q.toNat) (by omega)
  have hw5r := hw5.rg
  show zG C V (4 - 1) (24 - 6) 5 [(0, .ref (ad 1)), (1, .int (zI (q))), (2, .int (zI (x))), (3, .int (zI (st))), (4, .int (zI (n)))] [.ref (ad (10 + q.toNat))]
  refine zr_astore X 7 [(5, .ref (ad (10 + q.toNat))), (0, .ref (ad 1)), (1, .int (zI (q))), (2, .int (zI (x))), (3, .int (zI (st))), (4, .int (zI (n)))] dX6_run_5 rfl (by decide) rfl ?_
  refine zr_iload_n X 8 3 dX6_run_7 rfl rfl ?_
  refine zr_iconst X 9 dX6_run_8 rfl ?_
  refine zr_sipush X 12 (255) dX6_run_9 rfl (by decide) ?_
  refine zr_callSN (kc' := (4 - 1) - 1) (ks' := (24 - 6) - 6) X Y 15 3 (m_X6_requireWithin l hlt Γ (V := V) (x := x) (a := 0) (b := 255) (by omega) (by omega) (by omega)) gX6_run_X6_requireWithin rfl (by decide +kernel) rfl (by decide) rfl (Nat.le_of_ble_eq_true rfl) dX6_run_12 rfl (by omega) (by omega) (fun E W hX => ⟨hX.2.2, Or.inr ⟨hX.1, by have := hX.2.1; omega⟩⟩) (fun rv6 V7 hp8 => ?_)
  obtain ⟨hp8a, hp8b, hp8c⟩ := hp8
  rw [hp8b, hp8c]
  show zG C V ((4 - 1) - 1) ((24 - 6) - 6) 15 [(5, .ref (ad (10 + q.toNat))), (0, .ref (ad 1)), (1, .int (zI (q))), (2, .int (zI (x))), (3, .int (zI (st))), (4, .int (zI (n)))] []
  refine zr_iload_n X 16 4 dX6_run_15 rfl rfl ?_
  refine zr_iconst X 17 dX6_run_16 rfl ?_
  refine zr_sipush X 20 (255) dX6_run_17 rfl (by decide) ?_
  refine zr_callSN (kc' := ((4 - 1) - 1) - 1) (ks' := ((24 - 6) - 6) - 6) X Y 23 3 (m_X6_requireWithin l hlt Γ (V := V) (x := st) (a := 0) (b := 255) (by omega) (by omega) (by omega)) gX6_run_X6_requireWithin rfl (by decide +kernel) rfl (by decide) rfl (Nat.le_of_ble_eq_true rfl) dX6_run_20 rfl (by omega) (by omega) (fun E W hX => ⟨hX.2.2, Or.inr ⟨hX.1, by have := hX.2.1; omega⟩⟩) (fun rv9 V10 hp11 => ?_)
  obtain ⟨hp11a, hp11b, hp11c⟩ := hp11
  rw [hp11b, hp11c]
  show zG C V (((4 - 1) - 1) - 1) (((24 - 6) - 6) - 6) 23 [(5, .ref (ad (10 + q.toNat))), (0, .ref (ad 1)), (1, .int (zI (q))), (2, .int (zI (x))), (3, .int (zI (st))), (4, .int (zI (n)))] []
  refine zr_iload X 25 5 dX6_run_23 rfl rfl ?_
  refine zr_iconst X 26 dX6_run_25 rfl ?_
  refine zr_bipush X 28 (40) dX6_run_26 rfl (by decide) ?_
  refine zr_callSN (kc' := (((4 - 1) - 1) - 1) - 1) (ks' := (((24 - 6) - 6) - 6) - 6) X Y 31 3 (m_X6_requireWithin l hlt Γ (V := V) (x := n) (a := 0) (b := 40) (by omega) (by omega) (by omega)) gX6_run_X6_requireWithin rfl (by decide +kernel) rfl (by decide) rfl (Nat.le_of_ble_eq_true rfl) dX6_run_28 rfl (by omega) (by omega) (fun E W hX => ⟨hX.2.2, Or.inr ⟨hX.1, by have := hX.2.1; omega⟩⟩) (fun rv12 V13 hp14 => ?_)
  obtain ⟨hp14a, hp14b, hp14c⟩ := hp14
  rw [hp14b, hp14c]
  show zG C V ((((4 - 1) - 1) - 1) - 1) ((((24 - 6) - 6) - 6) - 6) 31 [(5, .ref (ad (10 + q.toNat))), (0, .ref (ad 1)), (1, .int (zI (q))), (2, .int (zI (x))), (3, .int (zI (st))), (4, .int (zI (n)))] []
  refine zr_iconst X 32 dX6_run_31 rfl ?_
  refine zr_istore X 34 [(6, .int (zI (0))), (5, .ref (ad (10 + q.toNat))), (0, .ref (ad 1)), (1, .int (zI (q))), (2, .int (zI (x))), (3, .int (zI (st))), (4, .int (zI (n)))] dX6_run_32 rfl (by decide) rfl ?_
  refine zr_sub [0, 1, 6, 5, 4, 3, 2] [(6, .int (zI (0))), (5, .ref (ad (10 + q.toNat))), (4, .int (zI (n))), (3, .int (zI (st))), (2, .int (zI (x))), (1, .int (zI (q))), (0, .ref (ad 1))] rfl ?_
  have loop : ∀ (N : Nat) (V1 : zV) (σ1 : Nat → Int) (k : Int), zS Γ V1 ad σ1 ∧ zfx V V1 ∧ σ1 = zw4 σ q.toNat (σ (4 * q.toNat)) (σ (4 * q.toNat + 1)) (σ (4 * q.toNat + 2) + k) (σ (4 * q.toNat + 3)) ∧ 0 ≤ k ∧ k ≤ n ∧ σ (4 * q.toNat + 2) + k ≤ σ (4 * q.toNat + 1) → (n - k).toNat = N → zG C V1 ((((4 - 1) - 1) - 1) - 1) ((((24 - 6) - 6) - 6) - 6) 34 [(6, .int (zI (k))), (5, .ref (ad (10 + q.toNat))), (4, .int (zI (n))), (3, .int (zI (st))), (2, .int (zI (x))), (1, .int (zI (q))), (0, .ref (ad 1))] [] := by
    intro N
    induction N using Nat.strongRecOn with
    | _ N ih =>
    intro V1 σ1 k hI hN
    obtain ⟨hI1, hI2, hI3, hI4, hI5, hI6⟩ := id hI
    have hx15 : V1 (ad 1) = some (1, .inr (7, [.ref (ad 2), .ref (ad 20), .ref (ad 22), .ref (ad 24), .ref (ad 16), .ref (ad 31), .ref (ad 33), .ref (ad 35), .ref (ad 40), .ref (ad 45), .int (zI (σ1 30)), .int (zI (σ1 31)), .int (zI (σ1 32)), .int (zI (σ1 33))])) := hI1.1
    have hw16 : zWi Γ V1 (10 + q.toNat) (ad (10 + q.toNat)) (σ (4 * q.toNat)) (σ (4 * q.toNat + 1)) (σ (4 * q.toNat + 2) + k) (σ (4 * q.toNat + 3)) := by
      have h := hI1.w (i := q.toNat) (by omega)
      rw [hI3, zw4_0, zw4_1, zw4_2, zw4_3] at h
      exact h
    have hw16r := hw16.rg
    have hks := zmulb (a := k) (b := st) (A := 40) (B := 255) (by omega) (by omega)
    refine zr_iload X 36 0 dX6_run_34 rfl rfl ?_
    refine zr_iload X 38 2 dX6_run_36 rfl rfl ?_
    refine zr_icmp_ge X 65 41 dX6_run_38 rfl rfl (by omega) (by omega) (fun bq17 => ?_) (fun bq17 => ?_)
    · refine zr_aload_n X 66 6 dX6_run_65 rfl rfl ?_
      refine zr_iload X 68 0 dX6_run_66 rfl rfl ?_
      refine zr_callVe (kc' := ((((4 - 1) - 1) - 1) - 1)) (ks' := ((((24 - 6) - 6) - 6) - 6)) X 71 1 (m_X6_done l Γ hI1) gX6_run_X6_done rfl (by decide +kernel) rfl (by decide) hI1.x rfl rfl (Nat.le_of_ble_eq_true rfl) dX6_run_68 rfl (by omega) (by omega) (fun rv18 V19 hp20 => ?_)
      obtain ⟨hp20e, hS21, fx22⟩ := hp20
      rw [hp20e]
      obtain ⟨σ23, σ23e⟩ : ∃ zz9 : Nat → Int, zz9 = zdn σ1 := ⟨_, rfl⟩
      rw [← σ23e] at hS21
      have fx24 := zag.tr hI2 fx22
      have hx25 : V19 (ad 1) = some (1, .inr (7, [.ref (ad 2), .ref (ad 20), .ref (ad 22), .ref (ad 24), .ref (ad 16), .ref (ad 31), .ref (ad 33), .ref (ad 35), .ref (ad 40), .ref (ad 45), .int (zI (σ23 30)), .int (zI (σ23 31)), .int (zI (σ23 32)), .int (zI (σ23 33))])) := hS21.1
      show zG C V19 ((((4 - 1) - 1) - 1) - 1) ((((24 - 6) - 6) - 6) - 6) 71 [(6, .int (zI (k))), (5, .ref (ad (10 + q.toNat))), (4, .int (zI (n))), (3, .int (zI (st))), (2, .int (zI (x))), (1, .int (zI (q))), (0, .ref (ad 1))] [.int (zI (k))]
      exact zr_iret X rfl ⟨k, σ23, rfl, hS21, fx24, ⟨by omega, by omega, by omega, by omega, by omega, by rw [σ23e, hI3]⟩⟩ dX6_run_71
    · refine zr_aload X 43 1 dX6_run_41 rfl rfl ?_
      refine zr_iload_n X 44 4 dX6_run_43 rfl rfl ?_
      refine zr_iload X 46 0 dX6_run_44 rfl rfl ?_
      refine zr_iload_n X 47 3 dX6_run_46 rfl rfl ?_
      refine zr_imul X 48 dX6_run_47 rfl ?_
      refine zr_iadd X 49 dX6_run_48 rfl ?_
      refine zr_sipush X 52 (256) dX6_run_49 rfl (by decide) ?_
      refine zr_irem X 53 dX6_run_52 rfl (by omega) (by omega) ?_
      by_cases wr26 : σ (4 * q.toNat + 2) + k < σ (4 * q.toNat + 1)
      · skip
        refine zr_callVe (kc' := ((((4 - 1) - 1) - 1) - 1)) (ks' := ((((24 - 6) - 6) - 6) - 6)) X 56 1 (e_write_y l Γ hw16 (by omega) (x := (x + (k * st)) % 256) (by omega) wr26) gX6_run_X5_writeSign rfl (by decide +kernel) rfl (by decide) hw16.cl rfl rfl (Nat.le_of_ble_eq_true rfl) dX6_run_53 rfl (by omega) (by omega) (fun rv27 V28 hp29 => ?_)
        obtain ⟨hp29e, hp29z⟩ := hp29
        rw [hp29e]
        obtain ⟨hS30, fx31⟩ := hI1.setW (i := q.toNat) (by omega) hp29z
        have hw32 := hp29z.1
        obtain ⟨σ33, σ33e⟩ : ∃ zz9 : Nat → Int, zz9 = zw4 σ1 q.toNat (σ (4 * q.toNat)) (σ (4 * q.toNat + 1)) (σ (4 * q.toNat + 2) + k + 1) (σ (4 * q.toNat + 3)) := ⟨_, rfl⟩
        rw [← σ33e] at hS30
        have fx34 := zag.tr hI2 fx31
        have hx35 : V28 (ad 1) = some (1, .inr (7, [.ref (ad 2), .ref (ad 20), .ref (ad 22), .ref (ad 24), .ref (ad 16), .ref (ad 31), .ref (ad 33), .ref (ad 35), .ref (ad 40), .ref (ad 45), .int (zI (σ33 30)), .int (zI (σ33 31)), .int (zI (σ33 32)), .int (zI (σ33 33))])) := hS30.1
        show zG C V28 ((((4 - 1) - 1) - 1) - 1) ((((24 - 6) - 6) - 6) - 6) 56 [(6, .int (zI (k))), (5, .ref (ad (10 + q.toNat))), (4, .int (zI (n))), (3, .int (zI (st))), (2, .int (zI (x))), (1, .int (zI (q))), (0, .ref (ad 1))] [.int (zI (1))]
        refine zr_if_eq X 65 59 dX6_run_56 rfl rfl (by omega) (fun bq36 => absurd bq36 (by omega)) (fun bq36 => ?_)
        refine zr_iinc X 62 0 [(6, .int (zI (k + 1))), (5, .ref (ad (10 + q.toNat))), (4, .int (zI (n))), (3, .int (zI (st))), (2, .int (zI (x))), (1, .int (zI (q))), (0, .ref (ad 1))] dX6_run_59 rfl rfl (by decide) rfl ?_
        refine zr_goto X 34 dX6_run_62 rfl ?_
        exact ih _ (by omega) V28 σ33 (k + 1) ⟨hS30, fx34, by rw [σ33e, hI3, zw4_zw4, Int.add_assoc], by omega, by omega, by omega⟩ rfl
      · skip
        refine zr_callVe (kc' := ((((4 - 1) - 1) - 1) - 1)) (ks' := ((((24 - 6) - 6) - 6) - 6)) X 56 1 (e_write_n l Γ hw16 (x := (x + (k * st)) % 256) wr26) gX6_run_X5_writeSign rfl (by decide +kernel) rfl (by decide) hw16.cl rfl rfl (Nat.le_of_ble_eq_true rfl) dX6_run_53 rfl (by omega) (by omega) (fun rv37 V38 hp39 => ?_)
        rw [hp39.1, hp39.2]
        show zG C V1 ((((4 - 1) - 1) - 1) - 1) ((((24 - 6) - 6) - 6) - 6) 56 [(6, .int (zI (k))), (5, .ref (ad (10 + q.toNat))), (4, .int (zI (n))), (3, .int (zI (st))), (2, .int (zI (x))), (1, .int (zI (q))), (0, .ref (ad 1))] [.int (zI (0))]
        refine zr_if_eq X 65 59 dX6_run_56 rfl rfl (by omega) (fun bq40 => ?_) (fun bq40 => absurd bq40 (by omega))
        refine zr_aload_n X 66 6 dX6_run_65 rfl rfl ?_
        refine zr_iload X 68 0 dX6_run_66 rfl rfl ?_
        refine zr_callVe (kc' := ((((4 - 1) - 1) - 1) - 1)) (ks' := ((((24 - 6) - 6) - 6) - 6)) X 71 1 (m_X6_done l Γ hI1) gX6_run_X6_done rfl (by decide +kernel) rfl (by decide) hI1.x rfl rfl (Nat.le_of_ble_eq_true rfl) dX6_run_68 rfl (by omega) (by omega) (fun rv41 V42 hp43 => ?_)
        obtain ⟨hp43e, hS44, fx45⟩ := hp43
        rw [hp43e]
        obtain ⟨σ46, σ46e⟩ : ∃ zz9 : Nat → Int, zz9 = zdn σ1 := ⟨_, rfl⟩
        rw [← σ46e] at hS44
        have fx47 := zag.tr hI2 fx45
        have hx48 : V42 (ad 1) = some (1, .inr (7, [.ref (ad 2), .ref (ad 20), .ref (ad 22), .ref (ad 24), .ref (ad 16), .ref (ad 31), .ref (ad 33), .ref (ad 35), .ref (ad 40), .ref (ad 45), .int (zI (σ46 30)), .int (zI (σ46 31)), .int (zI (σ46 32)), .int (zI (σ46 33))])) := hS44.1
        show zG C V42 ((((4 - 1) - 1) - 1) - 1) ((((24 - 6) - 6) - 6) - 6) 71 [(6, .int (zI (k))), (5, .ref (ad (10 + q.toNat))), (4, .int (zI (n))), (3, .int (zI (st))), (2, .int (zI (x))), (1, .int (zI (q))), (0, .ref (ad 1))] [.int (zI (k))]
        exact zr_iret X rfl ⟨k, σ46, rfl, hS44, fx47, ⟨by omega, by omega, by omega, by omega, by omega, by rw [σ46e, hI3]⟩⟩ dX6_run_71
  exact loop _ V σ 0 ⟨hS, zag.rf, (by rw [Int.add_zero]; exact zw4_id.symm), by omega, by omega, by omega⟩ rfl
set_option maxRecDepth 100000 in
set_option maxHeartbeats 4000000 in
theorem m_X6_write (l : Launch) (hlt : l.stackTraces = false) (Γ : zGam) {V : zV} {ad : Nat → Nat} {σ : Nat → Int} {q x n : Int} (hS : zS Γ V ad σ) (hq : -2147483648 ≤ q ∧ q ≤ 2147483647) (hx : -2147483648 ≤ x ∧ x ≤ 2147483647) (hn : -2147483648 ≤ n ∧ n ≤ 2147483647) : zN l Γ 8 yX6_write wsX6_write 3 18 V [.ref (ad 1), .int (zI (q)), .int (zI (x)), .int (zI (n))] (fun rv V' => ∃ (y : Int) (σ' : Nat → Int), rv = some (.int (zI y)) ∧ zS Γ V' ad σ' ∧ zfx V V' ∧ ((0 ≤ q ∧ q < 6 ∧ 0 ≤ x ∧ 0 ≤ n ∧ n ≤ 20) ∧ 0 ≤ y ∧ y ≤ n ∧ y ≤ σ (4 * q.toNat + 1) - σ (4 * q.toNat + 2) ∧ (y = n ∨ y = σ (4 * q.toNat + 1) - σ (4 * q.toNat + 2)) ∧ σ' = zdn (zw4 σ q.toNat (σ (4 * q.toNat)) (σ (4 * q.toNat + 1)) (σ (4 * q.toNat + 2) + y) (σ (4 * q.toNat + 3))))) (fun E V' => V' = V ∧ ((E = zIO ∧ ¬ (0 ≤ q ∧ q < 6)) ∨ (E = zIA ∧ (0 ≤ q ∧ q < 6) ∧ ¬ (0 ≤ x ∧ 0 ≤ n ∧ n ≤ 20)))) := by
  refine zN_of (cc := cX6_write) (nL := 7) (ret := (some .int)) (own := RX6) hlt (by decide +kernel) rfl rfl (Nat.le_of_ble_eq_true rfl) (fun C X Y => ?_)
  have hx1 : V (ad 1) = some (1, .inr (7, [.ref (ad 2), .ref (ad 20), .ref (ad 22), .ref (ad 24), .ref (ad 16), .ref (ad 31), .ref (ad 33), .ref (ad 35), .ref (ad 40), .ref (ad 45), .int (zI (σ 30)), .int (zI (σ 31)), .int (zI (σ 32)), .int (zI (σ 33))])) := hS.1
  show zG C V 3 18 0 [(0, .ref (ad 1)), (1, .int (zI (q))), (2, .int (zI (x))), (3, .int (zI (n)))] []
  refine zr_aload_n X 1 0 dX6_write_0 rfl rfl ?_
  refine zr_iload_n X 2 1 dX6_write_1 rfl rfl ?_
  refine zr_callVN (kc' := 3 - 1) (ks' := 18 - 6) X Y 5 1 (m_X6_windowOf l hlt Γ hS (q := q) (by omega)) gX6_write_X6_windowOf rfl (by decide +kernel) rfl (by decide) hx1 rfl rfl (Nat.le_of_ble_eq_true rfl) dX6_write_2 rfl (by omega) (by omega) (fun E W hX => ⟨hX.2.2, Or.inl ⟨hX.1, by have := hX.2.1; omega⟩⟩) (fun rv2 V3 hp4 => ?_)
  obtain ⟨hp4a, hp4b, hp4c⟩ := hp4
  rw [hp4b, hp4c]
  have hw5 := hS.w (i := q.toNat) (by omega)
  have hw5r := hw5.rg
  show zG C V (3 - 1) (18 - 6) 5 [(0, .ref (ad 1)), (1, .int (zI (q))), (2, .int (zI (x))), (3, .int (zI (n)))] [.ref (ad (10 + q.toNat))]
  refine zr_astore X 7 [(4, .ref (ad (10 + q.toNat))), (0, .ref (ad 1)), (1, .int (zI (q))), (2, .int (zI (x))), (3, .int (zI (n)))] dX6_write_5 rfl (by decide) rfl ?_
  refine zr_iload_n X 8 3 dX6_write_7 rfl rfl ?_
  refine zr_iload_n X 9 4 dX6_write_8 rfl rfl ?_
  refine zr_callSN (kc' := (3 - 1) - 2) (ks' := (18 - 6) - 12) X Y 12 2 (m_X6_requireLetters l hlt Γ (V := V) (x := x) (k := n) (by omega) (by omega)) gX6_write_X6_requireLetters rfl (by decide +kernel) rfl (by decide) rfl (Nat.le_of_ble_eq_true rfl) dX6_write_9 rfl (by omega) (by omega) (fun E W hX => ⟨hX.2.2, Or.inr ⟨hX.1, by have := hX.2.1; omega⟩⟩) (fun rv6 V7 hp8 => ?_)
  obtain ⟨hp8a, hp8b, hp8c⟩ := hp8
  rw [hp8b, hp8c]
  show zG C V ((3 - 1) - 2) ((18 - 6) - 12) 12 [(4, .ref (ad (10 + q.toNat))), (0, .ref (ad 1)), (1, .int (zI (q))), (2, .int (zI (x))), (3, .int (zI (n)))] []
  refine zr_iload_n X 13 3 dX6_write_12 rfl rfl ?_
  refine zr_istore X 15 [(5, .int (zI (x))), (4, .ref (ad (10 + q.toNat))), (0, .ref (ad 1)), (1, .int (zI (q))), (2, .int (zI (x))), (3, .int (zI (n)))] dX6_write_13 rfl (by decide) rfl ?_
  refine zr_iconst X 16 dX6_write_15 rfl ?_
  refine zr_istore X 18 [(6, .int (zI (0))), (5, .int (zI (x))), (4, .ref (ad (10 + q.toNat))), (0, .ref (ad 1)), (1, .int (zI (q))), (2, .int (zI (x))), (3, .int (zI (n)))] dX6_write_16 rfl (by decide) rfl ?_
  refine zr_sub [0, 1, 2, 6, 5, 4, 3] [(6, .int (zI (0))), (5, .int (zI (x))), (4, .ref (ad (10 + q.toNat))), (3, .int (zI (n))), (2, .int (zI (x))), (1, .int (zI (q))), (0, .ref (ad 1))] rfl ?_
  have loop : ∀ (N : Nat) (V1 : zV) (σ1 : Nat → Int) (k : Int) (x1 : Int), zS Γ V1 ad σ1 ∧ zfx V V1 ∧ σ1 = zw4 σ q.toNat (σ (4 * q.toNat)) (σ (4 * q.toNat + 1)) (σ (4 * q.toNat + 2) + k) (σ (4 * q.toNat + 3)) ∧ 0 ≤ k ∧ k ≤ n ∧ σ (4 * q.toNat + 2) + k ≤ σ (4 * q.toNat + 1) ∧ 0 ≤ x1 ∧ x1 ≤ 2147483647 → (n - k).toNat = N → zG C V1 ((3 - 1) - 2) ((18 - 6) - 12) 18 [(6, .int (zI (k))), (5, .int (zI (x1))), (4, .ref (ad (10 + q.toNat))), (3, .int (zI (n))), (2, .int (zI (x))), (1, .int (zI (q))), (0, .ref (ad 1))] [] := by
    intro N
    induction N using Nat.strongRecOn with
    | _ N ih =>
    intro V1 σ1 k x1 hI hN
    obtain ⟨hI1, hI2, hI3, hI4, hI5, hI6, hI7, hI8⟩ := id hI
    have hx9 : V1 (ad 1) = some (1, .inr (7, [.ref (ad 2), .ref (ad 20), .ref (ad 22), .ref (ad 24), .ref (ad 16), .ref (ad 31), .ref (ad 33), .ref (ad 35), .ref (ad 40), .ref (ad 45), .int (zI (σ1 30)), .int (zI (σ1 31)), .int (zI (σ1 32)), .int (zI (σ1 33))])) := hI1.1
    have hw10 : zWi Γ V1 (10 + q.toNat) (ad (10 + q.toNat)) (σ (4 * q.toNat)) (σ (4 * q.toNat + 1)) (σ (4 * q.toNat + 2) + k) (σ (4 * q.toNat + 3)) := by
      have h := hI1.w (i := q.toNat) (by omega)
      rw [hI3, zw4_0, zw4_1, zw4_2, zw4_3] at h
      exact h
    have hw10r := hw10.rg
    refine zr_iload X 20 0 dX6_write_18 rfl rfl ?_
    refine zr_iload_n X 21 3 dX6_write_20 rfl rfl ?_
    refine zr_icmp_ge X 49 24 dX6_write_21 rfl rfl (by omega) (by omega) (fun bq11 => ?_) (fun bq11 => ?_)
    · refine zr_aload_n X 50 6 dX6_write_49 rfl rfl ?_
      refine zr_iload X 52 0 dX6_write_50 rfl rfl ?_
      refine zr_callVe (kc' := ((3 - 1) - 2)) (ks' := ((18 - 6) - 12)) X 55 1 (m_X6_done l Γ hI1) gX6_write_X6_done rfl (by decide +kernel) rfl (by decide) hI1.x rfl rfl (Nat.le_of_ble_eq_true rfl) dX6_write_52 rfl (by omega) (by omega) (fun rv12 V13 hp14 => ?_)
      obtain ⟨hp14e, hS15, fx16⟩ := hp14
      rw [hp14e]
      obtain ⟨σ17, σ17e⟩ : ∃ zz9 : Nat → Int, zz9 = zdn σ1 := ⟨_, rfl⟩
      rw [← σ17e] at hS15
      have fx18 := zag.tr hI2 fx16
      have hx19 : V13 (ad 1) = some (1, .inr (7, [.ref (ad 2), .ref (ad 20), .ref (ad 22), .ref (ad 24), .ref (ad 16), .ref (ad 31), .ref (ad 33), .ref (ad 35), .ref (ad 40), .ref (ad 45), .int (zI (σ17 30)), .int (zI (σ17 31)), .int (zI (σ17 32)), .int (zI (σ17 33))])) := hS15.1
      show zG C V13 ((3 - 1) - 2) ((18 - 6) - 12) 55 [(6, .int (zI (k))), (5, .int (zI (x1))), (4, .ref (ad (10 + q.toNat))), (3, .int (zI (n))), (2, .int (zI (x))), (1, .int (zI (q))), (0, .ref (ad 1))] [.int (zI (k))]
      exact zr_iret X rfl ⟨k, σ17, rfl, hS15, fx18, ⟨by omega, by omega, by omega, by omega, by omega, by rw [σ17e, hI3]⟩⟩ dX6_write_55
    · refine zr_aload X 26 2 dX6_write_24 rfl rfl ?_
      refine zr_iload X 28 1 dX6_write_26 rfl rfl ?_
      refine zr_callS (kc' := ((3 - 1) - 2)) (ks' := ((18 - 6) - 12)) X 31 1 (m_X6_lowestLetter l Γ (V := V1) (x := x1) (by omega)) gX6_write_X6_lowestLetter rfl (by decide +kernel) rfl (by decide) rfl (Nat.le_of_ble_eq_true rfl) dX6_write_28 rfl (by omega) (by omega) (fun rv20 V21 hp22 => ?_)
      rw [hp22.1, hp22.2]
      show zG C V1 ((3 - 1) - 2) ((18 - 6) - 12) 31 [(6, .int (zI (k))), (5, .int (zI (x1))), (4, .ref (ad (10 + q.toNat))), (3, .int (zI (n))), (2, .int (zI (x))), (1, .int (zI (q))), (0, .ref (ad 1))] [.int (zI (97 + x1 % 3)), .ref (ad (10 + q.toNat))]
      by_cases wr23 : σ (4 * q.toNat + 2) + k < σ (4 * q.toNat + 1)
      · skip
        refine zr_callVe (kc' := ((3 - 1) - 2)) (ks' := ((18 - 6) - 12)) X 34 1 (e_write_y l Γ hw10 (by omega) (x := 97 + x1 % 3) (by omega) wr23) gX6_write_X5_writeSign rfl (by decide +kernel) rfl (by decide) hw10.cl rfl rfl (Nat.le_of_ble_eq_true rfl) dX6_write_31 rfl (by omega) (by omega) (fun rv24 V25 hp26 => ?_)
        obtain ⟨hp26e, hp26z⟩ := hp26
        rw [hp26e]
        obtain ⟨hS27, fx28⟩ := hI1.setW (i := q.toNat) (by omega) hp26z
        have hw29 := hp26z.1
        obtain ⟨σ30, σ30e⟩ : ∃ zz9 : Nat → Int, zz9 = zw4 σ1 q.toNat (σ (4 * q.toNat)) (σ (4 * q.toNat + 1)) (σ (4 * q.toNat + 2) + k + 1) (σ (4 * q.toNat + 3)) := ⟨_, rfl⟩
        rw [← σ30e] at hS27
        have fx31 := zag.tr hI2 fx28
        have hx32 : V25 (ad 1) = some (1, .inr (7, [.ref (ad 2), .ref (ad 20), .ref (ad 22), .ref (ad 24), .ref (ad 16), .ref (ad 31), .ref (ad 33), .ref (ad 35), .ref (ad 40), .ref (ad 45), .int (zI (σ30 30)), .int (zI (σ30 31)), .int (zI (σ30 32)), .int (zI (σ30 33))])) := hS27.1
        show zG C V25 ((3 - 1) - 2) ((18 - 6) - 12) 34 [(6, .int (zI (k))), (5, .int (zI (x1))), (4, .ref (ad (10 + q.toNat))), (3, .int (zI (n))), (2, .int (zI (x))), (1, .int (zI (q))), (0, .ref (ad 1))] [.int (zI (1))]
        refine zr_if_eq X 49 37 dX6_write_34 rfl rfl (by omega) (fun bq33 => absurd bq33 (by omega)) (fun bq33 => ?_)
        refine zr_iload X 39 1 dX6_write_37 rfl rfl ?_
        refine zr_iconst X 40 dX6_write_39 rfl ?_
        refine zr_idiv X 41 dX6_write_40 rfl (by omega) (by omega) ?_
        refine zr_istore X 43 [(5, .int (zI (x1 / 3))), (6, .int (zI (k))), (4, .ref (ad (10 + q.toNat))), (3, .int (zI (n))), (2, .int (zI (x))), (1, .int (zI (q))), (0, .ref (ad 1))] dX6_write_41 rfl (by decide) rfl ?_
        refine zr_iinc X 46 1 [(6, .int (zI (k + 1))), (5, .int (zI (x1 / 3))), (4, .ref (ad (10 + q.toNat))), (3, .int (zI (n))), (2, .int (zI (x))), (1, .int (zI (q))), (0, .ref (ad 1))] dX6_write_43 rfl rfl (by decide) rfl ?_
        refine zr_goto X 18 dX6_write_46 rfl ?_
        exact ih _ (by omega) V25 σ30 (k + 1) (x1 / 3) ⟨hS27, fx31, by rw [σ30e, hI3, zw4_zw4, Int.add_assoc], by omega, by omega, by omega, by omega, by omega⟩ rfl
      · skip
        refine zr_callVe (kc' := ((3 - 1) - 2)) (ks' := ((18 - 6) - 12)) X 34 1 (e_write_n l Γ hw10 (x := 97 + x1 % 3) wr23) gX6_write_X5_writeSign rfl (by decide +kernel) rfl (by decide) hw10.cl rfl rfl (Nat.le_of_ble_eq_true rfl) dX6_write_31 rfl (by omega) (by omega) (fun rv34 V35 hp36 => ?_)
        rw [hp36.1, hp36.2]
        show zG C V1 ((3 - 1) - 2) ((18 - 6) - 12) 34 [(6, .int (zI (k))), (5, .int (zI (x1))), (4, .ref (ad (10 + q.toNat))), (3, .int (zI (n))), (2, .int (zI (x))), (1, .int (zI (q))), (0, .ref (ad 1))] [.int (zI (0))]
        refine zr_if_eq X 49 37 dX6_write_34 rfl rfl (by omega) (fun bq37 => ?_) (fun bq37 => absurd bq37 (by omega))
        refine zr_aload_n X 50 6 dX6_write_49 rfl rfl ?_
        refine zr_iload X 52 0 dX6_write_50 rfl rfl ?_
        refine zr_callVe (kc' := ((3 - 1) - 2)) (ks' := ((18 - 6) - 12)) X 55 1 (m_X6_done l Γ hI1) gX6_write_X6_done rfl (by decide +kernel) rfl (by decide) hI1.x rfl rfl (Nat.le_of_ble_eq_true rfl) dX6_write_52 rfl (by omega) (by omega) (fun rv38 V39 hp40 => ?_)
        obtain ⟨hp40e, hS41, fx42⟩ := hp40
        rw [hp40e]
        obtain ⟨σ43, σ43e⟩ : ∃ zz9 : Nat → Int, zz9 = zdn σ1 := ⟨_, rfl⟩
        rw [← σ43e] at hS41
        have fx44 := zag.tr hI2 fx42
        have hx45 : V39 (ad 1) = some (1, .inr (7, [.ref (ad 2), .ref (ad 20), .ref (ad 22), .ref (ad 24), .ref (ad 16), .ref (ad 31), .ref (ad 33), .ref (ad 35), .ref (ad 40), .ref (ad 45), .int (zI (σ43 30)), .int (zI (σ43 31)), .int (zI (σ43 32)), .int (zI (σ43 33))])) := hS41.1
        show zG C V39 ((3 - 1) - 2) ((18 - 6) - 12) 55 [(6, .int (zI (k))), (5, .int (zI (x1))), (4, .ref (ad (10 + q.toNat))), (3, .int (zI (n))), (2, .int (zI (x))), (1, .int (zI (q))), (0, .ref (ad 1))] [.int (zI (k))]
        exact zr_iret X rfl ⟨k, σ43, rfl, hS41, fx44, ⟨by omega, by omega, by omega, by omega, by omega, by rw [σ43e, hI3]⟩⟩ dX6_write_55
  exact loop _ V σ 0 x ⟨hS, zag.rf, (by rw [Int.add_zero]; exact zw4_id.symm), by omega, by omega, by omega, by omega, by omega⟩ rfl
theorem zw4_two {σ : Nat → Int} {i j : Nat} (h : i ≠ j) {a b c d a' b' c' d' e f g k e' f' g' k' : Int} : zw4 (zw4 (zw4 (zw4 σ i a b c d) j e f g k) i a' b' c' d') j e' f' g' k' = zw4 (zw4 σ i a' b' c' d') j e' f' g' k' := by
  rw [zw4_comm (σ := zw4 σ i a b c d) (Ne.symm h), zw4_zw4, zw4_zw4]
set_option maxRecDepth 100000 in
set_option maxHeartbeats 4000000 in
theorem m_X6_pour_ne (l : Launch) (hlt : l.stackTraces = false) (Γ : zGam) {V : zV} {ad : Nat → Nat} {σ : Nat → Int} {q q2 n : Int} (hS : zS Γ V ad σ) (hq : -2147483648 ≤ q ∧ q ≤ 2147483647) (hq2 : -2147483648 ≤ q2 ∧ q2 ≤ 2147483647) (hn : -2147483648 ≤ n ∧ n ≤ 2147483647) (hne : q ≠ q2) : zN l Γ 8 yX6_pour wsX6_pour 4 24 V [.ref (ad 1), .int (zI (q)), .int (zI (q2)), .int (zI (n))] (fun rv V' => ∃ (y : Int) (σ' : Nat → Int), rv = some (.int (zI y)) ∧ zS Γ V' ad σ' ∧ zfx V V' ∧ ((0 ≤ q ∧ q < 6 ∧ 0 ≤ q2 ∧ q2 < 6 ∧ q ≠ q2 ∧ 0 ≤ n ∧ n ≤ 40) ∧ 0 ≤ y ∧ y ≤ n ∧ y ≤ σ (4 * q.toNat + 1) - σ (4 * q.toNat + 2) ∧ y ≤ σ (4 * q2.toNat + 1) - σ (4 * q2.toNat + 2) ∧ (y = n ∨ y = σ (4 * q.toNat + 1) - σ (4 * q.toNat + 2) ∨ y = σ (4 * q2.toNat + 1) - σ (4 * q2.toNat + 2)) ∧ σ' = zdn (zw4 (zw4 σ q.toNat (σ (4 * q.toNat)) (σ (4 * q.toNat + 1)) (σ (4 * q.toNat + 2) + y) (σ (4 * q.toNat + 3))) q2.toNat (σ (4 * q2.toNat)) (σ (4 * q2.toNat + 1)) (σ (4 * q2.toNat + 2) + y) (σ (4 * q2.toNat + 3))))) (fun E V' => V' = V ∧ ((E = zIO ∧ ¬ (0 ≤ q ∧ q < 6 ∧ 0 ≤ q2 ∧ q2 < 6)) ∨ (E = zIA ∧ (0 ≤ q ∧ q < 6 ∧ 0 ≤ q2 ∧ q2 < 6) ∧ ¬ (q ≠ q2 ∧ 0 ≤ n ∧ n ≤ 40)))) := by
  refine zN_of (cc := cX6_pour) (nL := 7) (ret := (some .int)) (own := RX6) hlt (by decide +kernel) rfl rfl (Nat.le_of_ble_eq_true rfl) (fun C X Y => ?_)
  have hx1 : V (ad 1) = some (1, .inr (7, [.ref (ad 2), .ref (ad 20), .ref (ad 22), .ref (ad 24), .ref (ad 16), .ref (ad 31), .ref (ad 33), .ref (ad 35), .ref (ad 40), .ref (ad 45), .int (zI (σ 30)), .int (zI (σ 31)), .int (zI (σ 32)), .int (zI (σ 33))])) := hS.1
  show zG C V 4 24 0 [(0, .ref (ad 1)), (1, .int (zI (q))), (2, .int (zI (q2))), (3, .int (zI (n)))] []
  refine zr_aload_n X 1 0 dX6_pour_0 rfl rfl ?_
  refine zr_iload_n X 2 1 dX6_pour_1 rfl rfl ?_
  refine zr_callVN (kc' := 4 - 1) (ks' := 24 - 6) X Y 5 1 (m_X6_windowOf l hlt Γ hS (q := q) (by omega)) gX6_pour_X6_windowOf rfl (by decide +kernel) rfl (by decide) hx1 rfl rfl (Nat.le_of_ble_eq_true rfl) dX6_pour_2 rfl (by omega) (by omega) (fun E W hX => ⟨hX.2.2, Or.inl ⟨hX.1, by have := hX.2.1; omega⟩⟩) (fun rv2 V3 hp4 => ?_)
  obtain ⟨hp4a, hp4b, hp4c⟩ := hp4
  rw [hp4b, hp4c]
  have hw5 := hS.w (i := q.toNat) (by omega)
  have hw5r := hw5.rg
  show zG C V (4 - 1) (24 - 6) 5 [(0, .ref (ad 1)), (1, .int (zI (q))), (2, .int (zI (q2))), (3, .int (zI (n)))] [.ref (ad (10 + q.toNat))]
  refine zr_astore X 7 [(4, .ref (ad (10 + q.toNat))), (0, .ref (ad 1)), (1, .int (zI (q))), (2, .int (zI (q2))), (3, .int (zI (n)))] dX6_pour_5 rfl (by decide) rfl ?_
  refine zr_aload_n X 8 1 dX6_pour_7 rfl rfl ?_
  refine zr_iload_n X 9 3 dX6_pour_8 rfl rfl ?_
  refine zr_callVN (kc' := (4 - 1) - 1) (ks' := (24 - 6) - 6) X Y 12 1 (m_X6_windowOf l hlt Γ hS (q := q2) (by omega)) gX6_pour_X6_windowOf rfl (by decide +kernel) rfl (by decide) hx1 rfl rfl (Nat.le_of_ble_eq_true rfl) dX6_pour_9 rfl (by omega) (by omega) (fun E W hX => ⟨hX.2.2, Or.inl ⟨hX.1, by have := hX.2.1; omega⟩⟩) (fun rv6 V7 hp8 => ?_)
  obtain ⟨hp8a, hp8b, hp8c⟩ := hp8
  rw [hp8b, hp8c]
  have hw9 := hS.w (i := q2.toNat) (by omega)
  have hw9r := hw9.rg
  show zG C V ((4 - 1) - 1) ((24 - 6) - 6) 12 [(4, .ref (ad (10 + q.toNat))), (0, .ref (ad 1)), (1, .int (zI (q))), (2, .int (zI (q2))), (3, .int (zI (n)))] [.ref (ad (10 + q2.toNat))]
  refine zr_astore X 14 [(5, .ref (ad (10 + q2.toNat))), (4, .ref (ad (10 + q.toNat))), (0, .ref (ad 1)), (1, .int (zI (q))), (2, .int (zI (q2))), (3, .int (zI (n)))] dX6_pour_12 rfl (by decide) rfl ?_
  refine zr_iload_n X 15 3 dX6_pour_14 rfl rfl ?_
  refine zr_iload_n X 16 4 dX6_pour_15 rfl rfl ?_
  refine zr_icmp_eq X 23 19 dX6_pour_16 rfl rfl (by omega) (by omega) (fun bq10 => ?_) (fun bq10 => ?_)
  · exfalso
    omega
  · refine zr_iconst X 20 dX6_pour_19 rfl ?_
    refine zr_goto X 24 dX6_pour_20 rfl ?_
    refine zr_callSN (kc' := ((4 - 1) - 1) - 1) (ks' := ((24 - 6) - 6) - 6) X Y 27 1 (m_X6_require l hlt Γ (V := V) (b := 1) (by omega)) gX6_pour_X6_require rfl (by decide +kernel) rfl (by decide) rfl (Nat.le_of_ble_eq_true rfl) dX6_pour_24 rfl (by omega) (by omega) (fun E W hX => ⟨hX.2.2, Or.inr ⟨hX.1, by have := hX.2.1; omega⟩⟩) (fun rv11 V12 hp13 => ?_)
    obtain ⟨hp13a, hp13b, hp13c⟩ := hp13
    rw [hp13b, hp13c]
    show zG C V (((4 - 1) - 1) - 1) (((24 - 6) - 6) - 6) 27 [(5, .ref (ad (10 + q2.toNat))), (4, .ref (ad (10 + q.toNat))), (0, .ref (ad 1)), (1, .int (zI (q))), (2, .int (zI (q2))), (3, .int (zI (n)))] []
    refine zr_iload_n X 28 5 dX6_pour_27 rfl rfl ?_
    refine zr_iconst X 29 dX6_pour_28 rfl ?_
    refine zr_bipush X 31 (40) dX6_pour_29 rfl (by decide) ?_
    refine zr_callSN (kc' := (((4 - 1) - 1) - 1) - 1) (ks' := (((24 - 6) - 6) - 6) - 6) X Y 34 3 (m_X6_requireWithin l hlt Γ (V := V) (x := n) (a := 0) (b := 40) (by omega) (by omega) (by omega)) gX6_pour_X6_requireWithin rfl (by decide +kernel) rfl (by decide) rfl (Nat.le_of_ble_eq_true rfl) dX6_pour_31 rfl (by omega) (by omega) (fun E W hX => ⟨hX.2.2, Or.inr ⟨hX.1, by have := hX.2.1; omega⟩⟩) (fun rv14 V15 hp16 => ?_)
    obtain ⟨hp16a, hp16b, hp16c⟩ := hp16
    rw [hp16b, hp16c]
    show zG C V ((((4 - 1) - 1) - 1) - 1) ((((24 - 6) - 6) - 6) - 6) 34 [(5, .ref (ad (10 + q2.toNat))), (4, .ref (ad (10 + q.toNat))), (0, .ref (ad 1)), (1, .int (zI (q))), (2, .int (zI (q2))), (3, .int (zI (n)))] []
    refine zr_iconst X 35 dX6_pour_34 rfl ?_
    refine zr_istore X 37 [(6, .int (zI (0))), (5, .ref (ad (10 + q2.toNat))), (4, .ref (ad (10 + q.toNat))), (0, .ref (ad 1)), (1, .int (zI (q))), (2, .int (zI (q2))), (3, .int (zI (n)))] dX6_pour_35 rfl (by decide) rfl ?_
    refine zr_sub [0, 1, 2, 6, 5, 4, 3] [(6, .int (zI (0))), (5, .ref (ad (10 + q2.toNat))), (4, .ref (ad (10 + q.toNat))), (3, .int (zI (n))), (2, .int (zI (q2))), (1, .int (zI (q))), (0, .ref (ad 1))] rfl ?_
    have loop : ∀ (N : Nat) (V1 : zV) (σ1 : Nat → Int) (k : Int), zS Γ V1 ad σ1 ∧ zfx V V1 ∧ σ1 = zw4 (zw4 σ q.toNat (σ (4 * q.toNat)) (σ (4 * q.toNat + 1)) (σ (4 * q.toNat + 2) + k) (σ (4 * q.toNat + 3))) q2.toNat (σ (4 * q2.toNat)) (σ (4 * q2.toNat + 1)) (σ (4 * q2.toNat + 2) + k) (σ (4 * q2.toNat + 3)) ∧ 0 ≤ k ∧ k ≤ n ∧ σ (4 * q.toNat + 2) + k ≤ σ (4 * q.toNat + 1) ∧ σ (4 * q2.toNat + 2) + k ≤ σ (4 * q2.toNat + 1) → (n - k).toNat = N → zG C V1 ((((4 - 1) - 1) - 1) - 1) ((((24 - 6) - 6) - 6) - 6) 37 [(6, .int (zI (k))), (5, .ref (ad (10 + q2.toNat))), (4, .ref (ad (10 + q.toNat))), (3, .int (zI (n))), (2, .int (zI (q2))), (1, .int (zI (q))), (0, .ref (ad 1))] [] := by
      intro N
      induction N using Nat.strongRecOn with
      | _ N ih =>
      intro V1 σ1 k hI hN
      obtain ⟨hI1, hI2, hI3, hI4, hI5, hI6, hI7⟩ := id hI
      have hx17 : V1 (ad 1) = some (1, .inr (7, [.ref (ad 2), .ref (ad 20), .ref (ad 22), .ref (ad 24), .ref (ad 16), .ref (ad 31), .ref (ad 33), .ref (ad 35), .ref (ad 40), .ref (ad 45), .int (zI (σ1 30)), .int (zI (σ1 31)), .int (zI (σ1 32)), .int (zI (σ1 33))])) := hI1.1
      have hw18 : zWi Γ V1 (10 + q.toNat) (ad (10 + q.toNat)) (σ (4 * q.toNat)) (σ (4 * q.toNat + 1)) (σ (4 * q.toNat + 2) + k) (σ (4 * q.toNat + 3)) := by
        have h := hI1.w (i := q.toNat) (by omega)
        rw [hI3, zw4_ne0 (show q.toNat ≠ q2.toNat by omega), zw4_ne (show q.toNat ≠ q2.toNat by omega) (by omega), zw4_ne (show q.toNat ≠ q2.toNat by omega) (by omega), zw4_ne (show q.toNat ≠ q2.toNat by omega) (by omega), zw4_0, zw4_1, zw4_2, zw4_3] at h
        exact h
      have hw18r := hw18.rg
      have hw19 : zWi Γ V1 (10 + q2.toNat) (ad (10 + q2.toNat)) (σ (4 * q2.toNat)) (σ (4 * q2.toNat + 1)) (σ (4 * q2.toNat + 2) + k) (σ (4 * q2.toNat + 3)) := by
        have h := hI1.w (i := q2.toNat) (by omega)
        rw [hI3, zw4_0, zw4_1, zw4_2, zw4_3] at h
        exact h
      have hw19r := hw19.rg
      refine zr_iload X 39 0 dX6_pour_37 rfl rfl ?_
      refine zr_iload_n X 40 3 dX6_pour_39 rfl rfl ?_
      refine zr_icmp_ge X 76 43 dX6_pour_40 rfl rfl (by omega) (by omega) (fun bq20 => ?_) (fun bq20 => ?_)
      · refine zr_aload_n X 77 6 dX6_pour_76 rfl rfl ?_
        refine zr_iload X 79 0 dX6_pour_77 rfl rfl ?_
        refine zr_callVe (kc' := ((((4 - 1) - 1) - 1) - 1)) (ks' := ((((24 - 6) - 6) - 6) - 6)) X 82 1 (m_X6_done l Γ hI1) gX6_pour_X6_done rfl (by decide +kernel) rfl (by decide) hI1.x rfl rfl (Nat.le_of_ble_eq_true rfl) dX6_pour_79 rfl (by omega) (by omega) (fun rv21 V22 hp23 => ?_)
        obtain ⟨hp23e, hS24, fx25⟩ := hp23
        rw [hp23e]
        obtain ⟨σ26, σ26e⟩ : ∃ zz9 : Nat → Int, zz9 = zdn σ1 := ⟨_, rfl⟩
        rw [← σ26e] at hS24
        have fx27 := zag.tr hI2 fx25
        have hx28 : V22 (ad 1) = some (1, .inr (7, [.ref (ad 2), .ref (ad 20), .ref (ad 22), .ref (ad 24), .ref (ad 16), .ref (ad 31), .ref (ad 33), .ref (ad 35), .ref (ad 40), .ref (ad 45), .int (zI (σ26 30)), .int (zI (σ26 31)), .int (zI (σ26 32)), .int (zI (σ26 33))])) := hS24.1
        show zG C V22 ((((4 - 1) - 1) - 1) - 1) ((((24 - 6) - 6) - 6) - 6) 82 [(6, .int (zI (k))), (5, .ref (ad (10 + q2.toNat))), (4, .ref (ad (10 + q.toNat))), (3, .int (zI (n))), (2, .int (zI (q2))), (1, .int (zI (q))), (0, .ref (ad 1))] [.int (zI (k))]
        exact zr_iret X rfl ⟨k, σ26, rfl, hS24, fx27, ⟨by omega, by omega, by omega, by omega, by omega, by omega, by rw [σ26e, hI3]⟩⟩ dX6_pour_82
      · refine zr_aload X 45 2 dX6_pour_43 rfl rfl ?_
        refine zr_callVe (kc' := ((((4 - 1) - 1) - 1) - 1)) (ks' := ((((24 - 6) - 6) - 6) - 6)) X 48 0 (e_size l Γ hw18) gX6_pour_X5_size rfl (by decide +kernel) rfl (by decide) hw18.cl rfl rfl (Nat.le_of_ble_eq_true rfl) dX6_pour_45 rfl (by omega) (by omega) (fun rv29 V30 hp31 => ?_)
        rw [hp31.1, hp31.2]
        show zG C V1 ((((4 - 1) - 1) - 1) - 1) ((((24 - 6) - 6) - 6) - 6) 48 [(6, .int (zI (k))), (5, .ref (ad (10 + q2.toNat))), (4, .ref (ad (10 + q.toNat))), (3, .int (zI (n))), (2, .int (zI (q2))), (1, .int (zI (q))), (0, .ref (ad 1))] [.int (zI ((σ (4 * q.toNat + 1)) - (σ (4 * q.toNat + 2) + k)))]
        refine zr_if_le X 76 51 dX6_pour_48 rfl rfl (by omega) (fun bq32 => ?_) (fun bq32 => ?_)
        · refine zr_aload_n X 77 6 dX6_pour_76 rfl rfl ?_
          refine zr_iload X 79 0 dX6_pour_77 rfl rfl ?_
          refine zr_callVe (kc' := ((((4 - 1) - 1) - 1) - 1)) (ks' := ((((24 - 6) - 6) - 6) - 6)) X 82 1 (m_X6_done l Γ hI1) gX6_pour_X6_done rfl (by decide +kernel) rfl (by decide) hI1.x rfl rfl (Nat.le_of_ble_eq_true rfl) dX6_pour_79 rfl (by omega) (by omega) (fun rv33 V34 hp35 => ?_)
          obtain ⟨hp35e, hS36, fx37⟩ := hp35
          rw [hp35e]
          obtain ⟨σ38, σ38e⟩ : ∃ zz9 : Nat → Int, zz9 = zdn σ1 := ⟨_, rfl⟩
          rw [← σ38e] at hS36
          have fx39 := zag.tr hI2 fx37
          have hx40 : V34 (ad 1) = some (1, .inr (7, [.ref (ad 2), .ref (ad 20), .ref (ad 22), .ref (ad 24), .ref (ad 16), .ref (ad 31), .ref (ad 33), .ref (ad 35), .ref (ad 40), .ref (ad 45), .int (zI (σ38 30)), .int (zI (σ38 31)), .int (zI (σ38 32)), .int (zI (σ38 33))])) := hS36.1
          show zG C V34 ((((4 - 1) - 1) - 1) - 1) ((((24 - 6) - 6) - 6) - 6) 82 [(6, .int (zI (k))), (5, .ref (ad (10 + q2.toNat))), (4, .ref (ad (10 + q.toNat))), (3, .int (zI (n))), (2, .int (zI (q2))), (1, .int (zI (q))), (0, .ref (ad 1))] [.int (zI (k))]
          exact zr_iret X rfl ⟨k, σ38, rfl, hS36, fx39, ⟨by omega, by omega, by omega, by omega, by omega, by omega, by rw [σ38e, hI3]⟩⟩ dX6_pour_82
        · refine zr_aload X 53 1 dX6_pour_51 rfl rfl ?_
          refine zr_callVe (kc' := ((((4 - 1) - 1) - 1) - 1)) (ks' := ((((24 - 6) - 6) - 6) - 6)) X 56 0 (e_size l Γ hw19) gX6_pour_X5_size rfl (by decide +kernel) rfl (by decide) hw19.cl rfl rfl (Nat.le_of_ble_eq_true rfl) dX6_pour_53 rfl (by omega) (by omega) (fun rv41 V42 hp43 => ?_)
          rw [hp43.1, hp43.2]
          show zG C V1 ((((4 - 1) - 1) - 1) - 1) ((((24 - 6) - 6) - 6) - 6) 56 [(6, .int (zI (k))), (5, .ref (ad (10 + q2.toNat))), (4, .ref (ad (10 + q.toNat))), (3, .int (zI (n))), (2, .int (zI (q2))), (1, .int (zI (q))), (0, .ref (ad 1))] [.int (zI ((σ (4 * q2.toNat + 1)) - (σ (4 * q2.toNat + 2) + k)))]
          refine zr_if_le X 76 59 dX6_pour_56 rfl rfl (by omega) (fun bq44 => ?_) (fun bq44 => ?_)
          · refine zr_aload_n X 77 6 dX6_pour_76 rfl rfl ?_
            refine zr_iload X 79 0 dX6_pour_77 rfl rfl ?_
            refine zr_callVe (kc' := ((((4 - 1) - 1) - 1) - 1)) (ks' := ((((24 - 6) - 6) - 6) - 6)) X 82 1 (m_X6_done l Γ hI1) gX6_pour_X6_done rfl (by decide +kernel) rfl (by decide) hI1.x rfl rfl (Nat.le_of_ble_eq_true rfl) dX6_pour_79 rfl (by omega) (by omega) (fun rv45 V46 hp47 => ?_)
            obtain ⟨hp47e, hS48, fx49⟩ := hp47
            rw [hp47e]
            obtain ⟨σ50, σ50e⟩ : ∃ zz9 : Nat → Int, zz9 = zdn σ1 := ⟨_, rfl⟩
            rw [← σ50e] at hS48
            have fx51 := zag.tr hI2 fx49
            have hx52 : V46 (ad 1) = some (1, .inr (7, [.ref (ad 2), .ref (ad 20), .ref (ad 22), .ref (ad 24), .ref (ad 16), .ref (ad 31), .ref (ad 33), .ref (ad 35), .ref (ad 40), .ref (ad 45), .int (zI (σ50 30)), .int (zI (σ50 31)), .int (zI (σ50 32)), .int (zI (σ50 33))])) := hS48.1
            show zG C V46 ((((4 - 1) - 1) - 1) - 1) ((((24 - 6) - 6) - 6) - 6) 82 [(6, .int (zI (k))), (5, .ref (ad (10 + q2.toNat))), (4, .ref (ad (10 + q.toNat))), (3, .int (zI (n))), (2, .int (zI (q2))), (1, .int (zI (q))), (0, .ref (ad 1))] [.int (zI (k))]
            exact zr_iret X rfl ⟨k, σ50, rfl, hS48, fx51, ⟨by omega, by omega, by omega, by omega, by omega, by omega, by rw [σ50e, hI3]⟩⟩ dX6_pour_82
          · refine zr_aload X 61 1 dX6_pour_59 rfl rfl ?_
            refine zr_aload X 63 2 dX6_pour_61 rfl rfl ?_
            refine zr_callVe (kc' := ((((4 - 1) - 1) - 1) - 1)) (ks' := ((((24 - 6) - 6) - 6) - 6)) X 66 0 (e_read l Γ hw18 (by omega) (by omega)) gX6_pour_X5_readSign rfl (by decide +kernel) rfl (by decide) hw18.cl rfl rfl (Nat.le_of_ble_eq_true rfl) dX6_pour_63 rfl (by omega) (by omega) (fun rv53 V54 hp55 => ?_)
            obtain ⟨hp55x, hp55e, hp55a, hp55b, hp55z⟩ := hp55
            rw [hp55e]
            obtain ⟨hS56, fx57⟩ := hI1.setW (i := q.toNat) (by omega) hp55z
            have hw58 := hp55z.1
            have hw59 := hw19.other hp55z (by omega) (by omega)
            obtain ⟨σ60, σ60e⟩ : ∃ zz9 : Nat → Int, zz9 = zw4 σ1 q.toNat (σ (4 * q.toNat)) (σ (4 * q.toNat + 1)) (σ (4 * q.toNat + 2) + k + 1) (σ (4 * q.toNat + 3)) := ⟨_, rfl⟩
            rw [← σ60e] at hS56
            have fx61 := zag.tr hI2 fx57
            have hx62 : V54 (ad 1) = some (1, .inr (7, [.ref (ad 2), .ref (ad 20), .ref (ad 22), .ref (ad 24), .ref (ad 16), .ref (ad 31), .ref (ad 33), .ref (ad 35), .ref (ad 40), .ref (ad 45), .int (zI (σ60 30)), .int (zI (σ60 31)), .int (zI (σ60 32)), .int (zI (σ60 33))])) := hS56.1
            show zG C V54 ((((4 - 1) - 1) - 1) - 1) ((((24 - 6) - 6) - 6) - 6) 66 [(6, .int (zI (k))), (5, .ref (ad (10 + q2.toNat))), (4, .ref (ad (10 + q.toNat))), (3, .int (zI (n))), (2, .int (zI (q2))), (1, .int (zI (q))), (0, .ref (ad 1))] [.int (zI (hp55x)), .ref (ad (10 + q2.toNat))]
            refine zr_callVe (kc' := ((((4 - 1) - 1) - 1) - 1)) (ks' := ((((24 - 6) - 6) - 6) - 6)) X 69 1 (e_write_y l Γ hw59 (by omega) (x := hp55x) (by omega) (by omega)) gX6_pour_X5_writeSign rfl (by decide +kernel) rfl (by decide) hw59.cl rfl rfl (Nat.le_of_ble_eq_true rfl) dX6_pour_66 rfl (by omega) (by omega) (fun rv63 V64 hp65 => ?_)
            obtain ⟨hp65e, hp65z⟩ := hp65
            rw [hp65e]
            obtain ⟨hS66, fx67⟩ := hS56.setW (i := q2.toNat) (by omega) hp65z
            have hw68 := hw58.other hp65z (by omega) (by omega)
            have hw69 := hp65z.1
            obtain ⟨σ70, σ70e⟩ : ∃ zz9 : Nat → Int, zz9 = zw4 σ60 q2.toNat (σ (4 * q2.toNat)) (σ (4 * q2.toNat + 1)) (σ (4 * q2.toNat + 2) + k + 1) (σ (4 * q2.toNat + 3)) := ⟨_, rfl⟩
            rw [← σ70e] at hS66
            have fx71 := zag.tr fx61 fx67
            have hx72 : V64 (ad 1) = some (1, .inr (7, [.ref (ad 2), .ref (ad 20), .ref (ad 22), .ref (ad 24), .ref (ad 16), .ref (ad 31), .ref (ad 33), .ref (ad 35), .ref (ad 40), .ref (ad 45), .int (zI (σ70 30)), .int (zI (σ70 31)), .int (zI (σ70 32)), .int (zI (σ70 33))])) := hS66.1
            show zG C V64 ((((4 - 1) - 1) - 1) - 1) ((((24 - 6) - 6) - 6) - 6) 69 [(6, .int (zI (k))), (5, .ref (ad (10 + q2.toNat))), (4, .ref (ad (10 + q.toNat))), (3, .int (zI (n))), (2, .int (zI (q2))), (1, .int (zI (q))), (0, .ref (ad 1))] [.int (zI (1))]
            refine zr_pop X 70 dX6_pour_69 rfl rfl ?_
            refine zr_iinc X 73 0 [(6, .int (zI (k + 1))), (5, .ref (ad (10 + q2.toNat))), (4, .ref (ad (10 + q.toNat))), (3, .int (zI (n))), (2, .int (zI (q2))), (1, .int (zI (q))), (0, .ref (ad 1))] dX6_pour_70 rfl rfl (by decide) rfl ?_
            refine zr_goto X 37 dX6_pour_73 rfl ?_
            exact ih _ (by omega) V64 σ70 (k + 1) ⟨hS66, fx71, by rw [σ70e, σ60e, hI3, zw4_two (show q.toNat ≠ q2.toNat by omega), Int.add_assoc, Int.add_assoc], by omega, by omega, by omega, by omega⟩ rfl
    exact loop _ V σ 0 ⟨hS, zag.rf, (by rw [Int.add_zero, Int.add_zero, zw4_id, zw4_id]), by omega, by omega, by omega, by omega⟩ rfl
set_option maxRecDepth 100000 in
set_option maxHeartbeats 4000000 in
theorem m_X6_pour_eq (l : Launch) (hlt : l.stackTraces = false) (Γ : zGam) {V : zV} {ad : Nat → Nat} {σ : Nat → Int} {q n : Int} (hS : zS Γ V ad σ) (hq : -2147483648 ≤ q ∧ q ≤ 2147483647) (hn : -2147483648 ≤ n ∧ n ≤ 2147483647) : zN l Γ 8 yX6_pour wsX6_pour 4 24 V [.ref (ad 1), .int (zI (q)), .int (zI (q)), .int (zI (n))] (fun rv V' => ∃ (y : Int) (σ' : Nat → Int), rv = some (.int (zI y)) ∧ zS Γ V' ad σ' ∧ zfx V V' ∧ (False)) (fun E V' => V' = V ∧ ((E = zIO ∧ ¬ (0 ≤ q ∧ q < 6)) ∨ (E = zIA ∧ (0 ≤ q ∧ q < 6)))) := by
  refine zN_of (cc := cX6_pour) (nL := 7) (ret := (some .int)) (own := RX6) hlt (by decide +kernel) rfl rfl (Nat.le_of_ble_eq_true rfl) (fun C X Y => ?_)
  have hx1 : V (ad 1) = some (1, .inr (7, [.ref (ad 2), .ref (ad 20), .ref (ad 22), .ref (ad 24), .ref (ad 16), .ref (ad 31), .ref (ad 33), .ref (ad 35), .ref (ad 40), .ref (ad 45), .int (zI (σ 30)), .int (zI (σ 31)), .int (zI (σ 32)), .int (zI (σ 33))])) := hS.1
  show zG C V 4 24 0 [(0, .ref (ad 1)), (1, .int (zI (q))), (2, .int (zI (q))), (3, .int (zI (n)))] []
  refine zr_aload_n X 1 0 dX6_pour_0 rfl rfl ?_
  refine zr_iload_n X 2 1 dX6_pour_1 rfl rfl ?_
  refine zr_callVN (kc' := 4 - 1) (ks' := 24 - 6) X Y 5 1 (m_X6_windowOf l hlt Γ hS (q := q) (by omega)) gX6_pour_X6_windowOf rfl (by decide +kernel) rfl (by decide) hx1 rfl rfl (Nat.le_of_ble_eq_true rfl) dX6_pour_2 rfl (by omega) (by omega) (fun E W hX => ⟨hX.2.2, Or.inl ⟨hX.1, by have := hX.2.1; omega⟩⟩) (fun rv2 V3 hp4 => ?_)
  obtain ⟨hp4a, hp4b, hp4c⟩ := hp4
  rw [hp4b, hp4c]
  have hw5 := hS.w (i := q.toNat) (by omega)
  have hw5r := hw5.rg
  show zG C V (4 - 1) (24 - 6) 5 [(0, .ref (ad 1)), (1, .int (zI (q))), (2, .int (zI (q))), (3, .int (zI (n)))] [.ref (ad (10 + q.toNat))]
  refine zr_astore X 7 [(4, .ref (ad (10 + q.toNat))), (0, .ref (ad 1)), (1, .int (zI (q))), (2, .int (zI (q))), (3, .int (zI (n)))] dX6_pour_5 rfl (by decide) rfl ?_
  refine zr_aload_n X 8 1 dX6_pour_7 rfl rfl ?_
  refine zr_iload_n X 9 3 dX6_pour_8 rfl rfl ?_
  refine zr_callVN (kc' := (4 - 1) - 1) (ks' := (24 - 6) - 6) X Y 12 1 (m_X6_windowOf l hlt Γ hS (q := q) (by omega)) gX6_pour_X6_windowOf rfl (by decide +kernel) rfl (by decide) hx1 rfl rfl (Nat.le_of_ble_eq_true rfl) dX6_pour_9 rfl (by omega) (by omega) (fun E W hX => ⟨hX.2.2, Or.inl ⟨hX.1, by have := hX.2.1; omega⟩⟩) (fun rv6 V7 hp8 => ?_)
  obtain ⟨hp8a, hp8b, hp8c⟩ := hp8
  rw [hp8b, hp8c]
  have hw9 := hS.w (i := q.toNat) (by omega)
  have hw9r := hw9.rg
  show zG C V ((4 - 1) - 1) ((24 - 6) - 6) 12 [(4, .ref (ad (10 + q.toNat))), (0, .ref (ad 1)), (1, .int (zI (q))), (2, .int (zI (q))), (3, .int (zI (n)))] [.ref (ad (10 + q.toNat))]
  refine zr_astore X 14 [(5, .ref (ad (10 + q.toNat))), (4, .ref (ad (10 + q.toNat))), (0, .ref (ad 1)), (1, .int (zI (q))), (2, .int (zI (q))), (3, .int (zI (n)))] dX6_pour_12 rfl (by decide) rfl ?_
  refine zr_iload_n X 15 3 dX6_pour_14 rfl rfl ?_
  refine zr_iload_n X 16 4 dX6_pour_15 rfl rfl ?_
  refine zr_icmp_eq X 23 19 dX6_pour_16 rfl rfl (by omega) (by omega) (fun bq10 => ?_) (fun bq10 => ?_)
  · refine zr_iconst X 24 dX6_pour_23 rfl ?_
    refine zr_callSN (kc' := ((4 - 1) - 1) - 1) (ks' := ((24 - 6) - 6) - 6) X Y 27 1 (m_X6_require l hlt Γ (V := V) (b := 0) (by omega)) gX6_pour_X6_require rfl (by decide +kernel) rfl (by decide) rfl (Nat.le_of_ble_eq_true rfl) dX6_pour_24 rfl (by omega) (by omega) (fun E W hX => ⟨hX.2.2, Or.inr ⟨hX.1, by have := hX.2.1; omega⟩⟩) (fun rv11 V12 hp13 => ?_)
    obtain ⟨hp13a, hp13b, hp13c⟩ := hp13
    rw [hp13b, hp13c]
    show zG C V (((4 - 1) - 1) - 1) (((24 - 6) - 6) - 6) 27 [(5, .ref (ad (10 + q.toNat))), (4, .ref (ad (10 + q.toNat))), (0, .ref (ad 1)), (1, .int (zI (q))), (2, .int (zI (q))), (3, .int (zI (n)))] []
    exfalso
    omega
  · exfalso
    omega
set_option maxRecDepth 100000 in
set_option maxHeartbeats 4000000 in
theorem m_X6_sign (l : Launch) (hlt : l.stackTraces = false) (Γ : zGam) {V : zV} {ad : Nat → Nat} {σ : Nat → Int} {q z : Int} (hS : zS Γ V ad σ) (hq : -2147483648 ≤ q ∧ q ≤ 2147483647) (hz : -2147483648 ≤ z ∧ z ≤ 2147483647) : zN l Γ 8 yX6_sign wsX6_sign 2 12 V [.ref (ad 1), .int (zI (q)), .int (zI (z))] (fun rv V' => ∃ (y : Int) (σ' : Nat → Int), rv = some (.int (zI y)) ∧ zS Γ V' ad σ' ∧ zfx V V' ∧ ((0 ≤ q ∧ q < 6) ∧ -9 ≤ y ∧ y ≤ 255 ∧ σ' = σ)) (fun E V' => V' = V ∧ ((E = zIO ∧ ¬ (0 ≤ q ∧ q < 6)) ∨ (E = zIA ∧ False))) := by
  refine zN_of (cc := cX6_sign) (nL := 3) (ret := (some .int)) (own := RX6) hlt (by decide +kernel) rfl rfl (Nat.le_of_ble_eq_true rfl) (fun C X Y => ?_)
  have hx1 : V (ad 1) = some (1, .inr (7, [.ref (ad 2), .ref (ad 20), .ref (ad 22), .ref (ad 24), .ref (ad 16), .ref (ad 31), .ref (ad 33), .ref (ad 35), .ref (ad 40), .ref (ad 45), .int (zI (σ 30)), .int (zI (σ 31)), .int (zI (σ 32)), .int (zI (σ 33))])) := hS.1
  show zG C V 2 12 0 [(0, .ref (ad 1)), (1, .int (zI (q))), (2, .int (zI (z)))] []
  refine zr_aload_n X 1 0 dX6_sign_0 rfl rfl ?_
  refine zr_iload_n X 2 1 dX6_sign_1 rfl rfl ?_
  refine zr_callVN (kc' := 2 - 1) (ks' := 12 - 6) X Y 5 1 (m_X6_windowOf l hlt Γ hS (q := q) (by omega)) gX6_sign_X6_windowOf rfl (by decide +kernel) rfl (by decide) hx1 rfl rfl (Nat.le_of_ble_eq_true rfl) dX6_sign_2 rfl (by omega) (by omega) (fun E W hX => ⟨hX.2.2, Or.inl ⟨hX.1, by have := hX.2.1; omega⟩⟩) (fun rv2 V3 hp4 => ?_)
  obtain ⟨hp4a, hp4b, hp4c⟩ := hp4
  rw [hp4b, hp4c]
  have hw5 := hS.w (i := q.toNat) (by omega)
  have hw5r := hw5.rg
  show zG C V (2 - 1) (12 - 6) 5 [(0, .ref (ad 1)), (1, .int (zI (q))), (2, .int (zI (z)))] [.ref (ad (10 + q.toNat))]
  refine zr_iload_n X 6 2 dX6_sign_5 rfl rfl ?_
  refine zr_callVe (kc' := (2 - 1)) (ks' := (12 - 6)) X 9 1 (e_at l Γ hw5 (k := z) (by omega)) gX6_sign_X5_at rfl (by decide +kernel) rfl (by decide) hw5.cl rfl rfl (Nat.le_of_ble_eq_true rfl) dX6_sign_6 rfl (by omega) (by omega) (fun rv6 V7 hp8 => ?_)
  obtain ⟨hp8x, hp8e, hp8v, hp8a, hp8b, hp8c, hp8d⟩ := hp8
  rw [hp8e, hp8v]
  show zG C V (2 - 1) (12 - 6) 9 [(0, .ref (ad 1)), (1, .int (zI (q))), (2, .int (zI (z)))] [.int (zI (hp8x))]
  exact zr_iret X rfl ⟨hp8x, σ, rfl, hS, zag.rf, ⟨by omega, by omega, by omega, rfl⟩⟩ dX6_sign_9
set_option maxRecDepth 100000 in
set_option maxHeartbeats 4000000 in
theorem m_X6_look (l : Launch) (hlt : l.stackTraces = false) (Γ : zGam) {V : zV} {ad : Nat → Nat} {σ : Nat → Int} {q z : Int} (hS : zS Γ V ad σ) (hq : -2147483648 ≤ q ∧ q ≤ 2147483647) (hz : -2147483648 ≤ z ∧ z ≤ 2147483647) : zN l Γ 8 yX6_look wsX6_look 2 12 V [.ref (ad 1), .int (zI (q)), .int (zI (z))] (fun rv V' => ∃ (y : Int) (σ' : Nat → Int), rv = some (.int (zI y)) ∧ zS Γ V' ad σ' ∧ zfx V V' ∧ ((0 ≤ q ∧ q < 6) ∧ -9 ≤ y ∧ y ≤ 255 ∧ σ' = σ)) (fun E V' => V' = V ∧ ((E = zIO ∧ ¬ (0 ≤ q ∧ q < 6)) ∨ (E = zIA ∧ False))) := by
  refine zN_of (cc := cX6_look) (nL := 3) (ret := (some .int)) (own := RX6) hlt (by decide +kernel) rfl rfl (Nat.le_of_ble_eq_true rfl) (fun C X Y => ?_)
  have hx1 : V (ad 1) = some (1, .inr (7, [.ref (ad 2), .ref (ad 20), .ref (ad 22), .ref (ad 24), .ref (ad 16), .ref (ad 31), .ref (ad 33), .ref (ad 35), .ref (ad 40), .ref (ad 45), .int (zI (σ 30)), .int (zI (σ 31)), .int (zI (σ 32)), .int (zI (σ 33))])) := hS.1
  show zG C V 2 12 0 [(0, .ref (ad 1)), (1, .int (zI (q))), (2, .int (zI (z)))] []
  refine zr_aload_n X 1 0 dX6_look_0 rfl rfl ?_
  refine zr_iload_n X 2 1 dX6_look_1 rfl rfl ?_
  refine zr_callVN (kc' := 2 - 1) (ks' := 12 - 6) X Y 5 1 (m_X6_windowOf l hlt Γ hS (q := q) (by omega)) gX6_look_X6_windowOf rfl (by decide +kernel) rfl (by decide) hx1 rfl rfl (Nat.le_of_ble_eq_true rfl) dX6_look_2 rfl (by omega) (by omega) (fun E W hX => ⟨hX.2.2, Or.inl ⟨hX.1, by have := hX.2.1; omega⟩⟩) (fun rv2 V3 hp4 => ?_)
  obtain ⟨hp4a, hp4b, hp4c⟩ := hp4
  rw [hp4b, hp4c]
  have hw5 := hS.w (i := q.toNat) (by omega)
  have hw5r := hw5.rg
  show zG C V (2 - 1) (12 - 6) 5 [(0, .ref (ad 1)), (1, .int (zI (q))), (2, .int (zI (z)))] [.ref (ad (10 + q.toNat))]
  refine zr_iload_n X 6 2 dX6_look_5 rfl rfl ?_
  refine zr_callVe (kc' := (2 - 1)) (ks' := (12 - 6)) X 9 1 (e_atPlace l Γ hw5 (k := z) (by omega)) gX6_look_X5_atPlace rfl (by decide +kernel) rfl (by decide) hw5.cl rfl rfl (Nat.le_of_ble_eq_true rfl) dX6_look_6 rfl (by omega) (by omega) (fun rv6 V7 hp8 => ?_)
  obtain ⟨hp8x, hp8e, hp8v, hp8a, hp8b, hp8c, hp8d⟩ := hp8
  rw [hp8e, hp8v]
  show zG C V (2 - 1) (12 - 6) 9 [(0, .ref (ad 1)), (1, .int (zI (q))), (2, .int (zI (z)))] [.int (zI (hp8x))]
  exact zr_iret X rfl ⟨hp8x, σ, rfl, hS, zag.rf, ⟨by omega, by omega, by omega, rfl⟩⟩ dX6_look_9
end
section
/-! Script.append of itself -/
set_option maxRecDepth 100000 in
set_option maxHeartbeats 4000000 in
theorem m_X2_append_eq (l : Launch) (Γ : zGam) {V : zV} {b g tb tg n : Nat} {len : Int} {f : Nat → Int} (hb : V b = some (tb, .inr (4, [.ref g, .int (zI len)]))) (hg : V g = some (tg, za Γ.2.1 1 n f)) (hn : 0 ≤ len ∧ len ≤ n ∧ n ≤ 1000) (hm : len + len ≤ n) (hc : zc f) : zM l Γ 4 yX2_append wsX2_append 0 0 V [.ref b, .ref b] (fun rv V' => rv = none ∧ ∃ f', zc f' ∧ V' = zu (zu V g tg (za Γ.2.1 1 n f')) b tb (.inr (4, [.ref g, .int (zI (len + len))]))) := by
  have hbg : b ≠ g := zne_oa hb hg
  refine zM_of (cc := cX2_append) (nL := 4) (ret := none) (own := RX2) (by decide +kernel) rfl rfl (Nat.le_of_ble_eq_true rfl) (fun C X hi0 => ?_)
  show zG C V 0 0 0 [(0, .ref b), (1, .ref b)] []
  refine zr_aload_n X 1 1 dX2_append_0 rfl rfl ?_
  refine zr_txSize X 4 (Or.inr ⟨tb, tg, n, f, hb, hg, by omega, hc, rfl⟩) gX2_append_X5_size_u25X5 gX2_append_X2_size_u25X2 (by decide) (Nat.le_of_ble_eq_true rfl) dX2_append_1 rfl ?_
  refine zr_istore_n X 5 [(2, .int (zI (len))), (0, .ref b), (1, .ref b)] dX2_append_4 rfl (by decide) rfl ?_
  refine zr_iconst X 6 dX2_append_5 rfl ?_
  refine zr_istore_n X 7 [(3, .int (zI (0))), (2, .int (zI (len))), (0, .ref b), (1, .ref b)] dX2_append_6 rfl (by decide) rfl ?_
  refine zr_view (V' := zu (zu V g tg (za Γ.2.1 1 n f)) b tb (.inr (4, [.ref g, .int (zI (len + 0))]))) (by rw [zu_id hg, Int.add_zero, zu_id hb]) ?_
  refine zr_sub [0, 1, 3, 2] [(3, .int (zI (0))), (2, .int (zI (len))), (1, .ref b), (0, .ref b)] rfl ?_
  have loop : ∀ (N : Nat) (f1 : Nat → Int) (k : Int), zc f1 ∧ 0 ≤ k ∧ k ≤ len → (len - k).toNat = N → zG C (zu (zu V g tg (za Γ.2.1 1 n f1)) b tb (.inr (4, [.ref g, .int (zI (len + k))]))) 0 0 7 [(3, .int (zI (k))), (2, .int (zI (len))), (1, .ref b), (0, .ref b)] [] := by
    intro N
    induction N using Nat.strongRecOn with
    | _ N ih =>
    intro f1 k hI hN
    obtain ⟨hI1, hI2, hI3⟩ := id hI
    refine zr_iload_n X 8 0 dX2_append_7 rfl rfl ?_
    refine zr_iload_n X 9 1 dX2_append_8 rfl rfl ?_
    refine zr_icmp_ge X 27 12 dX2_append_9 rfl rfl (by omega) (by omega) (fun bq1 => ?_) (fun bq1 => ?_)
    · exact zr_vret X rfl ⟨rfl, f1, hI1, by rw [show k = len by omega]⟩ dX2_append_27
    · refine zr_aload_n X 13 3 dX2_append_12 rfl rfl ?_
      refine zr_aload_n X 14 2 dX2_append_13 rfl rfl ?_
      refine zr_iload_n X 15 0 dX2_append_14 rfl rfl ?_
      refine zr_txAt X 18 (Or.inr ⟨tb, tg, n, f1, (zu_eq _ _ _ _), ((zu_ne (Ne.symm (zne_oa hb hg))).trans (zu_eq _ _ _ _)), by omega, hI1, rfl⟩) (by omega) gX2_append_X5_at_u29X5 gX2_append_X2_at_u29X2 (by decide) (Nat.le_of_ble_eq_true rfl) dX2_append_15 rfl ?_
      rw [if_pos (show 0 ≤ k ∧ k < len + k by omega)]
      have hx2 := (fun k => hI1 k.toNat) k
      show zG C (zu (zu V g tg (za Γ.2.1 1 n f1)) b tb (.inr (4, [.ref g, .int (zI (len + k))]))) 0 0 18 [(3, .int (zI (k))), (2, .int (zI (len))), (1, .ref b), (0, .ref b)] [.int (zI ((fun k => f1 k.toNat) k)), .ref b]
      refine zr_callV (kc' := 0) (ks' := 0) X 21 1 (m_X2_add l Γ (x := f1 k.toNat) (zu_eq _ _ _ _) ((zu_ne (Ne.symm (zne_oa hb hg))).trans (zu_eq _ _ _ _)) (by omega) (hI1 _) (by omega)) gX2_append_X2_add rfl (by decide +kernel) rfl (by decide) (zu_eq _ _ _ _) rfl rfl (Nat.le_of_ble_eq_true rfl) dX2_append_18 rfl (by omega) (by omega) (fun rv3 V4 hp5 => ?_)
      rw [hp5.1, hp5.2]
      show zG C (zu (zu (zu (zu V g tg (za Γ.2.1 1 n f1)) b tb (.inr (4, [.ref g, .int (zI (len + k))]))) g tg (za Γ.2.1 1 n (zf f1 (len + k).toNat (f1 k.toNat)))) b tb (.inr (4, [.ref g, .int (zI (len + k + 1))]))) 0 0 21 [(3, .int (zI (k))), (2, .int (zI (len))), (1, .ref b), (0, .ref b)] []
      refine zr_iinc X 24 0 [(3, .int (zI (k + 1))), (2, .int (zI (len))), (1, .ref b), (0, .ref b)] dX2_append_21 rfl rfl (by decide) rfl ?_
      refine zr_goto X 7 dX2_append_24 rfl ?_
      refine zr_view (V' := (zu (zu V g tg (za Γ.2.1 1 n (zf f1 (len + k).toNat (f1 k.toNat)))) b tb (.inr (4, [.ref g, .int (zI (len + (k + 1)))])))) (by
          funext z
          simp only [zu]
          by_cases e0 : z = g
          · subst e0; simp [hbg, Ne.symm hbg, Int.add_assoc]
          by_cases e1 : z = b
          · subst e1; simp [hbg, Ne.symm hbg, Int.add_assoc]
          simp [e0, e1]) ?_
      exact ih _ (by omega) (zf f1 (len + k).toNat (f1 k.toNat)) (k + 1) ⟨zc_zf hI1 (hI1 _), by omega, by omega⟩ rfl
  exact loop _ f 0 ⟨hc, by omega, by omega⟩ rfl
/-! scripts as a whole -/
def zSs (Γ : zGam) (V V' : zV) (tb b tg g n : Nat) (len : Int) : Prop := zSc Γ V' tb b tg g n len ∧ zag (fun t => t ≠ tb ∧ t ≠ tg) V V'
theorem zSc.cl {Γ : zGam} {V : zV} {tb b tg g n : Nat} {len : Int} (h : zSc Γ V tb b tg g n len) : zCl V b 4 := by
  obtain ⟨f, h1, -⟩ := h
  exact ⟨_, _, h1⟩
theorem zSc.rg {Γ : zGam} {V : zV} {tb b tg g n : Nat} {len : Int} (h : zSc Γ V tb b tg g n len) : 0 ≤ len ∧ len ≤ n := by
  obtain ⟨f, h1, h2, h3, h4, h5⟩ := h
  exact ⟨h4, h5⟩
theorem zSs.two {Γ : zGam} {V : zV} {tb b tg g n : Nat} {len : Int} {f f' : Nat → Int} {e0 : va_E} (h1 : V b = some (tb, e0)) (h2 : V g = some (tg, za Γ.2.1 1 n f)) (hne : b ≠ g) (hc : zc f') (hl : 0 ≤ len ∧ len ≤ n) : zSs Γ V (zu (zu V g tg (za Γ.2.1 1 n f')) b tb (.inr (4, [.ref g, .int (zI len)]))) tb b tg g n len :=
  ⟨⟨f', zu_eq _ _ _ _, (zu_ne (Ne.symm hne)).trans (zu_eq _ _ _ _), hc, hl.1, hl.2⟩, (zag.rf.set h2 (fun q => q.2 rfl)).set ((zu_ne hne).trans h1) (fun q => q.1 rfl)⟩
theorem zSs.row {Γ : zGam} {V : zV} {tb b tg g n : Nat} {len : Int} {f f' : Nat → Int} (h1 : V b = some (tb, .inr (4, [.ref g, .int (zI len)]))) (h2 : V g = some (tg, za Γ.2.1 1 n f)) (hne : b ≠ g) (hc : zc f') (hl : 0 ≤ len ∧ len ≤ n) : zSs Γ V (zu V g tg (za Γ.2.1 1 n f')) tb b tg g n len :=
  ⟨⟨f', (zu_ne hne).trans h1, zu_eq _ _ _ _, hc, hl.1, hl.2⟩, zag.rf.set h2 (fun q => q.2 rfl)⟩
theorem zSs.tr {Γ : zGam} {V V' V'' : zV} {tb b tg g n : Nat} {len len' : Int} (h : zSs Γ V V' tb b tg g n len) (h' : zSs Γ V' V'' tb b tg g n len') : zSs Γ V V'' tb b tg g n len' := ⟨h'.1, h.2.tr h'.2⟩
section ZF
variable (l0 : Launch) (Γ : zGam) {V : zV} {tb b tg g n : Nat} {len : Int}
theorem f_size (h : zSc Γ V tb b tg g n len) : zM l0 Γ 0 yX2_size wsX2_size 0 0 V [.ref b] (fun rv V' => rv = some (.int (zI len)) ∧ V' = V) := by
  obtain ⟨f, h1, h2, h3, h4, h5⟩ := h
  exact m_X2_size l0 Γ h1
theorem f_at (h : zSc Γ V tb b tg g n len) (hn : n ≤ 1000) {k : Int} (hk : -2147483648 ≤ k ∧ k ≤ 2147483647) : zM l0 Γ 0 yX2_at wsX2_at 0 0 V [.ref b, .int (zI k)] (fun rv V' => ∃ x : Int, rv = some (.int (zI x)) ∧ V' = V ∧ -9 ≤ x ∧ x ≤ 255 ∧ (0 ≤ k ∧ k < len → 0 ≤ x)) := by
  obtain ⟨f, h1, h2, h3, h4, h5⟩ := h
  refine (m_X2_at l0 Γ h1 h2 ⟨h4, h5, hn⟩ hk).imp (fun rv V' hp => ?_)
  have hf := h3 k.toNat
  refine ⟨_, hp.1, hp.2, ?_⟩
  by_cases c : 0 ≤ k ∧ k < len
  · rw [if_pos c]
    exact ⟨by omega, by omega, fun _ => hf.1⟩
  · rw [if_neg c]
    exact ⟨by omega, by omega, fun q => absurd q c⟩
theorem f_clear (h : zSc Γ V tb b tg g n len) (ht : tb ≠ tg) : zM l0 Γ 0 yX2_clear wsX2_clear 0 0 V [.ref b] (fun rv V' => rv = none ∧ zSs Γ V V' tb b tg g n 0) := by
  obtain ⟨f, h1, h2, h3, h4, h5⟩ := h
  refine (m_X2_clear l0 Γ h1).imp (fun rv V' hp => ⟨hp.1, ?_⟩)
  have k := zSs.two (len := 0) h1 h2 (zne_tag h1 h2 ht) h3 ⟨Int.le_refl _, by omega⟩
  rw [zu_id h2] at k
  rw [hp.2]
  exact k
theorem f_add (h : zSc Γ V tb b tg g n len) (ht : tb ≠ tg) (hn : n ≤ 1000) {x : Int} (hx : 0 ≤ x ∧ x ≤ 255) (hlt : len < n) : zM l0 Γ 0 yX2_add wsX2_add 0 0 V [.ref b, .int (zI x)] (fun rv V' => rv = none ∧ zSs Γ V V' tb b tg g n (len + 1)) := by
  obtain ⟨f, h1, h2, h3, h4, h5⟩ := h
  refine (m_X2_add l0 Γ h1 h2 ⟨h4, h5, hn⟩ hx hlt).imp (fun rv V' hp => ⟨hp.1, ?_⟩)
  rw [hp.2]
  exact zSs.two h1 h2 (zne_tag h1 h2 ht) (zc_zf h3 hx) ⟨by omega, by omega⟩
theorem f_exchange (h : zSc Γ V tb b tg g n len) (ht : tb ≠ tg) (hn : n ≤ 1000) {p x : Int} (hx : 0 ≤ x ∧ x ≤ 255) (hp : 0 ≤ p ∧ p < len) : zM l0 Γ 1 yX2_exchange wsX2_exchange 0 0 V [.ref b, .int (zI p), .int (zI x)] (fun rv V' => ∃ y : Int, rv = some (.int (zI y)) ∧ 0 ≤ y ∧ y ≤ 255 ∧ zSs Γ V V' tb b tg g n len) := by
  obtain ⟨f, h1, h2, h3, h4, h5⟩ := h
  refine (m_X2_exchange l0 Γ h1 h2 ⟨h4, h5, hn⟩ hx hp).imp (fun rv V' hq => ⟨_, hq.1, (h3 _).1, (h3 _).2, ?_⟩)
  rw [hq.2]
  exact zSs.row h1 h2 (zne_tag h1 h2 ht) (zc_zf h3 hx) ⟨h4, h5⟩
theorem f_turn (h : zSc Γ V tb b tg g n len) (ht : tb ≠ tg) (hn : n ≤ 1000) : zM l0 Γ 2 yX2_turnRound wsX2_turnRound 0 0 V [.ref b] (fun rv V' => rv = none ∧ zSs Γ V V' tb b tg g n len) := by
  obtain ⟨f, h1, h2, h3, h4, h5⟩ := h
  refine (m_X2_turnRound l0 Γ h1 h2 ⟨h4, h5, hn⟩ h3).imp (fun rv V' hp => ?_)
  obtain ⟨e1, f', hf, e2⟩ := hp
  rw [e2]
  exact ⟨e1, zSs.row h1 h2 (zne_tag h1 h2 ht) hf ⟨h4, h5⟩⟩
variable {o r : Nat} {m : Int} {h' : Int → Int}
theorem f_append (h : zSc Γ V tb b tg g n len) (ht : tb ≠ tg) (hn : n ≤ 1000) (hT : zTx Γ V o r m h') (hob : o ≠ b) (hog : o ≠ g) (hrb : r ≠ b) (hrg : r ≠ g) (hm : len + m ≤ n) : zM l0 Γ 4 yX2_append wsX2_append 0 0 V [.ref b, .ref o] (fun rv V' => rv = none ∧ zSs Γ V V' tb b tg g n (len + m)) := by
  obtain ⟨f, h1, h2, h3, h4, h5⟩ := h
  have hr := hT.rg
  refine (m_X2_append l0 Γ h1 h2 ⟨h4, h5, hn⟩ hT hob hog hrb hrg hm h3).imp (fun rv V' hp => ?_)
  obtain ⟨e1, f', hf, e2⟩ := hp
  rw [e2]
  exact ⟨e1, zSs.two h1 h2 (zne_tag h1 h2 ht) hf ⟨by omega, hm⟩⟩
theorem f_append_eq (h : zSc Γ V tb b tg g n len) (ht : tb ≠ tg) (hn : n ≤ 1000) (hm : len + len ≤ n) : zM l0 Γ 4 yX2_append wsX2_append 0 0 V [.ref b, .ref b] (fun rv V' => rv = none ∧ zSs Γ V V' tb b tg g n (len + len)) := by
  obtain ⟨f, h1, h2, h3, h4, h5⟩ := h
  refine (m_X2_append_eq l0 Γ h1 h2 ⟨h4, h5, hn⟩ hm h3).imp (fun rv V' hp => ?_)
  obtain ⟨e1, f', hf, e2⟩ := hp
  rw [e2]
  exact ⟨e1, zSs.two h1 h2 (zne_tag h1 h2 ht) hf ⟨by omega, hm⟩⟩
theorem f_becomeText (h : zSc Γ V tb b tg g n len) (ht : tb ≠ tg) (hn : n ≤ 1000) (hT : zTx Γ V o r m h') (hob : o ≠ b) (hog : o ≠ g) (hrb : r ≠ b) (hrg : r ≠ g) (hm : m ≤ n) : zM l0 Γ 5 yX2_becomeText wsX2_becomeText 0 0 V [.ref b, .ref o] (fun rv V' => rv = none ∧ zSs Γ V V' tb b tg g n m) := by
  obtain ⟨f, h1, h2, h3, h4, h5⟩ := h
  have hr := hT.rg
  refine (m_X2_becomeText l0 Γ h1 h2 ⟨h4, h5, hn⟩ hT hob hog hrb hrg hm h3).imp (fun rv V' hp => ?_)
  obtain ⟨e1, f', hf, e2⟩ := hp
  rw [e2]
  exact ⟨e1, zSs.two h1 h2 (zne_tag h1 h2 ht) hf ⟨hr.1, hm⟩⟩
theorem f_becomeText_eq (h : zSc Γ V tb b tg g n len) : zM l0 Γ 5 yX2_becomeText wsX2_becomeText 0 0 V [.ref b, .ref b] (fun rv V' => rv = none ∧ V' = V) := by
  obtain ⟨f, h1, h2, h3, h4, h5⟩ := h
  exact m_X2_becomeText_eq l0 Γ h1
end ZF
/-! the sources' texts; moves of the state -/
theorem zS.txt {Γ : zGam} {V : zV} {ad : Nat → Nat} {σ : Nat → Int} (h : zS Γ V ad σ) {q : Int} (hq : 0 ≤ q ∧ q ≤ 7) : ∃ (r to tr : Nat) (e e' : va_E) (h' : Int → Int), zTx Γ V (zso ad q) r (zsz σ q) h' ∧ V (zso ad q) = some (to, e) ∧ V r = some (tr, e') ∧ ((10 ≤ to ∧ to ≤ 15 ∧ tr = 50 ∧ q < 6) ∨ (to = 20 ∧ tr = 21 ∧ q = 6) ∨ (to = 22 ∧ tr = 23 ∧ q = 7)) ∧ 0 ≤ zsz σ q ∧ zsz σ q ≤ 80 := by
  obtain ⟨a, b, w, d, t, p, f⟩ := h
  by_cases h6 : q < 6
  · obtain ⟨r, n, st, f, h1, h2, h3, h4, h5⟩ := w q.toNat (by omega)
    obtain ⟨a1, a2, a3, a4, a5, a6, a7, a8⟩ := id h3
    have e1 : zso ad q = ad (10 + q.toNat) := if_pos h6
    have e2 : zsz σ q = σ (4 * q.toNat + 1) - σ (4 * q.toNat + 2) := if_pos h6
    rw [e1, e2]
    exact ⟨r, _, _, _, _, _, Or.inl ⟨_, _, n, st, _, _, _, _, f, h1, h2, h3, h4, rfl, rfl⟩, h1, h2, Or.inl ⟨by omega, by omega, rfl, h6⟩, by omega, by omega⟩
  · by_cases h7 : q = 6
    · obtain ⟨f, h1, h2, h3, h4, h5⟩ := t.1
      have e1 : zso ad q = ad 20 := by unfold zso; rw [if_neg h6, if_pos h7]
      have e2 : zsz σ q = σ 24 := by unfold zsz; rw [if_neg h6, if_pos h7]
      rw [e1, e2]
      exact ⟨_, _, _, _, _, _, Or.inr ⟨_, _, _, f, h1, h2, ⟨h4, h5, by decide⟩, h3, rfl⟩, h1, h2, Or.inr (Or.inl ⟨rfl, rfl, h7⟩), h4, by omega⟩
    · obtain ⟨f, h1, h2, h3, h4, h5⟩ := t.2.1
      have e1 : zso ad q = ad 22 := by unfold zso; rw [if_neg h6, if_neg h7]
      have e2 : zsz σ q = σ 25 := by unfold zsz; rw [if_neg h6, if_neg h7]
      rw [e1, e2]
      exact ⟨_, _, _, _, _, _, Or.inr ⟨_, _, _, f, h1, h2, ⟨h4, h5, by decide⟩, h3, rfl⟩, h1, h2, Or.inr (Or.inr ⟨rfl, rfl, by omega⟩), h4, by omega⟩
theorem zf_ne {f : Nat → Int} {i j : Nat} {x : Int} (h : j ≠ i) : zf f i x j = f j := if_neg h
theorem zf_eq {f : Nat → Int} {i : Nat} {x : Int} : zf f i x i = x := if_pos rfl
theorem zS.setB {Γ : zGam} {V V' : zV} {ad : Nat → Nat} {σ : Nat → Int} (h : zS Γ V ad σ) {len : Int} (hb : zSs Γ V V' 20 (ad 20) 21 (ad 21) 80 len) : zS Γ V' ad (zf σ 24 len) ∧ zfx V V' := by
  obtain ⟨h1, ha⟩ := hb
  obtain ⟨a, b, w, d, t, p, f⟩ := h
  have e : ∀ j, j ≠ 24 → zf σ 24 len j = σ j := fun j hj => zf_ne hj
  have h5 : z50 Γ V V' := .of ha (by omega)
  refine ⟨⟨?_, b.kept ha (by omega), ?_, d.kept ha (by omega) h5, ⟨by rw [zf_eq]; exact h1, ?_, ?_, ?_⟩, ?_, f.kept ha (fun t h1 h2 => by omega)⟩, ha.mono (fun t ht => by omega)⟩
  · unfold zSx
    rw [e 30 (by omega), e 31 (by omega), e 32 (by omega), e 33 (by omega)]
    exact a.kept ha (by omega)
  · intro j hj
    rw [e _ (by omega), e _ (by omega), e _ (by omega), e _ (by omega)]
    exact (w j hj).row ha (by omega) h5
  · rw [e 25 (by omega)]
    exact t.2.1.kept ha (by omega) (by omega)
  · obtain ⟨n, k⟩ := t.2.2.1
    exact ⟨n, k.kept ha (by omega) (by omega)⟩
  · obtain ⟨n, k⟩ := t.2.2.2
    exact ⟨n, k.kept ha (by omega) (by omega)⟩
  · unfold zSp
    rw [e 26 (by omega), e 27 (by omega), e 28 (by omega), e 29 (by omega)]
    exact p.kept ha (by omega) (by omega) (by omega) (by omega) (by omega) (by omega) (by omega)
theorem zS.setK {Γ : zGam} {V V' : zV} {ad : Nat → Nat} {σ : Nat → Int} (h : zS Γ V ad σ) {len : Int} (hb : zSs Γ V V' 22 (ad 22) 23 (ad 23) 80 len) : zS Γ V' ad (zf σ 25 len) ∧ zfx V V' := by
  obtain ⟨h1, ha⟩ := hb
  obtain ⟨a, b, w, d, t, p, f⟩ := h
  have e : ∀ j, j ≠ 25 → zf σ 25 len j = σ j := fun j hj => zf_ne hj
  have h5 : z50 Γ V V' := .of ha (by omega)
  refine ⟨⟨?_, b.kept ha (by omega), ?_, d.kept ha (by omega) h5, ⟨?_, by rw [zf_eq]; exact h1, ?_, ?_⟩, ?_, f.kept ha (fun t h1 h2 => by omega)⟩, ha.mono (fun t ht => by omega)⟩
  · unfold zSx
    rw [e 30 (by omega), e 31 (by omega), e 32 (by omega), e 33 (by omega)]
    exact a.kept ha (by omega)
  · intro j hj
    rw [e _ (by omega), e _ (by omega), e _ (by omega), e _ (by omega)]
    exact (w j hj).row ha (by omega) h5
  · rw [e 24 (by omega)]
    exact t.1.kept ha (by omega) (by omega)
  · obtain ⟨n, k⟩ := t.2.2.1
    exact ⟨n, k.kept ha (by omega) (by omega)⟩
  · obtain ⟨n, k⟩ := t.2.2.2
    exact ⟨n, k.kept ha (by omega) (by omega)⟩
  · unfold zSp
    rw [e 26 (by omega), e 27 (by omega), e 28 (by omega), e 29 (by omega)]
    exact p.kept ha (by omega) (by omega) (by omega) (by omega) (by omega) (by omega) (by omega)
theorem zS.setDr {Γ : zGam} {V V' : zV} {ad : Nat → Nat} {σ : Nat → Int} (h : zS Γ V ad σ) {len : Int} (hb : zSs Γ V V' 31 (ad 31) 32 (ad 32) 80 len) : zS Γ V' ad σ ∧ zfx V V' := by
  obtain ⟨h1, ha⟩ := hb
  obtain ⟨a, b, w, d, t, p, f⟩ := h
  have h5 : z50 Γ V V' := .of ha (by omega)
  obtain ⟨n, k⟩ := t.2.2.2
  exact ⟨⟨a.kept ha (by omega), b.kept ha (by omega), w.kept ha (fun i hi => by omega) h5, d.kept ha (by omega) h5, ⟨t.1.kept ha (by omega) (by omega), t.2.1.kept ha (by omega) (by omega), ⟨len, h1⟩, ⟨n, k.kept ha (by omega) (by omega)⟩⟩, p.kept ha (by omega) (by omega) (by omega) (by omega) (by omega) (by omega) (by omega), f.kept ha (fun t h1 h2 => by omega)⟩, ha.mono (fun t ht => by omega)⟩
theorem zS.setSd {Γ : zGam} {V V' : zV} {ad : Nat → Nat} {σ : Nat → Int} (h : zS Γ V ad σ) {len : Int} (hb : zSs Γ V V' 33 (ad 33) 34 (ad 34) 80 len) : zS Γ V' ad σ ∧ zfx V V' := by
  obtain ⟨h1, ha⟩ := hb
  obtain ⟨a, b, w, d, t, p, f⟩ := h
  have h5 : z50 Γ V V' := .of ha (by omega)
  obtain ⟨n, k⟩ := t.2.2.1
  exact ⟨⟨a.kept ha (by omega), b.kept ha (by omega), w.kept ha (fun i hi => by omega) h5, d.kept ha (by omega) h5, ⟨t.1.kept ha (by omega) (by omega), t.2.1.kept ha (by omega) (by omega), ⟨n, k.kept ha (by omega) (by omega)⟩, ⟨len, h1⟩⟩, p.kept ha (by omega) (by omega) (by omega) (by omega) (by omega) (by omega) (by omega), f.kept ha (fun t h1 h2 => by omega)⟩, ha.mono (fun t ht => by omega)⟩
/-- the seekers and the table move, nothing else -/
theorem zS.setF {Γ : zGam} {V V' : zV} {ad : Nat → Nat} {σ : Nat → Int} (h : zS Γ V ad σ) (ha : zag (fun t => ¬ (35 ≤ t ∧ t ≤ 47)) V V') (hf : zSf Γ V' ad) : zS Γ V' ad σ ∧ zfx V V' := by
  obtain ⟨a, b, w, d, t, p, f⟩ := h
  have h5 : z50 Γ V V' := .of ha (by omega)
  exact ⟨⟨a.kept ha (by omega), b.kept ha (by omega), w.kept ha (fun i hi => by omega) h5, d.kept ha (by omega) h5, t.kept ha (by omega) (by omega) (by omega) (by omega) (by omega) (by omega) (by omega) (by omega), p.kept ha (by omega) (by omega) (by omega) (by omega) (by omega) (by omega) (by omega), hf⟩, ha.mono (fun t ht => by omega)⟩
/-- the pipe moves, nothing else -/
theorem zS.setP {Γ : zGam} {V V' : zV} {ad : Nat → Nat} {σ σ' : Nat → Int} (h : zS Γ V ad σ) (ha : zag (fun t => ¬ (24 ≤ t ∧ t ≤ 30)) V V') (hp : zSp Γ V' ad σ') (he : ∀ j, ¬ (26 ≤ j ∧ j ≤ 29) → σ' j = σ j) : zS Γ V' ad σ' ∧ zfx V V' := by
  obtain ⟨a, b, w, d, t, p, f⟩ := h
  have h5 : z50 Γ V V' := .of ha (by omega)
  refine ⟨⟨?_, b.kept ha (by omega), ?_, d.kept ha (by omega) h5, ?_, hp, f.kept ha (fun t h1 h2 => by omega)⟩, ha.mono (fun t ht => by omega)⟩
  · unfold zSx
    rw [he 30 (by omega), he 31 (by omega), he 32 (by omega), he 33 (by omega)]
    exact a.kept ha (by omega)
  · intro j hj
    rw [he _ (by omega), he _ (by omega), he _ (by omega), he _ (by omega)]
    exact (w j hj).row ha (by omega) h5
  · unfold zSt
    rw [he 24 (by omega), he 25 (by omega)]
    exact t.kept ha (by omega) (by omega) (by omega) (by omega) (by omega) (by omega) (by omega) (by omega)
end
section
/-! borders and seekers as a whole; marks instead of inequalities -/
section ZGG
variable (l0 : Launch) (Γ : zGam) {V : zV}
theorem f_becomeTextT {tb b tg g n to tr o r : Nat} {len m : Int} {h' : Int → Int} {e e' : va_E} (h : zSc Γ V tb b tg g n len) (ht : tb ≠ tg) (hn : n ≤ 1000) (hT : zTx Γ V o r m h') (ho : V o = some (to, e)) (hr : V r = some (tr, e')) (hne : to ≠ tb ∧ to ≠ tg ∧ tr ≠ tb ∧ tr ≠ tg) (hm : m ≤ n) : zM l0 Γ 5 yX2_becomeText wsX2_becomeText 0 0 V [.ref b, .ref o] (fun rv V' => rv = none ∧ zSs Γ V V' tb b tg g n m) := by
  obtain ⟨f, h1, h2, h3⟩ := id h
  exact f_becomeText l0 Γ h ht hn hT (zne_tag ho h1 hne.1) (zne_tag ho h2 hne.2.1) (zne_tag hr h1 hne.2.2.1) (zne_tag hr h2 hne.2.2.2) hm
theorem f_appendT {tb b tg g n to tr o r : Nat} {len m : Int} {h' : Int → Int} {e e' : va_E} (h : zSc Γ V tb b tg g n len) (ht : tb ≠ tg) (hn : n ≤ 1000) (hT : zTx Γ V o r m h') (ho : V o = some (to, e)) (hr : V r = some (tr, e')) (hne : to ≠ tb ∧ to ≠ tg ∧ tr ≠ tb ∧ tr ≠ tg) (hm : len + m ≤ n) : zM l0 Γ 4 yX2_append wsX2_append 0 0 V [.ref b, .ref o] (fun rv V' => rv = none ∧ zSs Γ V V' tb b tg g n (len + m)) := by
  obtain ⟨f, h1, h2, h3⟩ := id h
  exact f_append l0 Γ h ht hn hT (zne_tag ho h1 hne.1) (zne_tag ho h2 hne.2.1) (zne_tag hr h1 hne.2.2.1) (zne_tag hr h2 hne.2.2.2) hm
theorem zBo.cl {tt t ta ga tc ca : Nat} (h : zBo Γ V tt t ta ga tc ca) : zCl V t 2 := by
  obtain ⟨lk, gf, cf, h1, -⟩ := h
  exact ⟨_, _, h1⟩
theorem zSk.cl {tk k tp pl bo : Nat} (h : zSk Γ V tk k tp pl bo) : zCl V k 5 := by
  obtain ⟨mn, pf, h1, -⟩ := h
  exact ⟨_, _, h1⟩
variable {tt t ta ga tc ca to tr o r : Nat} {m : Int} {h' : Int → Int} {e e' : va_E}
theorem g_greatestOf (h : zBo Γ V tt t ta ga tc ca) {k : Int} (hk : -2147483648 ≤ k ∧ k ≤ 2147483647) : zM l0 Γ 0 yX0_greatestOf wsX0_greatestOf 0 0 V [.ref t, .int (zI k)] (fun rv V' => ∃ x : Int, rv = some (.int (zI x)) ∧ V' = V ∧ 0 ≤ x ∧ x ≤ 1000) := by
  obtain ⟨lk, gf, cf, h1, h2, h3, h4, h5, h6, h7⟩ := h
  refine (m_X0_greatestOf l0 Γ h1 h2 hk).imp (fun rv V' hp => ?_)
  obtain ⟨x, hx, hxa, hxb⟩ := zbd_if h4 k
  exact ⟨x, by rw [← hx]; exact hp.1, hp.2, hxa, hxb⟩
theorem g_linkAt (h : zBo Γ V tt t ta ga tc ca) {k : Int} (hk : -2147483648 ≤ k ∧ k ≤ 2147483647) : zM l0 Γ 0 yX0_linkAt wsX0_linkAt 0 0 V [.ref t, .int (zI k)] (fun rv V' => ∃ x : Int, rv = some (.int (zI x)) ∧ V' = V ∧ -1 ≤ x ∧ x ≤ 1000) := by
  obtain ⟨lk, gf, cf, h1, h2, h3, h4, h5, h6, h7⟩ := h
  refine (m_X0_linkAt l0 Γ h1 h3 ⟨hk.1, hk.2, h6, h7⟩).imp (fun rv V' hp => ?_)
  have hc := h5 k.toNat
  refine ⟨_, hp.1, hp.2, ?_⟩
  by_cases c : 0 ≤ k ∧ k < lk
  · rw [if_pos c]
    omega
  · rw [if_neg c]
    omega
theorem g_measure (h : zBo Γ V tt t ta ga tc ca) (hT : zTx Γ V o r m h') (ho : V o = some (to, e)) (hr : V r = some (tr, e')) (hne : to ≠ ta ∧ tr ≠ ta ∧ tt ≠ ta ∧ tc ≠ ta) : zM l0 Γ 6 yX0_measure wsX0_measure 0 0 V [.ref t, .ref o] (fun rv V' => rv = none ∧ zBo Γ V' tt t ta ga tc ca ∧ zag (fun x => x ≠ ta) V V') := by
  obtain ⟨lk, gf, cf, h1, h2, h3, h4, h5, h6, h7⟩ := h
  refine (m_X0_measure l0 Γ h1 h2 h4 hT (zne_tag ho h2 hne.1) (zne_tag hr h2 hne.2.1)).imp (fun rv V' hp => ?_)
  obtain ⟨e1, g', hg, e2⟩ := hp
  have ha : zag (fun x => x ≠ ta) V V' := by
    rw [e2]
    exact zag.rf.set h2 (fun q => q rfl)
  refine ⟨e1, ⟨lk, g', cf, ha _ _ _ h1 hne.2.2.1, ?_, ha _ _ _ h3 hne.2.2.2, hg, h5, h6, h7⟩, ha⟩
  rw [e2]
  exact zu_eq _ _ _ _
theorem g_measureChain (h : zBo Γ V tt t ta ga tc ca) (hT : zTx Γ V o r m h') (ho : V o = some (to, e)) (hr : V r = some (tr, e')) (hne : to ≠ ta ∧ tr ≠ ta ∧ to ≠ tc ∧ tr ≠ tc ∧ to ≠ tt ∧ tr ≠ tt ∧ ta ≠ tc ∧ tt ≠ ta ∧ tt ≠ tc) : zM l0 Γ 7 yX0_measureChain wsX0_measureChain 0 0 V [.ref t, .ref o] (fun rv V' => rv = none ∧ zBo Γ V' tt t ta ga tc ca ∧ zag (fun x => x ≠ ta ∧ x ≠ tc ∧ x ≠ tt) V V') := by
  obtain ⟨n1, n2, n3, n4, n5, n6, n7, n8, n9⟩ := hne
  obtain ⟨lk, gf, cf, h1, h2, h3, h4, h5, h6, h7⟩ := h
  have ngc : ga ≠ ca := zne_tag h2 h3 n7
  have ntg : t ≠ ga := zne_tag h1 h2 n8
  have ntc : t ≠ ca := zne_tag h1 h3 n9
  refine (m_X0_measureChain l0 Γ h1 h2 h3 h4 h5 hT (zne_tag ho h2 n1) (zne_tag hr h2 n2) (zne_tag ho h3 n3) (zne_tag hr h3 n4) (zne_tag ho h1 n5) (zne_tag hr h1 n6) ngc).imp (fun rv V' hp => ?_)
  obtain ⟨e1, g', c', k', hg, hc, k1, k2, e2⟩ := hp
  refine ⟨e1, ⟨k', g', c', ?_, ?_, ?_, hg, hc, k1, k2⟩, ?_⟩
  · rw [e2]
    exact zu_eq _ _ _ _
  · rw [e2, zu_ne (Ne.symm ntg), zu_ne ngc]
    exact zu_eq _ _ _ _
  · rw [e2, zu_ne (Ne.symm ntc)]
    exact zu_eq _ _ _ _
  · rw [e2]
    exact ((zag.rf.set h2 (fun q => q.1 rfl)).set ((zu_ne (Ne.symm ngc)).trans h3) (fun q => q.2.1 rfl)).set ((zu_ne ntc).trans ((zu_ne ntg).trans h1)) (fun q => q.2.2 rfl)
variable {tk k tp pl bo : Nat}
theorem g_foundAt (h : zSk Γ V tk k tp pl bo) {q : Int} (hq : -2147483648 ≤ q ∧ q ≤ 2147483647) : zM l0 Γ 0 yX3_foundAt wsX3_foundAt 0 0 V [.ref k, .int (zI q)] (fun rv V' => ∃ x : Int, rv = some (.int (zI x)) ∧ V' = V ∧ -2000 ≤ x ∧ x ≤ 2000) := by
  obtain ⟨mn, pf, h1, h2, h3, h4, h5⟩ := h
  refine (m_X3_foundAt l0 Γ h1 h2 ⟨h4, h5⟩ hq).imp (fun rv V' hp => ?_)
  have hc := h3 q.toNat
  refine ⟨_, hp.1, hp.2, ?_⟩
  by_cases c : 0 ≤ q ∧ q < mn
  · rw [if_pos c]
    exact hc
  · rw [if_neg c]
    omega
theorem g_seek {to2 tr2 o2 r2 : Nat} {m2 : Int} {h2' : Int → Int} {e2 e2' : va_E} (hk : zSk Γ V tk k tp pl t) (h : zBo Γ V tt t ta ga tc ca) (hT : zTx Γ V o r m h') (ho : V o = some (to, e)) (hr : V r = some (tr, e')) (hT2 : zTx Γ V o2 r2 m2 h2') (ho2 : V o2 = some (to2, e2)) (hr2 : V r2 = some (tr2, e2'))
    (hne : to ≠ tk ∧ to ≠ ta ∧ to ≠ tp ∧ tr ≠ tk ∧ tr ≠ ta ∧ tr ≠ tp) (hne2 : to2 ≠ tk ∧ to2 ≠ ta ∧ to2 ≠ tp ∧ tr2 ≠ tk ∧ tr2 ≠ ta ∧ tr2 ≠ tp) (hn3 : ta ≠ tp ∧ tk ≠ ta ∧ tk ≠ tp ∧ tt ≠ ta ∧ tt ≠ tp ∧ tt ≠ tk ∧ tc ≠ ta ∧ tc ≠ tp ∧ tc ≠ tk) :
    zM l0 Γ 7 yX3_seek wsX3_seek 0 0 V [.ref k, .ref o, .ref o2] (fun rv V' => rv = none ∧ zSk Γ V' tk k tp pl t ∧ zBo Γ V' tt t ta ga tc ca ∧ zag (fun x => x ≠ ta ∧ x ≠ tp ∧ x ≠ tk) V V') := by
  obtain ⟨mn, pf, k1, k2, k3, k4, k5⟩ := hk
  obtain ⟨lk, gf, cf, h1, h2, h3, h4, h5, h6, h7⟩ := h
  obtain ⟨a1, a2, a3, a4, a5, a6⟩ := hne
  obtain ⟨b1, b2, b3, b4, b5, b6⟩ := hne2
  obtain ⟨c1, c2, c3, c4, c5, c6, c7, c8, c9⟩ := hn3
  have ngp : ga ≠ pl := zne_tag h2 k2 c1
  have nkg : k ≠ ga := zne_tag k1 h2 c2
  have nkp : k ≠ pl := zne_tag k1 k2 c3
  refine (m_X3_seek l0 Γ k1 k2 ⟨k4, k5⟩ h1 h2 h4 k3 ngp hT hT2 (zne_tag ho k1 a1) (zne_tag ho h2 a2) (zne_tag ho k2 a3) (zne_tag hr k1 a4) (zne_tag hr h2 a5) (zne_tag hr k2 a6) (zne_tag ho2 k1 b1) (zne_tag ho2 h2 b2) (zne_tag ho2 k2 b3) (zne_tag hr2 k1 b4) (zne_tag hr2 h2 b5) (zne_tag hr2 k2 b6)).imp (fun rv V' hp => ?_)
  obtain ⟨e1, g', p', m', hg, hp', q1, q2, e3⟩ := hp
  have ha : zag (fun x => x ≠ ta ∧ x ≠ tp ∧ x ≠ tk) V V' := by
    rw [e3]
    exact ((zag.rf.set h2 (fun q => q.1 rfl)).set ((zu_ne (Ne.symm ngp)).trans k2) (fun q => q.2.1 rfl)).set ((zu_ne nkp).trans ((zu_ne nkg).trans k1)) (fun q => q.2.2 rfl)
  refine ⟨e1, ⟨m', p', ?_, ?_, hp', q1, q2⟩, ⟨lk, g', cf, ha _ _ _ h1 ⟨c4, c5, c6⟩, ?_, ha _ _ _ h3 ⟨c7, c8, c9⟩, hg, h5, h6, h7⟩, ha⟩
  · rw [e3]
    exact zu_eq _ _ _ _
  · rw [e3, zu_ne (Ne.symm nkp)]
    exact zu_eq _ _ _ _
  · rw [e3, zu_ne (Ne.symm nkg), zu_ne ngp]
    exact zu_eq _ _ _ _
end ZGG
/-! the seekers' moves in the whole state -/
theorem zS.table {Γ : zGam} {V V' : zV} {ad : Nat → Nat} {σ : Nat → Int} (h : zS Γ V ad σ) (hb : zBo Γ V' 45 (ad 45) 46 (ad 46) 47 (ad 47)) (ha : zag (fun x => x ≠ 46 ∧ x ≠ 47 ∧ x ≠ 45) V V') : zS Γ V' ad σ ∧ zfx V V' := by
  obtain ⟨f1, f2, f3, f4, f5⟩ := h.2.2.2.2.2.2
  exact h.setF (ha.mono (fun t ht => by omega)) ⟨f1.kept ha (by omega) (by omega), f2.kept ha (by omega) (by omega) (by omega), f3.kept ha (by omega) (by omega), f4.kept ha (by omega) (by omega) (by omega), hb⟩
theorem zS.road {Γ : zGam} {V V' : zV} {ad : Nat → Nat} {σ : Nat → Int} (h : zS Γ V ad σ) (hk : zSk Γ V' 35 (ad 35) 39 (ad 39) (ad 36)) (hb : zBo Γ V' 36 (ad 36) 37 (ad 37) 38 (ad 38)) (ha : zag (fun x => x ≠ 37 ∧ x ≠ 39 ∧ x ≠ 35) V V') : zS Γ V' ad σ ∧ zfx V V' := by
  obtain ⟨f1, f2, f3, f4, f5⟩ := h.2.2.2.2.2.2
  exact h.setF (ha.mono (fun t ht => by omega)) ⟨hk, hb, f3.kept ha (by omega) (by omega), f4.kept ha (by omega) (by omega) (by omega), f5.kept ha (by omega) (by omega) (by omega)⟩
theorem zS.road2 {Γ : zGam} {V V' : zV} {ad : Nat → Nat} {σ : Nat → Int} (h : zS Γ V ad σ) (hk : zSk Γ V' 40 (ad 40) 44 (ad 44) (ad 41)) (hb : zBo Γ V' 41 (ad 41) 42 (ad 42) 43 (ad 43)) (ha : zag (fun x => x ≠ 42 ∧ x ≠ 44 ∧ x ≠ 40) V V') : zS Γ V' ad σ ∧ zfx V V' := by
  obtain ⟨f1, f2, f3, f4, f5⟩ := h.2.2.2.2.2.2
  exact h.setF (ha.mono (fun t ht => by omega)) ⟨f1.kept ha (by omega) (by omega), f2.kept ha (by omega) (by omega) (by omega), hk, hb, f5.kept ha (by omega) (by omega) (by omega)⟩
theorem zf_id {f : Nat → Int} {i : Nat} : zf f i (f i) = f := by
  funext j
  unfold zf
  by_cases h : j = i
  · rw [if_pos h, h]
  · rw [if_neg h]
end
