/-! Sashwords: strings of texts, copies, pump -/
theorem zsg_of {σ σ1 : Nat → Int} {q : Int} {k : Nat} (h : ∀ j, ¬ (26 ≤ j ∧ j ≤ 29) → j ≠ 33 → ¬ (300 ≤ j ∧ j < 460) → σ1 j = σ j) (hq : 0 ≤ q ∧ q ≤ 7) (hk : k < 80) : zsg σ1 q k = zsg σ q k := by
  unfold zsg
  by_cases c : q < 6
  · rw [if_pos c, if_pos c, h (40 + q.toNat) (by omega) (by omega) (by omega), h (4 * q.toNat + 2) (by omega) (by omega) (by omega)]
    exact h _ (by unfold zTp; omega) (by unfold zTp; omega) (by unfold zTp; omega)
  · rw [if_neg c, if_neg c]
    by_cases c2 : q = 6
    · rw [if_pos c2, if_pos c2]
      exact h _ (by omega) (by omega) (by omega)
    · rw [if_neg c2, if_neg c2]
      exact h _ (by omega) (by omega) (by omega)
theorem zsz_of {σ σ1 : Nat → Int} {q : Int} (h : ∀ j, j < 26 → σ1 j = σ j) (hq : 0 ≤ q ∧ q ≤ 7) : zsz σ1 q = zsz σ q := by
  unfold zsz
  by_cases c : q < 6
  · rw [if_pos c, if_pos c, h _ (by omega), h _ (by omega)]
  · rw [if_neg c, if_neg c, h _ (by omega), h _ (by omega)]
set_option maxRecDepth 100000 in
set_option maxHeartbeats 4000000 in
theorem m_X6_held (l : Launch) (Γ : zGam) {V : zV} {ad : Nat → Nat} {σ : Nat → Int} (hS : zS Γ V ad σ) : zM l Γ 9 yX6_held wsX6_held 3010 6300 V [.ref (ad 1)] (fun rv V' => ∃ (z : Nat) (σ' : Nat → Int), rv = some (.ref z) ∧ zS Γ V' ad σ' ∧ zfx V V' ∧ (σ' = σ)) := by
  have hpr0 := hS.prg
  have w0 : Cond.fieldLink RX6 30 "Sashwords" "line" "LSashwords$Pipe;" ∈ wsX6_held := by decide +kernel
  have iX6 : ∀ w ∈ u_ws RX6 TX6 14, w ∈ wsX6_held := by decide +kernel
  have iX1 : ∀ w ∈ u_ws RX1 TX1 4, w ∈ wsX6_held := by decide +kernel
  refine zM_of (cc := cX6_held) (nL := 1) (ret := (some (.object "java/lang/String"))) (own := RX6) (by decide +kernel) rfl rfl (Nat.le_of_ble_eq_true rfl) (fun C X hi0 => ?_)
  have hx1 : V (ad 1) = some (1, .inr (7, [.ref (ad 2), .ref (ad 20), .ref (ad 22), .ref (ad 24), .ref (ad 16), .ref (ad 31), .ref (ad 33), .ref (ad 35), .ref (ad 40), .ref (ad 45), .int (zI (σ 30)), .int (zI (σ 31)), .int (zI (σ 32)), .int (zI (σ 33))])) := hS.1
  show zG C V 3010 6300 0 [(0, .ref (ad 1))] []
  refine zr_aload_n X 1 0 dX6_held_0 rfl rfl ?_
  refine zr_get X 4 7 3 hx1 rfl iX6 (by decide) w0 rfl rfl dX6_held_1 rfl ?_
  refine zr_getN X 7 3 0 0 hS.2.2.2.2.2.1.1 rfl iX1 (by decide) rfl rfl rfl dX6_held_4 rfl ?_
  obtain ⟨t2e, t2e2, t2h, t2T, t2o, t2q⟩ := hS.2.2.2.2.2.1.2.1.tx (by decide)
  have t2g := t2T.rg
  have t2c := True.intro
  refine zr_callS (kc' := 3010 - 3010) (ks' := 6300 - 6300) X 10 1 (m_X6_spelled l Γ (V := V) t2T t2o t2q (by omega) (by omega)) gX6_held_X6_spelled rfl (by decide +kernel) rfl (by decide) rfl (Nat.le_of_ble_eq_true rfl) dX6_held_7 rfl (by omega) (by omega) (fun rv3 V4 hp5 => ?_)
  obtain ⟨hp5z, hp5e, hp5f⟩ := hp5
  rw [hp5e]
  obtain ⟨hS6, fx7⟩ := hS.fr hp5f
  have hx8 : V4 (ad 1) = some (1, .inr (7, [.ref (ad 2), .ref (ad 20), .ref (ad 22), .ref (ad 24), .ref (ad 16), .ref (ad 31), .ref (ad 33), .ref (ad 35), .ref (ad 40), .ref (ad 45), .int (zI (σ 30)), .int (zI (σ 31)), .int (zI (σ 32)), .int (zI (σ 33))])) := hS6.1
  show zG C V4 (3010 - 3010) (6300 - 6300) 10 [(0, .ref (ad 1))] [.ref hp5z]
  exact zr_aret X rfl (Or.inl ⟨_, rfl⟩) ⟨_, σ, rfl, hS6, fx7, rfl⟩ dX6_held_10
set_option maxRecDepth 100000 in
set_option maxHeartbeats 4000000 in
theorem m_X6_travelled (l : Launch) (hlt : l.stackTraces = false) (Γ : zGam) {V : zV} {ad : Nat → Nat} {σ : Nat → Int} {q : Int} (hS : zS Γ V ad σ) (hq : -2147483648 ≤ q ∧ q ≤ 2147483647) : zN l Γ 10 yX6_travelled wsX6_travelled 3011 6306 V [.ref (ad 1), .int (zI (q))] (fun rv V' => ∃ (z : Nat) (σ' : Nat → Int), rv = some (.ref z) ∧ zS Γ V' ad σ' ∧ zfx V V' ∧ ((0 ≤ q ∧ q ≤ 1) ∧ σ' = σ)) (fun E V' => V' = V ∧ ((E = zIO ∧ False) ∨ (E = zIA ∧ ¬ (0 ≤ q ∧ q ≤ 1)))) := by
  have hpr0 := hS.prg
  have w0 : Cond.fieldLink RX6 30 "Sashwords" "line" "LSashwords$Pipe;" ∈ wsX6_travelled := by decide +kernel
  have iX6 : ∀ w ∈ u_ws RX6 TX6 14, w ∈ wsX6_travelled := by decide +kernel
  have iX1 : ∀ w ∈ u_ws RX1 TX1 4, w ∈ wsX6_travelled := by decide +kernel
  refine zN_of (cc := cX6_travelled) (nL := 2) (ret := (some (.object "java/lang/String"))) (own := RX6) hlt (by decide +kernel) rfl rfl (Nat.le_of_ble_eq_true rfl) (fun C X Y => ?_)
  have hx1 : V (ad 1) = some (1, .inr (7, [.ref (ad 2), .ref (ad 20), .ref (ad 22), .ref (ad 24), .ref (ad 16), .ref (ad 31), .ref (ad 33), .ref (ad 35), .ref (ad 40), .ref (ad 45), .int (zI (σ 30)), .int (zI (σ 31)), .int (zI (σ 32)), .int (zI (σ 33))])) := hS.1
  show zG C V 3011 6306 0 [(0, .ref (ad 1)), (1, .int (zI (q)))] []
  refine zr_iload_n X 1 1 dX6_travelled_0 rfl rfl ?_
  refine zr_iconst X 2 dX6_travelled_1 rfl ?_
  refine zr_iconst X 3 dX6_travelled_2 rfl ?_
  refine zr_callSN (kc' := 3011 - 1) (ks' := 6306 - 6) X Y 6 3 (m_X6_requireWithin l hlt Γ (V := V) (x := q) (a := 0) (b := 1) (by omega) (by omega) (by omega)) gX6_travelled_X6_requireWithin rfl (by decide +kernel) rfl (by decide) rfl (Nat.le_of_ble_eq_true rfl) dX6_travelled_3 rfl (by omega) (by omega) (fun E W hX => ⟨hX.2.2, Or.inr ⟨hX.1, by have := hX.2.1; omega⟩⟩) (fun rv2 V3 hp4 => ?_)
  obtain ⟨hp4a, hp4b, hp4c⟩ := hp4
  rw [hp4b, hp4c]
  show zG C V (3011 - 1) (6306 - 6) 6 [(0, .ref (ad 1)), (1, .int (zI (q)))] []
  refine zr_iload_n X 7 1 dX6_travelled_6 rfl rfl ?_
  refine zr_if_ne X 20 10 dX6_travelled_7 rfl rfl (by omega) (fun bq5 => ?_) (fun bq5 => ?_)
  · refine zr_aload_n X 21 0 dX6_travelled_20 rfl rfl ?_
    refine zr_get X 24 7 3 hx1 rfl iX6 (by decide) w0 rfl rfl dX6_travelled_21 rfl ?_
    refine zr_getN X 27 3 2 2 hS.2.2.2.2.2.1.1 rfl iX1 (by decide) rfl rfl rfl dX6_travelled_24 rfl ?_
    obtain ⟨t6e, t6e2, t6h, t6T, t6o, t6q⟩ := hS.2.2.2.2.2.1.2.2.2.1.tx (by decide)
    have t6g := t6T.rg
    have t6c := True.intro
    refine zr_callS (kc' := (3011 - 1) - 3010) (ks' := (6306 - 6) - 6300) X 30 1 (m_X6_spelled l Γ (V := V) t6T t6o t6q (by omega) (by omega)) gX6_travelled_X6_spelled rfl (by decide +kernel) rfl (by decide) rfl (Nat.le_of_ble_eq_true rfl) dX6_travelled_27 rfl (by omega) (by omega) (fun rv7 V8 hp9 => ?_)
    obtain ⟨hp9z, hp9e, hp9f⟩ := hp9
    rw [hp9e]
    obtain ⟨hS10, fx11⟩ := hS.fr hp9f
    have hx12 : V8 (ad 1) = some (1, .inr (7, [.ref (ad 2), .ref (ad 20), .ref (ad 22), .ref (ad 24), .ref (ad 16), .ref (ad 31), .ref (ad 33), .ref (ad 35), .ref (ad 40), .ref (ad 45), .int (zI (σ 30)), .int (zI (σ 31)), .int (zI (σ 32)), .int (zI (σ 33))])) := hS10.1
    show zG C V8 ((3011 - 1) - 3010) ((6306 - 6) - 6300) 30 [(0, .ref (ad 1)), (1, .int (zI (q)))] [.ref hp9z]
    exact zr_aret X rfl (Or.inl ⟨_, rfl⟩) ⟨_, σ, rfl, hS10, fx11, ⟨by omega, rfl⟩⟩ dX6_travelled_30
  · refine zr_aload_n X 11 0 dX6_travelled_10 rfl rfl ?_
    refine zr_get X 14 7 3 hx1 rfl iX6 (by decide) w0 rfl rfl dX6_travelled_11 rfl ?_
    refine zr_getN X 17 3 1 1 hS.2.2.2.2.2.1.1 rfl iX1 (by decide) rfl rfl rfl dX6_travelled_14 rfl ?_
    refine zr_goto X 27 dX6_travelled_17 rfl ?_
    obtain ⟨t13e, t13e2, t13h, t13T, t13o, t13q⟩ := hS.2.2.2.2.2.1.2.2.1.tx (by decide)
    have t13g := t13T.rg
    have t13c := True.intro
    refine zr_callS (kc' := (3011 - 1) - 3010) (ks' := (6306 - 6) - 6300) X 30 1 (m_X6_spelled l Γ (V := V) t13T t13o t13q (by omega) (by omega)) gX6_travelled_X6_spelled rfl (by decide +kernel) rfl (by decide) rfl (Nat.le_of_ble_eq_true rfl) dX6_travelled_27 rfl (by omega) (by omega) (fun rv14 V15 hp16 => ?_)
    obtain ⟨hp16z, hp16e, hp16f⟩ := hp16
    rw [hp16e]
    obtain ⟨hS17, fx18⟩ := hS.fr hp16f
    have hx19 : V15 (ad 1) = some (1, .inr (7, [.ref (ad 2), .ref (ad 20), .ref (ad 22), .ref (ad 24), .ref (ad 16), .ref (ad 31), .ref (ad 33), .ref (ad 35), .ref (ad 40), .ref (ad 45), .int (zI (σ 30)), .int (zI (σ 31)), .int (zI (σ 32)), .int (zI (σ 33))])) := hS17.1
    show zG C V15 ((3011 - 1) - 3010) ((6306 - 6) - 6300) 30 [(0, .ref (ad 1)), (1, .int (zI (q)))] [.ref hp16z]
    exact zr_aret X rfl (Or.inl ⟨_, rfl⟩) ⟨_, σ, rfl, hS17, fx18, ⟨by omega, rfl⟩⟩ dX6_travelled_30
set_option maxRecDepth 100000 in
set_option maxHeartbeats 4000000 in
theorem m_X6_read (l : Launch) (hlt : l.stackTraces = false) (Γ : zGam) {V : zV} {ad : Nat → Nat} {σ : Nat → Int} {q n : Int} (hS : zS Γ V ad σ) (hq : -2147483648 ≤ q ∧ q ≤ 2147483647) (hn : -2147483648 ≤ n ∧ n ≤ 2147483647) : zN l Γ 10 yX6_read wsX6_read 3010 6300 V [.ref (ad 1), .int (zI (q)), .int (zI (n))] (fun rv V' => ∃ (z : Nat) (σ' : Nat → Int), rv = some (.ref z) ∧ zS Γ V' ad σ' ∧ zfx V V' ∧ ((0 ≤ q ∧ q < 6 ∧ 0 ≤ n ∧ n ≤ 40) ∧ ∃ k : Int, 0 ≤ k ∧ k ≤ n ∧ k ≤ σ (4 * q.toNat + 1) - σ (4 * q.toNat + 2) ∧ (k = n ∨ k = σ (4 * q.toNat + 1) - σ (4 * q.toNat + 2)) ∧ σ' = zdn (zw4 σ q.toNat (σ (4 * q.toNat)) (σ (4 * q.toNat + 1)) (σ (4 * q.toNat + 2) + k) (σ (4 * q.toNat + 3))))) (fun E V' => V' = V ∧ ((E = zIO ∧ ¬ (0 ≤ q ∧ q < 6)) ∨ (E = zIA ∧ (0 ≤ q ∧ q < 6) ∧ ¬ (0 ≤ n ∧ n ≤ 40)))) := by
  have w0 : Cond.classLink RX6 113 RJ4 ∈ wsX6_read := by decide +kernel
  have w1 : Cond.instantiable RJ4 4 ∈ wsX6_read := by decide +kernel
  have w2 : Cond.initialized RJ4 ∈ wsX6_read := by decide +kernel
  have iJ4 : ∀ w ∈ u_ws RJ4 TJ4 4, w ∈ wsX6_read := by decide +kernel
  have w4 : Cond.initialized yJ4_init_da8c8.cls ∈ wsX6_read := by decide +kernel
  have w5 : Cond.methodLink RX6 115 yJ4_init_da8c8 ∈ wsX6_read := by decide +kernel
  have w6 : Cond.instanceMethod yJ4_init_da8c8 ∈ wsX6_read := by decide +kernel
  refine zN_of (cc := cX6_read) (nL := 6) (ret := (some (.object "java/lang/String"))) (own := RX6) hlt (by decide +kernel) rfl rfl (Nat.le_of_ble_eq_true rfl) (fun C X Y => ?_)
  have hx1 : V (ad 1) = some (1, .inr (7, [.ref (ad 2), .ref (ad 20), .ref (ad 22), .ref (ad 24), .ref (ad 16), .ref (ad 31), .ref (ad 33), .ref (ad 35), .ref (ad 40), .ref (ad 45), .int (zI (σ 30)), .int (zI (σ 31)), .int (zI (σ 32)), .int (zI (σ 33))])) := hS.1
  show zG C V 3010 6300 0 [(0, .ref (ad 1)), (1, .int (zI (q))), (2, .int (zI (n)))] []
  refine zr_aload_n X 1 0 dX6_read_0 rfl rfl ?_
  refine zr_iload_n X 2 1 dX6_read_1 rfl rfl ?_
  refine zr_callVN (kc' := 3010 - 1) (ks' := 6300 - 6) X Y 5 1 (m_X6_windowOf l hlt Γ hS (q := q) (by omega)) gX6_read_X6_windowOf rfl (by decide +kernel) rfl (by decide) hx1 rfl rfl (Nat.le_of_ble_eq_true rfl) dX6_read_2 rfl (by omega) (by omega) (fun E W hX => ⟨hX.2.2, Or.inl ⟨hX.1, by have := hX.2.1; omega⟩⟩) (fun rv2 V3 hp4 => ?_)
  obtain ⟨hp4a, hp4b, hp4c⟩ := hp4
  rw [hp4b, hp4c]
  have hw5 := hS.w (i := q.toNat) (by omega)
  have hw5r := hw5.rg
  show zG C V (3010 - 1) (6300 - 6) 5 [(0, .ref (ad 1)), (1, .int (zI (q))), (2, .int (zI (n)))] [.ref (ad (10 + q.toNat))]
  refine zr_astore_n X 6 [(3, .ref (ad (10 + q.toNat))), (0, .ref (ad 1)), (1, .int (zI (q))), (2, .int (zI (n)))] dX6_read_5 rfl (by decide) rfl ?_
  refine zr_iload_n X 7 3 dX6_read_6 rfl rfl ?_
  refine zr_iconst X 8 dX6_read_7 rfl ?_
  refine zr_bipush X 10 (40) dX6_read_8 rfl (by decide) ?_
  refine zr_callSN (kc' := (3010 - 1) - 1) (ks' := (6300 - 6) - 6) X Y 13 3 (m_X6_requireWithin l hlt Γ (V := V) (x := n) (a := 0) (b := 40) (by omega) (by omega) (by omega)) gX6_read_X6_requireWithin rfl (by decide +kernel) rfl (by decide) rfl (Nat.le_of_ble_eq_true rfl) dX6_read_10 rfl (by omega) (by omega) (fun E W hX => ⟨hX.2.2, Or.inr ⟨hX.1, by have := hX.2.1; omega⟩⟩) (fun rv6 V7 hp8 => ?_)
  obtain ⟨hp8a, hp8b, hp8c⟩ := hp8
  rw [hp8b, hp8c]
  show zG C V ((3010 - 1) - 1) ((6300 - 6) - 6) 13 [(3, .ref (ad (10 + q.toNat))), (0, .ref (ad 1)), (1, .int (zI (q))), (2, .int (zI (n)))] []
  refine zr_new (kc' := (((3010 - 1) - 1) - 1)) (ks' := (((6300 - 6) - 6) - 4)) X 16 1 7 [.null, .int (zI (0)), .int (zI (0)), .int (zI (0))] tyJ4 rfl iJ4 tyJ4_ok w0 w1 w2 (zdf_J4) dX6_read_13 rfl (by omega) (by omega) (fun q9 hq10 => ?_)
  refine zr_dup X 17 dX6_read_16 rfl rfl ?_
  refine zr_callI (kc' := (((3010 - 1) - 1) - 1) - 1) (ks' := (((6300 - 6) - 6) - 4) - 16) X 20 0 (m_J4_init_da8c8 l Γ (zu_eq _ _ _ _)) gX6_read_J4_init_da8c8 rfl w4 w5 w6 rfl (by decide +kernel) rfl (by decide) rfl (Nat.le_of_ble_eq_true rfl) dX6_read_17 rfl (by omega) (by omega) (fun rv11 V12 hp13 => ?_)
  obtain ⟨hp13e, hp13b, hp13f⟩ := hp13
  rw [hp13e]
  have ff14 : zfr V V12 := zag.tr (P := fun t => t ≠ 7) (zag.rf.new hq10) hp13f
  obtain ⟨hS15, fx16⟩ := hS.fr ff14
  have hw17 := hw5.kept ff14.ag (by omega) (by omega)
  have hx18 : V12 (ad 1) = some (1, .inr (7, [.ref (ad 2), .ref (ad 20), .ref (ad 22), .ref (ad 24), .ref (ad 16), .ref (ad 31), .ref (ad 33), .ref (ad 35), .ref (ad 40), .ref (ad 45), .int (zI (σ 30)), .int (zI (σ 31)), .int (zI (σ 32)), .int (zI (σ 33))])) := hS15.1
  show zG C V12 ((((3010 - 1) - 1) - 1) - 1) ((((6300 - 6) - 6) - 4) - 16) 20 [(3, .ref (ad (10 + q.toNat))), (0, .ref (ad 1)), (1, .int (zI (q))), (2, .int (zI (n)))] [.ref q9]
  refine zr_astore X 22 [(4, .ref q9), (3, .ref (ad (10 + q.toNat))), (0, .ref (ad 1)), (1, .int (zI (q))), (2, .int (zI (n)))] dX6_read_20 rfl (by decide) rfl ?_
  refine zr_iconst X 23 dX6_read_22 rfl ?_
  refine zr_istore X 25 [(5, .int (zI (0))), (4, .ref q9), (3, .ref (ad (10 + q.toNat))), (0, .ref (ad 1)), (1, .int (zI (q))), (2, .int (zI (n)))] dX6_read_23 rfl (by decide) rfl ?_
  refine zr_room (3002 - 16) (6200 - 2 * 16) (by omega) (by omega) ?_
  refine zr_sub [0, 1, 2, 5, 4, 3] [(5, .int (zI (0))), (4, .ref q9), (3, .ref (ad (10 + q.toNat))), (2, .int (zI (n))), (1, .int (zI (q))), (0, .ref (ad 1))] rfl ?_
  have loop : ∀ (N : Nat) (V1 : zV) (σ1 : Nat → Int) (k : Int) (cap : Nat), zS Γ V1 ad σ1 ∧ zfx V V1 ∧ σ1 = zw4 σ q.toNat (σ (4 * q.toNat)) (σ (4 * q.toNat + 1)) (σ (4 * q.toNat + 2) + k) (σ (4 * q.toNat + 3)) ∧ 0 ≤ k ∧ k ≤ n ∧ σ (4 * q.toNat + 2) + k ≤ σ (4 * q.toNat + 1) ∧ zSB Γ V1 q9 k cap ∧ 16 ≤ cap ∧ cap ≤ 900 → (n - k).toNat = N → zG C V1 (3002 - cap) (6200 - 2 * cap) 25 [(5, .int (zI (k))), (4, .ref q9), (3, .ref (ad (10 + q.toNat))), (2, .int (zI (n))), (1, .int (zI (q))), (0, .ref (ad 1))] [] := by
    intro N
    induction N using Nat.strongRecOn with
    | _ N ih =>
    intro V1 σ1 k cap hI hN
    obtain ⟨hI1, hI2, hI3, hI4, hI5, hI6, hI7, hI8, hI9⟩ := id hI
    have hx19 : V1 (ad 1) = some (1, .inr (7, [.ref (ad 2), .ref (ad 20), .ref (ad 22), .ref (ad 24), .ref (ad 16), .ref (ad 31), .ref (ad 33), .ref (ad 35), .ref (ad 40), .ref (ad 45), .int (zI (σ1 30)), .int (zI (σ1 31)), .int (zI (σ1 32)), .int (zI (σ1 33))])) := hI1.1
    have nq20 : σ1 (4 * q.toNat) = σ (4 * q.toNat) := by rw [hI3, zw4_0]
    have nq21 : σ1 (4 * q.toNat + 1) = σ (4 * q.toNat + 1) := by rw [hI3, zw4_1]
    have nq22 : σ1 (4 * q.toNat + 2) = σ (4 * q.toNat + 2) + k := by rw [hI3, zw4_2]
    have nq23 : σ1 (4 * q.toNat + 3) = σ (4 * q.toNat + 3) := by rw [hI3, zw4_3]
    have nq24 : σ1 (40 + q.toNat) = σ (40 + q.toNat) := by rw [hI3, zw4_hi (by omega) (by omega)]
    have hst_q := hS.cst (i := q.toNat) (by omega)
    have hw25 : zWi Γ V1 (10 + q.toNat) (ad (10 + q.toNat)) (σ (4 * q.toNat)) (σ (4 * q.toNat + 1)) (σ (4 * q.toNat + 2) + k) (σ (4 * q.toNat + 3)) := by
      have h := hI1.w (i := q.toNat) (by omega)
      rw [nq20, nq21, nq22, nq23] at h
      exact h
    have hw25r := hw25.rg
    refine zr_iload X 27 0 dX6_read_25 rfl rfl ?_
    refine zr_iload_n X 28 3 dX6_read_27 rfl rfl ?_
    refine zr_icmp_ge X 55 31 dX6_read_28 rfl rfl (by omega) (by omega) (fun bq26 => ?_) (fun bq26 => ?_)
    · refine zr_aload_n X 56 5 dX6_read_55 rfl rfl ?_
      refine zr_aload X 58 1 dX6_read_56 rfl rfl ?_
      have hp29r := hI7.rg
      refine zr_callVe (kc' := 3002 - cap - 2) (ks' := 6200 - 2 * cap - ((k).toNat + 4)) X 61 0 (zsb_str l Γ hI7) gX6_read_J4_toString_0e30d rfl (by decide +kernel) rfl (by decide) hI7.cl rfl rfl (Nat.le_of_ble_eq_true rfl) dX6_read_58 rfl (by omega) (by omega) (fun rv27 V28 hp29 => ?_)
      obtain ⟨hp29z, hp29e, hp29n, hp29f⟩ := hp29
      rw [hp29e]
      obtain ⟨hS30, fx31⟩ := hI1.fr hp29f
      have hw32 := hw25.kept hp29f.ag (by omega) (by omega)
      have fx33 := zag.tr hI2 fx31
      have hx34 : V28 (ad 1) = some (1, .inr (7, [.ref (ad 2), .ref (ad 20), .ref (ad 22), .ref (ad 24), .ref (ad 16), .ref (ad 31), .ref (ad 33), .ref (ad 35), .ref (ad 40), .ref (ad 45), .int (zI (σ1 30)), .int (zI (σ1 31)), .int (zI (σ1 32)), .int (zI (σ1 33))])) := hS30.1
      show zG C V28 (3002 - cap - 2) (6200 - 2 * cap - ((k).toNat + 4)) 61 [(5, .int (zI (k))), (4, .ref q9), (3, .ref (ad (10 + q.toNat))), (2, .int (zI (n))), (1, .int (zI (q))), (0, .ref (ad 1))] [.ref hp29z, .ref (ad 1)]
      refine zr_callVe (kc' := (3002 - cap - 2)) (ks' := (6200 - 2 * cap - ((k).toNat + 4))) X 64 1 (m_X6_done_ l Γ (y := hp29z) hS30) gX6_read_X6_done_ rfl (by decide +kernel) rfl (by decide) hS30.x rfl rfl (Nat.le_of_ble_eq_true rfl) dX6_read_61 rfl (by omega) (by omega) (fun rv35 V36 hp37 => ?_)
      obtain ⟨hp37e, hS38, fx39⟩ := hp37
      rw [hp37e]
      obtain ⟨σ40, σ40e⟩ : ∃ zz9 : Nat → Int, zz9 = zdn σ1 := ⟨_, rfl⟩
      rw [← σ40e] at hS38
      have fx41 := zag.tr fx33 fx39
      have hx42 : V36 (ad 1) = some (1, .inr (7, [.ref (ad 2), .ref (ad 20), .ref (ad 22), .ref (ad 24), .ref (ad 16), .ref (ad 31), .ref (ad 33), .ref (ad 35), .ref (ad 40), .ref (ad 45), .int (zI (σ40 30)), .int (zI (σ40 31)), .int (zI (σ40 32)), .int (zI (σ40 33))])) := hS38.1
      show zG C V36 (3002 - cap - 2) (6200 - 2 * cap - ((k).toNat + 4)) 64 [(5, .int (zI (k))), (4, .ref q9), (3, .ref (ad (10 + q.toNat))), (2, .int (zI (n))), (1, .int (zI (q))), (0, .ref (ad 1))] [.ref hp29z]
      exact zr_aret X rfl (Or.inl ⟨_, rfl⟩) ⟨_, σ40, rfl, hS38, fx41, ⟨by omega, k, by omega, by omega, by omega, by omega, by rw [σ40e, hI3]⟩⟩ dX6_read_64
    · refine zr_aload_n X 32 2 dX6_read_31 rfl rfl ?_
      refine zr_callVe (kc' := 3002 - cap) (ks' := 6200 - 2 * cap) X 35 0 (e_size l Γ hw25) gX6_read_X5_size rfl (by decide +kernel) rfl (by decide) hw25.cl rfl rfl (Nat.le_of_ble_eq_true rfl) dX6_read_32 rfl (by omega) (by omega) (fun rv43 V44 hp45 => ?_)
      rw [hp45.1, hp45.2]
      show zG C V1 (3002 - cap) (6200 - 2 * cap) 35 [(5, .int (zI (k))), (4, .ref q9), (3, .ref (ad (10 + q.toNat))), (2, .int (zI (n))), (1, .int (zI (q))), (0, .ref (ad 1))] [.int (zI ((σ (4 * q.toNat + 1)) - (σ (4 * q.toNat + 2) + k)))]
      refine zr_if_le X 55 38 dX6_read_35 rfl rfl (by omega) (fun bq46 => ?_) (fun bq46 => ?_)
      · refine zr_aload_n X 56 5 dX6_read_55 rfl rfl ?_
        refine zr_aload X 58 1 dX6_read_56 rfl rfl ?_
        have hp49r := hI7.rg
        refine zr_callVe (kc' := 3002 - cap - 2) (ks' := 6200 - 2 * cap - ((k).toNat + 4)) X 61 0 (zsb_str l Γ hI7) gX6_read_J4_toString_0e30d rfl (by decide +kernel) rfl (by decide) hI7.cl rfl rfl (Nat.le_of_ble_eq_true rfl) dX6_read_58 rfl (by omega) (by omega) (fun rv47 V48 hp49 => ?_)
        obtain ⟨hp49z, hp49e, hp49n, hp49f⟩ := hp49
        rw [hp49e]
        obtain ⟨hS50, fx51⟩ := hI1.fr hp49f
        have hw52 := hw25.kept hp49f.ag (by omega) (by omega)
        have fx53 := zag.tr hI2 fx51
        have hx54 : V48 (ad 1) = some (1, .inr (7, [.ref (ad 2), .ref (ad 20), .ref (ad 22), .ref (ad 24), .ref (ad 16), .ref (ad 31), .ref (ad 33), .ref (ad 35), .ref (ad 40), .ref (ad 45), .int (zI (σ1 30)), .int (zI (σ1 31)), .int (zI (σ1 32)), .int (zI (σ1 33))])) := hS50.1
        show zG C V48 (3002 - cap - 2) (6200 - 2 * cap - ((k).toNat + 4)) 61 [(5, .int (zI (k))), (4, .ref q9), (3, .ref (ad (10 + q.toNat))), (2, .int (zI (n))), (1, .int (zI (q))), (0, .ref (ad 1))] [.ref hp49z, .ref (ad 1)]
        refine zr_callVe (kc' := (3002 - cap - 2)) (ks' := (6200 - 2 * cap - ((k).toNat + 4))) X 64 1 (m_X6_done_ l Γ (y := hp49z) hS50) gX6_read_X6_done_ rfl (by decide +kernel) rfl (by decide) hS50.x rfl rfl (Nat.le_of_ble_eq_true rfl) dX6_read_61 rfl (by omega) (by omega) (fun rv55 V56 hp57 => ?_)
        obtain ⟨hp57e, hS58, fx59⟩ := hp57
        rw [hp57e]
        obtain ⟨σ60, σ60e⟩ : ∃ zz9 : Nat → Int, zz9 = zdn σ1 := ⟨_, rfl⟩
        rw [← σ60e] at hS58
        have fx61 := zag.tr fx53 fx59
        have hx62 : V56 (ad 1) = some (1, .inr (7, [.ref (ad 2), .ref (ad 20), .ref (ad 22), .ref (ad 24), .ref (ad 16), .ref (ad 31), .ref (ad 33), .ref (ad 35), .ref (ad 40), .ref (ad 45), .int (zI (σ60 30)), .int (zI (σ60 31)), .int (zI (σ60 32)), .int (zI (σ60 33))])) := hS58.1
        show zG C V56 (3002 - cap - 2) (6200 - 2 * cap - ((k).toNat + 4)) 64 [(5, .int (zI (k))), (4, .ref q9), (3, .ref (ad (10 + q.toNat))), (2, .int (zI (n))), (1, .int (zI (q))), (0, .ref (ad 1))] [.ref hp49z]
        exact zr_aret X rfl (Or.inl ⟨_, rfl⟩) ⟨_, σ60, rfl, hS58, fx61, ⟨by omega, k, by omega, by omega, by omega, by omega, by rw [σ60e, hI3]⟩⟩ dX6_read_64
      · refine zr_aload X 40 1 dX6_read_38 rfl rfl ?_
        refine zr_aload_n X 41 2 dX6_read_40 rfl rfl ?_
        refine zr_callVe (kc' := 3002 - cap) (ks' := 6200 - 2 * cap) X 44 0 (k_read l Γ hI1 (i := q.toNat) (by omega) (by omega)) gX6_read_X5_readSign rfl (by decide +kernel) rfl (by decide) hw25.cl rfl rfl (Nat.le_of_ble_eq_true rfl) dX6_read_41 rfl (by omega) (by omega) (fun rv63 V64 hp65 => ?_)
        have rg69 := hI1.rng (i := q.toNat) (by omega) (k := σ1 (4 * q.toNat + 2)) (by omega)
        obtain ⟨hp65e, hS66, fx67, hp65z⟩ := hp65
        try rw [nq22] at hp65e
        try rw [nq22] at hS66
        try rw [nq22] at hp65z
        try rw [nq22] at rg69
        try rw [nq20] at hp65e
        try rw [nq20] at hS66
        try rw [nq20] at hp65z
        try rw [nq20] at rg69
        try rw [nq21] at hp65e
        try rw [nq21] at hS66
        try rw [nq21] at hp65z
        try rw [nq21] at rg69
        try rw [nq23] at hp65e
        try rw [nq23] at hS66
        try rw [nq23] at hp65z
        try rw [nq23] at rg69
        try rw [nq24] at hp65e
        try rw [nq24] at hS66
        try rw [nq24] at hp65z
        try rw [nq24] at rg69
        rw [hp65e]
        have hw68 := hp65z.1
        have hw68r := hw68.rg
        have hb70 := hI7.kept hp65z.2.1 (by omega)
        obtain ⟨σ71, σ71e⟩ : ∃ zz9 : Nat → Int, zz9 = zw4 σ1 q.toNat (σ (4 * q.toNat)) (σ (4 * q.toNat + 1)) (σ (4 * q.toNat + 2) + k + 1) (σ (4 * q.toNat + 3)) := ⟨_, rfl⟩
        rw [← σ71e] at hS66
        have fx72 := zag.tr hI2 fx67
        have hx73 : V64 (ad 1) = some (1, .inr (7, [.ref (ad 2), .ref (ad 20), .ref (ad 22), .ref (ad 24), .ref (ad 16), .ref (ad 31), .ref (ad 33), .ref (ad 35), .ref (ad 40), .ref (ad 45), .int (zI (σ71 30)), .int (zI (σ71 31)), .int (zI (σ71 32)), .int (zI (σ71 33))])) := hS66.1
        show zG C V64 (3002 - cap) (6200 - 2 * cap) 44 [(5, .int (zI (k))), (4, .ref q9), (3, .ref (ad (10 + q.toNat))), (2, .int (zI (n))), (1, .int (zI (q))), (0, .ref (ad 1))] [.int (zI (σ1 (zTp (σ (40 + q.toNat) + (σ (4 * q.toNat + 2) + k))))), .ref q9]
        refine zr_i2cI X 45 dX6_read_44 rfl (by omega) ?_
        have gr77r := hb70.rg
        obtain ⟨gr77p, gr77c, gr77k, gr77⟩ := zgrow1w k cap (by omega)
        refine zr_callVe (kc' := 3002 - cap - gr77c) (ks' := 6200 - 2 * cap - gr77k) X 48 1 (zsb_app_c l Γ hb70 (x := (σ1 (zTp (σ (40 + q.toNat) + (σ (4 * q.toNat + 2) + k))))) (by omega) gr77) gX6_read_J4_append_cf468 rfl (by decide +kernel) rfl (by decide) hb70.cl rfl rfl (Nat.le_of_ble_eq_true rfl) dX6_read_45 rfl (by omega) (by omega) (fun rv74 V75 hp76 => ?_)
        obtain ⟨hp76e, hp76b, hp76f⟩ := hp76
        rw [hp76e]
        have gr77s := hp76b.rg
        obtain ⟨hS78, fx79⟩ := hS66.fr hp76f
        have hw80 := hw68.kept hp76f.ag (by omega) (by omega)
        have fx81 := zag.tr fx72 fx79
        have hx82 : V75 (ad 1) = some (1, .inr (7, [.ref (ad 2), .ref (ad 20), .ref (ad 22), .ref (ad 24), .ref (ad 16), .ref (ad 31), .ref (ad 33), .ref (ad 35), .ref (ad 40), .ref (ad 45), .int (zI (σ71 30)), .int (zI (σ71 31)), .int (zI (σ71 32)), .int (zI (σ71 33))])) := hS78.1
        show zG C V75 (3002 - cap - gr77c) (6200 - 2 * cap - gr77k) 48 [(5, .int (zI (k))), (4, .ref q9), (3, .ref (ad (10 + q.toNat))), (2, .int (zI (n))), (1, .int (zI (q))), (0, .ref (ad 1))] [.ref q9]
        refine zr_pop X 49 dX6_read_48 rfl rfl ?_
        refine zr_iinc X 52 0 [(5, .int (zI (k + 1))), (4, .ref q9), (3, .ref (ad (10 + q.toNat))), (2, .int (zI (n))), (1, .int (zI (q))), (0, .ref (ad 1))] dX6_read_49 rfl rfl (by decide) rfl ?_
        refine zr_goto X 25 dX6_read_52 rfl ?_
        refine zr_room (3002 - gr77p) (6200 - 2 * gr77p) (by omega) (by omega) ?_
        exact ih _ (by omega) V75 σ71 (k + 1) gr77p ⟨hS78, fx81, by rw [σ71e, hI3, zw4_zw4, Int.add_assoc], by omega, by omega, by omega, hp76b, by omega, by omega⟩ rfl
  exact loop _ V12 σ 0 16 ⟨hS15, fx16, (by rw [Int.add_zero]; exact zw4_id.symm), by omega, by omega, by omega, hp13b, by omega, by omega⟩ rfl
set_option maxRecDepth 100000 in
set_option maxHeartbeats 4000000 in
theorem m_X6_letIn (l : Launch) (Γ : zGam) {V : zV} {ad : Nat → Nat} {σ : Nat → Int} {o r to tr : Nat} {m fr mo : Int} {h' : Int → Int} {e e' : va_E} (hS : zS Γ V ad σ) (tT : zTx Γ V o r m h') (tto : V o = some (to, e)) (tq : V r = some (tr, e')) (tc : ¬ (24 ≤ to ∧ to ≤ 30) ∧ ¬ (24 ≤ tr ∧ tr ≤ 30)) (hfr : 0 ≤ fr ∧ fr ≤ 1000) (hmo : 0 ≤ mo ∧ mo ≤ 8) : zM l Γ 6 yX6_letIn wsX6_letIn 0 0 V [.ref (ad 1), .ref o, .int (zI (fr)), .int (zI (mo))] (fun rv V' => ∃ (k : Int) (σ' : Nat → Int), rv = some (.int (zI k)) ∧ zS Γ V' ad σ' ∧ zfx V V' ∧ zag (fun t => ¬ (24 ≤ t ∧ t ≤ 30)) V V' ∧ 0 ≤ k ∧ k ≤ mo ∧ (k = 0 ∨ fr + k ≤ m) ∧ (k = mo ∨ m ≤ fr + k ∨ σ 27 + k = σ 26 ∨ σ 28 + k = 160) ∧ σ' = zly (zpi σ (σ 26) (σ 27 + k) (σ 28 + k) (σ 29)) (300 + (σ 28).toNat) (k).toNat (fun j => h' (fr + (j : Int)))) := by
  have w0 : Cond.fieldLink RX6 30 "Sashwords" "line" "LSashwords$Pipe;" ∈ wsX6_letIn := by decide +kernel
  have iX6 : ∀ w ∈ u_ws RX6 TX6 14, w ∈ wsX6_letIn := by decide +kernel
  refine zM_of (cc := cX6_letIn) (nL := 5) (ret := (some .int)) (own := RX6) (by decide +kernel) rfl rfl (Nat.le_of_ble_eq_true rfl) (fun C X hi0 => ?_)
  have hx1 : V (ad 1) = some (1, .inr (7, [.ref (ad 2), .ref (ad 20), .ref (ad 22), .ref (ad 24), .ref (ad 16), .ref (ad 31), .ref (ad 33), .ref (ad 35), .ref (ad 40), .ref (ad 45), .int (zI (σ 30)), .int (zI (σ 31)), .int (zI (σ 32)), .int (zI (σ 33))])) := hS.1
  have tg := tT.rg
  have hpr0 := hS.prg
  show zG C V 0 0 0 [(0, .ref (ad 1)), (1, .ref o), (2, .int (zI (fr))), (3, .int (zI (mo)))] []
  refine zr_iconst X 1 dX6_letIn_0 rfl ?_
  refine zr_istore X 3 [(4, .int (zI (0))), (0, .ref (ad 1)), (1, .ref o), (2, .int (zI (fr))), (3, .int (zI (mo)))] dX6_letIn_1 rfl (by decide) rfl ?_
  refine zr_sub [0, 4, 3, 2, 1] [(4, .int (zI (0))), (3, .int (zI (mo))), (2, .int (zI (fr))), (1, .ref o), (0, .ref (ad 1))] rfl ?_
  have loop : ∀ (N : Nat) (V1 : zV) (σ1 : Nat → Int) (k : Int), zS Γ V1 ad σ1 ∧ zfx V V1 ∧ σ1 = zly (zpi σ (σ 26) (σ 27 + k) (σ 28 + k) (σ 29)) (300 + (σ 28).toNat) (k).toNat (fun j => h' (fr + (j : Int))) ∧ 0 ≤ k ∧ k ≤ mo ∧ (k = 0 ∨ fr + k ≤ m) ∧ k ≤ 8 ∧ zag (fun t => ¬ (24 ≤ t ∧ t ≤ 30)) V V1 → (mo - k).toNat = N → zG C V1 0 0 3 [(4, .int (zI (k))), (3, .int (zI (mo))), (2, .int (zI (fr))), (1, .ref o), (0, .ref (ad 1))] [] := by
    intro N
    induction N using Nat.strongRecOn with
    | _ N ih =>
    intro V1 σ1 k hI hN
    obtain ⟨hI1, hI2, hI3, hI4, hI5, hI6, hI7, hI8⟩ := id hI
    have hx2 : V1 (ad 1) = some (1, .inr (7, [.ref (ad 2), .ref (ad 20), .ref (ad 22), .ref (ad 24), .ref (ad 16), .ref (ad 31), .ref (ad 33), .ref (ad 35), .ref (ad 40), .ref (ad 45), .int (zI (σ1 30)), .int (zI (σ1 31)), .int (zI (σ1 32)), .int (zI (σ1 33))])) := hI1.1
    have e26 : σ1 26 = σ 26 := by rw [hI3]; exact (zly_ne (by omega)).trans rfl
    have e27 : σ1 27 = σ 27 + k := by rw [hI3]; exact (zly_ne (by omega)).trans rfl
    have e28 : σ1 28 = σ 28 + k := by rw [hI3]; exact (zly_ne (by omega)).trans rfl
    have e29 : σ1 29 = σ 29 := by rw [hI3]; exact (zly_ne (by omega)).trans rfl
    have hpr := hI1.prg
    have hT1 := tT.kept ((hI8 _ _ _ tto (by omega)).trans tto.symm) ((hI8 _ _ _ tq (by omega)).trans tq.symm)
    refine zr_iload X 5 0 dX6_letIn_3 rfl rfl ?_
    refine zr_iload_n X 6 1 dX6_letIn_5 rfl rfl ?_
    refine zr_icmp_ge X 44 9 dX6_letIn_6 rfl rfl (by omega) (by omega) (fun bq3 => ?_) (fun bq3 => ?_)
    · refine zr_iload X 46 0 dX6_letIn_44 rfl rfl ?_
      exact zr_iret X rfl ⟨k, σ1, rfl, hI1, hI2, hI8, hI4, hI5, hI6, by omega, hI3⟩ dX6_letIn_46
    · refine zr_iload_n X 10 2 dX6_letIn_9 rfl rfl ?_
      refine zr_iload X 12 0 dX6_letIn_10 rfl rfl ?_
      refine zr_iadd X 13 dX6_letIn_12 rfl ?_
      refine zr_aload_n X 14 3 dX6_letIn_13 rfl rfl ?_
      refine zr_txSize X 17 hT1 gX6_letIn_X5_size_u165X5 gX6_letIn_X2_size_u165X2 (by decide) (Nat.le_of_ble_eq_true rfl) dX6_letIn_14 rfl ?_
      refine zr_icmp_ge X 44 20 dX6_letIn_17 rfl rfl (by omega) (by omega) (fun bq4 => ?_) (fun bq4 => ?_)
      · refine zr_iload X 46 0 dX6_letIn_44 rfl rfl ?_
        exact zr_iret X rfl ⟨k, σ1, rfl, hI1, hI2, hI8, hI4, hI5, hI6, by omega, hI3⟩ dX6_letIn_46
      · refine zr_aload_n X 21 4 dX6_letIn_20 rfl rfl ?_
        refine zr_get X 24 7 3 hx2 rfl iX6 (by decide) w0 rfl rfl dX6_letIn_21 rfl ?_
        refine zr_aload_n X 25 3 dX6_letIn_24 rfl rfl ?_
        refine zr_iload_n X 26 2 dX6_letIn_25 rfl rfl ?_
        refine zr_iload X 28 0 dX6_letIn_26 rfl rfl ?_
        refine zr_iadd X 29 dX6_letIn_28 rfl ?_
        refine zr_txAt X 32 hT1 (by omega) gX6_letIn_X5_at_u334X5 gX6_letIn_X2_at_u334X2 (by decide) (Nat.le_of_ble_eq_true rfl) dX6_letIn_29 rfl ?_
        rw [if_pos (show 0 ≤ (fr + k) ∧ (fr + k) < m by omega)]
        have hx5 := tg.2.2 (fr + k)
        show zG C V1 0 0 32 [(4, .int (zI (k))), (3, .int (zI (mo))), (2, .int (zI (fr))), (1, .ref o), (0, .ref (ad 1))] [.int (zI (h' (fr + k))), .ref (ad 24)]
        have pr7 := hI1.prg
        by_cases ty6 : σ1 27 < σ1 26 ∧ σ1 28 < 160
        · skip
          refine zr_callVe (kc' := 0) (ks' := 0) X 35 1 (h_takeIn_y l Γ hI1 (x := h' (fr + k)) (by omega) ty6) gX6_letIn_X1_takeIn rfl (by decide +kernel) rfl (by decide) hI1.pcl rfl rfl (Nat.le_of_ble_eq_true rfl) dX6_letIn_32 rfl (by omega) (by omega) (fun rv8 V9 hp10 => ?_)
          obtain ⟨hp10e, hp10s, hp10x, hp10g⟩ := hp10
          rw [hp10e]
          obtain ⟨σ11, σ11e⟩ : ∃ zz9 : Nat → Int, zz9 = zf (zpi σ1 (σ1 26) (σ1 27 + 1) (σ1 28 + 1) (σ1 29)) (300 + (σ1 28).toNat) (h' (fr + k)) := ⟨_, rfl⟩
          rw [← σ11e] at hp10s
          have fx12 := zag.tr hI2 hp10x
          have hx13 : V9 (ad 1) = some (1, .inr (7, [.ref (ad 2), .ref (ad 20), .ref (ad 22), .ref (ad 24), .ref (ad 16), .ref (ad 31), .ref (ad 33), .ref (ad 35), .ref (ad 40), .ref (ad 45), .int (zI (σ11 30)), .int (zI (σ11 31)), .int (zI (σ11 32)), .int (zI (σ11 33))])) := hp10s.1
          show zG C V9 0 0 35 [(4, .int (zI (k))), (3, .int (zI (mo))), (2, .int (zI (fr))), (1, .ref o), (0, .ref (ad 1))] [.int (zI (1))]
          refine zr_if_eq X 44 38 dX6_letIn_35 rfl rfl (by omega) (fun bq14 => absurd bq14 (by omega)) (fun bq14 => ?_)
          refine zr_iinc X 41 0 [(4, .int (zI (k + 1))), (3, .int (zI (mo))), (2, .int (zI (fr))), (1, .ref o), (0, .ref (ad 1))] dX6_letIn_38 rfl rfl (by decide) rfl ?_
          refine zr_goto X 3 dX6_letIn_41 rfl ?_
          exact ih _ (by omega) V9 σ11 (k + 1) ⟨hp10s, fx12, (σ11e).trans (zsn_step hI3 (by omega) (by omega) (congrArg h' (by omega))), by omega, by omega, by omega, by omega, zag.tr hI8 hp10g⟩ rfl
        · skip
          refine zr_callVe (kc' := 0) (ks' := 0) X 35 1 (h_takeIn_n l Γ hI1 (x := h' (fr + k)) ty6) gX6_letIn_X1_takeIn rfl (by decide +kernel) rfl (by decide) hI1.pcl rfl rfl (Nat.le_of_ble_eq_true rfl) dX6_letIn_32 rfl (by omega) (by omega) (fun rv15 V16 hp17 => ?_)
          rw [hp17.1, hp17.2]
          show zG C V1 0 0 35 [(4, .int (zI (k))), (3, .int (zI (mo))), (2, .int (zI (fr))), (1, .ref o), (0, .ref (ad 1))] [.int (zI (0))]
          refine zr_if_eq X 44 38 dX6_letIn_35 rfl rfl (by omega) (fun bq18 => ?_) (fun bq18 => absurd bq18 (by omega))
          refine zr_iload X 46 0 dX6_letIn_44 rfl rfl ?_
          exact zr_iret X rfl ⟨k, σ1, rfl, hI1, hI2, hI8, hI4, hI5, hI6, by omega, hI3⟩ dX6_letIn_46
  exact loop _ V σ 0 ⟨hS, zag.rf, zsn_0.symm, by omega, by omega, by omega, by omega, zag.rf⟩ rfl
