/-! Sashwords: strings of texts, copies, pump -/
theorem zsz_of {σ σ1 : Nat → Int} {q : Int} (h : ∀ j, j < 26 → σ1 j = σ j) (hq : 0 ≤ q ∧ q ≤ 7) : zsz σ1 q = zsz σ q := by
  unfold zsz
  by_cases c : q < 6
  · rw [if_pos c, if_pos c, h _ (by omega), h _ (by omega)]
  · rw [if_neg c, if_neg c, h _ (by omega), h _ (by omega)]
set_option maxRecDepth 100000 in
set_option maxHeartbeats 4000000 in
theorem m_X6_held (l : Launch) (Γ : zGam) {V : zV} {ad : Nat → Nat} {σ : Nat → Int} (hS : zS Γ V ad σ) : zM l Γ 9 yX6_held wsX6_held 3010 6300 V [.ref (ad 1)] (fun rv V' => ∃ (z : Nat) (σ' : Nat → Int), rv = some (.ref z) ∧ zS Γ V' ad σ' ∧ zfx V V' ∧ (σ' = σ)) := by
  have hpr0 := hS.prg
  have w0 : Cond.fieldLink RX6 30 "Sashwords" "line" "LSashwords$Pipe;" ∈ wsX6_held := by decide +kernel
  have iX6 : ∀ w ∈ u_ws RX6 TX6 14, w ∈ wsX6_held := by decide +kernel
  have iX1 : ∀ w ∈ u_ws RX1 TX1 4, w ∈ wsX6_held := by decide +kernel
  refine zM_of (cc := cX6_held) (nL := 1) (ret := (some (.object "java/lang/String"))) (own := RX6) (by decide +kernel) rfl rfl (Nat.le_of_ble_eq_true rfl) (fun C X hi0 => ?_)
  have hx1 : V (ad 1) = some (1, .inr (7, [.ref (ad 2), .ref (ad 20), .ref (ad 22), .ref (ad 24), .ref (ad 16), .ref (ad 31), .ref (ad 33), .ref (ad 35), .ref (ad 40), .ref (ad 45), .int (zI (σ 30)), .int (zI (σ 31)), .int (zI (σ 32)), .int (zI (σ 33))])) := hS.1
  show zG C V 3010 6300 0 [(0, .ref (ad 1))] []
  refine zr_aload_n X 1 0 dX6_held_0 rfl rfl ?_
  refine zr_get X 4 7 3 hx1 rfl iX6 (by decide) w0 rfl rfl dX6_held_1 rfl ?_
  refine zr_getN X 7 3 0 0 hS.2.2.2.2.2.1.1 rfl iX1 (by decide) rfl rfl rfl dX6_held_4 rfl ?_
  obtain ⟨t2e, t2e2, t2h, t2T, t2o, t2q⟩ := hS.2.2.2.2.2.1.2.1.tx (by decide)
  have t2g := t2T.rg
  have t2c := True.intro
  refine zr_callS (kc' := 3010 - 3010) (ks' := 6300 - 6300) X 10 1 (m_X6_spelled l Γ (V := V) t2T t2o t2q (by omega) (by omega)) gX6_held_X6_spelled rfl (by decide +kernel) rfl (by decide) rfl (Nat.le_of_ble_eq_true rfl) dX6_held_7 rfl (by omega) (by omega) (fun rv3 V4 hp5 => ?_)
  obtain ⟨hp5z, hp5e, hp5f⟩ := hp5
  rw [hp5e]
  obtain ⟨hS6, fx7⟩ := hS.fr hp5f
  have hx8 : V4 (ad 1) = some (1, .inr (7, [.ref (ad 2), .ref (ad 20), .ref (ad 22), .ref (ad 24), .ref (ad 16), .ref (ad 31), .ref (ad 33), .ref (ad 35), .ref (ad 40), .ref (ad 45), .int (zI (σ 30)), .int (zI (σ 31)), .int (zI (σ 32)), .int (zI (σ 33))])) := hS6.1
  show zG C V4 (3010 - 3010) (6300 - 6300) 10 [(0, .ref (ad 1))] [.ref hp5z]
  exact zr_aret X rfl (Or.inl ⟨_, rfl⟩) ⟨_, σ, rfl, hS6, fx7, rfl⟩ dX6_held_10
set_option maxRecDepth 100000 in
set_option maxHeartbeats 4000000 in
theorem m_X6_travelled (l : Launch) (hlt : l.stackTraces = false) (Γ : zGam) {V : zV} {ad : Nat → Nat} {σ : Nat → Int} {q : Int} (hS : zS Γ V ad σ) (hq : -2147483648 ≤ q ∧ q ≤ 2147483647) : zN l Γ 10 yX6_travelled wsX6_travelled 3011 6306 V [.ref (ad 1), .int (zI (q))] (fun rv V' => ∃ (z : Nat) (σ' : Nat → Int), rv = some (.ref z) ∧ zS Γ V' ad σ' ∧ zfx V V' ∧ ((0 ≤ q ∧ q ≤ 1) ∧ σ' = σ)) (fun E V' => V' = V ∧ ((E = zIO ∧ False) ∨ (E = zIA ∧ ¬ (0 ≤ q ∧ q ≤ 1)))) := by
  have hpr0 := hS.prg
  have w0 : Cond.fieldLink RX6 30 "Sashwords" "line" "LSashwords$Pipe;" ∈ wsX6_travelled := by decide +kernel
  have iX6 : ∀ w ∈ u_ws RX6 TX6 14, w ∈ wsX6_travelled := by decide +kernel
  have iX1 : ∀ w ∈ u_ws RX1 TX1 4, w ∈ wsX6_travelled := by decide +kernel
  refine zN_of (cc := cX6_travelled) (nL := 2) (ret := (some (.object "java/lang/String"))) (own := RX6) hlt (by decide +kernel) rfl rfl (Nat.le_of_ble_eq_true rfl) (fun C X Y => ?_)
  have hx1 : V (ad 1) = some (1, .inr (7, [.ref (ad 2), .ref (ad 20), .ref (ad 22), .ref (ad 24), .ref (ad 16), .ref (ad 31), .ref (ad 33), .ref (ad 35), .ref (ad 40), .ref (ad 45), .int (zI (σ 30)), .int (zI (σ 31)), .int (zI (σ 32)), .int (zI (σ 33))])) := hS.1
  show zG C V 3011 6306 0 [(0, .ref (ad 1)), (1, .int (zI (q)))] []
  refine zr_iload_n X 1 1 dX6_travelled_0 rfl rfl ?_
  refine zr_iconst X 2 dX6_travelled_1 rfl ?_
  refine zr_iconst X 3 dX6_travelled_2 rfl ?_
  refine zr_callSN (kc' := 3011 - 1) (ks' := 6306 - 6) X Y 6 3 (m_X6_requireWithin l hlt Γ (V := V) (x := q) (a := 0) (b := 1) (by omega) (by omega) (by omega)) gX6_travelled_X6_requireWithin rfl (by decide +kernel) rfl (by decide) rfl (Nat.le_of_ble_eq_true rfl) dX6_travelled_3 rfl (by omega) (by omega) (fun E W hX => ⟨hX.2.2, Or.inr ⟨hX.1, by have := hX.2.1; omega⟩⟩) (fun rv2 V3 hp4 => ?_)
  obtain ⟨hp4a, hp4b, hp4c⟩ := hp4
  rw [hp4b, hp4c]
  show zG C V (3011 - 1) (6306 - 6) 6 [(0, .ref (ad 1)), (1, .int (zI (q)))] []
  refine zr_iload_n X 7 1 dX6_travelled_6 rfl rfl ?_
  refine zr_if_ne X 20 10 dX6_travelled_7 rfl rfl (by omega) (fun bq5 => ?_) (fun bq5 => ?_)
  · refine zr_aload_n X 21 0 dX6_travelled_20 rfl rfl ?_
    refine zr_get X 24 7 3 hx1 rfl iX6 (by decide) w0 rfl rfl dX6_travelled_21 rfl ?_
    refine zr_getN X 27 3 2 2 hS.2.2.2.2.2.1.1 rfl iX1 (by decide) rfl rfl rfl dX6_travelled_24 rfl ?_
    obtain ⟨t6e, t6e2, t6h, t6T, t6o, t6q⟩ := hS.2.2.2.2.2.1.2.2.2.1.tx (by decide)
    have t6g := t6T.rg
    have t6c := True.intro
    refine zr_callS (kc' := (3011 - 1) - 3010) (ks' := (6306 - 6) - 6300) X 30 1 (m_X6_spelled l Γ (V := V) t6T t6o t6q (by omega) (by omega)) gX6_travelled_X6_spelled rfl (by decide +kernel) rfl (by decide) rfl (Nat.le_of_ble_eq_true rfl) dX6_travelled_27 rfl (by omega) (by omega) (fun rv7 V8 hp9 => ?_)
    obtain ⟨hp9z, hp9e, hp9f⟩ := hp9
    rw [hp9e]
    obtain ⟨hS10, fx11⟩ := hS.fr hp9f
    have hx12 : V8 (ad 1) = some (1, .inr (7, [.ref (ad 2), .ref (ad 20), .ref (ad 22), .ref (ad 24), .ref (ad 16), .ref (ad 31), .ref (ad 33), .ref (ad 35), .ref (ad 40), .ref (ad 45), .int (zI (σ 30)), .int (zI (σ 31)), .int (zI (σ 32)), .int (zI (σ 33))])) := hS10.1
    show zG C V8 ((3011 - 1) - 3010) ((6306 - 6) - 6300) 30 [(0, .ref (ad 1)), (1, .int (zI (q)))] [.ref hp9z]
    exact zr_aret X rfl (Or.inl ⟨_, rfl⟩) ⟨_, σ, rfl, hS10, fx11, ⟨by omega, rfl⟩⟩ dX6_travelled_30
  · refine zr_aload_n X 11 0 dX6_travelled_10 rfl rfl ?_
    refine zr_get X 14 7 3 hx1 rfl iX6 (by decide) w0 rfl rfl dX6_travelled_11 rfl ?_
    refine zr_getN X 17 3 1 1 hS.2.2.2.2.2.1.1 rfl iX1 (by decide) rfl rfl rfl dX6_travelled_14 rfl ?_
    refine zr_goto X 27 dX6_travelled_17 rfl ?_
    obtain ⟨t13e, t13e2, t13h, t13T, t13o, t13q⟩ := hS.2.2.2.2.2.1.2.2.1.tx (by decide)
    have t13g := t13T.rg
    have t13c := True.intro
    refine zr_callS (kc' := (3011 - 1) - 3010) (ks' := (6306 - 6) - 6300) X 30 1 (m_X6_spelled l Γ (V := V) t13T t13o t13q (by omega) (by omega)) gX6_travelled_X6_spelled rfl (by decide +kernel) rfl (by decide) rfl (Nat.le_of_ble_eq_true rfl) dX6_travelled_27 rfl (by omega) (by omega) (fun rv14 V15 hp16 => ?_)
    obtain ⟨hp16z, hp16e, hp16f⟩ := hp16
    rw [hp16e]
    obtain ⟨hS17, fx18⟩ := hS.fr hp16f
    have hx19 : V15 (ad 1) = some (1, .inr (7, [.ref (ad 2), .ref (ad 20), .ref (ad 22), .ref (ad 24), .ref (ad 16), .ref (ad 31), .ref (ad 33), .ref (ad 35), .ref (ad 40), .ref (ad 45), .int (zI (σ 30)), .int (zI (σ 31)), .int (zI (σ 32)), .int (zI (σ 33))])) := hS17.1
    show zG C V15 ((3011 - 1) - 3010) ((6306 - 6) - 6300) 30 [(0, .ref (ad 1)), (1, .int (zI (q)))] [.ref hp16z]
    exact zr_aret X rfl (Or.inl ⟨_, rfl⟩) ⟨_, σ, rfl, hS17, fx18, ⟨by omega, rfl⟩⟩ dX6_travelled_30
set_option maxRecDepth 100000 in
set_option maxHeartbeats 4000000 in
theorem m_X6_read (l : Launch) (hlt : l.stackTraces = false) (Γ : zGam) {V : zV} {ad : Nat → Nat} {σ : Nat → Int} {q n : Int} (hS : zS Γ V ad σ) (hq : -2147483648 ≤ q ∧ q ≤ 2147483647) (hn : -2147483648 ≤ n ∧ n ≤ 2147483647) : zN l Γ 10 yX6_read wsX6_read 3010 6300 V [.ref (ad 1), .int (zI (q)), .int (zI (n))] (fun rv V' => ∃ (z : Nat) (σ' : Nat → Int), rv = some (.ref z) ∧ zS Γ V' ad σ' ∧ zfx V V' ∧ ((0 ≤ q ∧ q < 6 ∧ 0 ≤ n ∧ n ≤ 40) ∧ ∃ k : Int, 0 ≤ k ∧ k ≤ n ∧ k ≤ σ (4 * q.toNat + 1) - σ (4 * q.toNat + 2) ∧ (k = n ∨ k = σ (4 * q.toNat + 1) - σ (4 * q.toNat + 2)) ∧ σ' = zdn (zw4 σ q.toNat (σ (4 * q.toNat)) (σ (4 * q.toNat + 1)) (σ (4 * q.toNat + 2) + k) (σ (4 * q.toNat + 3))))) (fun E V' => V' = V ∧ ((E = zIO ∧ ¬ (0 ≤ q ∧ q < 6)) ∨ (E = zIA ∧ (0 ≤ q ∧ q < 6) ∧ ¬ (0 ≤ n ∧ n ≤ 40)))) := by
  have w0 : Cond.classLink RX6 113 RJ4 ∈ wsX6_read := by decide +kernel
  have w1 : Cond.instantiable RJ4 4 ∈ wsX6_read := by decide +kernel
  have w2 : Cond.initialized RJ4 ∈ wsX6_read := by decide +kernel
  have iJ4 : ∀ w ∈ u_ws RJ4 TJ4 4, w ∈ wsX6_read := by decide +kernel
  have w4 : Cond.initialized yJ4_init_da8c8.cls ∈ wsX6_read := by decide +kernel
  have w5 : Cond.methodLink RX6 115 yJ4_init_da8c8 ∈ wsX6_read := by decide +kernel
  have w6 : Cond.instanceMethod yJ4_init_da8c8 ∈ wsX6_read := by decide +kernel
  refine zN_of (cc := cX6_read) (nL := 6) (ret := (some (.object "java/lang/String"))) (own := RX6) hlt (by decide +kernel) rfl rfl (Nat.le_of_ble_eq_true rfl) (fun C X Y => ?_)
  have hx1 : V (ad 1) = some (1, .inr (7, [.ref (ad 2), .ref (ad 20), .ref (ad 22), .ref (ad 24), .ref (ad 16), .ref (ad 31), .ref (ad 33), .ref (ad 35), .ref (ad 40), .ref (ad 45), .int (zI (σ 30)), .int (zI (σ 31)), .int (zI (σ 32)), .int (zI (σ 33))])) := hS.1
  show zG C V 3010 6300 0 [(0, .ref (ad 1)), (1, .int (zI (q))), (2, .int (zI (n)))] []
  refine zr_aload_n X 1 0 dX6_read_0 rfl rfl ?_
  refine zr_iload_n X 2 1 dX6_read_1 rfl rfl ?_
  refine zr_callVN (kc' := 3010 - 1) (ks' := 6300 - 6) X Y 5 1 (m_X6_windowOf l hlt Γ hS (q := q) (by omega)) gX6_read_X6_windowOf rfl (by decide +kernel) rfl (by decide) hx1 rfl rfl (Nat.le_of_ble_eq_true rfl) dX6_read_2 rfl (by omega) (by omega) (fun E W hX => ⟨hX.2.2, Or.inl ⟨hX.1, by have := hX.2.1; omega⟩⟩) (fun rv2 V3 hp4 => ?_)
  obtain ⟨hp4a, hp4b, hp4c⟩ := hp4
  rw [hp4b, hp4c]
  have hw5 := hS.w (i := q.toNat) (by omega)
  have hw5r := hw5.rg
  show zG C V (3010 - 1) (6300 - 6) 5 [(0, .ref (ad 1)), (1, .int (zI (q))), (2, .int (zI (n)))] [.ref (ad (10 + q.toNat))]
  refine zr_astore_n X 6 [(3, .ref (ad (10 + q.toNat))), (0, .ref (ad 1)), (1, .int (zI (q))), (2, .int (zI (n)))] dX6_read_5 rfl (by decide) rfl ?_
  refine zr_iload_n X 7 3 dX6_read_6 rfl rfl ?_
  refine zr_iconst X 8 dX6_read_7 rfl ?_
  refine zr_bipush X 10 (40) dX6_read_8 rfl (by decide) ?_
  refine zr_callSN (kc' := (3010 - 1) - 1) (ks' := (6300 - 6) - 6) X Y 13 3 (m_X6_requireWithin l hlt Γ (V := V) (x := n) (a := 0) (b := 40) (by omega) (by omega) (by omega)) gX6_read_X6_requireWithin rfl (by decide +kernel) rfl (by decide) rfl (Nat.le_of_ble_eq_true rfl) dX6_read_10 rfl (by omega) (by omega) (fun E W hX => ⟨hX.2.2, Or.inr ⟨hX.1, by have := hX.2.1; omega⟩⟩) (fun rv6 V7 hp8 => ?_)
  obtain ⟨hp8a, hp8b, hp8c⟩ := hp8
  rw [hp8b, hp8c]
  show zG C V ((3010 - 1) - 1) ((6300 - 6) - 6) 13 [(3, .ref (ad (10 + q.toNat))), (0, .ref (ad 1)), (1, .int (zI (q))), (2, .int (zI (n)))] []
  refine zr_new (kc' := (((3010 - 1) - 1) - 1)) (ks' := (((6300 - 6) - 6) - 4)) X 16 1 7 [.null, .int (zI (0)), .int (zI (0)), .int (zI (0))] tyJ4 rfl iJ4 tyJ4_ok w0 w1 w2 (zdf_J4) dX6_read_13 rfl (by omega) (by omega) (fun q9 hq10 => ?_)
  refine zr_dup X 17 dX6_read_16 rfl rfl ?_
  refine zr_callI (kc' := (((3010 - 1) - 1) - 1) - 1) (ks' := (((6300 - 6) - 6) - 4) - 16) X 20 0 (m_J4_init_da8c8 l Γ (zu_eq _ _ _ _)) gX6_read_J4_init_da8c8 rfl w4 w5 w6 rfl (by decide +kernel) rfl (by decide) rfl (Nat.le_of_ble_eq_true rfl) dX6_read_17 rfl (by omega) (by omega) (fun rv11 V12 hp13 => ?_)
  obtain ⟨hp13e, hp13b, hp13f⟩ := hp13
  rw [hp13e]
  have ff14 : zfr V V12 := zag.tr (P := fun t => t ≠ 7) (zag.rf.new hq10) hp13f
  obtain ⟨hS15, fx16⟩ := hS.fr ff14
  have hw17 := hw5.kept ff14.ag (by omega) (by omega)
  have hx18 : V12 (ad 1) = some (1, .inr (7, [.ref (ad 2), .ref (ad 20), .ref (ad 22), .ref (ad 24), .ref (ad 16), .ref (ad 31), .ref (ad 33), .ref (ad 35), .ref (ad 40), .ref (ad 45), .int (zI (σ 30)), .int (zI (σ 31)), .int (zI (σ 32)), .int (zI (σ 33))])) := hS15.1
  show zG C V12 ((((3010 - 1) - 1) - 1) - 1) ((((6300 - 6) - 6) - 4) - 16) 20 [(3, .ref (ad (10 + q.toNat))), (0, .ref (ad 1)), (1, .int (zI (q))), (2, .int (zI (n)))] [.ref q9]
  refine zr_astore X 22 [(4, .ref q9), (3, .ref (ad (10 + q.toNat))), (0, .ref (ad 1)), (1, .int (zI (q))), (2, .int (zI (n)))] dX6_read_20 rfl (by decide) rfl ?_
  refine zr_iconst X 23 dX6_read_22 rfl ?_
  refine zr_istore X 25 [(5, .int (zI (0))), (4, .ref q9), (3, .ref (ad (10 + q.toNat))), (0, .ref (ad 1)), (1, .int (zI (q))), (2, .int (zI (n)))] dX6_read_23 rfl (by decide) rfl ?_
  refine zr_room (3002 - 16) (6200 - 2 * 16) (by omega) (by omega) ?_
  refine zr_sub [0, 1, 2, 5, 4, 3] [(5, .int (zI (0))), (4, .ref q9), (3, .ref (ad (10 + q.toNat))), (2, .int (zI (n))), (1, .int (zI (q))), (0, .ref (ad 1))] rfl ?_
  have loop : ∀ (N : Nat) (V1 : zV) (σ1 : Nat → Int) (k : Int) (cap : Nat), zS Γ V1 ad σ1 ∧ zfx V V1 ∧ σ1 = zw4 σ q.toNat (σ (4 * q.toNat)) (σ (4 * q.toNat + 1)) (σ (4 * q.toNat + 2) + k) (σ (4 * q.toNat + 3)) ∧ 0 ≤ k ∧ k ≤ n ∧ σ (4 * q.toNat + 2) + k ≤ σ (4 * q.toNat + 1) ∧ zSB Γ V1 q9 k cap ∧ 16 ≤ cap ∧ cap ≤ 900 → (n - k).toNat = N → zG C V1 (3002 - cap) (6200 - 2 * cap) 25 [(5, .int (zI (k))), (4, .ref q9), (3, .ref (ad (10 + q.toNat))), (2, .int (zI (n))), (1, .int (zI (q))), (0, .ref (ad 1))] [] := by
    intro N
    induction N using Nat.strongRecOn with
    | _ N ih =>
    intro V1 σ1 k cap hI hN
    obtain ⟨hI1, hI2, hI3, hI4, hI5, hI6, hI7, hI8, hI9⟩ := id hI
    have hx19 : V1 (ad 1) = some (1, .inr (7, [.ref (ad 2), .ref (ad 20), .ref (ad 22), .ref (ad 24), .ref (ad 16), .ref (ad 31), .ref (ad 33), .ref (ad 35), .ref (ad 40), .ref (ad 45), .int (zI (σ1 30)), .int (zI (σ1 31)), .int (zI (σ1 32)), .int (zI (σ1 33))])) := hI1.1
    have nq20 : σ1 (4 * q.toNat) = σ (4 * q.toNat) := by rw [hI3, zw4_0]
    have nq21 : σ1 (4 * q.toNat + 1) = σ (4 * q.toNat + 1) := by rw [hI3, zw4_1]
    have nq22 : σ1 (4 * q.toNat + 2) = σ (4 * q.toNat + 2) + k := by rw [hI3, zw4_2]
    have nq23 : σ1 (4 * q.toNat + 3) = σ (4 * q.toNat + 3) := by rw [hI3, zw4_3]
    have nq24 : σ1 (40 + q.toNat) = σ (40 + q.toNat) := by rw [hI3, zw4_hi (by omega) (by omega)]
    have hst_q := hS.cst (i := q.toNat) (by omega)
    have hw25 : zWi Γ V1 (10 + q.toNat) (ad (10 + q.toNat)) (σ (4 * q.toNat)) (σ (4 * q.toNat + 1)) (σ (4 * q.toNat + 2) + k) (σ (4 * q.toNat + 3)) := by
      have h := hI1.w (i := q.toNat) (by omega)
      rw [nq20, nq21, nq22, nq23] at h
      exact h
    have hw25r := hw25.rg
    refine zr_iload X 27 0 dX6_read_25 rfl rfl ?_
    refine zr_iload_n X 28 3 dX6_read_27 rfl rfl ?_
    refine zr_icmp_ge X 55 31 dX6_read_28 rfl rfl (by omega) (by omega) (fun bq26 => ?_) (fun bq26 => ?_)
    · refine zr_aload_n X 56 5 dX6_read_55 rfl rfl ?_
      refine zr_aload X 58 1 dX6_read_56 rfl rfl ?_
      have hp29r := hI7.rg
      refine zr_callVe (kc' := 3002 - cap - 2) (ks' := 6200 - 2 * cap - ((k).toNat + 4)) X 61 0 (zsb_str l Γ hI7) gX6_read_J4_toString_0e30d rfl (by decide +kernel) rfl (by decide) hI7.cl rfl rfl (Nat.le_of_ble_eq_true rfl) dX6_read_58 rfl (by omega) (by omega) (fun rv27 V28 hp29 => ?_)
      obtain ⟨hp29z, hp29e, hp29n, hp29f⟩ := hp29
      rw [hp29e]
      obtain ⟨hS30, fx31⟩ := hI1.fr hp29f
      have hw32 := hw25.kept hp29f.ag (by omega) (by omega)
      have fx33 := zag.tr hI2 fx31
      have hx34 : V28 (ad 1) = some (1, .inr (7, [.ref (ad 2), .ref (ad 20), .ref (ad 22), .ref (ad 24), .ref (ad 16), .ref (ad 31), .ref (ad 33), .ref (ad 35), .ref (ad 40), .ref (ad 45), .int (zI (σ1 30)), .int (zI (σ1 31)), .int (zI (σ1 32)), .int (zI (σ1 33))])) := hS30.1
      show zG C V28 (3002 - cap - 2) (6200 - 2 * cap - ((k).toNat + 4)) 61 [(5, .int (zI (k))), (4, .ref q9), (3, .ref (ad (10 + q.toNat))), (2, .int (zI (n))), (1, .int (zI (q))), (0, .ref (ad 1))] [.ref hp29z, .ref (ad 1)]
      refine zr_callVe (kc' := (3002 - cap - 2)) (ks' := (6200 - 2 * cap - ((k).toNat + 4))) X 64 1 (m_X6_done_ l Γ (y := hp29z) hS30) gX6_read_X6_done_ rfl (by decide +kernel) rfl (by decide) hS30.x rfl rfl (Nat.le_of_ble_eq_true rfl) dX6_read_61 rfl (by omega) (by omega) (fun rv35 V36 hp37 => ?_)
      obtain ⟨hp37e, hS38, fx39⟩ := hp37
      rw [hp37e]
      obtain ⟨σ40, σ40e⟩ : ∃ zz9 : Nat → Int, zz9 = zdn σ1 := ⟨_, rfl⟩
      rw [← σ40e] at hS38
      have fx41 := zag.tr fx33 fx39
      have hx42 : V36 (ad 1) = some (1, .inr (7, [.ref (ad 2), .ref (ad 20), .ref (ad 22), .ref (ad 24), .ref (ad 16), .ref (ad 31), .ref (ad 33), .ref (ad 35), .ref (ad 40), .ref (ad 45), .int (zI (σ40 30)), .int (zI (σ40 31)), .int (zI (σ40 32)), .int (zI (σ40 33))])) := hS38.1
      show zG C V36 (3002 - cap - 2) (6200 - 2 * cap - ((k).toNat + 4)) 64 [(5, .int (zI (k))), (4, .ref q9), (3, .ref (ad (10 + q.toNat))), (2, .int (zI (n))), (1, .int (zI (q))), (0, .ref (ad 1))] [.ref hp29z]
      exact zr_aret X rfl (Or.inl ⟨_, rfl⟩) ⟨_, σ40, rfl, hS38, fx41, ⟨by omega, k, by omega, by omega, by omega, by omega, by rw [σ40e, hI3]⟩⟩ dX6_read_64
    · refine zr_aload_n X 32 2 dX6_read_31 rfl rfl ?_
      refine zr_callVe (kc' := 3002 - cap) (ks' := 6200 - 2 * cap) X 35 0 (e_size l Γ hw25) gX6_read_X5_size rfl (by decide +kernel) rfl (by decide) hw25.cl rfl rfl (Nat.le_of_ble_eq_true rfl) dX6_read_32 rfl (by omega) (by omega) (fun rv43 V44 hp45 => ?_)
      rw [hp45.1, hp45.2]
      show zG C V1 (3002 - cap) (6200 - 2 * cap) 35 [(5, .int (zI (k))), (4, .ref q9), (3, .ref (ad (10 + q.toNat))), (2, .int (zI (n))), (1, .int (zI (q))), (0, .ref (ad 1))] [.int (zI ((σ (4 * q.toNat + 1)) - (σ (4 * q.toNat + 2) + k)))]
      refine zr_if_le X 55 38 dX6_read_35 rfl rfl (by omega) (fun bq46 => ?_) (fun bq46 => ?_)
      · refine zr_aload_n X 56 5 dX6_read_55 rfl rfl ?_
        refine zr_aload X 58 1 dX6_read_56 rfl rfl ?_
        have hp49r := hI7.rg
        refine zr_callVe (kc' := 3002 - cap - 2) (ks' := 6200 - 2 * cap - ((k).toNat + 4)) X 61 0 (zsb_str l Γ hI7) gX6_read_J4_toString_0e30d rfl (by decide +kernel) rfl (by decide) hI7.cl rfl rfl (Nat.le_of_ble_eq_true rfl) dX6_read_58 rfl (by omega) (by omega) (fun rv47 V48 hp49 => ?_)
        obtain ⟨hp49z, hp49e, hp49n, hp49f⟩ := hp49
        rw [hp49e]
        obtain ⟨hS50, fx51⟩ := hI1.fr hp49f
        have hw52 := hw25.kept hp49f.ag (by omega) (by omega)
        have fx53 := zag.tr hI2 fx51
        have hx54 : V48 (ad 1) = some (1, .inr (7, [.ref (ad 2), .ref (ad 20), .ref (ad 22), .ref (ad 24), .ref (ad 16), .ref (ad 31), .ref (ad 33), .ref (ad 35), .ref (ad 40), .ref (ad 45), .int (zI (σ1 30)), .int (zI (σ1 31)), .int (zI (σ1 32)), .int (zI (σ1 33))])) := hS50.1
        show zG C V48 (3002 - cap - 2) (6200 - 2 * cap - ((k).toNat + 4)) 61 [(5, .int (zI (k))), (4, .ref q9), (3, .ref (ad (10 + q.toNat))), (2, .int (zI (n))), (1, .int (zI (q))), (0, .ref (ad 1))] [.ref hp49z, .ref (ad 1)]
        refine zr_callVe (kc' := (3002 - cap - 2)) (ks' := (6200 - 2 * cap - ((k).toNat + 4))) X 64 1 (m_X6_done_ l Γ (y := hp49z) hS50) gX6_read_X6_done_ rfl (by decide +kernel) rfl (by decide) hS50.x rfl rfl (Nat.le_of_ble_eq_true rfl) dX6_read_61 rfl (by omega) (by omega) (fun rv55 V56 hp57 => ?_)
        obtain ⟨hp57e, hS58, fx59⟩ := hp57
        rw [hp57e]
        obtain ⟨σ60, σ60e⟩ : ∃ zz9 : Nat → Int, zz9 = zdn σ1 := ⟨_, rfl⟩
        rw [← σ60e] at hS58
        have fx61 := zag.tr fx53 fx59
        have hx62 : V56 (ad 1) = some (1, .inr (7, [.ref (ad 2), .ref (ad 20), .ref (ad 22), .ref (ad 24), .ref (ad 16), .ref (ad 31), .ref (ad 33), .ref (ad 35), .ref (ad 40), .ref (ad 45), .int (zI (σ60 30)), .int (zI (σ60 31)), .int (zI (σ60 32)), .int (zI (σ60 33))])) := hS58.1
        show zG C V56 (3002 - cap - 2) (6200 - 2 * cap - ((k).toNat + 4)) 64 [(5, .int (zI (k))), (4, .ref q9), (3, .ref (ad (10 + q.toNat))), (2, .int (zI (n))), (1, .int (zI (q))), (0, .ref (ad 1))] [.ref hp49z]
        exact zr_aret X rfl (Or.inl ⟨_, rfl⟩) ⟨_, σ60, rfl, hS58, fx61, ⟨by omega, k, by omega, by omega, by omega, by omega, by rw [σ60e, hI3]⟩⟩ dX6_read_64
      · refine zr_aload X 40 1 dX6_read_38 rfl rfl ?_
        refine zr_aload_n X 41 2 dX6_read_40 rfl rfl ?_
        refine zr_callVe (kc' := 3002 - cap) (ks' := 6200 - 2 * cap) X 44 0 (k_read l Γ hI1 (i := q.toNat) (by omega) (by omega)) gX6_read_X5_readSign rfl (by decide +kernel) rfl (by decide) hw25.cl rfl rfl (Nat.le_of_ble_eq_true rfl) dX6_read_41 rfl (by omega) (by omega) (fun rv63 V64 hp65 => ?_)
        have rg69 := hI1.rng (i := q.toNat) (by omega) (k := σ1 (4 * q.toNat + 2)) (by omega)
        obtain ⟨hp65e, hS66, fx67, hp65z⟩ := hp65
        try rw [nq22] at hp65e
        try rw [nq22] at hS66
        try rw [nq22] at hp65z
        try rw [nq22] at rg69
        try rw [nq20] at hp65e
        try rw [nq20] at hS66
        try rw [nq20] at hp65z
        try rw [nq20] at rg69
        try rw [nq21] at hp65e
        try rw [nq21] at hS66
        try rw [nq21] at hp65z
        try rw [nq21] at rg69
        try rw [nq23] at hp65e
        try rw [nq23] at hS66
        try rw [nq23] at hp65z
        try rw [nq23] at rg69
        try rw [nq24] at hp65e
        try rw [nq24] at hS66
        try rw [nq24] at hp65z
        try rw [nq24] at rg69
        rw [hp65e]
        have hw68 := hp65z.1
        have hw68r := hw68.rg
        have hb70 := hI7.kept hp65z.2.1 (by omega)
        obtain ⟨σ71, σ71e⟩ : ∃ zz9 : Nat → Int, zz9 = zw4 σ1 q.toNat (σ (4 * q.toNat)) (σ (4 * q.toNat + 1)) (σ (4 * q.toNat + 2) + k + 1) (σ (4 * q.toNat + 3)) := ⟨_, rfl⟩
        rw [← σ71e] at hS66
        have fx72 := zag.tr hI2 fx67
        have hx73 : V64 (ad 1) = some (1, .inr (7, [.ref (ad 2), .ref (ad 20), .ref (ad 22), .ref (ad 24), .ref (ad 16), .ref (ad 31), .ref (ad 33), .ref (ad 35), .ref (ad 40), .ref (ad 45), .int (zI (σ71 30)), .int (zI (σ71 31)), .int (zI (σ71 32)), .int (zI (σ71 33))])) := hS66.1
        show zG C V64 (3002 - cap) (6200 - 2 * cap) 44 [(5, .int (zI (k))), (4, .ref q9), (3, .ref (ad (10 + q.toNat))), (2, .int (zI (n))), (1, .int (zI (q))), (0, .ref (ad 1))] [.int (zI (σ1 (zTp (σ (40 + q.toNat) + (σ (4 * q.toNat + 2) + k))))), .ref q9]
        refine zr_i2cI X 45 dX6_read_44 rfl (by omega) ?_
        have gr77r := hb70.rg
        obtain ⟨gr77p, gr77c, gr77k, gr77⟩ := zgrow1w k cap (by omega)
        refine zr_callVe (kc' := 3002 - cap - gr77c) (ks' := 6200 - 2 * cap - gr77k) X 48 1 (zsb_app_c l Γ hb70 (x := (σ1 (zTp (σ (40 + q.toNat) + (σ (4 * q.toNat + 2) + k))))) (by omega) gr77) gX6_read_J4_append_cf468 rfl (by decide +kernel) rfl (by decide) hb70.cl rfl rfl (Nat.le_of_ble_eq_true rfl) dX6_read_45 rfl (by omega) (by omega) (fun rv74 V75 hp76 => ?_)
        obtain ⟨hp76e, hp76b, hp76f⟩ := hp76
        rw [hp76e]
        have gr77s := hp76b.rg
        obtain ⟨hS78, fx79⟩ := hS66.fr hp76f
        have hw80 := hw68.kept hp76f.ag (by omega) (by omega)
        have fx81 := zag.tr fx72 fx79
        have hx82 : V75 (ad 1) = some (1, .inr (7, [.ref (ad 2), .ref (ad 20), .ref (ad 22), .ref (ad 24), .ref (ad 16), .ref (ad 31), .ref (ad 33), .ref (ad 35), .ref (ad 40), .ref (ad 45), .int (zI (σ71 30)), .int (zI (σ71 31)), .int (zI (σ71 32)), .int (zI (σ71 33))])) := hS78.1
        show zG C V75 (3002 - cap - gr77c) (6200 - 2 * cap - gr77k) 48 [(5, .int (zI (k))), (4, .ref q9), (3, .ref (ad (10 + q.toNat))), (2, .int (zI (n))), (1, .int (zI (q))), (0, .ref (ad 1))] [.ref q9]
        refine zr_pop X 49 dX6_read_48 rfl rfl ?_
        refine zr_iinc X 52 0 [(5, .int (zI (k + 1))), (4, .ref q9), (3, .ref (ad (10 + q.toNat))), (2, .int (zI (n))), (1, .int (zI (q))), (0, .ref (ad 1))] dX6_read_49 rfl rfl (by decide) rfl ?_
        refine zr_goto X 25 dX6_read_52 rfl ?_
        refine zr_room (3002 - gr77p) (6200 - 2 * gr77p) (by omega) (by omega) ?_
        exact ih _ (by omega) V75 σ71 (k + 1) gr77p ⟨hS78, fx81, by rw [σ71e, hI3, zw4_zw4, Int.add_assoc], by omega, by omega, by omega, hp76b, by omega, by omega⟩ rfl
  exact loop _ V12 σ 0 16 ⟨hS15, fx16, (by rw [Int.add_zero]; exact zw4_id.symm), by omega, by omega, by omega, hp13b, by omega, by omega⟩ rfl
set_option maxRecDepth 100000 in
set_option maxHeartbeats 4000000 in
theorem m_X6_letIn (l : Launch) (Γ : zGam) {V : zV} {ad : Nat → Nat} {σ : Nat → Int} {o r to tr : Nat} {m fr mo : Int} {h' : Int → Int} {e e' : va_E} (hS : zS Γ V ad σ) (tT : zTx Γ V o r m h') (tto : V o = some (to, e)) (tq : V r = some (tr, e')) (tc : ¬ (24 ≤ to ∧ to ≤ 30) ∧ ¬ (24 ≤ tr ∧ tr ≤ 30)) (hfr : 0 ≤ fr ∧ fr ≤ 1000) (hmo : 0 ≤ mo ∧ mo ≤ 8) : zM l Γ 6 yX6_letIn wsX6_letIn 0 0 V [.ref (ad 1), .ref o, .int (zI (fr)), .int (zI (mo))] (fun rv V' => ∃ (k : Int) (σ' : Nat → Int), rv = some (.int (zI k)) ∧ zS Γ V' ad σ' ∧ zfx V V' ∧ zag (fun t => ¬ (24 ≤ t ∧ t ≤ 30)) V V' ∧ 0 ≤ k ∧ k ≤ mo ∧ (k = 0 ∨ fr + k ≤ m) ∧ (k = mo ∨ m ≤ fr + k ∨ σ 27 + k = σ 26 ∨ σ 28 + k = 160) ∧ σ' = zpi σ (σ 26) (σ 27 + k) (σ 28 + k) (σ 29)) := by
  have w0 : Cond.fieldLink RX6 30 "Sashwords" "line" "LSashwords$Pipe;" ∈ wsX6_letIn := by decide +kernel
  have iX6 : ∀ w ∈ u_ws RX6 TX6 14, w ∈ wsX6_letIn := by decide +kernel
  refine zM_of (cc := cX6_letIn) (nL := 5) (ret := (some .int)) (own := RX6) (by decide +kernel) rfl rfl (Nat.le_of_ble_eq_true rfl) (fun C X hi0 => ?_)
  have hx1 : V (ad 1) = some (1, .inr (7, [.ref (ad 2), .ref (ad 20), .ref (ad 22), .ref (ad 24), .ref (ad 16), .ref (ad 31), .ref (ad 33), .ref (ad 35), .ref (ad 40), .ref (ad 45), .int (zI (σ 30)), .int (zI (σ 31)), .int (zI (σ 32)), .int (zI (σ 33))])) := hS.1
  have tg := tT.rg
  show zG C V 0 0 0 [(0, .ref (ad 1)), (1, .ref o), (2, .int (zI (fr))), (3, .int (zI (mo)))] []
  refine zr_iconst X 1 dX6_letIn_0 rfl ?_
  refine zr_istore X 3 [(4, .int (zI (0))), (0, .ref (ad 1)), (1, .ref o), (2, .int (zI (fr))), (3, .int (zI (mo)))] dX6_letIn_1 rfl (by decide) rfl ?_
  refine zr_sub [0, 4, 3, 2, 1] [(4, .int (zI (0))), (3, .int (zI (mo))), (2, .int (zI (fr))), (1, .ref o), (0, .ref (ad 1))] rfl ?_
  have loop : ∀ (N : Nat) (V1 : zV) (σ1 : Nat → Int) (k : Int), zS Γ V1 ad σ1 ∧ zfx V V1 ∧ σ1 = zpi σ (σ 26) (σ 27 + k) (σ 28 + k) (σ 29) ∧ 0 ≤ k ∧ k ≤ mo ∧ (k = 0 ∨ fr + k ≤ m) ∧ k ≤ 8 ∧ zag (fun t => ¬ (24 ≤ t ∧ t ≤ 30)) V V1 → (mo - k).toNat = N → zG C V1 0 0 3 [(4, .int (zI (k))), (3, .int (zI (mo))), (2, .int (zI (fr))), (1, .ref o), (0, .ref (ad 1))] [] := by
    intro N
    induction N using Nat.strongRecOn with
    | _ N ih =>
    intro V1 σ1 k hI hN
    obtain ⟨hI1, hI2, hI3, hI4, hI5, hI6, hI7, hI8⟩ := id hI
    have hx2 : V1 (ad 1) = some (1, .inr (7, [.ref (ad 2), .ref (ad 20), .ref (ad 22), .ref (ad 24), .ref (ad 16), .ref (ad 31), .ref (ad 33), .ref (ad 35), .ref (ad 40), .ref (ad 45), .int (zI (σ1 30)), .int (zI (σ1 31)), .int (zI (σ1 32)), .int (zI (σ1 33))])) := hI1.1
    have e26 : σ1 26 = σ 26 := by rw [hI3]; rfl
    have e27 : σ1 27 = σ 27 + k := by rw [hI3]; rfl
    have e28 : σ1 28 = σ 28 + k := by rw [hI3]; rfl
    have e29 : σ1 29 = σ 29 := by rw [hI3]; rfl
    have hpr := hI1.prg
    have hT1 := tT.kept ((hI8 _ _ _ tto (by omega)).trans tto.symm) ((hI8 _ _ _ tq (by omega)).trans tq.symm)
    refine zr_iload X 5 0 dX6_letIn_3 rfl rfl ?_
    refine zr_iload_n X 6 1 dX6_letIn_5 rfl rfl ?_
    refine zr_icmp_ge X 44 9 dX6_letIn_6 rfl rfl (by omega) (by omega) (fun bq3 => ?_) (fun bq3 => ?_)
    · refine zr_iload X 46 0 dX6_letIn_44 rfl rfl ?_
      exact zr_iret X rfl ⟨k, σ1, rfl, hI1, hI2, hI8, hI4, hI5, hI6, by omega, hI3⟩ dX6_letIn_46
    · refine zr_iload_n X 10 2 dX6_letIn_9 rfl rfl ?_
      refine zr_iload X 12 0 dX6_letIn_10 rfl rfl ?_
      refine zr_iadd X 13 dX6_letIn_12 rfl ?_
      refine zr_aload_n X 14 3 dX6_letIn_13 rfl rfl ?_
      refine zr_txSize X 17 hT1 gX6_letIn_X5_size_u165X5 gX6_letIn_X2_size_u165X2 (by decide) (Nat.le_of_ble_eq_true rfl) dX6_letIn_14 rfl ?_
      refine zr_icmp_ge X 44 20 dX6_letIn_17 rfl rfl (by omega) (by omega) (fun bq4 => ?_) (fun bq4 => ?_)
      · refine zr_iload X 46 0 dX6_letIn_44 rfl rfl ?_
        exact zr_iret X rfl ⟨k, σ1, rfl, hI1, hI2, hI8, hI4, hI5, hI6, by omega, hI3⟩ dX6_letIn_46
      · refine zr_aload_n X 21 4 dX6_letIn_20 rfl rfl ?_
        refine zr_get X 24 7 3 hx2 rfl iX6 (by decide) w0 rfl rfl dX6_letIn_21 rfl ?_
        refine zr_aload_n X 25 3 dX6_letIn_24 rfl rfl ?_
        refine zr_iload_n X 26 2 dX6_letIn_25 rfl rfl ?_
        refine zr_iload X 28 0 dX6_letIn_26 rfl rfl ?_
        refine zr_iadd X 29 dX6_letIn_28 rfl ?_
        refine zr_txAt X 32 hT1 (by omega) gX6_letIn_X5_at_u334X5 gX6_letIn_X2_at_u334X2 (by decide) (Nat.le_of_ble_eq_true rfl) dX6_letIn_29 rfl ?_
        rw [if_pos (show 0 ≤ (fr + k) ∧ (fr + k) < m by omega)]
        have hx5 := tg.2.2 (fr + k)
        show zG C V1 0 0 32 [(4, .int (zI (k))), (3, .int (zI (mo))), (2, .int (zI (fr))), (1, .ref o), (0, .ref (ad 1))] [.int (zI (h' (fr + k))), .ref (ad 24)]
        have pr7 := hI1.prg
        by_cases ty6 : σ1 27 < σ1 26 ∧ σ1 28 < 160
        · skip
          refine zr_callVe (kc' := 0) (ks' := 0) X 35 1 (h_takeIn_y l Γ hI1 (x := h' (fr + k)) (by omega) ty6) gX6_letIn_X1_takeIn rfl (by decide +kernel) rfl (by decide) hI1.pcl rfl rfl (Nat.le_of_ble_eq_true rfl) dX6_letIn_32 rfl (by omega) (by omega) (fun rv8 V9 hp10 => ?_)
          obtain ⟨hp10e, hp10s, hp10x, hp10g⟩ := hp10
          rw [hp10e]
          obtain ⟨σ11, σ11e⟩ : ∃ zz9 : Nat → Int, zz9 = zpi σ1 (σ1 26) (σ1 27 + 1) (σ1 28 + 1) (σ1 29) := ⟨_, rfl⟩
          rw [← σ11e] at hp10s
          have fx12 := zag.tr hI2 hp10x
          have hx13 : V9 (ad 1) = some (1, .inr (7, [.ref (ad 2), .ref (ad 20), .ref (ad 22), .ref (ad 24), .ref (ad 16), .ref (ad 31), .ref (ad 33), .ref (ad 35), .ref (ad 40), .ref (ad 45), .int (zI (σ11 30)), .int (zI (σ11 31)), .int (zI (σ11 32)), .int (zI (σ11 33))])) := hp10s.1
          show zG C V9 0 0 35 [(4, .int (zI (k))), (3, .int (zI (mo))), (2, .int (zI (fr))), (1, .ref o), (0, .ref (ad 1))] [.int (zI (1))]
          refine zr_if_eq X 44 38 dX6_letIn_35 rfl rfl (by omega) (fun bq14 => absurd bq14 (by omega)) (fun bq14 => ?_)
          refine zr_iinc X 41 0 [(4, .int (zI (k + 1))), (3, .int (zI (mo))), (2, .int (zI (fr))), (1, .ref o), (0, .ref (ad 1))] dX6_letIn_38 rfl rfl (by decide) rfl ?_
          refine zr_goto X 3 dX6_letIn_41 rfl ?_
          exact ih _ (by omega) V9 σ11 (k + 1) ⟨hp10s, fx12, by rw [σ11e, e26, e27, e28, e29, hI3, zpi_zpi, Int.add_assoc, Int.add_assoc], by omega, by omega, by omega, by omega, zag.tr hI8 hp10g⟩ rfl
        · skip
          refine zr_callVe (kc' := 0) (ks' := 0) X 35 1 (h_takeIn_n l Γ hI1 (x := h' (fr + k)) ty6) gX6_letIn_X1_takeIn rfl (by decide +kernel) rfl (by decide) hI1.pcl rfl rfl (Nat.le_of_ble_eq_true rfl) dX6_letIn_32 rfl (by omega) (by omega) (fun rv15 V16 hp17 => ?_)
          rw [hp17.1, hp17.2]
          show zG C V1 0 0 35 [(4, .int (zI (k))), (3, .int (zI (mo))), (2, .int (zI (fr))), (1, .ref o), (0, .ref (ad 1))] [.int (zI (0))]
          refine zr_if_eq X 44 38 dX6_letIn_35 rfl rfl (by omega) (fun bq18 => ?_) (fun bq18 => absurd bq18 (by omega))
          refine zr_iload X 46 0 dX6_letIn_44 rfl rfl ?_
          exact zr_iret X rfl ⟨k, σ1, rfl, hI1, hI2, hI8, hI4, hI5, hI6, by omega, hI3⟩ dX6_letIn_46
  exact loop _ V σ 0 ⟨hS, zag.rf, by rw [Int.add_zero, Int.add_zero, zpi_id], by omega, by omega, by omega, by omega, zag.rf⟩ rfl
/-- the pump by its numbers: what is held, sent, come, and the rounds -/
def zpm (a b w sz : Int) : Nat → Int → Int → Int → Int → Int → Int × Int × Int × Int
  | 0, _, hd, sn, cm, rd => (hd, sn, cm, rd)
  | n + 1, nx, hd, sn, cm, rd => if sz ≤ nx ∧ hd = 0 then (hd, sn, cm, rd) else zpm a b w sz n (nx + min a (min (sz - nx) (w - hd))) (hd + min a (min (sz - nx) (w - hd)) - min b (hd + min a (min (sz - nx) (w - hd)))) (sn + min a (min (sz - nx) (w - hd))) (cm + min b (hd + min a (min (sz - nx) (w - hd)))) (rd + 1)
theorem zpm_fin {a b w sz : Int} {n : Nat} {nx hd sn cm rd : Int} (h : n = 0 ∨ (sz ≤ nx ∧ hd = 0)) : zpm a b w sz n nx hd sn cm rd = (hd, sn, cm, rd) := by
  cases n with
  | zero => rfl
  | succ n =>
    have h : sz ≤ nx ∧ hd = 0 := h.resolve_left (by omega)
    unfold zpm
    rw [if_pos h]
theorem zpm_step {a b w sz : Int} {n n' : Nat} {nx hd sn cm rd nx' hd' sn' cm' rd' : Int} (m o : Int) (hn : n = n' + 1) (h : ¬ (sz ≤ nx ∧ hd = 0)) (hm : m = min a (min (sz - nx) (w - hd))) (ho : o = min b (hd + m)) (h1 : nx' = nx + m) (h2 : hd' = hd + m - o) (h3 : sn' = sn + m) (h4 : cm' = cm + o) (h5 : rd' = rd + 1) : zpm a b w sz n nx hd sn cm rd = zpm a b w sz n' nx' hd' sn' cm' rd' := by
  subst hn
  rw [zpm, if_neg h, ← hm, ← ho, h1, h2, h3, h4, h5]
def zcap (cap : Nat) : Prop := cap = 16 ∨ cap = 34 ∨ cap = 70 ∨ cap = 142 ∨ cap = 286 ∨ cap = 574 ∨ cap = 1150
theorem zcap.rg {cap : Nat} (h : zcap cap) : 16 ≤ cap ∧ cap ≤ 1150 := by
  unfold zcap at h
  omega
theorem zcap.step {cap capm : Nat} {cnt k : Int} (h : zcap cap) (hg : (cnt + k ≤ cap ∧ capm = cap) ∨ ((cap : Int) < cnt + k ∧ capm = 2 * cap + 2)) (hc : cnt + k ≤ 704) : zcap capm := by
  unfold zcap at h ⊢
  omega
theorem zx4_33 {σ : Nat → Int} {x : Int} {j : Nat} (h : j ≠ 33) : zx4 σ (σ 30) (σ 31) (σ 32) x j = σ j := by
  unfold zx4
  by_cases h0 : j = 30
  · rw [if_pos h0, h0]
  · by_cases h1 : j = 31
    · rw [if_neg h0, if_pos h1, h1]
    · by_cases h2 : j = 32
      · rw [if_neg h0, if_neg h1, if_pos h2, h2]
      · rw [if_neg h0, if_neg h1, if_neg h2, if_neg h]
theorem zdn_ne {σ : Nat → Int} {j : Nat} (h : j ≠ 30) : zdn σ j = σ j := by
  unfold zdn zx4
  by_cases h1 : j = 31
  · rw [if_neg h, if_pos h1, h1]
  · by_cases h2 : j = 32
    · rw [if_neg h, if_neg h1, if_pos h2, h2]
    · by_cases h3 : j = 33
      · rw [if_neg h, if_neg h1, if_neg h2, if_pos h3, h3]
      · rw [if_neg h, if_neg h1, if_neg h2, if_neg h3]
set_option maxRecDepth 100000 in
set_option maxHeartbeats 4000000 in
theorem m_X6_pump (l : Launch) (hlt : l.stackTraces = false) (Γ : zGam) {V : zV} {ad : Nat → Nat} {σ : Nat → Int} {q a b : Int} (hS : zS Γ V ad σ) (hq : -2147483648 ≤ q ∧ q ≤ 2147483647) (ha : -2147483648 ≤ a ∧ a ≤ 2147483647) (hb : -2147483648 ≤ b ∧ b ≤ 2147483647) : zN l Γ 11 yX6_pump wsX6_pump 3010 6300 V [.ref (ad 1), .int (zI (q)), .int (zI (a)), .int (zI (b))] (fun rv V' => ∃ (z : Nat) (σ' : Nat → Int), rv = some (.ref z) ∧ zS Γ V' ad σ' ∧ zfx V V' ∧ ((0 ≤ q ∧ q ≤ 7 ∧ 1 ≤ a ∧ a ≤ 8 ∧ 1 ≤ b ∧ b ≤ 8) ∧ σ 28 + zsz σ q ≤ 160 ∧ (∀ j, ¬ (26 ≤ j ∧ j ≤ 29) → j ≠ 30 → j ≠ 33 → σ' j = σ j) ∧ σ' 26 = σ 26 ∧ σ' 30 = σ 30 + 1 ∧ (σ' 27, σ' 28, σ' 29, σ' 33) = zpm a b (σ 26) (zsz σ q) (zsz σ q + σ 27).toNat 0 (σ 27) (σ 28) (σ 29) (σ 33))) (fun E V' => V' = V ∧ ((E = zIO ∧ ¬ (0 ≤ q ∧ q ≤ 7)) ∨ (E = zIA ∧ (0 ≤ q ∧ q ≤ 7) ∧ ¬ (1 ≤ a ∧ a ≤ 8 ∧ 1 ≤ b ∧ b ≤ 8)) ∨ (E = zIS ∧ (0 ≤ q ∧ q ≤ 7 ∧ 1 ≤ a ∧ a ≤ 8 ∧ 1 ≤ b ∧ b ≤ 8) ∧ ¬ (σ 28 + zsz σ q ≤ 160)))) := by
  have hpr9 := hS.prg
  have w0 : Cond.fieldLink RX6 30 "Sashwords" "line" "LSashwords$Pipe;" ∈ wsX6_pump := by decide +kernel
  have iX6 : ∀ w ∈ u_ws RX6 TX6 14, w ∈ wsX6_pump := by decide +kernel
  have iX1 : ∀ w ∈ u_ws RX1 TX1 4, w ∈ wsX6_pump := by decide +kernel
  have w3 : Cond.classLink RX6 113 RJ4 ∈ wsX6_pump := by decide +kernel
  have w4 : Cond.instantiable RJ4 4 ∈ wsX6_pump := by decide +kernel
  have w5 : Cond.initialized RJ4 ∈ wsX6_pump := by decide +kernel
  have iJ4 : ∀ w ∈ u_ws RJ4 TJ4 4, w ∈ wsX6_pump := by decide +kernel
  have w7 : Cond.initialized yJ4_init_da8c8.cls ∈ wsX6_pump := by decide +kernel
  have w8 : Cond.methodLink RX6 115 yJ4_init_da8c8 ∈ wsX6_pump := by decide +kernel
  have w9 : Cond.instanceMethod yJ4_init_da8c8 ∈ wsX6_pump := by decide +kernel
  have w10 : Cond.fieldLink RX6 203 "Sashwords" "rounds" "I" ∈ wsX6_pump := by decide +kernel
  refine zN_of (cc := cX6_pump) (nL := 8) (ret := (some (.object "java/lang/String"))) (own := RX6) hlt (by decide +kernel) rfl rfl (Nat.le_of_ble_eq_true rfl) (fun C X Y => ?_)
  have hx1 : V (ad 1) = some (1, .inr (7, [.ref (ad 2), .ref (ad 20), .ref (ad 22), .ref (ad 24), .ref (ad 16), .ref (ad 31), .ref (ad 33), .ref (ad 35), .ref (ad 40), .ref (ad 45), .int (zI (σ 30)), .int (zI (σ 31)), .int (zI (σ 32)), .int (zI (σ 33))])) := hS.1
  show zG C V 3010 6300 0 [(0, .ref (ad 1)), (1, .int (zI (q))), (2, .int (zI (a))), (3, .int (zI (b)))] []
  refine zr_aload_n X 1 0 dX6_pump_0 rfl rfl ?_
  refine zr_iload_n X 2 1 dX6_pump_1 rfl rfl ?_
  refine zr_callVN (kc' := 3010 - 1) (ks' := 6300 - 6) X Y 5 1 (m_X6_sourceOf l hlt Γ hS (q := q) (by omega)) gX6_pump_X6_sourceOf rfl (by decide +kernel) rfl (by decide) hx1 rfl rfl (Nat.le_of_ble_eq_true rfl) dX6_pump_2 rfl (by omega) (by omega) (fun E W hX => ⟨hX.2.2, Or.inl ⟨hX.1, by have := hX.2.1; omega⟩⟩) (fun rv2 V3 hp4 => ?_)
  obtain ⟨hp4a, hp4b, hp4c⟩ := hp4
  rw [hp4b, hp4c]
  obtain ⟨t5r, t5to, t5tr, t5e, t5e2, t5h, t5T, t5o, t5q, t5c, t5a, t5b, t5z⟩ := hS.txt (q := q) (by omega)
  have t5g := t5T.rg
  show zG C V (3010 - 1) (6300 - 6) 5 [(0, .ref (ad 1)), (1, .int (zI (q))), (2, .int (zI (a))), (3, .int (zI (b)))] [.ref (zso ad q)]
  refine zr_astore X 7 [(4, .ref (zso ad q)), (0, .ref (ad 1)), (1, .int (zI (q))), (2, .int (zI (a))), (3, .int (zI (b)))] dX6_pump_5 rfl (by decide) rfl ?_
  refine zr_iload_n X 8 3 dX6_pump_7 rfl rfl ?_
  refine zr_iconst X 9 dX6_pump_8 rfl ?_
  refine zr_bipush X 11 (8) dX6_pump_9 rfl (by decide) ?_
  refine zr_callSN (kc' := (3010 - 1) - 1) (ks' := (6300 - 6) - 6) X Y 14 3 (m_X6_requireWithin l hlt Γ (V := V) (x := a) (a := 1) (b := 8) (by omega) (by omega) (by omega)) gX6_pump_X6_requireWithin rfl (by decide +kernel) rfl (by decide) rfl (Nat.le_of_ble_eq_true rfl) dX6_pump_11 rfl (by omega) (by omega) (fun E W hX => ⟨hX.2.2, Or.inr (Or.inl ⟨hX.1, by have := hX.2.1; omega⟩)⟩) (fun rv6 V7 hp8 => ?_)
  obtain ⟨hp8a, hp8b, hp8c⟩ := hp8
  rw [hp8b, hp8c]
  show zG C V ((3010 - 1) - 1) ((6300 - 6) - 6) 14 [(4, .ref (zso ad q)), (0, .ref (ad 1)), (1, .int (zI (q))), (2, .int (zI (a))), (3, .int (zI (b)))] []
  refine zr_iload_n X 15 4 dX6_pump_14 rfl rfl ?_
  refine zr_iconst X 16 dX6_pump_15 rfl ?_
  refine zr_bipush X 18 (8) dX6_pump_16 rfl (by decide) ?_
  refine zr_callSN (kc' := ((3010 - 1) - 1) - 1) (ks' := ((6300 - 6) - 6) - 6) X Y 21 3 (m_X6_requireWithin l hlt Γ (V := V) (x := b) (a := 1) (b := 8) (by omega) (by omega) (by omega)) gX6_pump_X6_requireWithin rfl (by decide +kernel) rfl (by decide) rfl (Nat.le_of_ble_eq_true rfl) dX6_pump_18 rfl (by omega) (by omega) (fun E W hX => ⟨hX.2.2, Or.inr (Or.inl ⟨hX.1, by have := hX.2.1; omega⟩)⟩) (fun rv9 V10 hp11 => ?_)
  obtain ⟨hp11a, hp11b, hp11c⟩ := hp11
  rw [hp11b, hp11c]
  show zG C V (((3010 - 1) - 1) - 1) (((6300 - 6) - 6) - 6) 21 [(4, .ref (zso ad q)), (0, .ref (ad 1)), (1, .int (zI (q))), (2, .int (zI (a))), (3, .int (zI (b)))] []
  refine zr_aload_n X 22 1 dX6_pump_21 rfl rfl ?_
  refine zr_get X 25 7 3 hx1 rfl iX6 (by decide) w0 rfl rfl dX6_pump_22 rfl ?_
  refine zr_getN X 28 3 1 1 hS.2.2.2.2.2.1.1 rfl iX1 (by decide) rfl rfl rfl dX6_pump_25 rfl ?_
  refine zr_callVe (kc' := (((3010 - 1) - 1) - 1)) (ks' := (((6300 - 6) - 6) - 6)) X 31 0 (f_size l Γ hS.2.2.2.2.2.1.2.2.1) gX6_pump_X2_size rfl (by decide +kernel) rfl (by decide) hS.2.2.2.2.2.1.2.2.1.cl rfl rfl (Nat.le_of_ble_eq_true rfl) dX6_pump_28 rfl (by omega) (by omega) (fun rv12 V13 hp14 => ?_)
  rw [hp14.1, hp14.2]
  have hp14r := hS.2.2.2.2.2.1.2.2.1.rg
  show zG C V (((3010 - 1) - 1) - 1) (((6300 - 6) - 6) - 6) 31 [(4, .ref (zso ad q)), (0, .ref (ad 1)), (1, .int (zI (q))), (2, .int (zI (a))), (3, .int (zI (b)))] [.int (zI (σ 28))]
  refine zr_aload X 33 0 dX6_pump_31 rfl rfl ?_
  refine zr_txSize X 36 t5T gX6_pump_X5_size_u165X5 gX6_pump_X2_size_u165X2 (by decide) (Nat.le_of_ble_eq_true rfl) dX6_pump_33 rfl ?_
  refine zr_iadd X 37 dX6_pump_36 rfl ?_
  refine zr_sipush X 40 (160) dX6_pump_37 rfl (by decide) ?_
  refine zr_callSN (kc' := (((3010 - 1) - 1) - 1) - 1) (ks' := (((6300 - 6) - 6) - 6) - 6) X Y 43 2 (m_X6_requireRoom l hlt Γ (V := V) (x := (σ 28) + (zsz σ q)) (b := 160) (by omega) (by omega)) gX6_pump_X6_requireRoom rfl (by decide +kernel) rfl (by decide) rfl (Nat.le_of_ble_eq_true rfl) dX6_pump_40 rfl (by omega) (by omega) (fun E W hX => ⟨hX.2.2, Or.inr (Or.inr ⟨hX.1, by have := hX.2.1; omega⟩)⟩) (fun rv15 V16 hp17 => ?_)
  obtain ⟨hp17a, hp17b, hp17c⟩ := hp17
  rw [hp17b, hp17c]
  have hroom := hp17a
  show zG C V ((((3010 - 1) - 1) - 1) - 1) ((((6300 - 6) - 6) - 6) - 6) 43 [(4, .ref (zso ad q)), (0, .ref (ad 1)), (1, .int (zI (q))), (2, .int (zI (a))), (3, .int (zI (b)))] []
  refine zr_new (kc' := (((((3010 - 1) - 1) - 1) - 1) - 1)) (ks' := (((((6300 - 6) - 6) - 6) - 6) - 4)) X 46 1 7 [.null, .int (zI (0)), .int (zI (0)), .int (zI (0))] tyJ4 rfl iJ4 tyJ4_ok w3 w4 w5 (zdf_J4) dX6_pump_43 rfl (by omega) (by omega) (fun q18 hq19 => ?_)
  refine zr_dup X 47 dX6_pump_46 rfl rfl ?_
  refine zr_callI (kc' := (((((3010 - 1) - 1) - 1) - 1) - 1) - 1) (ks' := (((((6300 - 6) - 6) - 6) - 6) - 4) - 16) X 50 0 (m_J4_init_da8c8 l Γ (zu_eq _ _ _ _)) gX6_pump_J4_init_da8c8 rfl w7 w8 w9 rfl (by decide +kernel) rfl (by decide) rfl (Nat.le_of_ble_eq_true rfl) dX6_pump_47 rfl (by omega) (by omega) (fun rv20 V21 hp22 => ?_)
  obtain ⟨hp22e, hp22b, hp22f⟩ := hp22
  rw [hp22e]
  have ff23 : zfr V V21 := zag.tr (P := fun t => t ≠ 7) (zag.rf.new hq19) hp22f
  obtain ⟨hS24, fx25⟩ := hS.fr ff23
  have hx26 : V21 (ad 1) = some (1, .inr (7, [.ref (ad 2), .ref (ad 20), .ref (ad 22), .ref (ad 24), .ref (ad 16), .ref (ad 31), .ref (ad 33), .ref (ad 35), .ref (ad 40), .ref (ad 45), .int (zI (σ 30)), .int (zI (σ 31)), .int (zI (σ 32)), .int (zI (σ 33))])) := hS24.1
  show zG C V21 ((((((3010 - 1) - 1) - 1) - 1) - 1) - 1) ((((((6300 - 6) - 6) - 6) - 6) - 4) - 16) 50 [(4, .ref (zso ad q)), (0, .ref (ad 1)), (1, .int (zI (q))), (2, .int (zI (a))), (3, .int (zI (b)))] [.ref q18]
  refine zr_astore X 52 [(5, .ref q18), (4, .ref (zso ad q)), (0, .ref (ad 1)), (1, .int (zI (q))), (2, .int (zI (a))), (3, .int (zI (b)))] dX6_pump_50 rfl (by decide) rfl ?_
  refine zr_iconst X 53 dX6_pump_52 rfl ?_
  refine zr_istore X 55 [(6, .int (zI (0))), (5, .ref q18), (4, .ref (zso ad q)), (0, .ref (ad 1)), (1, .int (zI (q))), (2, .int (zI (a))), (3, .int (zI (b)))] dX6_pump_53 rfl (by decide) rfl ?_
  refine zr_aload X 57 2 dX6_pump_55 rfl rfl ?_
  obtain ⟨t28r, t28to, t28tr, t28e, t28e2, t28h, t28T, t28o, t28q, t28c, t28a, t28b, t28z⟩ := hS24.txt (q := q) (by omega)
  have t28g := t28T.rg
  refine zr_txSize X 60 t28T gX6_pump_X5_size_u165X5 gX6_pump_X2_size_u165X2 (by decide) (Nat.le_of_ble_eq_true rfl) dX6_pump_57 rfl ?_
  refine zr_aload_n X 61 3 dX6_pump_60 rfl rfl ?_
  refine zr_get X 64 7 3 hx26 rfl iX6 (by decide) w0 rfl rfl dX6_pump_61 rfl ?_
  refine zr_getN X 67 3 0 0 hS24.2.2.2.2.2.1.1 rfl iX1 (by decide) rfl rfl rfl dX6_pump_64 rfl ?_
  refine zr_callVe (kc' := ((((((3010 - 1) - 1) - 1) - 1) - 1) - 1)) (ks' := ((((((6300 - 6) - 6) - 6) - 6) - 4) - 16)) X 70 0 (f_size l Γ hS24.2.2.2.2.2.1.2.1) gX6_pump_X2_size rfl (by decide +kernel) rfl (by decide) hS24.2.2.2.2.2.1.2.1.cl rfl rfl (Nat.le_of_ble_eq_true rfl) dX6_pump_67 rfl (by omega) (by omega) (fun rv29 V30 hp31 => ?_)
  rw [hp31.1, hp31.2]
  have hp31r := hS24.2.2.2.2.2.1.2.1.rg
  show zG C V21 ((((((3010 - 1) - 1) - 1) - 1) - 1) - 1) ((((((6300 - 6) - 6) - 6) - 6) - 4) - 16) 70 [(6, .int (zI (0))), (5, .ref q18), (4, .ref (zso ad q)), (0, .ref (ad 1)), (1, .int (zI (q))), (2, .int (zI (a))), (3, .int (zI (b)))] [.int (zI (σ 27)), .int (zI (zsz σ q))]
  refine zr_iadd X 71 dX6_pump_70 rfl ?_
  refine zr_istore X 73 [(7, .int (zI ((zsz σ q) + (σ 27)))), (6, .int (zI (0))), (5, .ref q18), (4, .ref (zso ad q)), (0, .ref (ad 1)), (1, .int (zI (q))), (2, .int (zI (a))), (3, .int (zI (b)))] dX6_pump_71 rfl (by decide) rfl ?_
  refine zr_room (3002 - 16) (6200 - 2 * 16) (by omega) (by omega) ?_
  have hpr0 := hS24.prg
  refine zr_sub [0, 1, 2, 3, 7, 6, 5, 4] [(7, .int (zI ((zsz σ q) + (σ 27)))), (6, .int (zI (0))), (5, .ref q18), (4, .ref (zso ad q)), (3, .int (zI (b))), (2, .int (zI (a))), (1, .int (zI (q))), (0, .ref (ad 1))] rfl ?_
  have loop : ∀ (N : Nat) (V1 : zV) (σ1 : Nat → Int) (nx : Int) (tc : Int) (cnt : Int) (cap : Nat), zS Γ V1 ad σ1 ∧ zfx V V1 ∧ zSB Γ V1 q18 cnt cap ∧ (∀ j, ¬ (26 ≤ j ∧ j ≤ 29) → j ≠ 33 → σ1 j = σ j) ∧ σ1 26 = σ 26 ∧ 0 ≤ nx ∧ nx ≤ zsz σ q ∧ 0 ≤ tc ∧ tc ≤ 88 ∧ 0 ≤ cnt ∧ cnt + 8 * tc ≤ 704 ∧ zcap cap ∧ zpm a b (σ 26) (zsz σ q) tc.toNat nx (σ1 27) (σ1 28) (σ1 29) (σ1 33) = zpm a b (σ 26) (zsz σ q) (zsz σ q + σ 27).toNat 0 (σ 27) (σ 28) (σ 29) (σ 33) ∧ σ1 28 + (zsz σ q - nx) ≤ 160 → tc.toNat = N → zG C V1 (3002 - cap) (6200 - 2 * cap) 73 [(7, .int (zI (tc))), (6, .int (zI (nx))), (5, .ref q18), (4, .ref (zso ad q)), (3, .int (zI (b))), (2, .int (zI (a))), (1, .int (zI (q))), (0, .ref (ad 1))] [] := by
    intro N
    induction N using Nat.strongRecOn with
    | _ N ih =>
    intro V1 σ1 nx tc cnt cap hI hN
    obtain ⟨hI1, hI2, hI3, hI4, hI5, hI6, hI7, hI8, hI9, hI10, hI11, hI12, hI13, hI14⟩ := id hI
    have hx32 : V1 (ad 1) = some (1, .inr (7, [.ref (ad 2), .ref (ad 20), .ref (ad 22), .ref (ad 24), .ref (ad 16), .ref (ad 31), .ref (ad 33), .ref (ad 35), .ref (ad 40), .ref (ad 45), .int (zI (σ1 30)), .int (zI (σ1 31)), .int (zI (σ1 32)), .int (zI (σ1 33))])) := hI1.1
    have hpr := hI1.prg
    have hcr := hI12.rg
    have hz1 : zsz σ1 q = zsz σ q := zsz_of (fun j hj => hI4 j (by omega) (by omega)) (by omega)
    refine zr_iload X 75 0 dX6_pump_73 rfl rfl ?_
    refine zr_if_le X 141 78 dX6_pump_75 rfl rfl (by omega) (fun bq33 => ?_) (fun bq33 => ?_)
    · refine zr_aload_n X 142 7 dX6_pump_141 rfl rfl ?_
      refine zr_aload X 144 2 dX6_pump_142 rfl rfl ?_
      have hp36r := hI3.rg
      refine zr_callVe (kc' := 3002 - cap - 2) (ks' := 6200 - 2 * cap - ((cnt).toNat + 4)) X 147 0 (zsb_str l Γ hI3) gX6_pump_J4_toString_0e30d rfl (by decide +kernel) rfl (by decide) hI3.cl rfl rfl (Nat.le_of_ble_eq_true rfl) dX6_pump_144 rfl (by omega) (by omega) (fun rv34 V35 hp36 => ?_)
      obtain ⟨hp36z, hp36e, hp36n, hp36f⟩ := hp36
      rw [hp36e]
      obtain ⟨hS37, fx38⟩ := hI1.fr hp36f
      have fx39 := zag.tr hI2 fx38
      have hx40 : V35 (ad 1) = some (1, .inr (7, [.ref (ad 2), .ref (ad 20), .ref (ad 22), .ref (ad 24), .ref (ad 16), .ref (ad 31), .ref (ad 33), .ref (ad 35), .ref (ad 40), .ref (ad 45), .int (zI (σ1 30)), .int (zI (σ1 31)), .int (zI (σ1 32)), .int (zI (σ1 33))])) := hS37.1
      show zG C V35 (3002 - cap - 2) (6200 - 2 * cap - ((cnt).toNat + 4)) 147 [(7, .int (zI (tc))), (6, .int (zI (nx))), (5, .ref q18), (4, .ref (zso ad q)), (3, .int (zI (b))), (2, .int (zI (a))), (1, .int (zI (q))), (0, .ref (ad 1))] [.ref hp36z, .ref (ad 1)]
      refine zr_callVe (kc' := (3002 - cap - 2)) (ks' := (6200 - 2 * cap - ((cnt).toNat + 4))) X 150 1 (m_X6_done_ l Γ (y := hp36z) hS37) gX6_pump_X6_done_ rfl (by decide +kernel) rfl (by decide) hS37.x rfl rfl (Nat.le_of_ble_eq_true rfl) dX6_pump_147 rfl (by omega) (by omega) (fun rv41 V42 hp43 => ?_)
      obtain ⟨hp43e, hS44, fx45⟩ := hp43
      rw [hp43e]
      obtain ⟨σ46, σ46e⟩ : ∃ zz9 : Nat → Int, zz9 = zdn σ1 := ⟨_, rfl⟩
      rw [← σ46e] at hS44
      have fx47 := zag.tr fx39 fx45
      have hx48 : V42 (ad 1) = some (1, .inr (7, [.ref (ad 2), .ref (ad 20), .ref (ad 22), .ref (ad 24), .ref (ad 16), .ref (ad 31), .ref (ad 33), .ref (ad 35), .ref (ad 40), .ref (ad 45), .int (zI (σ46 30)), .int (zI (σ46 31)), .int (zI (σ46 32)), .int (zI (σ46 33))])) := hS44.1
      show zG C V42 (3002 - cap - 2) (6200 - 2 * cap - ((cnt).toNat + 4)) 150 [(7, .int (zI (tc))), (6, .int (zI (nx))), (5, .ref q18), (4, .ref (zso ad q)), (3, .int (zI (b))), (2, .int (zI (a))), (1, .int (zI (q))), (0, .ref (ad 1))] [.ref hp36z]
      exact zr_aret X rfl (Or.inl ⟨_, rfl⟩) ⟨_, σ46, rfl, hS44, fx47, ⟨by omega, by omega, (fun j h1 h2 h3 => by rw [σ46e]; exact (zdn_ne h2).trans (hI4 j h1 h3)), by rw [σ46e]; exact (zdn_ne (by decide)).trans hI5, by rw [σ46e]; show σ1 30 + 1 = σ 30 + 1; rw [hI4 30 (by omega) (by omega)], by rw [σ46e]; show (σ1 27, σ1 28, σ1 29, σ1 33) = _; exact (zpm_fin (n := tc.toNat) (by omega)).symm.trans hI13⟩⟩ dX6_pump_150
    · refine zr_iload X 80 1 dX6_pump_78 rfl rfl ?_
      refine zr_aload X 82 3 dX6_pump_80 rfl rfl ?_
      obtain ⟨t51r, t51to, t51tr, t51e, t51e2, t51h, t51T, t51o, t51q, t51c, t51a, t51b, t51z⟩ := hI1.txt (q := q) (by omega)
      have t51g := t51T.rg
      refine zr_txSize X 85 t51T gX6_pump_X5_size_u165X5 gX6_pump_X2_size_u165X2 (by decide) (Nat.le_of_ble_eq_true rfl) dX6_pump_82 rfl ?_
      refine zr_icmp_lt X 104 88 dX6_pump_85 rfl rfl (by omega) (by omega) (fun bq52 => ?_) (fun bq52 => ?_)
      · refine zr_iload X 106 1 dX6_pump_104 rfl rfl ?_
        refine zr_aload_n X 107 7 dX6_pump_106 rfl rfl ?_
        refine zr_aload X 109 3 dX6_pump_107 rfl rfl ?_
        refine zr_iload X 111 1 dX6_pump_109 rfl rfl ?_
        refine zr_iload_n X 112 5 dX6_pump_111 rfl rfl ?_
        refine zr_callVe (kc' := 3002 - cap) (ks' := 6200 - 2 * cap) X 115 3 (m_X6_letIn l Γ (fr := nx) (mo := a) hI1 t51T t51o t51q (by omega) (by omega) (by omega)) gX6_pump_X6_letIn rfl (by decide +kernel) rfl (by decide) hI1.x rfl rfl (Nat.le_of_ble_eq_true rfl) dX6_pump_112 rfl (by omega) (by omega) (fun rv53 V54 hp55 => ?_)
        obtain ⟨hp55k, hp55σ, hp55e, hp55s, hp55x, hp55g, hp55a, hp55b, hp55c, hp55d, hp55q⟩ := hp55
        rw [hp55e]
        have hb56 := hI3.kept hp55g (by omega)
        have fx57 := zag.tr hI2 hp55x
        have hx58 : V54 (ad 1) = some (1, .inr (7, [.ref (ad 2), .ref (ad 20), .ref (ad 22), .ref (ad 24), .ref (ad 16), .ref (ad 31), .ref (ad 33), .ref (ad 35), .ref (ad 40), .ref (ad 45), .int (zI (hp55σ 30)), .int (zI (hp55σ 31)), .int (zI (hp55σ 32)), .int (zI (hp55σ 33))])) := hp55s.1
        show zG C V54 (3002 - cap) (6200 - 2 * cap) 115 [(7, .int (zI (tc))), (6, .int (zI (nx))), (5, .ref q18), (4, .ref (zso ad q)), (3, .int (zI (b))), (2, .int (zI (a))), (1, .int (zI (q))), (0, .ref (ad 1))] [.int (zI (hp55k)), .int (zI (nx))]
        refine zr_iadd X 116 dX6_pump_115 rfl ?_
        refine zr_istore X 118 [(6, .int (zI (nx + hp55k))), (7, .int (zI (tc))), (5, .ref q18), (4, .ref (zso ad q)), (3, .int (zI (b))), (2, .int (zI (a))), (1, .int (zI (q))), (0, .ref (ad 1))] dX6_pump_116 rfl (by decide) rfl ?_
        refine zr_aload_n X 119 7 dX6_pump_118 rfl rfl ?_
        refine zr_iload_n X 120 4 dX6_pump_119 rfl rfl ?_
        refine zr_aload X 122 2 dX6_pump_120 rfl rfl ?_
        have hp61p := hp55s.prg
        have hp61r := hb56.rg
        obtain ⟨cm62k, cm62kh⟩ := zlesser b (hp55σ 27)
        obtain ⟨cm62, cm62h⟩ := zgrowk (cnt) cm62k cap
        refine zr_callVe (kc' := 3002 - cap - (cm62 - cap)) (ks' := 6200 - 2 * cap - 2 * (cm62 - cap)) X 125 2 (m_X6_letOut l Γ (n := b) hp55s hb56 (by omega) (by omega) cm62kh cm62h) gX6_pump_X6_letOut rfl (by decide +kernel) rfl (by decide) hp55s.x rfl rfl (Nat.le_of_ble_eq_true rfl) dX6_pump_122 rfl (by omega) (by omega) (fun rv59 V60 hp61 => ?_)
        obtain ⟨hp61e, hp61σ, hp61s, hp61x, hp61q, hp61b⟩ := hp61
        rw [hp61e]
        have fx63 := zag.tr fx57 hp61x
        have hx64 : V60 (ad 1) = some (1, .inr (7, [.ref (ad 2), .ref (ad 20), .ref (ad 22), .ref (ad 24), .ref (ad 16), .ref (ad 31), .ref (ad 33), .ref (ad 35), .ref (ad 40), .ref (ad 45), .int (zI (hp61σ 30)), .int (zI (hp61σ 31)), .int (zI (hp61σ 32)), .int (zI (hp61σ 33))])) := hp61s.1
        show zG C V60 (3002 - cap - (cm62 - cap)) (6200 - 2 * cap - 2 * (cm62 - cap)) 125 [(6, .int (zI (nx + hp55k))), (7, .int (zI (tc))), (5, .ref q18), (4, .ref (zso ad q)), (3, .int (zI (b))), (2, .int (zI (a))), (1, .int (zI (q))), (0, .ref (ad 1))] []
        refine zr_aload_n X 126 7 dX6_pump_125 rfl rfl ?_
        refine zr_dup X 127 dX6_pump_126 rfl rfl ?_
        refine zr_get X 130 7 13 hx64 rfl iX6 (by decide) w10 rfl rfl dX6_pump_127 rfl ?_
        refine zr_iconst X 131 dX6_pump_130 rfl ?_
        refine zr_iadd X 132 dX6_pump_131 rfl ?_
        refine zr_put X 135 7 13 [.ref (ad 2), .ref (ad 20), .ref (ad 22), .ref (ad 24), .ref (ad 16), .ref (ad 31), .ref (ad 33), .ref (ad 35), .ref (ad 40), .ref (ad 45), .int (zI (hp61σ 30)), .int (zI (hp61σ 31)), .int (zI (hp61σ 32)), .int (zI ((hp61σ 33) + 1))] tyX6 hx64 rfl iX6 tyX6_ok nmX6 (by decide) w10 rfl rfl rfl rfl (Nat.le_of_ble_eq_true rfl) rfl dX6_pump_132 rfl ?_
        refine zr_iinc X 138 1 [(7, .int (zI (tc + (-1)))), (6, .int (zI (nx + hp55k))), (5, .ref q18), (4, .ref (zso ad q)), (3, .int (zI (b))), (2, .int (zI (a))), (1, .int (zI (q))), (0, .ref (ad 1))] dX6_pump_135 rfl rfl (by decide) rfl ?_
        refine zr_goto X 73 dX6_pump_138 rfl ?_
        have pz65c := hI12.step cm62h (by omega)
        have pz65r := pz65c.rg
        refine zr_room (3002 - cm62) (6200 - 2 * cm62) (by omega) (by omega) ?_
        obtain ⟨pz65s, pz65x⟩ := hp61s.setX (hp61σ 30) (hp61σ 31) (hp61σ 32) (hp61σ 33 + 1)
        have pz65b := hp61b.kept (zag.rf.set (P := fun t => t ≠ 1) (t := 1) (e := zXc ad (hp61σ 30) (hp61σ 31) (hp61σ 32) (hp61σ 33 + 1)) hp61s.1 (fun z9 => z9 rfl)) (by decide)
        have pz65j : ∀ j, ¬ (26 ≤ j ∧ j ≤ 29) → j ≠ 33 → zx4 hp61σ (hp61σ 30) (hp61σ 31) (hp61σ 32) (hp61σ 33 + 1) j = σ j := by
          intro j h1 h2
          rw [← hI4 j h1 h2, ← zpi_ne (σ := σ1) (a := σ1 26) (b := σ1 27 + hp55k) (c := σ1 28 + hp55k) (d := σ1 29) h1, ← hp55q]
          have h3 : hp61σ j = hp55σ j := by
            rw [hp61q]
            exact zpi_ne h1
          rw [← h3]
          exact zx4_33 h2
        have pz65w : zx4 hp61σ (hp61σ 30) (hp61σ 31) (hp61σ 32) (hp61σ 33 + 1) 26 = σ 26 := by
          rw [zx4_33 (by decide), hp61q, zpi_26, hp55q, zpi_26]
          exact hI5
        have pz65y := zag.tr fx63 pz65x
        have pz6528 : hp55σ 28 = σ1 28 + hp55k := by rw [hp55q, zpi_28]
        have pz6527 : hp55σ 27 = σ1 27 + hp55k := by rw [hp55q, zpi_27]
        have pz6526 : hp55σ 26 = σ1 26 := by rw [hp55q, zpi_26]
        have pz6529 : hp55σ 29 = σ1 29 := by rw [hp55q, zpi_29]
        have pz6533 : hp55σ 33 = σ1 33 := by rw [hp55q]; exact zpi_ne (by decide)
        have pz65p := hp55s.prg
        have pz6528b : zx4 hp61σ (hp61σ 30) (hp61σ 31) (hp61σ 32) (hp61σ 33 + 1) 28 = σ1 28 + hp55k := by rw [zx4_33 (by decide), hp61q, zpi_28]; exact pz6528
        have pz6527b : zx4 hp61σ (hp61σ 30) (hp61σ 31) (hp61σ 32) (hp61σ 33 + 1) 27 = σ1 27 + hp55k - cm62k := by rw [zx4_33 (by decide), hp61q, zpi_27, pz6527]
        have pz6529b : zx4 hp61σ (hp61σ 30) (hp61σ 31) (hp61σ 32) (hp61σ 33 + 1) 29 = σ1 29 + cm62k := by rw [zx4_33 (by decide), hp61q, zpi_29, pz6529]
        have pz6533b : zx4 hp61σ (hp61σ 30) (hp61σ 31) (hp61σ 32) (hp61σ 33 + 1) 33 = σ1 33 + 1 := by
          have h9 : hp61σ 33 = hp55σ 33 := by rw [hp61q]; exact zpi_ne (by decide)
          show hp61σ 33 + 1 = σ1 33 + 1
          rw [h9, pz6533]
        have pz65z : zpm a b (σ 26) (zsz σ q) (tc + (-1)).toNat (nx + hp55k) (zx4 hp61σ (hp61σ 30) (hp61σ 31) (hp61σ 32) (hp61σ 33 + 1) 27) (zx4 hp61σ (hp61σ 30) (hp61σ 31) (hp61σ 32) (hp61σ 33 + 1) 28) (zx4 hp61σ (hp61σ 30) (hp61σ 31) (hp61σ 32) (hp61σ 33 + 1) 29) (zx4 hp61σ (hp61σ 30) (hp61σ 31) (hp61σ 32) (hp61σ 33 + 1) 33) = zpm a b (σ 26) (zsz σ q) (zsz σ q + σ 27).toNat 0 (σ 27) (σ 28) (σ 29) (σ 33) := (zpm_step hp55k cm62k (by omega) (by omega) (by omega) (by omega) rfl pz6527b pz6528b pz6529b pz6533b).symm.trans hI13
        exact ih _ (by omega) (zu V60 (ad 1) 1 (.inr (7, [.ref (ad 2), .ref (ad 20), .ref (ad 22), .ref (ad 24), .ref (ad 16), .ref (ad 31), .ref (ad 33), .ref (ad 35), .ref (ad 40), .ref (ad 45), .int (zI (hp61σ 30)), .int (zI (hp61σ 31)), .int (zI (hp61σ 32)), .int (zI ((hp61σ 33) + 1))]))) (zx4 hp61σ (hp61σ 30) (hp61σ 31) (hp61σ 32) (hp61σ 33 + 1)) (nx + hp55k) (tc + (-1)) (cnt + cm62k) cm62 ⟨pz65s, pz65y, pz65b, pz65j, pz65w, by omega, by omega, by omega, by omega, by omega, by omega, pz65c, pz65z, by omega⟩ rfl
      · refine zr_aload_n X 89 7 dX6_pump_88 rfl rfl ?_
        refine zr_get X 92 7 3 hx32 rfl iX6 (by decide) w0 rfl rfl dX6_pump_89 rfl ?_
        refine zr_getN X 95 3 0 0 hI1.2.2.2.2.2.1.1 rfl iX1 (by decide) rfl rfl rfl dX6_pump_92 rfl ?_
        refine zr_callVe (kc' := 3002 - cap) (ks' := 6200 - 2 * cap) X 98 0 (f_size l Γ hI1.2.2.2.2.2.1.2.1) gX6_pump_X2_size rfl (by decide +kernel) rfl (by decide) hI1.2.2.2.2.2.1.2.1.cl rfl rfl (Nat.le_of_ble_eq_true rfl) dX6_pump_95 rfl (by omega) (by omega) (fun rv66 V67 hp68 => ?_)
        rw [hp68.1, hp68.2]
        have hp68r := hI1.2.2.2.2.2.1.2.1.rg
        show zG C V1 (3002 - cap) (6200 - 2 * cap) 98 [(7, .int (zI (tc))), (6, .int (zI (nx))), (5, .ref q18), (4, .ref (zso ad q)), (3, .int (zI (b))), (2, .int (zI (a))), (1, .int (zI (q))), (0, .ref (ad 1))] [.int (zI (σ1 27))]
        refine zr_if_ne X 104 101 dX6_pump_98 rfl rfl (by omega) (fun bq69 => ?_) (fun bq69 => ?_)
        · refine zr_iload X 106 1 dX6_pump_104 rfl rfl ?_
          refine zr_aload_n X 107 7 dX6_pump_106 rfl rfl ?_
          refine zr_aload X 109 3 dX6_pump_107 rfl rfl ?_
          refine zr_iload X 111 1 dX6_pump_109 rfl rfl ?_
          refine zr_iload_n X 112 5 dX6_pump_111 rfl rfl ?_
          refine zr_callVe (kc' := 3002 - cap) (ks' := 6200 - 2 * cap) X 115 3 (m_X6_letIn l Γ (fr := nx) (mo := a) hI1 t51T t51o t51q (by omega) (by omega) (by omega)) gX6_pump_X6_letIn rfl (by decide +kernel) rfl (by decide) hI1.x rfl rfl (Nat.le_of_ble_eq_true rfl) dX6_pump_112 rfl (by omega) (by omega) (fun rv70 V71 hp72 => ?_)
          obtain ⟨hp72k, hp72σ, hp72e, hp72s, hp72x, hp72g, hp72a, hp72b, hp72c, hp72d, hp72q⟩ := hp72
          rw [hp72e]
          have hb73 := hI3.kept hp72g (by omega)
          have fx74 := zag.tr hI2 hp72x
          have hx75 : V71 (ad 1) = some (1, .inr (7, [.ref (ad 2), .ref (ad 20), .ref (ad 22), .ref (ad 24), .ref (ad 16), .ref (ad 31), .ref (ad 33), .ref (ad 35), .ref (ad 40), .ref (ad 45), .int (zI (hp72σ 30)), .int (zI (hp72σ 31)), .int (zI (hp72σ 32)), .int (zI (hp72σ 33))])) := hp72s.1
          show zG C V71 (3002 - cap) (6200 - 2 * cap) 115 [(7, .int (zI (tc))), (6, .int (zI (nx))), (5, .ref q18), (4, .ref (zso ad q)), (3, .int (zI (b))), (2, .int (zI (a))), (1, .int (zI (q))), (0, .ref (ad 1))] [.int (zI (hp72k)), .int (zI (nx))]
          refine zr_iadd X 116 dX6_pump_115 rfl ?_
          refine zr_istore X 118 [(6, .int (zI (nx + hp72k))), (7, .int (zI (tc))), (5, .ref q18), (4, .ref (zso ad q)), (3, .int (zI (b))), (2, .int (zI (a))), (1, .int (zI (q))), (0, .ref (ad 1))] dX6_pump_116 rfl (by decide) rfl ?_
          refine zr_aload_n X 119 7 dX6_pump_118 rfl rfl ?_
          refine zr_iload_n X 120 4 dX6_pump_119 rfl rfl ?_
          refine zr_aload X 122 2 dX6_pump_120 rfl rfl ?_
          have hp78p := hp72s.prg
          have hp78r := hb73.rg
          obtain ⟨cm79k, cm79kh⟩ := zlesser b (hp72σ 27)
          obtain ⟨cm79, cm79h⟩ := zgrowk (cnt) cm79k cap
          refine zr_callVe (kc' := 3002 - cap - (cm79 - cap)) (ks' := 6200 - 2 * cap - 2 * (cm79 - cap)) X 125 2 (m_X6_letOut l Γ (n := b) hp72s hb73 (by omega) (by omega) cm79kh cm79h) gX6_pump_X6_letOut rfl (by decide +kernel) rfl (by decide) hp72s.x rfl rfl (Nat.le_of_ble_eq_true rfl) dX6_pump_122 rfl (by omega) (by omega) (fun rv76 V77 hp78 => ?_)
          obtain ⟨hp78e, hp78σ, hp78s, hp78x, hp78q, hp78b⟩ := hp78
          rw [hp78e]
          have fx80 := zag.tr fx74 hp78x
          have hx81 : V77 (ad 1) = some (1, .inr (7, [.ref (ad 2), .ref (ad 20), .ref (ad 22), .ref (ad 24), .ref (ad 16), .ref (ad 31), .ref (ad 33), .ref (ad 35), .ref (ad 40), .ref (ad 45), .int (zI (hp78σ 30)), .int (zI (hp78σ 31)), .int (zI (hp78σ 32)), .int (zI (hp78σ 33))])) := hp78s.1
          show zG C V77 (3002 - cap - (cm79 - cap)) (6200 - 2 * cap - 2 * (cm79 - cap)) 125 [(6, .int (zI (nx + hp72k))), (7, .int (zI (tc))), (5, .ref q18), (4, .ref (zso ad q)), (3, .int (zI (b))), (2, .int (zI (a))), (1, .int (zI (q))), (0, .ref (ad 1))] []
          refine zr_aload_n X 126 7 dX6_pump_125 rfl rfl ?_
          refine zr_dup X 127 dX6_pump_126 rfl rfl ?_
          refine zr_get X 130 7 13 hx81 rfl iX6 (by decide) w10 rfl rfl dX6_pump_127 rfl ?_
          refine zr_iconst X 131 dX6_pump_130 rfl ?_
          refine zr_iadd X 132 dX6_pump_131 rfl ?_
          refine zr_put X 135 7 13 [.ref (ad 2), .ref (ad 20), .ref (ad 22), .ref (ad 24), .ref (ad 16), .ref (ad 31), .ref (ad 33), .ref (ad 35), .ref (ad 40), .ref (ad 45), .int (zI (hp78σ 30)), .int (zI (hp78σ 31)), .int (zI (hp78σ 32)), .int (zI ((hp78σ 33) + 1))] tyX6 hx81 rfl iX6 tyX6_ok nmX6 (by decide) w10 rfl rfl rfl rfl (Nat.le_of_ble_eq_true rfl) rfl dX6_pump_132 rfl ?_
          refine zr_iinc X 138 1 [(7, .int (zI (tc + (-1)))), (6, .int (zI (nx + hp72k))), (5, .ref q18), (4, .ref (zso ad q)), (3, .int (zI (b))), (2, .int (zI (a))), (1, .int (zI (q))), (0, .ref (ad 1))] dX6_pump_135 rfl rfl (by decide) rfl ?_
          refine zr_goto X 73 dX6_pump_138 rfl ?_
          have pz82c := hI12.step cm79h (by omega)
          have pz82r := pz82c.rg
          refine zr_room (3002 - cm79) (6200 - 2 * cm79) (by omega) (by omega) ?_
          obtain ⟨pz82s, pz82x⟩ := hp78s.setX (hp78σ 30) (hp78σ 31) (hp78σ 32) (hp78σ 33 + 1)
          have pz82b := hp78b.kept (zag.rf.set (P := fun t => t ≠ 1) (t := 1) (e := zXc ad (hp78σ 30) (hp78σ 31) (hp78σ 32) (hp78σ 33 + 1)) hp78s.1 (fun z9 => z9 rfl)) (by decide)
          have pz82j : ∀ j, ¬ (26 ≤ j ∧ j ≤ 29) → j ≠ 33 → zx4 hp78σ (hp78σ 30) (hp78σ 31) (hp78σ 32) (hp78σ 33 + 1) j = σ j := by
            intro j h1 h2
            rw [← hI4 j h1 h2, ← zpi_ne (σ := σ1) (a := σ1 26) (b := σ1 27 + hp72k) (c := σ1 28 + hp72k) (d := σ1 29) h1, ← hp72q]
            have h3 : hp78σ j = hp72σ j := by
              rw [hp78q]
              exact zpi_ne h1
            rw [← h3]
            exact zx4_33 h2
          have pz82w : zx4 hp78σ (hp78σ 30) (hp78σ 31) (hp78σ 32) (hp78σ 33 + 1) 26 = σ 26 := by
            rw [zx4_33 (by decide), hp78q, zpi_26, hp72q, zpi_26]
            exact hI5
          have pz82y := zag.tr fx80 pz82x
          have pz8228 : hp72σ 28 = σ1 28 + hp72k := by rw [hp72q, zpi_28]
          have pz8227 : hp72σ 27 = σ1 27 + hp72k := by rw [hp72q, zpi_27]
          have pz8226 : hp72σ 26 = σ1 26 := by rw [hp72q, zpi_26]
          have pz8229 : hp72σ 29 = σ1 29 := by rw [hp72q, zpi_29]
          have pz8233 : hp72σ 33 = σ1 33 := by rw [hp72q]; exact zpi_ne (by decide)
          have pz82p := hp72s.prg
          have pz8228b : zx4 hp78σ (hp78σ 30) (hp78σ 31) (hp78σ 32) (hp78σ 33 + 1) 28 = σ1 28 + hp72k := by rw [zx4_33 (by decide), hp78q, zpi_28]; exact pz8228
          have pz8227b : zx4 hp78σ (hp78σ 30) (hp78σ 31) (hp78σ 32) (hp78σ 33 + 1) 27 = σ1 27 + hp72k - cm79k := by rw [zx4_33 (by decide), hp78q, zpi_27, pz8227]
          have pz8229b : zx4 hp78σ (hp78σ 30) (hp78σ 31) (hp78σ 32) (hp78σ 33 + 1) 29 = σ1 29 + cm79k := by rw [zx4_33 (by decide), hp78q, zpi_29, pz8229]
          have pz8233b : zx4 hp78σ (hp78σ 30) (hp78σ 31) (hp78σ 32) (hp78σ 33 + 1) 33 = σ1 33 + 1 := by
            have h9 : hp78σ 33 = hp72σ 33 := by rw [hp78q]; exact zpi_ne (by decide)
            show hp78σ 33 + 1 = σ1 33 + 1
            rw [h9, pz8233]
          have pz82z : zpm a b (σ 26) (zsz σ q) (tc + (-1)).toNat (nx + hp72k) (zx4 hp78σ (hp78σ 30) (hp78σ 31) (hp78σ 32) (hp78σ 33 + 1) 27) (zx4 hp78σ (hp78σ 30) (hp78σ 31) (hp78σ 32) (hp78σ 33 + 1) 28) (zx4 hp78σ (hp78σ 30) (hp78σ 31) (hp78σ 32) (hp78σ 33 + 1) 29) (zx4 hp78σ (hp78σ 30) (hp78σ 31) (hp78σ 32) (hp78σ 33 + 1) 33) = zpm a b (σ 26) (zsz σ q) (zsz σ q + σ 27).toNat 0 (σ 27) (σ 28) (σ 29) (σ 33) := (zpm_step hp72k cm79k (by omega) (by omega) (by omega) (by omega) rfl pz8227b pz8228b pz8229b pz8233b).symm.trans hI13
          exact ih _ (by omega) (zu V77 (ad 1) 1 (.inr (7, [.ref (ad 2), .ref (ad 20), .ref (ad 22), .ref (ad 24), .ref (ad 16), .ref (ad 31), .ref (ad 33), .ref (ad 35), .ref (ad 40), .ref (ad 45), .int (zI (hp78σ 30)), .int (zI (hp78σ 31)), .int (zI (hp78σ 32)), .int (zI ((hp78σ 33) + 1))]))) (zx4 hp78σ (hp78σ 30) (hp78σ 31) (hp78σ 32) (hp78σ 33 + 1)) (nx + hp72k) (tc + (-1)) (cnt + cm79k) cm79 ⟨pz82s, pz82y, pz82b, pz82j, pz82w, by omega, by omega, by omega, by omega, by omega, by omega, pz82c, pz82z, by omega⟩ rfl
        · refine zr_goto X 141 dX6_pump_101 rfl ?_
          refine zr_aload_n X 142 7 dX6_pump_141 rfl rfl ?_
          refine zr_aload X 144 2 dX6_pump_142 rfl rfl ?_
          have hp85r := hI3.rg
          refine zr_callVe (kc' := 3002 - cap - 2) (ks' := 6200 - 2 * cap - ((cnt).toNat + 4)) X 147 0 (zsb_str l Γ hI3) gX6_pump_J4_toString_0e30d rfl (by decide +kernel) rfl (by decide) hI3.cl rfl rfl (Nat.le_of_ble_eq_true rfl) dX6_pump_144 rfl (by omega) (by omega) (fun rv83 V84 hp85 => ?_)
          obtain ⟨hp85z, hp85e, hp85n, hp85f⟩ := hp85
          rw [hp85e]
          obtain ⟨hS86, fx87⟩ := hI1.fr hp85f
          have fx88 := zag.tr hI2 fx87
          have hx89 : V84 (ad 1) = some (1, .inr (7, [.ref (ad 2), .ref (ad 20), .ref (ad 22), .ref (ad 24), .ref (ad 16), .ref (ad 31), .ref (ad 33), .ref (ad 35), .ref (ad 40), .ref (ad 45), .int (zI (σ1 30)), .int (zI (σ1 31)), .int (zI (σ1 32)), .int (zI (σ1 33))])) := hS86.1
          show zG C V84 (3002 - cap - 2) (6200 - 2 * cap - ((cnt).toNat + 4)) 147 [(7, .int (zI (tc))), (6, .int (zI (nx))), (5, .ref q18), (4, .ref (zso ad q)), (3, .int (zI (b))), (2, .int (zI (a))), (1, .int (zI (q))), (0, .ref (ad 1))] [.ref hp85z, .ref (ad 1)]
          refine zr_callVe (kc' := (3002 - cap - 2)) (ks' := (6200 - 2 * cap - ((cnt).toNat + 4))) X 150 1 (m_X6_done_ l Γ (y := hp85z) hS86) gX6_pump_X6_done_ rfl (by decide +kernel) rfl (by decide) hS86.x rfl rfl (Nat.le_of_ble_eq_true rfl) dX6_pump_147 rfl (by omega) (by omega) (fun rv90 V91 hp92 => ?_)
          obtain ⟨hp92e, hS93, fx94⟩ := hp92
          rw [hp92e]
          obtain ⟨σ95, σ95e⟩ : ∃ zz9 : Nat → Int, zz9 = zdn σ1 := ⟨_, rfl⟩
          rw [← σ95e] at hS93
          have fx96 := zag.tr fx88 fx94
          have hx97 : V91 (ad 1) = some (1, .inr (7, [.ref (ad 2), .ref (ad 20), .ref (ad 22), .ref (ad 24), .ref (ad 16), .ref (ad 31), .ref (ad 33), .ref (ad 35), .ref (ad 40), .ref (ad 45), .int (zI (σ95 30)), .int (zI (σ95 31)), .int (zI (σ95 32)), .int (zI (σ95 33))])) := hS93.1
          show zG C V91 (3002 - cap - 2) (6200 - 2 * cap - ((cnt).toNat + 4)) 150 [(7, .int (zI (tc))), (6, .int (zI (nx))), (5, .ref q18), (4, .ref (zso ad q)), (3, .int (zI (b))), (2, .int (zI (a))), (1, .int (zI (q))), (0, .ref (ad 1))] [.ref hp85z]
          exact zr_aret X rfl (Or.inl ⟨_, rfl⟩) ⟨_, σ95, rfl, hS93, fx96, ⟨by omega, by omega, (fun j h1 h2 h3 => by rw [σ95e]; exact (zdn_ne h2).trans (hI4 j h1 h3)), by rw [σ95e]; exact (zdn_ne (by decide)).trans hI5, by rw [σ95e]; show σ1 30 + 1 = σ 30 + 1; rw [hI4 30 (by omega) (by omega)], by rw [σ95e]; show (σ1 27, σ1 28, σ1 29, σ1 33) = _; exact (zpm_fin (n := tc.toNat) (by omega)).symm.trans hI13⟩⟩ dX6_pump_150
  exact loop _ V21 σ 0 ((zsz σ q) + (σ 27)) 0 16 ⟨hS24, fx25, hp22b, fun j _ _ => rfl, rfl, by omega, by omega, by omega, by omega, by omega, by omega, Or.inl rfl, rfl, by omega⟩ rfl
set_option maxRecDepth 100000 in
set_option maxHeartbeats 4000000 in
theorem m_X6_copyText_d (l : Launch) (Γ : zGam) {V : zV} {ad : Nat → Nat} {σ : Nat → Int} {q how : Int} (hS : zS Γ V ad σ) (hq : 0 ≤ q ∧ q < 6) (hh : 0 ≤ how ∧ how ≤ 3) : zM l Γ 6 yX6_copyText wsX6_copyText 0 0 V [.ref (ad 1), .ref (ad (10 + q.toNat)), .int (zI (how)), .ref (ad 31)] (fun rv V' => rv = none ∧ zS Γ V' ad σ ∧ zfx V V') := by
  have iX5 : ∀ w ∈ u_ws RX5 TX5 6, w ∈ wsX6_copyText := by decide +kernel
  have w1 : Cond.fieldLink RX6 35 "Sashwords" "aside" "LSashwords$Window;" ∈ wsX6_copyText := by decide +kernel
  have iX6 : ∀ w ∈ u_ws RX6 TX6 14, w ∈ wsX6_copyText := by decide +kernel
  refine zM_of (cc := cX6_copyText) (nL := 5) (ret := none) (own := RX6) (by decide +kernel) rfl rfl (Nat.le_of_ble_eq_true rfl) (fun C X hi0 => ?_)
  have hx1 : V (ad 1) = some (1, .inr (7, [.ref (ad 2), .ref (ad 20), .ref (ad 22), .ref (ad 24), .ref (ad 16), .ref (ad 31), .ref (ad 33), .ref (ad 35), .ref (ad 40), .ref (ad 45), .int (zI (σ 30)), .int (zI (σ 31)), .int (zI (σ 32)), .int (zI (σ 33))])) := hS.1
  have hw2 := hS.w (i := q.toNat) (by omega)
  have hw2r := hw2.rg
  obtain ⟨as3c, as3l, as3p, as3m, as3⟩ := hS.2.2.2.1
  have as3r := as3.rg
  obtain ⟨dr4n, dr4⟩ := hS.2.2.2.2.1.2.2.1
  have dr4r := dr4.rg
  show zG C V 0 0 0 [(0, .ref (ad 1)), (1, .ref (ad (10 + q.toNat))), (2, .int (zI (how))), (3, .ref (ad 31))] []
  refine zr_aload_n X 1 3 dX6_copyText_0 rfl rfl ?_
  refine zr_callVe (kc' := 0) (ks' := 0) X 4 0 (f_clear l Γ dr4 (by decide)) gX6_copyText_X2_clear rfl (by decide +kernel) rfl (by decide) dr4.cl rfl rfl (Nat.le_of_ble_eq_true rfl) dX6_copyText_1 rfl (by omega) (by omega) (fun rv5 V6 hp7 => ?_)
  obtain ⟨hp7e, hp7z⟩ := hp7
  rw [hp7e]
  obtain ⟨hS8, fx9⟩ := hS.setDr hp7z
  have dr10 := hp7z.1
  have dr10r := dr10.rg
  have hw11 := hw2.kept hp7z.2 (by omega) (by omega)
  have hw12 := as3.kept hp7z.2 (by omega) (by omega)
  have hx13 : V6 (ad 1) = some (1, .inr (7, [.ref (ad 2), .ref (ad 20), .ref (ad 22), .ref (ad 24), .ref (ad 16), .ref (ad 31), .ref (ad 33), .ref (ad 35), .ref (ad 40), .ref (ad 45), .int (zI (σ 30)), .int (zI (σ 31)), .int (zI (σ 32)), .int (zI (σ 33))])) := hS8.1
  show zG C V6 0 0 4 [(0, .ref (ad 1)), (1, .ref (ad (10 + q.toNat))), (2, .int (zI (how))), (3, .ref (ad 31))] []
  refine zr_iload_n X 5 2 dX6_copyText_4 rfl rfl ?_
  rcases (by omega : how = 0 ∨ how = 1 ∨ how = 2 ∨ ¬ (0 ≤ how ∧ how < 3)) with ts14 | ts14 | ts14 | ts14
  · refine zr_tsIn X 32 0 ts14 (by decide) dX6_copyText_5 (by decide) (by decide) rfl rfl ?_
    refine zr_aload_n X 33 3 dX6_copyText_32 rfl rfl ?_
    refine zr_aload_n X 34 1 dX6_copyText_33 rfl rfl ?_
    obtain ⟨t15r, t15e, t15e2, t15h, t15T, t15o, t15q⟩ := hw11.tx
    have t15g := t15T.rg
    have t15c := True.intro
    refine zr_callVe (kc' := 0) (ks' := 0) X 37 1 (f_appendT l Γ dr10 (by decide) (by decide) t15T t15o t15q (by omega) (by omega)) gX6_copyText_X2_append rfl (by decide +kernel) rfl (by decide) dr10.cl rfl rfl (Nat.le_of_ble_eq_true rfl) dX6_copyText_34 rfl (by omega) (by omega) (fun rv16 V17 hp18 => ?_)
    obtain ⟨hp18e, hp18z⟩ := hp18
    rw [hp18e]
    obtain ⟨hS19, fx20⟩ := hS8.setDr hp18z
    have dr21 := hp18z.1
    have dr21r := dr21.rg
    have hw22 := hw11.kept hp18z.2 (by omega) (by omega)
    have hw23 := hw12.kept hp18z.2 (by omega) (by omega)
    have fx24 := zag.tr fx9 fx20
    have hx25 : V17 (ad 1) = some (1, .inr (7, [.ref (ad 2), .ref (ad 20), .ref (ad 22), .ref (ad 24), .ref (ad 16), .ref (ad 31), .ref (ad 33), .ref (ad 35), .ref (ad 40), .ref (ad 45), .int (zI (σ 30)), .int (zI (σ 31)), .int (zI (σ 32)), .int (zI (σ 33))])) := hS19.1
    show zG C V17 0 0 37 [(0, .ref (ad 1)), (1, .ref (ad (10 + q.toNat))), (2, .int (zI (how))), (3, .ref (ad 31))] []
    refine zr_goto X 165 dX6_copyText_37 rfl ?_
    exact zr_vret X rfl ⟨rfl, hS19, fx24⟩ dX6_copyText_165
  · refine zr_tsIn X 40 1 ts14 (by decide) dX6_copyText_5 (by decide) (by decide) rfl rfl ?_
    refine zr_aload_n X 41 1 dX6_copyText_40 rfl rfl ?_
    refine zr_getNw X 44 4 5 hw11 (σ (4 * q.toNat + 2)) (by simp) iX5 rfl dX6_copyText_41 rfl ?_
    refine zr_istore X 46 [(4, .int (zI (σ (4 * q.toNat + 2)))), (0, .ref (ad 1)), (1, .ref (ad (10 + q.toNat))), (2, .int (zI (how))), (3, .ref (ad 31))] dX6_copyText_44 rfl (by decide) rfl ?_
    refine zr_sub [0, 4, 3, 2, 1] [(4, .int (zI (σ (4 * q.toNat + 2)))), (3, .ref (ad 31)), (2, .int (zI (how))), (1, .ref (ad (10 + q.toNat))), (0, .ref (ad 1))] rfl ?_
    have loop : ∀ (N : Nat) (V1 : zV) (p1 : Int) (n1 : Int), zS Γ V1 ad σ ∧ zfx V V1 ∧ zSc Γ V1 31 (ad 31) 32 (ad 32) 80 n1 ∧ σ (4 * q.toNat + 2) ≤ p1 ∧ p1 ≤ σ (4 * q.toNat + 1) ∧ n1 = p1 - σ (4 * q.toNat + 2) → (σ (4 * q.toNat + 1) - p1).toNat = N → zG C V1 0 0 46 [(4, .int (zI (p1))), (3, .ref (ad 31)), (2, .int (zI (how))), (1, .ref (ad (10 + q.toNat))), (0, .ref (ad 1))] [] := by
      intro N
      induction N using Nat.strongRecOn with
      | _ N ih =>
      intro V1 p1 n1 hI hN
      obtain ⟨hI1, hI2, hI3, hI4, hI5, hI6⟩ := id hI
      have hx26 : V1 (ad 1) = some (1, .inr (7, [.ref (ad 2), .ref (ad 20), .ref (ad 22), .ref (ad 24), .ref (ad 16), .ref (ad 31), .ref (ad 33), .ref (ad 35), .ref (ad 40), .ref (ad 45), .int (zI (σ 30)), .int (zI (σ 31)), .int (zI (σ 32)), .int (zI (σ 33))])) := hI1.1
      have hw27 := hI1.w (i := q.toNat) (by omega)
      have hw27r := hw27.rg
      have hDr := hI3.rg
      refine zr_iload X 48 0 dX6_copyText_46 rfl rfl ?_
      refine zr_aload_n X 49 3 dX6_copyText_48 rfl rfl ?_
      refine zr_getNw X 52 3 4 hw27 (σ (4 * q.toNat + 1)) (by simp) iX5 rfl dX6_copyText_49 rfl ?_
      refine zr_icmp_ge X 71 55 dX6_copyText_52 rfl rfl (by omega) (by omega) (fun bq28 => ?_) (fun bq28 => ?_)
      · refine zr_goto X 165 dX6_copyText_71 rfl ?_
        exact zr_vret X rfl ⟨rfl, hI1, hI2⟩ dX6_copyText_165
      · refine zr_aload_n X 56 1 dX6_copyText_55 rfl rfl ?_
        refine zr_aload_n X 57 3 dX6_copyText_56 rfl rfl ?_
        refine zr_iload X 59 0 dX6_copyText_57 rfl rfl ?_
        refine zr_callVe (kc' := 0) (ks' := 0) X 62 1 (e_atPlace l Γ hw27 (k := p1) (by omega)) gX6_copyText_X5_atPlace rfl (by decide +kernel) rfl (by decide) hw27.cl rfl rfl (Nat.le_of_ble_eq_true rfl) dX6_copyText_59 rfl (by omega) (by omega) (fun rv29 V30 hp31 => ?_)
        obtain ⟨hp31x, hp31e, hp31v, hp31a, hp31b, hp31c, hp31d⟩ := hp31
        rw [hp31e, hp31v]
        show zG C V1 0 0 62 [(4, .int (zI (p1))), (3, .ref (ad 31)), (2, .int (zI (how))), (1, .ref (ad (10 + q.toNat))), (0, .ref (ad 1))] [.int (zI (hp31x)), .ref (ad 31)]
        refine zr_callVe (kc' := 0) (ks' := 0) X 65 1 (f_add l Γ hI3 (by decide) (by decide) (x := hp31x) (by omega) (by omega)) gX6_copyText_X2_add rfl (by decide +kernel) rfl (by decide) hI3.cl rfl rfl (Nat.le_of_ble_eq_true rfl) dX6_copyText_62 rfl (by omega) (by omega) (fun rv32 V33 hp34 => ?_)
        obtain ⟨hp34e, hp34z⟩ := hp34
        rw [hp34e]
        obtain ⟨hS35, fx36⟩ := hI1.setDr hp34z
        have dr37 := hp34z.1
        have dr37r := dr37.rg
        have hw38 := hw27.kept hp34z.2 (by omega) (by omega)
        have fx39 := zag.tr hI2 fx36
        have hx40 : V33 (ad 1) = some (1, .inr (7, [.ref (ad 2), .ref (ad 20), .ref (ad 22), .ref (ad 24), .ref (ad 16), .ref (ad 31), .ref (ad 33), .ref (ad 35), .ref (ad 40), .ref (ad 45), .int (zI (σ 30)), .int (zI (σ 31)), .int (zI (σ 32)), .int (zI (σ 33))])) := hS35.1
        show zG C V33 0 0 65 [(4, .int (zI (p1))), (3, .ref (ad 31)), (2, .int (zI (how))), (1, .ref (ad (10 + q.toNat))), (0, .ref (ad 1))] []
        refine zr_iinc X 68 0 [(4, .int (zI (p1 + 1))), (3, .ref (ad 31)), (2, .int (zI (how))), (1, .ref (ad (10 + q.toNat))), (0, .ref (ad 1))] dX6_copyText_65 rfl rfl (by decide) rfl ?_
        refine zr_goto X 46 dX6_copyText_68 rfl ?_
        exact ih _ (by omega) V33 (p1 + 1) (n1 + 1) ⟨hS35, fx39, dr37, by omega, by omega, by omega⟩ rfl
    exact loop _ V6 (σ (4 * q.toNat + 2)) 0 ⟨hS8, fx9, dr10, by omega, by omega, by omega⟩ rfl
  · refine zr_tsIn X 74 2 ts14 (by decide) dX6_copyText_5 (by decide) (by decide) rfl rfl ?_
    refine zr_aload_n X 75 0 dX6_copyText_74 rfl rfl ?_
    refine zr_get X 78 7 4 hx13 rfl iX6 (by decide) w1 rfl rfl dX6_copyText_75 rfl ?_
    refine zr_aload_n X 79 1 dX6_copyText_78 rfl rfl ?_
    refine zr_callVe (kc' := 0) (ks' := 0) X 82 1 (e_like l Γ hw12 hw11 (by omega) (zneW hw12 hw11 (by omega))) gX6_copyText_X5_becomeLike rfl (by decide +kernel) rfl (by decide) hw12.cl rfl rfl (Nat.le_of_ble_eq_true rfl) dX6_copyText_79 rfl (by omega) (by omega) (fun rv41 V42 hp43 => ?_)
    obtain ⟨hp43e, hp43n⟩ := hp43
    rw [hp43e]
    have hp43z := hp43n.1
    obtain ⟨hS44, fx45⟩ := hS8.setD hp43n
    have hw46 := hp43z.1
    have hw46r := hw46.rg
    have hw47 := hw11.row hp43z.2.1 (by omega) hp43z.2.2
    have hd48 := dr10.kept hp43z.2.1 (by omega) (by omega)
    have fx49 := zag.tr fx9 fx45
    have hx50 : V42 (ad 1) = some (1, .inr (7, [.ref (ad 2), .ref (ad 20), .ref (ad 22), .ref (ad 24), .ref (ad 16), .ref (ad 31), .ref (ad 33), .ref (ad 35), .ref (ad 40), .ref (ad 45), .int (zI (σ 30)), .int (zI (σ 31)), .int (zI (σ 32)), .int (zI (σ 33))])) := hS44.1
    show zG C V42 0 0 82 [(0, .ref (ad 1)), (1, .ref (ad (10 + q.toNat))), (2, .int (zI (how))), (3, .ref (ad 31))] []
    refine zr_aload_n X 83 0 dX6_copyText_82 rfl rfl ?_
    refine zr_get X 86 7 4 hx50 rfl iX6 (by decide) w1 rfl rfl dX6_copyText_83 rfl ?_
    refine zr_callVe (kc' := 0) (ks' := 0) X 89 0 (e_size l Γ hw46) gX6_copyText_X5_size rfl (by decide +kernel) rfl (by decide) hw46.cl rfl rfl (Nat.le_of_ble_eq_true rfl) dX6_copyText_86 rfl (by omega) (by omega) (fun rv51 V52 hp53 => ?_)
    rw [hp53.1, hp53.2]
    show zG C V42 0 0 89 [(0, .ref (ad 1)), (1, .ref (ad (10 + q.toNat))), (2, .int (zI (how))), (3, .ref (ad 31))] [.int (zI ((σ (4 * q.toNat + 1)) - (σ (4 * q.toNat + 2))))]
    refine zr_istore X 91 [(4, .int (zI ((σ (4 * q.toNat + 1)) - (σ (4 * q.toNat + 2))))), (0, .ref (ad 1)), (1, .ref (ad (10 + q.toNat))), (2, .int (zI (how))), (3, .ref (ad 31))] dX6_copyText_89 rfl (by decide) rfl ?_
    refine zr_sub [0, 4, 3, 2, 1] [(4, .int (zI ((σ (4 * q.toNat + 1)) - (σ (4 * q.toNat + 2))))), (3, .ref (ad 31)), (2, .int (zI (how))), (1, .ref (ad (10 + q.toNat))), (0, .ref (ad 1))] rfl ?_
    have loop : ∀ (N : Nat) (V1 : zV) (p1 : Int) (r1 : Int) (n1 : Int), zS Γ V1 ad σ ∧ zfx V V1 ∧ zSc Γ V1 31 (ad 31) 32 (ad 32) 80 n1 ∧ zWi Γ V1 16 (ad 16) (σ (4 * q.toNat)) (σ (4 * q.toNat + 1)) p1 (σ (4 * q.toNat + 3)) ∧ σ (4 * q.toNat + 2) ≤ p1 ∧ r1 = σ (4 * q.toNat + 1) - p1 ∧ n1 = p1 - σ (4 * q.toNat + 2) → r1.toNat = N → zG C V1 0 0 91 [(4, .int (zI (r1))), (3, .ref (ad 31)), (2, .int (zI (how))), (1, .ref (ad (10 + q.toNat))), (0, .ref (ad 1))] [] := by
      intro N
      induction N using Nat.strongRecOn with
      | _ N ih =>
      intro V1 p1 r1 n1 hI hN
      obtain ⟨hI1, hI2, hI3, hI4, hI5, hI6, hI7⟩ := id hI
      have hx54 : V1 (ad 1) = some (1, .inr (7, [.ref (ad 2), .ref (ad 20), .ref (ad 22), .ref (ad 24), .ref (ad 16), .ref (ad 31), .ref (ad 33), .ref (ad 35), .ref (ad 40), .ref (ad 45), .int (zI (σ 30)), .int (zI (σ 31)), .int (zI (σ 32)), .int (zI (σ 33))])) := hI1.1
      have hw55 := hI1.w (i := q.toNat) (by omega)
      have hw55r := hw55.rg
      have hDr := hI3.rg
      have hIr := hI4.rg
      refine zr_iload X 93 0 dX6_copyText_91 rfl rfl ?_
      refine zr_if_le X 113 96 dX6_copyText_93 rfl rfl (by omega) (fun bq56 => ?_) (fun bq56 => ?_)
      · refine zr_goto X 165 dX6_copyText_113 rfl ?_
        exact zr_vret X rfl ⟨rfl, hI1, hI2⟩ dX6_copyText_165
      · refine zr_aload_n X 97 1 dX6_copyText_96 rfl rfl ?_
        refine zr_aload_n X 98 4 dX6_copyText_97 rfl rfl ?_
        refine zr_get X 101 7 4 hx54 rfl iX6 (by decide) w1 rfl rfl dX6_copyText_98 rfl ?_
        refine zr_callVe (kc' := 0) (ks' := 0) X 104 0 (e_read l Γ hI4 (by omega) (by omega)) gX6_copyText_X5_readSign rfl (by decide +kernel) rfl (by decide) hI4.cl rfl rfl (Nat.le_of_ble_eq_true rfl) dX6_copyText_101 rfl (by omega) (by omega) (fun rv57 V58 hp59 => ?_)
        obtain ⟨hp59x, hp59e, hp59a, hp59b, hp59n⟩ := hp59
        rw [hp59e]
        have hp59z := hp59n.1
        obtain ⟨hS60, fx61⟩ := hI1.setD hp59n
        have hw62 := hp59z.1
        have hw62r := hw62.rg
        have hw63 := hw55.row hp59z.2.1 (by omega) hp59z.2.2
        have hd64 := hI3.kept hp59z.2.1 (by omega) (by omega)
        have fx65 := zag.tr hI2 fx61
        have hx66 : V58 (ad 1) = some (1, .inr (7, [.ref (ad 2), .ref (ad 20), .ref (ad 22), .ref (ad 24), .ref (ad 16), .ref (ad 31), .ref (ad 33), .ref (ad 35), .ref (ad 40), .ref (ad 45), .int (zI (σ 30)), .int (zI (σ 31)), .int (zI (σ 32)), .int (zI (σ 33))])) := hS60.1
        show zG C V58 0 0 104 [(4, .int (zI (r1))), (3, .ref (ad 31)), (2, .int (zI (how))), (1, .ref (ad (10 + q.toNat))), (0, .ref (ad 1))] [.int (zI (hp59x)), .ref (ad 31)]
        refine zr_callVe (kc' := 0) (ks' := 0) X 107 1 (f_add l Γ hd64 (by decide) (by decide) (x := hp59x) (by omega) (by omega)) gX6_copyText_X2_add rfl (by decide +kernel) rfl (by decide) hd64.cl rfl rfl (Nat.le_of_ble_eq_true rfl) dX6_copyText_104 rfl (by omega) (by omega) (fun rv67 V68 hp69 => ?_)
        obtain ⟨hp69e, hp69z⟩ := hp69
        rw [hp69e]
        obtain ⟨hS70, fx71⟩ := hS60.setDr hp69z
        have dr72 := hp69z.1
        have dr72r := dr72.rg
        have hw73 := hw63.kept hp69z.2 (by omega) (by omega)
        have hw74 := hw62.kept hp69z.2 (by omega) (by omega)
        have fx75 := zag.tr fx65 fx71
        have hx76 : V68 (ad 1) = some (1, .inr (7, [.ref (ad 2), .ref (ad 20), .ref (ad 22), .ref (ad 24), .ref (ad 16), .ref (ad 31), .ref (ad 33), .ref (ad 35), .ref (ad 40), .ref (ad 45), .int (zI (σ 30)), .int (zI (σ 31)), .int (zI (σ 32)), .int (zI (σ 33))])) := hS70.1
        show zG C V68 0 0 107 [(4, .int (zI (r1))), (3, .ref (ad 31)), (2, .int (zI (how))), (1, .ref (ad (10 + q.toNat))), (0, .ref (ad 1))] []
        refine zr_iinc X 110 0 [(4, .int (zI (r1 + (-1)))), (3, .ref (ad 31)), (2, .int (zI (how))), (1, .ref (ad (10 + q.toNat))), (0, .ref (ad 1))] dX6_copyText_107 rfl rfl (by decide) rfl ?_
        refine zr_goto X 91 dX6_copyText_110 rfl ?_
        exact ih _ (by omega) V68 (p1 + 1) (r1 + (-1)) (n1 + 1) ⟨hS70, fx75, dr72, hw74, by omega, by omega, by omega⟩ rfl
    exact loop _ V42 (σ (4 * q.toNat + 2)) ((σ (4 * q.toNat + 1)) - (σ (4 * q.toNat + 2))) 0 ⟨hS44, fx49, hd48, hw46, by omega, by omega, by omega⟩ rfl
  · refine zr_tsOut X 116 (by omega) dX6_copyText_5 (by omega) rfl ?_
    refine zr_aload_n X 117 1 dX6_copyText_116 rfl rfl ?_
    refine zr_callVe (kc' := 0) (ks' := 0) X 120 0 (e_size l Γ hw11) gX6_copyText_X5_size rfl (by decide +kernel) rfl (by decide) hw11.cl rfl rfl (Nat.le_of_ble_eq_true rfl) dX6_copyText_117 rfl (by omega) (by omega) (fun rv77 V78 hp79 => ?_)
    rw [hp79.1, hp79.2]
    show zG C V6 0 0 120 [(0, .ref (ad 1)), (1, .ref (ad (10 + q.toNat))), (2, .int (zI (how))), (3, .ref (ad 31))] [.int (zI ((σ (4 * q.toNat + 1)) - (σ (4 * q.toNat + 2))))]
    refine zr_iconst X 121 dX6_copyText_120 rfl ?_
    refine zr_idiv X 122 dX6_copyText_121 rfl (by omega) (by omega) ?_
    refine zr_istore X 124 [(4, .int (zI (((σ (4 * q.toNat + 1)) - (σ (4 * q.toNat + 2))) / 2))), (0, .ref (ad 1)), (1, .ref (ad (10 + q.toNat))), (2, .int (zI (how))), (3, .ref (ad 31))] dX6_copyText_122 rfl (by decide) rfl ?_
    refine zr_aload_n X 125 1 dX6_copyText_124 rfl rfl ?_
    refine zr_get X 128 7 4 hx13 rfl iX6 (by decide) w1 rfl rfl dX6_copyText_125 rfl ?_
    refine zr_aload_n X 129 2 dX6_copyText_128 rfl rfl ?_
    refine zr_iconst X 130 dX6_copyText_129 rfl ?_
    refine zr_iload X 132 0 dX6_copyText_130 rfl rfl ?_
    refine zr_callVe (kc' := 0) (ks' := 0) X 135 3 (e_part l Γ hw12 hw11 (by omega) (zneW hw12 hw11 (by omega)) (a := 0) (b := ((σ (4 * q.toNat + 1)) - (σ (4 * q.toNat + 2))) / 2) (by omega)) gX6_copyText_X5_becomePart rfl (by decide +kernel) rfl (by decide) hw12.cl rfl rfl (Nat.le_of_ble_eq_true rfl) dX6_copyText_132 rfl (by omega) (by omega) (fun rv80 V81 hp82 => ?_)
    obtain ⟨hp82e, hp82n⟩ := hp82
    rw [hp82e]
    have hp82z := hp82n.1
    obtain ⟨hS83, fx84⟩ := hS8.setD hp82n
    have hw85 := hp82z.1
    have hw85r := hw85.rg
    have hw86 := hw11.row hp82z.2.1 (by omega) hp82z.2.2
    have hd87 := dr10.kept hp82z.2.1 (by omega) (by omega)
    have fx88 := zag.tr fx9 fx84
    have hx89 : V81 (ad 1) = some (1, .inr (7, [.ref (ad 2), .ref (ad 20), .ref (ad 22), .ref (ad 24), .ref (ad 16), .ref (ad 31), .ref (ad 33), .ref (ad 35), .ref (ad 40), .ref (ad 45), .int (zI (σ 30)), .int (zI (σ 31)), .int (zI (σ 32)), .int (zI (σ 33))])) := hS83.1
    show zG C V81 0 0 135 [(4, .int (zI (((σ (4 * q.toNat + 1)) - (σ (4 * q.toNat + 2))) / 2))), (0, .ref (ad 1)), (1, .ref (ad (10 + q.toNat))), (2, .int (zI (how))), (3, .ref (ad 31))] []
    refine zr_aload_n X 136 4 dX6_copyText_135 rfl rfl ?_
    refine zr_aload_n X 137 1 dX6_copyText_136 rfl rfl ?_
    refine zr_get X 140 7 4 hx89 rfl iX6 (by decide) w1 rfl rfl dX6_copyText_137 rfl ?_
    obtain ⟨t90r, t90e, t90e2, t90h, t90T, t90o, t90q⟩ := hw85.tx
    have t90g := t90T.rg
    have t90c := True.intro
    refine zr_callVe (kc' := 0) (ks' := 0) X 143 1 (f_appendT l Γ hd87 (by decide) (by decide) t90T t90o t90q (by omega) (by omega)) gX6_copyText_X2_append rfl (by decide +kernel) rfl (by decide) hd87.cl rfl rfl (Nat.le_of_ble_eq_true rfl) dX6_copyText_140 rfl (by omega) (by omega) (fun rv91 V92 hp93 => ?_)
    obtain ⟨hp93e, hp93z⟩ := hp93
    rw [hp93e]
    obtain ⟨hS94, fx95⟩ := hS83.setDr hp93z
    have dr96 := hp93z.1
    have dr96r := dr96.rg
    have hw97 := hw86.kept hp93z.2 (by omega) (by omega)
    have hw98 := hw85.kept hp93z.2 (by omega) (by omega)
    have fx99 := zag.tr fx88 fx95
    have hx100 : V92 (ad 1) = some (1, .inr (7, [.ref (ad 2), .ref (ad 20), .ref (ad 22), .ref (ad 24), .ref (ad 16), .ref (ad 31), .ref (ad 33), .ref (ad 35), .ref (ad 40), .ref (ad 45), .int (zI (σ 30)), .int (zI (σ 31)), .int (zI (σ 32)), .int (zI (σ 33))])) := hS94.1
    show zG C V92 0 0 143 [(4, .int (zI (((σ (4 * q.toNat + 1)) - (σ (4 * q.toNat + 2))) / 2))), (0, .ref (ad 1)), (1, .ref (ad (10 + q.toNat))), (2, .int (zI (how))), (3, .ref (ad 31))] []
    refine zr_aload_n X 144 1 dX6_copyText_143 rfl rfl ?_
    refine zr_get X 147 7 4 hx100 rfl iX6 (by decide) w1 rfl rfl dX6_copyText_144 rfl ?_
    refine zr_aload_n X 148 2 dX6_copyText_147 rfl rfl ?_
    refine zr_iload X 150 0 dX6_copyText_148 rfl rfl ?_
    refine zr_aload_n X 151 2 dX6_copyText_150 rfl rfl ?_
    refine zr_callVe (kc' := 0) (ks' := 0) X 154 0 (e_size l Γ hw97) gX6_copyText_X5_size rfl (by decide +kernel) rfl (by decide) hw97.cl rfl rfl (Nat.le_of_ble_eq_true rfl) dX6_copyText_151 rfl (by omega) (by omega) (fun rv101 V102 hp103 => ?_)
    rw [hp103.1, hp103.2]
    show zG C V92 0 0 154 [(4, .int (zI (((σ (4 * q.toNat + 1)) - (σ (4 * q.toNat + 2))) / 2))), (0, .ref (ad 1)), (1, .ref (ad (10 + q.toNat))), (2, .int (zI (how))), (3, .ref (ad 31))] [.int (zI ((σ (4 * q.toNat + 1)) - (σ (4 * q.toNat + 2)))), .int (zI (((σ (4 * q.toNat + 1)) - (σ (4 * q.toNat + 2))) / 2)), .ref (ad (10 + q.toNat)), .ref (ad 16)]
    refine zr_callVe (kc' := 0) (ks' := 0) X 157 3 (e_part l Γ hw98 hw97 (by omega) (zneW hw98 hw97 (by omega)) (a := ((σ (4 * q.toNat + 1)) - (σ (4 * q.toNat + 2))) / 2) (b := (σ (4 * q.toNat + 1)) - (σ (4 * q.toNat + 2))) (by omega)) gX6_copyText_X5_becomePart rfl (by decide +kernel) rfl (by decide) hw98.cl rfl rfl (Nat.le_of_ble_eq_true rfl) dX6_copyText_154 rfl (by omega) (by omega) (fun rv104 V105 hp106 => ?_)
    obtain ⟨hp106e, hp106n⟩ := hp106
    rw [hp106e]
    have hp106z := hp106n.1
    obtain ⟨hS107, fx108⟩ := hS94.setD hp106n
    have hw109 := hp106z.1
    have hw109r := hw109.rg
    have hw110 := hw97.row hp106z.2.1 (by omega) hp106z.2.2
    have hd111 := dr96.kept hp106z.2.1 (by omega) (by omega)
    have fx112 := zag.tr fx99 fx108
    have hx113 : V105 (ad 1) = some (1, .inr (7, [.ref (ad 2), .ref (ad 20), .ref (ad 22), .ref (ad 24), .ref (ad 16), .ref (ad 31), .ref (ad 33), .ref (ad 35), .ref (ad 40), .ref (ad 45), .int (zI (σ 30)), .int (zI (σ 31)), .int (zI (σ 32)), .int (zI (σ 33))])) := hS107.1
    show zG C V105 0 0 157 [(4, .int (zI (((σ (4 * q.toNat + 1)) - (σ (4 * q.toNat + 2))) / 2))), (0, .ref (ad 1)), (1, .ref (ad (10 + q.toNat))), (2, .int (zI (how))), (3, .ref (ad 31))] []
    refine zr_aload_n X 158 4 dX6_copyText_157 rfl rfl ?_
    refine zr_aload_n X 159 1 dX6_copyText_158 rfl rfl ?_
    refine zr_get X 162 7 4 hx113 rfl iX6 (by decide) w1 rfl rfl dX6_copyText_159 rfl ?_
    obtain ⟨t114r, t114e, t114e2, t114h, t114T, t114o, t114q⟩ := hw109.tx
    have t114g := t114T.rg
    have t114c := True.intro
    refine zr_callVe (kc' := 0) (ks' := 0) X 165 1 (f_appendT l Γ hd111 (by decide) (by decide) t114T t114o t114q (by omega) (by omega)) gX6_copyText_X2_append rfl (by decide +kernel) rfl (by decide) hd111.cl rfl rfl (Nat.le_of_ble_eq_true rfl) dX6_copyText_162 rfl (by omega) (by omega) (fun rv115 V116 hp117 => ?_)
    obtain ⟨hp117e, hp117z⟩ := hp117
    rw [hp117e]
    obtain ⟨hS118, fx119⟩ := hS107.setDr hp117z
    have dr120 := hp117z.1
    have dr120r := dr120.rg
    have hw121 := hw110.kept hp117z.2 (by omega) (by omega)
    have hw122 := hw109.kept hp117z.2 (by omega) (by omega)
    have fx123 := zag.tr fx112 fx119
    have hx124 : V116 (ad 1) = some (1, .inr (7, [.ref (ad 2), .ref (ad 20), .ref (ad 22), .ref (ad 24), .ref (ad 16), .ref (ad 31), .ref (ad 33), .ref (ad 35), .ref (ad 40), .ref (ad 45), .int (zI (σ 30)), .int (zI (σ 31)), .int (zI (σ 32)), .int (zI (σ 33))])) := hS118.1
    show zG C V116 0 0 165 [(4, .int (zI (((σ (4 * q.toNat + 1)) - (σ (4 * q.toNat + 2))) / 2))), (0, .ref (ad 1)), (1, .ref (ad (10 + q.toNat))), (2, .int (zI (how))), (3, .ref (ad 31))] []
    exact zr_vret X rfl ⟨rfl, hS118, fx123⟩ dX6_copyText_165
set_option maxRecDepth 100000 in
set_option maxHeartbeats 4000000 in
theorem m_X6_copyText_s (l : Launch) (Γ : zGam) {V : zV} {ad : Nat → Nat} {σ : Nat → Int} {q how : Int} (hS : zS Γ V ad σ) (hq : 0 ≤ q ∧ q < 6) (hh : 0 ≤ how ∧ how ≤ 3) : zM l Γ 6 yX6_copyText wsX6_copyText 0 0 V [.ref (ad 1), .ref (ad (10 + q.toNat)), .int (zI (how)), .ref (ad 33)] (fun rv V' => rv = none ∧ zS Γ V' ad σ ∧ zfx V V') := by
  have iX5 : ∀ w ∈ u_ws RX5 TX5 6, w ∈ wsX6_copyText := by decide +kernel
  have w1 : Cond.fieldLink RX6 35 "Sashwords" "aside" "LSashwords$Window;" ∈ wsX6_copyText := by decide +kernel
  have iX6 : ∀ w ∈ u_ws RX6 TX6 14, w ∈ wsX6_copyText := by decide +kernel
  refine zM_of (cc := cX6_copyText) (nL := 5) (ret := none) (own := RX6) (by decide +kernel) rfl rfl (Nat.le_of_ble_eq_true rfl) (fun C X hi0 => ?_)
  have hx1 : V (ad 1) = some (1, .inr (7, [.ref (ad 2), .ref (ad 20), .ref (ad 22), .ref (ad 24), .ref (ad 16), .ref (ad 31), .ref (ad 33), .ref (ad 35), .ref (ad 40), .ref (ad 45), .int (zI (σ 30)), .int (zI (σ 31)), .int (zI (σ 32)), .int (zI (σ 33))])) := hS.1
  have hw2 := hS.w (i := q.toNat) (by omega)
  have hw2r := hw2.rg
  obtain ⟨as3c, as3l, as3p, as3m, as3⟩ := hS.2.2.2.1
  have as3r := as3.rg
  obtain ⟨dr4n, dr4⟩ := hS.2.2.2.2.1.2.2.2
  have dr4r := dr4.rg
  show zG C V 0 0 0 [(0, .ref (ad 1)), (1, .ref (ad (10 + q.toNat))), (2, .int (zI (how))), (3, .ref (ad 33))] []
  refine zr_aload_n X 1 3 dX6_copyText_0 rfl rfl ?_
  refine zr_callVe (kc' := 0) (ks' := 0) X 4 0 (f_clear l Γ dr4 (by decide)) gX6_copyText_X2_clear rfl (by decide +kernel) rfl (by decide) dr4.cl rfl rfl (Nat.le_of_ble_eq_true rfl) dX6_copyText_1 rfl (by omega) (by omega) (fun rv5 V6 hp7 => ?_)
  obtain ⟨hp7e, hp7z⟩ := hp7
  rw [hp7e]
  obtain ⟨hS8, fx9⟩ := hS.setSd hp7z
  have dr10 := hp7z.1
  have dr10r := dr10.rg
  have hw11 := hw2.kept hp7z.2 (by omega) (by omega)
  have hw12 := as3.kept hp7z.2 (by omega) (by omega)
  have hx13 : V6 (ad 1) = some (1, .inr (7, [.ref (ad 2), .ref (ad 20), .ref (ad 22), .ref (ad 24), .ref (ad 16), .ref (ad 31), .ref (ad 33), .ref (ad 35), .ref (ad 40), .ref (ad 45), .int (zI (σ 30)), .int (zI (σ 31)), .int (zI (σ 32)), .int (zI (σ 33))])) := hS8.1
  show zG C V6 0 0 4 [(0, .ref (ad 1)), (1, .ref (ad (10 + q.toNat))), (2, .int (zI (how))), (3, .ref (ad 33))] []
  refine zr_iload_n X 5 2 dX6_copyText_4 rfl rfl ?_
  rcases (by omega : how = 0 ∨ how = 1 ∨ how = 2 ∨ ¬ (0 ≤ how ∧ how < 3)) with ts14 | ts14 | ts14 | ts14
  · refine zr_tsIn X 32 0 ts14 (by decide) dX6_copyText_5 (by decide) (by decide) rfl rfl ?_
    refine zr_aload_n X 33 3 dX6_copyText_32 rfl rfl ?_
    refine zr_aload_n X 34 1 dX6_copyText_33 rfl rfl ?_
    obtain ⟨t15r, t15e, t15e2, t15h, t15T, t15o, t15q⟩ := hw11.tx
    have t15g := t15T.rg
    have t15c := True.intro
    refine zr_callVe (kc' := 0) (ks' := 0) X 37 1 (f_appendT l Γ dr10 (by decide) (by decide) t15T t15o t15q (by omega) (by omega)) gX6_copyText_X2_append rfl (by decide +kernel) rfl (by decide) dr10.cl rfl rfl (Nat.le_of_ble_eq_true rfl) dX6_copyText_34 rfl (by omega) (by omega) (fun rv16 V17 hp18 => ?_)
    obtain ⟨hp18e, hp18z⟩ := hp18
    rw [hp18e]
    obtain ⟨hS19, fx20⟩ := hS8.setSd hp18z
    have dr21 := hp18z.1
    have dr21r := dr21.rg
    have hw22 := hw11.kept hp18z.2 (by omega) (by omega)
    have hw23 := hw12.kept hp18z.2 (by omega) (by omega)
    have fx24 := zag.tr fx9 fx20
    have hx25 : V17 (ad 1) = some (1, .inr (7, [.ref (ad 2), .ref (ad 20), .ref (ad 22), .ref (ad 24), .ref (ad 16), .ref (ad 31), .ref (ad 33), .ref (ad 35), .ref (ad 40), .ref (ad 45), .int (zI (σ 30)), .int (zI (σ 31)), .int (zI (σ 32)), .int (zI (σ 33))])) := hS19.1
    show zG C V17 0 0 37 [(0, .ref (ad 1)), (1, .ref (ad (10 + q.toNat))), (2, .int (zI (how))), (3, .ref (ad 33))] []
    refine zr_goto X 165 dX6_copyText_37 rfl ?_
    exact zr_vret X rfl ⟨rfl, hS19, fx24⟩ dX6_copyText_165
  · refine zr_tsIn X 40 1 ts14 (by decide) dX6_copyText_5 (by decide) (by decide) rfl rfl ?_
    refine zr_aload_n X 41 1 dX6_copyText_40 rfl rfl ?_
    refine zr_getNw X 44 4 5 hw11 (σ (4 * q.toNat + 2)) (by simp) iX5 rfl dX6_copyText_41 rfl ?_
    refine zr_istore X 46 [(4, .int (zI (σ (4 * q.toNat + 2)))), (0, .ref (ad 1)), (1, .ref (ad (10 + q.toNat))), (2, .int (zI (how))), (3, .ref (ad 33))] dX6_copyText_44 rfl (by decide) rfl ?_
    refine zr_sub [0, 4, 3, 2, 1] [(4, .int (zI (σ (4 * q.toNat + 2)))), (3, .ref (ad 33)), (2, .int (zI (how))), (1, .ref (ad (10 + q.toNat))), (0, .ref (ad 1))] rfl ?_
    have loop : ∀ (N : Nat) (V1 : zV) (p1 : Int) (n1 : Int), zS Γ V1 ad σ ∧ zfx V V1 ∧ zSc Γ V1 33 (ad 33) 34 (ad 34) 80 n1 ∧ σ (4 * q.toNat + 2) ≤ p1 ∧ p1 ≤ σ (4 * q.toNat + 1) ∧ n1 = p1 - σ (4 * q.toNat + 2) → (σ (4 * q.toNat + 1) - p1).toNat = N → zG C V1 0 0 46 [(4, .int (zI (p1))), (3, .ref (ad 33)), (2, .int (zI (how))), (1, .ref (ad (10 + q.toNat))), (0, .ref (ad 1))] [] := by
      intro N
      induction N using Nat.strongRecOn with
      | _ N ih =>
      intro V1 p1 n1 hI hN
      obtain ⟨hI1, hI2, hI3, hI4, hI5, hI6⟩ := id hI
      have hx26 : V1 (ad 1) = some (1, .inr (7, [.ref (ad 2), .ref (ad 20), .ref (ad 22), .ref (ad 24), .ref (ad 16), .ref (ad 31), .ref (ad 33), .ref (ad 35), .ref (ad 40), .ref (ad 45), .int (zI (σ 30)), .int (zI (σ 31)), .int (zI (σ 32)), .int (zI (σ 33))])) := hI1.1
      have hw27 := hI1.w (i := q.toNat) (by omega)
      have hw27r := hw27.rg
      have hDr := hI3.rg
      refine zr_iload X 48 0 dX6_copyText_46 rfl rfl ?_
      refine zr_aload_n X 49 3 dX6_copyText_48 rfl rfl ?_
      refine zr_getNw X 52 3 4 hw27 (σ (4 * q.toNat + 1)) (by simp) iX5 rfl dX6_copyText_49 rfl ?_
      refine zr_icmp_ge X 71 55 dX6_copyText_52 rfl rfl (by omega) (by omega) (fun bq28 => ?_) (fun bq28 => ?_)
      · refine zr_goto X 165 dX6_copyText_71 rfl ?_
        exact zr_vret X rfl ⟨rfl, hI1, hI2⟩ dX6_copyText_165
      · refine zr_aload_n X 56 1 dX6_copyText_55 rfl rfl ?_
        refine zr_aload_n X 57 3 dX6_copyText_56 rfl rfl ?_
        refine zr_iload X 59 0 dX6_copyText_57 rfl rfl ?_
        refine zr_callVe (kc' := 0) (ks' := 0) X 62 1 (e_atPlace l Γ hw27 (k := p1) (by omega)) gX6_copyText_X5_atPlace rfl (by decide +kernel) rfl (by decide) hw27.cl rfl rfl (Nat.le_of_ble_eq_true rfl) dX6_copyText_59 rfl (by omega) (by omega) (fun rv29 V30 hp31 => ?_)
        obtain ⟨hp31x, hp31e, hp31v, hp31a, hp31b, hp31c, hp31d⟩ := hp31
        rw [hp31e, hp31v]
        show zG C V1 0 0 62 [(4, .int (zI (p1))), (3, .ref (ad 33)), (2, .int (zI (how))), (1, .ref (ad (10 + q.toNat))), (0, .ref (ad 1))] [.int (zI (hp31x)), .ref (ad 33)]
        refine zr_callVe (kc' := 0) (ks' := 0) X 65 1 (f_add l Γ hI3 (by decide) (by decide) (x := hp31x) (by omega) (by omega)) gX6_copyText_X2_add rfl (by decide +kernel) rfl (by decide) hI3.cl rfl rfl (Nat.le_of_ble_eq_true rfl) dX6_copyText_62 rfl (by omega) (by omega) (fun rv32 V33 hp34 => ?_)
        obtain ⟨hp34e, hp34z⟩ := hp34
        rw [hp34e]
        obtain ⟨hS35, fx36⟩ := hI1.setSd hp34z
        have dr37 := hp34z.1
        have dr37r := dr37.rg
        have hw38 := hw27.kept hp34z.2 (by omega) (by omega)
        have fx39 := zag.tr hI2 fx36
        have hx40 : V33 (ad 1) = some (1, .inr (7, [.ref (ad 2), .ref (ad 20), .ref (ad 22), .ref (ad 24), .ref (ad 16), .ref (ad 31), .ref (ad 33), .ref (ad 35), .ref (ad 40), .ref (ad 45), .int (zI (σ 30)), .int (zI (σ 31)), .int (zI (σ 32)), .int (zI (σ 33))])) := hS35.1
        show zG C V33 0 0 65 [(4, .int (zI (p1))), (3, .ref (ad 33)), (2, .int (zI (how))), (1, .ref (ad (10 + q.toNat))), (0, .ref (ad 1))] []
        refine zr_iinc X 68 0 [(4, .int (zI (p1 + 1))), (3, .ref (ad 33)), (2, .int (zI (how))), (1, .ref (ad (10 + q.toNat))), (0, .ref (ad 1))] dX6_copyText_65 rfl rfl (by decide) rfl ?_
        refine zr_goto X 46 dX6_copyText_68 rfl ?_
        exact ih _ (by omega) V33 (p1 + 1) (n1 + 1) ⟨hS35, fx39, dr37, by omega, by omega, by omega⟩ rfl
    exact loop _ V6 (σ (4 * q.toNat + 2)) 0 ⟨hS8, fx9, dr10, by omega, by omega, by omega⟩ rfl
  · refine zr_tsIn X 74 2 ts14 (by decide) dX6_copyText_5 (by decide) (by decide) rfl rfl ?_
    refine zr_aload_n X 75 0 dX6_copyText_74 rfl rfl ?_
    refine zr_get X 78 7 4 hx13 rfl iX6 (by decide) w1 rfl rfl dX6_copyText_75 rfl ?_
    refine zr_aload_n X 79 1 dX6_copyText_78 rfl rfl ?_
    refine zr_callVe (kc' := 0) (ks' := 0) X 82 1 (e_like l Γ hw12 hw11 (by omega) (zneW hw12 hw11 (by omega))) gX6_copyText_X5_becomeLike rfl (by decide +kernel) rfl (by decide) hw12.cl rfl rfl (Nat.le_of_ble_eq_true rfl) dX6_copyText_79 rfl (by omega) (by omega) (fun rv41 V42 hp43 => ?_)
    obtain ⟨hp43e, hp43n⟩ := hp43
    rw [hp43e]
    have hp43z := hp43n.1
    obtain ⟨hS44, fx45⟩ := hS8.setD hp43n
    have hw46 := hp43z.1
    have hw46r := hw46.rg
    have hw47 := hw11.row hp43z.2.1 (by omega) hp43z.2.2
    have hd48 := dr10.kept hp43z.2.1 (by omega) (by omega)
    have fx49 := zag.tr fx9 fx45
    have hx50 : V42 (ad 1) = some (1, .inr (7, [.ref (ad 2), .ref (ad 20), .ref (ad 22), .ref (ad 24), .ref (ad 16), .ref (ad 31), .ref (ad 33), .ref (ad 35), .ref (ad 40), .ref (ad 45), .int (zI (σ 30)), .int (zI (σ 31)), .int (zI (σ 32)), .int (zI (σ 33))])) := hS44.1
    show zG C V42 0 0 82 [(0, .ref (ad 1)), (1, .ref (ad (10 + q.toNat))), (2, .int (zI (how))), (3, .ref (ad 33))] []
    refine zr_aload_n X 83 0 dX6_copyText_82 rfl rfl ?_
    refine zr_get X 86 7 4 hx50 rfl iX6 (by decide) w1 rfl rfl dX6_copyText_83 rfl ?_
    refine zr_callVe (kc' := 0) (ks' := 0) X 89 0 (e_size l Γ hw46) gX6_copyText_X5_size rfl (by decide +kernel) rfl (by decide) hw46.cl rfl rfl (Nat.le_of_ble_eq_true rfl) dX6_copyText_86 rfl (by omega) (by omega) (fun rv51 V52 hp53 => ?_)
    rw [hp53.1, hp53.2]
    show zG C V42 0 0 89 [(0, .ref (ad 1)), (1, .ref (ad (10 + q.toNat))), (2, .int (zI (how))), (3, .ref (ad 33))] [.int (zI ((σ (4 * q.toNat + 1)) - (σ (4 * q.toNat + 2))))]
    refine zr_istore X 91 [(4, .int (zI ((σ (4 * q.toNat + 1)) - (σ (4 * q.toNat + 2))))), (0, .ref (ad 1)), (1, .ref (ad (10 + q.toNat))), (2, .int (zI (how))), (3, .ref (ad 33))] dX6_copyText_89 rfl (by decide) rfl ?_
    refine zr_sub [0, 4, 3, 2, 1] [(4, .int (zI ((σ (4 * q.toNat + 1)) - (σ (4 * q.toNat + 2))))), (3, .ref (ad 33)), (2, .int (zI (how))), (1, .ref (ad (10 + q.toNat))), (0, .ref (ad 1))] rfl ?_
    have loop : ∀ (N : Nat) (V1 : zV) (p1 : Int) (r1 : Int) (n1 : Int), zS Γ V1 ad σ ∧ zfx V V1 ∧ zSc Γ V1 33 (ad 33) 34 (ad 34) 80 n1 ∧ zWi Γ V1 16 (ad 16) (σ (4 * q.toNat)) (σ (4 * q.toNat + 1)) p1 (σ (4 * q.toNat + 3)) ∧ σ (4 * q.toNat + 2) ≤ p1 ∧ r1 = σ (4 * q.toNat + 1) - p1 ∧ n1 = p1 - σ (4 * q.toNat + 2) → r1.toNat = N → zG C V1 0 0 91 [(4, .int (zI (r1))), (3, .ref (ad 33)), (2, .int (zI (how))), (1, .ref (ad (10 + q.toNat))), (0, .ref (ad 1))] [] := by
      intro N
      induction N using Nat.strongRecOn with
      | _ N ih =>
      intro V1 p1 r1 n1 hI hN
      obtain ⟨hI1, hI2, hI3, hI4, hI5, hI6, hI7⟩ := id hI
      have hx54 : V1 (ad 1) = some (1, .inr (7, [.ref (ad 2), .ref (ad 20), .ref (ad 22), .ref (ad 24), .ref (ad 16), .ref (ad 31), .ref (ad 33), .ref (ad 35), .ref (ad 40), .ref (ad 45), .int (zI (σ 30)), .int (zI (σ 31)), .int (zI (σ 32)), .int (zI (σ 33))])) := hI1.1
      have hw55 := hI1.w (i := q.toNat) (by omega)
      have hw55r := hw55.rg
      have hDr := hI3.rg
      have hIr := hI4.rg
      refine zr_iload X 93 0 dX6_copyText_91 rfl rfl ?_
      refine zr_if_le X 113 96 dX6_copyText_93 rfl rfl (by omega) (fun bq56 => ?_) (fun bq56 => ?_)
      · refine zr_goto X 165 dX6_copyText_113 rfl ?_
        exact zr_vret X rfl ⟨rfl, hI1, hI2⟩ dX6_copyText_165
      · refine zr_aload_n X 97 1 dX6_copyText_96 rfl rfl ?_
        refine zr_aload_n X 98 4 dX6_copyText_97 rfl rfl ?_
        refine zr_get X 101 7 4 hx54 rfl iX6 (by decide) w1 rfl rfl dX6_copyText_98 rfl ?_
        refine zr_callVe (kc' := 0) (ks' := 0) X 104 0 (e_read l Γ hI4 (by omega) (by omega)) gX6_copyText_X5_readSign rfl (by decide +kernel) rfl (by decide) hI4.cl rfl rfl (Nat.le_of_ble_eq_true rfl) dX6_copyText_101 rfl (by omega) (by omega) (fun rv57 V58 hp59 => ?_)
        obtain ⟨hp59x, hp59e, hp59a, hp59b, hp59n⟩ := hp59
        rw [hp59e]
        have hp59z := hp59n.1
        obtain ⟨hS60, fx61⟩ := hI1.setD hp59n
        have hw62 := hp59z.1
        have hw62r := hw62.rg
        have hw63 := hw55.row hp59z.2.1 (by omega) hp59z.2.2
        have hd64 := hI3.kept hp59z.2.1 (by omega) (by omega)
        have fx65 := zag.tr hI2 fx61
        have hx66 : V58 (ad 1) = some (1, .inr (7, [.ref (ad 2), .ref (ad 20), .ref (ad 22), .ref (ad 24), .ref (ad 16), .ref (ad 31), .ref (ad 33), .ref (ad 35), .ref (ad 40), .ref (ad 45), .int (zI (σ 30)), .int (zI (σ 31)), .int (zI (σ 32)), .int (zI (σ 33))])) := hS60.1
        show zG C V58 0 0 104 [(4, .int (zI (r1))), (3, .ref (ad 33)), (2, .int (zI (how))), (1, .ref (ad (10 + q.toNat))), (0, .ref (ad 1))] [.int (zI (hp59x)), .ref (ad 33)]
        refine zr_callVe (kc' := 0) (ks' := 0) X 107 1 (f_add l Γ hd64 (by decide) (by decide) (x := hp59x) (by omega) (by omega)) gX6_copyText_X2_add rfl (by decide +kernel) rfl (by decide) hd64.cl rfl rfl (Nat.le_of_ble_eq_true rfl) dX6_copyText_104 rfl (by omega) (by omega) (fun rv67 V68 hp69 => ?_)
        obtain ⟨hp69e, hp69z⟩ := hp69
        rw [hp69e]
        obtain ⟨hS70, fx71⟩ := hS60.setSd hp69z
        have dr72 := hp69z.1
        have dr72r := dr72.rg
        have hw73 := hw63.kept hp69z.2 (by omega) (by omega)
        have hw74 := hw62.kept hp69z.2 (by omega) (by omega)
        have fx75 := zag.tr fx65 fx71
        have hx76 : V68 (ad 1) = some (1, .inr (7, [.ref (ad 2), .ref (ad 20), .ref (ad 22), .ref (ad 24), .ref (ad 16), .ref (ad 31), .ref (ad 33), .ref (ad 35), .ref (ad 40), .ref (ad 45), .int (zI (σ 30)), .int (zI (σ 31)), .int (zI (σ 32)), .int (zI (σ 33))])) := hS70.1
        show zG C V68 0 0 107 [(4, .int (zI (r1))), (3, .ref (ad 33)), (2, .int (zI (how))), (1, .ref (ad (10 + q.toNat))), (0, .ref (ad 1))] []
        refine zr_iinc X 110 0 [(4, .int (zI (r1 + (-1)))), (3, .ref (ad 33)), (2, .int (zI (how))), (1, .ref (ad (10 + q.toNat))), (0, .ref (ad 1))] dX6_copyText_107 rfl rfl (by decide) rfl ?_
        refine zr_goto X 91 dX6_copyText_110 rfl ?_
        exact ih _ (by omega) V68 (p1 + 1) (r1 + (-1)) (n1 + 1) ⟨hS70, fx75, dr72, hw74, by omega, by omega, by omega⟩ rfl
    exact loop _ V42 (σ (4 * q.toNat + 2)) ((σ (4 * q.toNat + 1)) - (σ (4 * q.toNat + 2))) 0 ⟨hS44, fx49, hd48, hw46, by omega, by omega, by omega⟩ rfl
  · refine zr_tsOut X 116 (by omega) dX6_copyText_5 (by omega) rfl ?_
    refine zr_aload_n X 117 1 dX6_copyText_116 rfl rfl ?_
    refine zr_callVe (kc' := 0) (ks' := 0) X 120 0 (e_size l Γ hw11) gX6_copyText_X5_size rfl (by decide +kernel) rfl (by decide) hw11.cl rfl rfl (Nat.le_of_ble_eq_true rfl) dX6_copyText_117 rfl (by omega) (by omega) (fun rv77 V78 hp79 => ?_)
    rw [hp79.1, hp79.2]
    show zG C V6 0 0 120 [(0, .ref (ad 1)), (1, .ref (ad (10 + q.toNat))), (2, .int (zI (how))), (3, .ref (ad 33))] [.int (zI ((σ (4 * q.toNat + 1)) - (σ (4 * q.toNat + 2))))]
    refine zr_iconst X 121 dX6_copyText_120 rfl ?_
    refine zr_idiv X 122 dX6_copyText_121 rfl (by omega) (by omega) ?_
    refine zr_istore X 124 [(4, .int (zI (((σ (4 * q.toNat + 1)) - (σ (4 * q.toNat + 2))) / 2))), (0, .ref (ad 1)), (1, .ref (ad (10 + q.toNat))), (2, .int (zI (how))), (3, .ref (ad 33))] dX6_copyText_122 rfl (by decide) rfl ?_
    refine zr_aload_n X 125 1 dX6_copyText_124 rfl rfl ?_
    refine zr_get X 128 7 4 hx13 rfl iX6 (by decide) w1 rfl rfl dX6_copyText_125 rfl ?_
    refine zr_aload_n X 129 2 dX6_copyText_128 rfl rfl ?_
    refine zr_iconst X 130 dX6_copyText_129 rfl ?_
    refine zr_iload X 132 0 dX6_copyText_130 rfl rfl ?_
    refine zr_callVe (kc' := 0) (ks' := 0) X 135 3 (e_part l Γ hw12 hw11 (by omega) (zneW hw12 hw11 (by omega)) (a := 0) (b := ((σ (4 * q.toNat + 1)) - (σ (4 * q.toNat + 2))) / 2) (by omega)) gX6_copyText_X5_becomePart rfl (by decide +kernel) rfl (by decide) hw12.cl rfl rfl (Nat.le_of_ble_eq_true rfl) dX6_copyText_132 rfl (by omega) (by omega) (fun rv80 V81 hp82 => ?_)
    obtain ⟨hp82e, hp82n⟩ := hp82
    rw [hp82e]
    have hp82z := hp82n.1
    obtain ⟨hS83, fx84⟩ := hS8.setD hp82n
    have hw85 := hp82z.1
    have hw85r := hw85.rg
    have hw86 := hw11.row hp82z.2.1 (by omega) hp82z.2.2
    have hd87 := dr10.kept hp82z.2.1 (by omega) (by omega)
    have fx88 := zag.tr fx9 fx84
    have hx89 : V81 (ad 1) = some (1, .inr (7, [.ref (ad 2), .ref (ad 20), .ref (ad 22), .ref (ad 24), .ref (ad 16), .ref (ad 31), .ref (ad 33), .ref (ad 35), .ref (ad 40), .ref (ad 45), .int (zI (σ 30)), .int (zI (σ 31)), .int (zI (σ 32)), .int (zI (σ 33))])) := hS83.1
    show zG C V81 0 0 135 [(4, .int (zI (((σ (4 * q.toNat + 1)) - (σ (4 * q.toNat + 2))) / 2))), (0, .ref (ad 1)), (1, .ref (ad (10 + q.toNat))), (2, .int (zI (how))), (3, .ref (ad 33))] []
    refine zr_aload_n X 136 4 dX6_copyText_135 rfl rfl ?_
    refine zr_aload_n X 137 1 dX6_copyText_136 rfl rfl ?_
    refine zr_get X 140 7 4 hx89 rfl iX6 (by decide) w1 rfl rfl dX6_copyText_137 rfl ?_
    obtain ⟨t90r, t90e, t90e2, t90h, t90T, t90o, t90q⟩ := hw85.tx
    have t90g := t90T.rg
    have t90c := True.intro
    refine zr_callVe (kc' := 0) (ks' := 0) X 143 1 (f_appendT l Γ hd87 (by decide) (by decide) t90T t90o t90q (by omega) (by omega)) gX6_copyText_X2_append rfl (by decide +kernel) rfl (by decide) hd87.cl rfl rfl (Nat.le_of_ble_eq_true rfl) dX6_copyText_140 rfl (by omega) (by omega) (fun rv91 V92 hp93 => ?_)
    obtain ⟨hp93e, hp93z⟩ := hp93
    rw [hp93e]
    obtain ⟨hS94, fx95⟩ := hS83.setSd hp93z
    have dr96 := hp93z.1
    have dr96r := dr96.rg
    have hw97 := hw86.kept hp93z.2 (by omega) (by omega)
    have hw98 := hw85.kept hp93z.2 (by omega) (by omega)
    have fx99 := zag.tr fx88 fx95
    have hx100 : V92 (ad 1) = some (1, .inr (7, [.ref (ad 2), .ref (ad 20), .ref (ad 22), .ref (ad 24), .ref (ad 16), .ref (ad 31), .ref (ad 33), .ref (ad 35), .ref (ad 40), .ref (ad 45), .int (zI (σ 30)), .int (zI (σ 31)), .int (zI (σ 32)), .int (zI (σ 33))])) := hS94.1
    show zG C V92 0 0 143 [(4, .int (zI (((σ (4 * q.toNat + 1)) - (σ (4 * q.toNat + 2))) / 2))), (0, .ref (ad 1)), (1, .ref (ad (10 + q.toNat))), (2, .int (zI (how))), (3, .ref (ad 33))] []
    refine zr_aload_n X 144 1 dX6_copyText_143 rfl rfl ?_
    refine zr_get X 147 7 4 hx100 rfl iX6 (by decide) w1 rfl rfl dX6_copyText_144 rfl ?_
    refine zr_aload_n X 148 2 dX6_copyText_147 rfl rfl ?_
    refine zr_iload X 150 0 dX6_copyText_148 rfl rfl ?_
    refine zr_aload_n X 151 2 dX6_copyText_150 rfl rfl ?_
    refine zr_callVe (kc' := 0) (ks' := 0) X 154 0 (e_size l Γ hw97) gX6_copyText_X5_size rfl (by decide +kernel) rfl (by decide) hw97.cl rfl rfl (Nat.le_of_ble_eq_true rfl) dX6_copyText_151 rfl (by omega) (by omega) (fun rv101 V102 hp103 => ?_)
    rw [hp103.1, hp103.2]
    show zG C V92 0 0 154 [(4, .int (zI (((σ (4 * q.toNat + 1)) - (σ (4 * q.toNat + 2))) / 2))), (0, .ref (ad 1)), (1, .ref (ad (10 + q.toNat))), (2, .int (zI (how))), (3, .ref (ad 33))] [.int (zI ((σ (4 * q.toNat + 1)) - (σ (4 * q.toNat + 2)))), .int (zI (((σ (4 * q.toNat + 1)) - (σ (4 * q.toNat + 2))) / 2)), .ref (ad (10 + q.toNat)), .ref (ad 16)]
    refine zr_callVe (kc' := 0) (ks' := 0) X 157 3 (e_part l Γ hw98 hw97 (by omega) (zneW hw98 hw97 (by omega)) (a := ((σ (4 * q.toNat + 1)) - (σ (4 * q.toNat + 2))) / 2) (b := (σ (4 * q.toNat + 1)) - (σ (4 * q.toNat + 2))) (by omega)) gX6_copyText_X5_becomePart rfl (by decide +kernel) rfl (by decide) hw98.cl rfl rfl (Nat.le_of_ble_eq_true rfl) dX6_copyText_154 rfl (by omega) (by omega) (fun rv104 V105 hp106 => ?_)
    obtain ⟨hp106e, hp106n⟩ := hp106
    rw [hp106e]
    have hp106z := hp106n.1
    obtain ⟨hS107, fx108⟩ := hS94.setD hp106n
    have hw109 := hp106z.1
    have hw109r := hw109.rg
    have hw110 := hw97.row hp106z.2.1 (by omega) hp106z.2.2
    have hd111 := dr96.kept hp106z.2.1 (by omega) (by omega)
    have fx112 := zag.tr fx99 fx108
    have hx113 : V105 (ad 1) = some (1, .inr (7, [.ref (ad 2), .ref (ad 20), .ref (ad 22), .ref (ad 24), .ref (ad 16), .ref (ad 31), .ref (ad 33), .ref (ad 35), .ref (ad 40), .ref (ad 45), .int (zI (σ 30)), .int (zI (σ 31)), .int (zI (σ 32)), .int (zI (σ 33))])) := hS107.1
    show zG C V105 0 0 157 [(4, .int (zI (((σ (4 * q.toNat + 1)) - (σ (4 * q.toNat + 2))) / 2))), (0, .ref (ad 1)), (1, .ref (ad (10 + q.toNat))), (2, .int (zI (how))), (3, .ref (ad 33))] []
    refine zr_aload_n X 158 4 dX6_copyText_157 rfl rfl ?_
    refine zr_aload_n X 159 1 dX6_copyText_158 rfl rfl ?_
    refine zr_get X 162 7 4 hx113 rfl iX6 (by decide) w1 rfl rfl dX6_copyText_159 rfl ?_
    obtain ⟨t114r, t114e, t114e2, t114h, t114T, t114o, t114q⟩ := hw109.tx
    have t114g := t114T.rg
    have t114c := True.intro
    refine zr_callVe (kc' := 0) (ks' := 0) X 165 1 (f_appendT l Γ hd111 (by decide) (by decide) t114T t114o t114q (by omega) (by omega)) gX6_copyText_X2_append rfl (by decide +kernel) rfl (by decide) hd111.cl rfl rfl (Nat.le_of_ble_eq_true rfl) dX6_copyText_162 rfl (by omega) (by omega) (fun rv115 V116 hp117 => ?_)
    obtain ⟨hp117e, hp117z⟩ := hp117
    rw [hp117e]
    obtain ⟨hS118, fx119⟩ := hS107.setSd hp117z
    have dr120 := hp117z.1
    have dr120r := dr120.rg
    have hw121 := hw110.kept hp117z.2 (by omega) (by omega)
    have hw122 := hw109.kept hp117z.2 (by omega) (by omega)
    have fx123 := zag.tr fx112 fx119
    have hx124 : V116 (ad 1) = some (1, .inr (7, [.ref (ad 2), .ref (ad 20), .ref (ad 22), .ref (ad 24), .ref (ad 16), .ref (ad 31), .ref (ad 33), .ref (ad 35), .ref (ad 40), .ref (ad 45), .int (zI (σ 30)), .int (zI (σ 31)), .int (zI (σ 32)), .int (zI (σ 33))])) := hS118.1
    show zG C V116 0 0 165 [(4, .int (zI (((σ (4 * q.toNat + 1)) - (σ (4 * q.toNat + 2))) / 2))), (0, .ref (ad 1)), (1, .ref (ad (10 + q.toNat))), (2, .int (zI (how))), (3, .ref (ad 33))] []
    exact zr_vret X rfl ⟨rfl, hS118, fx123⟩ dX6_copyText_165
set_option maxRecDepth 100000 in
set_option maxHeartbeats 4000000 in
theorem m_X6_text (l : Launch) (hlt : l.stackTraces = false) (Γ : zGam) {V : zV} {ad : Nat → Nat} {σ : Nat → Int} {q how : Int} (hS : zS Γ V ad σ) (hq : -2147483648 ≤ q ∧ q ≤ 2147483647) (hh : -2147483648 ≤ how ∧ how ≤ 2147483647) : zN l Γ 10 yX6_text wsX6_text 3012 6312 V [.ref (ad 1), .int (zI (q)), .int (zI (how))] (fun rv V' => ∃ (z : Nat) (σ' : Nat → Int), rv = some (.ref z) ∧ zS Γ V' ad σ' ∧ zfx V V' ∧ ((0 ≤ q ∧ q < 6 ∧ 0 ≤ how ∧ how ≤ 3) ∧ σ' = σ)) (fun E V' => V' = V ∧ ((E = zIO ∧ ¬ (0 ≤ q ∧ q < 6)) ∨ (E = zIA ∧ (0 ≤ q ∧ q < 6) ∧ ¬ (0 ≤ how ∧ how ≤ 3)))) := by
  have w0 : Cond.fieldLink RX6 39 "Sashwords" "draft" "LSashwords$Script;" ∈ wsX6_text := by decide +kernel
  have iX6 : ∀ w ∈ u_ws RX6 TX6 14, w ∈ wsX6_text := by decide +kernel
  refine zN_of (cc := cX6_text) (nL := 4) (ret := (some (.object "java/lang/String"))) (own := RX6) hlt (by decide +kernel) rfl rfl (Nat.le_of_ble_eq_true rfl) (fun C X Y => ?_)
  have hx1 : V (ad 1) = some (1, .inr (7, [.ref (ad 2), .ref (ad 20), .ref (ad 22), .ref (ad 24), .ref (ad 16), .ref (ad 31), .ref (ad 33), .ref (ad 35), .ref (ad 40), .ref (ad 45), .int (zI (σ 30)), .int (zI (σ 31)), .int (zI (σ 32)), .int (zI (σ 33))])) := hS.1
  show zG C V 3012 6312 0 [(0, .ref (ad 1)), (1, .int (zI (q))), (2, .int (zI (how)))] []
  refine zr_aload_n X 1 0 dX6_text_0 rfl rfl ?_
  refine zr_iload_n X 2 1 dX6_text_1 rfl rfl ?_
  refine zr_callVN (kc' := 3012 - 1) (ks' := 6312 - 6) X Y 5 1 (m_X6_windowOf l hlt Γ hS (q := q) (by omega)) gX6_text_X6_windowOf rfl (by decide +kernel) rfl (by decide) hx1 rfl rfl (Nat.le_of_ble_eq_true rfl) dX6_text_2 rfl (by omega) (by omega) (fun E W hX => ⟨hX.2.2, Or.inl ⟨hX.1, by have := hX.2.1; omega⟩⟩) (fun rv2 V3 hp4 => ?_)
  obtain ⟨hp4a, hp4b, hp4c⟩ := hp4
  rw [hp4b, hp4c]
  have hw5 := hS.w (i := q.toNat) (by omega)
  have hw5r := hw5.rg
  show zG C V (3012 - 1) (6312 - 6) 5 [(0, .ref (ad 1)), (1, .int (zI (q))), (2, .int (zI (how)))] [.ref (ad (10 + q.toNat))]
  refine zr_astore_n X 6 [(3, .ref (ad (10 + q.toNat))), (0, .ref (ad 1)), (1, .int (zI (q))), (2, .int (zI (how)))] dX6_text_5 rfl (by decide) rfl ?_
  refine zr_iload_n X 7 3 dX6_text_6 rfl rfl ?_
  refine zr_iconst X 8 dX6_text_7 rfl ?_
  refine zr_iconst X 9 dX6_text_8 rfl ?_
  refine zr_callSN (kc' := (3012 - 1) - 1) (ks' := (6312 - 6) - 6) X Y 12 3 (m_X6_requireWithin l hlt Γ (V := V) (x := how) (a := 0) (b := 3) (by omega) (by omega) (by omega)) gX6_text_X6_requireWithin rfl (by decide +kernel) rfl (by decide) rfl (Nat.le_of_ble_eq_true rfl) dX6_text_9 rfl (by omega) (by omega) (fun E W hX => ⟨hX.2.2, Or.inr ⟨hX.1, by have := hX.2.1; omega⟩⟩) (fun rv6 V7 hp8 => ?_)
  obtain ⟨hp8a, hp8b, hp8c⟩ := hp8
  rw [hp8b, hp8c]
  show zG C V ((3012 - 1) - 1) ((6312 - 6) - 6) 12 [(3, .ref (ad (10 + q.toNat))), (0, .ref (ad 1)), (1, .int (zI (q))), (2, .int (zI (how)))] []
  refine zr_aload_n X 13 1 dX6_text_12 rfl rfl ?_
  refine zr_aload_n X 14 0 dX6_text_13 rfl rfl ?_
  refine zr_iload_n X 15 3 dX6_text_14 rfl rfl ?_
  refine zr_aload_n X 16 1 dX6_text_15 rfl rfl ?_
  refine zr_get X 19 7 5 hx1 rfl iX6 (by decide) w0 rfl rfl dX6_text_16 rfl ?_
  refine zr_callVe (kc' := ((3012 - 1) - 1)) (ks' := ((6312 - 6) - 6)) X 22 3 (m_X6_copyText_d l Γ (q := q) (how := how) hS (by omega) (by omega)) gX6_text_X6_copyText rfl (by decide +kernel) rfl (by decide) hS.x rfl rfl (Nat.le_of_ble_eq_true rfl) dX6_text_19 rfl (by omega) (by omega) (fun rv9 V10 hp11 => ?_)
  obtain ⟨hp11e, hp11s, hp11x⟩ := hp11
  rw [hp11e]
  have hx12 : V10 (ad 1) = some (1, .inr (7, [.ref (ad 2), .ref (ad 20), .ref (ad 22), .ref (ad 24), .ref (ad 16), .ref (ad 31), .ref (ad 33), .ref (ad 35), .ref (ad 40), .ref (ad 45), .int (zI (σ 30)), .int (zI (σ 31)), .int (zI (σ 32)), .int (zI (σ 33))])) := hp11s.1
  have hw13 := hp11s.w (i := q.toNat) (by omega)
  have hw13r := hw13.rg
  show zG C V10 ((3012 - 1) - 1) ((6312 - 6) - 6) 22 [(3, .ref (ad (10 + q.toNat))), (0, .ref (ad 1)), (1, .int (zI (q))), (2, .int (zI (how)))] []
  refine zr_aload_n X 23 1 dX6_text_22 rfl rfl ?_
  refine zr_get X 26 7 5 hx12 rfl iX6 (by decide) w0 rfl rfl dX6_text_23 rfl ?_
  obtain ⟨dr14n, dr14⟩ := hp11s.2.2.2.2.1.2.2.1
  have dr14r := dr14.rg
  obtain ⟨t15e, t15e2, t15h, t15T, t15o, t15q⟩ := dr14.tx (by decide)
  have t15g := t15T.rg
  have t15c := True.intro
  refine zr_callS (kc' := ((3012 - 1) - 1) - 3010) (ks' := ((6312 - 6) - 6) - 6300) X 29 1 (m_X6_spelled l Γ (V := V10) t15T t15o t15q (by omega) (by omega)) gX6_text_X6_spelled rfl (by decide +kernel) rfl (by decide) rfl (Nat.le_of_ble_eq_true rfl) dX6_text_26 rfl (by omega) (by omega) (fun rv16 V17 hp18 => ?_)
  obtain ⟨hp18z, hp18e, hp18f⟩ := hp18
  rw [hp18e]
  obtain ⟨hS19, fx20⟩ := hp11s.fr hp18f
  have hw21 := hw13.kept hp18f.ag (by omega) (by omega)
  have hd22 := dr14.kept hp18f.ag (by omega) (by omega)
  have fx23 := zag.tr hp11x fx20
  have hx24 : V17 (ad 1) = some (1, .inr (7, [.ref (ad 2), .ref (ad 20), .ref (ad 22), .ref (ad 24), .ref (ad 16), .ref (ad 31), .ref (ad 33), .ref (ad 35), .ref (ad 40), .ref (ad 45), .int (zI (σ 30)), .int (zI (σ 31)), .int (zI (σ 32)), .int (zI (σ 33))])) := hS19.1
  show zG C V17 (((3012 - 1) - 1) - 3010) (((6312 - 6) - 6) - 6300) 29 [(3, .ref (ad (10 + q.toNat))), (0, .ref (ad 1)), (1, .int (zI (q))), (2, .int (zI (how)))] [.ref hp18z]
  exact zr_aret X rfl (Or.inl ⟨_, rfl⟩) ⟨_, σ, rfl, hS19, fx23, ⟨by omega, rfl⟩⟩ dX6_text_29
set_option maxRecDepth 100000 in
set_option maxHeartbeats 4000000 in
theorem m_X6_inner (l : Launch) (hlt : l.stackTraces = false) (Γ : zGam) {V : zV} {ad : Nat → Nat} {σ : Nat → Int} {q a b c e how : Int} (hS : zS Γ V ad σ) (hq : -2147483648 ≤ q ∧ q ≤ 2147483647) (ha : -2147483648 ≤ a ∧ a ≤ 2147483647) (hb : -2147483648 ≤ b ∧ b ≤ 2147483647) (hc : -2147483648 ≤ c ∧ c ≤ 2147483647) (he : -2147483648 ≤ e ∧ e ≤ 2147483647) (hh : -2147483648 ≤ how ∧ how ≤ 2147483647) : zN l Γ 10 yX6_inner wsX6_inner 3013 6318 V [.ref (ad 1), .int (zI (q)), .int (zI (a)), .int (zI (b)), .int (zI (c)), .int (zI (e)), .int (zI (how))] (fun rv V' => ∃ (z : Nat) (σ' : Nat → Int), rv = some (.ref z) ∧ zS Γ V' ad σ' ∧ zfx V V' ∧ ((0 ≤ q ∧ q < 6) ∧ (0 ≤ a ∧ a ≤ b ∧ b ≤ σ (4 * q.toNat + 1) - σ (4 * q.toNat + 2) ∧ 0 ≤ c ∧ c ≤ e ∧ e ≤ b - a ∧ 0 ≤ how ∧ how ≤ 2) ∧ σ' = σ)) (fun E V' => V' = V ∧ ((E = zIO ∧ ¬ (0 ≤ q ∧ q < 6)) ∨ (E = zIA ∧ (0 ≤ q ∧ q < 6) ∧ ¬ (0 ≤ a ∧ a ≤ b ∧ b ≤ σ (4 * q.toNat + 1) - σ (4 * q.toNat + 2) ∧ 0 ≤ c ∧ c ≤ e ∧ e ≤ b - a ∧ 0 ≤ how ∧ how ≤ 2)))) := by
  have w0 : Cond.fieldLink RX6 35 "Sashwords" "aside" "LSashwords$Window;" ∈ wsX6_inner := by decide +kernel
  have iX6 : ∀ w ∈ u_ws RX6 TX6 14, w ∈ wsX6_inner := by decide +kernel
  refine zN_of (cc := cX6_inner) (nL := 8) (ret := (some (.object "java/lang/String"))) (own := RX6) hlt (by decide +kernel) rfl rfl (Nat.le_of_ble_eq_true rfl) (fun C X Y => ?_)
  have hx1 : V (ad 1) = some (1, .inr (7, [.ref (ad 2), .ref (ad 20), .ref (ad 22), .ref (ad 24), .ref (ad 16), .ref (ad 31), .ref (ad 33), .ref (ad 35), .ref (ad 40), .ref (ad 45), .int (zI (σ 30)), .int (zI (σ 31)), .int (zI (σ 32)), .int (zI (σ 33))])) := hS.1
  obtain ⟨as2c, as2l, as2p, as2m, as2⟩ := hS.2.2.2.1
  have as2r := as2.rg
  show zG C V 3013 6318 0 [(0, .ref (ad 1)), (1, .int (zI (q))), (2, .int (zI (a))), (3, .int (zI (b))), (4, .int (zI (c))), (5, .int (zI (e))), (6, .int (zI (how)))] []
  refine zr_aload_n X 1 0 dX6_inner_0 rfl rfl ?_
  refine zr_iload_n X 2 1 dX6_inner_1 rfl rfl ?_
  refine zr_callVN (kc' := 3013 - 1) (ks' := 6318 - 6) X Y 5 1 (m_X6_windowOf l hlt Γ hS (q := q) (by omega)) gX6_inner_X6_windowOf rfl (by decide +kernel) rfl (by decide) hx1 rfl rfl (Nat.le_of_ble_eq_true rfl) dX6_inner_2 rfl (by omega) (by omega) (fun E W hX => ⟨hX.2.2, Or.inl ⟨hX.1, by have := hX.2.1; omega⟩⟩) (fun rv3 V4 hp5 => ?_)
  obtain ⟨hp5a, hp5b, hp5c⟩ := hp5
  rw [hp5b, hp5c]
  have hw6 := hS.w (i := q.toNat) (by omega)
  have hw6r := hw6.rg
  show zG C V (3013 - 1) (6318 - 6) 5 [(0, .ref (ad 1)), (1, .int (zI (q))), (2, .int (zI (a))), (3, .int (zI (b))), (4, .int (zI (c))), (5, .int (zI (e))), (6, .int (zI (how)))] [.ref (ad (10 + q.toNat))]
  refine zr_astore X 7 [(7, .ref (ad (10 + q.toNat))), (0, .ref (ad 1)), (1, .int (zI (q))), (2, .int (zI (a))), (3, .int (zI (b))), (4, .int (zI (c))), (5, .int (zI (e))), (6, .int (zI (how)))] dX6_inner_5 rfl (by decide) rfl ?_
  refine zr_iload_n X 8 3 dX6_inner_7 rfl rfl ?_
  refine zr_iload_n X 9 4 dX6_inner_8 rfl rfl ?_
  refine zr_aload X 11 0 dX6_inner_9 rfl rfl ?_
  refine zr_callVe (kc' := (3013 - 1)) (ks' := (6318 - 6)) X 14 0 (e_size l Γ hw6) gX6_inner_X5_size rfl (by decide +kernel) rfl (by decide) hw6.cl rfl rfl (Nat.le_of_ble_eq_true rfl) dX6_inner_11 rfl (by omega) (by omega) (fun rv7 V8 hp9 => ?_)
  rw [hp9.1, hp9.2]
  show zG C V (3013 - 1) (6318 - 6) 14 [(7, .ref (ad (10 + q.toNat))), (0, .ref (ad 1)), (1, .int (zI (q))), (2, .int (zI (a))), (3, .int (zI (b))), (4, .int (zI (c))), (5, .int (zI (e))), (6, .int (zI (how)))] [.int (zI ((σ (4 * q.toNat + 1)) - (σ (4 * q.toNat + 2)))), .int (zI (b)), .int (zI (a))]
  refine zr_callS (kc' := (3013 - 1)) (ks' := (6318 - 6)) X 17 3 (m_X6_isStretch l Γ (V := V) (a := a) (b := b) (n := (σ (4 * q.toNat + 1)) - (σ (4 * q.toNat + 2))) (by omega) (by omega) (by omega)) gX6_inner_X6_isStretch rfl (by decide +kernel) rfl (by decide) rfl (Nat.le_of_ble_eq_true rfl) dX6_inner_14 rfl (by omega) (by omega) (fun rv10 V11 hp12 => ?_)
  obtain ⟨⟨x13, x13e, x13a⟩, x13v⟩ := hp12
  rw [x13e, x13v]
  show zG C V (3013 - 1) (6318 - 6) 17 [(7, .ref (ad (10 + q.toNat))), (0, .ref (ad 1)), (1, .int (zI (q))), (2, .int (zI (a))), (3, .int (zI (b))), (4, .int (zI (c))), (5, .int (zI (e))), (6, .int (zI (how)))] [.int (zI (x13))]
  refine zr_if_eq X 37 20 dX6_inner_17 rfl rfl (by omega) (fun bq14 => ?_) (fun bq14 => ?_)
  · refine zr_iconst X 38 dX6_inner_37 rfl ?_
    refine zr_callSN (kc' := (3013 - 1) - 1) (ks' := (6318 - 6) - 6) X Y 41 1 (m_X6_require l hlt Γ (V := V) (b := 0) (by omega)) gX6_inner_X6_require rfl (by decide +kernel) rfl (by decide) rfl (Nat.le_of_ble_eq_true rfl) dX6_inner_38 rfl (by omega) (by omega) (fun E W hX => ⟨hX.2.2, Or.inr ⟨hX.1, by have := hX.2.1; omega⟩⟩) (fun rv15 V16 hp17 => ?_)
    obtain ⟨hp17a, hp17b, hp17c⟩ := hp17
    rw [hp17b, hp17c]
    show zG C V ((3013 - 1) - 1) ((6318 - 6) - 6) 41 [(7, .ref (ad (10 + q.toNat))), (0, .ref (ad 1)), (1, .int (zI (q))), (2, .int (zI (a))), (3, .int (zI (b))), (4, .int (zI (c))), (5, .int (zI (e))), (6, .int (zI (how)))] []
    exfalso
    omega
  · refine zr_iload X 22 5 dX6_inner_20 rfl rfl ?_
    refine zr_iload X 24 6 dX6_inner_22 rfl rfl ?_
    refine zr_iload_n X 25 4 dX6_inner_24 rfl rfl ?_
    refine zr_iload_n X 26 3 dX6_inner_25 rfl rfl ?_
    refine zr_isub X 27 dX6_inner_26 rfl ?_
    refine zr_callS (kc' := (3013 - 1)) (ks' := (6318 - 6)) X 30 3 (m_X6_isStretch l Γ (V := V) (a := c) (b := e) (n := b - a) (by omega) (by omega) (by omega)) gX6_inner_X6_isStretch rfl (by decide +kernel) rfl (by decide) rfl (Nat.le_of_ble_eq_true rfl) dX6_inner_27 rfl (by omega) (by omega) (fun rv18 V19 hp20 => ?_)
    obtain ⟨⟨x21, x21e, x21a⟩, x21v⟩ := hp20
    rw [x21e, x21v]
    show zG C V (3013 - 1) (6318 - 6) 30 [(7, .ref (ad (10 + q.toNat))), (0, .ref (ad 1)), (1, .int (zI (q))), (2, .int (zI (a))), (3, .int (zI (b))), (4, .int (zI (c))), (5, .int (zI (e))), (6, .int (zI (how)))] [.int (zI (x21))]
    refine zr_if_eq X 37 33 dX6_inner_30 rfl rfl (by omega) (fun bq22 => ?_) (fun bq22 => ?_)
    · refine zr_iconst X 38 dX6_inner_37 rfl ?_
      refine zr_callSN (kc' := (3013 - 1) - 1) (ks' := (6318 - 6) - 6) X Y 41 1 (m_X6_require l hlt Γ (V := V) (b := 0) (by omega)) gX6_inner_X6_require rfl (by decide +kernel) rfl (by decide) rfl (Nat.le_of_ble_eq_true rfl) dX6_inner_38 rfl (by omega) (by omega) (fun E W hX => ⟨hX.2.2, Or.inr ⟨hX.1, by have := hX.2.1; omega⟩⟩) (fun rv23 V24 hp25 => ?_)
      obtain ⟨hp25a, hp25b, hp25c⟩ := hp25
      rw [hp25b, hp25c]
      show zG C V ((3013 - 1) - 1) ((6318 - 6) - 6) 41 [(7, .ref (ad (10 + q.toNat))), (0, .ref (ad 1)), (1, .int (zI (q))), (2, .int (zI (a))), (3, .int (zI (b))), (4, .int (zI (c))), (5, .int (zI (e))), (6, .int (zI (how)))] []
      exfalso
      omega
    · refine zr_iconst X 34 dX6_inner_33 rfl ?_
      refine zr_goto X 38 dX6_inner_34 rfl ?_
      refine zr_callSN (kc' := (3013 - 1) - 1) (ks' := (6318 - 6) - 6) X Y 41 1 (m_X6_require l hlt Γ (V := V) (b := 1) (by omega)) gX6_inner_X6_require rfl (by decide +kernel) rfl (by decide) rfl (Nat.le_of_ble_eq_true rfl) dX6_inner_38 rfl (by omega) (by omega) (fun E W hX => ⟨hX.2.2, Or.inr ⟨hX.1, by have := hX.2.1; omega⟩⟩) (fun rv26 V27 hp28 => ?_)
      obtain ⟨hp28a, hp28b, hp28c⟩ := hp28
      rw [hp28b, hp28c]
      show zG C V ((3013 - 1) - 1) ((6318 - 6) - 6) 41 [(7, .ref (ad (10 + q.toNat))), (0, .ref (ad 1)), (1, .int (zI (q))), (2, .int (zI (a))), (3, .int (zI (b))), (4, .int (zI (c))), (5, .int (zI (e))), (6, .int (zI (how)))] []
      refine zr_iload X 43 7 dX6_inner_41 rfl rfl ?_
      refine zr_iconst X 44 dX6_inner_43 rfl ?_
      refine zr_iconst X 45 dX6_inner_44 rfl ?_
      refine zr_callSN (kc' := ((3013 - 1) - 1) - 1) (ks' := ((6318 - 6) - 6) - 6) X Y 48 3 (m_X6_requireWithin l hlt Γ (V := V) (x := how) (a := 0) (b := 2) (by omega) (by omega) (by omega)) gX6_inner_X6_requireWithin rfl (by decide +kernel) rfl (by decide) rfl (Nat.le_of_ble_eq_true rfl) dX6_inner_45 rfl (by omega) (by omega) (fun E W hX => ⟨hX.2.2, Or.inr ⟨hX.1, by have := hX.2.1; omega⟩⟩) (fun rv29 V30 hp31 => ?_)
      obtain ⟨hp31a, hp31b, hp31c⟩ := hp31
      rw [hp31b, hp31c]
      show zG C V (((3013 - 1) - 1) - 1) (((6318 - 6) - 6) - 6) 48 [(7, .ref (ad (10 + q.toNat))), (0, .ref (ad 1)), (1, .int (zI (q))), (2, .int (zI (a))), (3, .int (zI (b))), (4, .int (zI (c))), (5, .int (zI (e))), (6, .int (zI (how)))] []
      refine zr_iload X 50 7 dX6_inner_48 rfl rfl ?_
      refine zr_iconst X 51 dX6_inner_50 rfl ?_
      refine zr_icmp_ne X 79 54 dX6_inner_51 rfl rfl (by omega) (by omega) (fun bq32 => ?_) (fun bq32 => ?_)
      · refine zr_aload_n X 80 1 dX6_inner_79 rfl rfl ?_
        refine zr_get X 83 7 4 hx1 rfl iX6 (by decide) w0 rfl rfl dX6_inner_80 rfl ?_
        refine zr_aload X 85 0 dX6_inner_83 rfl rfl ?_
        refine zr_iload_n X 86 3 dX6_inner_85 rfl rfl ?_
        refine zr_iload_n X 87 4 dX6_inner_86 rfl rfl ?_
        refine zr_callVe (kc' := (((3013 - 1) - 1) - 1)) (ks' := (((6318 - 6) - 6) - 6)) X 90 3 (e_part l Γ as2 hw6 (by omega) (zneW as2 hw6 (by omega)) (a := a) (b := b) (by omega)) gX6_inner_X5_becomePart rfl (by decide +kernel) rfl (by decide) as2.cl rfl rfl (Nat.le_of_ble_eq_true rfl) dX6_inner_87 rfl (by omega) (by omega) (fun rv33 V34 hp35 => ?_)
        obtain ⟨hp35e, hp35n⟩ := hp35
        rw [hp35e]
        have hp35z := hp35n.1
        obtain ⟨hS36, fx37⟩ := hS.setD hp35n
        have hw38 := hp35z.1
        have hw38r := hw38.rg
        have hw39 := hw6.row hp35z.2.1 (by omega) hp35z.2.2
        have hx40 : V34 (ad 1) = some (1, .inr (7, [.ref (ad 2), .ref (ad 20), .ref (ad 22), .ref (ad 24), .ref (ad 16), .ref (ad 31), .ref (ad 33), .ref (ad 35), .ref (ad 40), .ref (ad 45), .int (zI (σ 30)), .int (zI (σ 31)), .int (zI (σ 32)), .int (zI (σ 33))])) := hS36.1
        show zG C V34 (((3013 - 1) - 1) - 1) (((6318 - 6) - 6) - 6) 90 [(7, .ref (ad (10 + q.toNat))), (0, .ref (ad 1)), (1, .int (zI (q))), (2, .int (zI (a))), (3, .int (zI (b))), (4, .int (zI (c))), (5, .int (zI (e))), (6, .int (zI (how)))] []
        refine zr_iload X 92 7 dX6_inner_90 rfl rfl ?_
        refine zr_iconst X 93 dX6_inner_92 rfl ?_
        refine zr_icmp_ne X 107 96 dX6_inner_93 rfl rfl (by omega) (by omega) (fun bq41 => ?_) (fun bq41 => ?_)
        · refine zr_aload_n X 108 1 dX6_inner_107 rfl rfl ?_
          refine zr_get X 111 7 4 hx40 rfl iX6 (by decide) w0 rfl rfl dX6_inner_108 rfl ?_
          refine zr_aload_n X 112 1 dX6_inner_111 rfl rfl ?_
          refine zr_get X 115 7 4 hx40 rfl iX6 (by decide) w0 rfl rfl dX6_inner_112 rfl ?_
          refine zr_iload X 117 5 dX6_inner_115 rfl rfl ?_
          refine zr_iload X 119 6 dX6_inner_117 rfl rfl ?_
          refine zr_callVe (kc' := (((3013 - 1) - 1) - 1)) (ks' := (((6318 - 6) - 6) - 6)) X 122 3 (e_part_eq l Γ hw38 (by omega) (a := c) (b := e) (by omega)) gX6_inner_X5_becomePart rfl (by decide +kernel) rfl (by decide) hw38.cl rfl rfl (Nat.le_of_ble_eq_true rfl) dX6_inner_119 rfl (by omega) (by omega) (fun rv42 V43 hp44 => ?_)
          obtain ⟨hp44e, hp44n⟩ := hp44
          rw [hp44e]
          have hp44z := hp44n.1
          obtain ⟨hS45, fx46⟩ := hS36.setD hp44n
          have hw47 := hp44z.1
          have hw47r := hw47.rg
          have hw48 := hw39.row hp44z.2.1 (by omega) hp44z.2.2
          have fx49 := zag.tr fx37 fx46
          have hx50 : V43 (ad 1) = some (1, .inr (7, [.ref (ad 2), .ref (ad 20), .ref (ad 22), .ref (ad 24), .ref (ad 16), .ref (ad 31), .ref (ad 33), .ref (ad 35), .ref (ad 40), .ref (ad 45), .int (zI (σ 30)), .int (zI (σ 31)), .int (zI (σ 32)), .int (zI (σ 33))])) := hS45.1
          show zG C V43 (((3013 - 1) - 1) - 1) (((6318 - 6) - 6) - 6) 122 [(7, .ref (ad (10 + q.toNat))), (0, .ref (ad 1)), (1, .int (zI (q))), (2, .int (zI (a))), (3, .int (zI (b))), (4, .int (zI (c))), (5, .int (zI (e))), (6, .int (zI (how)))] []
          refine zr_aload_n X 123 1 dX6_inner_122 rfl rfl ?_
          refine zr_get X 126 7 4 hx50 rfl iX6 (by decide) w0 rfl rfl dX6_inner_123 rfl ?_
          obtain ⟨t51r, t51e, t51e2, t51h, t51T, t51o, t51q⟩ := hw47.tx
          have t51g := t51T.rg
          have t51c := True.intro
          refine zr_callS (kc' := (((3013 - 1) - 1) - 1) - 3010) (ks' := (((6318 - 6) - 6) - 6) - 6300) X 129 1 (m_X6_spelled l Γ (V := V43) t51T t51o t51q (by omega) (by omega)) gX6_inner_X6_spelled rfl (by decide +kernel) rfl (by decide) rfl (Nat.le_of_ble_eq_true rfl) dX6_inner_126 rfl (by omega) (by omega) (fun rv52 V53 hp54 => ?_)
          obtain ⟨hp54z, hp54e, hp54f⟩ := hp54
          rw [hp54e]
          obtain ⟨hS55, fx56⟩ := hS45.fr hp54f
          have hw57 := hw47.kept hp54f.ag (by omega) (by omega)
          have hw58 := hw48.kept hp54f.ag (by omega) (by omega)
          have fx59 := zag.tr fx49 fx56
          have hx60 : V53 (ad 1) = some (1, .inr (7, [.ref (ad 2), .ref (ad 20), .ref (ad 22), .ref (ad 24), .ref (ad 16), .ref (ad 31), .ref (ad 33), .ref (ad 35), .ref (ad 40), .ref (ad 45), .int (zI (σ 30)), .int (zI (σ 31)), .int (zI (σ 32)), .int (zI (σ 33))])) := hS55.1
          show zG C V53 ((((3013 - 1) - 1) - 1) - 3010) ((((6318 - 6) - 6) - 6) - 6300) 129 [(7, .ref (ad (10 + q.toNat))), (0, .ref (ad 1)), (1, .int (zI (q))), (2, .int (zI (a))), (3, .int (zI (b))), (4, .int (zI (c))), (5, .int (zI (e))), (6, .int (zI (how)))] [.ref hp54z]
          exact zr_aret X rfl (Or.inl ⟨_, rfl⟩) ⟨_, σ, rfl, hS55, fx59, ⟨by omega, by omega, rfl⟩⟩ dX6_inner_129
        · refine zr_aload_n X 97 1 dX6_inner_96 rfl rfl ?_
          refine zr_get X 100 7 4 hx40 rfl iX6 (by decide) w0 rfl rfl dX6_inner_97 rfl ?_
          refine zr_aload_n X 101 1 dX6_inner_100 rfl rfl ?_
          refine zr_get X 104 7 4 hx40 rfl iX6 (by decide) w0 rfl rfl dX6_inner_101 rfl ?_
          refine zr_callVe (kc' := (((3013 - 1) - 1) - 1)) (ks' := (((6318 - 6) - 6) - 6)) X 107 1 (e_slice_eq l Γ hw38 (by omega)) gX6_inner_X5_becomeSlice rfl (by decide +kernel) rfl (by decide) hw38.cl rfl rfl (Nat.le_of_ble_eq_true rfl) dX6_inner_104 rfl (by omega) (by omega) (fun rv61 V62 hp63 => ?_)
          obtain ⟨hp63e, hp63n⟩ := hp63
          rw [hp63e]
          have hp63z := hp63n.1
          obtain ⟨hS64, fx65⟩ := hS36.setD hp63n
          have hw66 := hp63z.1
          have hw66r := hw66.rg
          have hw67 := hw39.row hp63z.2.1 (by omega) hp63z.2.2
          have fx68 := zag.tr fx37 fx65
          have hx69 : V62 (ad 1) = some (1, .inr (7, [.ref (ad 2), .ref (ad 20), .ref (ad 22), .ref (ad 24), .ref (ad 16), .ref (ad 31), .ref (ad 33), .ref (ad 35), .ref (ad 40), .ref (ad 45), .int (zI (σ 30)), .int (zI (σ 31)), .int (zI (σ 32)), .int (zI (σ 33))])) := hS64.1
          show zG C V62 (((3013 - 1) - 1) - 1) (((6318 - 6) - 6) - 6) 107 [(7, .ref (ad (10 + q.toNat))), (0, .ref (ad 1)), (1, .int (zI (q))), (2, .int (zI (a))), (3, .int (zI (b))), (4, .int (zI (c))), (5, .int (zI (e))), (6, .int (zI (how)))] []
          refine zr_aload_n X 108 1 dX6_inner_107 rfl rfl ?_
          refine zr_get X 111 7 4 hx69 rfl iX6 (by decide) w0 rfl rfl dX6_inner_108 rfl ?_
          refine zr_aload_n X 112 1 dX6_inner_111 rfl rfl ?_
          refine zr_get X 115 7 4 hx69 rfl iX6 (by decide) w0 rfl rfl dX6_inner_112 rfl ?_
          refine zr_iload X 117 5 dX6_inner_115 rfl rfl ?_
          refine zr_iload X 119 6 dX6_inner_117 rfl rfl ?_
          refine zr_callVe (kc' := (((3013 - 1) - 1) - 1)) (ks' := (((6318 - 6) - 6) - 6)) X 122 3 (e_part_eq l Γ hw66 (by omega) (a := c) (b := e) (by omega)) gX6_inner_X5_becomePart rfl (by decide +kernel) rfl (by decide) hw66.cl rfl rfl (Nat.le_of_ble_eq_true rfl) dX6_inner_119 rfl (by omega) (by omega) (fun rv70 V71 hp72 => ?_)
          obtain ⟨hp72e, hp72n⟩ := hp72
          rw [hp72e]
          have hp72z := hp72n.1
          obtain ⟨hS73, fx74⟩ := hS64.setD hp72n
          have hw75 := hp72z.1
          have hw75r := hw75.rg
          have hw76 := hw67.row hp72z.2.1 (by omega) hp72z.2.2
          have fx77 := zag.tr fx68 fx74
          have hx78 : V71 (ad 1) = some (1, .inr (7, [.ref (ad 2), .ref (ad 20), .ref (ad 22), .ref (ad 24), .ref (ad 16), .ref (ad 31), .ref (ad 33), .ref (ad 35), .ref (ad 40), .ref (ad 45), .int (zI (σ 30)), .int (zI (σ 31)), .int (zI (σ 32)), .int (zI (σ 33))])) := hS73.1
          show zG C V71 (((3013 - 1) - 1) - 1) (((6318 - 6) - 6) - 6) 122 [(7, .ref (ad (10 + q.toNat))), (0, .ref (ad 1)), (1, .int (zI (q))), (2, .int (zI (a))), (3, .int (zI (b))), (4, .int (zI (c))), (5, .int (zI (e))), (6, .int (zI (how)))] []
          refine zr_aload_n X 123 1 dX6_inner_122 rfl rfl ?_
          refine zr_get X 126 7 4 hx78 rfl iX6 (by decide) w0 rfl rfl dX6_inner_123 rfl ?_
          obtain ⟨t79r, t79e, t79e2, t79h, t79T, t79o, t79q⟩ := hw75.tx
          have t79g := t79T.rg
          have t79c := True.intro
          refine zr_callS (kc' := (((3013 - 1) - 1) - 1) - 3010) (ks' := (((6318 - 6) - 6) - 6) - 6300) X 129 1 (m_X6_spelled l Γ (V := V71) t79T t79o t79q (by omega) (by omega)) gX6_inner_X6_spelled rfl (by decide +kernel) rfl (by decide) rfl (Nat.le_of_ble_eq_true rfl) dX6_inner_126 rfl (by omega) (by omega) (fun rv80 V81 hp82 => ?_)
          obtain ⟨hp82z, hp82e, hp82f⟩ := hp82
          rw [hp82e]
          obtain ⟨hS83, fx84⟩ := hS73.fr hp82f
          have hw85 := hw75.kept hp82f.ag (by omega) (by omega)
          have hw86 := hw76.kept hp82f.ag (by omega) (by omega)
          have fx87 := zag.tr fx77 fx84
          have hx88 : V81 (ad 1) = some (1, .inr (7, [.ref (ad 2), .ref (ad 20), .ref (ad 22), .ref (ad 24), .ref (ad 16), .ref (ad 31), .ref (ad 33), .ref (ad 35), .ref (ad 40), .ref (ad 45), .int (zI (σ 30)), .int (zI (σ 31)), .int (zI (σ 32)), .int (zI (σ 33))])) := hS83.1
          show zG C V81 ((((3013 - 1) - 1) - 1) - 3010) ((((6318 - 6) - 6) - 6) - 6300) 129 [(7, .ref (ad (10 + q.toNat))), (0, .ref (ad 1)), (1, .int (zI (q))), (2, .int (zI (a))), (3, .int (zI (b))), (4, .int (zI (c))), (5, .int (zI (e))), (6, .int (zI (how)))] [.ref hp82z]
          exact zr_aret X rfl (Or.inl ⟨_, rfl⟩) ⟨_, σ, rfl, hS83, fx87, ⟨by omega, by omega, rfl⟩⟩ dX6_inner_129
      · refine zr_aload_n X 55 1 dX6_inner_54 rfl rfl ?_
        refine zr_get X 58 7 4 hx1 rfl iX6 (by decide) w0 rfl rfl dX6_inner_55 rfl ?_
        refine zr_aload X 60 0 dX6_inner_58 rfl rfl ?_
        refine zr_iload_n X 61 3 dX6_inner_60 rfl rfl ?_
        refine zr_iload X 63 5 dX6_inner_61 rfl rfl ?_
        refine zr_iadd X 64 dX6_inner_63 rfl ?_
        refine zr_iload_n X 65 3 dX6_inner_64 rfl rfl ?_
        refine zr_iload X 67 6 dX6_inner_65 rfl rfl ?_
        refine zr_iadd X 68 dX6_inner_67 rfl ?_
        refine zr_callVe (kc' := (((3013 - 1) - 1) - 1)) (ks' := (((6318 - 6) - 6) - 6)) X 71 3 (e_part l Γ as2 hw6 (by omega) (zneW as2 hw6 (by omega)) (a := a + c) (b := a + e) (by omega)) gX6_inner_X5_becomePart rfl (by decide +kernel) rfl (by decide) as2.cl rfl rfl (Nat.le_of_ble_eq_true rfl) dX6_inner_68 rfl (by omega) (by omega) (fun rv89 V90 hp91 => ?_)
        obtain ⟨hp91e, hp91n⟩ := hp91
        rw [hp91e]
        have hp91z := hp91n.1
        obtain ⟨hS92, fx93⟩ := hS.setD hp91n
        have hw94 := hp91z.1
        have hw94r := hw94.rg
        have hw95 := hw6.row hp91z.2.1 (by omega) hp91z.2.2
        have hx96 : V90 (ad 1) = some (1, .inr (7, [.ref (ad 2), .ref (ad 20), .ref (ad 22), .ref (ad 24), .ref (ad 16), .ref (ad 31), .ref (ad 33), .ref (ad 35), .ref (ad 40), .ref (ad 45), .int (zI (σ 30)), .int (zI (σ 31)), .int (zI (σ 32)), .int (zI (σ 33))])) := hS92.1
        show zG C V90 (((3013 - 1) - 1) - 1) (((6318 - 6) - 6) - 6) 71 [(7, .ref (ad (10 + q.toNat))), (0, .ref (ad 1)), (1, .int (zI (q))), (2, .int (zI (a))), (3, .int (zI (b))), (4, .int (zI (c))), (5, .int (zI (e))), (6, .int (zI (how)))] []
        refine zr_aload_n X 72 1 dX6_inner_71 rfl rfl ?_
        refine zr_get X 75 7 4 hx96 rfl iX6 (by decide) w0 rfl rfl dX6_inner_72 rfl ?_
        obtain ⟨t97r, t97e, t97e2, t97h, t97T, t97o, t97q⟩ := hw94.tx
        have t97g := t97T.rg
        have t97c := True.intro
        refine zr_callS (kc' := (((3013 - 1) - 1) - 1) - 3010) (ks' := (((6318 - 6) - 6) - 6) - 6300) X 78 1 (m_X6_spelled l Γ (V := V90) t97T t97o t97q (by omega) (by omega)) gX6_inner_X6_spelled rfl (by decide +kernel) rfl (by decide) rfl (Nat.le_of_ble_eq_true rfl) dX6_inner_75 rfl (by omega) (by omega) (fun rv98 V99 hp100 => ?_)
        obtain ⟨hp100z, hp100e, hp100f⟩ := hp100
        rw [hp100e]
        obtain ⟨hS101, fx102⟩ := hS92.fr hp100f
        have hw103 := hw94.kept hp100f.ag (by omega) (by omega)
        have hw104 := hw95.kept hp100f.ag (by omega) (by omega)
        have fx105 := zag.tr fx93 fx102
        have hx106 : V99 (ad 1) = some (1, .inr (7, [.ref (ad 2), .ref (ad 20), .ref (ad 22), .ref (ad 24), .ref (ad 16), .ref (ad 31), .ref (ad 33), .ref (ad 35), .ref (ad 40), .ref (ad 45), .int (zI (σ 30)), .int (zI (σ 31)), .int (zI (σ 32)), .int (zI (σ 33))])) := hS101.1
        show zG C V99 ((((3013 - 1) - 1) - 1) - 3010) ((((6318 - 6) - 6) - 6) - 6300) 78 [(7, .ref (ad (10 + q.toNat))), (0, .ref (ad 1)), (1, .int (zI (q))), (2, .int (zI (a))), (3, .int (zI (b))), (4, .int (zI (c))), (5, .int (zI (e))), (6, .int (zI (how)))] [.ref hp100z]
        exact zr_aret X rfl (Or.inl ⟨_, rfl⟩) ⟨_, σ, rfl, hS101, fx105, ⟨by omega, by omega, rfl⟩⟩ dX6_inner_78
theorem zS.zsr {Γ : zGam} {V : zV} {ad : Nat → Nat} {σ : Nat → Int} (h : zS Γ V ad σ) {q : Int} (hq : 0 ≤ q ∧ q ≤ 7) : 0 ≤ zsz σ q ∧ zsz σ q ≤ 80 := by
  obtain ⟨r, to, tr, e, e2, h', a, b, c, d, x, y, z⟩ := h.txt hq
  exact ⟨x, y⟩
set_option maxRecDepth 100000 in
set_option maxHeartbeats 4000000 in
theorem m_X6_borders (l : Launch) (hlt : l.stackTraces = false) (Γ : zGam) {V : zV} {ad : Nat → Nat} {σ : Nat → Int} {q : Int} (hS : zS Γ V ad σ) (hq : -2147483648 ≤ q ∧ q ≤ 2147483647) : zN l Γ 10 yX6_borders wsX6_borders 3010 6300 V [.ref (ad 1), .int (zI (q))] (fun rv V' => ∃ (z : Nat) (σ' : Nat → Int), rv = some (.ref z) ∧ zS Γ V' ad σ' ∧ zfx V V' ∧ ((0 ≤ q ∧ q ≤ 7) ∧ σ' = σ)) (fun E V' => V' = V ∧ ((E = zIO ∧ ¬ (0 ≤ q ∧ q ≤ 7)) ∨ (E = zIA ∧ False))) := by
  have w0 : Cond.fieldLink RX6 58 "Sashwords" "table" "LSashwords$Borders;" ∈ wsX6_borders := by decide +kernel
  have iX6 : ∀ w ∈ u_ws RX6 TX6 14, w ∈ wsX6_borders := by decide +kernel
  have w2 : Cond.classLink RX6 113 RJ4 ∈ wsX6_borders := by decide +kernel
  have w3 : Cond.instantiable RJ4 4 ∈ wsX6_borders := by decide +kernel
  have w4 : Cond.initialized RJ4 ∈ wsX6_borders := by decide +kernel
  have iJ4 : ∀ w ∈ u_ws RJ4 TJ4 4, w ∈ wsX6_borders := by decide +kernel
  have w6 : Cond.initialized yJ4_init_da8c8.cls ∈ wsX6_borders := by decide +kernel
  have w7 : Cond.methodLink RX6 115 yJ4_init_da8c8 ∈ wsX6_borders := by decide +kernel
  have w8 : Cond.instanceMethod yJ4_init_da8c8 ∈ wsX6_borders := by decide +kernel
  refine zN_of (cc := cX6_borders) (nL := 5) (ret := (some (.object "java/lang/String"))) (own := RX6) hlt (by decide +kernel) rfl rfl (Nat.le_of_ble_eq_true rfl) (fun C X Y => ?_)
  have hx1 : V (ad 1) = some (1, .inr (7, [.ref (ad 2), .ref (ad 20), .ref (ad 22), .ref (ad 24), .ref (ad 16), .ref (ad 31), .ref (ad 33), .ref (ad 35), .ref (ad 40), .ref (ad 45), .int (zI (σ 30)), .int (zI (σ 31)), .int (zI (σ 32)), .int (zI (σ 33))])) := hS.1
  show zG C V 3010 6300 0 [(0, .ref (ad 1)), (1, .int (zI (q)))] []
  refine zr_aload_n X 1 0 dX6_borders_0 rfl rfl ?_
  refine zr_iload_n X 2 1 dX6_borders_1 rfl rfl ?_
  refine zr_callVN (kc' := 3010 - 1) (ks' := 6300 - 6) X Y 5 1 (m_X6_sourceOf l hlt Γ hS (q := q) (by omega)) gX6_borders_X6_sourceOf rfl (by decide +kernel) rfl (by decide) hx1 rfl rfl (Nat.le_of_ble_eq_true rfl) dX6_borders_2 rfl (by omega) (by omega) (fun E W hX => ⟨hX.2.2, Or.inl ⟨hX.1, by have := hX.2.1; omega⟩⟩) (fun rv2 V3 hp4 => ?_)
  obtain ⟨hp4a, hp4b, hp4c⟩ := hp4
  rw [hp4b, hp4c]
  obtain ⟨t5r, t5to, t5tr, t5e, t5e2, t5h, t5T, t5o, t5q, t5c, t5a, t5b, t5z⟩ := hS.txt (q := q) (by omega)
  have t5g := t5T.rg
  show zG C V (3010 - 1) (6300 - 6) 5 [(0, .ref (ad 1)), (1, .int (zI (q)))] [.ref (zso ad q)]
  refine zr_astore_n X 6 [(2, .ref (zso ad q)), (0, .ref (ad 1)), (1, .int (zI (q)))] dX6_borders_5 rfl (by decide) rfl ?_
  refine zr_aload_n X 7 1 dX6_borders_6 rfl rfl ?_
  refine zr_get X 10 7 9 hx1 rfl iX6 (by decide) w0 rfl rfl dX6_borders_7 rfl ?_
  refine zr_aload_n X 11 0 dX6_borders_10 rfl rfl ?_
  refine zr_callVe (kc' := (3010 - 1)) (ks' := (6300 - 6)) X 14 1 (g_measure l Γ hS.2.2.2.2.2.2.2.2.2.2 t5T t5o t5q (by omega) (by omega)) gX6_borders_X0_measure rfl (by decide +kernel) rfl (by decide) hS.2.2.2.2.2.2.2.2.2.2.cl rfl rfl (Nat.le_of_ble_eq_true rfl) dX6_borders_11 rfl (by omega) (by omega) (fun rv6 V7 hp8 => ?_)
  obtain ⟨hp8e, hp8w, hp8g, hp8f, hp8x, hp8z⟩ := hp8
  rw [hp8e]
  obtain ⟨hS9, fx10⟩ := hS.table hp8w (hp8g.mono (fun t ht => by omega))
  have hx11 : V7 (ad 1) = some (1, .inr (7, [.ref (ad 2), .ref (ad 20), .ref (ad 22), .ref (ad 24), .ref (ad 16), .ref (ad 31), .ref (ad 33), .ref (ad 35), .ref (ad 40), .ref (ad 45), .int (zI (σ 30)), .int (zI (σ 31)), .int (zI (σ 32)), .int (zI (σ 33))])) := hS9.1
  have t12o := hp8g _ _ _ t5o (by omega)
  have t12q := hp8g _ _ _ t5q (by omega)
  have t12T := t5T.kept (t12o.trans t5o.symm) (t12q.trans t5q.symm)
  have t12c := t5c
  have t12g := t12T.rg
  show zG C V7 (3010 - 1) (6300 - 6) 14 [(2, .ref (zso ad q)), (0, .ref (ad 1)), (1, .int (zI (q)))] []
  refine zr_new (kc' := ((3010 - 1) - 1)) (ks' := ((6300 - 6) - 4)) X 17 1 7 [.null, .int (zI (0)), .int (zI (0)), .int (zI (0))] tyJ4 rfl iJ4 tyJ4_ok w2 w3 w4 (zdf_J4) dX6_borders_14 rfl (by omega) (by omega) (fun q13 hq14 => ?_)
  refine zr_dup X 18 dX6_borders_17 rfl rfl ?_
  refine zr_callI (kc' := ((3010 - 1) - 1) - 1) (ks' := ((6300 - 6) - 4) - 16) X 21 0 (m_J4_init_da8c8 l Γ (zu_eq _ _ _ _)) gX6_borders_J4_init_da8c8 rfl w6 w7 w8 rfl (by decide +kernel) rfl (by decide) rfl (Nat.le_of_ble_eq_true rfl) dX6_borders_18 rfl (by omega) (by omega) (fun rv15 V16 hp17 => ?_)
  obtain ⟨hp17e, hp17b, hp17f⟩ := hp17
  rw [hp17e]
  have ff18 : zfr V7 V16 := zag.tr (P := fun t => t ≠ 7) (zag.rf.new hq14) hp17f
  obtain ⟨hS19, fx20⟩ := hS9.fr ff18
  have fx21 := zag.tr fx10 fx20
  have hx22 : V16 (ad 1) = some (1, .inr (7, [.ref (ad 2), .ref (ad 20), .ref (ad 22), .ref (ad 24), .ref (ad 16), .ref (ad 31), .ref (ad 33), .ref (ad 35), .ref (ad 40), .ref (ad 45), .int (zI (σ 30)), .int (zI (σ 31)), .int (zI (σ 32)), .int (zI (σ 33))])) := hS19.1
  show zG C V16 (((3010 - 1) - 1) - 1) (((6300 - 6) - 4) - 16) 21 [(2, .ref (zso ad q)), (0, .ref (ad 1)), (1, .int (zI (q)))] [.ref q13]
  refine zr_astore_n X 22 [(3, .ref q13), (2, .ref (zso ad q)), (0, .ref (ad 1)), (1, .int (zI (q)))] dX6_borders_21 rfl (by decide) rfl ?_
  refine zr_iconst X 23 dX6_borders_22 rfl ?_
  refine zr_istore X 25 [(4, .int (zI (1))), (3, .ref q13), (2, .ref (zso ad q)), (0, .ref (ad 1)), (1, .int (zI (q)))] dX6_borders_23 rfl (by decide) rfl ?_
  refine zr_room (3002 - 16) (6200 - 2 * 16) (by omega) (by omega) ?_
  obtain ⟨hza, hzb⟩ := hS19.zsr (q := q) (by omega)
  refine zr_sub [0, 1, 2, 4, 3] [(4, .int (zI (1))), (3, .ref q13), (2, .ref (zso ad q)), (1, .int (zI (q))), (0, .ref (ad 1))] rfl ?_
  have loop : ∀ (N : Nat) (V1 : zV) (k : Int) (cnt : Int) (cap : Nat), zS Γ V1 ad σ ∧ zfx V V1 ∧ zSB Γ V1 q13 cnt cap ∧ 1 ≤ k ∧ k ≤ zsz σ q + 1 ∧ 0 ≤ cnt ∧ cnt ≤ 5 * (k - 1) ∧ 16 ≤ cap ∧ cap ≤ 900 → (zsz σ q + 1 - k).toNat = N → zG C V1 (3002 - cap) (6200 - 2 * cap) 25 [(4, .int (zI (k))), (3, .ref q13), (2, .ref (zso ad q)), (1, .int (zI (q))), (0, .ref (ad 1))] [] := by
    intro N
    induction N using Nat.strongRecOn with
    | _ N ih =>
    intro V1 k cnt cap hI hN
    obtain ⟨hI1, hI2, hI3, hI4, hI5, hI6, hI7, hI8, hI9⟩ := id hI
    have hx23 : V1 (ad 1) = some (1, .inr (7, [.ref (ad 2), .ref (ad 20), .ref (ad 22), .ref (ad 24), .ref (ad 16), .ref (ad 31), .ref (ad 33), .ref (ad 35), .ref (ad 40), .ref (ad 45), .int (zI (σ 30)), .int (zI (σ 31)), .int (zI (σ 32)), .int (zI (σ 33))])) := hI1.1
    obtain ⟨hza, hzb⟩ := hI1.zsr (q := q) (by omega)
    refine zr_iload X 27 0 dX6_borders_25 rfl rfl ?_
    refine zr_aload_n X 28 2 dX6_borders_27 rfl rfl ?_
    obtain ⟨t25r, t25to, t25tr, t25e, t25e2, t25h, t25T, t25o, t25q, t25c, t25a, t25b, t25z⟩ := hI1.txt (q := q) (by omega)
    have t25g := t25T.rg
    refine zr_txSize X 31 t25T gX6_borders_X5_size_u165X5 gX6_borders_X2_size_u165X2 (by decide) (Nat.le_of_ble_eq_true rfl) dX6_borders_28 rfl ?_
    refine zr_icmp_gt X 59 34 dX6_borders_31 rfl rfl (by omega) (by omega) (fun bq26 => ?_) (fun bq26 => ?_)
    · refine zr_aload_n X 60 1 dX6_borders_59 rfl rfl ?_
      have hp29r := hI3.rg
      refine zr_callVe (kc' := 3002 - cap - 2) (ks' := 6200 - 2 * cap - ((cnt).toNat + 4)) X 63 0 (zsb_str l Γ hI3) gX6_borders_J4_toString_0e30d rfl (by decide +kernel) rfl (by decide) hI3.cl rfl rfl (Nat.le_of_ble_eq_true rfl) dX6_borders_60 rfl (by omega) (by omega) (fun rv27 V28 hp29 => ?_)
      obtain ⟨hp29z, hp29e, hp29n, hp29f⟩ := hp29
      rw [hp29e]
      obtain ⟨hS30, fx31⟩ := hI1.fr hp29f
      have fx32 := zag.tr hI2 fx31
      have hx33 : V28 (ad 1) = some (1, .inr (7, [.ref (ad 2), .ref (ad 20), .ref (ad 22), .ref (ad 24), .ref (ad 16), .ref (ad 31), .ref (ad 33), .ref (ad 35), .ref (ad 40), .ref (ad 45), .int (zI (σ 30)), .int (zI (σ 31)), .int (zI (σ 32)), .int (zI (σ 33))])) := hS30.1
      show zG C V28 (3002 - cap - 2) (6200 - 2 * cap - ((cnt).toNat + 4)) 63 [(4, .int (zI (k))), (3, .ref q13), (2, .ref (zso ad q)), (1, .int (zI (q))), (0, .ref (ad 1))] [.ref hp29z]
      exact zr_aret X rfl (Or.inl ⟨_, rfl⟩) ⟨_, σ, rfl, hS30, fx32, ⟨by omega, rfl⟩⟩ dX6_borders_63
    · refine zr_aload_n X 35 1 dX6_borders_34 rfl rfl ?_
      refine zr_aload_n X 36 4 dX6_borders_35 rfl rfl ?_
      refine zr_get X 39 7 9 hx23 rfl iX6 (by decide) w0 rfl rfl dX6_borders_36 rfl ?_
      refine zr_iload X 41 0 dX6_borders_39 rfl rfl ?_
      refine zr_callVe (kc' := 3002 - cap) (ks' := 6200 - 2 * cap) X 44 1 (g_greatestOf l Γ hI1.2.2.2.2.2.2.2.2.2.2 (k := k) (by omega)) gX6_borders_X0_greatestOf rfl (by decide +kernel) rfl (by decide) hI1.2.2.2.2.2.2.2.2.2.2.cl rfl rfl (Nat.le_of_ble_eq_true rfl) dX6_borders_41 rfl (by omega) (by omega) (fun rv34 V35 hp36 => ?_)
      obtain ⟨hp36x, hp36e, hp36v, hp36a, hp36b⟩ := hp36
      rw [hp36e, hp36v]
      show zG C V1 (3002 - cap) (6200 - 2 * cap) 44 [(4, .int (zI (k))), (3, .ref q13), (2, .ref (zso ad q)), (1, .int (zI (q))), (0, .ref (ad 1))] [.int (zI (hp36x)), .ref q13]
      have gr40r := hI3.rg
      obtain ⟨gr40q, gr40a⟩ : ∃ zq9 : Int, ((hp36x < 10 ∧ zq9 = 1) ∨ (10 ≤ hp36x ∧ hp36x < 100 ∧ zq9 = 2) ∨ (100 ≤ hp36x ∧ hp36x < 1000 ∧ zq9 = 3) ∨ (1000 ≤ hp36x ∧ zq9 = 4)) := zdigits hp36x
      obtain ⟨gr40p, gr40c, gr40k, gr40⟩ := zgrow cnt gr40q cap ⟨by omega, by omega, by omega⟩ (by omega) (by omega)
      refine zr_callVe (kc' := 3002 - cap - gr40c) (ks' := 6200 - 2 * cap - gr40k) X 47 1 (zsb_app_i l Γ hI3 (x := hp36x) (by omega) gr40a gr40) gX6_borders_J4_append_bf812 rfl (by decide +kernel) rfl (by decide) hI3.cl rfl rfl (Nat.le_of_ble_eq_true rfl) dX6_borders_44 rfl (by omega) (by omega) (fun rv37 V38 hp39 => ?_)
      obtain ⟨hp39e, hp39b, hp39f⟩ := hp39
      rw [hp39e]
      have gr40s := hp39b.rg
      obtain ⟨hS41, fx42⟩ := hI1.fr hp39f
      have fx43 := zag.tr hI2 fx42
      have hx44 : V38 (ad 1) = some (1, .inr (7, [.ref (ad 2), .ref (ad 20), .ref (ad 22), .ref (ad 24), .ref (ad 16), .ref (ad 31), .ref (ad 33), .ref (ad 35), .ref (ad 40), .ref (ad 45), .int (zI (σ 30)), .int (zI (σ 31)), .int (zI (σ 32)), .int (zI (σ 33))])) := hS41.1
      show zG C V38 (3002 - cap - gr40c) (6200 - 2 * cap - gr40k) 47 [(4, .int (zI (k))), (3, .ref q13), (2, .ref (zso ad q)), (1, .int (zI (q))), (0, .ref (ad 1))] [.ref q13]
      refine zr_bipush X 49 (32) dX6_borders_47 rfl (by decide) ?_
      have gr48r := hp39b.rg
      obtain ⟨gr48p, gr48c, gr48k, gr48⟩ := zgrow1w (cnt + gr40q) gr40p (by omega)
      refine zr_callVe (kc' := (3002 - cap - gr40c) - gr48c) (ks' := (6200 - 2 * cap - gr40k) - gr48k) X 52 1 (zsb_app_c l Γ hp39b (x := 32) (by omega) gr48) gX6_borders_J4_append_cf468 rfl (by decide +kernel) rfl (by decide) hp39b.cl rfl rfl (Nat.le_of_ble_eq_true rfl) dX6_borders_49 rfl (by omega) (by omega) (fun rv45 V46 hp47 => ?_)
      obtain ⟨hp47e, hp47b, hp47f⟩ := hp47
      rw [hp47e]
      have gr48s := hp47b.rg
      obtain ⟨hS49, fx50⟩ := hS41.fr hp47f
      have fx51 := zag.tr fx43 fx50
      have hx52 : V46 (ad 1) = some (1, .inr (7, [.ref (ad 2), .ref (ad 20), .ref (ad 22), .ref (ad 24), .ref (ad 16), .ref (ad 31), .ref (ad 33), .ref (ad 35), .ref (ad 40), .ref (ad 45), .int (zI (σ 30)), .int (zI (σ 31)), .int (zI (σ 32)), .int (zI (σ 33))])) := hS49.1
      show zG C V46 ((3002 - cap - gr40c) - gr48c) ((6200 - 2 * cap - gr40k) - gr48k) 52 [(4, .int (zI (k))), (3, .ref q13), (2, .ref (zso ad q)), (1, .int (zI (q))), (0, .ref (ad 1))] [.ref q13]
      refine zr_pop X 53 dX6_borders_52 rfl rfl ?_
      refine zr_iinc X 56 0 [(4, .int (zI (k + 1))), (3, .ref q13), (2, .ref (zso ad q)), (1, .int (zI (q))), (0, .ref (ad 1))] dX6_borders_53 rfl rfl (by decide) rfl ?_
      refine zr_goto X 25 dX6_borders_56 rfl ?_
      refine zr_room (3002 - gr48p) (6200 - 2 * gr48p) (by omega) (by omega) ?_
      exact ih _ (by omega) V46 (k + 1) (cnt + gr40q + 1) gr48p ⟨hS49, fx51, hp47b, by omega, by omega, by omega, by omega, by omega, by omega⟩ rfl
  exact loop _ V16 1 0 16 ⟨hS19, fx21, hp17b, by omega, by omega, by omega, by omega, by omega, by omega⟩ rfl
