/-- the pump by its numbers: what is held, sent, come, and the rounds -/
def zpm (a b w sz : Int) : Nat → Int → Int → Int → Int → Int → Int × Int × Int × Int
  | 0, _, hd, sn, cm, rd => (hd, sn, cm, rd)
  | n + 1, nx, hd, sn, cm, rd => if sz ≤ nx ∧ hd = 0 then (hd, sn, cm, rd) else zpm a b w sz n (nx + min a (min (sz - nx) (w - hd))) (hd + min a (min (sz - nx) (w - hd)) - min b (hd + min a (min (sz - nx) (w - hd)))) (sn + min a (min (sz - nx) (w - hd))) (cm + min b (hd + min a (min (sz - nx) (w - hd)))) (rd + 1)
theorem zpm_fin {a b w sz : Int} {n : Nat} {nx hd sn cm rd : Int} (h : n = 0 ∨ (sz ≤ nx ∧ hd = 0)) : zpm a b w sz n nx hd sn cm rd = (hd, sn, cm, rd) := by
  cases n with
  | zero => rfl
  | succ n =>
    have h : sz ≤ nx ∧ hd = 0 := h.resolve_left (by omega)
    unfold zpm
    rw [if_pos h]
theorem zpm_step {a b w sz : Int} {n n' : Nat} {nx hd sn cm rd nx' hd' sn' cm' rd' : Int} (m o : Int) (hn : n = n' + 1) (h : ¬ (sz ≤ nx ∧ hd = 0)) (hm : m = min a (min (sz - nx) (w - hd))) (ho : o = min b (hd + m)) (h1 : nx' = nx + m) (h2 : hd' = hd + m - o) (h3 : sn' = sn + m) (h4 : cm' = cm + o) (h5 : rd' = rd + 1) : zpm a b w sz n nx hd sn cm rd = zpm a b w sz n' nx' hd' sn' cm' rd' := by
  subst hn
  rw [zpm, if_neg h, ← hm, ← ho, h1, h2, h3, h4, h5]
def zcap (cap : Nat) : Prop := cap = 16 ∨ cap = 34 ∨ cap = 70 ∨ cap = 142 ∨ cap = 286 ∨ cap = 574 ∨ cap = 1150
theorem zcap.rg {cap : Nat} (h : zcap cap) : 16 ≤ cap ∧ cap ≤ 1150 := by
  unfold zcap at h
  omega
theorem zcap.step {cap capm : Nat} {cnt k : Int} (h : zcap cap) (hg : (cnt + k ≤ cap ∧ capm = cap) ∨ ((cap : Int) < cnt + k ∧ capm = 2 * cap + 2)) (hc : cnt + k ≤ 704) : zcap capm := by
  unfold zcap at h ⊢
  omega
theorem zx4_33 {σ : Nat → Int} {x : Int} {j : Nat} (h : j ≠ 33) : zx4 σ (σ 30) (σ 31) (σ 32) x j = σ j := by
  unfold zx4
  by_cases h0 : j = 30
  · rw [if_pos h0, h0]
  · by_cases h1 : j = 31
    · rw [if_neg h0, if_pos h1, h1]
    · by_cases h2 : j = 32
      · rw [if_neg h0, if_neg h1, if_pos h2, h2]
      · rw [if_neg h0, if_neg h1, if_neg h2, if_neg h]
theorem zpu_st {σ σ1 sm sg : Nat → Int} {q nx k lo : Int} {h : Int → Int} (hj : ∀ j, ¬ (26 ≤ j ∧ j ≤ 29) → j ≠ 33 → ¬ (300 ≤ j ∧ j < 460) → σ1 j = σ j) (h26 : σ1 26 = σ 26) (h28 : σ1 28 = σ 28 + nx) (h15 : ∀ j : Nat, 300 ≤ j → j < 460 → σ1 j = zly σ (300 + (σ 28).toNat) nx.toNat (zsg σ q) j) (hq : 0 ≤ q ∧ q ≤ 7) (hnx : 0 ≤ nx) (hk : 0 ≤ k) (h0 : 0 ≤ σ 28) (hr : sm 28 ≤ 160) (hz : ∀ i : Nat, (i : Int) < zsz σ1 q → h (i : Int) = zsg σ1 q i) (hsz : zsz σ1 q ≤ 80) (hn : k = 0 ∨ nx + k ≤ zsz σ1 q) (em : sm = zly (zpi σ1 (σ1 26) (σ1 27 + k) (σ1 28 + k) (σ1 29)) (300 + (σ1 28).toNat) k.toNat (fun j => h (nx + (j : Int)))) (eg : sg = zpi sm (sm 26) (sm 27 - lo) (sm 28) (sm 29 + lo)) : (∀ j, ¬ (26 ≤ j ∧ j ≤ 29) → j ≠ 33 → ¬ (300 ≤ j ∧ j < 460) → zx4 sg (sg 30) (sg 31) (sg 32) (sg 33 + 1) j = σ j) ∧ (∀ j : Nat, 300 ≤ j → j < 460 → zx4 sg (sg 30) (sg 31) (sg 32) (sg 33 + 1) j = zly σ (300 + (σ 28).toNat) (nx + k).toNat (zsg σ q) j) ∧ zx4 sg (sg 30) (sg 31) (sg 32) (sg 33 + 1) 26 = σ 26 ∧ zx4 sg (sg 30) (sg 31) (sg 32) (sg 33 + 1) 27 = σ1 27 + k - lo ∧ zx4 sg (sg 30) (sg 31) (sg 32) (sg 33 + 1) 28 = σ1 28 + k ∧ zx4 sg (sg 30) (sg 31) (sg 32) (sg 33 + 1) 29 = σ1 29 + lo ∧ zx4 sg (sg 30) (sg 31) (sg 32) (sg 33 + 1) 33 = σ1 33 + 1 ∧ sm 26 = σ1 26 ∧ sm 27 = σ1 27 + k := by
  have m28 : sm 28 = σ1 28 + k := by rw [em, zly_ne (by omega), zpi_28]
  have m27 : sm 27 = σ1 27 + k := by rw [em, zly_ne (by omega), zpi_27]
  have m26 : sm 26 = σ1 26 := by rw [em, zly_ne (by omega), zpi_26]
  have m29 : sm 29 = σ1 29 := by rw [em, zly_ne (by omega), zpi_29]
  have m33 : sm 33 = σ1 33 := by
    rw [em, zly_ne (by omega)]
    exact zpi_ne (by decide)
  have rk : 300 + (σ1 28).toNat + k.toNat ≤ 460 := by omega
  refine ⟨?_, ?_, ?_, ?_, ?_, ?_, ?_, m26, m27⟩
  · intro j h1 h2 h3
    have h4 : sm j = σ1 j := by
      rw [em, zly_ne (by omega)]
      exact zpi_ne h1
    have h5 : sg j = sm j := by
      rw [eg]
      exact zpi_ne h1
    exact (zx4_33 h2).trans (h5.trans (h4.trans (hj j h1 h2 h3)))
  · intro j h1 h2
    have h4 : zx4 sg (sg 30) (sg 31) (sg 32) (sg 33 + 1) j = sm j := (zx4_33 (by omega)).trans (by rw [eg]; exact zpi_ne (by omega))
    rw [h4, em]
    by_cases c : 300 + (σ1 28).toNat ≤ j ∧ j < 300 + (σ1 28).toNat + k.toNat
    · obtain ⟨d, hd⟩ : ∃ d, j = 300 + (σ1 28).toNat + d := ⟨j - (300 + (σ1 28).toNat), by omega⟩
      subst hd
      rw [zly_at (show d < k.toNat by omega), show 300 + (σ1 28).toNat + d = 300 + (σ 28).toNat + (nx.toNat + d) by omega, zly_at (by omega)]
      have hv := hz (nx.toNat + d) (by omega)
      refine Eq.trans ?_ (hv.trans (zsg_of hj hq (by omega)))
      exact congrArg h (by omega)
    · rw [zly_ne c, zpi_ne (by omega), h15 j h1 h2]
      unfold zly
      by_cases c2 : 300 + (σ 28).toNat ≤ j ∧ j < 300 + (σ 28).toNat + nx.toNat
      · rw [if_pos c2, if_pos ⟨c2.1, by omega⟩]
      · rw [if_neg c2, if_neg (by omega)]
  · rw [zx4_33 (by decide), eg, zpi_26, m26]
    exact h26
  · rw [zx4_33 (by decide), eg, zpi_27, m27]
  · rw [zx4_33 (by decide), eg, zpi_28, m28]
  · rw [zx4_33 (by decide), eg, zpi_29, m29]
  · have h9 : sg 33 = sm 33 := by
      rw [eg]
      exact zpi_ne (by decide)
    show sg 33 + 1 = σ1 33 + 1
    rw [h9, m33]
theorem zpu_fin {a b w w1 sz sz1 tc nx hd sn cm rd k lo s26 s27 cnt sg28 hd' sn' cm' rd' : Int} (htc : 0 < tc) (hb : 1 ≤ b ∧ b ≤ 8) (hne : ¬ (sz1 ≤ nx ∧ hd = 0)) (e1 : sz1 = sz) (e2 : w1 = w) (e3 : s26 = w1) (e4 : s27 = hd + k) (p1 : 0 ≤ s27) (p2 : s27 ≤ s26) (hk : 0 ≤ k) (hka : k ≤ a) (hnx : 0 ≤ nx) (hn : nx ≤ sz) (hkc : k = 0 ∨ nx + k ≤ sz1) (hkd : k = a ∨ sz1 ≤ nx + k ∨ hd + k = w1 ∨ sn + k = 160) (ht2 : tc ≤ 88) (hc1 : 0 ≤ cnt) (hc2 : cnt + 8 * tc ≤ 704) (hs : sn + (sz - nx) ≤ 160) (hs2 : sn = sg28 + nx) (hlo : (b ≤ s27 ∧ lo = b) ∨ (s27 < b ∧ lo = s27)) (h1 : hd' = hd + k - lo) (h2 : sn' = sn + k) (h3 : cm' = cm + lo) (h4 : rd' = rd + 1) : 0 ≤ nx + k ∧ nx + k ≤ sz ∧ 0 ≤ tc + (-1) ∧ tc + (-1) ≤ 88 ∧ 0 ≤ cnt + lo ∧ cnt + lo + 8 * (tc + (-1)) ≤ 704 ∧ sn' + (sz - (nx + k)) ≤ 160 ∧ sn' = sg28 + (nx + k) ∧ zpm a b w sz (tc + (-1)).toNat (nx + k) hd' sn' cm' rd' = zpm a b w sz tc.toNat nx hd sn cm rd := by
  subst e1
  subst e2
  subst e3
  refine ⟨by omega, by omega, by omega, by omega, by omega, by omega, by omega, by omega, ?_⟩
  exact (zpm_step k lo (by omega) hne (by omega) (by omega) rfl h1 h2 h3 h4).symm
theorem zdn_ne {σ : Nat → Int} {j : Nat} (h : j ≠ 30) : zdn σ j = σ j := by
  unfold zdn zx4
  by_cases h1 : j = 31
  · rw [if_neg h, if_pos h1, h1]
  · by_cases h2 : j = 32
    · rw [if_neg h, if_neg h1, if_pos h2, h2]
    · by_cases h3 : j = 33
      · rw [if_neg h, if_neg h1, if_neg h2, if_pos h3, h3]
      · rw [if_neg h, if_neg h1, if_neg h2, if_neg h3]
set_option maxRecDepth 100000 in
set_option maxHeartbeats 4000000 in
theorem m_X6_pump (l : Launch) (hlt : l.stackTraces = false) (Γ : zGam) {V : zV} {ad : Nat → Nat} {σ : Nat → Int} {q a b : Int} (hS : zS Γ V ad σ) (hq : -2147483648 ≤ q ∧ q ≤ 2147483647) (ha : -2147483648 ≤ a ∧ a ≤ 2147483647) (hb : -2147483648 ≤ b ∧ b ≤ 2147483647) : zN l Γ 11 yX6_pump wsX6_pump 3010 6300 V [.ref (ad 1), .int (zI (q)), .int (zI (a)), .int (zI (b))] (fun rv V' => ∃ (z : Nat) (σ' : Nat → Int), rv = some (.ref z) ∧ zS Γ V' ad σ' ∧ zfx V V' ∧ ((0 ≤ q ∧ q ≤ 7 ∧ 1 ≤ a ∧ a ≤ 8 ∧ 1 ≤ b ∧ b ≤ 8) ∧ σ 28 + zsz σ q ≤ 160 ∧ (∀ j, ¬ (26 ≤ j ∧ j ≤ 29) → j ≠ 30 → j ≠ 33 → ¬ (300 ≤ j ∧ j < 460) → σ' j = σ j) ∧ σ' 26 = σ 26 ∧ σ' 30 = σ 30 + 1 ∧ (σ' 27, σ' 28, σ' 29, σ' 33) = zpm a b (σ 26) (zsz σ q) (zsz σ q + σ 27).toNat 0 (σ 27) (σ 28) (σ 29) (σ 33) ∧ (∀ j : Nat, 300 ≤ j → j < 460 → σ' j = zly σ (300 + (σ 28).toNat) (σ' 28 - σ 28).toNat (zsg σ q) j))) (fun E V' => V' = V ∧ ((E = zIO ∧ ¬ (0 ≤ q ∧ q ≤ 7)) ∨ (E = zIA ∧ (0 ≤ q ∧ q ≤ 7) ∧ ¬ (1 ≤ a ∧ a ≤ 8 ∧ 1 ≤ b ∧ b ≤ 8)) ∨ (E = zIS ∧ (0 ≤ q ∧ q ≤ 7 ∧ 1 ≤ a ∧ a ≤ 8 ∧ 1 ≤ b ∧ b ≤ 8) ∧ ¬ (σ 28 + zsz σ q ≤ 160)))) := by
  have hpr9 := hS.prg
  have w0 : Cond.fieldLink RX6 30 "Sashwords" "line" "LSashwords$Pipe;" ∈ wsX6_pump := by decide +kernel
  have iX6 : ∀ w ∈ u_ws RX6 TX6 14, w ∈ wsX6_pump := by decide +kernel
  have iX1 : ∀ w ∈ u_ws RX1 TX1 4, w ∈ wsX6_pump := by decide +kernel
  have w3 : Cond.classLink RX6 113 RJ4 ∈ wsX6_pump := by decide +kernel
  have w4 : Cond.instantiable RJ4 4 ∈ wsX6_pump := by decide +kernel
  have w5 : Cond.initialized RJ4 ∈ wsX6_pump := by decide +kernel
  have iJ4 : ∀ w ∈ u_ws RJ4 TJ4 4, w ∈ wsX6_pump := by decide +kernel
  have w7 : Cond.initialized yJ4_init_da8c8.cls ∈ wsX6_pump := by decide +kernel
  have w8 : Cond.methodLink RX6 115 yJ4_init_da8c8 ∈ wsX6_pump := by decide +kernel
  have w9 : Cond.instanceMethod yJ4_init_da8c8 ∈ wsX6_pump := by decide +kernel
  have w10 : Cond.fieldLink RX6 203 "Sashwords" "rounds" "I" ∈ wsX6_pump := by decide +kernel
  refine zN_of (cc := cX6_pump) (nL := 8) (ret := (some (.object "java/lang/String"))) (own := RX6) hlt (by decide +kernel) rfl rfl (Nat.le_of_ble_eq_true rfl) (fun C X Y => ?_)
  have hx1 : V (ad 1) = some (1, .inr (7, [.ref (ad 2), .ref (ad 20), .ref (ad 22), .ref (ad 24), .ref (ad 16), .ref (ad 31), .ref (ad 33), .ref (ad 35), .ref (ad 40), .ref (ad 45), .int (zI (σ 30)), .int (zI (σ 31)), .int (zI (σ 32)), .int (zI (σ 33))])) := hS.1
  show zG C V 3010 6300 0 [(0, .ref (ad 1)), (1, .int (zI (q))), (2, .int (zI (a))), (3, .int (zI (b)))] []
  refine zr_aload_n X 1 0 dX6_pump_0 rfl rfl ?_
  refine zr_iload_n X 2 1 dX6_pump_1 rfl rfl ?_
  refine zr_callVN (kc' := 3010 - 1) (ks' := 6300 - 6) X Y 5 1 (m_X6_sourceOf l hlt Γ hS (q := q) (by omega)) gX6_pump_X6_sourceOf rfl (by decide +kernel) rfl (by decide) hx1 rfl rfl (Nat.le_of_ble_eq_true rfl) dX6_pump_2 rfl (by omega) (by omega) (fun E W hX => ⟨hX.2.2, Or.inl ⟨hX.1, by have := hX.2.1; omega⟩⟩) (fun rv2 V3 hp4 => ?_)
  obtain ⟨hp4a, hp4b, hp4c⟩ := hp4
  rw [hp4b, hp4c]
  obtain ⟨t5r, t5to, t5tr, t5e, t5e2, t5h, t5T, t5o, t5q, t5c, t5a, t5b, t5z⟩ := hS.txt (q := q) (by omega)
  have t5g := t5T.rg
  show zG C V (3010 - 1) (6300 - 6) 5 [(0, .ref (ad 1)), (1, .int (zI (q))), (2, .int (zI (a))), (3, .int (zI (b)))] [.ref (zso ad q)]
  refine zr_astore X 7 [(4, .ref (zso ad q)), (0, .ref (ad 1)), (1, .int (zI (q))), (2, .int (zI (a))), (3, .int (zI (b)))] dX6_pump_5 rfl (by decide) rfl ?_
  refine zr_iload_n X 8 3 dX6_pump_7 rfl rfl ?_
  refine zr_iconst X 9 dX6_pump_8 rfl ?_
  refine zr_bipush X 11 (8) dX6_pump_9 rfl (by decide) ?_
  refine zr_callSN (kc' := (3010 - 1) - 1) (ks' := (6300 - 6) - 6) X Y 14 3 (m_X6_requireWithin l hlt Γ (V := V) (x := a) (a := 1) (b := 8) (by omega) (by omega) (by omega)) gX6_pump_X6_requireWithin rfl (by decide +kernel) rfl (by decide) rfl (Nat.le_of_ble_eq_true rfl) dX6_pump_11 rfl (by omega) (by omega) (fun E W hX => ⟨hX.2.2, Or.inr (Or.inl ⟨hX.1, by have := hX.2.1; omega⟩)⟩) (fun rv6 V7 hp8 => ?_)
  obtain ⟨hp8a, hp8b, hp8c⟩ := hp8
  rw [hp8b, hp8c]
  show zG C V ((3010 - 1) - 1) ((6300 - 6) - 6) 14 [(4, .ref (zso ad q)), (0, .ref (ad 1)), (1, .int (zI (q))), (2, .int (zI (a))), (3, .int (zI (b)))] []
  refine zr_iload_n X 15 4 dX6_pump_14 rfl rfl ?_
  refine zr_iconst X 16 dX6_pump_15 rfl ?_
  refine zr_bipush X 18 (8) dX6_pump_16 rfl (by decide) ?_
  refine zr_callSN (kc' := ((3010 - 1) - 1) - 1) (ks' := ((6300 - 6) - 6) - 6) X Y 21 3 (m_X6_requireWithin l hlt Γ (V := V) (x := b) (a := 1) (b := 8) (by omega) (by omega) (by omega)) gX6_pump_X6_requireWithin rfl (by decide +kernel) rfl (by decide) rfl (Nat.le_of_ble_eq_true rfl) dX6_pump_18 rfl (by omega) (by omega) (fun E W hX => ⟨hX.2.2, Or.inr (Or.inl ⟨hX.1, by have := hX.2.1; omega⟩)⟩) (fun rv9 V10 hp11 => ?_)
  obtain ⟨hp11a, hp11b, hp11c⟩ := hp11
  rw [hp11b, hp11c]
  show zG C V (((3010 - 1) - 1) - 1) (((6300 - 6) - 6) - 6) 21 [(4, .ref (zso ad q)), (0, .ref (ad 1)), (1, .int (zI (q))), (2, .int (zI (a))), (3, .int (zI (b)))] []
  refine zr_aload_n X 22 1 dX6_pump_21 rfl rfl ?_
  refine zr_get X 25 7 3 hx1 rfl iX6 (by decide) w0 rfl rfl dX6_pump_22 rfl ?_
  refine zr_getN X 28 3 1 1 hS.2.2.2.2.2.1.1 rfl iX1 (by decide) rfl rfl rfl dX6_pump_25 rfl ?_
  refine zr_callVe (kc' := (((3010 - 1) - 1) - 1)) (ks' := (((6300 - 6) - 6) - 6)) X 31 0 (f_size l Γ hS.2.2.2.2.2.1.2.2.1) gX6_pump_X2_size rfl (by decide +kernel) rfl (by decide) hS.2.2.2.2.2.1.2.2.1.cl rfl rfl (Nat.le_of_ble_eq_true rfl) dX6_pump_28 rfl (by omega) (by omega) (fun rv12 V13 hp14 => ?_)
  rw [hp14.1, hp14.2]
  have hp14r := hS.2.2.2.2.2.1.2.2.1.rg
  show zG C V (((3010 - 1) - 1) - 1) (((6300 - 6) - 6) - 6) 31 [(4, .ref (zso ad q)), (0, .ref (ad 1)), (1, .int (zI (q))), (2, .int (zI (a))), (3, .int (zI (b)))] [.int (zI (σ 28))]
  refine zr_aload X 33 0 dX6_pump_31 rfl rfl ?_
  refine zr_txSize X 36 t5T gX6_pump_X5_size_u165X5 gX6_pump_X2_size_u165X2 (by decide) (Nat.le_of_ble_eq_true rfl) dX6_pump_33 rfl ?_
  refine zr_iadd X 37 dX6_pump_36 rfl ?_
  refine zr_sipush X 40 (160) dX6_pump_37 rfl (by decide) ?_
  refine zr_callSN (kc' := (((3010 - 1) - 1) - 1) - 1) (ks' := (((6300 - 6) - 6) - 6) - 6) X Y 43 2 (m_X6_requireRoom l hlt Γ (V := V) (x := (σ 28) + (zsz σ q)) (b := 160) (by omega) (by omega)) gX6_pump_X6_requireRoom rfl (by decide +kernel) rfl (by decide) rfl (Nat.le_of_ble_eq_true rfl) dX6_pump_40 rfl (by omega) (by omega) (fun E W hX => ⟨hX.2.2, Or.inr (Or.inr ⟨hX.1, by have := hX.2.1; omega⟩)⟩) (fun rv15 V16 hp17 => ?_)
  obtain ⟨hp17a, hp17b, hp17c⟩ := hp17
  rw [hp17b, hp17c]
  have hroom := hp17a
  show zG C V ((((3010 - 1) - 1) - 1) - 1) ((((6300 - 6) - 6) - 6) - 6) 43 [(4, .ref (zso ad q)), (0, .ref (ad 1)), (1, .int (zI (q))), (2, .int (zI (a))), (3, .int (zI (b)))] []
  refine zr_new (kc' := (((((3010 - 1) - 1) - 1) - 1) - 1)) (ks' := (((((6300 - 6) - 6) - 6) - 6) - 4)) X 46 1 7 [.null, .int (zI (0)), .int (zI (0)), .int (zI (0))] tyJ4 rfl iJ4 tyJ4_ok w3 w4 w5 (zdf_J4) dX6_pump_43 rfl (by omega) (by omega) (fun q18 hq19 => ?_)
  refine zr_dup X 47 dX6_pump_46 rfl rfl ?_
  refine zr_callI (kc' := (((((3010 - 1) - 1) - 1) - 1) - 1) - 1) (ks' := (((((6300 - 6) - 6) - 6) - 6) - 4) - 16) X 50 0 (m_J4_init_da8c8 l Γ (zu_eq _ _ _ _)) gX6_pump_J4_init_da8c8 rfl w7 w8 w9 rfl (by decide +kernel) rfl (by decide) rfl (Nat.le_of_ble_eq_true rfl) dX6_pump_47 rfl (by omega) (by omega) (fun rv20 V21 hp22 => ?_)
  obtain ⟨hp22e, hp22b, hp22f⟩ := hp22
  rw [hp22e]
  have ff23 : zfr V V21 := zag.tr (P := fun t => t ≠ 7) (zag.rf.new hq19) hp22f
  obtain ⟨hS24, fx25⟩ := hS.fr ff23
  have hx26 : V21 (ad 1) = some (1, .inr (7, [.ref (ad 2), .ref (ad 20), .ref (ad 22), .ref (ad 24), .ref (ad 16), .ref (ad 31), .ref (ad 33), .ref (ad 35), .ref (ad 40), .ref (ad 45), .int (zI (σ 30)), .int (zI (σ 31)), .int (zI (σ 32)), .int (zI (σ 33))])) := hS24.1
  show zG C V21 ((((((3010 - 1) - 1) - 1) - 1) - 1) - 1) ((((((6300 - 6) - 6) - 6) - 6) - 4) - 16) 50 [(4, .ref (zso ad q)), (0, .ref (ad 1)), (1, .int (zI (q))), (2, .int (zI (a))), (3, .int (zI (b)))] [.ref q18]
  refine zr_astore X 52 [(5, .ref q18), (4, .ref (zso ad q)), (0, .ref (ad 1)), (1, .int (zI (q))), (2, .int (zI (a))), (3, .int (zI (b)))] dX6_pump_50 rfl (by decide) rfl ?_
  refine zr_iconst X 53 dX6_pump_52 rfl ?_
  refine zr_istore X 55 [(6, .int (zI (0))), (5, .ref q18), (4, .ref (zso ad q)), (0, .ref (ad 1)), (1, .int (zI (q))), (2, .int (zI (a))), (3, .int (zI (b)))] dX6_pump_53 rfl (by decide) rfl ?_
  refine zr_aload X 57 2 dX6_pump_55 rfl rfl ?_
  obtain ⟨t28r, t28to, t28tr, t28e, t28e2, t28h, t28T, t28o, t28q, t28c, t28a, t28b, t28z⟩ := hS24.txt (q := q) (by omega)
  have t28g := t28T.rg
  refine zr_txSize X 60 t28T gX6_pump_X5_size_u165X5 gX6_pump_X2_size_u165X2 (by decide) (Nat.le_of_ble_eq_true rfl) dX6_pump_57 rfl ?_
  refine zr_aload_n X 61 3 dX6_pump_60 rfl rfl ?_
  refine zr_get X 64 7 3 hx26 rfl iX6 (by decide) w0 rfl rfl dX6_pump_61 rfl ?_
  refine zr_getN X 67 3 0 0 hS24.2.2.2.2.2.1.1 rfl iX1 (by decide) rfl rfl rfl dX6_pump_64 rfl ?_
  refine zr_callVe (kc' := ((((((3010 - 1) - 1) - 1) - 1) - 1) - 1)) (ks' := ((((((6300 - 6) - 6) - 6) - 6) - 4) - 16)) X 70 0 (f_size l Γ hS24.2.2.2.2.2.1.2.1) gX6_pump_X2_size rfl (by decide +kernel) rfl (by decide) hS24.2.2.2.2.2.1.2.1.cl rfl rfl (Nat.le_of_ble_eq_true rfl) dX6_pump_67 rfl (by omega) (by omega) (fun rv29 V30 hp31 => ?_)
  rw [hp31.1, hp31.2]
  have hp31r := hS24.2.2.2.2.2.1.2.1.rg
  show zG C V21 ((((((3010 - 1) - 1) - 1) - 1) - 1) - 1) ((((((6300 - 6) - 6) - 6) - 6) - 4) - 16) 70 [(6, .int (zI (0))), (5, .ref q18), (4, .ref (zso ad q)), (0, .ref (ad 1)), (1, .int (zI (q))), (2, .int (zI (a))), (3, .int (zI (b)))] [.int (zI (σ 27)), .int (zI (zsz σ q))]
  refine zr_iadd X 71 dX6_pump_70 rfl ?_
  refine zr_istore X 73 [(7, .int (zI ((zsz σ q) + (σ 27)))), (6, .int (zI (0))), (5, .ref q18), (4, .ref (zso ad q)), (0, .ref (ad 1)), (1, .int (zI (q))), (2, .int (zI (a))), (3, .int (zI (b)))] dX6_pump_71 rfl (by decide) rfl ?_
  refine zr_room (3002 - 16) (6200 - 2 * 16) (by omega) (by omega) ?_
  have hpr0 := hS24.prg
  refine zr_sub [0, 1, 2, 3, 7, 6, 5, 4] [(7, .int (zI ((zsz σ q) + (σ 27)))), (6, .int (zI (0))), (5, .ref q18), (4, .ref (zso ad q)), (3, .int (zI (b))), (2, .int (zI (a))), (1, .int (zI (q))), (0, .ref (ad 1))] rfl ?_
  have loop : ∀ (N : Nat) (V1 : zV) (σ1 : Nat → Int) (nx : Int) (tc : Int) (cnt : Int) (cap : Nat), zS Γ V1 ad σ1 ∧ zfx V V1 ∧ zSB Γ V1 q18 cnt cap ∧ (∀ j, ¬ (26 ≤ j ∧ j ≤ 29) → j ≠ 33 → ¬ (300 ≤ j ∧ j < 460) → σ1 j = σ j) ∧ σ1 26 = σ 26 ∧ 0 ≤ nx ∧ nx ≤ zsz σ q ∧ 0 ≤ tc ∧ tc ≤ 88 ∧ 0 ≤ cnt ∧ cnt + 8 * tc ≤ 704 ∧ zcap cap ∧ zpm a b (σ 26) (zsz σ q) tc.toNat nx (σ1 27) (σ1 28) (σ1 29) (σ1 33) = zpm a b (σ 26) (zsz σ q) (zsz σ q + σ 27).toNat 0 (σ 27) (σ 28) (σ 29) (σ 33) ∧ σ1 28 + (zsz σ q - nx) ≤ 160 ∧ (∀ j : Nat, 300 ≤ j → j < 460 → σ1 j = zly σ (300 + (σ 28).toNat) nx.toNat (zsg σ q) j) ∧ σ1 28 = σ 28 + nx → tc.toNat = N → zG C V1 (3002 - cap) (6200 - 2 * cap) 73 [(7, .int (zI (tc))), (6, .int (zI (nx))), (5, .ref q18), (4, .ref (zso ad q)), (3, .int (zI (b))), (2, .int (zI (a))), (1, .int (zI (q))), (0, .ref (ad 1))] [] := by
    intro N
    induction N using Nat.strongRecOn with
    | _ N ih =>
    intro V1 σ1 nx tc cnt cap hI hN
    obtain ⟨hI1, hI2, hI3, hI4, hI5, hI6, hI7, hI8, hI9, hI10, hI11, hI12, hI13, hI14, hI15, hI16⟩ := id hI
    have hx32 : V1 (ad 1) = some (1, .inr (7, [.ref (ad 2), .ref (ad 20), .ref (ad 22), .ref (ad 24), .ref (ad 16), .ref (ad 31), .ref (ad 33), .ref (ad 35), .ref (ad 40), .ref (ad 45), .int (zI (σ1 30)), .int (zI (σ1 31)), .int (zI (σ1 32)), .int (zI (σ1 33))])) := hI1.1
    have hpr := hI1.prg
    have hcr := hI12.rg
    have hz1 : zsz σ1 q = zsz σ q := zsz_of (fun j hj => hI4 j (by omega) (by omega) (by omega)) (by omega)
    refine zr_iload X 75 0 dX6_pump_73 rfl rfl ?_
    refine zr_if_le X 141 78 dX6_pump_75 rfl rfl (by omega) (fun bq33 => ?_) (fun bq33 => ?_)
    · refine zr_aload_n X 142 7 dX6_pump_141 rfl rfl ?_
      refine zr_aload X 144 2 dX6_pump_142 rfl rfl ?_
      have hp36r := hI3.rg
      refine zr_callVe (kc' := 3002 - cap - 2) (ks' := 6200 - 2 * cap - ((cnt).toNat + 4)) X 147 0 (zsb_str l Γ hI3) gX6_pump_J4_toString_0e30d rfl (by decide +kernel) rfl (by decide) hI3.cl rfl rfl (Nat.le_of_ble_eq_true rfl) dX6_pump_144 rfl (by omega) (by omega) (fun rv34 V35 hp36 => ?_)
      obtain ⟨hp36z, hp36e, hp36n, hp36f⟩ := hp36
      rw [hp36e]
      obtain ⟨hS37, fx38⟩ := hI1.fr hp36f
      have fx39 := zag.tr hI2 fx38
      have hx40 : V35 (ad 1) = some (1, .inr (7, [.ref (ad 2), .ref (ad 20), .ref (ad 22), .ref (ad 24), .ref (ad 16), .ref (ad 31), .ref (ad 33), .ref (ad 35), .ref (ad 40), .ref (ad 45), .int (zI (σ1 30)), .int (zI (σ1 31)), .int (zI (σ1 32)), .int (zI (σ1 33))])) := hS37.1
      show zG C V35 (3002 - cap - 2) (6200 - 2 * cap - ((cnt).toNat + 4)) 147 [(7, .int (zI (tc))), (6, .int (zI (nx))), (5, .ref q18), (4, .ref (zso ad q)), (3, .int (zI (b))), (2, .int (zI (a))), (1, .int (zI (q))), (0, .ref (ad 1))] [.ref hp36z, .ref (ad 1)]
      refine zr_callVe (kc' := (3002 - cap - 2)) (ks' := (6200 - 2 * cap - ((cnt).toNat + 4))) X 150 1 (m_X6_done_ l Γ (y := hp36z) hS37) gX6_pump_X6_done_ rfl (by decide +kernel) rfl (by decide) hS37.x rfl rfl (Nat.le_of_ble_eq_true rfl) dX6_pump_147 rfl (by omega) (by omega) (fun rv41 V42 hp43 => ?_)
      obtain ⟨hp43e, hS44, fx45⟩ := hp43
      rw [hp43e]
      obtain ⟨σ46, σ46e⟩ : ∃ zz9 : Nat → Int, zz9 = zdn σ1 := ⟨_, rfl⟩
      rw [← σ46e] at hS44
      have fx47 := zag.tr fx39 fx45
      have hx48 : V42 (ad 1) = some (1, .inr (7, [.ref (ad 2), .ref (ad 20), .ref (ad 22), .ref (ad 24), .ref (ad 16), .ref (ad 31), .ref (ad 33), .ref (ad 35), .ref (ad 40), .ref (ad 45), .int (zI (σ46 30)), .int (zI (σ46 31)), .int (zI (σ46 32)), .int (zI (σ46 33))])) := hS44.1
      show zG C V42 (3002 - cap - 2) (6200 - 2 * cap - ((cnt).toNat + 4)) 150 [(7, .int (zI (tc))), (6, .int (zI (nx))), (5, .ref q18), (4, .ref (zso ad q)), (3, .int (zI (b))), (2, .int (zI (a))), (1, .int (zI (q))), (0, .ref (ad 1))] [.ref hp36z]
      exact zr_aret X rfl (Or.inl ⟨_, rfl⟩) ⟨_, σ46, rfl, hS44, fx47, ⟨by omega, by omega, (fun j h1 h2 h3 h4 => by rw [σ46e]; exact (zdn_ne h2).trans (hI4 j h1 h3 h4)), by rw [σ46e]; exact (zdn_ne (by decide)).trans hI5, by rw [σ46e]; show σ1 30 + 1 = σ 30 + 1; rw [hI4 30 (by omega) (by omega) (by omega)], by rw [σ46e]; show (σ1 27, σ1 28, σ1 29, σ1 33) = _; exact (zpm_fin (n := tc.toNat) (by omega)).symm.trans hI13, fun j h1 h2 => by rw [σ46e, show zdn σ1 28 - σ 28 = nx by have : zdn σ1 28 = σ1 28 := zdn_ne (by decide); omega]; exact (zdn_ne (by omega)).trans (hI15 j h1 h2)⟩⟩ dX6_pump_150
    · refine zr_iload X 80 1 dX6_pump_78 rfl rfl ?_
      refine zr_aload X 82 3 dX6_pump_80 rfl rfl ?_
      obtain ⟨t51r, t51to, t51tr, t51e, t51e2, t51h, t51T, t51o, t51q, t51c, t51a, t51b, t51z⟩ := hI1.txt (q := q) (by omega)
      have t51g := t51T.rg
      refine zr_txSize X 85 t51T gX6_pump_X5_size_u165X5 gX6_pump_X2_size_u165X2 (by decide) (Nat.le_of_ble_eq_true rfl) dX6_pump_82 rfl ?_
      refine zr_icmp_lt X 104 88 dX6_pump_85 rfl rfl (by omega) (by omega) (fun bq52 => ?_) (fun bq52 => ?_)
      · refine zr_iload X 106 1 dX6_pump_104 rfl rfl ?_
        refine zr_aload_n X 107 7 dX6_pump_106 rfl rfl ?_
        refine zr_aload X 109 3 dX6_pump_107 rfl rfl ?_
        refine zr_iload X 111 1 dX6_pump_109 rfl rfl ?_
        refine zr_iload_n X 112 5 dX6_pump_111 rfl rfl ?_
        refine zr_callVe (kc' := 3002 - cap) (ks' := 6200 - 2 * cap) X 115 3 (m_X6_letIn l Γ (fr := nx) (mo := a) hI1 t51T t51o t51q (by omega) (by omega) (by omega)) gX6_pump_X6_letIn rfl (by decide +kernel) rfl (by decide) hI1.x rfl rfl (Nat.le_of_ble_eq_true rfl) dX6_pump_112 rfl (by omega) (by omega) (fun rv53 V54 hp55 => ?_)
        obtain ⟨hp55k, hp55σ, hp55e, hp55s, hp55x, hp55g, hp55a, hp55b, hp55c, hp55d, hp55q⟩ := hp55
        rw [hp55e]
        have hb56 := hI3.kept hp55g (by omega)
        have fx57 := zag.tr hI2 hp55x
        have hx58 : V54 (ad 1) = some (1, .inr (7, [.ref (ad 2), .ref (ad 20), .ref (ad 22), .ref (ad 24), .ref (ad 16), .ref (ad 31), .ref (ad 33), .ref (ad 35), .ref (ad 40), .ref (ad 45), .int (zI (hp55σ 30)), .int (zI (hp55σ 31)), .int (zI (hp55σ 32)), .int (zI (hp55σ 33))])) := hp55s.1
        show zG C V54 (3002 - cap) (6200 - 2 * cap) 115 [(7, .int (zI (tc))), (6, .int (zI (nx))), (5, .ref q18), (4, .ref (zso ad q)), (3, .int (zI (b))), (2, .int (zI (a))), (1, .int (zI (q))), (0, .ref (ad 1))] [.int (zI (hp55k)), .int (zI (nx))]
        refine zr_iadd X 116 dX6_pump_115 rfl ?_
        refine zr_istore X 118 [(6, .int (zI (nx + hp55k))), (7, .int (zI (tc))), (5, .ref q18), (4, .ref (zso ad q)), (3, .int (zI (b))), (2, .int (zI (a))), (1, .int (zI (q))), (0, .ref (ad 1))] dX6_pump_116 rfl (by decide) rfl ?_
        refine zr_aload_n X 119 7 dX6_pump_118 rfl rfl ?_
        refine zr_iload_n X 120 4 dX6_pump_119 rfl rfl ?_
        refine zr_aload X 122 2 dX6_pump_120 rfl rfl ?_
        have hp61p := hp55s.prg
        have hp61r := hb56.rg
        obtain ⟨cm62k, cm62kh⟩ := zlesser b (hp55σ 27)
        obtain ⟨cm62, cm62h⟩ := zgrowk (cnt) cm62k cap
        refine zr_callVe (kc' := 3002 - cap - (cm62 - cap)) (ks' := 6200 - 2 * cap - 2 * (cm62 - cap)) X 125 2 (m_X6_letOut l Γ (n := b) hp55s hb56 (by omega) (by omega) cm62kh cm62h) gX6_pump_X6_letOut rfl (by decide +kernel) rfl (by decide) hp55s.x rfl rfl (Nat.le_of_ble_eq_true rfl) dX6_pump_122 rfl (by omega) (by omega) (fun rv59 V60 hp61 => ?_)
        obtain ⟨hp61e, hp61σ, hp61s, hp61x, hp61q, hp61b⟩ := hp61
        rw [hp61e]
        have fx63 := zag.tr fx57 hp61x
        have hx64 : V60 (ad 1) = some (1, .inr (7, [.ref (ad 2), .ref (ad 20), .ref (ad 22), .ref (ad 24), .ref (ad 16), .ref (ad 31), .ref (ad 33), .ref (ad 35), .ref (ad 40), .ref (ad 45), .int (zI (hp61σ 30)), .int (zI (hp61σ 31)), .int (zI (hp61σ 32)), .int (zI (hp61σ 33))])) := hp61s.1
        show zG C V60 (3002 - cap - (cm62 - cap)) (6200 - 2 * cap - 2 * (cm62 - cap)) 125 [(6, .int (zI (nx + hp55k))), (7, .int (zI (tc))), (5, .ref q18), (4, .ref (zso ad q)), (3, .int (zI (b))), (2, .int (zI (a))), (1, .int (zI (q))), (0, .ref (ad 1))] []
        refine zr_aload_n X 126 7 dX6_pump_125 rfl rfl ?_
        refine zr_dup X 127 dX6_pump_126 rfl rfl ?_
        refine zr_get X 130 7 13 hx64 rfl iX6 (by decide) w10 rfl rfl dX6_pump_127 rfl ?_
        refine zr_iconst X 131 dX6_pump_130 rfl ?_
        refine zr_iadd X 132 dX6_pump_131 rfl ?_
        refine zr_put X 135 7 13 [.ref (ad 2), .ref (ad 20), .ref (ad 22), .ref (ad 24), .ref (ad 16), .ref (ad 31), .ref (ad 33), .ref (ad 35), .ref (ad 40), .ref (ad 45), .int (zI (hp61σ 30)), .int (zI (hp61σ 31)), .int (zI (hp61σ 32)), .int (zI ((hp61σ 33) + 1))] tyX6 hx64 rfl iX6 tyX6_ok nmX6 (by decide) w10 rfl rfl rfl rfl (Nat.le_of_ble_eq_true rfl) rfl dX6_pump_132 rfl ?_
        refine zr_iinc X 138 1 [(7, .int (zI (tc + (-1)))), (6, .int (zI (nx + hp55k))), (5, .ref q18), (4, .ref (zso ad q)), (3, .int (zI (b))), (2, .int (zI (a))), (1, .int (zI (q))), (0, .ref (ad 1))] dX6_pump_135 rfl rfl (by decide) rfl ?_
        refine zr_goto X 73 dX6_pump_138 rfl ?_
        have pz65c := hI12.step cm62h (by omega)
        have pz65r := pz65c.rg
        refine zr_room (3002 - cm62) (6200 - 2 * cm62) (by omega) (by omega) ?_
        obtain ⟨pz65s, pz65x⟩ := hp61s.setX (hp61σ 30) (hp61σ 31) (hp61σ 32) (hp61σ 33 + 1)
        have pz65b := hp61b.kept (zag.rf.set (P := fun t => t ≠ 1) (t := 1) (e := zXc ad (hp61σ 30) (hp61σ 31) (hp61σ 32) (hp61σ 33 + 1)) hp61s.1 (fun z9 => z9 rfl)) (by decide)
        have pz65p := hp55s.prg
        obtain ⟨pz65j, pz65g, pz65w, pz6527b, pz6528b, pz6529b, pz6533b, pz6526, pz6527⟩ := zpu_st hI4 hI5 hI16 hI15 (by omega) hI6 hp55a hpr9.2.2.2.2.1 pz65p.2.2.2.2.2.1 t51z t51b hp55c hp55q hp61q
        have pz65y := zag.tr fx63 pz65x
        obtain ⟨pz65A, pz65B, pz65C, pz65D, pz65E, pz65F, pz65G, pz65H, pz65I⟩ := zpu_fin (a := a) (b := b) (sz1 := zsz σ1 q) (w1 := σ1 26) (s27 := hp55σ 27) (s26 := hp55σ 26) (by omega) (by omega) (by omega) hz1 hI5 pz6526 pz6527 pz65p.2.2.1 pz65p.2.2.2.1 hp55a hp55b hI6 hI7 hp55c hp55d hI9 hI10 hI11 hI14 hI16 cm62kh pz6527b pz6528b pz6529b pz6533b
        have pz65z := pz65I.trans hI13
        exact ih _ (by omega) (zu V60 (ad 1) 1 (.inr (7, [.ref (ad 2), .ref (ad 20), .ref (ad 22), .ref (ad 24), .ref (ad 16), .ref (ad 31), .ref (ad 33), .ref (ad 35), .ref (ad 40), .ref (ad 45), .int (zI (hp61σ 30)), .int (zI (hp61σ 31)), .int (zI (hp61σ 32)), .int (zI ((hp61σ 33) + 1))]))) (zx4 hp61σ (hp61σ 30) (hp61σ 31) (hp61σ 32) (hp61σ 33 + 1)) (nx + hp55k) (tc + (-1)) (cnt + cm62k) cm62 ⟨pz65s, pz65y, pz65b, pz65j, pz65w, pz65A, pz65B, pz65C, pz65D, pz65E, pz65F, pz65c, pz65z, pz65G, pz65g, pz65H⟩ rfl
      · refine zr_aload_n X 89 7 dX6_pump_88 rfl rfl ?_
        refine zr_get X 92 7 3 hx32 rfl iX6 (by decide) w0 rfl rfl dX6_pump_89 rfl ?_
        refine zr_getN X 95 3 0 0 hI1.2.2.2.2.2.1.1 rfl iX1 (by decide) rfl rfl rfl dX6_pump_92 rfl ?_
        refine zr_callVe (kc' := 3002 - cap) (ks' := 6200 - 2 * cap) X 98 0 (f_size l Γ hI1.2.2.2.2.2.1.2.1) gX6_pump_X2_size rfl (by decide +kernel) rfl (by decide) hI1.2.2.2.2.2.1.2.1.cl rfl rfl (Nat.le_of_ble_eq_true rfl) dX6_pump_95 rfl (by omega) (by omega) (fun rv66 V67 hp68 => ?_)
        rw [hp68.1, hp68.2]
        have hp68r := hI1.2.2.2.2.2.1.2.1.rg
        show zG C V1 (3002 - cap) (6200 - 2 * cap) 98 [(7, .int (zI (tc))), (6, .int (zI (nx))), (5, .ref q18), (4, .ref (zso ad q)), (3, .int (zI (b))), (2, .int (zI (a))), (1, .int (zI (q))), (0, .ref (ad 1))] [.int (zI (σ1 27))]
        refine zr_if_ne X 104 101 dX6_pump_98 rfl rfl (by omega) (fun bq69 => ?_) (fun bq69 => ?_)
        · refine zr_iload X 106 1 dX6_pump_104 rfl rfl ?_
          refine zr_aload_n X 107 7 dX6_pump_106 rfl rfl ?_
          refine zr_aload X 109 3 dX6_pump_107 rfl rfl ?_
          refine zr_iload X 111 1 dX6_pump_109 rfl rfl ?_
          refine zr_iload_n X 112 5 dX6_pump_111 rfl rfl ?_
          refine zr_callVe (kc' := 3002 - cap) (ks' := 6200 - 2 * cap) X 115 3 (m_X6_letIn l Γ (fr := nx) (mo := a) hI1 t51T t51o t51q (by omega) (by omega) (by omega)) gX6_pump_X6_letIn rfl (by decide +kernel) rfl (by decide) hI1.x rfl rfl (Nat.le_of_ble_eq_true rfl) dX6_pump_112 rfl (by omega) (by omega) (fun rv70 V71 hp72 => ?_)
          obtain ⟨hp72k, hp72σ, hp72e, hp72s, hp72x, hp72g, hp72a, hp72b, hp72c, hp72d, hp72q⟩ := hp72
          rw [hp72e]
          have hb73 := hI3.kept hp72g (by omega)
          have fx74 := zag.tr hI2 hp72x
          have hx75 : V71 (ad 1) = some (1, .inr (7, [.ref (ad 2), .ref (ad 20), .ref (ad 22), .ref (ad 24), .ref (ad 16), .ref (ad 31), .ref (ad 33), .ref (ad 35), .ref (ad 40), .ref (ad 45), .int (zI (hp72σ 30)), .int (zI (hp72σ 31)), .int (zI (hp72σ 32)), .int (zI (hp72σ 33))])) := hp72s.1
          show zG C V71 (3002 - cap) (6200 - 2 * cap) 115 [(7, .int (zI (tc))), (6, .int (zI (nx))), (5, .ref q18), (4, .ref (zso ad q)), (3, .int (zI (b))), (2, .int (zI (a))), (1, .int (zI (q))), (0, .ref (ad 1))] [.int (zI (hp72k)), .int (zI (nx))]
          refine zr_iadd X 116 dX6_pump_115 rfl ?_
          refine zr_istore X 118 [(6, .int (zI (nx + hp72k))), (7, .int (zI (tc))), (5, .ref q18), (4, .ref (zso ad q)), (3, .int (zI (b))), (2, .int (zI (a))), (1, .int (zI (q))), (0, .ref (ad 1))] dX6_pump_116 rfl (by decide) rfl ?_
          refine zr_aload_n X 119 7 dX6_pump_118 rfl rfl ?_
          refine zr_iload_n X 120 4 dX6_pump_119 rfl rfl ?_
          refine zr_aload X 122 2 dX6_pump_120 rfl rfl ?_
          have hp78p := hp72s.prg
          have hp78r := hb73.rg
          obtain ⟨cm79k, cm79kh⟩ := zlesser b (hp72σ 27)
          obtain ⟨cm79, cm79h⟩ := zgrowk (cnt) cm79k cap
          refine zr_callVe (kc' := 3002 - cap - (cm79 - cap)) (ks' := 6200 - 2 * cap - 2 * (cm79 - cap)) X 125 2 (m_X6_letOut l Γ (n := b) hp72s hb73 (by omega) (by omega) cm79kh cm79h) gX6_pump_X6_letOut rfl (by decide +kernel) rfl (by decide) hp72s.x rfl rfl (Nat.le_of_ble_eq_true rfl) dX6_pump_122 rfl (by omega) (by omega) (fun rv76 V77 hp78 => ?_)
          obtain ⟨hp78e, hp78σ, hp78s, hp78x, hp78q, hp78b⟩ := hp78
          rw [hp78e]
          have fx80 := zag.tr fx74 hp78x
          have hx81 : V77 (ad 1) = some (1, .inr (7, [.ref (ad 2), .ref (ad 20), .ref (ad 22), .ref (ad 24), .ref (ad 16), .ref (ad 31), .ref (ad 33), .ref (ad 35), .ref (ad 40), .ref (ad 45), .int (zI (hp78σ 30)), .int (zI (hp78σ 31)), .int (zI (hp78σ 32)), .int (zI (hp78σ 33))])) := hp78s.1
          show zG C V77 (3002 - cap - (cm79 - cap)) (6200 - 2 * cap - 2 * (cm79 - cap)) 125 [(6, .int (zI (nx + hp72k))), (7, .int (zI (tc))), (5, .ref q18), (4, .ref (zso ad q)), (3, .int (zI (b))), (2, .int (zI (a))), (1, .int (zI (q))), (0, .ref (ad 1))] []
          refine zr_aload_n X 126 7 dX6_pump_125 rfl rfl ?_
          refine zr_dup X 127 dX6_pump_126 rfl rfl ?_
          refine zr_get X 130 7 13 hx81 rfl iX6 (by decide) w10 rfl rfl dX6_pump_127 rfl ?_
          refine zr_iconst X 131 dX6_pump_130 rfl ?_
          refine zr_iadd X 132 dX6_pump_131 rfl ?_
          refine zr_put X 135 7 13 [.ref (ad 2), .ref (ad 20), .ref (ad 22), .ref (ad 24), .ref (ad 16), .ref (ad 31), .ref (ad 33), .ref (ad 35), .ref (ad 40), .ref (ad 45), .int (zI (hp78σ 30)), .int (zI (hp78σ 31)), .int (zI (hp78σ 32)), .int (zI ((hp78σ 33) + 1))] tyX6 hx81 rfl iX6 tyX6_ok nmX6 (by decide) w10 rfl rfl rfl rfl (Nat.le_of_ble_eq_true rfl) rfl dX6_pump_132 rfl ?_
          refine zr_iinc X 138 1 [(7, .int (zI (tc + (-1)))), (6, .int (zI (nx + hp72k))), (5, .ref q18), (4, .ref (zso ad q)), (3, .int (zI (b))), (2, .int (zI (a))), (1, .int (zI (q))), (0, .ref (ad 1))] dX6_pump_135 rfl rfl (by decide) rfl ?_
          refine zr_goto X 73 dX6_pump_138 rfl ?_
          have pz82c := hI12.step cm79h (by omega)
          have pz82r := pz82c.rg
          refine zr_room (3002 - cm79) (6200 - 2 * cm79) (by omega) (by omega) ?_
          obtain ⟨pz82s, pz82x⟩ := hp78s.setX (hp78σ 30) (hp78σ 31) (hp78σ 32) (hp78σ 33 + 1)
          have pz82b := hp78b.kept (zag.rf.set (P := fun t => t ≠ 1) (t := 1) (e := zXc ad (hp78σ 30) (hp78σ 31) (hp78σ 32) (hp78σ 33 + 1)) hp78s.1 (fun z9 => z9 rfl)) (by decide)
          have pz82p := hp72s.prg
          obtain ⟨pz82j, pz82g, pz82w, pz8227b, pz8228b, pz8229b, pz8233b, pz8226, pz8227⟩ := zpu_st hI4 hI5 hI16 hI15 (by omega) hI6 hp72a hpr9.2.2.2.2.1 pz82p.2.2.2.2.2.1 t51z t51b hp72c hp72q hp78q
          have pz82y := zag.tr fx80 pz82x
          obtain ⟨pz82A, pz82B, pz82C, pz82D, pz82E, pz82F, pz82G, pz82H, pz82I⟩ := zpu_fin (a := a) (b := b) (sz1 := zsz σ1 q) (w1 := σ1 26) (s27 := hp72σ 27) (s26 := hp72σ 26) (by omega) (by omega) (by omega) hz1 hI5 pz8226 pz8227 pz82p.2.2.1 pz82p.2.2.2.1 hp72a hp72b hI6 hI7 hp72c hp72d hI9 hI10 hI11 hI14 hI16 cm79kh pz8227b pz8228b pz8229b pz8233b
          have pz82z := pz82I.trans hI13
          exact ih _ (by omega) (zu V77 (ad 1) 1 (.inr (7, [.ref (ad 2), .ref (ad 20), .ref (ad 22), .ref (ad 24), .ref (ad 16), .ref (ad 31), .ref (ad 33), .ref (ad 35), .ref (ad 40), .ref (ad 45), .int (zI (hp78σ 30)), .int (zI (hp78σ 31)), .int (zI (hp78σ 32)), .int (zI ((hp78σ 33) + 1))]))) (zx4 hp78σ (hp78σ 30) (hp78σ 31) (hp78σ 32) (hp78σ 33 + 1)) (nx + hp72k) (tc + (-1)) (cnt + cm79k) cm79 ⟨pz82s, pz82y, pz82b, pz82j, pz82w, pz82A, pz82B, pz82C, pz82D, pz82E, pz82F, pz82c, pz82z, pz82G, pz82g, pz82H⟩ rfl
        · refine zr_goto X 141 dX6_pump_101 rfl ?_
          refine zr_aload_n X 142 7 dX6_pump_141 rfl rfl ?_
          refine zr_aload X 144 2 dX6_pump_142 rfl rfl ?_
          have hp85r := hI3.rg
          refine zr_callVe (kc' := 3002 - cap - 2) (ks' := 6200 - 2 * cap - ((cnt).toNat + 4)) X 147 0 (zsb_str l Γ hI3) gX6_pump_J4_toString_0e30d rfl (by decide +kernel) rfl (by decide) hI3.cl rfl rfl (Nat.le_of_ble_eq_true rfl) dX6_pump_144 rfl (by omega) (by omega) (fun rv83 V84 hp85 => ?_)
          obtain ⟨hp85z, hp85e, hp85n, hp85f⟩ := hp85
          rw [hp85e]
          obtain ⟨hS86, fx87⟩ := hI1.fr hp85f
          have fx88 := zag.tr hI2 fx87
          have hx89 : V84 (ad 1) = some (1, .inr (7, [.ref (ad 2), .ref (ad 20), .ref (ad 22), .ref (ad 24), .ref (ad 16), .ref (ad 31), .ref (ad 33), .ref (ad 35), .ref (ad 40), .ref (ad 45), .int (zI (σ1 30)), .int (zI (σ1 31)), .int (zI (σ1 32)), .int (zI (σ1 33))])) := hS86.1
          show zG C V84 (3002 - cap - 2) (6200 - 2 * cap - ((cnt).toNat + 4)) 147 [(7, .int (zI (tc))), (6, .int (zI (nx))), (5, .ref q18), (4, .ref (zso ad q)), (3, .int (zI (b))), (2, .int (zI (a))), (1, .int (zI (q))), (0, .ref (ad 1))] [.ref hp85z, .ref (ad 1)]
          refine zr_callVe (kc' := (3002 - cap - 2)) (ks' := (6200 - 2 * cap - ((cnt).toNat + 4))) X 150 1 (m_X6_done_ l Γ (y := hp85z) hS86) gX6_pump_X6_done_ rfl (by decide +kernel) rfl (by decide) hS86.x rfl rfl (Nat.le_of_ble_eq_true rfl) dX6_pump_147 rfl (by omega) (by omega) (fun rv90 V91 hp92 => ?_)
          obtain ⟨hp92e, hS93, fx94⟩ := hp92
          rw [hp92e]
          obtain ⟨σ95, σ95e⟩ : ∃ zz9 : Nat → Int, zz9 = zdn σ1 := ⟨_, rfl⟩
          rw [← σ95e] at hS93
          have fx96 := zag.tr fx88 fx94
          have hx97 : V91 (ad 1) = some (1, .inr (7, [.ref (ad 2), .ref (ad 20), .ref (ad 22), .ref (ad 24), .ref (ad 16), .ref (ad 31), .ref (ad 33), .ref (ad 35), .ref (ad 40), .ref (ad 45), .int (zI (σ95 30)), .int (zI (σ95 31)), .int (zI (σ95 32)), .int (zI (σ95 33))])) := hS93.1
          show zG C V91 (3002 - cap - 2) (6200 - 2 * cap - ((cnt).toNat + 4)) 150 [(7, .int (zI (tc))), (6, .int (zI (nx))), (5, .ref q18), (4, .ref (zso ad q)), (3, .int (zI (b))), (2, .int (zI (a))), (1, .int (zI (q))), (0, .ref (ad 1))] [.ref hp85z]
          exact zr_aret X rfl (Or.inl ⟨_, rfl⟩) ⟨_, σ95, rfl, hS93, fx96, ⟨by omega, by omega, (fun j h1 h2 h3 h4 => by rw [σ95e]; exact (zdn_ne h2).trans (hI4 j h1 h3 h4)), by rw [σ95e]; exact (zdn_ne (by decide)).trans hI5, by rw [σ95e]; show σ1 30 + 1 = σ 30 + 1; rw [hI4 30 (by omega) (by omega) (by omega)], by rw [σ95e]; show (σ1 27, σ1 28, σ1 29, σ1 33) = _; exact (zpm_fin (n := tc.toNat) (by omega)).symm.trans hI13, fun j h1 h2 => by rw [σ95e, show zdn σ1 28 - σ 28 = nx by have : zdn σ1 28 = σ1 28 := zdn_ne (by decide); omega]; exact (zdn_ne (by omega)).trans (hI15 j h1 h2)⟩⟩ dX6_pump_150
  exact loop _ V21 σ 0 ((zsz σ q) + (σ 27)) 0 16 ⟨hS24, fx25, hp22b, fun j _ _ _ => rfl, rfl, by omega, by omega, by omega, by omega, by omega, by omega, Or.inl rfl, rfl, by omega, fun j _ _ => (zly_ne (show ¬ (300 + (σ 28).toNat ≤ j ∧ j < 300 + (σ 28).toNat + (0 : Int).toNat) by omega)).symm, by omega⟩ rfl
