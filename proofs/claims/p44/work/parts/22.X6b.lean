/-! Sashwords: the windows' calls -/
theorem z50.tr {Γ : zGam} {V V' V'' : zV} (h : z50 Γ V V') (h' : z50 Γ V' V'') : z50 Γ V V'' := fun a n f h1 h2 => by
  obtain ⟨f1, k1, k2⟩ := h a n f h1 h2
  exact h' a n f1 k1 k2
theorem zWs.tr {Γ : zGam} {V V' V'' : zV} {tw w : Nat} {c l p m c' l' p' m' : Int} (h : zWs Γ V V' tw w c l p m) (h' : zWs Γ V' V'' tw w c' l' p' m') : zWs Γ V V'' tw w c' l' p' m' := ⟨h'.1, h.2.1.tr h'.2.1, h.2.2.tr h'.2.2⟩
theorem zWi.other {Γ : zGam} {V V' : zV} {tw w : Nat} {c l p m : Int} {t2 w2 : Nat} {c' l' p' m' : Int} (h : zWi Γ V tw w c l p m) (h' : zWs Γ V V' t2 w2 c' l' p' m') (h1 : tw ≠ t2) (h2 : tw ≠ 50) : zWi Γ V' tw w c l p m := h.row h'.2.1 ⟨h1, h2⟩ h'.2.2
theorem zS.w {Γ : zGam} {V : zV} {ad : Nat → Nat} {σ : Nat → Int} (h : zS Γ V ad σ) {i : Nat} (hi : i < 6) : zWi Γ V (10 + i) (ad (10 + i)) (σ (4 * i)) (σ (4 * i + 1)) (σ (4 * i + 2)) (σ (4 * i + 3)) := h.2.2.1 i hi
theorem zS.x {Γ : zGam} {V : zV} {ad : Nat → Nat} {σ : Nat → Int} (h : zS Γ V ad σ) : zCl V (ad 1) 7 := ⟨_, _, h.1⟩
theorem zneW {Γ : zGam} {V : zV} {tw w to o : Nat} {c l p m c' l' p' m' : Int} (h : zWi Γ V tw w c l p m) (h' : zWi Γ V to o c' l' p' m') (hne : tw ≠ to) : w ≠ o := by
  obtain ⟨r, n, st, f, h1, -⟩ := h
  obtain ⟨r', n', st', f', h1', -⟩ := h'
  exact zne_tag h1 h1' hne
theorem zr_getNw {C : zC} {l0 : Launch} {Γ0 : zGam} {n0 : Nat} {own : String} {cc : ByteArray} {ws : List Cond} {d : Nat} {ret : Option FieldType} {Post : Option Value → zV → Prop} {V : zV} {kc ks pc : Nat} {lv : List (Nat × Value)} {rest : List Value} (X : zK C l0 Γ0 n0 own cc ws d ret Post) (n' k i : Nat) {index tw w : Nat} {c l p m : Int} (hw : zWi Γ0 V tw w c l p m) (v : Int) (hk : (k = 2 ∧ v = c) ∨ (k = 3 ∧ v = l) ∨ (k = 4 ∧ v = p) ∨ (k = 5 ∧ v = m)) (hin : ∀ w ∈ u_ws RX5 TX5 6, w ∈ ws) (hz : zxf[i]? = some (own, index, "Sashwords$Window", (TX5 k).2.1, (TX5 k).2.2.1, "Sashwords")) (hdg : decode cc pc = .ok (.getfield index, 3)) (hn : pc + 3 = n') (kk : zG C V kc ks n' lv (.int (zI v) :: rest)) : zG C V kc ks pc lv (.ref w :: rest) := by
  obtain ⟨r, n, st, f, h1, -⟩ := hw
  rcases hk with ⟨rfl, rfl⟩ | ⟨rfl, rfl⟩ | ⟨rfl, rfl⟩ | ⟨rfl, rfl⟩
  · exact zr_getN X n' 6 2 i h1 rfl hin (by decide) hz rfl rfl hdg hn kk
  · exact zr_getN X n' 6 3 i h1 rfl hin (by decide) hz rfl rfl hdg hn kk
  · exact zr_getN X n' 6 4 i h1 rfl hin (by decide) hz rfl rfl hdg hn kk
  · exact zr_getN X n' 6 5 i h1 rfl hin (by decide) hz rfl rfl hdg hn kk
set_option maxRecDepth 100000 in
set_option maxHeartbeats 4000000 in
theorem m_X6_allocate (l : Launch) (hlt : l.stackTraces = false) (Γ : zGam) {V : zV} {ad : Nat → Nat} {σ : Nat → Int} {q z : Int} (hS : zS Γ V ad σ) (hq : -2147483648 ≤ q ∧ q ≤ 2147483647) (hz : -2147483648 ≤ z ∧ z ≤ 2147483647) : zN l Γ 8 yX6_allocate wsX6_allocate 9 100 V [.ref (ad 1), .int (zI (q)), .int (zI (z))] (fun rv V' => ∃ (y : Int) (σ' : Nat → Int), rv = some (.int (zI y)) ∧ zS Γ V' ad σ' ∧ zfx V V' ∧ ((0 ≤ q ∧ q < 6 ∧ 0 ≤ z ∧ z ≤ 40) ∧ y = z - 0 ∧ σ' = zdn (zf (zf (zw4 σ q.toNat z z 0 (-9)) (40 + q.toNat) (σ 46)) 46 (σ 46 + z)))) (fun E V' => V' = V ∧ ((E = zIO ∧ ¬ (0 ≤ q ∧ q < 6)) ∨ (E = zIA ∧ (0 ≤ q ∧ q < 6) ∧ ¬ (0 ≤ z ∧ z ≤ 40)))) := by
  refine zN_of (cc := cX6_allocate) (nL := 4) (ret := (some .int)) (own := RX6) hlt (by decide +kernel) rfl rfl (Nat.le_of_ble_eq_true rfl) (fun C X Y => ?_)
  have hx1 : V (ad 1) = some (1, .inr (7, [.ref (ad 2), .ref (ad 20), .ref (ad 22), .ref (ad 24), .ref (ad 16), .ref (ad 31), .ref (ad 33), .ref (ad 35), .ref (ad 40), .ref (ad 45), .int (zI (σ 30)), .int (zI (σ 31)), .int (zI (σ 32)), .int (zI (σ 33))])) := hS.1
  show zG C V 9 100 0 [(0, .ref (ad 1)), (1, .int (zI (q))), (2, .int (zI (z)))] []
  refine zr_aload_n X 1 0 dX6_allocate_0 rfl rfl ?_
  refine zr_iload_n X 2 1 dX6_allocate_1 rfl rfl ?_
  refine zr_callVN (kc' := 9 - 1) (ks' := 100 - 6) X Y 5 1 (m_X6_windowOf l hlt Γ hS (q := q) (by omega)) gX6_allocate_X6_windowOf rfl (by decide +kernel) rfl (by decide) hx1 rfl rfl (Nat.le_of_ble_eq_true rfl) dX6_allocate_2 rfl (by omega) (by omega) (fun E W hX => ⟨hX.2.2, Or.inl ⟨hX.1, by have := hX.2.1; omega⟩⟩) (fun rv2 V3 hp4 => ?_)
  obtain ⟨hp4a, hp4b, hp4c⟩ := hp4
  rw [hp4b, hp4c]
  have hw5 := hS.w (i := q.toNat) (by omega)
  have hw5r := hw5.rg
  show zG C V (9 - 1) (100 - 6) 5 [(0, .ref (ad 1)), (1, .int (zI (q))), (2, .int (zI (z)))] [.ref (ad (10 + q.toNat))]
  refine zr_astore_n X 6 [(3, .ref (ad (10 + q.toNat))), (0, .ref (ad 1)), (1, .int (zI (q))), (2, .int (zI (z)))] dX6_allocate_5 rfl (by decide) rfl ?_
  refine zr_iload_n X 7 3 dX6_allocate_6 rfl rfl ?_
  refine zr_iconst X 8 dX6_allocate_7 rfl ?_
  refine zr_bipush X 10 (40) dX6_allocate_8 rfl (by decide) ?_
  refine zr_callSN (kc' := (9 - 1) - 1) (ks' := (100 - 6) - 6) X Y 13 3 (m_X6_requireWithin l hlt Γ (V := V) (x := z) (a := 0) (b := 40) (by omega) (by omega) (by omega)) gX6_allocate_X6_requireWithin rfl (by decide +kernel) rfl (by decide) rfl (Nat.le_of_ble_eq_true rfl) dX6_allocate_10 rfl (by omega) (by omega) (fun E W hX => ⟨hX.2.2, Or.inr ⟨hX.1, by have := hX.2.1; omega⟩⟩) (fun rv6 V7 hp8 => ?_)
  obtain ⟨hp8a, hp8b, hp8c⟩ := hp8
  rw [hp8b, hp8c]
  show zG C V ((9 - 1) - 1) ((100 - 6) - 6) 13 [(3, .ref (ad (10 + q.toNat))), (0, .ref (ad 1)), (1, .int (zI (q))), (2, .int (zI (z)))] []
  refine zr_aload_n X 14 0 dX6_allocate_13 rfl rfl ?_
  refine zr_iload_n X 15 3 dX6_allocate_14 rfl rfl ?_
  refine zr_callVe (kc' := (((9 - 1) - 1) - 1)) (ks' := (((100 - 6) - 6) - (z).toNat)) X 18 1 (k_becomeNew l Γ hS (i := q.toNat) (by omega) (z := z) (by omega)) gX6_allocate_X5_becomeNew rfl (by decide +kernel) rfl (by decide) hw5.cl rfl rfl (Nat.le_of_ble_eq_true rfl) dX6_allocate_15 rfl (by omega) (by omega) (fun rv9 V10 hp11 => ?_)
  obtain ⟨hp11e, hS12, fx13, hp11z⟩ := hp11
  rw [hp11e]
  have hw14 := hp11z.1
  obtain ⟨σ15, σ15e⟩ : ∃ zz9 : Nat → Int, zz9 = zf (zf (zw4 σ q.toNat (z) (z) (0) (-9)) (40 + q.toNat) (σ 46)) 46 (σ 46 + z) := ⟨_, rfl⟩
  rw [← σ15e] at hS12
  have hx16 : V10 (ad 1) = some (1, .inr (7, [.ref (ad 2), .ref (ad 20), .ref (ad 22), .ref (ad 24), .ref (ad 16), .ref (ad 31), .ref (ad 33), .ref (ad 35), .ref (ad 40), .ref (ad 45), .int (zI (σ15 30)), .int (zI (σ15 31)), .int (zI (σ15 32)), .int (zI (σ15 33))])) := hS12.1
  show zG C V10 (((9 - 1) - 1) - 1) (((100 - 6) - 6) - (z).toNat) 18 [(3, .ref (ad (10 + q.toNat))), (0, .ref (ad 1)), (1, .int (zI (q))), (2, .int (zI (z)))] []
  refine zr_aload_n X 19 1 dX6_allocate_18 rfl rfl ?_
  refine zr_aload_n X 20 0 dX6_allocate_19 rfl rfl ?_
  refine zr_callVe (kc' := (((9 - 1) - 1) - 1)) (ks' := (((100 - 6) - 6) - (z).toNat)) X 23 0 (e_size l Γ hw14) gX6_allocate_X5_size rfl (by decide +kernel) rfl (by decide) hw14.cl rfl rfl (Nat.le_of_ble_eq_true rfl) dX6_allocate_20 rfl (by omega) (by omega) (fun rv17 V18 hp19 => ?_)
  rw [hp19.1, hp19.2]
  show zG C V10 (((9 - 1) - 1) - 1) (((100 - 6) - 6) - (z).toNat) 23 [(3, .ref (ad (10 + q.toNat))), (0, .ref (ad 1)), (1, .int (zI (q))), (2, .int (zI (z)))] [.int (zI (z - 0)), .ref (ad 1)]
  refine zr_callVe (kc' := (((9 - 1) - 1) - 1)) (ks' := (((100 - 6) - 6) - (z).toNat)) X 26 1 (m_X6_done l Γ hS12) gX6_allocate_X6_done rfl (by decide +kernel) rfl (by decide) hS12.x rfl rfl (Nat.le_of_ble_eq_true rfl) dX6_allocate_23 rfl (by omega) (by omega) (fun rv20 V21 hp22 => ?_)
  obtain ⟨hp22e, hS23, fx24⟩ := hp22
  rw [hp22e]
  obtain ⟨σ25, σ25e⟩ : ∃ zz9 : Nat → Int, zz9 = zdn σ15 := ⟨_, rfl⟩
  rw [← σ25e] at hS23
  have fx26 := zag.tr fx13 fx24
  have hx27 : V21 (ad 1) = some (1, .inr (7, [.ref (ad 2), .ref (ad 20), .ref (ad 22), .ref (ad 24), .ref (ad 16), .ref (ad 31), .ref (ad 33), .ref (ad 35), .ref (ad 40), .ref (ad 45), .int (zI (σ25 30)), .int (zI (σ25 31)), .int (zI (σ25 32)), .int (zI (σ25 33))])) := hS23.1
  show zG C V21 (((9 - 1) - 1) - 1) (((100 - 6) - 6) - (z).toNat) 26 [(3, .ref (ad (10 + q.toNat))), (0, .ref (ad 1)), (1, .int (zI (q))), (2, .int (zI (z)))] [.int (zI (z - 0))]
  exact zr_iret X rfl ⟨z - 0, σ25, rfl, hS23, fx26, ⟨by omega, rfl, by rw [σ25e, σ15e]⟩⟩ dX6_allocate_26
set_option maxRecDepth 100000 in
set_option maxHeartbeats 4000000 in
theorem m_X6_rewind (l : Launch) (hlt : l.stackTraces = false) (Γ : zGam) {V : zV} {ad : Nat → Nat} {σ : Nat → Int} {q : Int} (hS : zS Γ V ad σ) (hq : -2147483648 ≤ q ∧ q ≤ 2147483647) : zN l Γ 8 yX6_rewind wsX6_rewind 1 6 V [.ref (ad 1), .int (zI (q))] (fun rv V' => ∃ (y : Int) (σ' : Nat → Int), rv = some (.int (zI y)) ∧ zS Γ V' ad σ' ∧ zfx V V' ∧ ((0 ≤ q ∧ q < 6) ∧ y = σ (4 * q.toNat + 1) - 0 ∧ σ' = zdn (zw4 σ q.toNat (σ (4 * q.toNat)) (σ (4 * q.toNat + 1)) 0 (-9)))) (fun E V' => V' = V ∧ ((E = zIO ∧ ¬ (0 ≤ q ∧ q < 6)) ∨ (E = zIA ∧ False))) := by
  have iX5 : ∀ w ∈ u_ws RX5 TX5 6, w ∈ wsX6_rewind := by decide +kernel
  refine zN_of (cc := cX6_rewind) (nL := 3) (ret := (some .int)) (own := RX6) hlt (by decide +kernel) rfl rfl (Nat.le_of_ble_eq_true rfl) (fun C X Y => ?_)
  have hx1 : V (ad 1) = some (1, .inr (7, [.ref (ad 2), .ref (ad 20), .ref (ad 22), .ref (ad 24), .ref (ad 16), .ref (ad 31), .ref (ad 33), .ref (ad 35), .ref (ad 40), .ref (ad 45), .int (zI (σ 30)), .int (zI (σ 31)), .int (zI (σ 32)), .int (zI (σ 33))])) := hS.1
  show zG C V 1 6 0 [(0, .ref (ad 1)), (1, .int (zI (q)))] []
  refine zr_aload_n X 1 0 dX6_rewind_0 rfl rfl ?_
  refine zr_iload_n X 2 1 dX6_rewind_1 rfl rfl ?_
  refine zr_callVN (kc' := 1 - 1) (ks' := 6 - 6) X Y 5 1 (m_X6_windowOf l hlt Γ hS (q := q) (by omega)) gX6_rewind_X6_windowOf rfl (by decide +kernel) rfl (by decide) hx1 rfl rfl (Nat.le_of_ble_eq_true rfl) dX6_rewind_2 rfl (by omega) (by omega) (fun E W hX => ⟨hX.2.2, Or.inl ⟨hX.1, by have := hX.2.1; omega⟩⟩) (fun rv2 V3 hp4 => ?_)
  obtain ⟨hp4a, hp4b, hp4c⟩ := hp4
  rw [hp4b, hp4c]
  have hw5 := hS.w (i := q.toNat) (by omega)
  have hw5r := hw5.rg
  show zG C V (1 - 1) (6 - 6) 5 [(0, .ref (ad 1)), (1, .int (zI (q)))] [.ref (ad (10 + q.toNat))]
  refine zr_astore_n X 6 [(2, .ref (ad (10 + q.toNat))), (0, .ref (ad 1)), (1, .int (zI (q)))] dX6_rewind_5 rfl (by decide) rfl ?_
  refine zr_aload_n X 7 0 dX6_rewind_6 rfl rfl ?_
  refine zr_iconst X 8 dX6_rewind_7 rfl ?_
  refine zr_aload_n X 9 0 dX6_rewind_8 rfl rfl ?_
  refine zr_getNw X 12 3 4 hw5 (σ (4 * q.toNat + 1)) (by simp) iX5 rfl dX6_rewind_9 rfl ?_
  refine zr_callVe (kc' := (1 - 1)) (ks' := (6 - 6)) X 15 2 (k_goTo l Γ hS (i := q.toNat) (by omega) (a := 0) (b := σ (4 * q.toNat + 1)) (by omega)) gX6_rewind_X5_goTo rfl (by decide +kernel) rfl (by decide) hw5.cl rfl rfl (Nat.le_of_ble_eq_true rfl) dX6_rewind_12 rfl (by omega) (by omega) (fun rv6 V7 hp8 => ?_)
  obtain ⟨hp8e, hS9, fx10, hp8z⟩ := hp8
  rw [hp8e]
  have hw11 := hp8z.1
  obtain ⟨σ12, σ12e⟩ : ∃ zz9 : Nat → Int, zz9 = zw4 σ q.toNat (σ (4 * q.toNat)) (σ (4 * q.toNat + 1)) (0) (-9) := ⟨_, rfl⟩
  rw [← σ12e] at hS9
  have hx13 : V7 (ad 1) = some (1, .inr (7, [.ref (ad 2), .ref (ad 20), .ref (ad 22), .ref (ad 24), .ref (ad 16), .ref (ad 31), .ref (ad 33), .ref (ad 35), .ref (ad 40), .ref (ad 45), .int (zI (σ12 30)), .int (zI (σ12 31)), .int (zI (σ12 32)), .int (zI (σ12 33))])) := hS9.1
  show zG C V7 (1 - 1) (6 - 6) 15 [(2, .ref (ad (10 + q.toNat))), (0, .ref (ad 1)), (1, .int (zI (q)))] []
  refine zr_aload_n X 16 1 dX6_rewind_15 rfl rfl ?_
  refine zr_aload_n X 17 0 dX6_rewind_16 rfl rfl ?_
  refine zr_callVe (kc' := (1 - 1)) (ks' := (6 - 6)) X 20 0 (e_size l Γ hw11) gX6_rewind_X5_size rfl (by decide +kernel) rfl (by decide) hw11.cl rfl rfl (Nat.le_of_ble_eq_true rfl) dX6_rewind_17 rfl (by omega) (by omega) (fun rv14 V15 hp16 => ?_)
  rw [hp16.1, hp16.2]
  show zG C V7 (1 - 1) (6 - 6) 20 [(2, .ref (ad (10 + q.toNat))), (0, .ref (ad 1)), (1, .int (zI (q)))] [.int (zI ((σ (4 * q.toNat + 1)) - 0)), .ref (ad 1)]
  refine zr_callVe (kc' := (1 - 1)) (ks' := (6 - 6)) X 23 1 (m_X6_done l Γ hS9) gX6_rewind_X6_done rfl (by decide +kernel) rfl (by decide) hS9.x rfl rfl (Nat.le_of_ble_eq_true rfl) dX6_rewind_20 rfl (by omega) (by omega) (fun rv17 V18 hp19 => ?_)
  obtain ⟨hp19e, hS20, fx21⟩ := hp19
  rw [hp19e]
  obtain ⟨σ22, σ22e⟩ : ∃ zz9 : Nat → Int, zz9 = zdn σ12 := ⟨_, rfl⟩
  rw [← σ22e] at hS20
  have fx23 := zag.tr fx10 fx21
  have hx24 : V18 (ad 1) = some (1, .inr (7, [.ref (ad 2), .ref (ad 20), .ref (ad 22), .ref (ad 24), .ref (ad 16), .ref (ad 31), .ref (ad 33), .ref (ad 35), .ref (ad 40), .ref (ad 45), .int (zI (σ22 30)), .int (zI (σ22 31)), .int (zI (σ22 32)), .int (zI (σ22 33))])) := hS20.1
  show zG C V18 (1 - 1) (6 - 6) 23 [(2, .ref (ad (10 + q.toNat))), (0, .ref (ad 1)), (1, .int (zI (q)))] [.int (zI ((σ (4 * q.toNat + 1)) - 0))]
  exact zr_iret X rfl ⟨(σ (4 * q.toNat + 1)) - 0, σ22, rfl, hS20, fx23, ⟨by omega, rfl, by rw [σ22e, σ12e]⟩⟩ dX6_rewind_23
set_option maxRecDepth 100000 in
set_option maxHeartbeats 4000000 in
theorem m_X6_flip (l : Launch) (hlt : l.stackTraces = false) (Γ : zGam) {V : zV} {ad : Nat → Nat} {σ : Nat → Int} {q : Int} (hS : zS Γ V ad σ) (hq : -2147483648 ≤ q ∧ q ≤ 2147483647) : zN l Γ 8 yX6_flip wsX6_flip 1 6 V [.ref (ad 1), .int (zI (q))] (fun rv V' => ∃ (y : Int) (σ' : Nat → Int), rv = some (.int (zI y)) ∧ zS Γ V' ad σ' ∧ zfx V V' ∧ ((0 ≤ q ∧ q < 6) ∧ y = σ (4 * q.toNat + 2) - 0 ∧ σ' = zdn (zw4 σ q.toNat (σ (4 * q.toNat)) (σ (4 * q.toNat + 2)) 0 (-9)))) (fun E V' => V' = V ∧ ((E = zIO ∧ ¬ (0 ≤ q ∧ q < 6)) ∨ (E = zIA ∧ False))) := by
  have iX5 : ∀ w ∈ u_ws RX5 TX5 6, w ∈ wsX6_flip := by decide +kernel
  refine zN_of (cc := cX6_flip) (nL := 3) (ret := (some .int)) (own := RX6) hlt (by decide +kernel) rfl rfl (Nat.le_of_ble_eq_true rfl) (fun C X Y => ?_)
  have hx1 : V (ad 1) = some (1, .inr (7, [.ref (ad 2), .ref (ad 20), .ref (ad 22), .ref (ad 24), .ref (ad 16), .ref (ad 31), .ref (ad 33), .ref (ad 35), .ref (ad 40), .ref (ad 45), .int (zI (σ 30)), .int (zI (σ 31)), .int (zI (σ 32)), .int (zI (σ 33))])) := hS.1
  show zG C V 1 6 0 [(0, .ref (ad 1)), (1, .int (zI (q)))] []
  refine zr_aload_n X 1 0 dX6_flip_0 rfl rfl ?_
  refine zr_iload_n X 2 1 dX6_flip_1 rfl rfl ?_
  refine zr_callVN (kc' := 1 - 1) (ks' := 6 - 6) X Y 5 1 (m_X6_windowOf l hlt Γ hS (q := q) (by omega)) gX6_flip_X6_windowOf rfl (by decide +kernel) rfl (by decide) hx1 rfl rfl (Nat.le_of_ble_eq_true rfl) dX6_flip_2 rfl (by omega) (by omega) (fun E W hX => ⟨hX.2.2, Or.inl ⟨hX.1, by have := hX.2.1; omega⟩⟩) (fun rv2 V3 hp4 => ?_)
  obtain ⟨hp4a, hp4b, hp4c⟩ := hp4
  rw [hp4b, hp4c]
  have hw5 := hS.w (i := q.toNat) (by omega)
  have hw5r := hw5.rg
  show zG C V (1 - 1) (6 - 6) 5 [(0, .ref (ad 1)), (1, .int (zI (q)))] [.ref (ad (10 + q.toNat))]
  refine zr_astore_n X 6 [(2, .ref (ad (10 + q.toNat))), (0, .ref (ad 1)), (1, .int (zI (q)))] dX6_flip_5 rfl (by decide) rfl ?_
  refine zr_aload_n X 7 0 dX6_flip_6 rfl rfl ?_
  refine zr_iconst X 8 dX6_flip_7 rfl ?_
  refine zr_aload_n X 9 0 dX6_flip_8 rfl rfl ?_
  refine zr_getNw X 12 4 5 hw5 (σ (4 * q.toNat + 2)) (by simp) iX5 rfl dX6_flip_9 rfl ?_
  refine zr_callVe (kc' := (1 - 1)) (ks' := (6 - 6)) X 15 2 (k_goTo l Γ hS (i := q.toNat) (by omega) (a := 0) (b := σ (4 * q.toNat + 2)) (by omega)) gX6_flip_X5_goTo rfl (by decide +kernel) rfl (by decide) hw5.cl rfl rfl (Nat.le_of_ble_eq_true rfl) dX6_flip_12 rfl (by omega) (by omega) (fun rv6 V7 hp8 => ?_)
  obtain ⟨hp8e, hS9, fx10, hp8z⟩ := hp8
  rw [hp8e]
  have hw11 := hp8z.1
  obtain ⟨σ12, σ12e⟩ : ∃ zz9 : Nat → Int, zz9 = zw4 σ q.toNat (σ (4 * q.toNat)) (σ (4 * q.toNat + 2)) (0) (-9) := ⟨_, rfl⟩
  rw [← σ12e] at hS9
  have hx13 : V7 (ad 1) = some (1, .inr (7, [.ref (ad 2), .ref (ad 20), .ref (ad 22), .ref (ad 24), .ref (ad 16), .ref (ad 31), .ref (ad 33), .ref (ad 35), .ref (ad 40), .ref (ad 45), .int (zI (σ12 30)), .int (zI (σ12 31)), .int (zI (σ12 32)), .int (zI (σ12 33))])) := hS9.1
  show zG C V7 (1 - 1) (6 - 6) 15 [(2, .ref (ad (10 + q.toNat))), (0, .ref (ad 1)), (1, .int (zI (q)))] []
  refine zr_aload_n X 16 1 dX6_flip_15 rfl rfl ?_
  refine zr_aload_n X 17 0 dX6_flip_16 rfl rfl ?_
  refine zr_callVe (kc' := (1 - 1)) (ks' := (6 - 6)) X 20 0 (e_size l Γ hw11) gX6_flip_X5_size rfl (by decide +kernel) rfl (by decide) hw11.cl rfl rfl (Nat.le_of_ble_eq_true rfl) dX6_flip_17 rfl (by omega) (by omega) (fun rv14 V15 hp16 => ?_)
  rw [hp16.1, hp16.2]
  show zG C V7 (1 - 1) (6 - 6) 20 [(2, .ref (ad (10 + q.toNat))), (0, .ref (ad 1)), (1, .int (zI (q)))] [.int (zI ((σ (4 * q.toNat + 2)) - 0)), .ref (ad 1)]
  refine zr_callVe (kc' := (1 - 1)) (ks' := (6 - 6)) X 23 1 (m_X6_done l Γ hS9) gX6_flip_X6_done rfl (by decide +kernel) rfl (by decide) hS9.x rfl rfl (Nat.le_of_ble_eq_true rfl) dX6_flip_20 rfl (by omega) (by omega) (fun rv17 V18 hp19 => ?_)
  obtain ⟨hp19e, hS20, fx21⟩ := hp19
  rw [hp19e]
  obtain ⟨σ22, σ22e⟩ : ∃ zz9 : Nat → Int, zz9 = zdn σ12 := ⟨_, rfl⟩
  rw [← σ22e] at hS20
  have fx23 := zag.tr fx10 fx21
  have hx24 : V18 (ad 1) = some (1, .inr (7, [.ref (ad 2), .ref (ad 20), .ref (ad 22), .ref (ad 24), .ref (ad 16), .ref (ad 31), .ref (ad 33), .ref (ad 35), .ref (ad 40), .ref (ad 45), .int (zI (σ22 30)), .int (zI (σ22 31)), .int (zI (σ22 32)), .int (zI (σ22 33))])) := hS20.1
  show zG C V18 (1 - 1) (6 - 6) 23 [(2, .ref (ad (10 + q.toNat))), (0, .ref (ad 1)), (1, .int (zI (q)))] [.int (zI ((σ (4 * q.toNat + 2)) - 0))]
  exact zr_iret X rfl ⟨(σ (4 * q.toNat + 2)) - 0, σ22, rfl, hS20, fx23, ⟨by omega, rfl, by rw [σ22e, σ12e]⟩⟩ dX6_flip_23
set_option maxRecDepth 100000 in
set_option maxHeartbeats 4000000 in
theorem m_X6_open (l : Launch) (hlt : l.stackTraces = false) (Γ : zGam) {V : zV} {ad : Nat → Nat} {σ : Nat → Int} {q : Int} (hS : zS Γ V ad σ) (hq : -2147483648 ≤ q ∧ q ≤ 2147483647) : zN l Γ 8 yX6_open wsX6_open 1 6 V [.ref (ad 1), .int (zI (q))] (fun rv V' => ∃ (y : Int) (σ' : Nat → Int), rv = some (.int (zI y)) ∧ zS Γ V' ad σ' ∧ zfx V V' ∧ ((0 ≤ q ∧ q < 6) ∧ y = σ (4 * q.toNat) - 0 ∧ σ' = zdn (zw4 σ q.toNat (σ (4 * q.toNat)) (σ (4 * q.toNat)) 0 (-9)))) (fun E V' => V' = V ∧ ((E = zIO ∧ ¬ (0 ≤ q ∧ q < 6)) ∨ (E = zIA ∧ False))) := by
  have iX5 : ∀ w ∈ u_ws RX5 TX5 6, w ∈ wsX6_open := by decide +kernel
  refine zN_of (cc := cX6_open) (nL := 3) (ret := (some .int)) (own := RX6) hlt (by decide +kernel) rfl rfl (Nat.le_of_ble_eq_true rfl) (fun C X Y => ?_)
  have hx1 : V (ad 1) = some (1, .inr (7, [.ref (ad 2), .ref (ad 20), .ref (ad 22), .ref (ad 24), .ref (ad 16), .ref (ad 31), .ref (ad 33), .ref (ad 35), .ref (ad 40), .ref (ad 45), .int (zI (σ 30)), .int (zI (σ 31)), .int (zI (σ 32)), .int (zI (σ 33))])) := hS.1
  show zG C V 1 6 0 [(0, .ref (ad 1)), (1, .int (zI (q)))] []
  refine zr_aload_n X 1 0 dX6_open_0 rfl rfl ?_
  refine zr_iload_n X 2 1 dX6_open_1 rfl rfl ?_
  refine zr_callVN (kc' := 1 - 1) (ks' := 6 - 6) X Y 5 1 (m_X6_windowOf l hlt Γ hS (q := q) (by omega)) gX6_open_X6_windowOf rfl (by decide +kernel) rfl (by decide) hx1 rfl rfl (Nat.le_of_ble_eq_true rfl) dX6_open_2 rfl (by omega) (by omega) (fun E W hX => ⟨hX.2.2, Or.inl ⟨hX.1, by have := hX.2.1; omega⟩⟩) (fun rv2 V3 hp4 => ?_)
  obtain ⟨hp4a, hp4b, hp4c⟩ := hp4
  rw [hp4b, hp4c]
  have hw5 := hS.w (i := q.toNat) (by omega)
  have hw5r := hw5.rg
  show zG C V (1 - 1) (6 - 6) 5 [(0, .ref (ad 1)), (1, .int (zI (q)))] [.ref (ad (10 + q.toNat))]
  refine zr_astore_n X 6 [(2, .ref (ad (10 + q.toNat))), (0, .ref (ad 1)), (1, .int (zI (q)))] dX6_open_5 rfl (by decide) rfl ?_
  refine zr_aload_n X 7 0 dX6_open_6 rfl rfl ?_
  refine zr_iconst X 8 dX6_open_7 rfl ?_
  refine zr_aload_n X 9 0 dX6_open_8 rfl rfl ?_
  refine zr_getNw X 12 2 3 hw5 (σ (4 * q.toNat)) (by simp) iX5 rfl dX6_open_9 rfl ?_
  refine zr_callVe (kc' := (1 - 1)) (ks' := (6 - 6)) X 15 2 (k_goTo l Γ hS (i := q.toNat) (by omega) (a := 0) (b := σ (4 * q.toNat)) (by omega)) gX6_open_X5_goTo rfl (by decide +kernel) rfl (by decide) hw5.cl rfl rfl (Nat.le_of_ble_eq_true rfl) dX6_open_12 rfl (by omega) (by omega) (fun rv6 V7 hp8 => ?_)
  obtain ⟨hp8e, hS9, fx10, hp8z⟩ := hp8
  rw [hp8e]
  have hw11 := hp8z.1
  obtain ⟨σ12, σ12e⟩ : ∃ zz9 : Nat → Int, zz9 = zw4 σ q.toNat (σ (4 * q.toNat)) (σ (4 * q.toNat)) (0) (-9) := ⟨_, rfl⟩
  rw [← σ12e] at hS9
  have hx13 : V7 (ad 1) = some (1, .inr (7, [.ref (ad 2), .ref (ad 20), .ref (ad 22), .ref (ad 24), .ref (ad 16), .ref (ad 31), .ref (ad 33), .ref (ad 35), .ref (ad 40), .ref (ad 45), .int (zI (σ12 30)), .int (zI (σ12 31)), .int (zI (σ12 32)), .int (zI (σ12 33))])) := hS9.1
  show zG C V7 (1 - 1) (6 - 6) 15 [(2, .ref (ad (10 + q.toNat))), (0, .ref (ad 1)), (1, .int (zI (q)))] []
  refine zr_aload_n X 16 1 dX6_open_15 rfl rfl ?_
  refine zr_aload_n X 17 0 dX6_open_16 rfl rfl ?_
  refine zr_callVe (kc' := (1 - 1)) (ks' := (6 - 6)) X 20 0 (e_size l Γ hw11) gX6_open_X5_size rfl (by decide +kernel) rfl (by decide) hw11.cl rfl rfl (Nat.le_of_ble_eq_true rfl) dX6_open_17 rfl (by omega) (by omega) (fun rv14 V15 hp16 => ?_)
  rw [hp16.1, hp16.2]
  show zG C V7 (1 - 1) (6 - 6) 20 [(2, .ref (ad (10 + q.toNat))), (0, .ref (ad 1)), (1, .int (zI (q)))] [.int (zI ((σ (4 * q.toNat)) - 0)), .ref (ad 1)]
  refine zr_callVe (kc' := (1 - 1)) (ks' := (6 - 6)) X 23 1 (m_X6_done l Γ hS9) gX6_open_X6_done rfl (by decide +kernel) rfl (by decide) hS9.x rfl rfl (Nat.le_of_ble_eq_true rfl) dX6_open_20 rfl (by omega) (by omega) (fun rv17 V18 hp19 => ?_)
  obtain ⟨hp19e, hS20, fx21⟩ := hp19
  rw [hp19e]
  obtain ⟨σ22, σ22e⟩ : ∃ zz9 : Nat → Int, zz9 = zdn σ12 := ⟨_, rfl⟩
  rw [← σ22e] at hS20
  have fx23 := zag.tr fx10 fx21
  have hx24 : V18 (ad 1) = some (1, .inr (7, [.ref (ad 2), .ref (ad 20), .ref (ad 22), .ref (ad 24), .ref (ad 16), .ref (ad 31), .ref (ad 33), .ref (ad 35), .ref (ad 40), .ref (ad 45), .int (zI (σ22 30)), .int (zI (σ22 31)), .int (zI (σ22 32)), .int (zI (σ22 33))])) := hS20.1
  show zG C V18 (1 - 1) (6 - 6) 23 [(2, .ref (ad (10 + q.toNat))), (0, .ref (ad 1)), (1, .int (zI (q)))] [.int (zI ((σ (4 * q.toNat)) - 0))]
  exact zr_iret X rfl ⟨(σ (4 * q.toNat)) - 0, σ22, rfl, hS20, fx23, ⟨by omega, rfl, by rw [σ22e, σ12e]⟩⟩ dX6_open_23
set_option maxRecDepth 100000 in
set_option maxHeartbeats 4000000 in
theorem m_X6_mark (l : Launch) (hlt : l.stackTraces = false) (Γ : zGam) {V : zV} {ad : Nat → Nat} {σ : Nat → Int} {q : Int} (hS : zS Γ V ad σ) (hq : -2147483648 ≤ q ∧ q ≤ 2147483647) : zN l Γ 8 yX6_mark wsX6_mark 1 6 V [.ref (ad 1), .int (zI (q))] (fun rv V' => ∃ (y : Int) (σ' : Nat → Int), rv = some (.int (zI y)) ∧ zS Γ V' ad σ' ∧ zfx V V' ∧ ((0 ≤ q ∧ q < 6) ∧ y = σ (4 * q.toNat + 2) ∧ σ' = zdn (zw4 σ q.toNat (σ (4 * q.toNat)) (σ (4 * q.toNat + 1)) (σ (4 * q.toNat + 2)) (σ (4 * q.toNat + 2))))) (fun E V' => V' = V ∧ ((E = zIO ∧ ¬ (0 ≤ q ∧ q < 6)) ∨ (E = zIA ∧ False))) := by
  have iX5 : ∀ w ∈ u_ws RX5 TX5 6, w ∈ wsX6_mark := by decide +kernel
  refine zN_of (cc := cX6_mark) (nL := 3) (ret := (some .int)) (own := RX6) hlt (by decide +kernel) rfl rfl (Nat.le_of_ble_eq_true rfl) (fun C X Y => ?_)
  have hx1 : V (ad 1) = some (1, .inr (7, [.ref (ad 2), .ref (ad 20), .ref (ad 22), .ref (ad 24), .ref (ad 16), .ref (ad 31), .ref (ad 33), .ref (ad 35), .ref (ad 40), .ref (ad 45), .int (zI (σ 30)), .int (zI (σ 31)), .int (zI (σ 32)), .int (zI (σ 33))])) := hS.1
  show zG C V 1 6 0 [(0, .ref (ad 1)), (1, .int (zI (q)))] []
  refine zr_aload_n X 1 0 dX6_mark_0 rfl rfl ?_
  refine zr_iload_n X 2 1 dX6_mark_1 rfl rfl ?_
  refine zr_callVN (kc' := 1 - 1) (ks' := 6 - 6) X Y 5 1 (m_X6_windowOf l hlt Γ hS (q := q) (by omega)) gX6_mark_X6_windowOf rfl (by decide +kernel) rfl (by decide) hx1 rfl rfl (Nat.le_of_ble_eq_true rfl) dX6_mark_2 rfl (by omega) (by omega) (fun E W hX => ⟨hX.2.2, Or.inl ⟨hX.1, by have := hX.2.1; omega⟩⟩) (fun rv2 V3 hp4 => ?_)
  obtain ⟨hp4a, hp4b, hp4c⟩ := hp4
  rw [hp4b, hp4c]
  have hw5 := hS.w (i := q.toNat) (by omega)
  have hw5r := hw5.rg
  show zG C V (1 - 1) (6 - 6) 5 [(0, .ref (ad 1)), (1, .int (zI (q)))] [.ref (ad (10 + q.toNat))]
  refine zr_astore_n X 6 [(2, .ref (ad (10 + q.toNat))), (0, .ref (ad 1)), (1, .int (zI (q)))] dX6_mark_5 rfl (by decide) rfl ?_
  refine zr_aload_n X 7 0 dX6_mark_6 rfl rfl ?_
  refine zr_callVe (kc' := (1 - 1)) (ks' := (6 - 6)) X 10 0 (k_setMark l Γ hS (i := q.toNat) (by omega)) gX6_mark_X5_setMark rfl (by decide +kernel) rfl (by decide) hw5.cl rfl rfl (Nat.le_of_ble_eq_true rfl) dX6_mark_7 rfl (by omega) (by omega) (fun rv6 V7 hp8 => ?_)
  obtain ⟨hp8e, hS9, fx10, hp8z⟩ := hp8
  rw [hp8e]
  have hw11 := hp8z.1
  obtain ⟨σ12, σ12e⟩ : ∃ zz9 : Nat → Int, zz9 = zw4 σ q.toNat (σ (4 * q.toNat)) (σ (4 * q.toNat + 1)) (σ (4 * q.toNat + 2)) (σ (4 * q.toNat + 2)) := ⟨_, rfl⟩
  rw [← σ12e] at hS9
  have hx13 : V7 (ad 1) = some (1, .inr (7, [.ref (ad 2), .ref (ad 20), .ref (ad 22), .ref (ad 24), .ref (ad 16), .ref (ad 31), .ref (ad 33), .ref (ad 35), .ref (ad 40), .ref (ad 45), .int (zI (σ12 30)), .int (zI (σ12 31)), .int (zI (σ12 32)), .int (zI (σ12 33))])) := hS9.1
  show zG C V7 (1 - 1) (6 - 6) 10 [(2, .ref (ad (10 + q.toNat))), (0, .ref (ad 1)), (1, .int (zI (q)))] []
  refine zr_aload_n X 11 1 dX6_mark_10 rfl rfl ?_
  refine zr_aload_n X 12 0 dX6_mark_11 rfl rfl ?_
  refine zr_getNw X 15 4 5 hw11 (σ (4 * q.toNat + 2)) (by simp) iX5 rfl dX6_mark_12 rfl ?_
  refine zr_callVe (kc' := (1 - 1)) (ks' := (6 - 6)) X 18 1 (m_X6_done l Γ hS9) gX6_mark_X6_done rfl (by decide +kernel) rfl (by decide) hS9.x rfl rfl (Nat.le_of_ble_eq_true rfl) dX6_mark_15 rfl (by omega) (by omega) (fun rv14 V15 hp16 => ?_)
  obtain ⟨hp16e, hS17, fx18⟩ := hp16
  rw [hp16e]
  obtain ⟨σ19, σ19e⟩ : ∃ zz9 : Nat → Int, zz9 = zdn σ12 := ⟨_, rfl⟩
  rw [← σ19e] at hS17
  have fx20 := zag.tr fx10 fx18
  have hx21 : V15 (ad 1) = some (1, .inr (7, [.ref (ad 2), .ref (ad 20), .ref (ad 22), .ref (ad 24), .ref (ad 16), .ref (ad 31), .ref (ad 33), .ref (ad 35), .ref (ad 40), .ref (ad 45), .int (zI (σ19 30)), .int (zI (σ19 31)), .int (zI (σ19 32)), .int (zI (σ19 33))])) := hS17.1
  show zG C V15 (1 - 1) (6 - 6) 18 [(2, .ref (ad (10 + q.toNat))), (0, .ref (ad 1)), (1, .int (zI (q)))] [.int (zI (σ (4 * q.toNat + 2)))]
  exact zr_iret X rfl ⟨σ (4 * q.toNat + 2), σ19, rfl, hS17, fx20, ⟨by omega, rfl, by rw [σ19e, σ12e]⟩⟩ dX6_mark_18
set_option maxRecDepth 100000 in
set_option maxHeartbeats 4000000 in
theorem m_X6_compact (l : Launch) (hlt : l.stackTraces = false) (Γ : zGam) {V : zV} {ad : Nat → Nat} {σ : Nat → Int} {q : Int} (hS : zS Γ V ad σ) (hq : -2147483648 ≤ q ∧ q ≤ 2147483647) : zN l Γ 8 yX6_compact wsX6_compact 1 6 V [.ref (ad 1), .int (zI (q))] (fun rv V' => ∃ (y : Int) (σ' : Nat → Int), rv = some (.int (zI y)) ∧ zS Γ V' ad σ' ∧ zfx V V' ∧ ((0 ≤ q ∧ q < 6) ∧ y = σ (4 * q.toNat + 1) - σ (4 * q.toNat + 2) ∧ σ' = zdn (zmt (zw4 σ q.toNat (σ (4 * q.toNat)) (σ (4 * q.toNat)) (σ (4 * q.toNat + 1) - σ (4 * q.toNat + 2)) (-9)) (σ (40 + q.toNat)).toNat (σ (4 * q.toNat + 1) - σ (4 * q.toNat + 2)).toNat (σ (4 * q.toNat + 2)).toNat))) (fun E V' => V' = V ∧ ((E = zIO ∧ ¬ (0 ≤ q ∧ q < 6)) ∨ (E = zIA ∧ False))) := by
  have iX5 : ∀ w ∈ u_ws RX5 TX5 6, w ∈ wsX6_compact := by decide +kernel
  refine zN_of (cc := cX6_compact) (nL := 3) (ret := (some .int)) (own := RX6) hlt (by decide +kernel) rfl rfl (Nat.le_of_ble_eq_true rfl) (fun C X Y => ?_)
  have hx1 : V (ad 1) = some (1, .inr (7, [.ref (ad 2), .ref (ad 20), .ref (ad 22), .ref (ad 24), .ref (ad 16), .ref (ad 31), .ref (ad 33), .ref (ad 35), .ref (ad 40), .ref (ad 45), .int (zI (σ 30)), .int (zI (σ 31)), .int (zI (σ 32)), .int (zI (σ 33))])) := hS.1
  show zG C V 1 6 0 [(0, .ref (ad 1)), (1, .int (zI (q)))] []
  refine zr_aload_n X 1 0 dX6_compact_0 rfl rfl ?_
  refine zr_iload_n X 2 1 dX6_compact_1 rfl rfl ?_
  refine zr_callVN (kc' := 1 - 1) (ks' := 6 - 6) X Y 5 1 (m_X6_windowOf l hlt Γ hS (q := q) (by omega)) gX6_compact_X6_windowOf rfl (by decide +kernel) rfl (by decide) hx1 rfl rfl (Nat.le_of_ble_eq_true rfl) dX6_compact_2 rfl (by omega) (by omega) (fun E W hX => ⟨hX.2.2, Or.inl ⟨hX.1, by have := hX.2.1; omega⟩⟩) (fun rv2 V3 hp4 => ?_)
  obtain ⟨hp4a, hp4b, hp4c⟩ := hp4
  rw [hp4b, hp4c]
  have hw5 := hS.w (i := q.toNat) (by omega)
  have hw5r := hw5.rg
  show zG C V (1 - 1) (6 - 6) 5 [(0, .ref (ad 1)), (1, .int (zI (q)))] [.ref (ad (10 + q.toNat))]
  refine zr_astore_n X 6 [(2, .ref (ad (10 + q.toNat))), (0, .ref (ad 1)), (1, .int (zI (q)))] dX6_compact_5 rfl (by decide) rfl ?_
  refine zr_aload_n X 7 0 dX6_compact_6 rfl rfl ?_
  refine zr_callVe (kc' := (1 - 1)) (ks' := (6 - 6)) X 10 0 (k_move l Γ hS (i := q.toNat) (by omega)) gX6_compact_X5_moveTextToFront rfl (by decide +kernel) rfl (by decide) hw5.cl rfl rfl (Nat.le_of_ble_eq_true rfl) dX6_compact_7 rfl (by omega) (by omega) (fun rv6 V7 hp8 => ?_)
  obtain ⟨hp8e, hS9, fx10, hp8z⟩ := hp8
  rw [hp8e]
  have hw11 := hp8z.1
  obtain ⟨σ12, σ12e⟩ : ∃ zz9 : Nat → Int, zz9 = zmt (zw4 σ q.toNat (σ (4 * q.toNat)) (σ (4 * q.toNat)) (σ (4 * q.toNat + 1) - σ (4 * q.toNat + 2)) (-9)) (σ (40 + q.toNat)).toNat (σ (4 * q.toNat + 1) - σ (4 * q.toNat + 2)).toNat (σ (4 * q.toNat + 2)).toNat := ⟨_, rfl⟩
  rw [← σ12e] at hS9
  have hx13 : V7 (ad 1) = some (1, .inr (7, [.ref (ad 2), .ref (ad 20), .ref (ad 22), .ref (ad 24), .ref (ad 16), .ref (ad 31), .ref (ad 33), .ref (ad 35), .ref (ad 40), .ref (ad 45), .int (zI (σ12 30)), .int (zI (σ12 31)), .int (zI (σ12 32)), .int (zI (σ12 33))])) := hS9.1
  show zG C V7 (1 - 1) (6 - 6) 10 [(2, .ref (ad (10 + q.toNat))), (0, .ref (ad 1)), (1, .int (zI (q)))] []
  refine zr_aload_n X 11 1 dX6_compact_10 rfl rfl ?_
  refine zr_aload_n X 12 0 dX6_compact_11 rfl rfl ?_
  refine zr_getNw X 15 4 5 hw11 (σ (4 * q.toNat + 1) - σ (4 * q.toNat + 2)) (by simp) iX5 rfl dX6_compact_12 rfl ?_
  refine zr_callVe (kc' := (1 - 1)) (ks' := (6 - 6)) X 18 1 (m_X6_done l Γ hS9) gX6_compact_X6_done rfl (by decide +kernel) rfl (by decide) hS9.x rfl rfl (Nat.le_of_ble_eq_true rfl) dX6_compact_15 rfl (by omega) (by omega) (fun rv14 V15 hp16 => ?_)
  obtain ⟨hp16e, hS17, fx18⟩ := hp16
  rw [hp16e]
  obtain ⟨σ19, σ19e⟩ : ∃ zz9 : Nat → Int, zz9 = zdn σ12 := ⟨_, rfl⟩
  rw [← σ19e] at hS17
  have fx20 := zag.tr fx10 fx18
  have hx21 : V15 (ad 1) = some (1, .inr (7, [.ref (ad 2), .ref (ad 20), .ref (ad 22), .ref (ad 24), .ref (ad 16), .ref (ad 31), .ref (ad 33), .ref (ad 35), .ref (ad 40), .ref (ad 45), .int (zI (σ19 30)), .int (zI (σ19 31)), .int (zI (σ19 32)), .int (zI (σ19 33))])) := hS17.1
  show zG C V15 (1 - 1) (6 - 6) 18 [(2, .ref (ad (10 + q.toNat))), (0, .ref (ad 1)), (1, .int (zI (q)))] [.int (zI (σ (4 * q.toNat + 1) - σ (4 * q.toNat + 2)))]
  exact zr_iret X rfl ⟨σ (4 * q.toNat + 1) - σ (4 * q.toNat + 2), σ19, rfl, hS17, fx20, ⟨by omega, rfl, by rw [σ19e, σ12e]⟩⟩ dX6_compact_18
set_option maxRecDepth 100000 in
set_option maxHeartbeats 4000000 in
theorem m_X6_reset (l : Launch) (hlt : l.stackTraces = false) (Γ : zGam) {V : zV} {ad : Nat → Nat} {σ : Nat → Int} {q : Int} (hS : zS Γ V ad σ) (hq : -2147483648 ≤ q ∧ q ≤ 2147483647) : zN l Γ 8 yX6_reset wsX6_reset 1 6 V [.ref (ad 1), .int (zI (q))] (fun rv V' => ∃ (y : Int) (σ' : Nat → Int), rv = some (.int (zI y)) ∧ zS Γ V' ad σ' ∧ zfx V V' ∧ ((0 ≤ q ∧ q < 6) ∧ ((σ (4 * q.toNat + 3) = -9 ∧ y = -9 ∧ σ' = zrf σ) ∨ (σ (4 * q.toNat + 3) ≠ -9 ∧ y = σ (4 * q.toNat + 3) ∧ σ' = zdn (zw4 σ q.toNat (σ (4 * q.toNat)) (σ (4 * q.toNat + 1)) (σ (4 * q.toNat + 3)) (σ (4 * q.toNat + 3))))))) (fun E V' => V' = V ∧ ((E = zIO ∧ ¬ (0 ≤ q ∧ q < 6)) ∨ (E = zIA ∧ False))) := by
  have iX5 : ∀ w ∈ u_ws RX5 TX5 6, w ∈ wsX6_reset := by decide +kernel
  refine zN_of (cc := cX6_reset) (nL := 3) (ret := (some .int)) (own := RX6) hlt (by decide +kernel) rfl rfl (Nat.le_of_ble_eq_true rfl) (fun C X Y => ?_)
  have hx1 : V (ad 1) = some (1, .inr (7, [.ref (ad 2), .ref (ad 20), .ref (ad 22), .ref (ad 24), .ref (ad 16), .ref (ad 31), .ref (ad 33), .ref (ad 35), .ref (ad 40), .ref (ad 45), .int (zI (σ 30)), .int (zI (σ 31)), .int (zI (σ 32)), .int (zI (σ 33))])) := hS.1
  show zG C V 1 6 0 [(0, .ref (ad 1)), (1, .int (zI (q)))] []
  refine zr_aload_n X 1 0 dX6_reset_0 rfl rfl ?_
  refine zr_iload_n X 2 1 dX6_reset_1 rfl rfl ?_
  refine zr_callVN (kc' := 1 - 1) (ks' := 6 - 6) X Y 5 1 (m_X6_windowOf l hlt Γ hS (q := q) (by omega)) gX6_reset_X6_windowOf rfl (by decide +kernel) rfl (by decide) hx1 rfl rfl (Nat.le_of_ble_eq_true rfl) dX6_reset_2 rfl (by omega) (by omega) (fun E W hX => ⟨hX.2.2, Or.inl ⟨hX.1, by have := hX.2.1; omega⟩⟩) (fun rv2 V3 hp4 => ?_)
  obtain ⟨hp4a, hp4b, hp4c⟩ := hp4
  rw [hp4b, hp4c]
  have hw5 := hS.w (i := q.toNat) (by omega)
  have hw5r := hw5.rg
  show zG C V (1 - 1) (6 - 6) 5 [(0, .ref (ad 1)), (1, .int (zI (q)))] [.ref (ad (10 + q.toNat))]
  refine zr_astore_n X 6 [(2, .ref (ad (10 + q.toNat))), (0, .ref (ad 1)), (1, .int (zI (q)))] dX6_reset_5 rfl (by decide) rfl ?_
  refine zr_aload_n X 7 0 dX6_reset_6 rfl rfl ?_
  refine zr_getNw X 10 5 6 hw5 (σ (4 * q.toNat + 3)) (by simp) iX5 rfl dX6_reset_7 rfl ?_
  refine zr_bipush X 12 (-9) dX6_reset_10 rfl (by decide) ?_
  refine zr_icmp_ne X 20 15 dX6_reset_12 rfl rfl (by omega) (by omega) (fun bq6 => ?_) (fun bq6 => ?_)
  · refine zr_aload_n X 21 0 dX6_reset_20 rfl rfl ?_
    refine zr_callVe (kc' := (1 - 1)) (ks' := (6 - 6)) X 24 0 (k_goToMark l Γ hS (i := q.toNat) (by omega) (by omega)) gX6_reset_X5_goToMark rfl (by decide +kernel) rfl (by decide) hw5.cl rfl rfl (Nat.le_of_ble_eq_true rfl) dX6_reset_21 rfl (by omega) (by omega) (fun rv7 V8 hp9 => ?_)
    obtain ⟨hp9e, hS10, fx11, hp9z⟩ := hp9
    rw [hp9e]
    have hw12 := hp9z.1
    obtain ⟨σ13, σ13e⟩ : ∃ zz9 : Nat → Int, zz9 = zw4 σ q.toNat (σ (4 * q.toNat)) (σ (4 * q.toNat + 1)) (σ (4 * q.toNat + 3)) (σ (4 * q.toNat + 3)) := ⟨_, rfl⟩
    rw [← σ13e] at hS10
    have hx14 : V8 (ad 1) = some (1, .inr (7, [.ref (ad 2), .ref (ad 20), .ref (ad 22), .ref (ad 24), .ref (ad 16), .ref (ad 31), .ref (ad 33), .ref (ad 35), .ref (ad 40), .ref (ad 45), .int (zI (σ13 30)), .int (zI (σ13 31)), .int (zI (σ13 32)), .int (zI (σ13 33))])) := hS10.1
    show zG C V8 (1 - 1) (6 - 6) 24 [(2, .ref (ad (10 + q.toNat))), (0, .ref (ad 1)), (1, .int (zI (q)))] []
    refine zr_aload_n X 25 1 dX6_reset_24 rfl rfl ?_
    refine zr_aload_n X 26 0 dX6_reset_25 rfl rfl ?_
    refine zr_getNw X 29 4 5 hw12 (σ (4 * q.toNat + 3)) (by simp) iX5 rfl dX6_reset_26 rfl ?_
    refine zr_callVe (kc' := (1 - 1)) (ks' := (6 - 6)) X 32 1 (m_X6_done l Γ hS10) gX6_reset_X6_done rfl (by decide +kernel) rfl (by decide) hS10.x rfl rfl (Nat.le_of_ble_eq_true rfl) dX6_reset_29 rfl (by omega) (by omega) (fun rv15 V16 hp17 => ?_)
    obtain ⟨hp17e, hS18, fx19⟩ := hp17
    rw [hp17e]
    obtain ⟨σ20, σ20e⟩ : ∃ zz9 : Nat → Int, zz9 = zdn σ13 := ⟨_, rfl⟩
    rw [← σ20e] at hS18
    have fx21 := zag.tr fx11 fx19
    have hx22 : V16 (ad 1) = some (1, .inr (7, [.ref (ad 2), .ref (ad 20), .ref (ad 22), .ref (ad 24), .ref (ad 16), .ref (ad 31), .ref (ad 33), .ref (ad 35), .ref (ad 40), .ref (ad 45), .int (zI (σ20 30)), .int (zI (σ20 31)), .int (zI (σ20 32)), .int (zI (σ20 33))])) := hS18.1
    show zG C V16 (1 - 1) (6 - 6) 32 [(2, .ref (ad (10 + q.toNat))), (0, .ref (ad 1)), (1, .int (zI (q)))] [.int (zI (σ (4 * q.toNat + 3)))]
    exact zr_iret X rfl ⟨σ (4 * q.toNat + 3), σ20, rfl, hS18, fx21, ⟨by omega, Or.inr ⟨by omega, rfl, by rw [σ20e, σ13e]⟩⟩⟩ dX6_reset_32
  · refine zr_aload_n X 16 1 dX6_reset_15 rfl rfl ?_
    refine zr_callVe (kc' := (1 - 1)) (ks' := (6 - 6)) X 19 0 (m_X6_refused l Γ hS) gX6_reset_X6_refused rfl (by decide +kernel) rfl (by decide) hS.x rfl rfl (Nat.le_of_ble_eq_true rfl) dX6_reset_16 rfl (by omega) (by omega) (fun rv23 V24 hp25 => ?_)
    obtain ⟨hp25e, hS26, fx27⟩ := hp25
    rw [hp25e]
    obtain ⟨σ28, σ28e⟩ : ∃ zz9 : Nat → Int, zz9 = zrf σ := ⟨_, rfl⟩
    rw [← σ28e] at hS26
    have hx29 : V24 (ad 1) = some (1, .inr (7, [.ref (ad 2), .ref (ad 20), .ref (ad 22), .ref (ad 24), .ref (ad 16), .ref (ad 31), .ref (ad 33), .ref (ad 35), .ref (ad 40), .ref (ad 45), .int (zI (σ28 30)), .int (zI (σ28 31)), .int (zI (σ28 32)), .int (zI (σ28 33))])) := hS26.1
    show zG C V24 (1 - 1) (6 - 6) 19 [(2, .ref (ad (10 + q.toNat))), (0, .ref (ad 1)), (1, .int (zI (q)))] [.int (zI (-9))]
    exact zr_iret X rfl ⟨-9, σ28, rfl, hS26, fx27, ⟨by omega, Or.inl ⟨by omega, rfl, by rw [σ28e]⟩⟩⟩ dX6_reset_19
set_option maxRecDepth 100000 in
set_option maxHeartbeats 4000000 in
theorem m_X6_position (l : Launch) (hlt : l.stackTraces = false) (Γ : zGam) {V : zV} {ad : Nat → Nat} {σ : Nat → Int} {q : Int} (hS : zS Γ V ad σ) (hq : -2147483648 ≤ q ∧ q ≤ 2147483647) : zN l Γ 8 yX6_position wsX6_position 1 6 V [.ref (ad 1), .int (zI (q))] (fun rv V' => ∃ (y : Int) (σ' : Nat → Int), rv = some (.int (zI y)) ∧ zS Γ V' ad σ' ∧ zfx V V' ∧ ((0 ≤ q ∧ q < 6) ∧ y = σ (4 * q.toNat + 2) ∧ σ' = σ)) (fun E V' => V' = V ∧ ((E = zIO ∧ ¬ (0 ≤ q ∧ q < 6)) ∨ (E = zIA ∧ False))) := by
  have iX5 : ∀ w ∈ u_ws RX5 TX5 6, w ∈ wsX6_position := by decide +kernel
  refine zN_of (cc := cX6_position) (nL := 2) (ret := (some .int)) (own := RX6) hlt (by decide +kernel) rfl rfl (Nat.le_of_ble_eq_true rfl) (fun C X Y => ?_)
  have hx1 : V (ad 1) = some (1, .inr (7, [.ref (ad 2), .ref (ad 20), .ref (ad 22), .ref (ad 24), .ref (ad 16), .ref (ad 31), .ref (ad 33), .ref (ad 35), .ref (ad 40), .ref (ad 45), .int (zI (σ 30)), .int (zI (σ 31)), .int (zI (σ 32)), .int (zI (σ 33))])) := hS.1
  show zG C V 1 6 0 [(0, .ref (ad 1)), (1, .int (zI (q)))] []
  refine zr_aload_n X 1 0 dX6_position_0 rfl rfl ?_
  refine zr_iload_n X 2 1 dX6_position_1 rfl rfl ?_
  refine zr_callVN (kc' := 1 - 1) (ks' := 6 - 6) X Y 5 1 (m_X6_windowOf l hlt Γ hS (q := q) (by omega)) gX6_position_X6_windowOf rfl (by decide +kernel) rfl (by decide) hx1 rfl rfl (Nat.le_of_ble_eq_true rfl) dX6_position_2 rfl (by omega) (by omega) (fun E W hX => ⟨hX.2.2, Or.inl ⟨hX.1, by have := hX.2.1; omega⟩⟩) (fun rv2 V3 hp4 => ?_)
  obtain ⟨hp4a, hp4b, hp4c⟩ := hp4
  rw [hp4b, hp4c]
  have hw5 := hS.w (i := q.toNat) (by omega)
  have hw5r := hw5.rg
  show zG C V (1 - 1) (6 - 6) 5 [(0, .ref (ad 1)), (1, .int (zI (q)))] [.ref (ad (10 + q.toNat))]
  refine zr_getNw X 8 4 5 hw5 (σ (4 * q.toNat + 2)) (by simp) iX5 rfl dX6_position_5 rfl ?_
  exact zr_iret X rfl ⟨σ (4 * q.toNat + 2), σ, rfl, hS, zag.rf, ⟨by omega, rfl, rfl⟩⟩ dX6_position_8
set_option maxRecDepth 100000 in
set_option maxHeartbeats 4000000 in
theorem m_X6_limit (l : Launch) (hlt : l.stackTraces = false) (Γ : zGam) {V : zV} {ad : Nat → Nat} {σ : Nat → Int} {q : Int} (hS : zS Γ V ad σ) (hq : -2147483648 ≤ q ∧ q ≤ 2147483647) : zN l Γ 8 yX6_limit wsX6_limit 1 6 V [.ref (ad 1), .int (zI (q))] (fun rv V' => ∃ (y : Int) (σ' : Nat → Int), rv = some (.int (zI y)) ∧ zS Γ V' ad σ' ∧ zfx V V' ∧ ((0 ≤ q ∧ q < 6) ∧ y = σ (4 * q.toNat + 1) ∧ σ' = σ)) (fun E V' => V' = V ∧ ((E = zIO ∧ ¬ (0 ≤ q ∧ q < 6)) ∨ (E = zIA ∧ False))) := by
  have iX5 : ∀ w ∈ u_ws RX5 TX5 6, w ∈ wsX6_limit := by decide +kernel
  refine zN_of (cc := cX6_limit) (nL := 2) (ret := (some .int)) (own := RX6) hlt (by decide +kernel) rfl rfl (Nat.le_of_ble_eq_true rfl) (fun C X Y => ?_)
  have hx1 : V (ad 1) = some (1, .inr (7, [.ref (ad 2), .ref (ad 20), .ref (ad 22), .ref (ad 24), .ref (ad 16), .ref (ad 31), .ref (ad 33), .ref (ad 35), .ref (ad 40), .ref (ad 45), .int (zI (σ 30)), .int (zI (σ 31)), .int (zI (σ 32)), .int (zI (σ 33))])) := hS.1
  show zG C V 1 6 0 [(0, .ref (ad 1)), (1, .int (zI (q)))] []
  refine zr_aload_n X 1 0 dX6_limit_0 rfl rfl ?_
  refine zr_iload_n X 2 1 dX6_limit_1 rfl rfl ?_
  refine zr_callVN (kc' := 1 - 1) (ks' := 6 - 6) X Y 5 1 (m_X6_windowOf l hlt Γ hS (q := q) (by omega)) gX6_limit_X6_windowOf rfl (by decide +kernel) rfl (by decide) hx1 rfl rfl (Nat.le_of_ble_eq_true rfl) dX6_limit_2 rfl (by omega) (by omega) (fun E W hX => ⟨hX.2.2, Or.inl ⟨hX.1, by have := hX.2.1; omega⟩⟩) (fun rv2 V3 hp4 => ?_)
  obtain ⟨hp4a, hp4b, hp4c⟩ := hp4
  rw [hp4b, hp4c]
  have hw5 := hS.w (i := q.toNat) (by omega)
  have hw5r := hw5.rg
  show zG C V (1 - 1) (6 - 6) 5 [(0, .ref (ad 1)), (1, .int (zI (q)))] [.ref (ad (10 + q.toNat))]
  refine zr_getNw X 8 3 4 hw5 (σ (4 * q.toNat + 1)) (by simp) iX5 rfl dX6_limit_5 rfl ?_
  exact zr_iret X rfl ⟨σ (4 * q.toNat + 1), σ, rfl, hS, zag.rf, ⟨by omega, rfl, rfl⟩⟩ dX6_limit_8
set_option maxRecDepth 100000 in
set_option maxHeartbeats 4000000 in
theorem m_X6_capacity (l : Launch) (hlt : l.stackTraces = false) (Γ : zGam) {V : zV} {ad : Nat → Nat} {σ : Nat → Int} {q : Int} (hS : zS Γ V ad σ) (hq : -2147483648 ≤ q ∧ q ≤ 2147483647) : zN l Γ 8 yX6_capacity wsX6_capacity 1 6 V [.ref (ad 1), .int (zI (q))] (fun rv V' => ∃ (y : Int) (σ' : Nat → Int), rv = some (.int (zI y)) ∧ zS Γ V' ad σ' ∧ zfx V V' ∧ ((0 ≤ q ∧ q < 6) ∧ y = σ (4 * q.toNat) ∧ σ' = σ)) (fun E V' => V' = V ∧ ((E = zIO ∧ ¬ (0 ≤ q ∧ q < 6)) ∨ (E = zIA ∧ False))) := by
  have iX5 : ∀ w ∈ u_ws RX5 TX5 6, w ∈ wsX6_capacity := by decide +kernel
  refine zN_of (cc := cX6_capacity) (nL := 2) (ret := (some .int)) (own := RX6) hlt (by decide +kernel) rfl rfl (Nat.le_of_ble_eq_true rfl) (fun C X Y => ?_)
  have hx1 : V (ad 1) = some (1, .inr (7, [.ref (ad 2), .ref (ad 20), .ref (ad 22), .ref (ad 24), .ref (ad 16), .ref (ad 31), .ref (ad 33), .ref (ad 35), .ref (ad 40), .ref (ad 45), .int (zI (σ 30)), .int (zI (σ 31)), .int (zI (σ 32)), .int (zI (σ 33))])) := hS.1
  show zG C V 1 6 0 [(0, .ref (ad 1)), (1, .int (zI (q)))] []
  refine zr_aload_n X 1 0 dX6_capacity_0 rfl rfl ?_
  refine zr_iload_n X 2 1 dX6_capacity_1 rfl rfl ?_
  refine zr_callVN (kc' := 1 - 1) (ks' := 6 - 6) X Y 5 1 (m_X6_windowOf l hlt Γ hS (q := q) (by omega)) gX6_capacity_X6_windowOf rfl (by decide +kernel) rfl (by decide) hx1 rfl rfl (Nat.le_of_ble_eq_true rfl) dX6_capacity_2 rfl (by omega) (by omega) (fun E W hX => ⟨hX.2.2, Or.inl ⟨hX.1, by have := hX.2.1; omega⟩⟩) (fun rv2 V3 hp4 => ?_)
  obtain ⟨hp4a, hp4b, hp4c⟩ := hp4
  rw [hp4b, hp4c]
  have hw5 := hS.w (i := q.toNat) (by omega)
  have hw5r := hw5.rg
  show zG C V (1 - 1) (6 - 6) 5 [(0, .ref (ad 1)), (1, .int (zI (q)))] [.ref (ad (10 + q.toNat))]
  refine zr_getNw X 8 2 3 hw5 (σ (4 * q.toNat)) (by simp) iX5 rfl dX6_capacity_5 rfl ?_
  exact zr_iret X rfl ⟨σ (4 * q.toNat), σ, rfl, hS, zag.rf, ⟨by omega, rfl, rfl⟩⟩ dX6_capacity_8
set_option maxRecDepth 100000 in
set_option maxHeartbeats 4000000 in
theorem m_X6_marked (l : Launch) (hlt : l.stackTraces = false) (Γ : zGam) {V : zV} {ad : Nat → Nat} {σ : Nat → Int} {q : Int} (hS : zS Γ V ad σ) (hq : -2147483648 ≤ q ∧ q ≤ 2147483647) : zN l Γ 8 yX6_marked wsX6_marked 1 6 V [.ref (ad 1), .int (zI (q))] (fun rv V' => ∃ (y : Int) (σ' : Nat → Int), rv = some (.int (zI y)) ∧ zS Γ V' ad σ' ∧ zfx V V' ∧ ((0 ≤ q ∧ q < 6) ∧ y = σ (4 * q.toNat + 3) ∧ σ' = σ)) (fun E V' => V' = V ∧ ((E = zIO ∧ ¬ (0 ≤ q ∧ q < 6)) ∨ (E = zIA ∧ False))) := by
  have iX5 : ∀ w ∈ u_ws RX5 TX5 6, w ∈ wsX6_marked := by decide +kernel
  refine zN_of (cc := cX6_marked) (nL := 2) (ret := (some .int)) (own := RX6) hlt (by decide +kernel) rfl rfl (Nat.le_of_ble_eq_true rfl) (fun C X Y => ?_)
  have hx1 : V (ad 1) = some (1, .inr (7, [.ref (ad 2), .ref (ad 20), .ref (ad 22), .ref (ad 24), .ref (ad 16), .ref (ad 31), .ref (ad 33), .ref (ad 35), .ref (ad 40), .ref (ad 45), .int (zI (σ 30)), .int (zI (σ 31)), .int (zI (σ 32)), .int (zI (σ 33))])) := hS.1
  show zG C V 1 6 0 [(0, .ref (ad 1)), (1, .int (zI (q)))] []
  refine zr_aload_n X 1 0 dX6_marked_0 rfl rfl ?_
  refine zr_iload_n X 2 1 dX6_marked_1 rfl rfl ?_
  refine zr_callVN (kc' := 1 - 1) (ks' := 6 - 6) X Y 5 1 (m_X6_windowOf l hlt Γ hS (q := q) (by omega)) gX6_marked_X6_windowOf rfl (by decide +kernel) rfl (by decide) hx1 rfl rfl (Nat.le_of_ble_eq_true rfl) dX6_marked_2 rfl (by omega) (by omega) (fun E W hX => ⟨hX.2.2, Or.inl ⟨hX.1, by have := hX.2.1; omega⟩⟩) (fun rv2 V3 hp4 => ?_)
  obtain ⟨hp4a, hp4b, hp4c⟩ := hp4
  rw [hp4b, hp4c]
  have hw5 := hS.w (i := q.toNat) (by omega)
  have hw5r := hw5.rg
  show zG C V (1 - 1) (6 - 6) 5 [(0, .ref (ad 1)), (1, .int (zI (q)))] [.ref (ad (10 + q.toNat))]
  refine zr_getNw X 8 5 6 hw5 (σ (4 * q.toNat + 3)) (by simp) iX5 rfl dX6_marked_5 rfl ?_
  exact zr_iret X rfl ⟨σ (4 * q.toNat + 3), σ, rfl, hS, zag.rf, ⟨by omega, rfl, rfl⟩⟩ dX6_marked_8
set_option maxRecDepth 100000 in
set_option maxHeartbeats 4000000 in
theorem m_X6_left (l : Launch) (hlt : l.stackTraces = false) (Γ : zGam) {V : zV} {ad : Nat → Nat} {σ : Nat → Int} {q z : Int} (hS : zS Γ V ad σ) (hq : -2147483648 ≤ q ∧ q ≤ 2147483647) (hz : -2147483648 ≤ z ∧ z ≤ 2147483647) : zN l Γ 8 yX6_left wsX6_left 2 12 V [.ref (ad 1), .int (zI (q)), .int (zI (z))] (fun rv V' => ∃ (y : Int) (σ' : Nat → Int), rv = some (.int (zI y)) ∧ zS Γ V' ad σ' ∧ zfx V V' ∧ ((0 ≤ q ∧ q < 6 ∧ 0 ≤ z ∧ z ≤ 1) ∧ y = σ (4 * q.toNat + 1) - σ (4 * q.toNat + 2) ∧ σ' = σ)) (fun E V' => V' = V ∧ ((E = zIO ∧ ¬ (0 ≤ q ∧ q < 6)) ∨ (E = zIA ∧ (0 ≤ q ∧ q < 6) ∧ ¬ (0 ≤ z ∧ z ≤ 1)))) := by
  refine zN_of (cc := cX6_left) (nL := 4) (ret := (some .int)) (own := RX6) hlt (by decide +kernel) rfl rfl (Nat.le_of_ble_eq_true rfl) (fun C X Y => ?_)
  have hx1 : V (ad 1) = some (1, .inr (7, [.ref (ad 2), .ref (ad 20), .ref (ad 22), .ref (ad 24), .ref (ad 16), .ref (ad 31), .ref (ad 33), .ref (ad 35), .ref (ad 40), .ref (ad 45), .int (zI (σ 30)), .int (zI (σ 31)), .int (zI (σ 32)), .int (zI (σ 33))])) := hS.1
  show zG C V 2 12 0 [(0, .ref (ad 1)), (1, .int (zI (q))), (2, .int (zI (z)))] []
  refine zr_aload_n X 1 0 dX6_left_0 rfl rfl ?_
  refine zr_iload_n X 2 1 dX6_left_1 rfl rfl ?_
  refine zr_callVN (kc' := 2 - 1) (ks' := 12 - 6) X Y 5 1 (m_X6_windowOf l hlt Γ hS (q := q) (by omega)) gX6_left_X6_windowOf rfl (by decide +kernel) rfl (by decide) hx1 rfl rfl (Nat.le_of_ble_eq_true rfl) dX6_left_2 rfl (by omega) (by omega) (fun E W hX => ⟨hX.2.2, Or.inl ⟨hX.1, by have := hX.2.1; omega⟩⟩) (fun rv2 V3 hp4 => ?_)
  obtain ⟨hp4a, hp4b, hp4c⟩ := hp4
  rw [hp4b, hp4c]
  have hw5 := hS.w (i := q.toNat) (by omega)
  have hw5r := hw5.rg
  show zG C V (2 - 1) (12 - 6) 5 [(0, .ref (ad 1)), (1, .int (zI (q))), (2, .int (zI (z)))] [.ref (ad (10 + q.toNat))]
  refine zr_astore_n X 6 [(3, .ref (ad (10 + q.toNat))), (0, .ref (ad 1)), (1, .int (zI (q))), (2, .int (zI (z)))] dX6_left_5 rfl (by decide) rfl ?_
  refine zr_iload_n X 7 3 dX6_left_6 rfl rfl ?_
  refine zr_iconst X 8 dX6_left_7 rfl ?_
  refine zr_iconst X 9 dX6_left_8 rfl ?_
  refine zr_callSN (kc' := (2 - 1) - 1) (ks' := (12 - 6) - 6) X Y 12 3 (m_X6_requireWithin l hlt Γ (V := V) (x := z) (a := 0) (b := 1) (by omega) (by omega) (by omega)) gX6_left_X6_requireWithin rfl (by decide +kernel) rfl (by decide) rfl (Nat.le_of_ble_eq_true rfl) dX6_left_9 rfl (by omega) (by omega) (fun E W hX => ⟨hX.2.2, Or.inr ⟨hX.1, by have := hX.2.1; omega⟩⟩) (fun rv6 V7 hp8 => ?_)
  obtain ⟨hp8a, hp8b, hp8c⟩ := hp8
  rw [hp8b, hp8c]
  show zG C V ((2 - 1) - 1) ((12 - 6) - 6) 12 [(3, .ref (ad (10 + q.toNat))), (0, .ref (ad 1)), (1, .int (zI (q))), (2, .int (zI (z)))] []
  refine zr_aload_n X 13 0 dX6_left_12 rfl rfl ?_
  refine zr_callVe (kc' := ((2 - 1) - 1)) (ks' := ((12 - 6) - 6)) X 16 0 (e_size l Γ hw5) gX6_left_X5_size rfl (by decide +kernel) rfl (by decide) hw5.cl rfl rfl (Nat.le_of_ble_eq_true rfl) dX6_left_13 rfl (by omega) (by omega) (fun rv9 V10 hp11 => ?_)
  rw [hp11.1, hp11.2]
  show zG C V ((2 - 1) - 1) ((12 - 6) - 6) 16 [(3, .ref (ad (10 + q.toNat))), (0, .ref (ad 1)), (1, .int (zI (q))), (2, .int (zI (z)))] [.int (zI ((σ (4 * q.toNat + 1)) - (σ (4 * q.toNat + 2))))]
  exact zr_iret X rfl ⟨(σ (4 * q.toNat + 1)) - (σ (4 * q.toNat + 2)), σ, rfl, hS, zag.rf, ⟨by omega, rfl, rfl⟩⟩ dX6_left_16
set_option maxRecDepth 100000 in
set_option maxHeartbeats 4000000 in
theorem m_X6_slice_ne (l : Launch) (hlt : l.stackTraces = false) (Γ : zGam) {V : zV} {ad : Nat → Nat} {σ : Nat → Int} {q q2 : Int} (hS : zS Γ V ad σ) (hq : -2147483648 ≤ q ∧ q ≤ 2147483647) (hq2 : -2147483648 ≤ q2 ∧ q2 ≤ 2147483647) (hne : q ≠ q2) : zN l Γ 8 yX6_slice wsX6_slice 2 12 V [.ref (ad 1), .int (zI (q)), .int (zI (q2))] (fun rv V' => ∃ (y : Int) (σ' : Nat → Int), rv = some (.int (zI y)) ∧ zS Γ V' ad σ' ∧ zfx V V' ∧ ((0 ≤ q ∧ q < 6 ∧ 0 ≤ q2 ∧ q2 < 6) ∧ y = σ (4 * q.toNat + 1) - σ (4 * q.toNat + 2) - 0 ∧ σ' = zdn (zf (zw4 σ q2.toNat (σ (4 * q.toNat + 1) - σ (4 * q.toNat + 2)) (σ (4 * q.toNat + 1) - σ (4 * q.toNat + 2)) 0 (-9)) (40 + q2.toNat) (σ (40 + q.toNat) + σ (4 * q.toNat + 2))))) (fun E V' => V' = V ∧ ((E = zIO ∧ ¬ (0 ≤ q ∧ q < 6 ∧ 0 ≤ q2 ∧ q2 < 6)) ∨ (E = zIA ∧ False))) := by
  refine zN_of (cc := cX6_slice) (nL := 5) (ret := (some .int)) (own := RX6) hlt (by decide +kernel) rfl rfl (Nat.le_of_ble_eq_true rfl) (fun C X Y => ?_)
  have hx1 : V (ad 1) = some (1, .inr (7, [.ref (ad 2), .ref (ad 20), .ref (ad 22), .ref (ad 24), .ref (ad 16), .ref (ad 31), .ref (ad 33), .ref (ad 35), .ref (ad 40), .ref (ad 45), .int (zI (σ 30)), .int (zI (σ 31)), .int (zI (σ 32)), .int (zI (σ 33))])) := hS.1
  show zG C V 2 12 0 [(0, .ref (ad 1)), (1, .int (zI (q))), (2, .int (zI (q2)))] []
  refine zr_aload_n X 1 0 dX6_slice_0 rfl rfl ?_
  refine zr_iload_n X 2 1 dX6_slice_1 rfl rfl ?_
  refine zr_callVN (kc' := 2 - 1) (ks' := 12 - 6) X Y 5 1 (m_X6_windowOf l hlt Γ hS (q := q) (by omega)) gX6_slice_X6_windowOf rfl (by decide +kernel) rfl (by decide) hx1 rfl rfl (Nat.le_of_ble_eq_true rfl) dX6_slice_2 rfl (by omega) (by omega) (fun E W hX => ⟨hX.2.2, Or.inl ⟨hX.1, by have := hX.2.1; omega⟩⟩) (fun rv2 V3 hp4 => ?_)
  obtain ⟨hp4a, hp4b, hp4c⟩ := hp4
  rw [hp4b, hp4c]
  have hw5 := hS.w (i := q.toNat) (by omega)
  have hw5r := hw5.rg
  show zG C V (2 - 1) (12 - 6) 5 [(0, .ref (ad 1)), (1, .int (zI (q))), (2, .int (zI (q2)))] [.ref (ad (10 + q.toNat))]
  refine zr_astore_n X 6 [(3, .ref (ad (10 + q.toNat))), (0, .ref (ad 1)), (1, .int (zI (q))), (2, .int (zI (q2)))] dX6_slice_5 rfl (by decide) rfl ?_
  refine zr_aload_n X 7 1 dX6_slice_6 rfl rfl ?_
  refine zr_iload_n X 8 3 dX6_slice_7 rfl rfl ?_
  refine zr_callVN (kc' := (2 - 1) - 1) (ks' := (12 - 6) - 6) X Y 11 1 (m_X6_windowOf l hlt Γ hS (q := q2) (by omega)) gX6_slice_X6_windowOf rfl (by decide +kernel) rfl (by decide) hx1 rfl rfl (Nat.le_of_ble_eq_true rfl) dX6_slice_8 rfl (by omega) (by omega) (fun E W hX => ⟨hX.2.2, Or.inl ⟨hX.1, by have := hX.2.1; omega⟩⟩) (fun rv6 V7 hp8 => ?_)
  obtain ⟨hp8a, hp8b, hp8c⟩ := hp8
  rw [hp8b, hp8c]
  have hw9 := hS.w (i := q2.toNat) (by omega)
  have hw9r := hw9.rg
  show zG C V ((2 - 1) - 1) ((12 - 6) - 6) 11 [(3, .ref (ad (10 + q.toNat))), (0, .ref (ad 1)), (1, .int (zI (q))), (2, .int (zI (q2)))] [.ref (ad (10 + q2.toNat))]
  refine zr_astore X 13 [(4, .ref (ad (10 + q2.toNat))), (3, .ref (ad (10 + q.toNat))), (0, .ref (ad 1)), (1, .int (zI (q))), (2, .int (zI (q2)))] dX6_slice_11 rfl (by decide) rfl ?_
  refine zr_aload X 15 0 dX6_slice_13 rfl rfl ?_
  refine zr_aload_n X 16 1 dX6_slice_15 rfl rfl ?_
  refine zr_callVe (kc' := ((2 - 1) - 1)) (ks' := ((12 - 6) - 6)) X 19 1 (k_slice l Γ hS (i := q2.toNat) (by omega) (j := q.toNat) (by omega) (by omega)) gX6_slice_X5_becomeSlice rfl (by decide +kernel) rfl (by decide) hw9.cl rfl rfl (Nat.le_of_ble_eq_true rfl) dX6_slice_16 rfl (by omega) (by omega) (fun rv10 V11 hp12 => ?_)
  obtain ⟨hp12e, hS13, fx14, hp12z⟩ := hp12
  rw [hp12e]
  have hw15 := hw5.other hp12z (by omega) (by omega)
  have hw16 := hp12z.1
  obtain ⟨σ17, σ17e⟩ : ∃ zz9 : Nat → Int, zz9 = zf (zw4 σ q2.toNat (σ (4 * q.toNat + 1) - σ (4 * q.toNat + 2)) (σ (4 * q.toNat + 1) - σ (4 * q.toNat + 2)) (0) (-9)) (40 + q2.toNat) (σ (40 + q.toNat) + σ (4 * q.toNat + 2)) := ⟨_, rfl⟩
  rw [← σ17e] at hS13
  have hx18 : V11 (ad 1) = some (1, .inr (7, [.ref (ad 2), .ref (ad 20), .ref (ad 22), .ref (ad 24), .ref (ad 16), .ref (ad 31), .ref (ad 33), .ref (ad 35), .ref (ad 40), .ref (ad 45), .int (zI (σ17 30)), .int (zI (σ17 31)), .int (zI (σ17 32)), .int (zI (σ17 33))])) := hS13.1
  show zG C V11 ((2 - 1) - 1) ((12 - 6) - 6) 19 [(4, .ref (ad (10 + q2.toNat))), (3, .ref (ad (10 + q.toNat))), (0, .ref (ad 1)), (1, .int (zI (q))), (2, .int (zI (q2)))] []
  refine zr_aload_n X 20 2 dX6_slice_19 rfl rfl ?_
  refine zr_aload X 22 0 dX6_slice_20 rfl rfl ?_
  refine zr_callVe (kc' := ((2 - 1) - 1)) (ks' := ((12 - 6) - 6)) X 25 0 (e_size l Γ hw16) gX6_slice_X5_size rfl (by decide +kernel) rfl (by decide) hw16.cl rfl rfl (Nat.le_of_ble_eq_true rfl) dX6_slice_22 rfl (by omega) (by omega) (fun rv19 V20 hp21 => ?_)
  rw [hp21.1, hp21.2]
  show zG C V11 ((2 - 1) - 1) ((12 - 6) - 6) 25 [(4, .ref (ad (10 + q2.toNat))), (3, .ref (ad (10 + q.toNat))), (0, .ref (ad 1)), (1, .int (zI (q))), (2, .int (zI (q2)))] [.int (zI ((σ (4 * q.toNat + 1) - σ (4 * q.toNat + 2)) - 0)), .ref (ad 1)]
  refine zr_callVe (kc' := ((2 - 1) - 1)) (ks' := ((12 - 6) - 6)) X 28 1 (m_X6_done l Γ hS13) gX6_slice_X6_done rfl (by decide +kernel) rfl (by decide) hS13.x rfl rfl (Nat.le_of_ble_eq_true rfl) dX6_slice_25 rfl (by omega) (by omega) (fun rv22 V23 hp24 => ?_)
  obtain ⟨hp24e, hS25, fx26⟩ := hp24
  rw [hp24e]
  obtain ⟨σ27, σ27e⟩ : ∃ zz9 : Nat → Int, zz9 = zdn σ17 := ⟨_, rfl⟩
  rw [← σ27e] at hS25
  have fx28 := zag.tr fx14 fx26
  have hx29 : V23 (ad 1) = some (1, .inr (7, [.ref (ad 2), .ref (ad 20), .ref (ad 22), .ref (ad 24), .ref (ad 16), .ref (ad 31), .ref (ad 33), .ref (ad 35), .ref (ad 40), .ref (ad 45), .int (zI (σ27 30)), .int (zI (σ27 31)), .int (zI (σ27 32)), .int (zI (σ27 33))])) := hS25.1
  show zG C V23 ((2 - 1) - 1) ((12 - 6) - 6) 28 [(4, .ref (ad (10 + q2.toNat))), (3, .ref (ad (10 + q.toNat))), (0, .ref (ad 1)), (1, .int (zI (q))), (2, .int (zI (q2)))] [.int (zI ((σ (4 * q.toNat + 1) - σ (4 * q.toNat + 2)) - 0))]
  exact zr_iret X rfl ⟨(σ (4 * q.toNat + 1) - σ (4 * q.toNat + 2)) - 0, σ27, rfl, hS25, fx28, ⟨by omega, rfl, by rw [σ27e, σ17e]⟩⟩ dX6_slice_28
set_option maxRecDepth 100000 in
set_option maxHeartbeats 4000000 in
theorem m_X6_slice_eq (l : Launch) (hlt : l.stackTraces = false) (Γ : zGam) {V : zV} {ad : Nat → Nat} {σ : Nat → Int} {q : Int} (hS : zS Γ V ad σ) (hq : -2147483648 ≤ q ∧ q ≤ 2147483647) : zN l Γ 8 yX6_slice wsX6_slice 2 12 V [.ref (ad 1), .int (zI (q)), .int (zI (q))] (fun rv V' => ∃ (y : Int) (σ' : Nat → Int), rv = some (.int (zI y)) ∧ zS Γ V' ad σ' ∧ zfx V V' ∧ ((0 ≤ q ∧ q < 6) ∧ y = σ (4 * q.toNat + 1) - σ (4 * q.toNat + 2) - 0 ∧ σ' = zdn (zf (zw4 σ q.toNat (σ (4 * q.toNat + 1) - σ (4 * q.toNat + 2)) (σ (4 * q.toNat + 1) - σ (4 * q.toNat + 2)) 0 (-9)) (40 + q.toNat) (σ (40 + q.toNat) + σ (4 * q.toNat + 2))))) (fun E V' => V' = V ∧ ((E = zIO ∧ ¬ (0 ≤ q ∧ q < 6)) ∨ (E = zIA ∧ False))) := by
  refine zN_of (cc := cX6_slice) (nL := 5) (ret := (some .int)) (own := RX6) hlt (by decide +kernel) rfl rfl (Nat.le_of_ble_eq_true rfl) (fun C X Y => ?_)
  have hx1 : V (ad 1) = some (1, .inr (7, [.ref (ad 2), .ref (ad 20), .ref (ad 22), .ref (ad 24), .ref (ad 16), .ref (ad 31), .ref (ad 33), .ref (ad 35), .ref (ad 40), .ref (ad 45), .int (zI (σ 30)), .int (zI (σ 31)), .int (zI (σ 32)), .int (zI (σ 33))])) := hS.1
  show zG C V 2 12 0 [(0, .ref (ad 1)), (1, .int (zI (q))), (2, .int (zI (q)))] []
  refine zr_aload_n X 1 0 dX6_slice_0 rfl rfl ?_
  refine zr_iload_n X 2 1 dX6_slice_1 rfl rfl ?_
  refine zr_callVN (kc' := 2 - 1) (ks' := 12 - 6) X Y 5 1 (m_X6_windowOf l hlt Γ hS (q := q) (by omega)) gX6_slice_X6_windowOf rfl (by decide +kernel) rfl (by decide) hx1 rfl rfl (Nat.le_of_ble_eq_true rfl) dX6_slice_2 rfl (by omega) (by omega) (fun E W hX => ⟨hX.2.2, Or.inl ⟨hX.1, by have := hX.2.1; omega⟩⟩) (fun rv2 V3 hp4 => ?_)
  obtain ⟨hp4a, hp4b, hp4c⟩ := hp4
  rw [hp4b, hp4c]
  have hw5 := hS.w (i := q.toNat) (by omega)
  have hw5r := hw5.rg
  show zG C V (2 - 1) (12 - 6) 5 [(0, .ref (ad 1)), (1, .int (zI (q))), (2, .int (zI (q)))] [.ref (ad (10 + q.toNat))]
  refine zr_astore_n X 6 [(3, .ref (ad (10 + q.toNat))), (0, .ref (ad 1)), (1, .int (zI (q))), (2, .int (zI (q)))] dX6_slice_5 rfl (by decide) rfl ?_
  refine zr_aload_n X 7 1 dX6_slice_6 rfl rfl ?_
  refine zr_iload_n X 8 3 dX6_slice_7 rfl rfl ?_
  refine zr_callVN (kc' := (2 - 1) - 1) (ks' := (12 - 6) - 6) X Y 11 1 (m_X6_windowOf l hlt Γ hS (q := q) (by omega)) gX6_slice_X6_windowOf rfl (by decide +kernel) rfl (by decide) hx1 rfl rfl (Nat.le_of_ble_eq_true rfl) dX6_slice_8 rfl (by omega) (by omega) (fun E W hX => ⟨hX.2.2, Or.inl ⟨hX.1, by have := hX.2.1; omega⟩⟩) (fun rv6 V7 hp8 => ?_)
  obtain ⟨hp8a, hp8b, hp8c⟩ := hp8
  rw [hp8b, hp8c]
  have hw9 := hS.w (i := q.toNat) (by omega)
  have hw9r := hw9.rg
  show zG C V ((2 - 1) - 1) ((12 - 6) - 6) 11 [(3, .ref (ad (10 + q.toNat))), (0, .ref (ad 1)), (1, .int (zI (q))), (2, .int (zI (q)))] [.ref (ad (10 + q.toNat))]
  refine zr_astore X 13 [(4, .ref (ad (10 + q.toNat))), (3, .ref (ad (10 + q.toNat))), (0, .ref (ad 1)), (1, .int (zI (q))), (2, .int (zI (q)))] dX6_slice_11 rfl (by decide) rfl ?_
  refine zr_aload X 15 0 dX6_slice_13 rfl rfl ?_
  refine zr_aload_n X 16 1 dX6_slice_15 rfl rfl ?_
  refine zr_callVe (kc' := ((2 - 1) - 1)) (ks' := ((12 - 6) - 6)) X 19 1 (k_slice_eq l Γ hS (i := q.toNat) (by omega)) gX6_slice_X5_becomeSlice rfl (by decide +kernel) rfl (by decide) hw9.cl rfl rfl (Nat.le_of_ble_eq_true rfl) dX6_slice_16 rfl (by omega) (by omega) (fun rv10 V11 hp12 => ?_)
  obtain ⟨hp12e, hS13, fx14, hp12z⟩ := hp12
  rw [hp12e]
  have hw15 := hp12z.1
  obtain ⟨σ16, σ16e⟩ : ∃ zz9 : Nat → Int, zz9 = zf (zw4 σ q.toNat (σ (4 * q.toNat + 1) - σ (4 * q.toNat + 2)) (σ (4 * q.toNat + 1) - σ (4 * q.toNat + 2)) (0) (-9)) (40 + q.toNat) (σ (40 + q.toNat) + σ (4 * q.toNat + 2)) := ⟨_, rfl⟩
  rw [← σ16e] at hS13
  have hx17 : V11 (ad 1) = some (1, .inr (7, [.ref (ad 2), .ref (ad 20), .ref (ad 22), .ref (ad 24), .ref (ad 16), .ref (ad 31), .ref (ad 33), .ref (ad 35), .ref (ad 40), .ref (ad 45), .int (zI (σ16 30)), .int (zI (σ16 31)), .int (zI (σ16 32)), .int (zI (σ16 33))])) := hS13.1
  show zG C V11 ((2 - 1) - 1) ((12 - 6) - 6) 19 [(4, .ref (ad (10 + q.toNat))), (3, .ref (ad (10 + q.toNat))), (0, .ref (ad 1)), (1, .int (zI (q))), (2, .int (zI (q)))] []
  refine zr_aload_n X 20 2 dX6_slice_19 rfl rfl ?_
  refine zr_aload X 22 0 dX6_slice_20 rfl rfl ?_
  refine zr_callVe (kc' := ((2 - 1) - 1)) (ks' := ((12 - 6) - 6)) X 25 0 (e_size l Γ hw15) gX6_slice_X5_size rfl (by decide +kernel) rfl (by decide) hw15.cl rfl rfl (Nat.le_of_ble_eq_true rfl) dX6_slice_22 rfl (by omega) (by omega) (fun rv18 V19 hp20 => ?_)
  rw [hp20.1, hp20.2]
  show zG C V11 ((2 - 1) - 1) ((12 - 6) - 6) 25 [(4, .ref (ad (10 + q.toNat))), (3, .ref (ad (10 + q.toNat))), (0, .ref (ad 1)), (1, .int (zI (q))), (2, .int (zI (q)))] [.int (zI ((σ (4 * q.toNat + 1) - σ (4 * q.toNat + 2)) - 0)), .ref (ad 1)]
  refine zr_callVe (kc' := ((2 - 1) - 1)) (ks' := ((12 - 6) - 6)) X 28 1 (m_X6_done l Γ hS13) gX6_slice_X6_done rfl (by decide +kernel) rfl (by decide) hS13.x rfl rfl (Nat.le_of_ble_eq_true rfl) dX6_slice_25 rfl (by omega) (by omega) (fun rv21 V22 hp23 => ?_)
  obtain ⟨hp23e, hS24, fx25⟩ := hp23
  rw [hp23e]
  obtain ⟨σ26, σ26e⟩ : ∃ zz9 : Nat → Int, zz9 = zdn σ16 := ⟨_, rfl⟩
  rw [← σ26e] at hS24
  have fx27 := zag.tr fx14 fx25
  have hx28 : V22 (ad 1) = some (1, .inr (7, [.ref (ad 2), .ref (ad 20), .ref (ad 22), .ref (ad 24), .ref (ad 16), .ref (ad 31), .ref (ad 33), .ref (ad 35), .ref (ad 40), .ref (ad 45), .int (zI (σ26 30)), .int (zI (σ26 31)), .int (zI (σ26 32)), .int (zI (σ26 33))])) := hS24.1
  show zG C V22 ((2 - 1) - 1) ((12 - 6) - 6) 28 [(4, .ref (ad (10 + q.toNat))), (3, .ref (ad (10 + q.toNat))), (0, .ref (ad 1)), (1, .int (zI (q))), (2, .int (zI (q)))] [.int (zI ((σ (4 * q.toNat + 1) - σ (4 * q.toNat + 2)) - 0))]
  exact zr_iret X rfl ⟨(σ (4 * q.toNat + 1) - σ (4 * q.toNat + 2)) - 0, σ26, rfl, hS24, fx27, ⟨by omega, rfl, by rw [σ26e, σ16e]⟩⟩ dX6_slice_28
set_option maxRecDepth 100000 in
set_option maxHeartbeats 4000000 in
theorem m_X6_duplicate_ne (l : Launch) (hlt : l.stackTraces = false) (Γ : zGam) {V : zV} {ad : Nat → Nat} {σ : Nat → Int} {q q2 : Int} (hS : zS Γ V ad σ) (hq : -2147483648 ≤ q ∧ q ≤ 2147483647) (hq2 : -2147483648 ≤ q2 ∧ q2 ≤ 2147483647) (hne : q ≠ q2) : zN l Γ 8 yX6_duplicate wsX6_duplicate 2 12 V [.ref (ad 1), .int (zI (q)), .int (zI (q2))] (fun rv V' => ∃ (y : Int) (σ' : Nat → Int), rv = some (.int (zI y)) ∧ zS Γ V' ad σ' ∧ zfx V V' ∧ ((0 ≤ q ∧ q < 6 ∧ 0 ≤ q2 ∧ q2 < 6) ∧ y = σ (4 * q.toNat + 1) - σ (4 * q.toNat + 2) ∧ σ' = zdn (zf (zw4 σ q2.toNat (σ (4 * q.toNat)) (σ (4 * q.toNat + 1)) (σ (4 * q.toNat + 2)) (σ (4 * q.toNat + 3))) (40 + q2.toNat) (σ (40 + q.toNat))))) (fun E V' => V' = V ∧ ((E = zIO ∧ ¬ (0 ≤ q ∧ q < 6 ∧ 0 ≤ q2 ∧ q2 < 6)) ∨ (E = zIA ∧ False))) := by
  refine zN_of (cc := cX6_duplicate) (nL := 5) (ret := (some .int)) (own := RX6) hlt (by decide +kernel) rfl rfl (Nat.le_of_ble_eq_true rfl) (fun C X Y => ?_)
  have hx1 : V (ad 1) = some (1, .inr (7, [.ref (ad 2), .ref (ad 20), .ref (ad 22), .ref (ad 24), .ref (ad 16), .ref (ad 31), .ref (ad 33), .ref (ad 35), .ref (ad 40), .ref (ad 45), .int (zI (σ 30)), .int (zI (σ 31)), .int (zI (σ 32)), .int (zI (σ 33))])) := hS.1
  show zG C V 2 12 0 [(0, .ref (ad 1)), (1, .int (zI (q))), (2, .int (zI (q2)))] []
  refine zr_aload_n X 1 0 dX6_duplicate_0 rfl rfl ?_
  refine zr_iload_n X 2 1 dX6_duplicate_1 rfl rfl ?_
  refine zr_callVN (kc' := 2 - 1) (ks' := 12 - 6) X Y 5 1 (m_X6_windowOf l hlt Γ hS (q := q) (by omega)) gX6_duplicate_X6_windowOf rfl (by decide +kernel) rfl (by decide) hx1 rfl rfl (Nat.le_of_ble_eq_true rfl) dX6_duplicate_2 rfl (by omega) (by omega) (fun E W hX => ⟨hX.2.2, Or.inl ⟨hX.1, by have := hX.2.1; omega⟩⟩) (fun rv2 V3 hp4 => ?_)
  obtain ⟨hp4a, hp4b, hp4c⟩ := hp4
  rw [hp4b, hp4c]
  have hw5 := hS.w (i := q.toNat) (by omega)
  have hw5r := hw5.rg
  show zG C V (2 - 1) (12 - 6) 5 [(0, .ref (ad 1)), (1, .int (zI (q))), (2, .int (zI (q2)))] [.ref (ad (10 + q.toNat))]
  refine zr_astore_n X 6 [(3, .ref (ad (10 + q.toNat))), (0, .ref (ad 1)), (1, .int (zI (q))), (2, .int (zI (q2)))] dX6_duplicate_5 rfl (by decide) rfl ?_
  refine zr_aload_n X 7 1 dX6_duplicate_6 rfl rfl ?_
  refine zr_iload_n X 8 3 dX6_duplicate_7 rfl rfl ?_
  refine zr_callVN (kc' := (2 - 1) - 1) (ks' := (12 - 6) - 6) X Y 11 1 (m_X6_windowOf l hlt Γ hS (q := q2) (by omega)) gX6_duplicate_X6_windowOf rfl (by decide +kernel) rfl (by decide) hx1 rfl rfl (Nat.le_of_ble_eq_true rfl) dX6_duplicate_8 rfl (by omega) (by omega) (fun E W hX => ⟨hX.2.2, Or.inl ⟨hX.1, by have := hX.2.1; omega⟩⟩) (fun rv6 V7 hp8 => ?_)
  obtain ⟨hp8a, hp8b, hp8c⟩ := hp8
  rw [hp8b, hp8c]
  have hw9 := hS.w (i := q2.toNat) (by omega)
  have hw9r := hw9.rg
  show zG C V ((2 - 1) - 1) ((12 - 6) - 6) 11 [(3, .ref (ad (10 + q.toNat))), (0, .ref (ad 1)), (1, .int (zI (q))), (2, .int (zI (q2)))] [.ref (ad (10 + q2.toNat))]
  refine zr_astore X 13 [(4, .ref (ad (10 + q2.toNat))), (3, .ref (ad (10 + q.toNat))), (0, .ref (ad 1)), (1, .int (zI (q))), (2, .int (zI (q2)))] dX6_duplicate_11 rfl (by decide) rfl ?_
  refine zr_aload X 15 0 dX6_duplicate_13 rfl rfl ?_
  refine zr_aload_n X 16 1 dX6_duplicate_15 rfl rfl ?_
  refine zr_callVe (kc' := ((2 - 1) - 1)) (ks' := ((12 - 6) - 6)) X 19 1 (k_like l Γ hS (i := q2.toNat) (by omega) (j := q.toNat) (by omega) (by omega)) gX6_duplicate_X5_becomeLike rfl (by decide +kernel) rfl (by decide) hw9.cl rfl rfl (Nat.le_of_ble_eq_true rfl) dX6_duplicate_16 rfl (by omega) (by omega) (fun rv10 V11 hp12 => ?_)
  obtain ⟨hp12e, hS13, fx14, hp12z⟩ := hp12
  rw [hp12e]
  have hw15 := hw5.other hp12z (by omega) (by omega)
  have hw16 := hp12z.1
  obtain ⟨σ17, σ17e⟩ : ∃ zz9 : Nat → Int, zz9 = zf (zw4 σ q2.toNat (σ (4 * q.toNat)) (σ (4 * q.toNat + 1)) (σ (4 * q.toNat + 2)) (σ (4 * q.toNat + 3))) (40 + q2.toNat) (σ (40 + q.toNat)) := ⟨_, rfl⟩
  rw [← σ17e] at hS13
  have hx18 : V11 (ad 1) = some (1, .inr (7, [.ref (ad 2), .ref (ad 20), .ref (ad 22), .ref (ad 24), .ref (ad 16), .ref (ad 31), .ref (ad 33), .ref (ad 35), .ref (ad 40), .ref (ad 45), .int (zI (σ17 30)), .int (zI (σ17 31)), .int (zI (σ17 32)), .int (zI (σ17 33))])) := hS13.1
  show zG C V11 ((2 - 1) - 1) ((12 - 6) - 6) 19 [(4, .ref (ad (10 + q2.toNat))), (3, .ref (ad (10 + q.toNat))), (0, .ref (ad 1)), (1, .int (zI (q))), (2, .int (zI (q2)))] []
  refine zr_aload_n X 20 2 dX6_duplicate_19 rfl rfl ?_
  refine zr_aload X 22 0 dX6_duplicate_20 rfl rfl ?_
  refine zr_callVe (kc' := ((2 - 1) - 1)) (ks' := ((12 - 6) - 6)) X 25 0 (e_size l Γ hw16) gX6_duplicate_X5_size rfl (by decide +kernel) rfl (by decide) hw16.cl rfl rfl (Nat.le_of_ble_eq_true rfl) dX6_duplicate_22 rfl (by omega) (by omega) (fun rv19 V20 hp21 => ?_)
  rw [hp21.1, hp21.2]
  show zG C V11 ((2 - 1) - 1) ((12 - 6) - 6) 25 [(4, .ref (ad (10 + q2.toNat))), (3, .ref (ad (10 + q.toNat))), (0, .ref (ad 1)), (1, .int (zI (q))), (2, .int (zI (q2)))] [.int (zI ((σ (4 * q.toNat + 1)) - (σ (4 * q.toNat + 2)))), .ref (ad 1)]
  refine zr_callVe (kc' := ((2 - 1) - 1)) (ks' := ((12 - 6) - 6)) X 28 1 (m_X6_done l Γ hS13) gX6_duplicate_X6_done rfl (by decide +kernel) rfl (by decide) hS13.x rfl rfl (Nat.le_of_ble_eq_true rfl) dX6_duplicate_25 rfl (by omega) (by omega) (fun rv22 V23 hp24 => ?_)
  obtain ⟨hp24e, hS25, fx26⟩ := hp24
  rw [hp24e]
  obtain ⟨σ27, σ27e⟩ : ∃ zz9 : Nat → Int, zz9 = zdn σ17 := ⟨_, rfl⟩
  rw [← σ27e] at hS25
  have fx28 := zag.tr fx14 fx26
  have hx29 : V23 (ad 1) = some (1, .inr (7, [.ref (ad 2), .ref (ad 20), .ref (ad 22), .ref (ad 24), .ref (ad 16), .ref (ad 31), .ref (ad 33), .ref (ad 35), .ref (ad 40), .ref (ad 45), .int (zI (σ27 30)), .int (zI (σ27 31)), .int (zI (σ27 32)), .int (zI (σ27 33))])) := hS25.1
  show zG C V23 ((2 - 1) - 1) ((12 - 6) - 6) 28 [(4, .ref (ad (10 + q2.toNat))), (3, .ref (ad (10 + q.toNat))), (0, .ref (ad 1)), (1, .int (zI (q))), (2, .int (zI (q2)))] [.int (zI ((σ (4 * q.toNat + 1)) - (σ (4 * q.toNat + 2))))]
  exact zr_iret X rfl ⟨(σ (4 * q.toNat + 1)) - (σ (4 * q.toNat + 2)), σ27, rfl, hS25, fx28, ⟨by omega, rfl, by rw [σ27e, σ17e]⟩⟩ dX6_duplicate_28
set_option maxRecDepth 100000 in
set_option maxHeartbeats 4000000 in
theorem m_X6_duplicate_eq (l : Launch) (hlt : l.stackTraces = false) (Γ : zGam) {V : zV} {ad : Nat → Nat} {σ : Nat → Int} {q : Int} (hS : zS Γ V ad σ) (hq : -2147483648 ≤ q ∧ q ≤ 2147483647) : zN l Γ 8 yX6_duplicate wsX6_duplicate 2 12 V [.ref (ad 1), .int (zI (q)), .int (zI (q))] (fun rv V' => ∃ (y : Int) (σ' : Nat → Int), rv = some (.int (zI y)) ∧ zS Γ V' ad σ' ∧ zfx V V' ∧ ((0 ≤ q ∧ q < 6) ∧ y = σ (4 * q.toNat + 1) - σ (4 * q.toNat + 2) ∧ σ' = zdn σ)) (fun E V' => V' = V ∧ ((E = zIO ∧ ¬ (0 ≤ q ∧ q < 6)) ∨ (E = zIA ∧ False))) := by
  refine zN_of (cc := cX6_duplicate) (nL := 5) (ret := (some .int)) (own := RX6) hlt (by decide +kernel) rfl rfl (Nat.le_of_ble_eq_true rfl) (fun C X Y => ?_)
  have hx1 : V (ad 1) = some (1, .inr (7, [.ref (ad 2), .ref (ad 20), .ref (ad 22), .ref (ad 24), .ref (ad 16), .ref (ad 31), .ref (ad 33), .ref (ad 35), .ref (ad 40), .ref (ad 45), .int (zI (σ 30)), .int (zI (σ 31)), .int (zI (σ 32)), .int (zI (σ 33))])) := hS.1
  show zG C V 2 12 0 [(0, .ref (ad 1)), (1, .int (zI (q))), (2, .int (zI (q)))] []
  refine zr_aload_n X 1 0 dX6_duplicate_0 rfl rfl ?_
  refine zr_iload_n X 2 1 dX6_duplicate_1 rfl rfl ?_
  refine zr_callVN (kc' := 2 - 1) (ks' := 12 - 6) X Y 5 1 (m_X6_windowOf l hlt Γ hS (q := q) (by omega)) gX6_duplicate_X6_windowOf rfl (by decide +kernel) rfl (by decide) hx1 rfl rfl (Nat.le_of_ble_eq_true rfl) dX6_duplicate_2 rfl (by omega) (by omega) (fun E W hX => ⟨hX.2.2, Or.inl ⟨hX.1, by have := hX.2.1; omega⟩⟩) (fun rv2 V3 hp4 => ?_)
  obtain ⟨hp4a, hp4b, hp4c⟩ := hp4
  rw [hp4b, hp4c]
  have hw5 := hS.w (i := q.toNat) (by omega)
  have hw5r := hw5.rg
  show zG C V (2 - 1) (12 - 6) 5 [(0, .ref (ad 1)), (1, .int (zI (q))), (2, .int (zI (q)))] [.ref (ad (10 + q.toNat))]
  refine zr_astore_n X 6 [(3, .ref (ad (10 + q.toNat))), (0, .ref (ad 1)), (1, .int (zI (q))), (2, .int (zI (q)))] dX6_duplicate_5 rfl (by decide) rfl ?_
  refine zr_aload_n X 7 1 dX6_duplicate_6 rfl rfl ?_
  refine zr_iload_n X 8 3 dX6_duplicate_7 rfl rfl ?_
  refine zr_callVN (kc' := (2 - 1) - 1) (ks' := (12 - 6) - 6) X Y 11 1 (m_X6_windowOf l hlt Γ hS (q := q) (by omega)) gX6_duplicate_X6_windowOf rfl (by decide +kernel) rfl (by decide) hx1 rfl rfl (Nat.le_of_ble_eq_true rfl) dX6_duplicate_8 rfl (by omega) (by omega) (fun E W hX => ⟨hX.2.2, Or.inl ⟨hX.1, by have := hX.2.1; omega⟩⟩) (fun rv6 V7 hp8 => ?_)
  obtain ⟨hp8a, hp8b, hp8c⟩ := hp8
  rw [hp8b, hp8c]
  have hw9 := hS.w (i := q.toNat) (by omega)
  have hw9r := hw9.rg
  show zG C V ((2 - 1) - 1) ((12 - 6) - 6) 11 [(3, .ref (ad (10 + q.toNat))), (0, .ref (ad 1)), (1, .int (zI (q))), (2, .int (zI (q)))] [.ref (ad (10 + q.toNat))]
  refine zr_astore X 13 [(4, .ref (ad (10 + q.toNat))), (3, .ref (ad (10 + q.toNat))), (0, .ref (ad 1)), (1, .int (zI (q))), (2, .int (zI (q)))] dX6_duplicate_11 rfl (by decide) rfl ?_
  refine zr_aload X 15 0 dX6_duplicate_13 rfl rfl ?_
  refine zr_aload_n X 16 1 dX6_duplicate_15 rfl rfl ?_
  refine zr_callVe (kc' := ((2 - 1) - 1)) (ks' := ((12 - 6) - 6)) X 19 1 (e_like_eq l Γ hw9) gX6_duplicate_X5_becomeLike rfl (by decide +kernel) rfl (by decide) hw9.cl rfl rfl (Nat.le_of_ble_eq_true rfl) dX6_duplicate_16 rfl (by omega) (by omega) (fun rv10 V11 hp12 => ?_)
  rw [hp12.1, hp12.2]
  show zG C V ((2 - 1) - 1) ((12 - 6) - 6) 19 [(4, .ref (ad (10 + q.toNat))), (3, .ref (ad (10 + q.toNat))), (0, .ref (ad 1)), (1, .int (zI (q))), (2, .int (zI (q)))] []
  refine zr_aload_n X 20 2 dX6_duplicate_19 rfl rfl ?_
  refine zr_aload X 22 0 dX6_duplicate_20 rfl rfl ?_
  refine zr_callVe (kc' := ((2 - 1) - 1)) (ks' := ((12 - 6) - 6)) X 25 0 (e_size l Γ hw9) gX6_duplicate_X5_size rfl (by decide +kernel) rfl (by decide) hw9.cl rfl rfl (Nat.le_of_ble_eq_true rfl) dX6_duplicate_22 rfl (by omega) (by omega) (fun rv13 V14 hp15 => ?_)
  rw [hp15.1, hp15.2]
  show zG C V ((2 - 1) - 1) ((12 - 6) - 6) 25 [(4, .ref (ad (10 + q.toNat))), (3, .ref (ad (10 + q.toNat))), (0, .ref (ad 1)), (1, .int (zI (q))), (2, .int (zI (q)))] [.int (zI ((σ (4 * q.toNat + 1)) - (σ (4 * q.toNat + 2)))), .ref (ad 1)]
  refine zr_callVe (kc' := ((2 - 1) - 1)) (ks' := ((12 - 6) - 6)) X 28 1 (m_X6_done l Γ hS) gX6_duplicate_X6_done rfl (by decide +kernel) rfl (by decide) hS.x rfl rfl (Nat.le_of_ble_eq_true rfl) dX6_duplicate_25 rfl (by omega) (by omega) (fun rv16 V17 hp18 => ?_)
  obtain ⟨hp18e, hS19, fx20⟩ := hp18
  rw [hp18e]
  obtain ⟨σ21, σ21e⟩ : ∃ zz9 : Nat → Int, zz9 = zdn σ := ⟨_, rfl⟩
  rw [← σ21e] at hS19
  have hx22 : V17 (ad 1) = some (1, .inr (7, [.ref (ad 2), .ref (ad 20), .ref (ad 22), .ref (ad 24), .ref (ad 16), .ref (ad 31), .ref (ad 33), .ref (ad 35), .ref (ad 40), .ref (ad 45), .int (zI (σ21 30)), .int (zI (σ21 31)), .int (zI (σ21 32)), .int (zI (σ21 33))])) := hS19.1
  show zG C V17 ((2 - 1) - 1) ((12 - 6) - 6) 28 [(4, .ref (ad (10 + q.toNat))), (3, .ref (ad (10 + q.toNat))), (0, .ref (ad 1)), (1, .int (zI (q))), (2, .int (zI (q)))] [.int (zI ((σ (4 * q.toNat + 1)) - (σ (4 * q.toNat + 2))))]
  exact zr_iret X rfl ⟨(σ (4 * q.toNat + 1)) - (σ (4 * q.toNat + 2)), σ21, rfl, hS19, fx20, ⟨by omega, rfl, by rw [σ21e]⟩⟩ dX6_duplicate_28
set_option maxRecDepth 100000 in
set_option maxHeartbeats 4000000 in
theorem m_X6_part_ne (l : Launch) (hlt : l.stackTraces = false) (Γ : zGam) {V : zV} {ad : Nat → Nat} {σ : Nat → Int} {q a b q2 : Int} (hS : zS Γ V ad σ) (hq : -2147483648 ≤ q ∧ q ≤ 2147483647) (hq2 : -2147483648 ≤ q2 ∧ q2 ≤ 2147483647) (ha : -2147483648 ≤ a ∧ a ≤ 2147483647) (hb : -2147483648 ≤ b ∧ b ≤ 2147483647) (hne : q ≠ q2) : zN l Γ 8 yX6_part wsX6_part 2 12 V [.ref (ad 1), .int (zI (q)), .int (zI (a)), .int (zI (b)), .int (zI (q2))] (fun rv V' => ∃ (y : Int) (σ' : Nat → Int), rv = some (.int (zI y)) ∧ zS Γ V' ad σ' ∧ zfx V V' ∧ ((0 ≤ q ∧ q < 6 ∧ 0 ≤ q2 ∧ q2 < 6) ∧ ((¬ (0 ≤ a ∧ a ≤ b ∧ b ≤ σ (4 * q.toNat + 1) - σ (4 * q.toNat + 2)) ∧ y = -9 ∧ σ' = zrf σ) ∨ ((0 ≤ a ∧ a ≤ b ∧ b ≤ σ (4 * q.toNat + 1) - σ (4 * q.toNat + 2)) ∧ y = σ (4 * q.toNat + 2) + b - (σ (4 * q.toNat + 2) + a) ∧ σ' = zdn (zf (zw4 σ q2.toNat (σ (4 * q.toNat)) (σ (4 * q.toNat + 2) + b) (σ (4 * q.toNat + 2) + a) (σ (4 * q.toNat + 2) + a)) (40 + q2.toNat) (σ (40 + q.toNat))))))) (fun E V' => V' = V ∧ ((E = zIO ∧ ¬ (0 ≤ q ∧ q < 6 ∧ 0 ≤ q2 ∧ q2 < 6)) ∨ (E = zIA ∧ False))) := by
  refine zN_of (cc := cX6_part) (nL := 7) (ret := (some .int)) (own := RX6) hlt (by decide +kernel) rfl rfl (Nat.le_of_ble_eq_true rfl) (fun C X Y => ?_)
  have hx1 : V (ad 1) = some (1, .inr (7, [.ref (ad 2), .ref (ad 20), .ref (ad 22), .ref (ad 24), .ref (ad 16), .ref (ad 31), .ref (ad 33), .ref (ad 35), .ref (ad 40), .ref (ad 45), .int (zI (σ 30)), .int (zI (σ 31)), .int (zI (σ 32)), .int (zI (σ 33))])) := hS.1
  show zG C V 2 12 0 [(0, .ref (ad 1)), (1, .int (zI (q))), (2, .int (zI (a))), (3, .int (zI (b))), (4, .int (zI (q2)))] []
  refine zr_aload_n X 1 0 dX6_part_0 rfl rfl ?_
  refine zr_iload_n X 2 1 dX6_part_1 rfl rfl ?_
  refine zr_callVN (kc' := 2 - 1) (ks' := 12 - 6) X Y 5 1 (m_X6_windowOf l hlt Γ hS (q := q) (by omega)) gX6_part_X6_windowOf rfl (by decide +kernel) rfl (by decide) hx1 rfl rfl (Nat.le_of_ble_eq_true rfl) dX6_part_2 rfl (by omega) (by omega) (fun E W hX => ⟨hX.2.2, Or.inl ⟨hX.1, by have := hX.2.1; omega⟩⟩) (fun rv2 V3 hp4 => ?_)
  obtain ⟨hp4a, hp4b, hp4c⟩ := hp4
  rw [hp4b, hp4c]
  have hw5 := hS.w (i := q.toNat) (by omega)
  have hw5r := hw5.rg
  show zG C V (2 - 1) (12 - 6) 5 [(0, .ref (ad 1)), (1, .int (zI (q))), (2, .int (zI (a))), (3, .int (zI (b))), (4, .int (zI (q2)))] [.ref (ad (10 + q.toNat))]
  refine zr_astore X 7 [(5, .ref (ad (10 + q.toNat))), (0, .ref (ad 1)), (1, .int (zI (q))), (2, .int (zI (a))), (3, .int (zI (b))), (4, .int (zI (q2)))] dX6_part_5 rfl (by decide) rfl ?_
  refine zr_aload_n X 8 1 dX6_part_7 rfl rfl ?_
  refine zr_iload X 10 5 dX6_part_8 rfl rfl ?_
  refine zr_callVN (kc' := (2 - 1) - 1) (ks' := (12 - 6) - 6) X Y 13 1 (m_X6_windowOf l hlt Γ hS (q := q2) (by omega)) gX6_part_X6_windowOf rfl (by decide +kernel) rfl (by decide) hx1 rfl rfl (Nat.le_of_ble_eq_true rfl) dX6_part_10 rfl (by omega) (by omega) (fun E W hX => ⟨hX.2.2, Or.inl ⟨hX.1, by have := hX.2.1; omega⟩⟩) (fun rv6 V7 hp8 => ?_)
  obtain ⟨hp8a, hp8b, hp8c⟩ := hp8
  rw [hp8b, hp8c]
  have hw9 := hS.w (i := q2.toNat) (by omega)
  have hw9r := hw9.rg
  show zG C V ((2 - 1) - 1) ((12 - 6) - 6) 13 [(5, .ref (ad (10 + q.toNat))), (0, .ref (ad 1)), (1, .int (zI (q))), (2, .int (zI (a))), (3, .int (zI (b))), (4, .int (zI (q2)))] [.ref (ad (10 + q2.toNat))]
  refine zr_astore X 15 [(6, .ref (ad (10 + q2.toNat))), (5, .ref (ad (10 + q.toNat))), (0, .ref (ad 1)), (1, .int (zI (q))), (2, .int (zI (a))), (3, .int (zI (b))), (4, .int (zI (q2)))] dX6_part_13 rfl (by decide) rfl ?_
  refine zr_iload_n X 16 4 dX6_part_15 rfl rfl ?_
  refine zr_iload_n X 17 5 dX6_part_16 rfl rfl ?_
  refine zr_aload X 19 1 dX6_part_17 rfl rfl ?_
  refine zr_callVe (kc' := ((2 - 1) - 1)) (ks' := ((12 - 6) - 6)) X 22 0 (e_size l Γ hw5) gX6_part_X5_size rfl (by decide +kernel) rfl (by decide) hw5.cl rfl rfl (Nat.le_of_ble_eq_true rfl) dX6_part_19 rfl (by omega) (by omega) (fun rv10 V11 hp12 => ?_)
  rw [hp12.1, hp12.2]
  show zG C V ((2 - 1) - 1) ((12 - 6) - 6) 22 [(6, .ref (ad (10 + q2.toNat))), (5, .ref (ad (10 + q.toNat))), (0, .ref (ad 1)), (1, .int (zI (q))), (2, .int (zI (a))), (3, .int (zI (b))), (4, .int (zI (q2)))] [.int (zI ((σ (4 * q.toNat + 1)) - (σ (4 * q.toNat + 2)))), .int (zI (b)), .int (zI (a))]
  refine zr_callS (kc' := ((2 - 1) - 1)) (ks' := ((12 - 6) - 6)) X 25 3 (m_X6_isStretch l Γ (V := V) (a := a) (b := b) (n := (σ (4 * q.toNat + 1)) - (σ (4 * q.toNat + 2))) (by omega) (by omega) (by omega)) gX6_part_X6_isStretch rfl (by decide +kernel) rfl (by decide) rfl (Nat.le_of_ble_eq_true rfl) dX6_part_22 rfl (by omega) (by omega) (fun rv13 V14 hp15 => ?_)
  obtain ⟨⟨x16, x16e, x16a⟩, x16v⟩ := hp15
  rw [x16e, x16v]
  show zG C V ((2 - 1) - 1) ((12 - 6) - 6) 25 [(6, .ref (ad (10 + q2.toNat))), (5, .ref (ad (10 + q.toNat))), (0, .ref (ad 1)), (1, .int (zI (q))), (2, .int (zI (a))), (3, .int (zI (b))), (4, .int (zI (q2)))] [.int (zI (x16))]
  refine zr_if_ne X 33 28 dX6_part_25 rfl rfl (by omega) (fun bq17 => ?_) (fun bq17 => ?_)
  · refine zr_aload X 35 0 dX6_part_33 rfl rfl ?_
    refine zr_aload X 37 1 dX6_part_35 rfl rfl ?_
    refine zr_iload_n X 38 4 dX6_part_37 rfl rfl ?_
    refine zr_iload_n X 39 5 dX6_part_38 rfl rfl ?_
    refine zr_callVe (kc' := ((2 - 1) - 1)) (ks' := ((12 - 6) - 6)) X 42 3 (k_part l Γ hS (i := q2.toNat) (by omega) (j := q.toNat) (by omega) (by omega) (a := a) (b := b) (by omega)) gX6_part_X5_becomePart rfl (by decide +kernel) rfl (by decide) hw9.cl rfl rfl (Nat.le_of_ble_eq_true rfl) dX6_part_39 rfl (by omega) (by omega) (fun rv18 V19 hp20 => ?_)
    obtain ⟨hp20e, hS21, fx22, hp20z⟩ := hp20
    rw [hp20e]
    have hw23 := hw5.other hp20z (by omega) (by omega)
    have hw24 := hp20z.1
    obtain ⟨σ25, σ25e⟩ : ∃ zz9 : Nat → Int, zz9 = zf (zw4 σ q2.toNat (σ (4 * q.toNat)) (σ (4 * q.toNat + 2) + b) (σ (4 * q.toNat + 2) + a) (σ (4 * q.toNat + 2) + a)) (40 + q2.toNat) (σ (40 + q.toNat)) := ⟨_, rfl⟩
    rw [← σ25e] at hS21
    have hx26 : V19 (ad 1) = some (1, .inr (7, [.ref (ad 2), .ref (ad 20), .ref (ad 22), .ref (ad 24), .ref (ad 16), .ref (ad 31), .ref (ad 33), .ref (ad 35), .ref (ad 40), .ref (ad 45), .int (zI (σ25 30)), .int (zI (σ25 31)), .int (zI (σ25 32)), .int (zI (σ25 33))])) := hS21.1
    show zG C V19 ((2 - 1) - 1) ((12 - 6) - 6) 42 [(6, .ref (ad (10 + q2.toNat))), (5, .ref (ad (10 + q.toNat))), (0, .ref (ad 1)), (1, .int (zI (q))), (2, .int (zI (a))), (3, .int (zI (b))), (4, .int (zI (q2)))] []
    refine zr_aload_n X 43 2 dX6_part_42 rfl rfl ?_
    refine zr_aload X 45 0 dX6_part_43 rfl rfl ?_
    refine zr_callVe (kc' := ((2 - 1) - 1)) (ks' := ((12 - 6) - 6)) X 48 0 (e_size l Γ hw24) gX6_part_X5_size rfl (by decide +kernel) rfl (by decide) hw24.cl rfl rfl (Nat.le_of_ble_eq_true rfl) dX6_part_45 rfl (by omega) (by omega) (fun rv27 V28 hp29 => ?_)
    rw [hp29.1, hp29.2]
    show zG C V19 ((2 - 1) - 1) ((12 - 6) - 6) 48 [(6, .ref (ad (10 + q2.toNat))), (5, .ref (ad (10 + q.toNat))), (0, .ref (ad 1)), (1, .int (zI (q))), (2, .int (zI (a))), (3, .int (zI (b))), (4, .int (zI (q2)))] [.int (zI ((σ (4 * q.toNat + 2) + b) - (σ (4 * q.toNat + 2) + a))), .ref (ad 1)]
    refine zr_callVe (kc' := ((2 - 1) - 1)) (ks' := ((12 - 6) - 6)) X 51 1 (m_X6_done l Γ hS21) gX6_part_X6_done rfl (by decide +kernel) rfl (by decide) hS21.x rfl rfl (Nat.le_of_ble_eq_true rfl) dX6_part_48 rfl (by omega) (by omega) (fun rv30 V31 hp32 => ?_)
    obtain ⟨hp32e, hS33, fx34⟩ := hp32
    rw [hp32e]
    obtain ⟨σ35, σ35e⟩ : ∃ zz9 : Nat → Int, zz9 = zdn σ25 := ⟨_, rfl⟩
    rw [← σ35e] at hS33
    have fx36 := zag.tr fx22 fx34
    have hx37 : V31 (ad 1) = some (1, .inr (7, [.ref (ad 2), .ref (ad 20), .ref (ad 22), .ref (ad 24), .ref (ad 16), .ref (ad 31), .ref (ad 33), .ref (ad 35), .ref (ad 40), .ref (ad 45), .int (zI (σ35 30)), .int (zI (σ35 31)), .int (zI (σ35 32)), .int (zI (σ35 33))])) := hS33.1
    show zG C V31 ((2 - 1) - 1) ((12 - 6) - 6) 51 [(6, .ref (ad (10 + q2.toNat))), (5, .ref (ad (10 + q.toNat))), (0, .ref (ad 1)), (1, .int (zI (q))), (2, .int (zI (a))), (3, .int (zI (b))), (4, .int (zI (q2)))] [.int (zI ((σ (4 * q.toNat + 2) + b) - (σ (4 * q.toNat + 2) + a)))]
    exact zr_iret X rfl ⟨(σ (4 * q.toNat + 2) + b) - (σ (4 * q.toNat + 2) + a), σ35, rfl, hS33, fx36, ⟨by omega, Or.inr ⟨by omega, rfl, by rw [σ35e, σ25e]⟩⟩⟩ dX6_part_51
  · refine zr_aload_n X 29 2 dX6_part_28 rfl rfl ?_
    refine zr_callVe (kc' := ((2 - 1) - 1)) (ks' := ((12 - 6) - 6)) X 32 0 (m_X6_refused l Γ hS) gX6_part_X6_refused rfl (by decide +kernel) rfl (by decide) hS.x rfl rfl (Nat.le_of_ble_eq_true rfl) dX6_part_29 rfl (by omega) (by omega) (fun rv38 V39 hp40 => ?_)
    obtain ⟨hp40e, hS41, fx42⟩ := hp40
    rw [hp40e]
    obtain ⟨σ43, σ43e⟩ : ∃ zz9 : Nat → Int, zz9 = zrf σ := ⟨_, rfl⟩
    rw [← σ43e] at hS41
    have hx44 : V39 (ad 1) = some (1, .inr (7, [.ref (ad 2), .ref (ad 20), .ref (ad 22), .ref (ad 24), .ref (ad 16), .ref (ad 31), .ref (ad 33), .ref (ad 35), .ref (ad 40), .ref (ad 45), .int (zI (σ43 30)), .int (zI (σ43 31)), .int (zI (σ43 32)), .int (zI (σ43 33))])) := hS41.1
    show zG C V39 ((2 - 1) - 1) ((12 - 6) - 6) 32 [(6, .ref (ad (10 + q2.toNat))), (5, .ref (ad (10 + q.toNat))), (0, .ref (ad 1)), (1, .int (zI (q))), (2, .int (zI (a))), (3, .int (zI (b))), (4, .int (zI (q2)))] [.int (zI (-9))]
    exact zr_iret X rfl ⟨-9, σ43, rfl, hS41, fx42, ⟨by omega, Or.inl ⟨by omega, rfl, by rw [σ43e]⟩⟩⟩ dX6_part_32
set_option maxRecDepth 100000 in
set_option maxHeartbeats 4000000 in
theorem m_X6_part_eq (l : Launch) (hlt : l.stackTraces = false) (Γ : zGam) {V : zV} {ad : Nat → Nat} {σ : Nat → Int} {q a b : Int} (hS : zS Γ V ad σ) (hq : -2147483648 ≤ q ∧ q ≤ 2147483647) (ha : -2147483648 ≤ a ∧ a ≤ 2147483647) (hb : -2147483648 ≤ b ∧ b ≤ 2147483647) : zN l Γ 8 yX6_part wsX6_part 2 12 V [.ref (ad 1), .int (zI (q)), .int (zI (a)), .int (zI (b)), .int (zI (q))] (fun rv V' => ∃ (y : Int) (σ' : Nat → Int), rv = some (.int (zI y)) ∧ zS Γ V' ad σ' ∧ zfx V V' ∧ ((0 ≤ q ∧ q < 6) ∧ ((¬ (0 ≤ a ∧ a ≤ b ∧ b ≤ σ (4 * q.toNat + 1) - σ (4 * q.toNat + 2)) ∧ y = -9 ∧ σ' = zrf σ) ∨ ((0 ≤ a ∧ a ≤ b ∧ b ≤ σ (4 * q.toNat + 1) - σ (4 * q.toNat + 2)) ∧ y = σ (4 * q.toNat + 2) + b - (σ (4 * q.toNat + 2) + a) ∧ σ' = zdn (zf (zw4 σ q.toNat (σ (4 * q.toNat)) (σ (4 * q.toNat + 2) + b) (σ (4 * q.toNat + 2) + a) (σ (4 * q.toNat + 2) + a)) (40 + q.toNat) (σ (40 + q.toNat))))))) (fun E V' => V' = V ∧ ((E = zIO ∧ ¬ (0 ≤ q ∧ q < 6)) ∨ (E = zIA ∧ False))) := by
  refine zN_of (cc := cX6_part) (nL := 7) (ret := (some .int)) (own := RX6) hlt (by decide +kernel) rfl rfl (Nat.le_of_ble_eq_true rfl) (fun C X Y => ?_)
  have hx1 : V (ad 1) = some (1, .inr (7, [.ref (ad 2), .ref (ad 20), .ref (ad 22), .ref (ad 24), .ref (ad 16), .ref (ad 31), .ref (ad 33), .ref (ad 35), .ref (ad 40), .ref (ad 45), .int (zI (σ 30)), .int (zI (σ 31)), .int (zI (σ 32)), .int (zI (σ 33))])) := hS.1
  show zG C V 2 12 0 [(0, .ref (ad 1)), (1, .int (zI (q))), (2, .int (zI (a))), (3, .int (zI (b))), (4, .int (zI (q)))] []
  refine zr_aload_n X 1 0 dX6_part_0 rfl rfl ?_
  refine zr_iload_n X 2 1 dX6_part_1 rfl rfl ?_
  refine zr_callVN (kc' := 2 - 1) (ks' := 12 - 6) X Y 5 1 (m_X6_windowOf l hlt Γ hS (q := q) (by omega)) gX6_part_X6_windowOf rfl (by decide +kernel) rfl (by decide) hx1 rfl rfl (Nat.le_of_ble_eq_true rfl) dX6_part_2 rfl (by omega) (by omega) (fun E W hX => ⟨hX.2.2, Or.inl ⟨hX.1, by have := hX.2.1; omega⟩⟩) (fun rv2 V3 hp4 => ?_)
  obtain ⟨hp4a, hp4b, hp4c⟩ := hp4
  rw [hp4b, hp4c]
  have hw5 := hS.w (i := q.toNat) (by omega)
  have hw5r := hw5.rg
  show zG C V (2 - 1) (12 - 6) 5 [(0, .ref (ad 1)), (1, .int (zI (q))), (2, .int (zI (a))), (3, .int (zI (b))), (4, .int (zI (q)))] [.ref (ad (10 + q.toNat))]
  refine zr_astore X 7 [(5, .ref (ad (10 + q.toNat))), (0, .ref (ad 1)), (1, .int (zI (q))), (2, .int (zI (a))), (3, .int (zI (b))), (4, .int (zI (q)))] dX6_part_5 rfl (by decide) rfl ?_
  refine zr_aload_n X 8 1 dX6_part_7 rfl rfl ?_
  refine zr_iload X 10 5 dX6_part_8 rfl rfl ?_
  refine zr_callVN (kc' := (2 - 1) - 1) (ks' := (12 - 6) - 6) X Y 13 1 (m_X6_windowOf l hlt Γ hS (q := q) (by omega)) gX6_part_X6_windowOf rfl (by decide +kernel) rfl (by decide) hx1 rfl rfl (Nat.le_of_ble_eq_true rfl) dX6_part_10 rfl (by omega) (by omega) (fun E W hX => ⟨hX.2.2, Or.inl ⟨hX.1, by have := hX.2.1; omega⟩⟩) (fun rv6 V7 hp8 => ?_)
  obtain ⟨hp8a, hp8b, hp8c⟩ := hp8
  rw [hp8b, hp8c]
  have hw9 := hS.w (i := q.toNat) (by omega)
  have hw9r := hw9.rg
  show zG C V ((2 - 1) - 1) ((12 - 6) - 6) 13 [(5, .ref (ad (10 + q.toNat))), (0, .ref (ad 1)), (1, .int (zI (q))), (2, .int (zI (a))), (3, .int (zI (b))), (4, .int (zI (q)))] [.ref (ad (10 + q.toNat))]
  refine zr_astore X 15 [(6, .ref (ad (10 + q.toNat))), (5, .ref (ad (10 + q.toNat))), (0, .ref (ad 1)), (1, .int (zI (q))), (2, .int (zI (a))), (3, .int (zI (b))), (4, .int (zI (q)))] dX6_part_13 rfl (by decide) rfl ?_
  refine zr_iload_n X 16 4 dX6_part_15 rfl rfl ?_
  refine zr_iload_n X 17 5 dX6_part_16 rfl rfl ?_
  refine zr_aload X 19 1 dX6_part_17 rfl rfl ?_
  refine zr_callVe (kc' := ((2 - 1) - 1)) (ks' := ((12 - 6) - 6)) X 22 0 (e_size l Γ hw9) gX6_part_X5_size rfl (by decide +kernel) rfl (by decide) hw9.cl rfl rfl (Nat.le_of_ble_eq_true rfl) dX6_part_19 rfl (by omega) (by omega) (fun rv10 V11 hp12 => ?_)
  rw [hp12.1, hp12.2]
  show zG C V ((2 - 1) - 1) ((12 - 6) - 6) 22 [(6, .ref (ad (10 + q.toNat))), (5, .ref (ad (10 + q.toNat))), (0, .ref (ad 1)), (1, .int (zI (q))), (2, .int (zI (a))), (3, .int (zI (b))), (4, .int (zI (q)))] [.int (zI ((σ (4 * q.toNat + 1)) - (σ (4 * q.toNat + 2)))), .int (zI (b)), .int (zI (a))]
  refine zr_callS (kc' := ((2 - 1) - 1)) (ks' := ((12 - 6) - 6)) X 25 3 (m_X6_isStretch l Γ (V := V) (a := a) (b := b) (n := (σ (4 * q.toNat + 1)) - (σ (4 * q.toNat + 2))) (by omega) (by omega) (by omega)) gX6_part_X6_isStretch rfl (by decide +kernel) rfl (by decide) rfl (Nat.le_of_ble_eq_true rfl) dX6_part_22 rfl (by omega) (by omega) (fun rv13 V14 hp15 => ?_)
  obtain ⟨⟨x16, x16e, x16a⟩, x16v⟩ := hp15
  rw [x16e, x16v]
  show zG C V ((2 - 1) - 1) ((12 - 6) - 6) 25 [(6, .ref (ad (10 + q.toNat))), (5, .ref (ad (10 + q.toNat))), (0, .ref (ad 1)), (1, .int (zI (q))), (2, .int (zI (a))), (3, .int (zI (b))), (4, .int (zI (q)))] [.int (zI (x16))]
  refine zr_if_ne X 33 28 dX6_part_25 rfl rfl (by omega) (fun bq17 => ?_) (fun bq17 => ?_)
  · refine zr_aload X 35 0 dX6_part_33 rfl rfl ?_
    refine zr_aload X 37 1 dX6_part_35 rfl rfl ?_
    refine zr_iload_n X 38 4 dX6_part_37 rfl rfl ?_
    refine zr_iload_n X 39 5 dX6_part_38 rfl rfl ?_
    refine zr_callVe (kc' := ((2 - 1) - 1)) (ks' := ((12 - 6) - 6)) X 42 3 (k_part_eq l Γ hS (i := q.toNat) (by omega) (a := a) (b := b) (by omega)) gX6_part_X5_becomePart rfl (by decide +kernel) rfl (by decide) hw9.cl rfl rfl (Nat.le_of_ble_eq_true rfl) dX6_part_39 rfl (by omega) (by omega) (fun rv18 V19 hp20 => ?_)
    obtain ⟨hp20e, hS21, fx22, hp20z⟩ := hp20
    rw [hp20e]
    have hw23 := hp20z.1
    obtain ⟨σ24, σ24e⟩ : ∃ zz9 : Nat → Int, zz9 = zf (zw4 σ q.toNat (σ (4 * q.toNat)) (σ (4 * q.toNat + 2) + b) (σ (4 * q.toNat + 2) + a) (σ (4 * q.toNat + 2) + a)) (40 + q.toNat) (σ (40 + q.toNat)) := ⟨_, rfl⟩
    rw [← σ24e] at hS21
    have hx25 : V19 (ad 1) = some (1, .inr (7, [.ref (ad 2), .ref (ad 20), .ref (ad 22), .ref (ad 24), .ref (ad 16), .ref (ad 31), .ref (ad 33), .ref (ad 35), .ref (ad 40), .ref (ad 45), .int (zI (σ24 30)), .int (zI (σ24 31)), .int (zI (σ24 32)), .int (zI (σ24 33))])) := hS21.1
    show zG C V19 ((2 - 1) - 1) ((12 - 6) - 6) 42 [(6, .ref (ad (10 + q.toNat))), (5, .ref (ad (10 + q.toNat))), (0, .ref (ad 1)), (1, .int (zI (q))), (2, .int (zI (a))), (3, .int (zI (b))), (4, .int (zI (q)))] []
    refine zr_aload_n X 43 2 dX6_part_42 rfl rfl ?_
    refine zr_aload X 45 0 dX6_part_43 rfl rfl ?_
    refine zr_callVe (kc' := ((2 - 1) - 1)) (ks' := ((12 - 6) - 6)) X 48 0 (e_size l Γ hw23) gX6_part_X5_size rfl (by decide +kernel) rfl (by decide) hw23.cl rfl rfl (Nat.le_of_ble_eq_true rfl) dX6_part_45 rfl (by omega) (by omega) (fun rv26 V27 hp28 => ?_)
    rw [hp28.1, hp28.2]
    show zG C V19 ((2 - 1) - 1) ((12 - 6) - 6) 48 [(6, .ref (ad (10 + q.toNat))), (5, .ref (ad (10 + q.toNat))), (0, .ref (ad 1)), (1, .int (zI (q))), (2, .int (zI (a))), (3, .int (zI (b))), (4, .int (zI (q)))] [.int (zI ((σ (4 * q.toNat + 2) + b) - (σ (4 * q.toNat + 2) + a))), .ref (ad 1)]
    refine zr_callVe (kc' := ((2 - 1) - 1)) (ks' := ((12 - 6) - 6)) X 51 1 (m_X6_done l Γ hS21) gX6_part_X6_done rfl (by decide +kernel) rfl (by decide) hS21.x rfl rfl (Nat.le_of_ble_eq_true rfl) dX6_part_48 rfl (by omega) (by omega) (fun rv29 V30 hp31 => ?_)
    obtain ⟨hp31e, hS32, fx33⟩ := hp31
    rw [hp31e]
    obtain ⟨σ34, σ34e⟩ : ∃ zz9 : Nat → Int, zz9 = zdn σ24 := ⟨_, rfl⟩
    rw [← σ34e] at hS32
    have fx35 := zag.tr fx22 fx33
    have hx36 : V30 (ad 1) = some (1, .inr (7, [.ref (ad 2), .ref (ad 20), .ref (ad 22), .ref (ad 24), .ref (ad 16), .ref (ad 31), .ref (ad 33), .ref (ad 35), .ref (ad 40), .ref (ad 45), .int (zI (σ34 30)), .int (zI (σ34 31)), .int (zI (σ34 32)), .int (zI (σ34 33))])) := hS32.1
    show zG C V30 ((2 - 1) - 1) ((12 - 6) - 6) 51 [(6, .ref (ad (10 + q.toNat))), (5, .ref (ad (10 + q.toNat))), (0, .ref (ad 1)), (1, .int (zI (q))), (2, .int (zI (a))), (3, .int (zI (b))), (4, .int (zI (q)))] [.int (zI ((σ (4 * q.toNat + 2) + b) - (σ (4 * q.toNat + 2) + a)))]
    exact zr_iret X rfl ⟨(σ (4 * q.toNat + 2) + b) - (σ (4 * q.toNat + 2) + a), σ34, rfl, hS32, fx35, ⟨by omega, Or.inr ⟨by omega, rfl, by rw [σ34e, σ24e]⟩⟩⟩ dX6_part_51
  · refine zr_aload_n X 29 2 dX6_part_28 rfl rfl ?_
    refine zr_callVe (kc' := ((2 - 1) - 1)) (ks' := ((12 - 6) - 6)) X 32 0 (m_X6_refused l Γ hS) gX6_part_X6_refused rfl (by decide +kernel) rfl (by decide) hS.x rfl rfl (Nat.le_of_ble_eq_true rfl) dX6_part_29 rfl (by omega) (by omega) (fun rv37 V38 hp39 => ?_)
    obtain ⟨hp39e, hS40, fx41⟩ := hp39
    rw [hp39e]
    obtain ⟨σ42, σ42e⟩ : ∃ zz9 : Nat → Int, zz9 = zrf σ := ⟨_, rfl⟩
    rw [← σ42e] at hS40
    have hx43 : V38 (ad 1) = some (1, .inr (7, [.ref (ad 2), .ref (ad 20), .ref (ad 22), .ref (ad 24), .ref (ad 16), .ref (ad 31), .ref (ad 33), .ref (ad 35), .ref (ad 40), .ref (ad 45), .int (zI (σ42 30)), .int (zI (σ42 31)), .int (zI (σ42 32)), .int (zI (σ42 33))])) := hS40.1
    show zG C V38 ((2 - 1) - 1) ((12 - 6) - 6) 32 [(6, .ref (ad (10 + q.toNat))), (5, .ref (ad (10 + q.toNat))), (0, .ref (ad 1)), (1, .int (zI (q))), (2, .int (zI (a))), (3, .int (zI (b))), (4, .int (zI (q)))] [.int (zI (-9))]
    exact zr_iret X rfl ⟨-9, σ42, rfl, hS40, fx41, ⟨by omega, Or.inl ⟨by omega, rfl, by rw [σ42e]⟩⟩⟩ dX6_part_32
set_option maxRecDepth 100000 in
set_option maxHeartbeats 4000000 in
theorem m_X6_put (l : Launch) (hlt : l.stackTraces = false) (Γ : zGam) {V : zV} {ad : Nat → Nat} {σ : Nat → Int} {q x : Int} (hS : zS Γ V ad σ) (hq : -2147483648 ≤ q ∧ q ≤ 2147483647) (hx : -2147483648 ≤ x ∧ x ≤ 2147483647) : zN l Γ 8 yX6_put wsX6_put 2 12 V [.ref (ad 1), .int (zI (q)), .int (zI (x))] (fun rv V' => ∃ (y : Int) (σ' : Nat → Int), rv = some (.int (zI y)) ∧ zS Γ V' ad σ' ∧ zfx V V' ∧ ((0 ≤ q ∧ q < 6 ∧ 0 ≤ x ∧ x ≤ 255) ∧ ((¬ σ (4 * q.toNat + 2) < σ (4 * q.toNat + 1) ∧ y = -9 ∧ σ' = zrf σ) ∨ (σ (4 * q.toNat + 2) < σ (4 * q.toNat + 1) ∧ y = σ (4 * q.toNat + 1) - (σ (4 * q.toNat + 2) + 1) ∧ σ' = zdn (zf (zw4 σ q.toNat (σ (4 * q.toNat)) (σ (4 * q.toNat + 1)) (σ (4 * q.toNat + 2) + 1) (σ (4 * q.toNat + 3))) (zTp (σ (40 + q.toNat) + σ (4 * q.toNat + 2))) x))))) (fun E V' => V' = V ∧ ((E = zIO ∧ ¬ (0 ≤ q ∧ q < 6)) ∨ (E = zIA ∧ (0 ≤ q ∧ q < 6) ∧ ¬ (0 ≤ x ∧ x ≤ 255)))) := by
  refine zN_of (cc := cX6_put) (nL := 4) (ret := (some .int)) (own := RX6) hlt (by decide +kernel) rfl rfl (Nat.le_of_ble_eq_true rfl) (fun C X Y => ?_)
  have hx1 : V (ad 1) = some (1, .inr (7, [.ref (ad 2), .ref (ad 20), .ref (ad 22), .ref (ad 24), .ref (ad 16), .ref (ad 31), .ref (ad 33), .ref (ad 35), .ref (ad 40), .ref (ad 45), .int (zI (σ 30)), .int (zI (σ 31)), .int (zI (σ 32)), .int (zI (σ 33))])) := hS.1
  show zG C V 2 12 0 [(0, .ref (ad 1)), (1, .int (zI (q))), (2, .int (zI (x)))] []
  refine zr_aload_n X 1 0 dX6_put_0 rfl rfl ?_
  refine zr_iload_n X 2 1 dX6_put_1 rfl rfl ?_
  refine zr_callVN (kc' := 2 - 1) (ks' := 12 - 6) X Y 5 1 (m_X6_windowOf l hlt Γ hS (q := q) (by omega)) gX6_put_X6_windowOf rfl (by decide +kernel) rfl (by decide) hx1 rfl rfl (Nat.le_of_ble_eq_true rfl) dX6_put_2 rfl (by omega) (by omega) (fun E W hX => ⟨hX.2.2, Or.inl ⟨hX.1, by have := hX.2.1; omega⟩⟩) (fun rv2 V3 hp4 => ?_)
  obtain ⟨hp4a, hp4b, hp4c⟩ := hp4
  rw [hp4b, hp4c]
  have hw5 := hS.w (i := q.toNat) (by omega)
  have hw5r := hw5.rg
  show zG C V (2 - 1) (12 - 6) 5 [(0, .ref (ad 1)), (1, .int (zI (q))), (2, .int (zI (x)))] [.ref (ad (10 + q.toNat))]
  refine zr_astore_n X 6 [(3, .ref (ad (10 + q.toNat))), (0, .ref (ad 1)), (1, .int (zI (q))), (2, .int (zI (x)))] dX6_put_5 rfl (by decide) rfl ?_
  refine zr_iload_n X 7 3 dX6_put_6 rfl rfl ?_
  refine zr_iconst X 8 dX6_put_7 rfl ?_
  refine zr_sipush X 11 (255) dX6_put_8 rfl (by decide) ?_
  refine zr_callSN (kc' := (2 - 1) - 1) (ks' := (12 - 6) - 6) X Y 14 3 (m_X6_requireWithin l hlt Γ (V := V) (x := x) (a := 0) (b := 255) (by omega) (by omega) (by omega)) gX6_put_X6_requireWithin rfl (by decide +kernel) rfl (by decide) rfl (Nat.le_of_ble_eq_true rfl) dX6_put_11 rfl (by omega) (by omega) (fun E W hX => ⟨hX.2.2, Or.inr ⟨hX.1, by have := hX.2.1; omega⟩⟩) (fun rv6 V7 hp8 => ?_)
  obtain ⟨hp8a, hp8b, hp8c⟩ := hp8
  rw [hp8b, hp8c]
  show zG C V ((2 - 1) - 1) ((12 - 6) - 6) 14 [(3, .ref (ad (10 + q.toNat))), (0, .ref (ad 1)), (1, .int (zI (q))), (2, .int (zI (x)))] []
  refine zr_aload_n X 15 0 dX6_put_14 rfl rfl ?_
  refine zr_iload_n X 16 3 dX6_put_15 rfl rfl ?_
  by_cases wr9 : σ (4 * q.toNat + 2) < σ (4 * q.toNat + 1)
  · skip
    refine zr_callVe (kc' := ((2 - 1) - 1)) (ks' := ((12 - 6) - 6)) X 19 1 (k_write_y l Γ hS (i := q.toNat) (by omega) (x := x) (by omega) (by omega)) gX6_put_X5_writeSign rfl (by decide +kernel) rfl (by decide) hw5.cl rfl rfl (Nat.le_of_ble_eq_true rfl) dX6_put_16 rfl (by omega) (by omega) (fun rv10 V11 hp12 => ?_)
    obtain ⟨hp12e, hS13, fx14, hp12z⟩ := hp12
    rw [hp12e]
    have hw15 := hp12z.1
    obtain ⟨σ16, σ16e⟩ : ∃ zz9 : Nat → Int, zz9 = zf (zw4 σ q.toNat (σ (4 * q.toNat)) (σ (4 * q.toNat + 1)) (σ (4 * q.toNat + 2) + 1) (σ (4 * q.toNat + 3))) (zTp (σ (40 + q.toNat) + (σ (4 * q.toNat + 2)))) (x) := ⟨_, rfl⟩
    rw [← σ16e] at hS13
    have hx17 : V11 (ad 1) = some (1, .inr (7, [.ref (ad 2), .ref (ad 20), .ref (ad 22), .ref (ad 24), .ref (ad 16), .ref (ad 31), .ref (ad 33), .ref (ad 35), .ref (ad 40), .ref (ad 45), .int (zI (σ16 30)), .int (zI (σ16 31)), .int (zI (σ16 32)), .int (zI (σ16 33))])) := hS13.1
    show zG C V11 ((2 - 1) - 1) ((12 - 6) - 6) 19 [(3, .ref (ad (10 + q.toNat))), (0, .ref (ad 1)), (1, .int (zI (q))), (2, .int (zI (x)))] [.int (zI (1))]
    refine zr_if_eq X 33 22 dX6_put_19 rfl rfl (by omega) (fun bq18 => absurd bq18 (by omega)) (fun bq18 => ?_)
    refine zr_aload_n X 23 1 dX6_put_22 rfl rfl ?_
    refine zr_aload_n X 24 0 dX6_put_23 rfl rfl ?_
    refine zr_callVe (kc' := ((2 - 1) - 1)) (ks' := ((12 - 6) - 6)) X 27 0 (e_size l Γ hw15) gX6_put_X5_size rfl (by decide +kernel) rfl (by decide) hw15.cl rfl rfl (Nat.le_of_ble_eq_true rfl) dX6_put_24 rfl (by omega) (by omega) (fun rv19 V20 hp21 => ?_)
    rw [hp21.1, hp21.2]
    show zG C V11 ((2 - 1) - 1) ((12 - 6) - 6) 27 [(3, .ref (ad (10 + q.toNat))), (0, .ref (ad 1)), (1, .int (zI (q))), (2, .int (zI (x)))] [.int (zI ((σ (4 * q.toNat + 1)) - (σ (4 * q.toNat + 2) + 1))), .ref (ad 1)]
    refine zr_callVe (kc' := ((2 - 1) - 1)) (ks' := ((12 - 6) - 6)) X 30 1 (m_X6_done l Γ hS13) gX6_put_X6_done rfl (by decide +kernel) rfl (by decide) hS13.x rfl rfl (Nat.le_of_ble_eq_true rfl) dX6_put_27 rfl (by omega) (by omega) (fun rv22 V23 hp24 => ?_)
    obtain ⟨hp24e, hS25, fx26⟩ := hp24
    rw [hp24e]
    obtain ⟨σ27, σ27e⟩ : ∃ zz9 : Nat → Int, zz9 = zdn σ16 := ⟨_, rfl⟩
    rw [← σ27e] at hS25
    have fx28 := zag.tr fx14 fx26
    have hx29 : V23 (ad 1) = some (1, .inr (7, [.ref (ad 2), .ref (ad 20), .ref (ad 22), .ref (ad 24), .ref (ad 16), .ref (ad 31), .ref (ad 33), .ref (ad 35), .ref (ad 40), .ref (ad 45), .int (zI (σ27 30)), .int (zI (σ27 31)), .int (zI (σ27 32)), .int (zI (σ27 33))])) := hS25.1
    show zG C V23 ((2 - 1) - 1) ((12 - 6) - 6) 30 [(3, .ref (ad (10 + q.toNat))), (0, .ref (ad 1)), (1, .int (zI (q))), (2, .int (zI (x)))] [.int (zI ((σ (4 * q.toNat + 1)) - (σ (4 * q.toNat + 2) + 1)))]
    refine zr_goto X 37 dX6_put_30 rfl ?_
    exact zr_iret X rfl ⟨(σ (4 * q.toNat + 1)) - (σ (4 * q.toNat + 2) + 1), σ27, rfl, hS25, fx28, ⟨by omega, Or.inr ⟨by omega, rfl, by rw [σ27e, σ16e]⟩⟩⟩ dX6_put_37
  · skip
    refine zr_callVe (kc' := ((2 - 1) - 1)) (ks' := ((12 - 6) - 6)) X 19 1 (e_write_n l Γ hw5 (x := x) wr9) gX6_put_X5_writeSign rfl (by decide +kernel) rfl (by decide) hw5.cl rfl rfl (Nat.le_of_ble_eq_true rfl) dX6_put_16 rfl (by omega) (by omega) (fun rv30 V31 hp32 => ?_)
    rw [hp32.1, hp32.2]
    show zG C V ((2 - 1) - 1) ((12 - 6) - 6) 19 [(3, .ref (ad (10 + q.toNat))), (0, .ref (ad 1)), (1, .int (zI (q))), (2, .int (zI (x)))] [.int (zI (0))]
    refine zr_if_eq X 33 22 dX6_put_19 rfl rfl (by omega) (fun bq33 => ?_) (fun bq33 => absurd bq33 (by omega))
    refine zr_aload_n X 34 1 dX6_put_33 rfl rfl ?_
    refine zr_callVe (kc' := ((2 - 1) - 1)) (ks' := ((12 - 6) - 6)) X 37 0 (m_X6_refused l Γ hS) gX6_put_X6_refused rfl (by decide +kernel) rfl (by decide) hS.x rfl rfl (Nat.le_of_ble_eq_true rfl) dX6_put_34 rfl (by omega) (by omega) (fun rv34 V35 hp36 => ?_)
    obtain ⟨hp36e, hS37, fx38⟩ := hp36
    rw [hp36e]
    obtain ⟨σ39, σ39e⟩ : ∃ zz9 : Nat → Int, zz9 = zrf σ := ⟨_, rfl⟩
    rw [← σ39e] at hS37
    have hx40 : V35 (ad 1) = some (1, .inr (7, [.ref (ad 2), .ref (ad 20), .ref (ad 22), .ref (ad 24), .ref (ad 16), .ref (ad 31), .ref (ad 33), .ref (ad 35), .ref (ad 40), .ref (ad 45), .int (zI (σ39 30)), .int (zI (σ39 31)), .int (zI (σ39 32)), .int (zI (σ39 33))])) := hS37.1
    show zG C V35 ((2 - 1) - 1) ((12 - 6) - 6) 37 [(3, .ref (ad (10 + q.toNat))), (0, .ref (ad 1)), (1, .int (zI (q))), (2, .int (zI (x)))] [.int (zI (-9))]
    exact zr_iret X rfl ⟨-9, σ39, rfl, hS37, fx38, ⟨by omega, Or.inl ⟨by omega, rfl, by rw [σ39e]⟩⟩⟩ dX6_put_37
set_option maxRecDepth 100000 in
set_option maxHeartbeats 4000000 in
theorem m_X6_get (l : Launch) (hlt : l.stackTraces = false) (Γ : zGam) {V : zV} {ad : Nat → Nat} {σ : Nat → Int} {q : Int} (hS : zS Γ V ad σ) (hq : -2147483648 ≤ q ∧ q ≤ 2147483647) : zN l Γ 8 yX6_get wsX6_get 2 12 V [.ref (ad 1), .int (zI (q))] (fun rv V' => ∃ (y : Int) (σ' : Nat → Int), rv = some (.int (zI y)) ∧ zS Γ V' ad σ' ∧ zfx V V' ∧ ((0 ≤ q ∧ q < 6) ∧ ((¬ σ (4 * q.toNat + 2) < σ (4 * q.toNat + 1) ∧ y = -9 ∧ σ' = zrf σ) ∨ (σ (4 * q.toNat + 2) < σ (4 * q.toNat + 1) ∧ y = σ (zTp (σ (40 + q.toNat) + σ (4 * q.toNat + 2))) ∧ σ' = zdn (zw4 σ q.toNat (σ (4 * q.toNat)) (σ (4 * q.toNat + 1)) (σ (4 * q.toNat + 2) + 1) (σ (4 * q.toNat + 3))))))) (fun E V' => V' = V ∧ ((E = zIO ∧ ¬ (0 ≤ q ∧ q < 6)) ∨ (E = zIA ∧ False))) := by
  refine zN_of (cc := cX6_get) (nL := 3) (ret := (some .int)) (own := RX6) hlt (by decide +kernel) rfl rfl (Nat.le_of_ble_eq_true rfl) (fun C X Y => ?_)
  have hx1 : V (ad 1) = some (1, .inr (7, [.ref (ad 2), .ref (ad 20), .ref (ad 22), .ref (ad 24), .ref (ad 16), .ref (ad 31), .ref (ad 33), .ref (ad 35), .ref (ad 40), .ref (ad 45), .int (zI (σ 30)), .int (zI (σ 31)), .int (zI (σ 32)), .int (zI (σ 33))])) := hS.1
  show zG C V 2 12 0 [(0, .ref (ad 1)), (1, .int (zI (q)))] []
  refine zr_aload_n X 1 0 dX6_get_0 rfl rfl ?_
  refine zr_iload_n X 2 1 dX6_get_1 rfl rfl ?_
  refine zr_callVN (kc' := 2 - 1) (ks' := 12 - 6) X Y 5 1 (m_X6_windowOf l hlt Γ hS (q := q) (by omega)) gX6_get_X6_windowOf rfl (by decide +kernel) rfl (by decide) hx1 rfl rfl (Nat.le_of_ble_eq_true rfl) dX6_get_2 rfl (by omega) (by omega) (fun E W hX => ⟨hX.2.2, Or.inl ⟨hX.1, by have := hX.2.1; omega⟩⟩) (fun rv2 V3 hp4 => ?_)
  obtain ⟨hp4a, hp4b, hp4c⟩ := hp4
  rw [hp4b, hp4c]
  have hw5 := hS.w (i := q.toNat) (by omega)
  have hw5r := hw5.rg
  show zG C V (2 - 1) (12 - 6) 5 [(0, .ref (ad 1)), (1, .int (zI (q)))] [.ref (ad (10 + q.toNat))]
  refine zr_astore_n X 6 [(2, .ref (ad (10 + q.toNat))), (0, .ref (ad 1)), (1, .int (zI (q)))] dX6_get_5 rfl (by decide) rfl ?_
  refine zr_aload_n X 7 0 dX6_get_6 rfl rfl ?_
  refine zr_callVe (kc' := (2 - 1)) (ks' := (12 - 6)) X 10 0 (e_size l Γ hw5) gX6_get_X5_size rfl (by decide +kernel) rfl (by decide) hw5.cl rfl rfl (Nat.le_of_ble_eq_true rfl) dX6_get_7 rfl (by omega) (by omega) (fun rv6 V7 hp8 => ?_)
  rw [hp8.1, hp8.2]
  show zG C V (2 - 1) (12 - 6) 10 [(2, .ref (ad (10 + q.toNat))), (0, .ref (ad 1)), (1, .int (zI (q)))] [.int (zI ((σ (4 * q.toNat + 1)) - (σ (4 * q.toNat + 2))))]
  refine zr_if_ne X 18 13 dX6_get_10 rfl rfl (by omega) (fun bq9 => ?_) (fun bq9 => ?_)
  · refine zr_aload_n X 19 1 dX6_get_18 rfl rfl ?_
    refine zr_aload_n X 20 0 dX6_get_19 rfl rfl ?_
    refine zr_callVe (kc' := (2 - 1)) (ks' := (12 - 6)) X 23 0 (k_read l Γ hS (i := q.toNat) (by omega) (by omega)) gX6_get_X5_readSign rfl (by decide +kernel) rfl (by decide) hw5.cl rfl rfl (Nat.le_of_ble_eq_true rfl) dX6_get_20 rfl (by omega) (by omega) (fun rv10 V11 hp12 => ?_)
    have rg13 := hS.rng (i := q.toNat) (by omega) (k := σ (4 * q.toNat + 2)) (by omega)
    obtain ⟨hp12e, hS14, fx15, hp12z⟩ := hp12
    rw [hp12e]
    have hw16 := hp12z.1
    obtain ⟨σ17, σ17e⟩ : ∃ zz9 : Nat → Int, zz9 = zw4 σ q.toNat (σ (4 * q.toNat)) (σ (4 * q.toNat + 1)) (σ (4 * q.toNat + 2) + 1) (σ (4 * q.toNat + 3)) := ⟨_, rfl⟩
    rw [← σ17e] at hS14
    have hx18 : V11 (ad 1) = some (1, .inr (7, [.ref (ad 2), .ref (ad 20), .ref (ad 22), .ref (ad 24), .ref (ad 16), .ref (ad 31), .ref (ad 33), .ref (ad 35), .ref (ad 40), .ref (ad 45), .int (zI (σ17 30)), .int (zI (σ17 31)), .int (zI (σ17 32)), .int (zI (σ17 33))])) := hS14.1
    show zG C V11 (2 - 1) (12 - 6) 23 [(2, .ref (ad (10 + q.toNat))), (0, .ref (ad 1)), (1, .int (zI (q)))] [.int (zI (σ (zTp (σ (40 + q.toNat) + (σ (4 * q.toNat + 2)))))), .ref (ad 1)]
    refine zr_callVe (kc' := (2 - 1)) (ks' := (12 - 6)) X 26 1 (m_X6_done l Γ hS14) gX6_get_X6_done rfl (by decide +kernel) rfl (by decide) hS14.x rfl rfl (Nat.le_of_ble_eq_true rfl) dX6_get_23 rfl (by omega) (by omega) (fun rv19 V20 hp21 => ?_)
    obtain ⟨hp21e, hS22, fx23⟩ := hp21
    rw [hp21e]
    obtain ⟨σ24, σ24e⟩ : ∃ zz9 : Nat → Int, zz9 = zdn σ17 := ⟨_, rfl⟩
    rw [← σ24e] at hS22
    have fx25 := zag.tr fx15 fx23
    have hx26 : V20 (ad 1) = some (1, .inr (7, [.ref (ad 2), .ref (ad 20), .ref (ad 22), .ref (ad 24), .ref (ad 16), .ref (ad 31), .ref (ad 33), .ref (ad 35), .ref (ad 40), .ref (ad 45), .int (zI (σ24 30)), .int (zI (σ24 31)), .int (zI (σ24 32)), .int (zI (σ24 33))])) := hS22.1
    show zG C V20 (2 - 1) (12 - 6) 26 [(2, .ref (ad (10 + q.toNat))), (0, .ref (ad 1)), (1, .int (zI (q)))] [.int (zI (σ (zTp (σ (40 + q.toNat) + (σ (4 * q.toNat + 2))))))]
    exact zr_iret X rfl ⟨σ (zTp (σ (40 + q.toNat) + (σ (4 * q.toNat + 2)))), σ24, rfl, hS22, fx25, ⟨by omega, Or.inr ⟨by omega, rfl, by rw [σ24e, σ17e]⟩⟩⟩ dX6_get_26
  · refine zr_aload_n X 14 1 dX6_get_13 rfl rfl ?_
    refine zr_callVe (kc' := (2 - 1)) (ks' := (12 - 6)) X 17 0 (m_X6_refused l Γ hS) gX6_get_X6_refused rfl (by decide +kernel) rfl (by decide) hS.x rfl rfl (Nat.le_of_ble_eq_true rfl) dX6_get_14 rfl (by omega) (by omega) (fun rv27 V28 hp29 => ?_)
    obtain ⟨hp29e, hS30, fx31⟩ := hp29
    rw [hp29e]
    obtain ⟨σ32, σ32e⟩ : ∃ zz9 : Nat → Int, zz9 = zrf σ := ⟨_, rfl⟩
    rw [← σ32e] at hS30
    have hx33 : V28 (ad 1) = some (1, .inr (7, [.ref (ad 2), .ref (ad 20), .ref (ad 22), .ref (ad 24), .ref (ad 16), .ref (ad 31), .ref (ad 33), .ref (ad 35), .ref (ad 40), .ref (ad 45), .int (zI (σ32 30)), .int (zI (σ32 31)), .int (zI (σ32 32)), .int (zI (σ32 33))])) := hS30.1
    show zG C V28 (2 - 1) (12 - 6) 17 [(2, .ref (ad (10 + q.toNat))), (0, .ref (ad 1)), (1, .int (zI (q)))] [.int (zI (-9))]
    exact zr_iret X rfl ⟨-9, σ32, rfl, hS30, fx31, ⟨by omega, Or.inl ⟨by omega, rfl, by rw [σ32e]⟩⟩⟩ dX6_get_17
