/-! Sashwords: chain, soundness, checksum -/
set_option maxRecDepth 100000 in
set_option maxHeartbeats 4000000 in
theorem m_X6_chain (l : Launch) (hlt : l.stackTraces = false) (Γ : zGam) {V : zV} {ad : Nat → Nat} {σ : Nat → Int} {q : Int} (hS : zS Γ V ad σ) (hq : -2147483648 ≤ q ∧ q ≤ 2147483647) : zN l Γ 10 yX6_chain wsX6_chain 3010 6300 V [.ref (ad 1), .int (zI (q))] (fun rv V' => ∃ (z : Nat) (σ' : Nat → Int), rv = some (.ref z) ∧ zS Γ V' ad σ' ∧ zfx V V' ∧ ((0 ≤ q ∧ q ≤ 7) ∧ σ' = σ)) (fun E V' => V' = V ∧ ((E = zIO ∧ ¬ (0 ≤ q ∧ q ≤ 7)) ∨ (E = zIA ∧ False))) := by
  have w0 : Cond.fieldLink RX6 58 "Sashwords" "table" "LSashwords$Borders;" ∈ wsX6_chain := by decide +kernel
  have iX6 : ∀ w ∈ u_ws RX6 TX6 14, w ∈ wsX6_chain := by decide +kernel
  have w2 : Cond.classLink RX6 113 RJ4 ∈ wsX6_chain := by decide +kernel
  have w3 : Cond.instantiable RJ4 4 ∈ wsX6_chain := by decide +kernel
  have w4 : Cond.initialized RJ4 ∈ wsX6_chain := by decide +kernel
  have iJ4 : ∀ w ∈ u_ws RJ4 TJ4 4, w ∈ wsX6_chain := by decide +kernel
  have w6 : Cond.initialized yJ4_init_da8c8.cls ∈ wsX6_chain := by decide +kernel
  have w7 : Cond.methodLink RX6 115 yJ4_init_da8c8 ∈ wsX6_chain := by decide +kernel
  have w8 : Cond.instanceMethod yJ4_init_da8c8 ∈ wsX6_chain := by decide +kernel
  have iX0 : ∀ w ∈ u_ws RX0 TX0 3, w ∈ wsX6_chain := by decide +kernel
  refine zN_of (cc := cX6_chain) (nL := 4) (ret := (some (.object "java/lang/String"))) (own := RX6) hlt (by decide +kernel) rfl rfl (Nat.le_of_ble_eq_true rfl) (fun C X Y => ?_)
  have hx1 : V (ad 1) = some (1, .inr (7, [.ref (ad 2), .ref (ad 20), .ref (ad 22), .ref (ad 24), .ref (ad 16), .ref (ad 31), .ref (ad 33), .ref (ad 35), .ref (ad 40), .ref (ad 45), .int (zI (σ 30)), .int (zI (σ 31)), .int (zI (σ 32)), .int (zI (σ 33))])) := hS.1
  show zG C V 3010 6300 0 [(0, .ref (ad 1)), (1, .int (zI (q)))] []
  refine zr_aload_n X 1 0 dX6_chain_0 rfl rfl ?_
  refine zr_get X 4 7 9 hx1 rfl iX6 (by decide) w0 rfl rfl dX6_chain_1 rfl ?_
  refine zr_aload_n X 5 0 dX6_chain_4 rfl rfl ?_
  refine zr_iload_n X 6 1 dX6_chain_5 rfl rfl ?_
  refine zr_callVN (kc' := 3010 - 1) (ks' := 6300 - 6) X Y 9 1 (m_X6_sourceOf l hlt Γ hS (q := q) (by omega)) gX6_chain_X6_sourceOf rfl (by decide +kernel) rfl (by decide) hx1 rfl rfl (Nat.le_of_ble_eq_true rfl) dX6_chain_6 rfl (by omega) (by omega) (fun E W hX => ⟨hX.2.2, Or.inl ⟨hX.1, by have := hX.2.1; omega⟩⟩) (fun rv2 V3 hp4 => ?_)
  obtain ⟨hp4a, hp4b, hp4c⟩ := hp4
  rw [hp4b, hp4c]
  obtain ⟨t5r, t5to, t5tr, t5e, t5e2, t5h, t5T, t5o, t5q, t5c, t5a, t5b, t5z⟩ := hS.txt (q := q) (by omega)
  have t5g := t5T.rg
  show zG C V (3010 - 1) (6300 - 6) 9 [(0, .ref (ad 1)), (1, .int (zI (q)))] [.ref (zso ad q), .ref (ad 45)]
  refine zr_callVe (kc' := (3010 - 1)) (ks' := (6300 - 6)) X 12 1 (g_measureChain l Γ hS.2.2.2.2.2.2.2.2.2.2 t5T t5o t5q (by omega) (by omega)) gX6_chain_X0_measureChain rfl (by decide +kernel) rfl (by decide) hS.2.2.2.2.2.2.2.2.2.2.cl rfl rfl (Nat.le_of_ble_eq_true rfl) dX6_chain_9 rfl (by omega) (by omega) (fun rv6 V7 hp8 => ?_)
  obtain ⟨hp8e, hp8w, hp8g⟩ := hp8
  rw [hp8e]
  obtain ⟨hS9, fx10⟩ := hS.table hp8w hp8g
  have hx11 : V7 (ad 1) = some (1, .inr (7, [.ref (ad 2), .ref (ad 20), .ref (ad 22), .ref (ad 24), .ref (ad 16), .ref (ad 31), .ref (ad 33), .ref (ad 35), .ref (ad 40), .ref (ad 45), .int (zI (σ 30)), .int (zI (σ 31)), .int (zI (σ 32)), .int (zI (σ 33))])) := hS9.1
  have t12o := hp8g _ _ _ t5o (by omega)
  have t12q := hp8g _ _ _ t5q (by omega)
  have t12T := t5T.kept (t12o.trans t5o.symm) (t12q.trans t5q.symm)
  have t12c := t5c
  have t12g := t12T.rg
  show zG C V7 (3010 - 1) (6300 - 6) 12 [(0, .ref (ad 1)), (1, .int (zI (q)))] []
  refine zr_new (kc' := ((3010 - 1) - 1)) (ks' := ((6300 - 6) - 4)) X 15 1 7 [.null, .int (zI (0)), .int (zI (0)), .int (zI (0))] tyJ4 rfl iJ4 tyJ4_ok w2 w3 w4 (zdf_J4) dX6_chain_12 rfl (by omega) (by omega) (fun q13 hq14 => ?_)
  refine zr_dup X 16 dX6_chain_15 rfl rfl ?_
  refine zr_callI (kc' := ((3010 - 1) - 1) - 1) (ks' := ((6300 - 6) - 4) - 16) X 19 0 (m_J4_init_da8c8 l Γ (zu_eq _ _ _ _)) gX6_chain_J4_init_da8c8 rfl w6 w7 w8 rfl (by decide +kernel) rfl (by decide) rfl (Nat.le_of_ble_eq_true rfl) dX6_chain_16 rfl (by omega) (by omega) (fun rv15 V16 hp17 => ?_)
  obtain ⟨hp17e, hp17b, hp17f⟩ := hp17
  rw [hp17e]
  have ff18 : zfr V7 V16 := zag.tr (P := fun t => t ≠ 7) (zag.rf.new hq14) hp17f
  obtain ⟨hS19, fx20⟩ := hS9.fr ff18
  have fx21 := zag.tr fx10 fx20
  have hx22 : V16 (ad 1) = some (1, .inr (7, [.ref (ad 2), .ref (ad 20), .ref (ad 22), .ref (ad 24), .ref (ad 16), .ref (ad 31), .ref (ad 33), .ref (ad 35), .ref (ad 40), .ref (ad 45), .int (zI (σ 30)), .int (zI (σ 31)), .int (zI (σ 32)), .int (zI (σ 33))])) := hS19.1
  show zG C V16 (((3010 - 1) - 1) - 1) (((6300 - 6) - 4) - 16) 19 [(0, .ref (ad 1)), (1, .int (zI (q)))] [.ref q13]
  refine zr_astore_n X 20 [(2, .ref q13), (0, .ref (ad 1)), (1, .int (zI (q)))] dX6_chain_19 rfl (by decide) rfl ?_
  refine zr_iconst X 21 dX6_chain_20 rfl ?_
  refine zr_istore_n X 22 [(3, .int (zI (0))), (2, .ref q13), (0, .ref (ad 1)), (1, .int (zI (q)))] dX6_chain_21 rfl (by decide) rfl ?_
  obtain ⟨bo23k, bo23g, bo23f, bo231, bo232, bo233, bo234, bo235, bo236, bo237⟩ := hS19.2.2.2.2.2.2.2.2.2.2
  refine zr_room (3002 - 16) (6200 - 2 * 16) (by omega) (by omega) ?_
  refine zr_sub [0, 1, 3, 2] [(3, .int (zI (0))), (2, .ref q13), (1, .int (zI (q))), (0, .ref (ad 1))] rfl ?_
  have loop : ∀ (N : Nat) (V1 : zV) (k : Int) (cnt : Int) (cap : Nat), zS Γ V1 ad σ ∧ zfx V V1 ∧ zSB Γ V1 q13 cnt cap ∧ V1 (ad 45) = some (45, .inr (2, [.ref (ad 46), .ref (ad 47), .int (zI bo23k)])) ∧ V1 (ad 47) = some (47, za Γ.2.1 0 80 bo23f) ∧ 0 ≤ k ∧ k ≤ bo23k ∧ 0 ≤ cnt ∧ cnt ≤ 5 * k ∧ 16 ≤ cap ∧ cap ≤ 900 → (80 - k).toNat = N → zG C V1 (3002 - cap) (6200 - 2 * cap) 22 [(3, .int (zI (k))), (2, .ref q13), (1, .int (zI (q))), (0, .ref (ad 1))] [] := by
    intro N
    induction N using Nat.strongRecOn with
    | _ N ih =>
    intro V1 k cnt cap hI hN
    obtain ⟨hI1, hI2, hI3, hI4, hI5, hI6, hI7, hI8, hI9, hI10, hI11⟩ := id hI
    have hx24 : V1 (ad 1) = some (1, .inr (7, [.ref (ad 2), .ref (ad 20), .ref (ad 22), .ref (ad 24), .ref (ad 16), .ref (ad 31), .ref (ad 33), .ref (ad 35), .ref (ad 40), .ref (ad 45), .int (zI (σ 30)), .int (zI (σ 31)), .int (zI (σ 32)), .int (zI (σ 33))])) := hI1.1
    refine zr_iload_n X 23 0 dX6_chain_22 rfl rfl ?_
    refine zr_aload_n X 24 3 dX6_chain_23 rfl rfl ?_
    refine zr_get X 27 7 9 hx24 rfl iX6 (by decide) w0 rfl rfl dX6_chain_24 rfl ?_
    refine zr_getN X 30 2 2 7 hI4 rfl iX0 (by decide) rfl rfl rfl dX6_chain_27 rfl ?_
    refine zr_icmp_ge X 57 33 dX6_chain_30 rfl rfl (by omega) (by omega) (fun bq25 => ?_) (fun bq25 => ?_)
    · refine zr_aload_n X 58 1 dX6_chain_57 rfl rfl ?_
      have hp28r := hI3.rg
      refine zr_callVe (kc' := 3002 - cap - 2) (ks' := 6200 - 2 * cap - ((cnt).toNat + 4)) X 61 0 (zsb_str l Γ hI3) gX6_chain_J4_toString_0e30d rfl (by decide +kernel) rfl (by decide) hI3.cl rfl rfl (Nat.le_of_ble_eq_true rfl) dX6_chain_58 rfl (by omega) (by omega) (fun rv26 V27 hp28 => ?_)
      obtain ⟨hp28z, hp28e, hp28n, hp28f⟩ := hp28
      rw [hp28e]
      obtain ⟨hS29, fx30⟩ := hI1.fr hp28f
      have bb311 := hp28f.ag _ _ _ hI4 (by omega)
      have bb313 := hp28f.ag _ _ _ hI5 (by omega)
      have fx32 := zag.tr hI2 fx30
      have hx33 : V27 (ad 1) = some (1, .inr (7, [.ref (ad 2), .ref (ad 20), .ref (ad 22), .ref (ad 24), .ref (ad 16), .ref (ad 31), .ref (ad 33), .ref (ad 35), .ref (ad 40), .ref (ad 45), .int (zI (σ 30)), .int (zI (σ 31)), .int (zI (σ 32)), .int (zI (σ 33))])) := hS29.1
      show zG C V27 (3002 - cap - 2) (6200 - 2 * cap - ((cnt).toNat + 4)) 61 [(3, .int (zI (k))), (2, .ref q13), (1, .int (zI (q))), (0, .ref (ad 1))] [.ref hp28z]
      exact zr_aret X rfl (Or.inl ⟨_, rfl⟩) ⟨_, σ, rfl, hS29, fx32, ⟨by omega, rfl⟩⟩ dX6_chain_61
    · refine zr_aload_n X 34 1 dX6_chain_33 rfl rfl ?_
      refine zr_aload_n X 35 3 dX6_chain_34 rfl rfl ?_
      refine zr_get X 38 7 9 hx24 rfl iX6 (by decide) w0 rfl rfl dX6_chain_35 rfl ?_
      refine zr_iload_n X 39 0 dX6_chain_38 rfl rfl ?_
      refine zr_callVe (kc' := 3002 - cap) (ks' := 6200 - 2 * cap) X 42 1 (m_X0_linkAt l Γ (k := k) hI4 hI5 (by omega)) gX6_chain_X0_linkAt rfl (by decide +kernel) rfl (by decide) ⟨_, _, hI4⟩ rfl rfl (Nat.le_of_ble_eq_true rfl) dX6_chain_39 rfl (by omega) (by omega) (fun rv34 V35 hp36 => ?_)
      rw [hp36.1, hp36.2, if_pos (by omega)]
      have hp36b := bo235 (k).toNat
      show zG C V1 (3002 - cap) (6200 - 2 * cap) 42 [(3, .int (zI (k))), (2, .ref q13), (1, .int (zI (q))), (0, .ref (ad 1))] [.int (zI (bo23f (k).toNat)), .ref q13]
      have gr40r := hI3.rg
      obtain ⟨gr40q, gr40a⟩ : ∃ zq9 : Int, (((bo23f (k).toNat) < 10 ∧ zq9 = 1) ∨ (10 ≤ (bo23f (k).toNat) ∧ (bo23f (k).toNat) < 100 ∧ zq9 = 2) ∨ (100 ≤ (bo23f (k).toNat) ∧ (bo23f (k).toNat) < 1000 ∧ zq9 = 3) ∨ (1000 ≤ (bo23f (k).toNat) ∧ zq9 = 4)) := zdigits (bo23f (k).toNat)
      obtain ⟨gr40p, gr40c, gr40k, gr40⟩ := zgrow cnt gr40q cap ⟨by omega, by omega, by omega⟩ (by omega) (by omega)
      refine zr_callVe (kc' := 3002 - cap - gr40c) (ks' := 6200 - 2 * cap - gr40k) X 45 1 (zsb_app_i l Γ hI3 (x := (bo23f (k).toNat)) (by omega) gr40a gr40) gX6_chain_J4_append_bf812 rfl (by decide +kernel) rfl (by decide) hI3.cl rfl rfl (Nat.le_of_ble_eq_true rfl) dX6_chain_42 rfl (by omega) (by omega) (fun rv37 V38 hp39 => ?_)
      obtain ⟨hp39e, hp39b, hp39f⟩ := hp39
      rw [hp39e]
      have gr40s := hp39b.rg
      obtain ⟨hS41, fx42⟩ := hI1.fr hp39f
      have bb431 := hp39f.ag _ _ _ hI4 (by omega)
      have bb433 := hp39f.ag _ _ _ hI5 (by omega)
      have fx44 := zag.tr hI2 fx42
      have hx45 : V38 (ad 1) = some (1, .inr (7, [.ref (ad 2), .ref (ad 20), .ref (ad 22), .ref (ad 24), .ref (ad 16), .ref (ad 31), .ref (ad 33), .ref (ad 35), .ref (ad 40), .ref (ad 45), .int (zI (σ 30)), .int (zI (σ 31)), .int (zI (σ 32)), .int (zI (σ 33))])) := hS41.1
      show zG C V38 (3002 - cap - gr40c) (6200 - 2 * cap - gr40k) 45 [(3, .int (zI (k))), (2, .ref q13), (1, .int (zI (q))), (0, .ref (ad 1))] [.ref q13]
      refine zr_bipush X 47 (32) dX6_chain_45 rfl (by decide) ?_
      have gr49r := hp39b.rg
      obtain ⟨gr49p, gr49c, gr49k, gr49⟩ := zgrow1w (cnt + gr40q) gr40p (by omega)
      refine zr_callVe (kc' := (3002 - cap - gr40c) - gr49c) (ks' := (6200 - 2 * cap - gr40k) - gr49k) X 50 1 (zsb_app_c l Γ hp39b (x := 32) (by omega) gr49) gX6_chain_J4_append_cf468 rfl (by decide +kernel) rfl (by decide) hp39b.cl rfl rfl (Nat.le_of_ble_eq_true rfl) dX6_chain_47 rfl (by omega) (by omega) (fun rv46 V47 hp48 => ?_)
      obtain ⟨hp48e, hp48b, hp48f⟩ := hp48
      rw [hp48e]
      have gr49s := hp48b.rg
      obtain ⟨hS50, fx51⟩ := hS41.fr hp48f
      have bb521 := hp48f.ag _ _ _ bb431 (by omega)
      have bb523 := hp48f.ag _ _ _ bb433 (by omega)
      have fx53 := zag.tr fx44 fx51
      have hx54 : V47 (ad 1) = some (1, .inr (7, [.ref (ad 2), .ref (ad 20), .ref (ad 22), .ref (ad 24), .ref (ad 16), .ref (ad 31), .ref (ad 33), .ref (ad 35), .ref (ad 40), .ref (ad 45), .int (zI (σ 30)), .int (zI (σ 31)), .int (zI (σ 32)), .int (zI (σ 33))])) := hS50.1
      show zG C V47 ((3002 - cap - gr40c) - gr49c) ((6200 - 2 * cap - gr40k) - gr49k) 50 [(3, .int (zI (k))), (2, .ref q13), (1, .int (zI (q))), (0, .ref (ad 1))] [.ref q13]
      refine zr_pop X 51 dX6_chain_50 rfl rfl ?_
      refine zr_iinc X 54 0 [(3, .int (zI (k + 1))), (2, .ref q13), (1, .int (zI (q))), (0, .ref (ad 1))] dX6_chain_51 rfl rfl (by decide) rfl ?_
      refine zr_goto X 22 dX6_chain_54 rfl ?_
      refine zr_room (3002 - gr49p) (6200 - 2 * gr49p) (by omega) (by omega) ?_
      exact ih _ (by omega) V47 (k + 1) (cnt + gr40q + 1) gr49p ⟨hS50, fx53, hp48b, bb521, bb523, by omega, by omega, by omega, by omega, by omega, by omega⟩ rfl
  exact loop _ V16 0 0 16 ⟨hS19, fx21, hp17b, bo231, bo233, by omega, by omega, by omega, by omega, by omega, by omega⟩ rfl
set_option maxRecDepth 100000 in
set_option maxHeartbeats 4000000 in
theorem m_X6_readsAlike (l : Launch) (Γ : zGam) {V : zV} {ad : Nat → Nat} {σ : Nat → Int} {q : Int} (hS : zS Γ V ad σ) (hq : 0 ≤ q ∧ q < 6) : zM l Γ 7 yX6_readsAlike wsX6_readsAlike 0 0 V [.ref (ad 1), .ref (ad (10 + q.toNat))] (fun rv V' => (∃ y : Int, rv = some (.int (zI y)) ∧ (y = 0 ∨ y = 1)) ∧ zS Γ V' ad σ ∧ zfx V V') := by
  have w0 : Cond.fieldLink RX6 39 "Sashwords" "draft" "LSashwords$Script;" ∈ wsX6_readsAlike := by decide +kernel
  have iX6 : ∀ w ∈ u_ws RX6 TX6 14, w ∈ wsX6_readsAlike := by decide +kernel
  have w2 : Cond.fieldLink RX6 42 "Sashwords" "secondDraft" "LSashwords$Script;" ∈ wsX6_readsAlike := by decide +kernel
  refine zM_of (cc := cX6_readsAlike) (nL := 3) (ret := (some .boolean)) (own := RX6) (by decide +kernel) rfl rfl (Nat.le_of_ble_eq_true rfl) (fun C X hi0 => ?_)
  have hx1 : V (ad 1) = some (1, .inr (7, [.ref (ad 2), .ref (ad 20), .ref (ad 22), .ref (ad 24), .ref (ad 16), .ref (ad 31), .ref (ad 33), .ref (ad 35), .ref (ad 40), .ref (ad 45), .int (zI (σ 30)), .int (zI (σ 31)), .int (zI (σ 32)), .int (zI (σ 33))])) := hS.1
  have hw2 := hS.w (i := q.toNat) (by omega)
  have hw2r := hw2.rg
  show zG C V 0 0 0 [(0, .ref (ad 1)), (1, .ref (ad (10 + q.toNat)))] []
  refine zr_aload_n X 1 0 dX6_readsAlike_0 rfl rfl ?_
  refine zr_aload_n X 2 1 dX6_readsAlike_1 rfl rfl ?_
  refine zr_iconst X 3 dX6_readsAlike_2 rfl ?_
  refine zr_aload_n X 4 0 dX6_readsAlike_3 rfl rfl ?_
  refine zr_get X 7 7 5 hx1 rfl iX6 (by decide) w0 rfl rfl dX6_readsAlike_4 rfl ?_
  refine zr_callVe (kc' := 0) (ks' := 0) X 10 3 (m_X6_copyText_d l Γ (q := q) (how := 0) hS (by omega) (by omega)) gX6_readsAlike_X6_copyText rfl (by decide +kernel) rfl (by decide) hS.x rfl rfl (Nat.le_of_ble_eq_true rfl) dX6_readsAlike_7 rfl (by omega) (by omega) (fun rv3 V4 hp5 => ?_)
  obtain ⟨hp5e, hp5s, hp5x⟩ := hp5
  rw [hp5e]
  have hx6 : V4 (ad 1) = some (1, .inr (7, [.ref (ad 2), .ref (ad 20), .ref (ad 22), .ref (ad 24), .ref (ad 16), .ref (ad 31), .ref (ad 33), .ref (ad 35), .ref (ad 40), .ref (ad 45), .int (zI (σ 30)), .int (zI (σ 31)), .int (zI (σ 32)), .int (zI (σ 33))])) := hp5s.1
  have hw7 := hp5s.w (i := q.toNat) (by omega)
  have hw7r := hw7.rg
  show zG C V4 0 0 10 [(0, .ref (ad 1)), (1, .ref (ad (10 + q.toNat)))] []
  refine zr_iconst X 11 dX6_readsAlike_10 rfl ?_
  refine zr_istore_n X 12 [(2, .int (zI (1))), (0, .ref (ad 1)), (1, .ref (ad (10 + q.toNat)))] dX6_readsAlike_11 rfl (by decide) rfl ?_
  refine zr_sub [0, 2, 1] [(2, .int (zI (1))), (1, .ref (ad (10 + q.toNat))), (0, .ref (ad 1))] rfl ?_
  have loop : ∀ (N : Nat) (V1 : zV) (k : Int), zS Γ V1 ad σ ∧ zfx V V1 ∧ 1 ≤ k ∧ k ≤ 4 → (4 - k).toNat = N → zG C V1 0 0 12 [(2, .int (zI (k))), (1, .ref (ad (10 + q.toNat))), (0, .ref (ad 1))] [] := by
    intro N
    induction N using Nat.strongRecOn with
    | _ N ih =>
    intro V1 k hI hN
    obtain ⟨hI1, hI2, hI3, hI4⟩ := id hI
    have hx8 : V1 (ad 1) = some (1, .inr (7, [.ref (ad 2), .ref (ad 20), .ref (ad 22), .ref (ad 24), .ref (ad 16), .ref (ad 31), .ref (ad 33), .ref (ad 35), .ref (ad 40), .ref (ad 45), .int (zI (σ 30)), .int (zI (σ 31)), .int (zI (σ 32)), .int (zI (σ 33))])) := hI1.1
    have hw9 := hI1.w (i := q.toNat) (by omega)
    have hw9r := hw9.rg
    refine zr_iload_n X 13 0 dX6_readsAlike_12 rfl rfl ?_
    refine zr_iconst X 14 dX6_readsAlike_13 rfl ?_
    refine zr_icmp_gt X 50 17 dX6_readsAlike_14 rfl rfl (by omega) (by omega) (fun bq10 => ?_) (fun bq10 => ?_)
    · refine zr_iconst X 51 dX6_readsAlike_50 rfl ?_
      exact zr_zret X rfl rfl ⟨⟨1, rfl, by omega⟩, hI1, hI2⟩ dX6_readsAlike_51
    · refine zr_aload_n X 18 2 dX6_readsAlike_17 rfl rfl ?_
      refine zr_aload_n X 19 1 dX6_readsAlike_18 rfl rfl ?_
      refine zr_iload_n X 20 0 dX6_readsAlike_19 rfl rfl ?_
      refine zr_aload_n X 21 2 dX6_readsAlike_20 rfl rfl ?_
      refine zr_get X 24 7 6 hx8 rfl iX6 (by decide) w2 rfl rfl dX6_readsAlike_21 rfl ?_
      refine zr_callVe (kc' := 0) (ks' := 0) X 27 3 (m_X6_copyText_s l Γ (q := q) (how := k) hI1 (by omega) (by omega)) gX6_readsAlike_X6_copyText rfl (by decide +kernel) rfl (by decide) hI1.x rfl rfl (Nat.le_of_ble_eq_true rfl) dX6_readsAlike_24 rfl (by omega) (by omega) (fun rv11 V12 hp13 => ?_)
      obtain ⟨hp13e, hp13s, hp13x⟩ := hp13
      rw [hp13e]
      have fx14 := zag.tr hI2 hp13x
      have hx15 : V12 (ad 1) = some (1, .inr (7, [.ref (ad 2), .ref (ad 20), .ref (ad 22), .ref (ad 24), .ref (ad 16), .ref (ad 31), .ref (ad 33), .ref (ad 35), .ref (ad 40), .ref (ad 45), .int (zI (σ 30)), .int (zI (σ 31)), .int (zI (σ 32)), .int (zI (σ 33))])) := hp13s.1
      have hw16 := hp13s.w (i := q.toNat) (by omega)
      have hw16r := hw16.rg
      show zG C V12 0 0 27 [(2, .int (zI (k))), (1, .ref (ad (10 + q.toNat))), (0, .ref (ad 1))] []
      refine zr_aload_n X 28 2 dX6_readsAlike_27 rfl rfl ?_
      refine zr_get X 31 7 5 hx15 rfl iX6 (by decide) w0 rfl rfl dX6_readsAlike_28 rfl ?_
      refine zr_aload_n X 32 2 dX6_readsAlike_31 rfl rfl ?_
      refine zr_get X 35 7 6 hx15 rfl iX6 (by decide) w2 rfl rfl dX6_readsAlike_32 rfl ?_
      obtain ⟨dr17n, dr17⟩ := hp13s.2.2.2.2.1.2.2.1
      have dr17r := dr17.rg
      obtain ⟨t18e, t18e2, t18h, t18T, t18o, t18q⟩ := dr17.tx (by decide)
      have t18g := t18T.rg
      have t18c := True.intro
      obtain ⟨dr19n, dr19⟩ := hp13s.2.2.2.2.1.2.2.2
      have dr19r := dr19.rg
      obtain ⟨t20e, t20e2, t20h, t20T, t20o, t20q⟩ := dr19.tx (by decide)
      have t20g := t20T.rg
      have t20c := True.intro
      refine zr_callS (kc' := 0) (ks' := 0) X 38 2 (m_X6_firstUnlike l Γ (V := V12) t18T t20T rfl) gX6_readsAlike_X6_firstUnlike rfl (by decide +kernel) rfl (by decide) rfl (Nat.le_of_ble_eq_true rfl) dX6_readsAlike_35 rfl (by omega) (by omega) (fun rv21 V22 hp23 => ?_)
      obtain ⟨⟨y24, y24e, y24a, y24b, y24c⟩, y24v⟩ := hp23
      rw [y24e, y24v]
      show zG C V12 0 0 38 [(2, .int (zI (k))), (1, .ref (ad (10 + q.toNat))), (0, .ref (ad 1))] [.int (zI (y24))]
      refine zr_iconst X 39 dX6_readsAlike_38 rfl ?_
      refine zr_icmp_eq X 44 42 dX6_readsAlike_39 rfl rfl (by omega) (by omega) (fun bq25 => ?_) (fun bq25 => ?_)
      · refine zr_iinc X 47 0 [(2, .int (zI (k + 1))), (1, .ref (ad (10 + q.toNat))), (0, .ref (ad 1))] dX6_readsAlike_44 rfl rfl (by decide) rfl ?_
        refine zr_goto X 12 dX6_readsAlike_47 rfl ?_
        exact ih _ (by omega) V12 (k + 1) ⟨hp13s, fx14, by omega, by omega⟩ rfl
      · refine zr_iconst X 43 dX6_readsAlike_42 rfl ?_
        exact zr_zret X rfl rfl ⟨⟨0, rfl, by omega⟩, hp13s, fx14⟩ dX6_readsAlike_43
  exact loop _ V4 1 ⟨hp5s, hp5x, by omega, by omega⟩ rfl
set_option maxRecDepth 100000 in
set_option maxHeartbeats 4000000 in
theorem m_X6_keptLiesAlike (l : Launch) (Γ : zGam) {V : zV} {ad : Nat → Nat} {σ : Nat → Int} {q : Int} (hS : zS Γ V ad σ) (hq : 0 ≤ q ∧ q < 6) : zM l Γ 8 yX6_keptLiesAlike wsX6_keptLiesAlike 0 0 V [.ref (ad 1), .ref (ad (10 + q.toNat))] (fun rv V' => (∃ y : Int, rv = some (.int (zI y)) ∧ (y = 0 ∨ y = 1)) ∧ zS Γ V' ad σ ∧ zfx V V') := by
  have w0 : Cond.fieldLink RX6 39 "Sashwords" "draft" "LSashwords$Script;" ∈ wsX6_keptLiesAlike := by decide +kernel
  have iX6 : ∀ w ∈ u_ws RX6 TX6 14, w ∈ wsX6_keptLiesAlike := by decide +kernel
  have w2 : Cond.fieldLink RX6 48 "Sashwords" "road" "LSashwords$Seeker;" ∈ wsX6_keptLiesAlike := by decide +kernel
  have w3 : Cond.fieldLink RX6 24 "Sashwords" "kept" "LSashwords$Script;" ∈ wsX6_keptLiesAlike := by decide +kernel
  have w4 : Cond.fieldLink RX6 52 "Sashwords" "secondRoad" "LSashwords$Seeker;" ∈ wsX6_keptLiesAlike := by decide +kernel
  have iX3 : ∀ w ∈ u_ws RX3 TX3 3, w ∈ wsX6_keptLiesAlike := by decide +kernel
  refine zM_of (cc := cX6_keptLiesAlike) (nL := 3) (ret := (some .boolean)) (own := RX6) (by decide +kernel) rfl rfl (Nat.le_of_ble_eq_true rfl) (fun C X hi0 => ?_)
  have hx1 : V (ad 1) = some (1, .inr (7, [.ref (ad 2), .ref (ad 20), .ref (ad 22), .ref (ad 24), .ref (ad 16), .ref (ad 31), .ref (ad 33), .ref (ad 35), .ref (ad 40), .ref (ad 45), .int (zI (σ 30)), .int (zI (σ 31)), .int (zI (σ 32)), .int (zI (σ 33))])) := hS.1
  obtain ⟨_, -, -, -, hk0, hk80⟩ := hS.2.2.2.2.1.2.1
  have hw2 := hS.w (i := q.toNat) (by omega)
  have hw2r := hw2.rg
  obtain ⟨dr3n, dr3⟩ := hS.2.2.2.2.1.2.2.1
  have dr3r := dr3.rg
  show zG C V 0 0 0 [(0, .ref (ad 1)), (1, .ref (ad (10 + q.toNat)))] []
  refine zr_aload_n X 1 0 dX6_keptLiesAlike_0 rfl rfl ?_
  refine zr_get X 4 7 5 hx1 rfl iX6 (by decide) w0 rfl rfl dX6_keptLiesAlike_1 rfl ?_
  refine zr_aload_n X 5 1 dX6_keptLiesAlike_4 rfl rfl ?_
  obtain ⟨t4r, t4e, t4e2, t4h, t4T, t4o, t4q⟩ := hw2.tx
  have t4g := t4T.rg
  have t4c := True.intro
  refine zr_callVe (kc' := 0) (ks' := 0) X 8 1 (f_becomeTextT l Γ dr3 (by decide) (by decide) t4T t4o t4q (by omega) (by omega)) gX6_keptLiesAlike_X2_becomeText rfl (by decide +kernel) rfl (by decide) dr3.cl rfl rfl (Nat.le_of_ble_eq_true rfl) dX6_keptLiesAlike_5 rfl (by omega) (by omega) (fun rv5 V6 hp7 => ?_)
  obtain ⟨hp7e, hp7z⟩ := hp7
  rw [hp7e]
  obtain ⟨hS8, fx9⟩ := hS.setDr hp7z
  have dr10 := hp7z.1
  have dr10r := dr10.rg
  have hw11 := hw2.kept hp7z.2 (by omega) (by omega)
  have hx12 : V6 (ad 1) = some (1, .inr (7, [.ref (ad 2), .ref (ad 20), .ref (ad 22), .ref (ad 24), .ref (ad 16), .ref (ad 31), .ref (ad 33), .ref (ad 35), .ref (ad 40), .ref (ad 45), .int (zI (σ 30)), .int (zI (σ 31)), .int (zI (σ 32)), .int (zI (σ 33))])) := hS8.1
  show zG C V6 0 0 8 [(0, .ref (ad 1)), (1, .ref (ad (10 + q.toNat)))] []
  refine zr_aload_n X 9 0 dX6_keptLiesAlike_8 rfl rfl ?_
  refine zr_get X 12 7 7 hx12 rfl iX6 (by decide) w2 rfl rfl dX6_keptLiesAlike_9 rfl ?_
  refine zr_aload_n X 13 1 dX6_keptLiesAlike_12 rfl rfl ?_
  refine zr_aload_n X 14 0 dX6_keptLiesAlike_13 rfl rfl ?_
  refine zr_get X 17 7 2 hx12 rfl iX6 (by decide) w3 rfl rfl dX6_keptLiesAlike_14 rfl ?_
  obtain ⟨t13r, t13e, t13e2, t13h, t13T, t13o, t13q⟩ := hw11.tx
  have t13g := t13T.rg
  have t13c := True.intro
  obtain ⟨t14e, t14e2, t14h, t14T, t14o, t14q⟩ := hS8.2.2.2.2.1.2.1.tx (by decide)
  have t14g := t14T.rg
  have t14c := True.intro
  refine zr_callVe (kc' := 0) (ks' := 0) X 20 2 (g_seek l Γ hS8.2.2.2.2.2.2.1 hS8.2.2.2.2.2.2.2.1 t13T t13o t13q t14T t14o t14q (by omega) (by omega) (by decide) (by omega) (by omega)) gX6_keptLiesAlike_X3_seek rfl (by decide +kernel) rfl (by decide) hS8.2.2.2.2.2.2.1.cl rfl rfl (Nat.le_of_ble_eq_true rfl) dX6_keptLiesAlike_17 rfl (by omega) (by omega) (fun rv15 V16 hp17 => ?_)
  obtain ⟨hp17e, ⟨hp17m, hp17f, hp17x, hp17z⟩, hp17w, hp17g⟩ := hp17
  rw [hp17e]
  have hp17r := hp17x.2.2.2
  obtain ⟨hS18, fx19⟩ := hS8.road hp17x.sk hp17w hp17g
  have fx20 := zag.tr fx9 fx19
  have hx21 : V16 (ad 1) = some (1, .inr (7, [.ref (ad 2), .ref (ad 20), .ref (ad 22), .ref (ad 24), .ref (ad 16), .ref (ad 31), .ref (ad 33), .ref (ad 35), .ref (ad 40), .ref (ad 45), .int (zI (σ 30)), .int (zI (σ 31)), .int (zI (σ 32)), .int (zI (σ 33))])) := hS18.1
  have t22o := hp17g _ _ _ t13o (by omega)
  have t22q := hp17g _ _ _ t13q (by omega)
  have t22T := t13T.kept (t22o.trans t13o.symm) (t22q.trans t13q.symm)
  have t22c := t13c
  have t22g := t22T.rg
  have t23o := hp17g _ _ _ t14o (by omega)
  have t23q := hp17g _ _ _ t14q (by omega)
  have t23T := t14T.kept (t23o.trans t14o.symm) (t23q.trans t14q.symm)
  have t23c := t14c
  have t23g := t23T.rg
  show zG C V16 0 0 20 [(0, .ref (ad 1)), (1, .ref (ad (10 + q.toNat)))] []
  have hw24 := hS18.w (i := q.toNat) (by omega)
  have hw24r := hw24.rg
  refine zr_aload_n X 21 0 dX6_keptLiesAlike_20 rfl rfl ?_
  refine zr_get X 24 7 8 hx21 rfl iX6 (by decide) w4 rfl rfl dX6_keptLiesAlike_21 rfl ?_
  refine zr_aload_n X 25 0 dX6_keptLiesAlike_24 rfl rfl ?_
  refine zr_get X 28 7 5 hx21 rfl iX6 (by decide) w0 rfl rfl dX6_keptLiesAlike_25 rfl ?_
  refine zr_aload_n X 29 0 dX6_keptLiesAlike_28 rfl rfl ?_
  refine zr_get X 32 7 2 hx21 rfl iX6 (by decide) w3 rfl rfl dX6_keptLiesAlike_29 rfl ?_
  obtain ⟨dr25n, dr25⟩ := hS18.2.2.2.2.1.2.2.1
  have dr25r := dr25.rg
  obtain ⟨t26e, t26e2, t26h, t26T, t26o, t26q⟩ := dr25.tx (by decide)
  have t26g := t26T.rg
  have t26c := True.intro
  refine zr_callVe (kc' := 0) (ks' := 0) X 35 2 (g_seek l Γ hS18.2.2.2.2.2.2.2.2.1 hS18.2.2.2.2.2.2.2.2.2.1 t26T t26o t26q t23T t23o t23q (by omega) (by omega) (by decide) (by omega) (by omega)) gX6_keptLiesAlike_X3_seek rfl (by decide +kernel) rfl (by decide) hS18.2.2.2.2.2.2.2.2.1.cl rfl rfl (Nat.le_of_ble_eq_true rfl) dX6_keptLiesAlike_32 rfl (by omega) (by omega) (fun rv27 V28 hp29 => ?_)
  obtain ⟨hp29e, ⟨hp29m, hp29f, hp29x, hp29z⟩, hp29w, hp29g⟩ := hp29
  rw [hp29e]
  have hp29r := hp29x.2.2.2
  obtain ⟨hS30, fx31⟩ := hS18.road2 hp29x.sk hp29w hp29g
  have fx32 := zag.tr fx20 fx31
  have hx33 : V28 (ad 1) = some (1, .inr (7, [.ref (ad 2), .ref (ad 20), .ref (ad 22), .ref (ad 24), .ref (ad 16), .ref (ad 31), .ref (ad 33), .ref (ad 35), .ref (ad 40), .ref (ad 45), .int (zI (σ 30)), .int (zI (σ 31)), .int (zI (σ 32)), .int (zI (σ 33))])) := hS30.1
  have t34o := hp29g _ _ _ t22o (by omega)
  have t34q := hp29g _ _ _ t22q (by omega)
  have t34T := t22T.kept (t34o.trans t22o.symm) (t34q.trans t22q.symm)
  have t34c := t22c
  have t34g := t34T.rg
  have t35o := hp29g _ _ _ t23o (by omega)
  have t35q := hp29g _ _ _ t23q (by omega)
  have t35T := t23T.kept (t35o.trans t23o.symm) (t35q.trans t23q.symm)
  have t35c := t23c
  have t35g := t35T.rg
  have t36o := hp29g _ _ _ t26o (by omega)
  have t36q := hp29g _ _ _ t26q (by omega)
  have t36T := t26T.kept (t36o.trans t26o.symm) (t36q.trans t26q.symm)
  have t36c := t26c
  have t36g := t36T.rg
  show zG C V28 0 0 35 [(0, .ref (ad 1)), (1, .ref (ad (10 + q.toNat)))] []
  have hw37 := hS30.w (i := q.toNat) (by omega)
  have hw37r := hw37.rg
  refine zr_aload_n X 36 0 dX6_keptLiesAlike_35 rfl rfl ?_
  refine zr_get X 39 7 7 hx33 rfl iX6 (by decide) w2 rfl rfl dX6_keptLiesAlike_36 rfl ?_
  refine zr_getNs X 42 hS30.2.2.2.2.2.2.1 iX3 rfl dX6_keptLiesAlike_39 rfl (fun mn38 mn38a => ?_)
  refine zr_aload_n X 43 0 dX6_keptLiesAlike_42 rfl rfl ?_
  refine zr_get X 46 7 8 hx33 rfl iX6 (by decide) w4 rfl rfl dX6_keptLiesAlike_43 rfl ?_
  refine zr_getNsx X 49 hp29x iX3 rfl dX6_keptLiesAlike_46 rfl ?_
  refine zr_icmp_eq X 54 52 dX6_keptLiesAlike_49 rfl rfl (by omega) (by omega) (fun bq39 => ?_) (fun bq39 => ?_)
  · refine zr_iconst X 55 dX6_keptLiesAlike_54 rfl ?_
    refine zr_istore_n X 56 [(2, .int (zI (0))), (0, .ref (ad 1)), (1, .ref (ad (10 + q.toNat)))] dX6_keptLiesAlike_55 rfl (by decide) rfl ?_
    refine zr_sub [0, 2, 1] [(2, .int (zI (0))), (1, .ref (ad (10 + q.toNat))), (0, .ref (ad 1))] rfl ?_
    have loop : ∀ (N : Nat) (k : Int), 0 ≤ k ∧ k ≤ 81 → (81 - k).toNat = N → zG C V28 0 0 56 [(2, .int (zI (k))), (1, .ref (ad (10 + q.toNat))), (0, .ref (ad 1))] [] := by
      intro N
      induction N using Nat.strongRecOn with
      | _ N ih =>
      intro k hI hN
      obtain ⟨hI1, hI2⟩ := id hI
      refine zr_iload_n X 57 0 dX6_keptLiesAlike_56 rfl rfl ?_
      refine zr_aload_n X 58 2 dX6_keptLiesAlike_57 rfl rfl ?_
      refine zr_get X 61 7 7 hx33 rfl iX6 (by decide) w2 rfl rfl dX6_keptLiesAlike_58 rfl ?_
      refine zr_getNs X 64 hS30.2.2.2.2.2.2.1 iX3 rfl dX6_keptLiesAlike_61 rfl (fun mn40 mn40a => ?_)
      refine zr_icmp_ge X 94 67 dX6_keptLiesAlike_64 rfl rfl (by omega) (by omega) (fun bq41 => ?_) (fun bq41 => ?_)
      · refine zr_iconst X 95 dX6_keptLiesAlike_94 rfl ?_
        exact zr_zret X rfl rfl ⟨⟨1, rfl, by omega⟩, hS30, fx32⟩ dX6_keptLiesAlike_95
      · refine zr_aload_n X 68 2 dX6_keptLiesAlike_67 rfl rfl ?_
        refine zr_get X 71 7 7 hx33 rfl iX6 (by decide) w2 rfl rfl dX6_keptLiesAlike_68 rfl ?_
        refine zr_iload_n X 72 0 dX6_keptLiesAlike_71 rfl rfl ?_
        refine zr_callVe (kc' := 0) (ks' := 0) X 75 1 (g_foundAt l Γ hS30.2.2.2.2.2.2.1 (q := k) (by omega)) gX6_keptLiesAlike_X3_foundAt rfl (by decide +kernel) rfl (by decide) hS30.2.2.2.2.2.2.1.cl rfl rfl (Nat.le_of_ble_eq_true rfl) dX6_keptLiesAlike_72 rfl (by omega) (by omega) (fun rv42 V43 hp44 => ?_)
        obtain ⟨hp44x, hp44e, hp44v, hp44a, hp44b⟩ := hp44
        rw [hp44e, hp44v]
        show zG C V28 0 0 75 [(2, .int (zI (k))), (1, .ref (ad (10 + q.toNat))), (0, .ref (ad 1))] [.int (zI (hp44x))]
        refine zr_aload_n X 76 2 dX6_keptLiesAlike_75 rfl rfl ?_
        refine zr_get X 79 7 8 hx33 rfl iX6 (by decide) w4 rfl rfl dX6_keptLiesAlike_76 rfl ?_
        refine zr_iload_n X 80 0 dX6_keptLiesAlike_79 rfl rfl ?_
        refine zr_callVe (kc' := 0) (ks' := 0) X 83 1 (g_foundAtx l Γ hp29x (q := k) (by omega)) gX6_keptLiesAlike_X3_foundAt rfl (by decide +kernel) rfl (by decide) hS30.2.2.2.2.2.2.2.2.1.cl rfl rfl (Nat.le_of_ble_eq_true rfl) dX6_keptLiesAlike_80 rfl (by omega) (by omega) (fun rv45 V46 hp47 => ?_)
        obtain ⟨hp47x, hp47e, hp47v, hp47a, hp47b, hp47c⟩ := hp47
        rw [hp47e, hp47v]
        show zG C V28 0 0 83 [(2, .int (zI (k))), (1, .ref (ad (10 + q.toNat))), (0, .ref (ad 1))] [.int (zI (hp47x)), .int (zI (hp44x))]
        refine zr_icmp_eq X 88 86 dX6_keptLiesAlike_83 rfl rfl (by omega) (by omega) (fun bq48 => ?_) (fun bq48 => ?_)
        · refine zr_iinc X 91 0 [(2, .int (zI (k + 1))), (1, .ref (ad (10 + q.toNat))), (0, .ref (ad 1))] dX6_keptLiesAlike_88 rfl rfl (by decide) rfl ?_
          refine zr_goto X 56 dX6_keptLiesAlike_91 rfl ?_
          exact ih _ (by omega) (k + 1) ⟨by omega, by omega⟩ rfl
        · refine zr_iconst X 87 dX6_keptLiesAlike_86 rfl ?_
          exact zr_zret X rfl rfl ⟨⟨0, rfl, by omega⟩, hS30, fx32⟩ dX6_keptLiesAlike_87
    exact loop _ 0 ⟨by omega, by omega⟩ rfl
  · refine zr_iconst X 53 dX6_keptLiesAlike_52 rfl ?_
    exact zr_zret X rfl rfl ⟨⟨0, rfl, by omega⟩, hS30, fx32⟩ dX6_keptLiesAlike_53
set_option maxRecDepth 100000 in
set_option maxHeartbeats 4000000 in
theorem m_X6_builderIsSearchedRightly (l : Launch) (Γ : zGam) {V : zV} {ad : Nat → Nat} {σ : Nat → Int} (hS : zS Γ V ad σ) : zM l Γ 8 yX6_builderIsSearchedRightly wsX6_builderIsSearchedRightly 0 0 V [.ref (ad 1)] (fun rv V' => (∃ y : Int, rv = some (.int (zI y)) ∧ (y = 0 ∨ y = 1)) ∧ zS Γ V' ad σ ∧ zfx V V') := by
  have hbR := hS.2.2.2.2.1.1.rg
  have hkR := hS.2.2.2.2.1.2.1.rg
  have w0 : Cond.fieldLink RX6 48 "Sashwords" "road" "LSashwords$Seeker;" ∈ wsX6_builderIsSearchedRightly := by decide +kernel
  have iX6 : ∀ w ∈ u_ws RX6 TX6 14, w ∈ wsX6_builderIsSearchedRightly := by decide +kernel
  have w2 : Cond.fieldLink RX6 20 "Sashwords" "builder" "LSashwords$Script;" ∈ wsX6_builderIsSearchedRightly := by decide +kernel
  have w3 : Cond.fieldLink RX6 24 "Sashwords" "kept" "LSashwords$Script;" ∈ wsX6_builderIsSearchedRightly := by decide +kernel
  have iX3 : ∀ w ∈ u_ws RX3 TX3 3, w ∈ wsX6_builderIsSearchedRightly := by decide +kernel
  refine zM_of (cc := cX6_builderIsSearchedRightly) (nL := 3) (ret := (some .boolean)) (own := RX6) (by decide +kernel) rfl rfl (Nat.le_of_ble_eq_true rfl) (fun C X hi0 => ?_)
  have hx1 : V (ad 1) = some (1, .inr (7, [.ref (ad 2), .ref (ad 20), .ref (ad 22), .ref (ad 24), .ref (ad 16), .ref (ad 31), .ref (ad 33), .ref (ad 35), .ref (ad 40), .ref (ad 45), .int (zI (σ 30)), .int (zI (σ 31)), .int (zI (σ 32)), .int (zI (σ 33))])) := hS.1
  show zG C V 0 0 0 [(0, .ref (ad 1))] []
  refine zr_aload_n X 1 0 dX6_builderIsSearchedRightly_0 rfl rfl ?_
  refine zr_get X 4 7 7 hx1 rfl iX6 (by decide) w0 rfl rfl dX6_builderIsSearchedRightly_1 rfl ?_
  refine zr_aload_n X 5 0 dX6_builderIsSearchedRightly_4 rfl rfl ?_
  refine zr_get X 8 7 1 hx1 rfl iX6 (by decide) w2 rfl rfl dX6_builderIsSearchedRightly_5 rfl ?_
  refine zr_aload_n X 9 0 dX6_builderIsSearchedRightly_8 rfl rfl ?_
  refine zr_get X 12 7 2 hx1 rfl iX6 (by decide) w3 rfl rfl dX6_builderIsSearchedRightly_9 rfl ?_
  obtain ⟨t2e, t2e2, t2h, t2T, t2o, t2q⟩ := hS.2.2.2.2.1.1.tx (by decide)
  have t2g := t2T.rg
  have t2c := True.intro
  obtain ⟨t3e, t3e2, t3h, t3T, t3o, t3q⟩ := hS.2.2.2.2.1.2.1.tx (by decide)
  have t3g := t3T.rg
  have t3c := True.intro
  refine zr_callVe (kc' := 0) (ks' := 0) X 15 2 (g_seek l Γ hS.2.2.2.2.2.2.1 hS.2.2.2.2.2.2.2.1 t2T t2o t2q t3T t3o t3q (by omega) (by omega) (by decide) (by omega) (by omega)) gX6_builderIsSearchedRightly_X3_seek rfl (by decide +kernel) rfl (by decide) hS.2.2.2.2.2.2.1.cl rfl rfl (Nat.le_of_ble_eq_true rfl) dX6_builderIsSearchedRightly_12 rfl (by omega) (by omega) (fun rv4 V5 hp6 => ?_)
  obtain ⟨hp6e, ⟨hp6m, hp6f, hp6x, hp6z⟩, hp6w, hp6g⟩ := hp6
  rw [hp6e]
  have hp6r := hp6x.2.2.2
  obtain ⟨hS7, fx8⟩ := hS.road hp6x.sk hp6w hp6g
  have hx9 : V5 (ad 1) = some (1, .inr (7, [.ref (ad 2), .ref (ad 20), .ref (ad 22), .ref (ad 24), .ref (ad 16), .ref (ad 31), .ref (ad 33), .ref (ad 35), .ref (ad 40), .ref (ad 45), .int (zI (σ 30)), .int (zI (σ 31)), .int (zI (σ 32)), .int (zI (σ 33))])) := hS7.1
  have t10o := hp6g _ _ _ t2o (by omega)
  have t10q := hp6g _ _ _ t2q (by omega)
  have t10T := t2T.kept (t10o.trans t2o.symm) (t10q.trans t2q.symm)
  have t10c := t2c
  have t10g := t10T.rg
  have t11o := hp6g _ _ _ t3o (by omega)
  have t11q := hp6g _ _ _ t3q (by omega)
  have t11T := t3T.kept (t11o.trans t3o.symm) (t11q.trans t3q.symm)
  have t11c := t3c
  have t11g := t11T.rg
  show zG C V5 0 0 15 [(0, .ref (ad 1))] []
  refine zr_iconst X 16 dX6_builderIsSearchedRightly_15 rfl ?_
  refine zr_istore_n X 17 [(1, .int (zI (0))), (0, .ref (ad 1))] dX6_builderIsSearchedRightly_16 rfl (by decide) rfl ?_
  refine zr_iconst X 18 dX6_builderIsSearchedRightly_17 rfl ?_
  refine zr_istore_n X 19 [(2, .int (zI (0))), (1, .int (zI (0))), (0, .ref (ad 1))] dX6_builderIsSearchedRightly_18 rfl (by decide) rfl ?_
  have loop : ∀ (N : Nat) (tr : Int) (k : Int), 0 ≤ tr ∧ tr ≤ k ∧ k ≤ σ 24 + 1 → (σ 24 + 1 - k).toNat = N → zG C V5 0 0 19 [(2, .int (zI (k))), (1, .int (zI (tr))), (0, .ref (ad 1))] [] := by
    intro N
    induction N using Nat.strongRecOn with
    | _ N ih =>
    intro tr k hI hN
    obtain ⟨hI1, hI2, hI3⟩ := id hI
    refine zr_iload_n X 20 0 dX6_builderIsSearchedRightly_19 rfl rfl ?_
    refine zr_aload_n X 21 2 dX6_builderIsSearchedRightly_20 rfl rfl ?_
    refine zr_get X 24 7 1 hx9 rfl iX6 (by decide) w2 rfl rfl dX6_builderIsSearchedRightly_21 rfl ?_
    refine zr_callVe (kc' := 0) (ks' := 0) X 27 0 (f_size l Γ hS7.2.2.2.2.1.1) gX6_builderIsSearchedRightly_X2_size rfl (by decide +kernel) rfl (by decide) hS7.2.2.2.2.1.1.cl rfl rfl (Nat.le_of_ble_eq_true rfl) dX6_builderIsSearchedRightly_24 rfl (by omega) (by omega) (fun rv12 V13 hp14 => ?_)
    rw [hp14.1, hp14.2]
    have hp14r := hS7.2.2.2.2.1.1.rg
    show zG C V5 0 0 27 [(2, .int (zI (k))), (1, .int (zI (tr))), (0, .ref (ad 1))] [.int (zI (σ 24)), .int (zI (k))]
    refine zr_icmp_gt X 76 30 dX6_builderIsSearchedRightly_27 rfl rfl (by omega) (by omega) (fun bq15 => ?_) (fun bq15 => ?_)
    · refine zr_iload_n X 77 1 dX6_builderIsSearchedRightly_76 rfl rfl ?_
      refine zr_aload_n X 78 2 dX6_builderIsSearchedRightly_77 rfl rfl ?_
      refine zr_get X 81 7 7 hx9 rfl iX6 (by decide) w0 rfl rfl dX6_builderIsSearchedRightly_78 rfl ?_
      refine zr_getNsx X 84 hp6x iX3 rfl dX6_builderIsSearchedRightly_81 rfl ?_
      refine zr_icmp_ne X 91 87 dX6_builderIsSearchedRightly_84 rfl rfl (by omega) (by omega) (fun bq16 => ?_) (fun bq16 => ?_)
      · refine zr_iconst X 92 dX6_builderIsSearchedRightly_91 rfl ?_
        exact zr_zret X rfl rfl ⟨⟨0, rfl, by omega⟩, hS7, fx8⟩ dX6_builderIsSearchedRightly_92
      · refine zr_iconst X 88 dX6_builderIsSearchedRightly_87 rfl ?_
        refine zr_goto X 92 dX6_builderIsSearchedRightly_88 rfl ?_
        exact zr_zret X rfl rfl ⟨⟨1, rfl, by omega⟩, hS7, fx8⟩ dX6_builderIsSearchedRightly_92
    · refine zr_aload_n X 31 2 dX6_builderIsSearchedRightly_30 rfl rfl ?_
      refine zr_get X 34 7 2 hx9 rfl iX6 (by decide) w3 rfl rfl dX6_builderIsSearchedRightly_31 rfl ?_
      refine zr_iconst X 35 dX6_builderIsSearchedRightly_34 rfl ?_
      refine zr_aload_n X 36 2 dX6_builderIsSearchedRightly_35 rfl rfl ?_
      refine zr_get X 39 7 2 hx9 rfl iX6 (by decide) w3 rfl rfl dX6_builderIsSearchedRightly_36 rfl ?_
      refine zr_callVe (kc' := 0) (ks' := 0) X 42 0 (f_size l Γ hS7.2.2.2.2.1.2.1) gX6_builderIsSearchedRightly_X2_size rfl (by decide +kernel) rfl (by decide) hS7.2.2.2.2.1.2.1.cl rfl rfl (Nat.le_of_ble_eq_true rfl) dX6_builderIsSearchedRightly_39 rfl (by omega) (by omega) (fun rv17 V18 hp19 => ?_)
      rw [hp19.1, hp19.2]
      have hp19r := hS7.2.2.2.2.1.2.1.rg
      show zG C V5 0 0 42 [(2, .int (zI (k))), (1, .int (zI (tr))), (0, .ref (ad 1))] [.int (zI (σ 25)), .int (zI (0)), .ref (ad 22)]
      refine zr_aload_n X 43 2 dX6_builderIsSearchedRightly_42 rfl rfl ?_
      refine zr_get X 46 7 1 hx9 rfl iX6 (by decide) w2 rfl rfl dX6_builderIsSearchedRightly_43 rfl ?_
      refine zr_iload_n X 47 0 dX6_builderIsSearchedRightly_46 rfl rfl ?_
      refine zr_callS (kc' := 0) (ks' := 0) X 50 5 (m_X6_matches l Γ (V := V5) (fr := 0) (mn := σ 25) (ap := k) t11T t10T (by omega) (by omega) (by omega)) gX6_builderIsSearchedRightly_X6_matches rfl (by decide +kernel) rfl (by decide) rfl (Nat.le_of_ble_eq_true rfl) dX6_builderIsSearchedRightly_47 rfl (by omega) (by omega) (fun rv20 V21 hp22 => ?_)
      obtain ⟨⟨hp22v, hp22e, hp22a⟩, hp22w⟩ := hp22
      rw [hp22e, hp22w]
      show zG C V5 0 0 50 [(2, .int (zI (k))), (1, .int (zI (tr))), (0, .ref (ad 1))] [.int (zI (hp22v))]
      refine zr_if_eq X 70 53 dX6_builderIsSearchedRightly_50 rfl rfl (by omega) (fun bq23 => ?_) (fun bq23 => ?_)
      · refine zr_iinc X 73 0 [(2, .int (zI (k + 1))), (1, .int (zI (tr))), (0, .ref (ad 1))] dX6_builderIsSearchedRightly_70 rfl rfl (by decide) rfl ?_
        refine zr_goto X 19 dX6_builderIsSearchedRightly_73 rfl ?_
        exact ih _ (by omega) tr (k + 1) ⟨by omega, by omega, by omega⟩ rfl
      · refine zr_aload_n X 54 2 dX6_builderIsSearchedRightly_53 rfl rfl ?_
        refine zr_get X 57 7 7 hx9 rfl iX6 (by decide) w0 rfl rfl dX6_builderIsSearchedRightly_54 rfl ?_
        refine zr_iload_n X 58 1 dX6_builderIsSearchedRightly_57 rfl rfl ?_
        refine zr_callVe (kc' := 0) (ks' := 0) X 61 1 (g_foundAtx l Γ hp6x (q := tr) (by omega)) gX6_builderIsSearchedRightly_X3_foundAt rfl (by decide +kernel) rfl (by decide) hS7.2.2.2.2.2.2.1.cl rfl rfl (Nat.le_of_ble_eq_true rfl) dX6_builderIsSearchedRightly_58 rfl (by omega) (by omega) (fun rv24 V25 hp26 => ?_)
        obtain ⟨hp26x, hp26e, hp26v, hp26a, hp26b, hp26c⟩ := hp26
        rw [hp26e, hp26v]
        show zG C V5 0 0 61 [(2, .int (zI (k))), (1, .int (zI (tr))), (0, .ref (ad 1))] [.int (zI (hp26x))]
        refine zr_iload_n X 62 0 dX6_builderIsSearchedRightly_61 rfl rfl ?_
        refine zr_icmp_eq X 67 65 dX6_builderIsSearchedRightly_62 rfl rfl (by omega) (by omega) (fun bq27 => ?_) (fun bq27 => ?_)
        · refine zr_iinc X 70 1 [(1, .int (zI (tr + 1))), (2, .int (zI (k))), (0, .ref (ad 1))] dX6_builderIsSearchedRightly_67 rfl rfl (by decide) rfl ?_
          refine zr_iinc X 73 1 [(2, .int (zI (k + 1))), (1, .int (zI (tr + 1))), (0, .ref (ad 1))] dX6_builderIsSearchedRightly_70 rfl rfl (by decide) rfl ?_
          refine zr_goto X 19 dX6_builderIsSearchedRightly_73 rfl ?_
          exact ih _ (by omega) (tr + 1) (k + 1) ⟨by omega, by omega, by omega⟩ rfl
        · refine zr_iconst X 66 dX6_builderIsSearchedRightly_65 rfl ?_
          exact zr_zret X rfl rfl ⟨⟨0, rfl, by omega⟩, hS7, fx8⟩ dX6_builderIsSearchedRightly_66
  exact loop _ 0 0 ⟨by omega, by omega, by omega⟩ rfl
set_option maxRecDepth 100000 in
set_option maxHeartbeats 4000000 in
theorem m_X6_builderChainIsRight (l : Launch) (Γ : zGam) {V : zV} {ad : Nat → Nat} {σ : Nat → Int} (hS : zS Γ V ad σ) : zM l Γ 9 yX6_builderChainIsRight wsX6_builderChainIsRight 0 0 V [.ref (ad 1)] (fun rv V' => (∃ y : Int, rv = some (.int (zI y)) ∧ (y = 0 ∨ y = 1)) ∧ zS Γ V' ad σ ∧ zfx V V') := by
  have hbR := hS.2.2.2.2.1.1.rg
  have hkR := hS.2.2.2.2.1.2.1.rg
  have w0 : Cond.fieldLink RX6 58 "Sashwords" "table" "LSashwords$Borders;" ∈ wsX6_builderChainIsRight := by decide +kernel
  have iX6 : ∀ w ∈ u_ws RX6 TX6 14, w ∈ wsX6_builderChainIsRight := by decide +kernel
  have w2 : Cond.fieldLink RX6 20 "Sashwords" "builder" "LSashwords$Script;" ∈ wsX6_builderChainIsRight := by decide +kernel
  have iX0 : ∀ w ∈ u_ws RX0 TX0 3, w ∈ wsX6_builderChainIsRight := by decide +kernel
  refine zM_of (cc := cX6_builderChainIsRight) (nL := 3) (ret := (some .boolean)) (own := RX6) (by decide +kernel) rfl rfl (Nat.le_of_ble_eq_true rfl) (fun C X hi0 => ?_)
  have hx1 : V (ad 1) = some (1, .inr (7, [.ref (ad 2), .ref (ad 20), .ref (ad 22), .ref (ad 24), .ref (ad 16), .ref (ad 31), .ref (ad 33), .ref (ad 35), .ref (ad 40), .ref (ad 45), .int (zI (σ 30)), .int (zI (σ 31)), .int (zI (σ 32)), .int (zI (σ 33))])) := hS.1
  show zG C V 0 0 0 [(0, .ref (ad 1))] []
  refine zr_aload_n X 1 0 dX6_builderChainIsRight_0 rfl rfl ?_
  refine zr_get X 4 7 9 hx1 rfl iX6 (by decide) w0 rfl rfl dX6_builderChainIsRight_1 rfl ?_
  refine zr_aload_n X 5 0 dX6_builderChainIsRight_4 rfl rfl ?_
  refine zr_get X 8 7 1 hx1 rfl iX6 (by decide) w2 rfl rfl dX6_builderChainIsRight_5 rfl ?_
  obtain ⟨t2e, t2e2, t2h, t2T, t2o, t2q⟩ := hS.2.2.2.2.1.1.tx (by decide)
  have t2g := t2T.rg
  have t2c := True.intro
  refine zr_callVe (kc' := 0) (ks' := 0) X 11 1 (g_measureChain l Γ hS.2.2.2.2.2.2.2.2.2.2 t2T t2o t2q (by omega) (by omega)) gX6_builderChainIsRight_X0_measureChain rfl (by decide +kernel) rfl (by decide) hS.2.2.2.2.2.2.2.2.2.2.cl rfl rfl (Nat.le_of_ble_eq_true rfl) dX6_builderChainIsRight_8 rfl (by omega) (by omega) (fun rv3 V4 hp5 => ?_)
  obtain ⟨hp5e, hp5w, hp5g⟩ := hp5
  rw [hp5e]
  obtain ⟨hS6, fx7⟩ := hS.table hp5w hp5g
  have hx8 : V4 (ad 1) = some (1, .inr (7, [.ref (ad 2), .ref (ad 20), .ref (ad 22), .ref (ad 24), .ref (ad 16), .ref (ad 31), .ref (ad 33), .ref (ad 35), .ref (ad 40), .ref (ad 45), .int (zI (σ 30)), .int (zI (σ 31)), .int (zI (σ 32)), .int (zI (σ 33))])) := hS6.1
  have t9o := hp5g _ _ _ t2o (by omega)
  have t9q := hp5g _ _ _ t2q (by omega)
  have t9T := t2T.kept (t9o.trans t2o.symm) (t9q.trans t2q.symm)
  have t9c := t2c
  have t9g := t9T.rg
  show zG C V4 0 0 11 [(0, .ref (ad 1))] []
  refine zr_iconst X 12 dX6_builderChainIsRight_11 rfl ?_
  refine zr_istore_n X 13 [(1, .int (zI (0))), (0, .ref (ad 1))] dX6_builderChainIsRight_12 rfl (by decide) rfl ?_
  refine zr_aload_n X 14 1 dX6_builderChainIsRight_13 rfl rfl ?_
  refine zr_get X 17 7 1 hx8 rfl iX6 (by decide) w2 rfl rfl dX6_builderChainIsRight_14 rfl ?_
  refine zr_callVe (kc' := 0) (ks' := 0) X 20 0 (f_size l Γ hS6.2.2.2.2.1.1) gX6_builderChainIsRight_X2_size rfl (by decide +kernel) rfl (by decide) hS6.2.2.2.2.1.1.cl rfl rfl (Nat.le_of_ble_eq_true rfl) dX6_builderChainIsRight_17 rfl (by omega) (by omega) (fun rv10 V11 hp12 => ?_)
  rw [hp12.1, hp12.2]
  have hp12r := hS6.2.2.2.2.1.1.rg
  show zG C V4 0 0 20 [(1, .int (zI (0))), (0, .ref (ad 1))] [.int (zI (σ 24))]
  refine zr_iconst X 21 dX6_builderChainIsRight_20 rfl ?_
  refine zr_isub X 22 dX6_builderChainIsRight_21 rfl ?_
  refine zr_istore_n X 23 [(2, .int (zI ((σ 24) - 1))), (1, .int (zI (0))), (0, .ref (ad 1))] dX6_builderChainIsRight_22 rfl (by decide) rfl ?_
  have loop : ∀ (N : Nat) (tr : Int) (k : Int), 0 ≤ tr ∧ tr ≤ σ 24 - 1 - k ∧ -1 ≤ k ∧ k ≤ σ 24 - 1 → (k + 1).toNat = N → zG C V4 0 0 23 [(2, .int (zI (k))), (1, .int (zI (tr))), (0, .ref (ad 1))] [] := by
    intro N
    induction N using Nat.strongRecOn with
    | _ N ih =>
    intro tr k hI hN
    obtain ⟨hI1, hI2, hI3, hI4⟩ := id hI
    refine zr_iload_n X 24 0 dX6_builderChainIsRight_23 rfl rfl ?_
    refine zr_if_lt X 75 27 dX6_builderChainIsRight_24 rfl rfl (by omega) (fun bq13 => ?_) (fun bq13 => ?_)
    · refine zr_iload_n X 76 1 dX6_builderChainIsRight_75 rfl rfl ?_
      refine zr_aload_n X 77 2 dX6_builderChainIsRight_76 rfl rfl ?_
      refine zr_get X 80 7 9 hx8 rfl iX6 (by decide) w0 rfl rfl dX6_builderChainIsRight_77 rfl ?_
      refine zr_getNb X 83 hS6.2.2.2.2.2.2.2.2.2.2 iX0 rfl dX6_builderChainIsRight_80 rfl (fun mn14 mn14a => ?_)
      refine zr_icmp_ne X 90 86 dX6_builderChainIsRight_83 rfl rfl (by omega) (by omega) (fun bq15 => ?_) (fun bq15 => ?_)
      · refine zr_iconst X 91 dX6_builderChainIsRight_90 rfl ?_
        exact zr_zret X rfl rfl ⟨⟨0, rfl, by omega⟩, hS6, fx7⟩ dX6_builderChainIsRight_91
      · refine zr_iconst X 87 dX6_builderChainIsRight_86 rfl ?_
        refine zr_goto X 91 dX6_builderChainIsRight_87 rfl ?_
        exact zr_zret X rfl rfl ⟨⟨1, rfl, by omega⟩, hS6, fx7⟩ dX6_builderChainIsRight_91
    · refine zr_aload_n X 28 2 dX6_builderChainIsRight_27 rfl rfl ?_
      refine zr_get X 31 7 1 hx8 rfl iX6 (by decide) w2 rfl rfl dX6_builderChainIsRight_28 rfl ?_
      refine zr_iconst X 32 dX6_builderChainIsRight_31 rfl ?_
      refine zr_iload_n X 33 0 dX6_builderChainIsRight_32 rfl rfl ?_
      refine zr_aload_n X 34 2 dX6_builderChainIsRight_33 rfl rfl ?_
      refine zr_get X 37 7 1 hx8 rfl iX6 (by decide) w2 rfl rfl dX6_builderChainIsRight_34 rfl ?_
      refine zr_aload_n X 38 2 dX6_builderChainIsRight_37 rfl rfl ?_
      refine zr_get X 41 7 1 hx8 rfl iX6 (by decide) w2 rfl rfl dX6_builderChainIsRight_38 rfl ?_
      refine zr_callVe (kc' := 0) (ks' := 0) X 44 0 (f_size l Γ hS6.2.2.2.2.1.1) gX6_builderChainIsRight_X2_size rfl (by decide +kernel) rfl (by decide) hS6.2.2.2.2.1.1.cl rfl rfl (Nat.le_of_ble_eq_true rfl) dX6_builderChainIsRight_41 rfl (by omega) (by omega) (fun rv16 V17 hp18 => ?_)
      rw [hp18.1, hp18.2]
      have hp18r := hS6.2.2.2.2.1.1.rg
      show zG C V4 0 0 44 [(2, .int (zI (k))), (1, .int (zI (tr))), (0, .ref (ad 1))] [.int (zI (σ 24)), .ref (ad 20), .int (zI (k)), .int (zI (0)), .ref (ad 20)]
      refine zr_iload_n X 45 0 dX6_builderChainIsRight_44 rfl rfl ?_
      refine zr_isub X 46 dX6_builderChainIsRight_45 rfl ?_
      refine zr_callS (kc' := 0) (ks' := 0) X 49 5 (m_X6_matches l Γ (V := V4) (fr := 0) (mn := k) (ap := (σ 24) - k) t9T t9T (by omega) (by omega) (by omega)) gX6_builderChainIsRight_X6_matches rfl (by decide +kernel) rfl (by decide) rfl (Nat.le_of_ble_eq_true rfl) dX6_builderChainIsRight_46 rfl (by omega) (by omega) (fun rv19 V20 hp21 => ?_)
      obtain ⟨⟨hp21v, hp21e, hp21a⟩, hp21w⟩ := hp21
      rw [hp21e, hp21w]
      show zG C V4 0 0 49 [(2, .int (zI (k))), (1, .int (zI (tr))), (0, .ref (ad 1))] [.int (zI (hp21v))]
      refine zr_if_eq X 69 52 dX6_builderChainIsRight_49 rfl rfl (by omega) (fun bq22 => ?_) (fun bq22 => ?_)
      · refine zr_iinc X 72 0 [(2, .int (zI (k + (-1)))), (1, .int (zI (tr))), (0, .ref (ad 1))] dX6_builderChainIsRight_69 rfl rfl (by decide) rfl ?_
        refine zr_goto X 23 dX6_builderChainIsRight_72 rfl ?_
        exact ih _ (by omega) tr (k + (-1)) ⟨by omega, by omega, by omega, by omega⟩ rfl
      · refine zr_aload_n X 53 2 dX6_builderChainIsRight_52 rfl rfl ?_
        refine zr_get X 56 7 9 hx8 rfl iX6 (by decide) w0 rfl rfl dX6_builderChainIsRight_53 rfl ?_
        refine zr_iload_n X 57 1 dX6_builderChainIsRight_56 rfl rfl ?_
        refine zr_callVe (kc' := 0) (ks' := 0) X 60 1 (g_linkAt l Γ hS6.2.2.2.2.2.2.2.2.2.2 (k := tr) (by omega)) gX6_builderChainIsRight_X0_linkAt rfl (by decide +kernel) rfl (by decide) hS6.2.2.2.2.2.2.2.2.2.2.cl rfl rfl (Nat.le_of_ble_eq_true rfl) dX6_builderChainIsRight_57 rfl (by omega) (by omega) (fun rv23 V24 hp25 => ?_)
        obtain ⟨hp25x, hp25e, hp25v, hp25a, hp25b⟩ := hp25
        rw [hp25e, hp25v]
        show zG C V4 0 0 60 [(2, .int (zI (k))), (1, .int (zI (tr))), (0, .ref (ad 1))] [.int (zI (hp25x))]
        refine zr_iload_n X 61 0 dX6_builderChainIsRight_60 rfl rfl ?_
        refine zr_icmp_eq X 66 64 dX6_builderChainIsRight_61 rfl rfl (by omega) (by omega) (fun bq26 => ?_) (fun bq26 => ?_)
        · refine zr_iinc X 69 1 [(1, .int (zI (tr + 1))), (2, .int (zI (k))), (0, .ref (ad 1))] dX6_builderChainIsRight_66 rfl rfl (by decide) rfl ?_
          refine zr_iinc X 72 1 [(2, .int (zI (k + (-1)))), (1, .int (zI (tr + 1))), (0, .ref (ad 1))] dX6_builderChainIsRight_69 rfl rfl (by decide) rfl ?_
          refine zr_goto X 23 dX6_builderChainIsRight_72 rfl ?_
          exact ih _ (by omega) (tr + 1) (k + (-1)) ⟨by omega, by omega, by omega, by omega⟩ rfl
        · refine zr_iconst X 65 dX6_builderChainIsRight_64 rfl ?_
          exact zr_zret X rfl rfl ⟨⟨0, rfl, by omega⟩, hS6, fx7⟩ dX6_builderChainIsRight_65
  exact loop _ 0 ((σ 24) - 1) ⟨by omega, by omega, by omega, by omega⟩ rfl
set_option maxRecDepth 100000 in
set_option maxHeartbeats 4000000 in
theorem m_X6_isSound (l : Launch) (Γ : zGam) {V : zV} {ad : Nat → Nat} {σ : Nat → Int} (hS : zS Γ V ad σ) : zM l Γ 10 yX6_isSound wsX6_isSound 0 0 V [.ref (ad 1)] (fun rv V' => (∃ y : Int, rv = some (.int (zI y)) ∧ (y = 0 ∨ y = 1)) ∧ zS Γ V' ad σ ∧ zfx V V') := by
  have w0 : Cond.fieldLink RX6 11 "Sashwords" "windows" "[LSashwords$Window;" ∈ wsX6_isSound := by decide +kernel
  have iX6 : ∀ w ∈ u_ws RX6 TX6 14, w ∈ wsX6_isSound := by decide +kernel
  have w2 : Cond.fieldLink RX6 30 "Sashwords" "line" "LSashwords$Pipe;" ∈ wsX6_isSound := by decide +kernel
  refine zM_of (cc := cX6_isSound) (nL := 2) (ret := (some .boolean)) (own := RX6) (by decide +kernel) rfl rfl (Nat.le_of_ble_eq_true rfl) (fun C X hi0 => ?_)
  have hx1 : V (ad 1) = some (1, .inr (7, [.ref (ad 2), .ref (ad 20), .ref (ad 22), .ref (ad 24), .ref (ad 16), .ref (ad 31), .ref (ad 33), .ref (ad 35), .ref (ad 40), .ref (ad 45), .int (zI (σ 30)), .int (zI (σ 31)), .int (zI (σ 32)), .int (zI (σ 33))])) := hS.1
  show zG C V 0 0 0 [(0, .ref (ad 1))] []
  refine zr_iconst X 1 dX6_isSound_0 rfl ?_
  refine zr_istore_n X 2 [(1, .int (zI (0))), (0, .ref (ad 1))] dX6_isSound_1 rfl (by decide) rfl ?_
  have loop : ∀ (N : Nat) (V1 : zV) (k : Int), zS Γ V1 ad σ ∧ zfx V V1 ∧ 0 ≤ k ∧ k ≤ 6 → (6 - k).toNat = N → zG C V1 0 0 2 [(1, .int (zI (k))), (0, .ref (ad 1))] [] := by
    intro N
    induction N using Nat.strongRecOn with
    | _ N ih =>
    intro V1 k hI hN
    obtain ⟨hI1, hI2, hI3, hI4⟩ := id hI
    have hx2 : V1 (ad 1) = some (1, .inr (7, [.ref (ad 2), .ref (ad 20), .ref (ad 22), .ref (ad 24), .ref (ad 16), .ref (ad 31), .ref (ad 33), .ref (ad 35), .ref (ad 40), .ref (ad 45), .int (zI (σ 30)), .int (zI (σ 31)), .int (zI (σ 32)), .int (zI (σ 33))])) := hI1.1
    refine zr_iload_n X 3 0 dX6_isSound_2 rfl rfl ?_
    refine zr_aload_n X 4 1 dX6_isSound_3 rfl rfl ?_
    refine zr_get X 7 7 0 hx2 rfl iX6 (by decide) w0 rfl rfl dX6_isSound_4 rfl ?_
    refine zr_alenq X 8 3 hI1.2.1.1 (by decide) dX6_isSound_7 rfl ?_
    refine zr_icmp_ge X 57 11 dX6_isSound_8 rfl rfl (by omega) (by omega) (fun bq3 => ?_) (fun bq3 => ?_)
    · refine zr_aload_n X 58 1 dX6_isSound_57 rfl rfl ?_
      refine zr_callVe (kc' := 0) (ks' := 0) X 61 0 (m_X6_builderIsSearchedRightly l Γ hI1) gX6_isSound_X6_builderIsSearchedRightly rfl (by decide +kernel) rfl (by decide) hI1.x rfl rfl (Nat.le_of_ble_eq_true rfl) dX6_isSound_58 rfl (by omega) (by omega) (fun rv4 V5 hp6 => ?_)
      obtain ⟨⟨hp6y, hp6e, hp6a⟩, hp6s, hp6x⟩ := hp6
      rw [hp6e]
      have fx7 := zag.tr hI2 hp6x
      have hx8 : V5 (ad 1) = some (1, .inr (7, [.ref (ad 2), .ref (ad 20), .ref (ad 22), .ref (ad 24), .ref (ad 16), .ref (ad 31), .ref (ad 33), .ref (ad 35), .ref (ad 40), .ref (ad 45), .int (zI (σ 30)), .int (zI (σ 31)), .int (zI (σ 32)), .int (zI (σ 33))])) := hp6s.1
      show zG C V5 0 0 61 [(1, .int (zI (k))), (0, .ref (ad 1))] [.int (zI (hp6y))]
      refine zr_if_eq X 85 64 dX6_isSound_61 rfl rfl (by omega) (fun bq9 => ?_) (fun bq9 => ?_)
      · refine zr_iconst X 86 dX6_isSound_85 rfl ?_
        exact zr_zret X rfl rfl ⟨⟨0, rfl, by omega⟩, hp6s, fx7⟩ dX6_isSound_86
      · refine zr_aload_n X 65 1 dX6_isSound_64 rfl rfl ?_
        refine zr_callVe (kc' := 0) (ks' := 0) X 68 0 (m_X6_builderChainIsRight l Γ hp6s) gX6_isSound_X6_builderChainIsRight rfl (by decide +kernel) rfl (by decide) hp6s.x rfl rfl (Nat.le_of_ble_eq_true rfl) dX6_isSound_65 rfl (by omega) (by omega) (fun rv10 V11 hp12 => ?_)
        obtain ⟨⟨hp12y, hp12e, hp12a⟩, hp12s, hp12x⟩ := hp12
        rw [hp12e]
        have fx13 := zag.tr fx7 hp12x
        have hx14 : V11 (ad 1) = some (1, .inr (7, [.ref (ad 2), .ref (ad 20), .ref (ad 22), .ref (ad 24), .ref (ad 16), .ref (ad 31), .ref (ad 33), .ref (ad 35), .ref (ad 40), .ref (ad 45), .int (zI (σ 30)), .int (zI (σ 31)), .int (zI (σ 32)), .int (zI (σ 33))])) := hp12s.1
        show zG C V11 0 0 68 [(1, .int (zI (k))), (0, .ref (ad 1))] [.int (zI (hp12y))]
        refine zr_if_eq X 85 71 dX6_isSound_68 rfl rfl (by omega) (fun bq15 => ?_) (fun bq15 => ?_)
        · refine zr_iconst X 86 dX6_isSound_85 rfl ?_
          exact zr_zret X rfl rfl ⟨⟨0, rfl, by omega⟩, hp12s, fx13⟩ dX6_isSound_86
        · refine zr_aload_n X 72 1 dX6_isSound_71 rfl rfl ?_
          refine zr_get X 75 7 3 hx14 rfl iX6 (by decide) w2 rfl rfl dX6_isSound_72 rfl ?_
          refine zr_callVe (kc' := 0) (ks' := 0) X 78 0 (h_isWhole l Γ hp12s) gX6_isSound_X1_isWhole rfl (by decide +kernel) rfl (by decide) hp12s.pcl rfl rfl (Nat.le_of_ble_eq_true rfl) dX6_isSound_75 rfl (by omega) (by omega) (fun rv16 V17 hp18 => ?_)
          obtain ⟨⟨hp18v, hp18e, hp18a⟩, hp18w⟩ := hp18
          rw [hp18e, hp18w]
          show zG C V11 0 0 78 [(1, .int (zI (k))), (0, .ref (ad 1))] [.int (zI (hp18v))]
          refine zr_if_eq X 85 81 dX6_isSound_78 rfl rfl (by omega) (fun bq19 => ?_) (fun bq19 => ?_)
          · refine zr_iconst X 86 dX6_isSound_85 rfl ?_
            exact zr_zret X rfl rfl ⟨⟨0, rfl, by omega⟩, hp12s, fx13⟩ dX6_isSound_86
          · refine zr_iconst X 82 dX6_isSound_81 rfl ?_
            refine zr_goto X 86 dX6_isSound_82 rfl ?_
            exact zr_zret X rfl rfl ⟨⟨1, rfl, by omega⟩, hp12s, fx13⟩ dX6_isSound_86
    · refine zr_aload_n X 12 1 dX6_isSound_11 rfl rfl ?_
      refine zr_get X 15 7 0 hx2 rfl iX6 (by decide) w0 rfl rfl dX6_isSound_12 rfl ?_
      refine zr_iload_n X 16 0 dX6_isSound_15 rfl rfl ?_
      refine zr_aald X 17 (.ref (ad (10 + k.toNat))) hI1.2.1.1 (by omega) rfl dX6_isSound_16 rfl ?_
      have hw20 := hI1.w (i := k.toNat) (by omega)
      have hw20r := hw20.rg
      refine zr_callVe (kc' := 0) (ks' := 0) X 20 0 (e_isOrdered l Γ hw20) gX6_isSound_X5_isOrdered rfl (by decide +kernel) rfl (by decide) hw20.cl rfl rfl (Nat.le_of_ble_eq_true rfl) dX6_isSound_17 rfl (by omega) (by omega) (fun rv21 V22 hp23 => ?_)
      rw [hp23.1, hp23.2]
      show zG C V1 0 0 20 [(1, .int (zI (k))), (0, .ref (ad 1))] [.int (zI (1))]
      refine zr_if_eq X 49 23 dX6_isSound_20 rfl rfl (by omega) (fun bq24 => absurd bq24 (by omega)) (fun bq24 => ?_)
      refine zr_aload_n X 24 1 dX6_isSound_23 rfl rfl ?_
      refine zr_aload_n X 25 1 dX6_isSound_24 rfl rfl ?_
      refine zr_get X 28 7 0 hx2 rfl iX6 (by decide) w0 rfl rfl dX6_isSound_25 rfl ?_
      refine zr_iload_n X 29 0 dX6_isSound_28 rfl rfl ?_
      refine zr_aald X 30 (.ref (ad (10 + k.toNat))) hI1.2.1.1 (by omega) rfl dX6_isSound_29 rfl ?_
      refine zr_callVe (kc' := 0) (ks' := 0) X 33 1 (m_X6_readsAlike l Γ hI1 (q := k) (by omega)) gX6_isSound_X6_readsAlike rfl (by decide +kernel) rfl (by decide) hI1.x rfl rfl (Nat.le_of_ble_eq_true rfl) dX6_isSound_30 rfl (by omega) (by omega) (fun rv25 V26 hp27 => ?_)
      obtain ⟨⟨hp27y, hp27e, hp27a⟩, hp27s, hp27x⟩ := hp27
      rw [hp27e]
      have fx28 := zag.tr hI2 hp27x
      have hx29 : V26 (ad 1) = some (1, .inr (7, [.ref (ad 2), .ref (ad 20), .ref (ad 22), .ref (ad 24), .ref (ad 16), .ref (ad 31), .ref (ad 33), .ref (ad 35), .ref (ad 40), .ref (ad 45), .int (zI (σ 30)), .int (zI (σ 31)), .int (zI (σ 32)), .int (zI (σ 33))])) := hp27s.1
      have hw30 := hp27s.w (i := k.toNat) (by omega)
      have hw30r := hw30.rg
      show zG C V26 0 0 33 [(1, .int (zI (k))), (0, .ref (ad 1))] [.int (zI (hp27y))]
      refine zr_if_eq X 49 36 dX6_isSound_33 rfl rfl (by omega) (fun bq31 => ?_) (fun bq31 => ?_)
      · refine zr_iconst X 50 dX6_isSound_49 rfl ?_
        exact zr_zret X rfl rfl ⟨⟨0, rfl, by omega⟩, hp27s, fx28⟩ dX6_isSound_50
      · refine zr_aload_n X 37 1 dX6_isSound_36 rfl rfl ?_
        refine zr_aload_n X 38 1 dX6_isSound_37 rfl rfl ?_
        refine zr_get X 41 7 0 hx29 rfl iX6 (by decide) w0 rfl rfl dX6_isSound_38 rfl ?_
        refine zr_iload_n X 42 0 dX6_isSound_41 rfl rfl ?_
        refine zr_aald X 43 (.ref (ad (10 + k.toNat))) hp27s.2.1.1 (by omega) rfl dX6_isSound_42 rfl ?_
        refine zr_callVe (kc' := 0) (ks' := 0) X 46 1 (m_X6_keptLiesAlike l Γ hp27s (q := k) (by omega)) gX6_isSound_X6_keptLiesAlike rfl (by decide +kernel) rfl (by decide) hp27s.x rfl rfl (Nat.le_of_ble_eq_true rfl) dX6_isSound_43 rfl (by omega) (by omega) (fun rv32 V33 hp34 => ?_)
        obtain ⟨⟨hp34y, hp34e, hp34a⟩, hp34s, hp34x⟩ := hp34
        rw [hp34e]
        have fx35 := zag.tr fx28 hp34x
        have hx36 : V33 (ad 1) = some (1, .inr (7, [.ref (ad 2), .ref (ad 20), .ref (ad 22), .ref (ad 24), .ref (ad 16), .ref (ad 31), .ref (ad 33), .ref (ad 35), .ref (ad 40), .ref (ad 45), .int (zI (σ 30)), .int (zI (σ 31)), .int (zI (σ 32)), .int (zI (σ 33))])) := hp34s.1
        have hw37 := hp34s.w (i := k.toNat) (by omega)
        have hw37r := hw37.rg
        show zG C V33 0 0 46 [(1, .int (zI (k))), (0, .ref (ad 1))] [.int (zI (hp34y))]
        refine zr_if_ne X 51 49 dX6_isSound_46 rfl rfl (by omega) (fun bq38 => ?_) (fun bq38 => ?_)
        · refine zr_iinc X 54 0 [(1, .int (zI (k + 1))), (0, .ref (ad 1))] dX6_isSound_51 rfl rfl (by decide) rfl ?_
          refine zr_goto X 2 dX6_isSound_54 rfl ?_
          exact ih _ (by omega) V33 (k + 1) ⟨hp34s, fx35, by omega, by omega⟩ rfl
        · refine zr_iconst X 50 dX6_isSound_49 rfl ?_
          exact zr_zret X rfl rfl ⟨⟨0, rfl, by omega⟩, hp34s, fx35⟩ dX6_isSound_50
  exact loop _ V 0 ⟨hS, zag.rf, by omega, by omega⟩ rfl
set_option maxRecDepth 100000 in
set_option maxHeartbeats 4000000 in
theorem m_X6_mixed (l : Launch) (Γ : zGam) {V : zV} {x y : Int64}  : zM l Γ 0 yX6_mixed wsX6_mixed 0 0 V [.long (x), .long (y)] (fun rv V' => (∃ z : Int64, rv = some (.long z)) ∧ V' = V) := by
  have w0 : Cond.constantLong RX6 353 (31) ∈ wsX6_mixed := by decide +kernel
  refine zM_of (cc := cX6_mixed) (nL := 4) (ret := (some .long)) (own := RX6) (by decide +kernel) rfl rfl (Nat.le_of_ble_eq_true rfl) (fun C X hi0 => ?_)
  show zG C V 0 0 0 [(0, .long (x)), (2, .long (y))] []
  refine zr_lload_n X 1 0 dX6_mixed_0 rfl rfl ?_
  refine zr_ldc2 X 4 (v := 31) dX6_mixed_1 rfl w0 ?_
  refine zr_lmul X 5 dX6_mixed_4 rfl ?_
  refine zr_lload_n X 6 1 dX6_mixed_5 rfl rfl ?_
  refine zr_ladd X 7 dX6_mixed_6 rfl ?_
  exact zr_lret X rfl ⟨⟨_, rfl⟩, rfl⟩ dX6_mixed_7
set_option maxRecDepth 100000 in
set_option maxHeartbeats 4000000 in
theorem m_X6_mixedWithText (l : Launch) (Γ : zGam) {V : zV} {x : Int64} {o r : Nat} {m : Int} {h' : Int → Int} (hT : zTx Γ V o r m h') : zM l Γ 4 yX6_mixedWithText wsX6_mixedWithText 0 0 V [.long (x), .ref o] (fun rv V' => (∃ z : Int64, rv = some (.long z)) ∧ V' = V) := by
  refine zM_of (cc := cX6_mixedWithText) (nL := 6) (ret := (some .long)) (own := RX6) (by decide +kernel) rfl rfl (Nat.le_of_ble_eq_true rfl) (fun C X hi0 => ?_)
  have hTr := hT.rg
  show zG C V 0 0 0 [(0, .long (x)), (2, .ref o)] []
  refine zr_lload_n X 1 0 dX6_mixedWithText_0 rfl rfl ?_
  refine zr_lstore_n X 2 [(3, .long (x)), (0, .long (x)), (2, .ref o)] dX6_mixedWithText_1 rfl (by decide) rfl ?_
  refine zr_iconst X 3 dX6_mixedWithText_2 rfl ?_
  refine zr_istore X 5 [(5, .int (zI (0))), (3, .long (x)), (0, .long (x)), (2, .ref o)] dX6_mixedWithText_3 rfl (by decide) rfl ?_
  refine zr_sub [0, 1, 3, 2] [(5, .int (zI (0))), (3, .long (x)), (2, .ref o), (0, .long (x))] rfl ?_
  have loop : ∀ (N : Nat) (y : Int64) (k : Int), 0 ≤ k ∧ k ≤ m → (m - k).toNat = N → zG C V 0 0 5 [(5, .int (zI (k))), (3, .long (y)), (2, .ref o), (0, .long (x))] [] := by
    intro N
    induction N using Nat.strongRecOn with
    | _ N ih =>
    intro y k hI hN
    obtain ⟨hI1, hI2⟩ := id hI
    refine zr_iload X 7 0 dX6_mixedWithText_5 rfl rfl ?_
    refine zr_aload_n X 8 2 dX6_mixedWithText_7 rfl rfl ?_
    refine zr_txSize X 11 hT gX6_mixedWithText_X5_size_u165X5 gX6_mixedWithText_X2_size_u165X2 (by decide) (Nat.le_of_ble_eq_true rfl) dX6_mixedWithText_8 rfl ?_
    refine zr_icmp_ge X 32 14 dX6_mixedWithText_11 rfl rfl (by omega) (by omega) (fun bq1 => ?_) (fun bq1 => ?_)
    · refine zr_lload_n X 33 1 dX6_mixedWithText_32 rfl rfl ?_
      exact zr_lret X rfl ⟨⟨_, rfl⟩, rfl⟩ dX6_mixedWithText_33
    · refine zr_lload_n X 15 1 dX6_mixedWithText_14 rfl rfl ?_
      refine zr_aload_n X 16 2 dX6_mixedWithText_15 rfl rfl ?_
      refine zr_iload X 18 0 dX6_mixedWithText_16 rfl rfl ?_
      refine zr_txAt X 21 hT (by omega) gX6_mixedWithText_X5_at_u334X5 gX6_mixedWithText_X2_at_u334X2 (by decide) (Nat.le_of_ble_eq_true rfl) dX6_mixedWithText_18 rfl ?_
      rw [if_pos (show 0 ≤ k ∧ k < m by omega)]
      have hx2 := hTr.2.2 k
      show zG C V 0 0 21 [(5, .int (zI (k))), (3, .long (y)), (2, .ref o), (0, .long (x))] [.int (zI (h' k)), .long (y)]
      refine zr_i2l X 22 dX6_mixedWithText_21 rfl ?_
      obtain ⟨y3, y3e⟩ : ∃ zz9 : Int64, zz9 = (zI (h' k)).toInt64 := ⟨_, rfl⟩
      rw [← y3e]
      refine zr_callS (kc' := 0) (ks' := 0) X 25 2 (m_X6_mixed l Γ (V := V) (x := y) (y := y3)) gX6_mixedWithText_X6_mixed rfl (by decide +kernel) rfl (by decide) rfl (Nat.le_of_ble_eq_true rfl) dX6_mixedWithText_22 rfl (by omega) (by omega) (fun rv4 V5 hp6 => ?_)
      obtain ⟨⟨hp6z, hp6e⟩, hp6v⟩ := hp6
      rw [hp6e, hp6v]
      show zG C V 0 0 25 [(5, .int (zI (k))), (3, .long (y)), (2, .ref o), (0, .long (x))] [.long (hp6z)]
      refine zr_lstore_n X 26 [(3, .long (hp6z)), (5, .int (zI (k))), (2, .ref o), (0, .long (x))] dX6_mixedWithText_25 rfl (by decide) rfl ?_
      refine zr_iinc X 29 1 [(5, .int (zI (k + 1))), (3, .long (hp6z)), (2, .ref o), (0, .long (x))] dX6_mixedWithText_26 rfl rfl (by decide) rfl ?_
      refine zr_goto X 5 dX6_mixedWithText_29 rfl ?_
      exact ih _ (by omega) hp6z (k + 1) ⟨by omega, by omega⟩ rfl
  exact loop _ x 0 ⟨by omega, by omega⟩ rfl
set_option maxRecDepth 100000 in
set_option maxHeartbeats 4000000 in
theorem m_X6_mixedWithWindow (l : Launch) (Γ : zGam) {V : zV} {ad : Nat → Nat} {σ : Nat → Int} {x : Int64} {q : Int} (hS : zS Γ V ad σ) (hq : 0 ≤ q ∧ q < 6) : zM l Γ 9 yX6_mixedWithWindow wsX6_mixedWithWindow 0 0 V [.ref (ad 1), .long (x), .ref (ad (10 + q.toNat))] (fun rv V' => (∃ z : Int64, rv = some (.long z)) ∧ zS Γ V' ad σ ∧ zfx V V') := by
  have iX5 : ∀ w ∈ u_ws RX5 TX5 6, w ∈ wsX6_mixedWithWindow := by decide +kernel
  have w1 : Cond.fieldLink RX6 48 "Sashwords" "road" "LSashwords$Seeker;" ∈ wsX6_mixedWithWindow := by decide +kernel
  have iX6 : ∀ w ∈ u_ws RX6 TX6 14, w ∈ wsX6_mixedWithWindow := by decide +kernel
  have w3 : Cond.fieldLink RX6 24 "Sashwords" "kept" "LSashwords$Script;" ∈ wsX6_mixedWithWindow := by decide +kernel
  refine zM_of (cc := cX6_mixedWithWindow) (nL := 6) (ret := (some .long)) (own := RX6) (by decide +kernel) rfl rfl (Nat.le_of_ble_eq_true rfl) (fun C X hi0 => ?_)
  have hx1 : V (ad 1) = some (1, .inr (7, [.ref (ad 2), .ref (ad 20), .ref (ad 22), .ref (ad 24), .ref (ad 16), .ref (ad 31), .ref (ad 33), .ref (ad 35), .ref (ad 40), .ref (ad 45), .int (zI (σ 30)), .int (zI (σ 31)), .int (zI (σ 32)), .int (zI (σ 33))])) := hS.1
  obtain ⟨_, -, -, -, hk0, hk80⟩ := hS.2.2.2.2.1.2.1
  have hw2 := hS.w (i := q.toNat) (by omega)
  have hw2r := hw2.rg
  show zG C V 0 0 0 [(0, .ref (ad 1)), (1, .long (x)), (3, .ref (ad (10 + q.toNat)))] []
  refine zr_lload_n X 1 1 dX6_mixedWithWindow_0 rfl rfl ?_
  refine zr_aload_n X 2 2 dX6_mixedWithWindow_1 rfl rfl ?_
  refine zr_getNw X 5 4 5 hw2 (σ (4 * q.toNat + 2)) (by simp) iX5 rfl dX6_mixedWithWindow_2 rfl ?_
  refine zr_i2l X 6 dX6_mixedWithWindow_5 rfl ?_
  obtain ⟨y3, y3e⟩ : ∃ zz9 : Int64, zz9 = (zI (σ (4 * q.toNat + 2))).toInt64 := ⟨_, rfl⟩
  rw [← y3e]
  refine zr_callS (kc' := 0) (ks' := 0) X 9 2 (m_X6_mixed l Γ (V := V) (x := x) (y := y3)) gX6_mixedWithWindow_X6_mixed rfl (by decide +kernel) rfl (by decide) rfl (Nat.le_of_ble_eq_true rfl) dX6_mixedWithWindow_6 rfl (by omega) (by omega) (fun rv4 V5 hp6 => ?_)
  obtain ⟨⟨hp6z, hp6e⟩, hp6v⟩ := hp6
  rw [hp6e, hp6v]
  show zG C V 0 0 9 [(0, .ref (ad 1)), (1, .long (x)), (3, .ref (ad (10 + q.toNat)))] [.long (hp6z)]
  refine zr_lstore X 11 [(4, .long (hp6z)), (0, .ref (ad 1)), (1, .long (x)), (3, .ref (ad (10 + q.toNat)))] dX6_mixedWithWindow_9 rfl (by decide) rfl ?_
  refine zr_lload X 13 0 dX6_mixedWithWindow_11 rfl rfl ?_
  refine zr_aload_n X 14 3 dX6_mixedWithWindow_13 rfl rfl ?_
  refine zr_getNw X 17 3 4 hw2 (σ (4 * q.toNat + 1)) (by simp) iX5 rfl dX6_mixedWithWindow_14 rfl ?_
  refine zr_i2l X 18 dX6_mixedWithWindow_17 rfl ?_
  obtain ⟨y7, y7e⟩ : ∃ zz9 : Int64, zz9 = (zI (σ (4 * q.toNat + 1))).toInt64 := ⟨_, rfl⟩
  rw [← y7e]
  refine zr_callS (kc' := 0) (ks' := 0) X 21 2 (m_X6_mixed l Γ (V := V) (x := hp6z) (y := y7)) gX6_mixedWithWindow_X6_mixed rfl (by decide +kernel) rfl (by decide) rfl (Nat.le_of_ble_eq_true rfl) dX6_mixedWithWindow_18 rfl (by omega) (by omega) (fun rv8 V9 hp10 => ?_)
  obtain ⟨⟨hp10z, hp10e⟩, hp10v⟩ := hp10
  rw [hp10e, hp10v]
  show zG C V 0 0 21 [(4, .long (hp6z)), (0, .ref (ad 1)), (1, .long (x)), (3, .ref (ad (10 + q.toNat)))] [.long (hp10z)]
  refine zr_lstore X 23 [(4, .long (hp10z)), (0, .ref (ad 1)), (1, .long (x)), (3, .ref (ad (10 + q.toNat)))] dX6_mixedWithWindow_21 rfl (by decide) rfl ?_
  refine zr_lload X 25 0 dX6_mixedWithWindow_23 rfl rfl ?_
  refine zr_aload_n X 26 3 dX6_mixedWithWindow_25 rfl rfl ?_
  refine zr_getNw X 29 2 3 hw2 (σ (4 * q.toNat)) (by simp) iX5 rfl dX6_mixedWithWindow_26 rfl ?_
  refine zr_i2l X 30 dX6_mixedWithWindow_29 rfl ?_
  obtain ⟨y11, y11e⟩ : ∃ zz9 : Int64, zz9 = (zI (σ (4 * q.toNat))).toInt64 := ⟨_, rfl⟩
  rw [← y11e]
  refine zr_callS (kc' := 0) (ks' := 0) X 33 2 (m_X6_mixed l Γ (V := V) (x := hp10z) (y := y11)) gX6_mixedWithWindow_X6_mixed rfl (by decide +kernel) rfl (by decide) rfl (Nat.le_of_ble_eq_true rfl) dX6_mixedWithWindow_30 rfl (by omega) (by omega) (fun rv12 V13 hp14 => ?_)
  obtain ⟨⟨hp14z, hp14e⟩, hp14v⟩ := hp14
  rw [hp14e, hp14v]
  show zG C V 0 0 33 [(4, .long (hp10z)), (0, .ref (ad 1)), (1, .long (x)), (3, .ref (ad (10 + q.toNat)))] [.long (hp14z)]
  refine zr_lstore X 35 [(4, .long (hp14z)), (0, .ref (ad 1)), (1, .long (x)), (3, .ref (ad (10 + q.toNat)))] dX6_mixedWithWindow_33 rfl (by decide) rfl ?_
  refine zr_lload X 37 0 dX6_mixedWithWindow_35 rfl rfl ?_
  refine zr_aload_n X 38 3 dX6_mixedWithWindow_37 rfl rfl ?_
  refine zr_getNw X 41 5 6 hw2 (σ (4 * q.toNat + 3)) (by simp) iX5 rfl dX6_mixedWithWindow_38 rfl ?_
  refine zr_i2l X 42 dX6_mixedWithWindow_41 rfl ?_
  obtain ⟨y15, y15e⟩ : ∃ zz9 : Int64, zz9 = (zI (σ (4 * q.toNat + 3))).toInt64 := ⟨_, rfl⟩
  rw [← y15e]
  refine zr_callS (kc' := 0) (ks' := 0) X 45 2 (m_X6_mixed l Γ (V := V) (x := hp14z) (y := y15)) gX6_mixedWithWindow_X6_mixed rfl (by decide +kernel) rfl (by decide) rfl (Nat.le_of_ble_eq_true rfl) dX6_mixedWithWindow_42 rfl (by omega) (by omega) (fun rv16 V17 hp18 => ?_)
  obtain ⟨⟨hp18z, hp18e⟩, hp18v⟩ := hp18
  rw [hp18e, hp18v]
  show zG C V 0 0 45 [(4, .long (hp14z)), (0, .ref (ad 1)), (1, .long (x)), (3, .ref (ad (10 + q.toNat)))] [.long (hp18z)]
  refine zr_lstore X 47 [(4, .long (hp18z)), (0, .ref (ad 1)), (1, .long (x)), (3, .ref (ad (10 + q.toNat)))] dX6_mixedWithWindow_45 rfl (by decide) rfl ?_
  refine zr_lload X 49 0 dX6_mixedWithWindow_47 rfl rfl ?_
  refine zr_aload_n X 50 3 dX6_mixedWithWindow_49 rfl rfl ?_
  obtain ⟨t19r, t19e, t19e2, t19h, t19T, t19o, t19q⟩ := hw2.tx
  have t19g := t19T.rg
  have t19c := True.intro
  refine zr_callS (kc' := 0) (ks' := 0) X 53 2 (m_X6_mixedWithText l Γ (V := V) (x := hp18z) t19T) gX6_mixedWithWindow_X6_mixedWithText rfl (by decide +kernel) rfl (by decide) rfl (Nat.le_of_ble_eq_true rfl) dX6_mixedWithWindow_50 rfl (by omega) (by omega) (fun rv20 V21 hp22 => ?_)
  obtain ⟨⟨hp22z, hp22e⟩, hp22v⟩ := hp22
  rw [hp22e, hp22v]
  show zG C V 0 0 53 [(4, .long (hp18z)), (0, .ref (ad 1)), (1, .long (x)), (3, .ref (ad (10 + q.toNat)))] [.long (hp22z)]
  refine zr_lstore X 55 [(4, .long (hp22z)), (0, .ref (ad 1)), (1, .long (x)), (3, .ref (ad (10 + q.toNat)))] dX6_mixedWithWindow_53 rfl (by decide) rfl ?_
  refine zr_lload X 57 0 dX6_mixedWithWindow_55 rfl rfl ?_
  refine zr_aload_n X 58 1 dX6_mixedWithWindow_57 rfl rfl ?_
  refine zr_aload_n X 59 3 dX6_mixedWithWindow_58 rfl rfl ?_
  refine zr_callVe (kc' := 0) (ks' := 0) X 62 1 (m_X6_greatestBorder l Γ hS t19T t19o t19q (by omega) (by omega)) gX6_mixedWithWindow_X6_greatestBorder rfl (by decide +kernel) rfl (by decide) hS.x rfl rfl (Nat.le_of_ble_eq_true rfl) dX6_mixedWithWindow_59 rfl (by omega) (by omega) (fun rv23 V24 hp25 => ?_)
  obtain ⟨hp25y, hp25s, hp25e, hS26, fx27, hp25a, hp25b, hp25q, hp25z⟩ := hp25
  rw [hp25e]
  rw [hp25q] at hS26
  have hx28 : V24 (ad 1) = some (1, .inr (7, [.ref (ad 2), .ref (ad 20), .ref (ad 22), .ref (ad 24), .ref (ad 16), .ref (ad 31), .ref (ad 33), .ref (ad 35), .ref (ad 40), .ref (ad 45), .int (zI (σ 30)), .int (zI (σ 31)), .int (zI (σ 32)), .int (zI (σ 33))])) := hS26.1
  show zG C V24 0 0 62 [(4, .long (hp22z)), (0, .ref (ad 1)), (1, .long (x)), (3, .ref (ad (10 + q.toNat)))] [.int (zI (hp25y)), .long (hp22z)]
  have hw29 := hS26.w (i := q.toNat) (by omega)
  have hw29r := hw29.rg
  refine zr_i2l X 63 dX6_mixedWithWindow_62 rfl ?_
  obtain ⟨y30, y30e⟩ : ∃ zz9 : Int64, zz9 = (zI (hp25y)).toInt64 := ⟨_, rfl⟩
  rw [← y30e]
  refine zr_callS (kc' := 0) (ks' := 0) X 66 2 (m_X6_mixed l Γ (V := V24) (x := hp22z) (y := y30)) gX6_mixedWithWindow_X6_mixed rfl (by decide +kernel) rfl (by decide) rfl (Nat.le_of_ble_eq_true rfl) dX6_mixedWithWindow_63 rfl (by omega) (by omega) (fun rv31 V32 hp33 => ?_)
  obtain ⟨⟨hp33z, hp33e⟩, hp33v⟩ := hp33
  rw [hp33e, hp33v]
  show zG C V24 0 0 66 [(4, .long (hp22z)), (0, .ref (ad 1)), (1, .long (x)), (3, .ref (ad (10 + q.toNat)))] [.long (hp33z)]
  refine zr_lstore X 68 [(4, .long (hp33z)), (0, .ref (ad 1)), (1, .long (x)), (3, .ref (ad (10 + q.toNat)))] dX6_mixedWithWindow_66 rfl (by decide) rfl ?_
  refine zr_aload_n X 69 1 dX6_mixedWithWindow_68 rfl rfl ?_
  refine zr_get X 72 7 7 hx28 rfl iX6 (by decide) w1 rfl rfl dX6_mixedWithWindow_69 rfl ?_
  refine zr_aload_n X 73 3 dX6_mixedWithWindow_72 rfl rfl ?_
  refine zr_aload_n X 74 1 dX6_mixedWithWindow_73 rfl rfl ?_
  refine zr_get X 77 7 2 hx28 rfl iX6 (by decide) w3 rfl rfl dX6_mixedWithWindow_74 rfl ?_
  obtain ⟨t34r, t34e, t34e2, t34h, t34T, t34o, t34q⟩ := hw29.tx
  have t34g := t34T.rg
  have t34c := True.intro
  obtain ⟨t35e, t35e2, t35h, t35T, t35o, t35q⟩ := hS26.2.2.2.2.1.2.1.tx (by decide)
  have t35g := t35T.rg
  have t35c := True.intro
  refine zr_callVe (kc' := 0) (ks' := 0) X 80 2 (g_seek l Γ hS26.2.2.2.2.2.2.1 hS26.2.2.2.2.2.2.2.1 t34T t34o t34q t35T t35o t35q (by omega) (by omega) (by decide) (by omega) (by omega)) gX6_mixedWithWindow_X3_seek rfl (by decide +kernel) rfl (by decide) hS26.2.2.2.2.2.2.1.cl rfl rfl (Nat.le_of_ble_eq_true rfl) dX6_mixedWithWindow_77 rfl (by omega) (by omega) (fun rv36 V37 hp38 => ?_)
  obtain ⟨hp38e, ⟨hp38m, hp38f, hp38x, hp38z⟩, hp38w, hp38g⟩ := hp38
  rw [hp38e]
  have hp38r := hp38x.2.2.2
  obtain ⟨hS39, fx40⟩ := hS26.road hp38x.sk hp38w hp38g
  have fx41 := zag.tr fx27 fx40
  have hx42 : V37 (ad 1) = some (1, .inr (7, [.ref (ad 2), .ref (ad 20), .ref (ad 22), .ref (ad 24), .ref (ad 16), .ref (ad 31), .ref (ad 33), .ref (ad 35), .ref (ad 40), .ref (ad 45), .int (zI (σ 30)), .int (zI (σ 31)), .int (zI (σ 32)), .int (zI (σ 33))])) := hS39.1
  have t43o := hp38g _ _ _ t34o (by omega)
  have t43q := hp38g _ _ _ t34q (by omega)
  have t43T := t34T.kept (t43o.trans t34o.symm) (t43q.trans t34q.symm)
  have t43c := t34c
  have t43g := t43T.rg
  have t44o := hp38g _ _ _ t35o (by omega)
  have t44q := hp38g _ _ _ t35q (by omega)
  have t44T := t35T.kept (t44o.trans t35o.symm) (t44q.trans t35q.symm)
  have t44c := t35c
  have t44g := t44T.rg
  show zG C V37 0 0 80 [(4, .long (hp33z)), (0, .ref (ad 1)), (1, .long (x)), (3, .ref (ad (10 + q.toNat)))] []
  have hw45 := hS39.w (i := q.toNat) (by omega)
  have hw45r := hw45.rg
  refine zr_lload X 82 0 dX6_mixedWithWindow_80 rfl rfl ?_
  refine zr_aload_n X 83 1 dX6_mixedWithWindow_82 rfl rfl ?_
  refine zr_get X 86 7 7 hx42 rfl iX6 (by decide) w1 rfl rfl dX6_mixedWithWindow_83 rfl ?_
  refine zr_iconst X 87 dX6_mixedWithWindow_86 rfl ?_
  refine zr_callVe (kc' := 0) (ks' := 0) X 90 1 (g_foundAtx l Γ hp38x (q := 0) (by omega)) gX6_mixedWithWindow_X3_foundAt rfl (by decide +kernel) rfl (by decide) hS39.2.2.2.2.2.2.1.cl rfl rfl (Nat.le_of_ble_eq_true rfl) dX6_mixedWithWindow_87 rfl (by omega) (by omega) (fun rv46 V47 hp48 => ?_)
  obtain ⟨hp48x, hp48e, hp48v, hp48a, hp48b, hp48c⟩ := hp48
  rw [hp48e, hp48v]
  show zG C V37 0 0 90 [(4, .long (hp33z)), (0, .ref (ad 1)), (1, .long (x)), (3, .ref (ad (10 + q.toNat)))] [.int (zI (hp48x)), .long (hp33z)]
  refine zr_i2l X 91 dX6_mixedWithWindow_90 rfl ?_
  obtain ⟨y49, y49e⟩ : ∃ zz9 : Int64, zz9 = (zI (hp48x)).toInt64 := ⟨_, rfl⟩
  rw [← y49e]
  refine zr_callS (kc' := 0) (ks' := 0) X 94 2 (m_X6_mixed l Γ (V := V37) (x := hp33z) (y := y49)) gX6_mixedWithWindow_X6_mixed rfl (by decide +kernel) rfl (by decide) rfl (Nat.le_of_ble_eq_true rfl) dX6_mixedWithWindow_91 rfl (by omega) (by omega) (fun rv50 V51 hp52 => ?_)
  obtain ⟨⟨hp52z, hp52e⟩, hp52v⟩ := hp52
  rw [hp52e, hp52v]
  show zG C V37 0 0 94 [(4, .long (hp33z)), (0, .ref (ad 1)), (1, .long (x)), (3, .ref (ad (10 + q.toNat)))] [.long (hp52z)]
  exact zr_lret X rfl ⟨⟨_, rfl⟩, hS39, fx41⟩ dX6_mixedWithWindow_94
set_option maxRecDepth 100000 in
set_option maxHeartbeats 4000000 in
theorem m_X6_digest (l : Launch) (Γ : zGam) {V : zV} {ad : Nat → Nat} {σ : Nat → Int} (hS : zS Γ V ad σ) : zM l Γ 11 yX6_digest wsX6_digest 0 0 V [.ref (ad 1)] (fun rv V' => (∃ z : Int64, rv = some (.long z)) ∧ zS Γ V' ad σ ∧ zfx V V') := by
  have hbR := hS.2.2.2.2.1.1.rg
  have hkR := hS.2.2.2.2.1.2.1.rg
  have w0 : Cond.constantLong RX6 285 (7702) ∈ wsX6_digest := by decide +kernel
  have w1 : Cond.fieldLink RX6 11 "Sashwords" "windows" "[LSashwords$Window;" ∈ wsX6_digest := by decide +kernel
  have iX6 : ∀ w ∈ u_ws RX6 TX6 14, w ∈ wsX6_digest := by decide +kernel
  have w3 : Cond.fieldLink RX6 20 "Sashwords" "builder" "LSashwords$Script;" ∈ wsX6_digest := by decide +kernel
  have w4 : Cond.fieldLink RX6 24 "Sashwords" "kept" "LSashwords$Script;" ∈ wsX6_digest := by decide +kernel
  have w5 : Cond.fieldLink RX6 48 "Sashwords" "road" "LSashwords$Seeker;" ∈ wsX6_digest := by decide +kernel
  have iX3 : ∀ w ∈ u_ws RX3 TX3 3, w ∈ wsX6_digest := by decide +kernel
  have w7 : Cond.fieldLink RX6 30 "Sashwords" "line" "LSashwords$Pipe;" ∈ wsX6_digest := by decide +kernel
  have iX1 : ∀ w ∈ u_ws RX1 TX1 4, w ∈ wsX6_digest := by decide +kernel
  refine zM_of (cc := cX6_digest) (nL := 4) (ret := (some .long)) (own := RX6) (by decide +kernel) rfl rfl (Nat.le_of_ble_eq_true rfl) (fun C X hi0 => ?_)
  have hx1 : V (ad 1) = some (1, .inr (7, [.ref (ad 2), .ref (ad 20), .ref (ad 22), .ref (ad 24), .ref (ad 16), .ref (ad 31), .ref (ad 33), .ref (ad 35), .ref (ad 40), .ref (ad 45), .int (zI (σ 30)), .int (zI (σ 31)), .int (zI (σ 32)), .int (zI (σ 33))])) := hS.1
  show zG C V 0 0 0 [(0, .ref (ad 1))] []
  refine zr_ldc2 X 3 (v := 7702) dX6_digest_0 rfl w0 ?_
  refine zr_lstore_n X 4 [(1, .long (7702)), (0, .ref (ad 1))] dX6_digest_3 rfl (by decide) rfl ?_
  refine zr_iconst X 5 dX6_digest_4 rfl ?_
  refine zr_istore_n X 6 [(3, .int (zI (0))), (1, .long (7702)), (0, .ref (ad 1))] dX6_digest_5 rfl (by decide) rfl ?_
  have loop : ∀ (N : Nat) (V1 : zV) (x : Int64) (k : Int), zS Γ V1 ad σ ∧ zfx V V1 ∧ 0 ≤ k ∧ k ≤ 6 → (6 - k).toNat = N → zG C V1 0 0 6 [(3, .int (zI (k))), (1, .long (x)), (0, .ref (ad 1))] [] := by
    intro N
    induction N using Nat.strongRecOn with
    | _ N ih =>
    intro V1 x k hI hN
    obtain ⟨hI1, hI2, hI3, hI4⟩ := id hI
    have hx2 : V1 (ad 1) = some (1, .inr (7, [.ref (ad 2), .ref (ad 20), .ref (ad 22), .ref (ad 24), .ref (ad 16), .ref (ad 31), .ref (ad 33), .ref (ad 35), .ref (ad 40), .ref (ad 45), .int (zI (σ 30)), .int (zI (σ 31)), .int (zI (σ 32)), .int (zI (σ 33))])) := hI1.1
    refine zr_iload_n X 7 0 dX6_digest_6 rfl rfl ?_
    refine zr_aload_n X 8 2 dX6_digest_7 rfl rfl ?_
    refine zr_get X 11 7 0 hx2 rfl iX6 (by decide) w1 rfl rfl dX6_digest_8 rfl ?_
    refine zr_alenq X 12 3 hI1.2.1.1 (by decide) dX6_digest_11 rfl ?_
    refine zr_icmp_ge X 33 15 dX6_digest_12 rfl rfl (by omega) (by omega) (fun bq3 => ?_) (fun bq3 => ?_)
    · refine zr_lload_n X 34 1 dX6_digest_33 rfl rfl ?_
      refine zr_aload_n X 35 2 dX6_digest_34 rfl rfl ?_
      refine zr_get X 38 7 1 hx2 rfl iX6 (by decide) w3 rfl rfl dX6_digest_35 rfl ?_
      refine zr_callVe (kc' := 0) (ks' := 0) X 41 0 (f_size l Γ hI1.2.2.2.2.1.1) gX6_digest_X2_size rfl (by decide +kernel) rfl (by decide) hI1.2.2.2.2.1.1.cl rfl rfl (Nat.le_of_ble_eq_true rfl) dX6_digest_38 rfl (by omega) (by omega) (fun rv4 V5 hp6 => ?_)
      rw [hp6.1, hp6.2]
      have hp6r := hI1.2.2.2.2.1.1.rg
      show zG C V1 0 0 41 [(3, .int (zI (k))), (1, .long (x)), (0, .ref (ad 1))] [.int (zI (σ 24)), .long (x)]
      refine zr_i2l X 42 dX6_digest_41 rfl ?_
      obtain ⟨y7, y7e⟩ : ∃ zz9 : Int64, zz9 = (zI (σ 24)).toInt64 := ⟨_, rfl⟩
      rw [← y7e]
      refine zr_callS (kc' := 0) (ks' := 0) X 45 2 (m_X6_mixed l Γ (V := V1) (x := x) (y := y7)) gX6_digest_X6_mixed rfl (by decide +kernel) rfl (by decide) rfl (Nat.le_of_ble_eq_true rfl) dX6_digest_42 rfl (by omega) (by omega) (fun rv8 V9 hp10 => ?_)
      obtain ⟨⟨hp10z, hp10e⟩, hp10v⟩ := hp10
      rw [hp10e, hp10v]
      show zG C V1 0 0 45 [(3, .int (zI (k))), (1, .long (x)), (0, .ref (ad 1))] [.long (hp10z)]
      refine zr_aload_n X 46 2 dX6_digest_45 rfl rfl ?_
      refine zr_get X 49 7 1 hx2 rfl iX6 (by decide) w3 rfl rfl dX6_digest_46 rfl ?_
      obtain ⟨t11e, t11e2, t11h, t11T, t11o, t11q⟩ := hI1.2.2.2.2.1.1.tx (by decide)
      have t11g := t11T.rg
      have t11c := True.intro
      refine zr_callS (kc' := 0) (ks' := 0) X 52 2 (m_X6_mixedWithText l Γ (V := V1) (x := hp10z) t11T) gX6_digest_X6_mixedWithText rfl (by decide +kernel) rfl (by decide) rfl (Nat.le_of_ble_eq_true rfl) dX6_digest_49 rfl (by omega) (by omega) (fun rv12 V13 hp14 => ?_)
      obtain ⟨⟨hp14z, hp14e⟩, hp14v⟩ := hp14
      rw [hp14e, hp14v]
      show zG C V1 0 0 52 [(3, .int (zI (k))), (1, .long (x)), (0, .ref (ad 1))] [.long (hp14z)]
      refine zr_lstore_n X 53 [(1, .long (hp14z)), (3, .int (zI (k))), (0, .ref (ad 1))] dX6_digest_52 rfl (by decide) rfl ?_
      refine zr_lload_n X 54 0 dX6_digest_53 rfl rfl ?_
      refine zr_aload_n X 55 2 dX6_digest_54 rfl rfl ?_
      refine zr_get X 58 7 2 hx2 rfl iX6 (by decide) w4 rfl rfl dX6_digest_55 rfl ?_
      refine zr_callVe (kc' := 0) (ks' := 0) X 61 0 (f_size l Γ hI1.2.2.2.2.1.2.1) gX6_digest_X2_size rfl (by decide +kernel) rfl (by decide) hI1.2.2.2.2.1.2.1.cl rfl rfl (Nat.le_of_ble_eq_true rfl) dX6_digest_58 rfl (by omega) (by omega) (fun rv15 V16 hp17 => ?_)
      rw [hp17.1, hp17.2]
      have hp17r := hI1.2.2.2.2.1.2.1.rg
      show zG C V1 0 0 61 [(1, .long (hp14z)), (3, .int (zI (k))), (0, .ref (ad 1))] [.int (zI (σ 25)), .long (hp14z)]
      refine zr_i2l X 62 dX6_digest_61 rfl ?_
      obtain ⟨y18, y18e⟩ : ∃ zz9 : Int64, zz9 = (zI (σ 25)).toInt64 := ⟨_, rfl⟩
      rw [← y18e]
      refine zr_callS (kc' := 0) (ks' := 0) X 65 2 (m_X6_mixed l Γ (V := V1) (x := hp14z) (y := y18)) gX6_digest_X6_mixed rfl (by decide +kernel) rfl (by decide) rfl (Nat.le_of_ble_eq_true rfl) dX6_digest_62 rfl (by omega) (by omega) (fun rv19 V20 hp21 => ?_)
      obtain ⟨⟨hp21z, hp21e⟩, hp21v⟩ := hp21
      rw [hp21e, hp21v]
      show zG C V1 0 0 65 [(1, .long (hp14z)), (3, .int (zI (k))), (0, .ref (ad 1))] [.long (hp21z)]
      refine zr_aload_n X 66 2 dX6_digest_65 rfl rfl ?_
      refine zr_get X 69 7 2 hx2 rfl iX6 (by decide) w4 rfl rfl dX6_digest_66 rfl ?_
      obtain ⟨t22e, t22e2, t22h, t22T, t22o, t22q⟩ := hI1.2.2.2.2.1.2.1.tx (by decide)
      have t22g := t22T.rg
      have t22c := True.intro
      refine zr_callS (kc' := 0) (ks' := 0) X 72 2 (m_X6_mixedWithText l Γ (V := V1) (x := hp21z) t22T) gX6_digest_X6_mixedWithText rfl (by decide +kernel) rfl (by decide) rfl (Nat.le_of_ble_eq_true rfl) dX6_digest_69 rfl (by omega) (by omega) (fun rv23 V24 hp25 => ?_)
      obtain ⟨⟨hp25z, hp25e⟩, hp25v⟩ := hp25
      rw [hp25e, hp25v]
      show zG C V1 0 0 72 [(1, .long (hp14z)), (3, .int (zI (k))), (0, .ref (ad 1))] [.long (hp25z)]
      refine zr_lstore_n X 73 [(1, .long (hp25z)), (3, .int (zI (k))), (0, .ref (ad 1))] dX6_digest_72 rfl (by decide) rfl ?_
      refine zr_lload_n X 74 0 dX6_digest_73 rfl rfl ?_
      refine zr_aload_n X 75 2 dX6_digest_74 rfl rfl ?_
      refine zr_aload_n X 76 2 dX6_digest_75 rfl rfl ?_
      refine zr_get X 79 7 1 hx2 rfl iX6 (by decide) w3 rfl rfl dX6_digest_76 rfl ?_
      refine zr_callVe (kc' := 0) (ks' := 0) X 82 1 (m_X6_greatestBorder l Γ hI1 t11T t11o t11q (by omega) (by omega)) gX6_digest_X6_greatestBorder rfl (by decide +kernel) rfl (by decide) hI1.x rfl rfl (Nat.le_of_ble_eq_true rfl) dX6_digest_79 rfl (by omega) (by omega) (fun rv26 V27 hp28 => ?_)
      obtain ⟨hp28y, hp28s, hp28e, hS29, fx30, hp28a, hp28b, hp28q, hp28z⟩ := hp28
      rw [hp28e]
      rw [hp28q] at hS29
      have fx31 := zag.tr hI2 fx30
      have hx32 : V27 (ad 1) = some (1, .inr (7, [.ref (ad 2), .ref (ad 20), .ref (ad 22), .ref (ad 24), .ref (ad 16), .ref (ad 31), .ref (ad 33), .ref (ad 35), .ref (ad 40), .ref (ad 45), .int (zI (σ 30)), .int (zI (σ 31)), .int (zI (σ 32)), .int (zI (σ 33))])) := hS29.1
      show zG C V27 0 0 82 [(1, .long (hp25z)), (3, .int (zI (k))), (0, .ref (ad 1))] [.int (zI (hp28y)), .long (hp25z)]
      refine zr_i2l X 83 dX6_digest_82 rfl ?_
      obtain ⟨y33, y33e⟩ : ∃ zz9 : Int64, zz9 = (zI (hp28y)).toInt64 := ⟨_, rfl⟩
      rw [← y33e]
      refine zr_callS (kc' := 0) (ks' := 0) X 86 2 (m_X6_mixed l Γ (V := V27) (x := hp25z) (y := y33)) gX6_digest_X6_mixed rfl (by decide +kernel) rfl (by decide) rfl (Nat.le_of_ble_eq_true rfl) dX6_digest_83 rfl (by omega) (by omega) (fun rv34 V35 hp36 => ?_)
      obtain ⟨⟨hp36z, hp36e⟩, hp36v⟩ := hp36
      rw [hp36e, hp36v]
      show zG C V27 0 0 86 [(1, .long (hp25z)), (3, .int (zI (k))), (0, .ref (ad 1))] [.long (hp36z)]
      refine zr_lstore_n X 87 [(1, .long (hp36z)), (3, .int (zI (k))), (0, .ref (ad 1))] dX6_digest_86 rfl (by decide) rfl ?_
      refine zr_lload_n X 88 0 dX6_digest_87 rfl rfl ?_
      refine zr_aload_n X 89 2 dX6_digest_88 rfl rfl ?_
      refine zr_aload_n X 90 2 dX6_digest_89 rfl rfl ?_
      refine zr_get X 93 7 2 hx32 rfl iX6 (by decide) w4 rfl rfl dX6_digest_90 rfl ?_
      obtain ⟨t37e, t37e2, t37h, t37T, t37o, t37q⟩ := hS29.2.2.2.2.1.2.1.tx (by decide)
      have t37g := t37T.rg
      have t37c := True.intro
      refine zr_callVe (kc' := 0) (ks' := 0) X 96 1 (m_X6_greatestBorder l Γ hS29 t37T t37o t37q (by omega) (by omega)) gX6_digest_X6_greatestBorder rfl (by decide +kernel) rfl (by decide) hS29.x rfl rfl (Nat.le_of_ble_eq_true rfl) dX6_digest_93 rfl (by omega) (by omega) (fun rv38 V39 hp40 => ?_)
      obtain ⟨hp40y, hp40s, hp40e, hS41, fx42, hp40a, hp40b, hp40q, hp40z⟩ := hp40
      rw [hp40e]
      rw [hp40q] at hS41
      have fx43 := zag.tr fx31 fx42
      have hx44 : V39 (ad 1) = some (1, .inr (7, [.ref (ad 2), .ref (ad 20), .ref (ad 22), .ref (ad 24), .ref (ad 16), .ref (ad 31), .ref (ad 33), .ref (ad 35), .ref (ad 40), .ref (ad 45), .int (zI (σ 30)), .int (zI (σ 31)), .int (zI (σ 32)), .int (zI (σ 33))])) := hS41.1
      show zG C V39 0 0 96 [(1, .long (hp36z)), (3, .int (zI (k))), (0, .ref (ad 1))] [.int (zI (hp40y)), .long (hp36z)]
      refine zr_i2l X 97 dX6_digest_96 rfl ?_
      obtain ⟨y45, y45e⟩ : ∃ zz9 : Int64, zz9 = (zI (hp40y)).toInt64 := ⟨_, rfl⟩
      rw [← y45e]
      refine zr_callS (kc' := 0) (ks' := 0) X 100 2 (m_X6_mixed l Γ (V := V39) (x := hp36z) (y := y45)) gX6_digest_X6_mixed rfl (by decide +kernel) rfl (by decide) rfl (Nat.le_of_ble_eq_true rfl) dX6_digest_97 rfl (by omega) (by omega) (fun rv46 V47 hp48 => ?_)
      obtain ⟨⟨hp48z, hp48e⟩, hp48v⟩ := hp48
      rw [hp48e, hp48v]
      show zG C V39 0 0 100 [(1, .long (hp36z)), (3, .int (zI (k))), (0, .ref (ad 1))] [.long (hp48z)]
      refine zr_lstore_n X 101 [(1, .long (hp48z)), (3, .int (zI (k))), (0, .ref (ad 1))] dX6_digest_100 rfl (by decide) rfl ?_
      refine zr_aload_n X 102 2 dX6_digest_101 rfl rfl ?_
      refine zr_get X 105 7 7 hx44 rfl iX6 (by decide) w5 rfl rfl dX6_digest_102 rfl ?_
      refine zr_aload_n X 106 2 dX6_digest_105 rfl rfl ?_
      refine zr_get X 109 7 1 hx44 rfl iX6 (by decide) w3 rfl rfl dX6_digest_106 rfl ?_
      refine zr_aload_n X 110 2 dX6_digest_109 rfl rfl ?_
      refine zr_get X 113 7 2 hx44 rfl iX6 (by decide) w4 rfl rfl dX6_digest_110 rfl ?_
      obtain ⟨t49e, t49e2, t49h, t49T, t49o, t49q⟩ := hS41.2.2.2.2.1.1.tx (by decide)
      have t49g := t49T.rg
      have t49c := True.intro
      obtain ⟨t50e, t50e2, t50h, t50T, t50o, t50q⟩ := hS41.2.2.2.2.1.2.1.tx (by decide)
      have t50g := t50T.rg
      have t50c := True.intro
      refine zr_callVe (kc' := 0) (ks' := 0) X 116 2 (g_seek l Γ hS41.2.2.2.2.2.2.1 hS41.2.2.2.2.2.2.2.1 t49T t49o t49q t50T t50o t50q (by omega) (by omega) (by decide) (by omega) (by omega)) gX6_digest_X3_seek rfl (by decide +kernel) rfl (by decide) hS41.2.2.2.2.2.2.1.cl rfl rfl (Nat.le_of_ble_eq_true rfl) dX6_digest_113 rfl (by omega) (by omega) (fun rv51 V52 hp53 => ?_)
      obtain ⟨hp53e, ⟨hp53m, hp53f, hp53x, hp53z⟩, hp53w, hp53g⟩ := hp53
      rw [hp53e]
      have hp53r := hp53x.2.2.2
      obtain ⟨hS54, fx55⟩ := hS41.road hp53x.sk hp53w hp53g
      have fx56 := zag.tr fx43 fx55
      have hx57 : V52 (ad 1) = some (1, .inr (7, [.ref (ad 2), .ref (ad 20), .ref (ad 22), .ref (ad 24), .ref (ad 16), .ref (ad 31), .ref (ad 33), .ref (ad 35), .ref (ad 40), .ref (ad 45), .int (zI (σ 30)), .int (zI (σ 31)), .int (zI (σ 32)), .int (zI (σ 33))])) := hS54.1
      have t58o := hp53g _ _ _ t49o (by omega)
      have t58q := hp53g _ _ _ t49q (by omega)
      have t58T := t49T.kept (t58o.trans t49o.symm) (t58q.trans t49q.symm)
      have t58c := t49c
      have t58g := t58T.rg
      have t59o := hp53g _ _ _ t50o (by omega)
      have t59q := hp53g _ _ _ t50q (by omega)
      have t59T := t50T.kept (t59o.trans t50o.symm) (t59q.trans t50q.symm)
      have t59c := t50c
      have t59g := t59T.rg
      show zG C V52 0 0 116 [(1, .long (hp48z)), (3, .int (zI (k))), (0, .ref (ad 1))] []
      refine zr_lload_n X 117 0 dX6_digest_116 rfl rfl ?_
      refine zr_aload_n X 118 2 dX6_digest_117 rfl rfl ?_
      refine zr_get X 121 7 7 hx57 rfl iX6 (by decide) w5 rfl rfl dX6_digest_118 rfl ?_
      refine zr_getNsx X 124 hp53x iX3 rfl dX6_digest_121 rfl ?_
      refine zr_i2l X 125 dX6_digest_124 rfl ?_
      obtain ⟨y60, y60e⟩ : ∃ zz9 : Int64, zz9 = (zI (hp53m)).toInt64 := ⟨_, rfl⟩
      rw [← y60e]
      refine zr_callS (kc' := 0) (ks' := 0) X 128 2 (m_X6_mixed l Γ (V := V52) (x := hp48z) (y := y60)) gX6_digest_X6_mixed rfl (by decide +kernel) rfl (by decide) rfl (Nat.le_of_ble_eq_true rfl) dX6_digest_125 rfl (by omega) (by omega) (fun rv61 V62 hp63 => ?_)
      obtain ⟨⟨hp63z, hp63e⟩, hp63v⟩ := hp63
      rw [hp63e, hp63v]
      show zG C V52 0 0 128 [(1, .long (hp48z)), (3, .int (zI (k))), (0, .ref (ad 1))] [.long (hp63z)]
      refine zr_lstore_n X 129 [(1, .long (hp63z)), (3, .int (zI (k))), (0, .ref (ad 1))] dX6_digest_128 rfl (by decide) rfl ?_
      refine zr_aload_n X 130 2 dX6_digest_129 rfl rfl ?_
      refine zr_get X 133 7 7 hx57 rfl iX6 (by decide) w5 rfl rfl dX6_digest_130 rfl ?_
      refine zr_aload_n X 134 2 dX6_digest_133 rfl rfl ?_
      refine zr_get X 137 7 2 hx57 rfl iX6 (by decide) w4 rfl rfl dX6_digest_134 rfl ?_
      refine zr_aload_n X 138 2 dX6_digest_137 rfl rfl ?_
      refine zr_get X 141 7 1 hx57 rfl iX6 (by decide) w3 rfl rfl dX6_digest_138 rfl ?_
      refine zr_callVe (kc' := 0) (ks' := 0) X 144 2 (g_seek l Γ hS54.2.2.2.2.2.2.1 hS54.2.2.2.2.2.2.2.1 t59T t59o t59q t58T t58o t58q (by omega) (by omega) (by decide) (by omega) (by omega)) gX6_digest_X3_seek rfl (by decide +kernel) rfl (by decide) hS54.2.2.2.2.2.2.1.cl rfl rfl (Nat.le_of_ble_eq_true rfl) dX6_digest_141 rfl (by omega) (by omega) (fun rv64 V65 hp66 => ?_)
      obtain ⟨hp66e, ⟨hp66m, hp66f, hp66x, hp66z⟩, hp66w, hp66g⟩ := hp66
      rw [hp66e]
      have hp66r := hp66x.2.2.2
      obtain ⟨hS67, fx68⟩ := hS54.road hp66x.sk hp66w hp66g
      have fx69 := zag.tr fx56 fx68
      have hx70 : V65 (ad 1) = some (1, .inr (7, [.ref (ad 2), .ref (ad 20), .ref (ad 22), .ref (ad 24), .ref (ad 16), .ref (ad 31), .ref (ad 33), .ref (ad 35), .ref (ad 40), .ref (ad 45), .int (zI (σ 30)), .int (zI (σ 31)), .int (zI (σ 32)), .int (zI (σ 33))])) := hS67.1
      have t71o := hp66g _ _ _ t58o (by omega)
      have t71q := hp66g _ _ _ t58q (by omega)
      have t71T := t58T.kept (t71o.trans t58o.symm) (t71q.trans t58q.symm)
      have t71c := t58c
      have t71g := t71T.rg
      have t72o := hp66g _ _ _ t59o (by omega)
      have t72q := hp66g _ _ _ t59q (by omega)
      have t72T := t59T.kept (t72o.trans t59o.symm) (t72q.trans t59q.symm)
      have t72c := t59c
      have t72g := t72T.rg
      show zG C V65 0 0 144 [(1, .long (hp63z)), (3, .int (zI (k))), (0, .ref (ad 1))] []
      refine zr_lload_n X 145 0 dX6_digest_144 rfl rfl ?_
      refine zr_aload_n X 146 2 dX6_digest_145 rfl rfl ?_
      refine zr_get X 149 7 7 hx70 rfl iX6 (by decide) w5 rfl rfl dX6_digest_146 rfl ?_
      refine zr_getNsx X 152 hp66x iX3 rfl dX6_digest_149 rfl ?_
      refine zr_i2l X 153 dX6_digest_152 rfl ?_
      obtain ⟨y73, y73e⟩ : ∃ zz9 : Int64, zz9 = (zI (hp66m)).toInt64 := ⟨_, rfl⟩
      rw [← y73e]
      refine zr_callS (kc' := 0) (ks' := 0) X 156 2 (m_X6_mixed l Γ (V := V65) (x := hp63z) (y := y73)) gX6_digest_X6_mixed rfl (by decide +kernel) rfl (by decide) rfl (Nat.le_of_ble_eq_true rfl) dX6_digest_153 rfl (by omega) (by omega) (fun rv74 V75 hp76 => ?_)
      obtain ⟨⟨hp76z, hp76e⟩, hp76v⟩ := hp76
      rw [hp76e, hp76v]
      show zG C V65 0 0 156 [(1, .long (hp63z)), (3, .int (zI (k))), (0, .ref (ad 1))] [.long (hp76z)]
      refine zr_lstore_n X 157 [(1, .long (hp76z)), (3, .int (zI (k))), (0, .ref (ad 1))] dX6_digest_156 rfl (by decide) rfl ?_
      refine zr_lload_n X 158 0 dX6_digest_157 rfl rfl ?_
      refine zr_aload_n X 159 2 dX6_digest_158 rfl rfl ?_
      refine zr_get X 162 7 3 hx70 rfl iX6 (by decide) w7 rfl rfl dX6_digest_159 rfl ?_
      refine zr_getN X 165 3 0 0 hS67.2.2.2.2.2.1.1 rfl iX1 (by decide) rfl rfl rfl dX6_digest_162 rfl ?_
      refine zr_callVe (kc' := 0) (ks' := 0) X 168 0 (f_size l Γ hS67.2.2.2.2.2.1.2.1) gX6_digest_X2_size rfl (by decide +kernel) rfl (by decide) hS67.2.2.2.2.2.1.2.1.cl rfl rfl (Nat.le_of_ble_eq_true rfl) dX6_digest_165 rfl (by omega) (by omega) (fun rv77 V78 hp79 => ?_)
      rw [hp79.1, hp79.2]
      have hp79r := hS67.2.2.2.2.2.1.2.1.rg
      show zG C V65 0 0 168 [(1, .long (hp76z)), (3, .int (zI (k))), (0, .ref (ad 1))] [.int (zI (σ 27)), .long (hp76z)]
      refine zr_i2l X 169 dX6_digest_168 rfl ?_
      obtain ⟨y80, y80e⟩ : ∃ zz9 : Int64, zz9 = (zI (σ 27)).toInt64 := ⟨_, rfl⟩
      rw [← y80e]
      refine zr_callS (kc' := 0) (ks' := 0) X 172 2 (m_X6_mixed l Γ (V := V65) (x := hp76z) (y := y80)) gX6_digest_X6_mixed rfl (by decide +kernel) rfl (by decide) rfl (Nat.le_of_ble_eq_true rfl) dX6_digest_169 rfl (by omega) (by omega) (fun rv81 V82 hp83 => ?_)
      obtain ⟨⟨hp83z, hp83e⟩, hp83v⟩ := hp83
      rw [hp83e, hp83v]
      show zG C V65 0 0 172 [(1, .long (hp76z)), (3, .int (zI (k))), (0, .ref (ad 1))] [.long (hp83z)]
      refine zr_aload_n X 173 2 dX6_digest_172 rfl rfl ?_
      refine zr_get X 176 7 3 hx70 rfl iX6 (by decide) w7 rfl rfl dX6_digest_173 rfl ?_
      refine zr_getN X 179 3 0 0 hS67.2.2.2.2.2.1.1 rfl iX1 (by decide) rfl rfl rfl dX6_digest_176 rfl ?_
      obtain ⟨t84e, t84e2, t84h, t84T, t84o, t84q⟩ := hS67.2.2.2.2.2.1.2.1.tx (by decide)
      have t84g := t84T.rg
      have t84c := True.intro
      refine zr_callS (kc' := 0) (ks' := 0) X 182 2 (m_X6_mixedWithText l Γ (V := V65) (x := hp83z) t84T) gX6_digest_X6_mixedWithText rfl (by decide +kernel) rfl (by decide) rfl (Nat.le_of_ble_eq_true rfl) dX6_digest_179 rfl (by omega) (by omega) (fun rv85 V86 hp87 => ?_)
      obtain ⟨⟨hp87z, hp87e⟩, hp87v⟩ := hp87
      rw [hp87e, hp87v]
      show zG C V65 0 0 182 [(1, .long (hp76z)), (3, .int (zI (k))), (0, .ref (ad 1))] [.long (hp87z)]
      refine zr_lstore_n X 183 [(1, .long (hp87z)), (3, .int (zI (k))), (0, .ref (ad 1))] dX6_digest_182 rfl (by decide) rfl ?_
      refine zr_lload_n X 184 0 dX6_digest_183 rfl rfl ?_
      refine zr_aload_n X 185 2 dX6_digest_184 rfl rfl ?_
      refine zr_get X 188 7 3 hx70 rfl iX6 (by decide) w7 rfl rfl dX6_digest_185 rfl ?_
      refine zr_getN X 191 3 1 1 hS67.2.2.2.2.2.1.1 rfl iX1 (by decide) rfl rfl rfl dX6_digest_188 rfl ?_
      refine zr_callVe (kc' := 0) (ks' := 0) X 194 0 (f_size l Γ hS67.2.2.2.2.2.1.2.2.1) gX6_digest_X2_size rfl (by decide +kernel) rfl (by decide) hS67.2.2.2.2.2.1.2.2.1.cl rfl rfl (Nat.le_of_ble_eq_true rfl) dX6_digest_191 rfl (by omega) (by omega) (fun rv88 V89 hp90 => ?_)
      rw [hp90.1, hp90.2]
      have hp90r := hS67.2.2.2.2.2.1.2.2.1.rg
      show zG C V65 0 0 194 [(1, .long (hp87z)), (3, .int (zI (k))), (0, .ref (ad 1))] [.int (zI (σ 28)), .long (hp87z)]
      refine zr_i2l X 195 dX6_digest_194 rfl ?_
      obtain ⟨y91, y91e⟩ : ∃ zz9 : Int64, zz9 = (zI (σ 28)).toInt64 := ⟨_, rfl⟩
      rw [← y91e]
      refine zr_callS (kc' := 0) (ks' := 0) X 198 2 (m_X6_mixed l Γ (V := V65) (x := hp87z) (y := y91)) gX6_digest_X6_mixed rfl (by decide +kernel) rfl (by decide) rfl (Nat.le_of_ble_eq_true rfl) dX6_digest_195 rfl (by omega) (by omega) (fun rv92 V93 hp94 => ?_)
      obtain ⟨⟨hp94z, hp94e⟩, hp94v⟩ := hp94
      rw [hp94e, hp94v]
      show zG C V65 0 0 198 [(1, .long (hp87z)), (3, .int (zI (k))), (0, .ref (ad 1))] [.long (hp94z)]
      refine zr_lstore_n X 199 [(1, .long (hp94z)), (3, .int (zI (k))), (0, .ref (ad 1))] dX6_digest_198 rfl (by decide) rfl ?_
      refine zr_iconst X 200 dX6_digest_199 rfl ?_
      refine zr_istore_n X 201 [(3, .int (zI (0))), (1, .long (hp94z)), (0, .ref (ad 1))] dX6_digest_200 rfl (by decide) rfl ?_
      have loop2 : ∀ (N : Nat) (x2 : Int64) (k2 : Int), 0 ≤ k2 ∧ k2 ≤ 4 → (4 - k2).toNat = N → zG C V65 0 0 201 [(3, .int (zI (k2))), (1, .long (x2)), (0, .ref (ad 1))] [] := by
        intro N
        induction N using Nat.strongRecOn with
        | _ N ih =>
        intro x2 k2 hI hN
        obtain ⟨hJ1, hJ2⟩ := id hI
        refine zr_iload_n X 202 0 dX6_digest_201 rfl rfl ?_
        refine zr_iconst X 203 dX6_digest_202 rfl ?_
        refine zr_icmp_gt X 223 206 dX6_digest_203 rfl rfl (by omega) (by omega) (fun bq95 => ?_) (fun bq95 => ?_)
        · refine zr_lload_n X 224 1 dX6_digest_223 rfl rfl ?_
          refine zr_aload_n X 225 2 dX6_digest_224 rfl rfl ?_
          refine zr_callVe (kc' := 0) (ks' := 0) X 228 0 (m_X6_isSound l Γ hS67) gX6_digest_X6_isSound rfl (by decide +kernel) rfl (by decide) hS67.x rfl rfl (Nat.le_of_ble_eq_true rfl) dX6_digest_225 rfl (by omega) (by omega) (fun rv96 V97 hp98 => ?_)
          obtain ⟨⟨hp98y, hp98e, hp98a⟩, hp98s, hp98x⟩ := hp98
          rw [hp98e]
          have fx99 := zag.tr fx69 hp98x
          have hx100 : V97 (ad 1) = some (1, .inr (7, [.ref (ad 2), .ref (ad 20), .ref (ad 22), .ref (ad 24), .ref (ad 16), .ref (ad 31), .ref (ad 33), .ref (ad 35), .ref (ad 40), .ref (ad 45), .int (zI (σ 30)), .int (zI (σ 31)), .int (zI (σ 32)), .int (zI (σ 33))])) := hp98s.1
          show zG C V97 0 0 228 [(3, .int (zI (k2))), (1, .long (x2)), (0, .ref (ad 1))] [.int (zI (hp98y)), .long (x2)]
          refine zr_if_eq X 235 231 dX6_digest_228 rfl rfl (by omega) (fun bq101 => ?_) (fun bq101 => ?_)
          · refine zr_lconst X 236 (v := 0) dX6_digest_235 rfl rfl ?_
            refine zr_callS (kc' := 0) (ks' := 0) X 239 2 (m_X6_mixed l Γ (V := V97) (x := x2) (y := 0)) gX6_digest_X6_mixed rfl (by decide +kernel) rfl (by decide) rfl (Nat.le_of_ble_eq_true rfl) dX6_digest_236 rfl (by omega) (by omega) (fun rv102 V103 hp104 => ?_)
            obtain ⟨⟨hp104z, hp104e⟩, hp104v⟩ := hp104
            rw [hp104e, hp104v]
            show zG C V97 0 0 239 [(3, .int (zI (k2))), (1, .long (x2)), (0, .ref (ad 1))] [.long (hp104z)]
            exact zr_lret X rfl ⟨⟨_, rfl⟩, hp98s, fx99⟩ dX6_digest_239
          · refine zr_lconst X 232 (v := 1) dX6_digest_231 rfl rfl ?_
            refine zr_goto X 236 dX6_digest_232 rfl ?_
            refine zr_callS (kc' := 0) (ks' := 0) X 239 2 (m_X6_mixed l Γ (V := V97) (x := x2) (y := 1)) gX6_digest_X6_mixed rfl (by decide +kernel) rfl (by decide) rfl (Nat.le_of_ble_eq_true rfl) dX6_digest_236 rfl (by omega) (by omega) (fun rv105 V106 hp107 => ?_)
            obtain ⟨⟨hp107z, hp107e⟩, hp107v⟩ := hp107
            rw [hp107e, hp107v]
            show zG C V97 0 0 239 [(3, .int (zI (k2))), (1, .long (x2)), (0, .ref (ad 1))] [.long (hp107z)]
            exact zr_lret X rfl ⟨⟨_, rfl⟩, hp98s, fx99⟩ dX6_digest_239
        · refine zr_lload_n X 207 1 dX6_digest_206 rfl rfl ?_
          refine zr_aload_n X 208 2 dX6_digest_207 rfl rfl ?_
          refine zr_iload_n X 209 0 dX6_digest_208 rfl rfl ?_
          refine zr_callVe (kc' := 0) (ks' := 0) X 212 1 (m_X6_counted l Γ hS67 (q := k2) (by omega)) gX6_digest_X6_counted rfl (by decide +kernel) rfl (by decide) hS67.x rfl rfl (Nat.le_of_ble_eq_true rfl) dX6_digest_209 rfl (by omega) (by omega) (fun rv108 V109 hp110 => ?_)
          obtain ⟨⟨y111, y111e, y111a⟩, y111v⟩ := hp110
          rw [y111e, y111v]
          show zG C V65 0 0 212 [(3, .int (zI (k2))), (1, .long (x2)), (0, .ref (ad 1))] [.int (zI (y111)), .long (x2)]
          refine zr_i2l X 213 dX6_digest_212 rfl ?_
          obtain ⟨y112, y112e⟩ : ∃ zz9 : Int64, zz9 = (zI (y111)).toInt64 := ⟨_, rfl⟩
          rw [← y112e]
          refine zr_callS (kc' := 0) (ks' := 0) X 216 2 (m_X6_mixed l Γ (V := V65) (x := x2) (y := y112)) gX6_digest_X6_mixed rfl (by decide +kernel) rfl (by decide) rfl (Nat.le_of_ble_eq_true rfl) dX6_digest_213 rfl (by omega) (by omega) (fun rv113 V114 hp115 => ?_)
          obtain ⟨⟨hp115z, hp115e⟩, hp115v⟩ := hp115
          rw [hp115e, hp115v]
          show zG C V65 0 0 216 [(3, .int (zI (k2))), (1, .long (x2)), (0, .ref (ad 1))] [.long (hp115z)]
          refine zr_lstore_n X 217 [(1, .long (hp115z)), (3, .int (zI (k2))), (0, .ref (ad 1))] dX6_digest_216 rfl (by decide) rfl ?_
          refine zr_iinc X 220 1 [(3, .int (zI (k2 + 1))), (1, .long (hp115z)), (0, .ref (ad 1))] dX6_digest_217 rfl rfl (by decide) rfl ?_
          refine zr_goto X 201 dX6_digest_220 rfl ?_
          exact ih _ (by omega) hp115z (k2 + 1) ⟨by omega, by omega⟩ rfl
      exact loop2 _ hp94z 0 ⟨by omega, by omega⟩ rfl
    · refine zr_aload_n X 16 2 dX6_digest_15 rfl rfl ?_
      refine zr_lload_n X 17 1 dX6_digest_16 rfl rfl ?_
      refine zr_aload_n X 18 2 dX6_digest_17 rfl rfl ?_
      refine zr_get X 21 7 0 hx2 rfl iX6 (by decide) w1 rfl rfl dX6_digest_18 rfl ?_
      refine zr_iload_n X 22 0 dX6_digest_21 rfl rfl ?_
      refine zr_aald X 23 (.ref (ad (10 + k.toNat))) hI1.2.1.1 (by omega) rfl dX6_digest_22 rfl ?_
      refine zr_callVe (kc' := 0) (ks' := 0) X 26 2 (m_X6_mixedWithWindow l Γ (x := x) (q := k) hI1 (by omega)) gX6_digest_X6_mixedWithWindow rfl (by decide +kernel) rfl (by decide) hI1.x rfl rfl (Nat.le_of_ble_eq_true rfl) dX6_digest_23 rfl (by omega) (by omega) (fun rv116 V117 hp118 => ?_)
      obtain ⟨⟨hp118z, hp118e⟩, hp118s, hp118x⟩ := hp118
      rw [hp118e]
      have fx119 := zag.tr hI2 hp118x
      have hx120 : V117 (ad 1) = some (1, .inr (7, [.ref (ad 2), .ref (ad 20), .ref (ad 22), .ref (ad 24), .ref (ad 16), .ref (ad 31), .ref (ad 33), .ref (ad 35), .ref (ad 40), .ref (ad 45), .int (zI (σ 30)), .int (zI (σ 31)), .int (zI (σ 32)), .int (zI (σ 33))])) := hp118s.1
      show zG C V117 0 0 26 [(3, .int (zI (k))), (1, .long (x)), (0, .ref (ad 1))] [.long (hp118z)]
      refine zr_lstore_n X 27 [(1, .long (hp118z)), (3, .int (zI (k))), (0, .ref (ad 1))] dX6_digest_26 rfl (by decide) rfl ?_
      refine zr_iinc X 30 1 [(3, .int (zI (k + 1))), (1, .long (hp118z)), (0, .ref (ad 1))] dX6_digest_27 rfl rfl (by decide) rfl ?_
      refine zr_goto X 6 dX6_digest_30 rfl ?_
      exact ih _ (by omega) V117 hp118z (k + 1) ⟨hp118s, fx119, by omega, by omega⟩ rfl
  exact loop _ V 7702 0 ⟨hS, zag.rf, by omega, by omega⟩ rfl
