/-! Sashwords: chain, soundness, checksum -/
/-- the signs that are held -/
theorem zS.heldT {Γ : zGam} {V : zV} {ad : Nat → Nat} {σ : Nat → Int} (h : zS Γ V ad σ) : ∃ (e e' : va_E) (h' : Int → Int), zTx Γ V (ad 25) (ad 26) (σ 27) h' ∧ V (ad 25) = some (25, e) ∧ V (ad 26) = some (26, e') ∧ ∀ k : Nat, (k : Int) < σ 27 → h' (k : Int) = σ (300 + ((σ 29).toNat + k)) := by
  obtain ⟨hl, ⟨f1, hh, ah, z1, b1, b2⟩, ⟨f2, hs, as, z2, b3, b4⟩, ⟨f3, hc, ac, z3, b5, b6⟩, w1, w2, w3, w4, fh, fs, fc, ph, ps, pc, ⟨y1, y2, y3⟩, q1, q2⟩ := h.2.2.2.2.2.1
  obtain ⟨fg, x1, x0, x2⟩ := h.ct.1.2.2
  rw [zrow_uni ph ah y1 z1, zrow_uni ps x1 y2 x0] at q2
  refine ⟨_, _, _, Or.inr ⟨_, _, 8, f1, hh, ah, ⟨b1, b2, by decide⟩, z1, rfl⟩, hh, ah, fun k hk => ?_⟩
  show f1 ((k : Nat) : Int).toNat = _
  rw [Int.toNat_natCast, q2 k hk, x2 _ (by omega)]
theorem zfu_eq {m y P : Int} {f1 f2 : Nat → Int} {s : Int → Int} (z1 : zdc f1 m s P) (z2 : zdc f2 m s P) (h : zfu m (fun k => f1 k.toNat) m (fun k => f2 k.toNat) y) : y = -1 := by
  have al : ∀ j : Int, zat m (fun k => f1 k.toNat) j = zat m (fun k => f2 k.toNat) j := fun j => by
    unfold zat
    by_cases c : 0 ≤ j ∧ j < m
    · rw [if_pos c, if_pos c]
      exact (z1 j.toNat (by omega)).trans (z2 j.toNat (by omega)).symm
    · rw [if_neg c, if_neg c]
  rcases h with ⟨e, -⟩ | ⟨-, n, -⟩
  · exact e
  · exact absurd (al y) n
theorem zaw_win {m p : Int} {h s : Int → Int} (e : ∀ k : Int, 0 ≤ k → k < m → h k = s (p + k)) : zaw m h = zwt m (fun k => s (p + (k : Int))) := zaw_eq (fun k hk => e k (by omega) hk)
theorem zaw_row {m p : Int} {f : Nat → Int} {s : Int → Int} (e : zdc f m s p) : zaw m (fun k => f k.toNat) = zwt m (fun k => s (p + (k : Int))) := zaw_eq (fun k hk => (congrArg f (Int.toNat_natCast k)).trans (e k hk))
theorem zdc.txt {f : Nat → Int} {m p : Int} {s h' : Int → Int} (hs : ∀ k : Int, 0 ≤ k → k < m → h' k = s (p + k)) : zdc (zap f 0 m h') m s p := fun j hj => by
  unfold zap
  rw [if_pos (by omega), hs _ (by omega) (by omega)]
  exact congrArg s (by omega)
/-- the word lies there -/
theorem zma_in {m1 m2 k : Int} {h1 h2 : Int → Int} (hm : 0 ≤ m1) (hk : 0 ≤ k) (h : zma m1 h1 0 m1 m2 h2 k) : k.toNat < m2.toNat + 1 - m1.toNat ∧ zli (zaw m1 h1) (zaw m2 h2) m1.toNat k.toNat := by
  obtain ⟨a, b, c⟩ := h
  refine ⟨by omega, fun j hj => ?_⟩
  have e := c (j : Int) (by omega) (by omega)
  unfold zaw
  rw [if_pos (by omega), if_pos (by omega), show ((k.toNat + j : Nat) : Int) = k + (j : Int) by omega, ← e, Int.zero_add]
theorem zma_out {m1 m2 k : Int} {h1 h2 : Int → Int} (hm : 0 ≤ m1) (hk : 0 ≤ k) (h : ¬ zma m1 h1 0 m1 m2 h2 k) (hp : k.toNat < m2.toNat + 1 - m1.toNat) (hm2 : 0 ≤ m2) : ¬ zli (zaw m1 h1) (zaw m2 h2) m1.toNat k.toNat := fun q => h ⟨by omega, by omega, fun j j1 j2 => by
  have e := q j.toNat (by omega)
  unfold zaw at e
  rw [if_pos (by omega), if_pos (by omega), show ((k.toNat + j.toNat : Nat) : Int) = k + j by omega, Int.toNat_of_nonneg j1] at e
  rw [e, Int.zero_add]⟩
/-- a border, as matches sees it -/
theorem zma_bd {m n : Int} {h : Int → Int} (hm : 0 ≤ n ∧ n < m) : zma m h 0 n m h (m - n) ↔ zbp (zaw m h) m.toNat (m.toNat - 1 - n.toNat) := by
  constructor
  · intro ⟨a, b, c⟩ j hj
    have e := c (j : Int) (by omega) (by omega)
    unfold zaw
    rw [if_pos (by omega), if_pos (by omega), show ((m.toNat - 1 - n.toNat + 1 + j : Nat) : Int) = m - n + (j : Int) by omega, ← e, Int.zero_add]
  · intro q
    refine ⟨by omega, by omega, fun j j1 j2 => ?_⟩
    have e := q j.toNat (by omega)
    unfold zaw at e
    rw [if_pos (by omega), if_pos (by omega), show ((m.toNat - 1 - n.toNat + 1 + j.toNat : Nat) : Int) = m - n + j by omega, Int.toNat_of_nonneg j1] at e
    rw [← e, Int.zero_add]
set_option maxRecDepth 100000 in
set_option maxHeartbeats 4000000 in
theorem m_X6_chain (l : Launch) (hlt : l.stackTraces = false) (Γ : zGam) {V : zV} {ad : Nat → Nat} {σ : Nat → Int} {q : Int} (hS : zS Γ V ad σ) (hq : -2147483648 ≤ q ∧ q ≤ 2147483647) : zN l Γ 10 yX6_chain wsX6_chain 3010 6300 V [.ref (ad 1), .int (zI (q))] (fun rv V' => ∃ (z : Nat) (σ' : Nat → Int), rv = some (.ref z) ∧ zS Γ V' ad σ' ∧ zfx V V' ∧ ((0 ≤ q ∧ q ≤ 7) ∧ σ' = σ)) (fun E V' => V' = V ∧ ((E = zIO ∧ ¬ (0 ≤ q ∧ q ≤ 7)) ∨ (E = zIA ∧ False))) := by
  have w0 : Cond.fieldLink RX6 58 "Sashwords" "table" "LSashwords$Borders;" ∈ wsX6_chain := by decide +kernel
  have iX6 : ∀ w ∈ u_ws RX6 TX6 14, w ∈ wsX6_chain := by decide +kernel
  have w2 : Cond.classLink RX6 113 RJ4 ∈ wsX6_chain := by decide +kernel
  have w3 : Cond.instantiable RJ4 4 ∈ wsX6_chain := by decide +kernel
  have w4 : Cond.initialized RJ4 ∈ wsX6_chain := by decide +kernel
  have iJ4 : ∀ w ∈ u_ws RJ4 TJ4 4, w ∈ wsX6_chain := by decide +kernel
  have w6 : Cond.initialized yJ4_init_da8c8.cls ∈ wsX6_chain := by decide +kernel
  have w7 : Cond.methodLink RX6 115 yJ4_init_da8c8 ∈ wsX6_chain := by decide +kernel
  have w8 : Cond.instanceMethod yJ4_init_da8c8 ∈ wsX6_chain := by decide +kernel
  have iX0 : ∀ w ∈ u_ws RX0 TX0 3, w ∈ wsX6_chain := by decide +kernel
  refine zN_of (cc := cX6_chain) (nL := 4) (ret := (some (.object "java/lang/String"))) (own := RX6) hlt (by decide +kernel) rfl rfl (Nat.le_of_ble_eq_true rfl) (fun C X Y => ?_)
  have hx1 : V (ad 1) = some (1, .inr (7, [.ref (ad 2), .ref (ad 20), .ref (ad 22), .ref (ad 24), .ref (ad 16), .ref (ad 31), .ref (ad 33), .ref (ad 35), .ref (ad 40), .ref (ad 45), .int (zI (σ 30)), .int (zI (σ 31)), .int (zI (σ 32)), .int (zI (σ 33))])) := hS.1
  show zG C V 3010 6300 0 [(0, .ref (ad 1)), (1, .int (zI (q)))] []
  refine zr_aload_n X 1 0 dX6_chain_0 rfl rfl ?_
  refine zr_get X 4 7 9 hx1 rfl iX6 (by decide) w0 rfl rfl dX6_chain_1 rfl ?_
  refine zr_aload_n X 5 0 dX6_chain_4 rfl rfl ?_
  refine zr_iload_n X 6 1 dX6_chain_5 rfl rfl ?_
  refine zr_callVN (kc' := 3010 - 1) (ks' := 6300 - 6) X Y 9 1 (m_X6_sourceOf l hlt Γ hS (q := q) (by omega)) gX6_chain_X6_sourceOf rfl (by decide +kernel) rfl (by decide) hx1 rfl rfl (Nat.le_of_ble_eq_true rfl) dX6_chain_6 rfl (by omega) (by omega) (fun E W hX => ⟨hX.2.2, Or.inl ⟨hX.1, by have := hX.2.1; omega⟩⟩) (fun rv2 V3 hp4 => ?_)
  obtain ⟨hp4a, hp4b, hp4c⟩ := hp4
  rw [hp4b, hp4c]
  obtain ⟨t5r, t5to, t5tr, t5e, t5e2, t5h, t5T, t5o, t5q, t5c, t5a, t5b, t5z⟩ := hS.txt (q := q) (by omega)
  have t5g := t5T.rg
  show zG C V (3010 - 1) (6300 - 6) 9 [(0, .ref (ad 1)), (1, .int (zI (q)))] [.ref (zso ad q), .ref (ad 45)]
  refine zr_callVe (kc' := (3010 - 1)) (ks' := (6300 - 6)) X 12 1 (g_measureChain l Γ hS.2.2.2.2.2.2.2.2.2.2 t5T t5o t5q (by omega) (by omega)) gX6_chain_X0_measureChain rfl (by decide +kernel) rfl (by decide) hS.2.2.2.2.2.2.2.2.2.2.cl rfl rfl (Nat.le_of_ble_eq_true rfl) dX6_chain_9 rfl (by omega) (by omega) (fun rv6 V7 hp8 => ?_)
  obtain ⟨hp8e, hp8w, hp8g, hp8l, hp8c, hp8x, hp8z⟩ := hp8
  rw [hp8e]
  have hp8r := hp8z.1
  obtain ⟨hS9, fx10⟩ := hS.table hp8w hp8g
  have hx11 : V7 (ad 1) = some (1, .inr (7, [.ref (ad 2), .ref (ad 20), .ref (ad 22), .ref (ad 24), .ref (ad 16), .ref (ad 31), .ref (ad 33), .ref (ad 35), .ref (ad 40), .ref (ad 45), .int (zI (σ 30)), .int (zI (σ 31)), .int (zI (σ 32)), .int (zI (σ 33))])) := hS9.1
  have t12o := hp8g _ _ _ t5o (by omega)
  have t12q := hp8g _ _ _ t5q (by omega)
  have t12T := t5T.kept (t12o.trans t5o.symm) (t12q.trans t5q.symm)
  have t12c := t5c
  have t12g := t12T.rg
  show zG C V7 (3010 - 1) (6300 - 6) 12 [(0, .ref (ad 1)), (1, .int (zI (q)))] []
  refine zr_new (kc' := ((3010 - 1) - 1)) (ks' := ((6300 - 6) - 4)) X 15 1 7 [.null, .int (zI (0)), .int (zI (0)), .int (zI (0))] tyJ4 rfl iJ4 tyJ4_ok w2 w3 w4 (zdf_J4) dX6_chain_12 rfl (by omega) (by omega) (fun q13 hq14 => ?_)
  refine zr_dup X 16 dX6_chain_15 rfl rfl ?_
  refine zr_callI (kc' := ((3010 - 1) - 1) - 1) (ks' := ((6300 - 6) - 4) - 16) X 19 0 (m_J4_init_da8c8 l Γ (zu_eq _ _ _ _)) gX6_chain_J4_init_da8c8 rfl w6 w7 w8 rfl (by decide +kernel) rfl (by decide) rfl (Nat.le_of_ble_eq_true rfl) dX6_chain_16 rfl (by omega) (by omega) (fun rv15 V16 hp17 => ?_)
  obtain ⟨hp17e, hp17b, hp17f⟩ := hp17
  rw [hp17e]
  have ff18 : zfr V7 V16 := zag.tr (P := fun t => t ≠ 7) (zag.rf.new hq14) hp17f
  obtain ⟨hS19, fx20⟩ := hS9.fr ff18
  have fx21 := zag.tr fx10 fx20
  have hx22 : V16 (ad 1) = some (1, .inr (7, [.ref (ad 2), .ref (ad 20), .ref (ad 22), .ref (ad 24), .ref (ad 16), .ref (ad 31), .ref (ad 33), .ref (ad 35), .ref (ad 40), .ref (ad 45), .int (zI (σ 30)), .int (zI (σ 31)), .int (zI (σ 32)), .int (zI (σ 33))])) := hS19.1
  show zG C V16 (((3010 - 1) - 1) - 1) (((6300 - 6) - 4) - 16) 19 [(0, .ref (ad 1)), (1, .int (zI (q)))] [.ref q13]
  refine zr_astore_n X 20 [(2, .ref q13), (0, .ref (ad 1)), (1, .int (zI (q)))] dX6_chain_19 rfl (by decide) rfl ?_
  refine zr_iconst X 21 dX6_chain_20 rfl ?_
  refine zr_istore_n X 22 [(3, .int (zI (0))), (2, .ref q13), (0, .ref (ad 1)), (1, .int (zI (q)))] dX6_chain_21 rfl (by decide) rfl ?_
  obtain ⟨bo23k, bo23g, bo23f, bo231, bo232, bo233, bo234, bo235, bo236, bo237⟩ := hS19.2.2.2.2.2.2.2.2.2.2
  refine zr_room (3002 - 16) (6200 - 2 * 16) (by omega) (by omega) ?_
  refine zr_sub [0, 1, 3, 2] [(3, .int (zI (0))), (2, .ref q13), (1, .int (zI (q))), (0, .ref (ad 1))] rfl ?_
  have loop : ∀ (N : Nat) (V1 : zV) (k : Int) (cnt : Int) (cap : Nat), zS Γ V1 ad σ ∧ zfx V V1 ∧ zSB Γ V1 q13 cnt cap ∧ V1 (ad 45) = some (45, .inr (2, [.ref (ad 46), .ref (ad 47), .int (zI bo23k)])) ∧ V1 (ad 47) = some (47, za Γ.2.1 0 80 bo23f) ∧ 0 ≤ k ∧ k ≤ bo23k ∧ 0 ≤ cnt ∧ cnt ≤ 5 * k ∧ 16 ≤ cap ∧ cap ≤ 900 → (80 - k).toNat = N → zG C V1 (3002 - cap) (6200 - 2 * cap) 22 [(3, .int (zI (k))), (2, .ref q13), (1, .int (zI (q))), (0, .ref (ad 1))] [] := by
    intro N
    induction N using Nat.strongRecOn with
    | _ N ih =>
    intro V1 k cnt cap hI hN
    obtain ⟨hI1, hI2, hI3, hI4, hI5, hI6, hI7, hI8, hI9, hI10, hI11⟩ := id hI
    have hx24 : V1 (ad 1) = some (1, .inr (7, [.ref (ad 2), .ref (ad 20), .ref (ad 22), .ref (ad 24), .ref (ad 16), .ref (ad 31), .ref (ad 33), .ref (ad 35), .ref (ad 40), .ref (ad 45), .int (zI (σ 30)), .int (zI (σ 31)), .int (zI (σ 32)), .int (zI (σ 33))])) := hI1.1
    refine zr_iload_n X 23 0 dX6_chain_22 rfl rfl ?_
    refine zr_aload_n X 24 3 dX6_chain_23 rfl rfl ?_
    refine zr_get X 27 7 9 hx24 rfl iX6 (by decide) w0 rfl rfl dX6_chain_24 rfl ?_
    refine zr_getN X 30 2 2 7 hI4 rfl iX0 (by decide) rfl rfl rfl dX6_chain_27 rfl ?_
    refine zr_icmp_ge X 57 33 dX6_chain_30 rfl rfl (by omega) (by omega) (fun bq25 => ?_) (fun bq25 => ?_)
    · refine zr_aload_n X 58 1 dX6_chain_57 rfl rfl ?_
      have hp28r := hI3.rg
      refine zr_callVe (kc' := 3002 - cap - 2) (ks' := 6200 - 2 * cap - ((cnt).toNat + 4)) X 61 0 (zsb_str l Γ hI3) gX6_chain_J4_toString_0e30d rfl (by decide +kernel) rfl (by decide) hI3.cl rfl rfl (Nat.le_of_ble_eq_true rfl) dX6_chain_58 rfl (by omega) (by omega) (fun rv26 V27 hp28 => ?_)
      obtain ⟨hp28z, hp28e, hp28n, hp28f⟩ := hp28
      rw [hp28e]
      obtain ⟨hS29, fx30⟩ := hI1.fr hp28f
      have bb311 := hp28f.ag _ _ _ hI4 (by omega)
      have bb313 := hp28f.ag _ _ _ hI5 (by omega)
      have fx32 := zag.tr hI2 fx30
      have hx33 : V27 (ad 1) = some (1, .inr (7, [.ref (ad 2), .ref (ad 20), .ref (ad 22), .ref (ad 24), .ref (ad 16), .ref (ad 31), .ref (ad 33), .ref (ad 35), .ref (ad 40), .ref (ad 45), .int (zI (σ 30)), .int (zI (σ 31)), .int (zI (σ 32)), .int (zI (σ 33))])) := hS29.1
      show zG C V27 (3002 - cap - 2) (6200 - 2 * cap - ((cnt).toNat + 4)) 61 [(3, .int (zI (k))), (2, .ref q13), (1, .int (zI (q))), (0, .ref (ad 1))] [.ref hp28z]
      exact zr_aret X rfl (Or.inl ⟨_, rfl⟩) ⟨_, σ, rfl, hS29, fx32, ⟨by omega, rfl⟩⟩ dX6_chain_61
    · refine zr_aload_n X 34 1 dX6_chain_33 rfl rfl ?_
      refine zr_aload_n X 35 3 dX6_chain_34 rfl rfl ?_
      refine zr_get X 38 7 9 hx24 rfl iX6 (by decide) w0 rfl rfl dX6_chain_35 rfl ?_
      refine zr_iload_n X 39 0 dX6_chain_38 rfl rfl ?_
      refine zr_callVe (kc' := 3002 - cap) (ks' := 6200 - 2 * cap) X 42 1 (m_X0_linkAt l Γ (k := k) hI4 hI5 (by omega)) gX6_chain_X0_linkAt rfl (by decide +kernel) rfl (by decide) ⟨_, _, hI4⟩ rfl rfl (Nat.le_of_ble_eq_true rfl) dX6_chain_39 rfl (by omega) (by omega) (fun rv34 V35 hp36 => ?_)
      rw [hp36.1, hp36.2, if_pos (by omega)]
      have hp36b := bo235 (k).toNat
      show zG C V1 (3002 - cap) (6200 - 2 * cap) 42 [(3, .int (zI (k))), (2, .ref q13), (1, .int (zI (q))), (0, .ref (ad 1))] [.int (zI (bo23f (k).toNat)), .ref q13]
      have gr40r := hI3.rg
      obtain ⟨gr40q, gr40a⟩ : ∃ zq9 : Int, (((bo23f (k).toNat) < 10 ∧ zq9 = 1) ∨ (10 ≤ (bo23f (k).toNat) ∧ (bo23f (k).toNat) < 100 ∧ zq9 = 2) ∨ (100 ≤ (bo23f (k).toNat) ∧ (bo23f (k).toNat) < 1000 ∧ zq9 = 3) ∨ (1000 ≤ (bo23f (k).toNat) ∧ zq9 = 4)) := zdigits (bo23f (k).toNat)
      obtain ⟨gr40p, gr40c, gr40k, gr40⟩ := zgrow cnt gr40q cap ⟨by omega, by omega, by omega⟩ (by omega) (by omega)
      refine zr_callVe (kc' := 3002 - cap - gr40c) (ks' := 6200 - 2 * cap - gr40k) X 45 1 (zsb_app_i l Γ hI3 (x := (bo23f (k).toNat)) (by omega) gr40a gr40) gX6_chain_J4_append_bf812 rfl (by decide +kernel) rfl (by decide) hI3.cl rfl rfl (Nat.le_of_ble_eq_true rfl) dX6_chain_42 rfl (by omega) (by omega) (fun rv37 V38 hp39 => ?_)
      obtain ⟨hp39e, hp39b, hp39f⟩ := hp39
      rw [hp39e]
      have gr40s := hp39b.rg
      obtain ⟨hS41, fx42⟩ := hI1.fr hp39f
      have bb431 := hp39f.ag _ _ _ hI4 (by omega)
      have bb433 := hp39f.ag _ _ _ hI5 (by omega)
      have fx44 := zag.tr hI2 fx42
      have hx45 : V38 (ad 1) = some (1, .inr (7, [.ref (ad 2), .ref (ad 20), .ref (ad 22), .ref (ad 24), .ref (ad 16), .ref (ad 31), .ref (ad 33), .ref (ad 35), .ref (ad 40), .ref (ad 45), .int (zI (σ 30)), .int (zI (σ 31)), .int (zI (σ 32)), .int (zI (σ 33))])) := hS41.1
      show zG C V38 (3002 - cap - gr40c) (6200 - 2 * cap - gr40k) 45 [(3, .int (zI (k))), (2, .ref q13), (1, .int (zI (q))), (0, .ref (ad 1))] [.ref q13]
      refine zr_bipush X 47 (32) dX6_chain_45 rfl (by decide) ?_
      have gr49r := hp39b.rg
      obtain ⟨gr49p, gr49c, gr49k, gr49⟩ := zgrow1w (cnt + gr40q) gr40p (by omega)
      refine zr_callVe (kc' := (3002 - cap - gr40c) - gr49c) (ks' := (6200 - 2 * cap - gr40k) - gr49k) X 50 1 (zsb_app_c l Γ hp39b (x := 32) (by omega) gr49) gX6_chain_J4_append_cf468 rfl (by decide +kernel) rfl (by decide) hp39b.cl rfl rfl (Nat.le_of_ble_eq_true rfl) dX6_chain_47 rfl (by omega) (by omega) (fun rv46 V47 hp48 => ?_)
      obtain ⟨hp48e, hp48b, hp48f⟩ := hp48
      rw [hp48e]
      have gr49s := hp48b.rg
      obtain ⟨hS50, fx51⟩ := hS41.fr hp48f
      have bb521 := hp48f.ag _ _ _ bb431 (by omega)
      have bb523 := hp48f.ag _ _ _ bb433 (by omega)
      have fx53 := zag.tr fx44 fx51
      have hx54 : V47 (ad 1) = some (1, .inr (7, [.ref (ad 2), .ref (ad 20), .ref (ad 22), .ref (ad 24), .ref (ad 16), .ref (ad 31), .ref (ad 33), .ref (ad 35), .ref (ad 40), .ref (ad 45), .int (zI (σ 30)), .int (zI (σ 31)), .int (zI (σ 32)), .int (zI (σ 33))])) := hS50.1
      show zG C V47 ((3002 - cap - gr40c) - gr49c) ((6200 - 2 * cap - gr40k) - gr49k) 50 [(3, .int (zI (k))), (2, .ref q13), (1, .int (zI (q))), (0, .ref (ad 1))] [.ref q13]
      refine zr_pop X 51 dX6_chain_50 rfl rfl ?_
      refine zr_iinc X 54 0 [(3, .int (zI (k + 1))), (2, .ref q13), (1, .int (zI (q))), (0, .ref (ad 1))] dX6_chain_51 rfl rfl (by decide) rfl ?_
      refine zr_goto X 22 dX6_chain_54 rfl ?_
      refine zr_room (3002 - gr49p) (6200 - 2 * gr49p) (by omega) (by omega) ?_
      exact ih _ (by omega) V47 (k + 1) (cnt + gr40q + 1) gr49p ⟨hS50, fx53, hp48b, bb521, bb523, by omega, by omega, by omega, by omega, by omega, by omega⟩ rfl
  exact loop _ V16 0 0 16 ⟨hS19, fx21, hp17b, bo231, bo233, by omega, by omega, by omega, by omega, by omega, by omega⟩ rfl
set_option maxRecDepth 100000 in
set_option maxHeartbeats 4000000 in
theorem m_X6_readsAlike (l : Launch) (Γ : zGam) {V : zV} {ad : Nat → Nat} {σ : Nat → Int} {q : Int} (hS : zS Γ V ad σ) (hq : 0 ≤ q ∧ q < 6) : zM l Γ 7 yX6_readsAlike wsX6_readsAlike 0 0 V [.ref (ad 1), .ref (ad (10 + q.toNat))] (fun rv V' => rv = some (.int (zI 1)) ∧ zS Γ V' ad σ ∧ zfx V V') := by
  have w0 : Cond.fieldLink RX6 39 "Sashwords" "draft" "LSashwords$Script;" ∈ wsX6_readsAlike := by decide +kernel
  have iX6 : ∀ w ∈ u_ws RX6 TX6 14, w ∈ wsX6_readsAlike := by decide +kernel
  have w2 : Cond.fieldLink RX6 42 "Sashwords" "secondDraft" "LSashwords$Script;" ∈ wsX6_readsAlike := by decide +kernel
  refine zM_of (cc := cX6_readsAlike) (nL := 3) (ret := (some .boolean)) (own := RX6) (by decide +kernel) rfl rfl (Nat.le_of_ble_eq_true rfl) (fun C X hi0 => ?_)
  have hx1 : V (ad 1) = some (1, .inr (7, [.ref (ad 2), .ref (ad 20), .ref (ad 22), .ref (ad 24), .ref (ad 16), .ref (ad 31), .ref (ad 33), .ref (ad 35), .ref (ad 40), .ref (ad 45), .int (zI (σ 30)), .int (zI (σ 31)), .int (zI (σ 32)), .int (zI (σ 33))])) := hS.1
  have hw2 := hS.w (i := q.toNat) (by omega)
  have hw2r := hw2.rg
  show zG C V 0 0 0 [(0, .ref (ad 1)), (1, .ref (ad (10 + q.toNat)))] []
  refine zr_aload_n X 1 0 dX6_readsAlike_0 rfl rfl ?_
  refine zr_aload_n X 2 1 dX6_readsAlike_1 rfl rfl ?_
  refine zr_iconst X 3 dX6_readsAlike_2 rfl ?_
  refine zr_aload_n X 4 0 dX6_readsAlike_3 rfl rfl ?_
  refine zr_get X 7 7 5 hx1 rfl iX6 (by decide) w0 rfl rfl dX6_readsAlike_4 rfl ?_
  refine zr_callVe (kc' := 0) (ks' := 0) X 10 3 (m_X6_copyText_d l Γ (q := q) (how := 0) hS (by omega) (by omega)) gX6_readsAlike_X6_copyText rfl (by decide +kernel) rfl (by decide) hS.x rfl rfl (Nat.le_of_ble_eq_true rfl) dX6_readsAlike_7 rfl (by omega) (by omega) (fun rv3 V4 hp5 => ?_)
  obtain ⟨hp5e, hp5s, hp5x, hp5y, hp5f, hp5q, hp5z⟩ := hp5
  rw [hp5e]
  have hx6 : V4 (ad 1) = some (1, .inr (7, [.ref (ad 2), .ref (ad 20), .ref (ad 22), .ref (ad 24), .ref (ad 16), .ref (ad 31), .ref (ad 33), .ref (ad 35), .ref (ad 40), .ref (ad 45), .int (zI (σ 30)), .int (zI (σ 31)), .int (zI (σ 32)), .int (zI (σ 33))])) := hp5s.1
  have hw7 := hp5s.w (i := q.toNat) (by omega)
  have hw7r := hw7.rg
  show zG C V4 0 0 10 [(0, .ref (ad 1)), (1, .ref (ad (10 + q.toNat)))] []
  refine zr_iconst X 11 dX6_readsAlike_10 rfl ?_
  refine zr_istore_n X 12 [(2, .int (zI (1))), (0, .ref (ad 1)), (1, .ref (ad (10 + q.toNat)))] dX6_readsAlike_11 rfl (by decide) rfl ?_
  refine zr_sub [0, 2, 1] [(2, .int (zI (1))), (1, .ref (ad (10 + q.toNat))), (0, .ref (ad 1))] rfl ?_
  have loop : ∀ (N : Nat) (V1 : zV) (k : Int) (f1 : Nat → Int), zS Γ V1 ad σ ∧ zfx V V1 ∧ 1 ≤ k ∧ k ≤ 4 ∧ zSq Γ V1 31 (ad 31) 32 (ad 32) 80 (σ (4 * q.toNat + 1) - σ (4 * q.toNat + 2)) f1 ∧ zdc f1 (σ (4 * q.toNat + 1) - σ (4 * q.toNat + 2)) (zws σ q.toNat) (σ (4 * q.toNat + 2)) → (4 - k).toNat = N → zG C V1 0 0 12 [(2, .int (zI (k))), (1, .ref (ad (10 + q.toNat))), (0, .ref (ad 1))] [] := by
    intro N
    induction N using Nat.strongRecOn with
    | _ N ih =>
    intro V1 k f1 hI hN
    obtain ⟨hI1, hI2, hI3, hI4, hI5, hI6⟩ := id hI
    have hx8 : V1 (ad 1) = some (1, .inr (7, [.ref (ad 2), .ref (ad 20), .ref (ad 22), .ref (ad 24), .ref (ad 16), .ref (ad 31), .ref (ad 33), .ref (ad 35), .ref (ad 40), .ref (ad 45), .int (zI (σ 30)), .int (zI (σ 31)), .int (zI (σ 32)), .int (zI (σ 33))])) := hI1.1
    have hw9 := hI1.w (i := q.toNat) (by omega)
    have hw9r := hw9.rg
    refine zr_iload_n X 13 0 dX6_readsAlike_12 rfl rfl ?_
    refine zr_iconst X 14 dX6_readsAlike_13 rfl ?_
    refine zr_icmp_gt X 50 17 dX6_readsAlike_14 rfl rfl (by omega) (by omega) (fun bq10 => ?_) (fun bq10 => ?_)
    · refine zr_iconst X 51 dX6_readsAlike_50 rfl ?_
      exact zr_zret X rfl rfl ⟨rfl, hI1, hI2⟩ dX6_readsAlike_51
    · refine zr_aload_n X 18 2 dX6_readsAlike_17 rfl rfl ?_
      refine zr_aload_n X 19 1 dX6_readsAlike_18 rfl rfl ?_
      refine zr_iload_n X 20 0 dX6_readsAlike_19 rfl rfl ?_
      refine zr_aload_n X 21 2 dX6_readsAlike_20 rfl rfl ?_
      refine zr_get X 24 7 6 hx8 rfl iX6 (by decide) w2 rfl rfl dX6_readsAlike_21 rfl ?_
      refine zr_callVe (kc' := 0) (ks' := 0) X 27 3 (m_X6_copyText_s l Γ (q := q) (how := k) hI1 (by omega) (by omega)) gX6_readsAlike_X6_copyText rfl (by decide +kernel) rfl (by decide) hI1.x rfl rfl (Nat.le_of_ble_eq_true rfl) dX6_readsAlike_24 rfl (by omega) (by omega) (fun rv11 V12 hp13 => ?_)
      obtain ⟨hp13e, hp13s, hp13x, hp13y, hp13f, hp13q, hp13z⟩ := hp13
      rw [hp13e]
      have fx14 := zag.tr hI2 hp13x
      have dq15 := hI5.kept hp13y (by omega) (by omega)
      have hx16 : V12 (ad 1) = some (1, .inr (7, [.ref (ad 2), .ref (ad 20), .ref (ad 22), .ref (ad 24), .ref (ad 16), .ref (ad 31), .ref (ad 33), .ref (ad 35), .ref (ad 40), .ref (ad 45), .int (zI (σ 30)), .int (zI (σ 31)), .int (zI (σ 32)), .int (zI (σ 33))])) := hp13s.1
      have hw17 := hp13s.w (i := q.toNat) (by omega)
      have hw17r := hw17.rg
      show zG C V12 0 0 27 [(2, .int (zI (k))), (1, .ref (ad (10 + q.toNat))), (0, .ref (ad 1))] []
      refine zr_aload_n X 28 2 dX6_readsAlike_27 rfl rfl ?_
      refine zr_get X 31 7 5 hx16 rfl iX6 (by decide) w0 rfl rfl dX6_readsAlike_28 rfl ?_
      refine zr_aload_n X 32 2 dX6_readsAlike_31 rfl rfl ?_
      refine zr_get X 35 7 6 hx16 rfl iX6 (by decide) w2 rfl rfl dX6_readsAlike_32 rfl ?_
      obtain ⟨t18e, t18e2, t18T, t18o, t18q⟩ := dq15.tx (by decide)
      have t18g := t18T.rg
      have t18c := True.intro
      obtain ⟨t19e, t19e2, t19T, t19o, t19q⟩ := hp13q.tx (by decide)
      have t19g := t19T.rg
      have t19c := True.intro
      refine zr_callS (kc' := 0) (ks' := 0) X 38 2 (m_X6_firstUnlike l Γ (V := V12) t18T t19T rfl) gX6_readsAlike_X6_firstUnlike rfl (by decide +kernel) rfl (by decide) rfl (Nat.le_of_ble_eq_true rfl) dX6_readsAlike_35 rfl (by omega) (by omega) (fun rv20 V21 hp22 => ?_)
      obtain ⟨⟨y23, y23e, y23a, y23b, y23c⟩, y23v⟩ := hp22
      rw [y23e, y23v]
      show zG C V12 0 0 38 [(2, .int (zI (k))), (1, .ref (ad (10 + q.toNat))), (0, .ref (ad 1))] [.int (zI (y23))]
      have h9y23c := zfu_eq hI6 hp13z y23c
      refine zr_iconst X 39 dX6_readsAlike_38 rfl ?_
      refine zr_icmp_eq X 44 42 dX6_readsAlike_39 rfl rfl (by omega) (by omega) (fun bq24 => ?_) (fun bq24 => ?_)
      · refine zr_iinc X 47 0 [(2, .int (zI (k + 1))), (1, .ref (ad (10 + q.toNat))), (0, .ref (ad 1))] dX6_readsAlike_44 rfl rfl (by decide) rfl ?_
        refine zr_goto X 12 dX6_readsAlike_47 rfl ?_
        exact ih _ (by omega) V12 (k + 1) f1 ⟨hp13s, fx14, by omega, by omega, dq15, hI6⟩ rfl
      · refine zr_iconst X 43 dX6_readsAlike_42 rfl ?_
        exact zr_zret X rfl rfl (False.elim (by omega)) dX6_readsAlike_43
  exact loop _ V4 1 hp5f ⟨hp5s, hp5x, by omega, by omega, hp5q, hp5z⟩ rfl
set_option maxRecDepth 100000 in
set_option maxHeartbeats 4000000 in
theorem m_X6_keptLiesAlike (l : Launch) (Γ : zGam) {V : zV} {ad : Nat → Nat} {σ : Nat → Int} {q : Int} (hS : zS Γ V ad σ) (hq : 0 ≤ q ∧ q < 6) : zM l Γ 8 yX6_keptLiesAlike wsX6_keptLiesAlike 0 0 V [.ref (ad 1), .ref (ad (10 + q.toNat))] (fun rv V' => rv = some (.int (zI 1)) ∧ zS Γ V' ad σ ∧ zfx V V') := by
  have w0 : Cond.fieldLink RX6 39 "Sashwords" "draft" "LSashwords$Script;" ∈ wsX6_keptLiesAlike := by decide +kernel
  have iX6 : ∀ w ∈ u_ws RX6 TX6 14, w ∈ wsX6_keptLiesAlike := by decide +kernel
  have w2 : Cond.fieldLink RX6 48 "Sashwords" "road" "LSashwords$Seeker;" ∈ wsX6_keptLiesAlike := by decide +kernel
  have w3 : Cond.fieldLink RX6 24 "Sashwords" "kept" "LSashwords$Script;" ∈ wsX6_keptLiesAlike := by decide +kernel
  have w4 : Cond.fieldLink RX6 52 "Sashwords" "secondRoad" "LSashwords$Seeker;" ∈ wsX6_keptLiesAlike := by decide +kernel
  have iX3 : ∀ w ∈ u_ws RX3 TX3 3, w ∈ wsX6_keptLiesAlike := by decide +kernel
  refine zM_of (cc := cX6_keptLiesAlike) (nL := 3) (ret := (some .boolean)) (own := RX6) (by decide +kernel) rfl rfl (Nat.le_of_ble_eq_true rfl) (fun C X hi0 => ?_)
  have hx1 : V (ad 1) = some (1, .inr (7, [.ref (ad 2), .ref (ad 20), .ref (ad 22), .ref (ad 24), .ref (ad 16), .ref (ad 31), .ref (ad 33), .ref (ad 35), .ref (ad 40), .ref (ad 45), .int (zI (σ 30)), .int (zI (σ 31)), .int (zI (σ 32)), .int (zI (σ 33))])) := hS.1
  obtain ⟨_, -, -, -, hk0, hk80⟩ := hS.2.2.2.2.1.2.1
  have hw2 := hS.w (i := q.toNat) (by omega)
  have hw2r := hw2.rg
  obtain ⟨dr3n, dr3⟩ := hS.2.2.2.2.1.2.2.1
  have dr3r := dr3.rg
  obtain ⟨dq4f, dq4⟩ := dr3.sq
  show zG C V 0 0 0 [(0, .ref (ad 1)), (1, .ref (ad (10 + q.toNat)))] []
  refine zr_aload_n X 1 0 dX6_keptLiesAlike_0 rfl rfl ?_
  refine zr_get X 4 7 5 hx1 rfl iX6 (by decide) w0 rfl rfl dX6_keptLiesAlike_1 rfl ?_
  refine zr_aload_n X 5 1 dX6_keptLiesAlike_4 rfl rfl ?_
  have wg6 := hS.wg (i := q.toNat) (by omega)
  obtain ⟨t5r, t5e, t5e2, t5h, t5T, t5o, t5q, t5s⟩ := wg6.tx
  have t5g := t5T.rg
  have t5c := True.intro
  refine zr_callVe (kc' := 0) (ks' := 0) X 8 1 (q_becomeText l Γ dq4 (by decide) (by decide) t5T t5o t5q (by omega) (by omega)) gX6_keptLiesAlike_X2_becomeText rfl (by decide +kernel) rfl (by decide) dr3.cl rfl rfl (Nat.le_of_ble_eq_true rfl) dX6_keptLiesAlike_5 rfl (by omega) (by omega) (fun rv7 V8 hp9 => ?_)
  have dz10 : zdc (zap dq4f 0 ((σ (4 * q.toNat + 1)) - (σ (4 * q.toNat + 2))) t5h) ((σ (4 * q.toNat + 1)) - (σ (4 * q.toNat + 2))) (zws σ q.toNat) (σ (4 * q.toNat + 2)) := zdc.txt t5s
  obtain ⟨hp9e, hp9q, hp9z⟩ := hp9
  rw [hp9e]
  obtain ⟨hS11, fx12⟩ := hS.setDr hp9z
  have dz10r := hp9z.1.rg
  have hw13 := hw2.kept hp9z.2 (by omega) (by omega)
  have hx14 : V8 (ad 1) = some (1, .inr (7, [.ref (ad 2), .ref (ad 20), .ref (ad 22), .ref (ad 24), .ref (ad 16), .ref (ad 31), .ref (ad 33), .ref (ad 35), .ref (ad 40), .ref (ad 45), .int (zI (σ 30)), .int (zI (σ 31)), .int (zI (σ 32)), .int (zI (σ 33))])) := hS11.1
  show zG C V8 0 0 8 [(0, .ref (ad 1)), (1, .ref (ad (10 + q.toNat)))] []
  refine zr_aload_n X 9 0 dX6_keptLiesAlike_8 rfl rfl ?_
  refine zr_get X 12 7 7 hx14 rfl iX6 (by decide) w2 rfl rfl dX6_keptLiesAlike_9 rfl ?_
  refine zr_aload_n X 13 1 dX6_keptLiesAlike_12 rfl rfl ?_
  refine zr_aload_n X 14 0 dX6_keptLiesAlike_13 rfl rfl ?_
  refine zr_get X 17 7 2 hx14 rfl iX6 (by decide) w3 rfl rfl dX6_keptLiesAlike_14 rfl ?_
  have wg16 := hS11.wg (i := q.toNat) (by omega)
  obtain ⟨t15r, t15e, t15e2, t15h, t15T, t15o, t15q, t15s⟩ := wg16.tx
  have t15g := t15T.rg
  have t15c := True.intro
  obtain ⟨t17e, t17e2, t17h, t17T, t17o, t17q⟩ := hS11.2.2.2.2.1.2.1.tx (by decide)
  have t17g := t17T.rg
  have t17c := True.intro
  refine zr_callVe (kc' := 0) (ks' := 0) X 20 2 (g_seek l Γ hS11.2.2.2.2.2.2.1 hS11.2.2.2.2.2.2.2.1 t15T t15o t15q t17T t17o t17q (by omega) (by omega) (by decide) (by omega) (by omega)) gX6_keptLiesAlike_X3_seek rfl (by decide +kernel) rfl (by decide) hS11.2.2.2.2.2.2.1.cl rfl rfl (Nat.le_of_ble_eq_true rfl) dX6_keptLiesAlike_17 rfl (by omega) (by omega) (fun rv18 V19 hp20 => ?_)
  obtain ⟨hp20e, ⟨hp20m, hp20f, hp20x, hp20z⟩, hp20w, hp20g⟩ := hp20
  rw [hp20e]
  have hp20r := hp20x.2.2.2
  obtain ⟨hS21, fx22⟩ := hS11.road hp20x.sk hp20w hp20g
  have fx23 := zag.tr fx12 fx22
  have hx24 : V19 (ad 1) = some (1, .inr (7, [.ref (ad 2), .ref (ad 20), .ref (ad 22), .ref (ad 24), .ref (ad 16), .ref (ad 31), .ref (ad 33), .ref (ad 35), .ref (ad 40), .ref (ad 45), .int (zI (σ 30)), .int (zI (σ 31)), .int (zI (σ 32)), .int (zI (σ 33))])) := hS21.1
  have t25o := hp20g _ _ _ t15o (by omega)
  have t25q := hp20g _ _ _ t15q (by omega)
  have t25T := t15T.kept (t25o.trans t15o.symm) (t25q.trans t15q.symm)
  have t25c := t15c
  have t25g := t25T.rg
  have t26o := hp20g _ _ _ t17o (by omega)
  have t26q := hp20g _ _ _ t17q (by omega)
  have t26T := t17T.kept (t26o.trans t17o.symm) (t26q.trans t17q.symm)
  have t26c := t17c
  have t26g := t26T.rg
  show zG C V19 0 0 20 [(0, .ref (ad 1)), (1, .ref (ad (10 + q.toNat)))] []
  have dq27 := hp9q.kept hp20g (by omega) (by omega)
  have hw28 := hS21.w (i := q.toNat) (by omega)
  have hw28r := hw28.rg
  refine zr_aload_n X 21 0 dX6_keptLiesAlike_20 rfl rfl ?_
  refine zr_get X 24 7 8 hx24 rfl iX6 (by decide) w4 rfl rfl dX6_keptLiesAlike_21 rfl ?_
  refine zr_aload_n X 25 0 dX6_keptLiesAlike_24 rfl rfl ?_
  refine zr_get X 28 7 5 hx24 rfl iX6 (by decide) w0 rfl rfl dX6_keptLiesAlike_25 rfl ?_
  refine zr_aload_n X 29 0 dX6_keptLiesAlike_28 rfl rfl ?_
  refine zr_get X 32 7 2 hx24 rfl iX6 (by decide) w3 rfl rfl dX6_keptLiesAlike_29 rfl ?_
  obtain ⟨t29e, t29e2, t29T, t29o, t29q⟩ := dq27.tx (by decide)
  have t29g := t29T.rg
  have t29c := True.intro
  refine zr_callVe (kc' := 0) (ks' := 0) X 35 2 (g_seek l Γ hS21.2.2.2.2.2.2.2.2.1 hS21.2.2.2.2.2.2.2.2.2.1 t29T t29o t29q t26T t26o t26q (by omega) (by omega) (by decide) (by omega) (by omega)) gX6_keptLiesAlike_X3_seek rfl (by decide +kernel) rfl (by decide) hS21.2.2.2.2.2.2.2.2.1.cl rfl rfl (Nat.le_of_ble_eq_true rfl) dX6_keptLiesAlike_32 rfl (by omega) (by omega) (fun rv30 V31 hp32 => ?_)
  obtain ⟨hp32e, ⟨hp32m, hp32f, hp32x, hp32z⟩, hp32w, hp32g⟩ := hp32
  rw [hp32e]
  have hp32r := hp32x.2.2.2
  obtain ⟨hS33, fx34⟩ := hS21.road2 hp32x.sk hp32w hp32g
  have fx35 := zag.tr fx23 fx34
  have hx36 : V31 (ad 1) = some (1, .inr (7, [.ref (ad 2), .ref (ad 20), .ref (ad 22), .ref (ad 24), .ref (ad 16), .ref (ad 31), .ref (ad 33), .ref (ad 35), .ref (ad 40), .ref (ad 45), .int (zI (σ 30)), .int (zI (σ 31)), .int (zI (σ 32)), .int (zI (σ 33))])) := hS33.1
  have t37o := hp32g _ _ _ t25o (by omega)
  have t37q := hp32g _ _ _ t25q (by omega)
  have t37T := t25T.kept (t37o.trans t25o.symm) (t37q.trans t25q.symm)
  have t37c := t25c
  have t37g := t37T.rg
  have t38o := hp32g _ _ _ t26o (by omega)
  have t38q := hp32g _ _ _ t26q (by omega)
  have t38T := t26T.kept (t38o.trans t26o.symm) (t38q.trans t26q.symm)
  have t38c := t26c
  have t38g := t38T.rg
  have t39o := hp32g _ _ _ t29o (by omega)
  have t39q := hp32g _ _ _ t29q (by omega)
  have t39T := t29T.kept (t39o.trans t29o.symm) (t39q.trans t29q.symm)
  have t39c := t29c
  have t39g := t39T.rg
  show zG C V31 0 0 35 [(0, .ref (ad 1)), (1, .ref (ad (10 + q.toNat)))] []
  have dq40 := dq27.kept hp32g (by omega) (by omega)
  have sx41 := hp20x.kept hp32g (by omega) (by omega)
  have hw42 := hS33.w (i := q.toNat) (by omega)
  have hw42r := hw42.rg
  have hz1 := hp20z
  rw [zaw_win t15s] at hz1
  have hz2 := hp32z
  rw [zaw_row dz10] at hz2
  have hz3 := hz1.1
  have hz4 := hz2.1
  refine zr_aload_n X 36 0 dX6_keptLiesAlike_35 rfl rfl ?_
  refine zr_get X 39 7 7 hx36 rfl iX6 (by decide) w2 rfl rfl dX6_keptLiesAlike_36 rfl ?_
  refine zr_getNsx X 42 sx41 iX3 rfl dX6_keptLiesAlike_39 rfl ?_
  refine zr_aload_n X 43 0 dX6_keptLiesAlike_42 rfl rfl ?_
  refine zr_get X 46 7 8 hx36 rfl iX6 (by decide) w4 rfl rfl dX6_keptLiesAlike_43 rfl ?_
  refine zr_getNsx X 49 hp32x iX3 rfl dX6_keptLiesAlike_46 rfl ?_
  refine zr_icmp_eq X 54 52 dX6_keptLiesAlike_49 rfl rfl (by omega) (by omega) (fun bq43 => ?_) (fun bq43 => ?_)
  · refine zr_iconst X 55 dX6_keptLiesAlike_54 rfl ?_
    refine zr_istore_n X 56 [(2, .int (zI (0))), (0, .ref (ad 1)), (1, .ref (ad (10 + q.toNat)))] dX6_keptLiesAlike_55 rfl (by decide) rfl ?_
    refine zr_sub [0, 2, 1] [(2, .int (zI (0))), (1, .ref (ad (10 + q.toNat))), (0, .ref (ad 1))] rfl ?_
    have loop : ∀ (N : Nat) (k : Int), 0 ≤ k ∧ k ≤ 81 → (81 - k).toNat = N → zG C V31 0 0 56 [(2, .int (zI (k))), (1, .ref (ad (10 + q.toNat))), (0, .ref (ad 1))] [] := by
      intro N
      induction N using Nat.strongRecOn with
      | _ N ih =>
      intro k hI hN
      obtain ⟨hI1, hI2⟩ := id hI
      refine zr_iload_n X 57 0 dX6_keptLiesAlike_56 rfl rfl ?_
      refine zr_aload_n X 58 2 dX6_keptLiesAlike_57 rfl rfl ?_
      refine zr_get X 61 7 7 hx36 rfl iX6 (by decide) w2 rfl rfl dX6_keptLiesAlike_58 rfl ?_
      refine zr_getNsx X 64 sx41 iX3 rfl dX6_keptLiesAlike_61 rfl ?_
      refine zr_icmp_ge X 94 67 dX6_keptLiesAlike_64 rfl rfl (by omega) (by omega) (fun bq44 => ?_) (fun bq44 => ?_)
      · refine zr_iconst X 95 dX6_keptLiesAlike_94 rfl ?_
        exact zr_zret X rfl rfl ⟨rfl, hS33, fx35⟩ dX6_keptLiesAlike_95
      · refine zr_aload_n X 68 2 dX6_keptLiesAlike_67 rfl rfl ?_
        refine zr_get X 71 7 7 hx36 rfl iX6 (by decide) w2 rfl rfl dX6_keptLiesAlike_68 rfl ?_
        refine zr_iload_n X 72 0 dX6_keptLiesAlike_71 rfl rfl ?_
        refine zr_callVe (kc' := 0) (ks' := 0) X 75 1 (g_foundAtx l Γ sx41 (q := k) (by omega)) gX6_keptLiesAlike_X3_foundAt rfl (by decide +kernel) rfl (by decide) hS33.2.2.2.2.2.2.1.cl rfl rfl (Nat.le_of_ble_eq_true rfl) dX6_keptLiesAlike_72 rfl (by omega) (by omega) (fun rv45 V46 hp47 => ?_)
        obtain ⟨hp47x, hp47e, hp47v, hp47a, hp47b, hp47c⟩ := hp47
        rw [hp47e, hp47v]
        show zG C V31 0 0 75 [(2, .int (zI (k))), (1, .ref (ad (10 + q.toNat))), (0, .ref (ad 1))] [.int (zI (hp47x))]
        refine zr_aload_n X 76 2 dX6_keptLiesAlike_75 rfl rfl ?_
        refine zr_get X 79 7 8 hx36 rfl iX6 (by decide) w4 rfl rfl dX6_keptLiesAlike_76 rfl ?_
        refine zr_iload_n X 80 0 dX6_keptLiesAlike_79 rfl rfl ?_
        refine zr_callVe (kc' := 0) (ks' := 0) X 83 1 (g_foundAtx l Γ hp32x (q := k) (by omega)) gX6_keptLiesAlike_X3_foundAt rfl (by decide +kernel) rfl (by decide) hS33.2.2.2.2.2.2.2.2.1.cl rfl rfl (Nat.le_of_ble_eq_true rfl) dX6_keptLiesAlike_80 rfl (by omega) (by omega) (fun rv48 V49 hp50 => ?_)
        obtain ⟨hp50x, hp50e, hp50v, hp50a, hp50b, hp50c⟩ := hp50
        rw [hp50e, hp50v]
        show zG C V31 0 0 83 [(2, .int (zI (k))), (1, .ref (ad (10 + q.toNat))), (0, .ref (ad 1))] [.int (zI (hp50x)), .int (zI (hp47x))]
        have hsm := zfo.same hz1 hz2 hp47c hp50c
        refine zr_icmp_eq X 88 86 dX6_keptLiesAlike_83 rfl rfl (by omega) (by omega) (fun bq51 => ?_) (fun bq51 => ?_)
        · refine zr_iinc X 91 0 [(2, .int (zI (k + 1))), (1, .ref (ad (10 + q.toNat))), (0, .ref (ad 1))] dX6_keptLiesAlike_88 rfl rfl (by decide) rfl ?_
          refine zr_goto X 56 dX6_keptLiesAlike_91 rfl ?_
          exact ih _ (by omega) (k + 1) ⟨by omega, by omega⟩ rfl
        · refine zr_iconst X 87 dX6_keptLiesAlike_86 rfl ?_
          exact zr_zret X rfl rfl (False.elim (by omega)) dX6_keptLiesAlike_87
    exact loop _ 0 ⟨by omega, by omega⟩ rfl
  · refine zr_iconst X 53 dX6_keptLiesAlike_52 rfl ?_
    exact zr_zret X rfl rfl (False.elim (by omega)) dX6_keptLiesAlike_53
set_option maxRecDepth 100000 in
set_option maxHeartbeats 4000000 in
theorem m_X6_builderIsSearchedRightly (l : Launch) (Γ : zGam) {V : zV} {ad : Nat → Nat} {σ : Nat → Int} (hS : zS Γ V ad σ) : zM l Γ 8 yX6_builderIsSearchedRightly wsX6_builderIsSearchedRightly 0 0 V [.ref (ad 1)] (fun rv V' => rv = some (.int (zI 1)) ∧ zS Γ V' ad σ ∧ zfx V V') := by
  have hbR := hS.2.2.2.2.1.1.rg
  have hkR := hS.2.2.2.2.1.2.1.rg
  have w0 : Cond.fieldLink RX6 48 "Sashwords" "road" "LSashwords$Seeker;" ∈ wsX6_builderIsSearchedRightly := by decide +kernel
  have iX6 : ∀ w ∈ u_ws RX6 TX6 14, w ∈ wsX6_builderIsSearchedRightly := by decide +kernel
  have w2 : Cond.fieldLink RX6 20 "Sashwords" "builder" "LSashwords$Script;" ∈ wsX6_builderIsSearchedRightly := by decide +kernel
  have w3 : Cond.fieldLink RX6 24 "Sashwords" "kept" "LSashwords$Script;" ∈ wsX6_builderIsSearchedRightly := by decide +kernel
  have iX3 : ∀ w ∈ u_ws RX3 TX3 3, w ∈ wsX6_builderIsSearchedRightly := by decide +kernel
  refine zM_of (cc := cX6_builderIsSearchedRightly) (nL := 3) (ret := (some .boolean)) (own := RX6) (by decide +kernel) rfl rfl (Nat.le_of_ble_eq_true rfl) (fun C X hi0 => ?_)
  have hx1 : V (ad 1) = some (1, .inr (7, [.ref (ad 2), .ref (ad 20), .ref (ad 22), .ref (ad 24), .ref (ad 16), .ref (ad 31), .ref (ad 33), .ref (ad 35), .ref (ad 40), .ref (ad 45), .int (zI (σ 30)), .int (zI (σ 31)), .int (zI (σ 32)), .int (zI (σ 33))])) := hS.1
  show zG C V 0 0 0 [(0, .ref (ad 1))] []
  refine zr_aload_n X 1 0 dX6_builderIsSearchedRightly_0 rfl rfl ?_
  refine zr_get X 4 7 7 hx1 rfl iX6 (by decide) w0 rfl rfl dX6_builderIsSearchedRightly_1 rfl ?_
  refine zr_aload_n X 5 0 dX6_builderIsSearchedRightly_4 rfl rfl ?_
  refine zr_get X 8 7 1 hx1 rfl iX6 (by decide) w2 rfl rfl dX6_builderIsSearchedRightly_5 rfl ?_
  refine zr_aload_n X 9 0 dX6_builderIsSearchedRightly_8 rfl rfl ?_
  refine zr_get X 12 7 2 hx1 rfl iX6 (by decide) w3 rfl rfl dX6_builderIsSearchedRightly_9 rfl ?_
  obtain ⟨t2e, t2e2, t2h, t2T, t2o, t2q⟩ := hS.2.2.2.2.1.1.tx (by decide)
  have t2g := t2T.rg
  have t2c := True.intro
  obtain ⟨t3e, t3e2, t3h, t3T, t3o, t3q⟩ := hS.2.2.2.2.1.2.1.tx (by decide)
  have t3g := t3T.rg
  have t3c := True.intro
  refine zr_callVe (kc' := 0) (ks' := 0) X 15 2 (g_seek l Γ hS.2.2.2.2.2.2.1 hS.2.2.2.2.2.2.2.1 t2T t2o t2q t3T t3o t3q (by omega) (by omega) (by decide) (by omega) (by omega)) gX6_builderIsSearchedRightly_X3_seek rfl (by decide +kernel) rfl (by decide) hS.2.2.2.2.2.2.1.cl rfl rfl (Nat.le_of_ble_eq_true rfl) dX6_builderIsSearchedRightly_12 rfl (by omega) (by omega) (fun rv4 V5 hp6 => ?_)
  obtain ⟨hp6e, ⟨hp6m, hp6f, hp6x, hp6z⟩, hp6w, hp6g⟩ := hp6
  rw [hp6e]
  have hp6r := hp6x.2.2.2
  obtain ⟨hS7, fx8⟩ := hS.road hp6x.sk hp6w hp6g
  have hx9 : V5 (ad 1) = some (1, .inr (7, [.ref (ad 2), .ref (ad 20), .ref (ad 22), .ref (ad 24), .ref (ad 16), .ref (ad 31), .ref (ad 33), .ref (ad 35), .ref (ad 40), .ref (ad 45), .int (zI (σ 30)), .int (zI (σ 31)), .int (zI (σ 32)), .int (zI (σ 33))])) := hS7.1
  have t10o := hp6g _ _ _ t2o (by omega)
  have t10q := hp6g _ _ _ t2q (by omega)
  have t10T := t2T.kept (t10o.trans t2o.symm) (t10q.trans t2q.symm)
  have t10c := t2c
  have t10g := t10T.rg
  have t11o := hp6g _ _ _ t3o (by omega)
  have t11q := hp6g _ _ _ t3q (by omega)
  have t11T := t3T.kept (t11o.trans t3o.symm) (t11q.trans t3q.symm)
  have t11c := t3c
  have t11g := t11T.rg
  show zG C V5 0 0 15 [(0, .ref (ad 1))] []
  refine zr_iconst X 16 dX6_builderIsSearchedRightly_15 rfl ?_
  refine zr_istore_n X 17 [(1, .int (zI (0))), (0, .ref (ad 1))] dX6_builderIsSearchedRightly_16 rfl (by decide) rfl ?_
  refine zr_iconst X 18 dX6_builderIsSearchedRightly_17 rfl ?_
  refine zr_istore_n X 19 [(2, .int (zI (0))), (1, .int (zI (0))), (0, .ref (ad 1))] dX6_builderIsSearchedRightly_18 rfl (by decide) rfl ?_
  have hz1 := hp6z
  have hz2 := hz1.1
  have loop : ∀ (N : Nat) (tr : Int) (k : Int), 0 ≤ tr ∧ tr ≤ k ∧ k ≤ σ 24 + 1 ∧ tr = (zno (zaw (σ 25) t3h) (zaw (σ 24) t2h) (σ 25).toNat (min k.toNat ((σ 24).toNat + 1 - (σ 25).toNat)) : Int) → (σ 24 + 1 - k).toNat = N → zG C V5 0 0 19 [(2, .int (zI (k))), (1, .int (zI (tr))), (0, .ref (ad 1))] [] := by
    intro N
    induction N using Nat.strongRecOn with
    | _ N ih =>
    intro tr k hI hN
    obtain ⟨hI1, hI2, hI3, hI4⟩ := id hI
    refine zr_iload_n X 20 0 dX6_builderIsSearchedRightly_19 rfl rfl ?_
    refine zr_aload_n X 21 2 dX6_builderIsSearchedRightly_20 rfl rfl ?_
    refine zr_get X 24 7 1 hx9 rfl iX6 (by decide) w2 rfl rfl dX6_builderIsSearchedRightly_21 rfl ?_
    refine zr_callVe (kc' := 0) (ks' := 0) X 27 0 (f_size l Γ hS7.2.2.2.2.1.1) gX6_builderIsSearchedRightly_X2_size rfl (by decide +kernel) rfl (by decide) hS7.2.2.2.2.1.1.cl rfl rfl (Nat.le_of_ble_eq_true rfl) dX6_builderIsSearchedRightly_24 rfl (by omega) (by omega) (fun rv12 V13 hp14 => ?_)
    rw [hp14.1, hp14.2]
    have hp14r := hS7.2.2.2.2.1.1.rg
    show zG C V5 0 0 27 [(2, .int (zI (k))), (1, .int (zI (tr))), (0, .ref (ad 1))] [.int (zI (σ 24)), .int (zI (k))]
    refine zr_icmp_gt X 76 30 dX6_builderIsSearchedRightly_27 rfl rfl (by omega) (by omega) (fun bq15 => ?_) (fun bq15 => ?_)
    · refine zr_iload_n X 77 1 dX6_builderIsSearchedRightly_76 rfl rfl ?_
      refine zr_aload_n X 78 2 dX6_builderIsSearchedRightly_77 rfl rfl ?_
      refine zr_get X 81 7 7 hx9 rfl iX6 (by decide) w0 rfl rfl dX6_builderIsSearchedRightly_78 rfl ?_
      refine zr_getNsx X 84 hp6x iX3 rfl dX6_builderIsSearchedRightly_81 rfl ?_
      refine zr_icmp_ne X 91 87 dX6_builderIsSearchedRightly_84 rfl rfl (by omega) (by omega) (fun bq16 => ?_) (fun bq16 => ?_)
      · refine zr_iconst X 92 dX6_builderIsSearchedRightly_91 rfl ?_
        have htr9 := hI4
        try rw [show min k.toNat ((σ 24).toNat + 1 - (σ 25).toNat) = ((σ 24).toNat + 1 - (σ 25).toNat) by omega] at htr9
        exact zr_zret X rfl rfl (False.elim (by omega)) dX6_builderIsSearchedRightly_92
      · refine zr_iconst X 88 dX6_builderIsSearchedRightly_87 rfl ?_
        refine zr_goto X 92 dX6_builderIsSearchedRightly_88 rfl ?_
        have htr9 := hI4
        try rw [show min k.toNat ((σ 24).toNat + 1 - (σ 25).toNat) = ((σ 24).toNat + 1 - (σ 25).toNat) by omega] at htr9
        exact zr_zret X rfl rfl ⟨rfl, hS7, fx8⟩ dX6_builderIsSearchedRightly_92
    · refine zr_aload_n X 31 2 dX6_builderIsSearchedRightly_30 rfl rfl ?_
      refine zr_get X 34 7 2 hx9 rfl iX6 (by decide) w3 rfl rfl dX6_builderIsSearchedRightly_31 rfl ?_
      refine zr_iconst X 35 dX6_builderIsSearchedRightly_34 rfl ?_
      refine zr_aload_n X 36 2 dX6_builderIsSearchedRightly_35 rfl rfl ?_
      refine zr_get X 39 7 2 hx9 rfl iX6 (by decide) w3 rfl rfl dX6_builderIsSearchedRightly_36 rfl ?_
      refine zr_callVe (kc' := 0) (ks' := 0) X 42 0 (f_size l Γ hS7.2.2.2.2.1.2.1) gX6_builderIsSearchedRightly_X2_size rfl (by decide +kernel) rfl (by decide) hS7.2.2.2.2.1.2.1.cl rfl rfl (Nat.le_of_ble_eq_true rfl) dX6_builderIsSearchedRightly_39 rfl (by omega) (by omega) (fun rv17 V18 hp19 => ?_)
      rw [hp19.1, hp19.2]
      have hp19r := hS7.2.2.2.2.1.2.1.rg
      show zG C V5 0 0 42 [(2, .int (zI (k))), (1, .int (zI (tr))), (0, .ref (ad 1))] [.int (zI (σ 25)), .int (zI (0)), .ref (ad 22)]
      refine zr_aload_n X 43 2 dX6_builderIsSearchedRightly_42 rfl rfl ?_
      refine zr_get X 46 7 1 hx9 rfl iX6 (by decide) w2 rfl rfl dX6_builderIsSearchedRightly_43 rfl ?_
      refine zr_iload_n X 47 0 dX6_builderIsSearchedRightly_46 rfl rfl ?_
      refine zr_callS (kc' := 0) (ks' := 0) X 50 5 (m_X6_matches l Γ (V := V5) (fr := 0) (mn := σ 25) (ap := k) t11T t10T (by omega) (by omega) (by omega)) gX6_builderIsSearchedRightly_X6_matches rfl (by decide +kernel) rfl (by decide) rfl (Nat.le_of_ble_eq_true rfl) dX6_builderIsSearchedRightly_47 rfl (by omega) (by omega) (fun rv20 V21 hp22 => ?_)
      obtain ⟨⟨hp22v, hp22e, hp22a⟩, hp22w⟩ := hp22
      rw [hp22e, hp22w]
      show zG C V5 0 0 50 [(2, .int (zI (k))), (1, .int (zI (tr))), (0, .ref (ad 1))] [.int (zI (hp22v))]
      refine zr_if_eq X 70 53 dX6_builderIsSearchedRightly_50 rfl rfl (by omega) (fun bq23 => ?_) (fun bq23 => ?_)
      · refine zr_iinc X 73 0 [(2, .int (zI (k + 1))), (1, .int (zI (tr))), (0, .ref (ad 1))] dX6_builderIsSearchedRightly_70 rfl rfl (by decide) rfl ?_
        refine zr_goto X 19 dX6_builderIsSearchedRightly_73 rfl ?_
        have hq9 : tr = (zno (zaw (σ 25) t3h) (zaw (σ 24) t2h) (σ 25).toNat (min (k + 1).toNat ((σ 24).toNat + 1 - (σ 25).toNat)) : Int) := by
          by_cases c9 : k.toNat < ((σ 24).toNat + 1 - (σ 25).toNat)
          · have hmn9 : min k.toNat ((σ 24).toNat + 1 - (σ 25).toNat) = k.toNat := by omega
            have htr9 := hI4
            rw [hmn9] at htr9
            rw [show min (k + 1).toNat ((σ 24).toNat + 1 - (σ 25).toNat) = k.toNat + 1 by omega]
            rcases hp22a with ⟨e9, z9⟩ | ⟨e9, z9⟩
            · rw [zno_in (zma_in (by omega) (by omega) z9).2]
              omega
            · rw [zno_out (zma_out (by omega) (by omega) z9 c9 (by omega))]
              omega
          · have hmn9 : min k.toNat ((σ 24).toNat + 1 - (σ 25).toNat) = ((σ 24).toNat + 1 - (σ 25).toNat) := by omega
            have htr9 := hI4
            rw [hmn9] at htr9
            rw [show min (k + 1).toNat ((σ 24).toNat + 1 - (σ 25).toNat) = ((σ 24).toNat + 1 - (σ 25).toNat) by omega]
            rcases hp22a with ⟨e9, z9⟩ | ⟨e9, z9⟩
            · exact absurd (zma_in (by omega) (by omega) z9).1 c9
            · omega
        exact ih _ (by omega) tr (k + 1) ⟨by omega, by omega, by omega, hq9⟩ rfl
      · refine zr_aload_n X 54 2 dX6_builderIsSearchedRightly_53 rfl rfl ?_
        refine zr_get X 57 7 7 hx9 rfl iX6 (by decide) w0 rfl rfl dX6_builderIsSearchedRightly_54 rfl ?_
        refine zr_iload_n X 58 1 dX6_builderIsSearchedRightly_57 rfl rfl ?_
        refine zr_callVe (kc' := 0) (ks' := 0) X 61 1 (g_foundAtx l Γ hp6x (q := tr) (by omega)) gX6_builderIsSearchedRightly_X3_foundAt rfl (by decide +kernel) rfl (by decide) hS7.2.2.2.2.2.2.1.cl rfl rfl (Nat.le_of_ble_eq_true rfl) dX6_builderIsSearchedRightly_58 rfl (by omega) (by omega) (fun rv24 V25 hp26 => ?_)
        obtain ⟨hp26x, hp26e, hp26v, hp26a, hp26b, hp26c⟩ := hp26
        rw [hp26e, hp26v]
        show zG C V5 0 0 61 [(2, .int (zI (k))), (1, .int (zI (tr))), (0, .ref (ad 1))] [.int (zI (hp26x))]
        have hin : k.toNat < ((σ 24).toNat + 1 - (σ 25).toNat) ∧ zli (zaw (σ 25) t3h) (zaw (σ 24) t2h) (σ 25).toNat k.toNat := by
          rcases hp22a with ⟨-, e9⟩ | ⟨e9, -⟩
          · exact zma_in (by omega) (by omega) e9
          · exfalso; omega
        have hmn : min k.toNat ((σ 24).toNat + 1 - (σ 25).toNat) = k.toNat := by omega
        have htr := hI4
        rw [hmn] at htr
        have hmo := zno_mono (w := (zaw (σ 25) t3h)) (t := (zaw (σ 24) t2h)) (m := (σ 25).toNat) (show k.toNat + 1 ≤ ((σ 24).toNat + 1 - (σ 25).toNat) by omega)
        rw [zno_in hin.2] at hmo
        have hpl := hz1.2 k.toNat hin.1 hin.2
        have hft := hp26c
        rw [if_pos (by omega), show tr.toNat = zno (zaw (σ 25) t3h) (zaw (σ 24) t2h) (σ 25).toNat k.toNat by omega, hpl] at hft
        refine zr_iload_n X 62 0 dX6_builderIsSearchedRightly_61 rfl rfl ?_
        refine zr_icmp_eq X 67 65 dX6_builderIsSearchedRightly_62 rfl rfl (by omega) (by omega) (fun bq27 => ?_) (fun bq27 => ?_)
        · refine zr_iinc X 70 1 [(1, .int (zI (tr + 1))), (2, .int (zI (k))), (0, .ref (ad 1))] dX6_builderIsSearchedRightly_67 rfl rfl (by decide) rfl ?_
          refine zr_iinc X 73 1 [(2, .int (zI (k + 1))), (1, .int (zI (tr + 1))), (0, .ref (ad 1))] dX6_builderIsSearchedRightly_70 rfl rfl (by decide) rfl ?_
          refine zr_goto X 19 dX6_builderIsSearchedRightly_73 rfl ?_
          have hq9 : tr + 1 = (zno (zaw (σ 25) t3h) (zaw (σ 24) t2h) (σ 25).toNat (min (k + 1).toNat ((σ 24).toNat + 1 - (σ 25).toNat)) : Int) := by
            by_cases c9 : k.toNat < ((σ 24).toNat + 1 - (σ 25).toNat)
            · have hmn9 : min k.toNat ((σ 24).toNat + 1 - (σ 25).toNat) = k.toNat := by omega
              have htr9 := hI4
              rw [hmn9] at htr9
              rw [show min (k + 1).toNat ((σ 24).toNat + 1 - (σ 25).toNat) = k.toNat + 1 by omega]
              rcases hp22a with ⟨e9, z9⟩ | ⟨e9, z9⟩
              · rw [zno_in (zma_in (by omega) (by omega) z9).2]
                omega
              · rw [zno_out (zma_out (by omega) (by omega) z9 c9 (by omega))]
                omega
            · have hmn9 : min k.toNat ((σ 24).toNat + 1 - (σ 25).toNat) = ((σ 24).toNat + 1 - (σ 25).toNat) := by omega
              have htr9 := hI4
              rw [hmn9] at htr9
              rw [show min (k + 1).toNat ((σ 24).toNat + 1 - (σ 25).toNat) = ((σ 24).toNat + 1 - (σ 25).toNat) by omega]
              rcases hp22a with ⟨e9, z9⟩ | ⟨e9, z9⟩
              · exact absurd (zma_in (by omega) (by omega) z9).1 c9
              · omega
          exact ih _ (by omega) (tr + 1) (k + 1) ⟨by omega, by omega, by omega, hq9⟩ rfl
        · refine zr_iconst X 66 dX6_builderIsSearchedRightly_65 rfl ?_
          have htr9 := hI4
          try rw [show min k.toNat ((σ 24).toNat + 1 - (σ 25).toNat) = ((σ 24).toNat + 1 - (σ 25).toNat) by omega] at htr9
          exact zr_zret X rfl rfl (False.elim (by omega)) dX6_builderIsSearchedRightly_66
  exact loop _ 0 0 ⟨by omega, by omega, by omega, by rw [show min (0 : Int).toNat ((σ 24).toNat + 1 - (σ 25).toNat) = 0 by omega]; rfl⟩ rfl
set_option maxRecDepth 100000 in
set_option maxHeartbeats 4000000 in
theorem m_X6_builderChainIsRight (l : Launch) (Γ : zGam) {V : zV} {ad : Nat → Nat} {σ : Nat → Int} (hS : zS Γ V ad σ) : zM l Γ 9 yX6_builderChainIsRight wsX6_builderChainIsRight 0 0 V [.ref (ad 1)] (fun rv V' => rv = some (.int (zI 1)) ∧ zS Γ V' ad σ ∧ zfx V V') := by
  have hbR := hS.2.2.2.2.1.1.rg
  have hkR := hS.2.2.2.2.1.2.1.rg
  have w0 : Cond.fieldLink RX6 58 "Sashwords" "table" "LSashwords$Borders;" ∈ wsX6_builderChainIsRight := by decide +kernel
  have iX6 : ∀ w ∈ u_ws RX6 TX6 14, w ∈ wsX6_builderChainIsRight := by decide +kernel
  have w2 : Cond.fieldLink RX6 20 "Sashwords" "builder" "LSashwords$Script;" ∈ wsX6_builderChainIsRight := by decide +kernel
  have iX0 : ∀ w ∈ u_ws RX0 TX0 3, w ∈ wsX6_builderChainIsRight := by decide +kernel
  refine zM_of (cc := cX6_builderChainIsRight) (nL := 3) (ret := (some .boolean)) (own := RX6) (by decide +kernel) rfl rfl (Nat.le_of_ble_eq_true rfl) (fun C X hi0 => ?_)
  have hx1 : V (ad 1) = some (1, .inr (7, [.ref (ad 2), .ref (ad 20), .ref (ad 22), .ref (ad 24), .ref (ad 16), .ref (ad 31), .ref (ad 33), .ref (ad 35), .ref (ad 40), .ref (ad 45), .int (zI (σ 30)), .int (zI (σ 31)), .int (zI (σ 32)), .int (zI (σ 33))])) := hS.1
  show zG C V 0 0 0 [(0, .ref (ad 1))] []
  refine zr_aload_n X 1 0 dX6_builderChainIsRight_0 rfl rfl ?_
  refine zr_get X 4 7 9 hx1 rfl iX6 (by decide) w0 rfl rfl dX6_builderChainIsRight_1 rfl ?_
  refine zr_aload_n X 5 0 dX6_builderChainIsRight_4 rfl rfl ?_
  refine zr_get X 8 7 1 hx1 rfl iX6 (by decide) w2 rfl rfl dX6_builderChainIsRight_5 rfl ?_
  obtain ⟨t2e, t2e2, t2h, t2T, t2o, t2q⟩ := hS.2.2.2.2.1.1.tx (by decide)
  have t2g := t2T.rg
  have t2c := True.intro
  refine zr_callVe (kc' := 0) (ks' := 0) X 11 1 (g_measureChain l Γ hS.2.2.2.2.2.2.2.2.2.2 t2T t2o t2q (by omega) (by omega)) gX6_builderChainIsRight_X0_measureChain rfl (by decide +kernel) rfl (by decide) hS.2.2.2.2.2.2.2.2.2.2.cl rfl rfl (Nat.le_of_ble_eq_true rfl) dX6_builderChainIsRight_8 rfl (by omega) (by omega) (fun rv3 V4 hp5 => ?_)
  obtain ⟨hp5e, hp5w, hp5g, hp5l, hp5c, hp5x, hp5z⟩ := hp5
  rw [hp5e]
  have hp5r := hp5z.1
  obtain ⟨hS6, fx7⟩ := hS.table hp5w hp5g
  have hx8 : V4 (ad 1) = some (1, .inr (7, [.ref (ad 2), .ref (ad 20), .ref (ad 22), .ref (ad 24), .ref (ad 16), .ref (ad 31), .ref (ad 33), .ref (ad 35), .ref (ad 40), .ref (ad 45), .int (zI (σ 30)), .int (zI (σ 31)), .int (zI (σ 32)), .int (zI (σ 33))])) := hS6.1
  have t9o := hp5g _ _ _ t2o (by omega)
  have t9q := hp5g _ _ _ t2q (by omega)
  have t9T := t2T.kept (t9o.trans t2o.symm) (t9q.trans t2q.symm)
  have t9c := t2c
  have t9g := t9T.rg
  show zG C V4 0 0 11 [(0, .ref (ad 1))] []
  refine zr_iconst X 12 dX6_builderChainIsRight_11 rfl ?_
  refine zr_istore_n X 13 [(1, .int (zI (0))), (0, .ref (ad 1))] dX6_builderChainIsRight_12 rfl (by decide) rfl ?_
  refine zr_aload_n X 14 1 dX6_builderChainIsRight_13 rfl rfl ?_
  refine zr_get X 17 7 1 hx8 rfl iX6 (by decide) w2 rfl rfl dX6_builderChainIsRight_14 rfl ?_
  refine zr_callVe (kc' := 0) (ks' := 0) X 20 0 (f_size l Γ hS6.2.2.2.2.1.1) gX6_builderChainIsRight_X2_size rfl (by decide +kernel) rfl (by decide) hS6.2.2.2.2.1.1.cl rfl rfl (Nat.le_of_ble_eq_true rfl) dX6_builderChainIsRight_17 rfl (by omega) (by omega) (fun rv10 V11 hp12 => ?_)
  rw [hp12.1, hp12.2]
  have hp12r := hS6.2.2.2.2.1.1.rg
  show zG C V4 0 0 20 [(1, .int (zI (0))), (0, .ref (ad 1))] [.int (zI (σ 24))]
  refine zr_iconst X 21 dX6_builderChainIsRight_20 rfl ?_
  refine zr_isub X 22 dX6_builderChainIsRight_21 rfl ?_
  refine zr_istore_n X 23 [(2, .int (zI ((σ 24) - 1))), (1, .int (zI (0))), (0, .ref (ad 1))] dX6_builderChainIsRight_22 rfl (by decide) rfl ?_
  have hz1 := hp5z
  have hz2 := hz1.1
  rw [Nat.sub_zero] at hz2
  have loop : ∀ (N : Nat) (tr : Int) (k : Int), 0 ≤ tr ∧ tr ≤ σ 24 - 1 - k ∧ -1 ≤ k ∧ k ≤ σ 24 - 1 ∧ (0 ≤ k → tr = (znb (zaw (σ 24) t2h) (σ 24).toNat ((σ 24).toNat - 1 - k.toNat) : Int)) ∧ (k = -1 → tr = (znb (zaw (σ 24) t2h) (σ 24).toNat (σ 24).toNat : Int)) → (k + 1).toNat = N → zG C V4 0 0 23 [(2, .int (zI (k))), (1, .int (zI (tr))), (0, .ref (ad 1))] [] := by
    intro N
    induction N using Nat.strongRecOn with
    | _ N ih =>
    intro tr k hI hN
    obtain ⟨hI1, hI2, hI3, hI4, hI5, hI6⟩ := id hI
    refine zr_iload_n X 24 0 dX6_builderChainIsRight_23 rfl rfl ?_
    refine zr_if_lt X 75 27 dX6_builderChainIsRight_24 rfl rfl (by omega) (fun bq13 => ?_) (fun bq13 => ?_)
    · refine zr_iload_n X 76 1 dX6_builderChainIsRight_75 rfl rfl ?_
      refine zr_aload_n X 77 2 dX6_builderChainIsRight_76 rfl rfl ?_
      refine zr_get X 80 7 9 hx8 rfl iX6 (by decide) w0 rfl rfl dX6_builderChainIsRight_77 rfl ?_
      refine zr_getNbx X 83 hp5x iX0 rfl dX6_builderChainIsRight_80 rfl ?_
      refine zr_icmp_ne X 90 86 dX6_builderChainIsRight_83 rfl rfl (by omega) (by omega) (fun bq14 => ?_) (fun bq14 => ?_)
      · refine zr_iconst X 91 dX6_builderChainIsRight_90 rfl ?_
        have htr9 := hI6
        try have htr8 := hI6 (by omega)
        exact zr_zret X rfl rfl (False.elim (by omega)) dX6_builderChainIsRight_91
      · refine zr_iconst X 87 dX6_builderChainIsRight_86 rfl ?_
        refine zr_goto X 91 dX6_builderChainIsRight_87 rfl ?_
        have htr9 := hI6
        try have htr8 := hI6 (by omega)
        exact zr_zret X rfl rfl ⟨rfl, hS6, fx7⟩ dX6_builderChainIsRight_91
    · refine zr_aload_n X 28 2 dX6_builderChainIsRight_27 rfl rfl ?_
      refine zr_get X 31 7 1 hx8 rfl iX6 (by decide) w2 rfl rfl dX6_builderChainIsRight_28 rfl ?_
      refine zr_iconst X 32 dX6_builderChainIsRight_31 rfl ?_
      refine zr_iload_n X 33 0 dX6_builderChainIsRight_32 rfl rfl ?_
      refine zr_aload_n X 34 2 dX6_builderChainIsRight_33 rfl rfl ?_
      refine zr_get X 37 7 1 hx8 rfl iX6 (by decide) w2 rfl rfl dX6_builderChainIsRight_34 rfl ?_
      refine zr_aload_n X 38 2 dX6_builderChainIsRight_37 rfl rfl ?_
      refine zr_get X 41 7 1 hx8 rfl iX6 (by decide) w2 rfl rfl dX6_builderChainIsRight_38 rfl ?_
      refine zr_callVe (kc' := 0) (ks' := 0) X 44 0 (f_size l Γ hS6.2.2.2.2.1.1) gX6_builderChainIsRight_X2_size rfl (by decide +kernel) rfl (by decide) hS6.2.2.2.2.1.1.cl rfl rfl (Nat.le_of_ble_eq_true rfl) dX6_builderChainIsRight_41 rfl (by omega) (by omega) (fun rv15 V16 hp17 => ?_)
      rw [hp17.1, hp17.2]
      have hp17r := hS6.2.2.2.2.1.1.rg
      show zG C V4 0 0 44 [(2, .int (zI (k))), (1, .int (zI (tr))), (0, .ref (ad 1))] [.int (zI (σ 24)), .ref (ad 20), .int (zI (k)), .int (zI (0)), .ref (ad 20)]
      refine zr_iload_n X 45 0 dX6_builderChainIsRight_44 rfl rfl ?_
      refine zr_isub X 46 dX6_builderChainIsRight_45 rfl ?_
      refine zr_callS (kc' := 0) (ks' := 0) X 49 5 (m_X6_matches l Γ (V := V4) (fr := 0) (mn := k) (ap := (σ 24) - k) t9T t9T (by omega) (by omega) (by omega)) gX6_builderChainIsRight_X6_matches rfl (by decide +kernel) rfl (by decide) rfl (Nat.le_of_ble_eq_true rfl) dX6_builderChainIsRight_46 rfl (by omega) (by omega) (fun rv18 V19 hp20 => ?_)
      obtain ⟨⟨hp20v, hp20e, hp20a⟩, hp20w⟩ := hp20
      rw [hp20e, hp20w]
      show zG C V4 0 0 49 [(2, .int (zI (k))), (1, .int (zI (tr))), (0, .ref (ad 1))] [.int (zI (hp20v))]
      refine zr_if_eq X 69 52 dX6_builderChainIsRight_49 rfl rfl (by omega) (fun bq21 => ?_) (fun bq21 => ?_)
      · refine zr_iinc X 72 0 [(2, .int (zI (k + (-1)))), (1, .int (zI (tr))), (0, .ref (ad 1))] dX6_builderChainIsRight_69 rfl rfl (by decide) rfl ?_
        refine zr_goto X 23 dX6_builderChainIsRight_72 rfl ?_
        have hq9 : tr = (znb (zaw (σ 24) t2h) (σ 24).toNat ((σ 24).toNat - 1 - k.toNat + 1) : Int) := by
          have htr9 := hI5 (by omega)
          rcases hp20a with ⟨e9, z9⟩ | ⟨e9, z9⟩
          · rw [znb_in ((zma_bd (by omega)).mp z9)]
            omega
          · rw [znb_out (fun c9 => z9 ((zma_bd (by omega)).mpr c9))]
            omega
        exact ih _ (by omega) tr (k + (-1)) ⟨by omega, by omega, by omega, by omega, fun h9 => by rw [hq9, show (σ 24).toNat - 1 - (k + (-1)).toNat = (σ 24).toNat - 1 - k.toNat + 1 by omega], fun h9 => by rw [hq9, show (σ 24).toNat - 1 - k.toNat + 1 = (σ 24).toNat by omega]⟩ rfl
      · refine zr_aload_n X 53 2 dX6_builderChainIsRight_52 rfl rfl ?_
        refine zr_get X 56 7 9 hx8 rfl iX6 (by decide) w0 rfl rfl dX6_builderChainIsRight_53 rfl ?_
        refine zr_iload_n X 57 1 dX6_builderChainIsRight_56 rfl rfl ?_
        refine zr_callVe (kc' := 0) (ks' := 0) X 60 1 (g_linkAtx l Γ hp5x (k := tr) (by omega)) gX6_builderChainIsRight_X0_linkAt rfl (by decide +kernel) rfl (by decide) hS6.2.2.2.2.2.2.2.2.2.2.cl rfl rfl (Nat.le_of_ble_eq_true rfl) dX6_builderChainIsRight_57 rfl (by omega) (by omega) (fun rv22 V23 hp24 => ?_)
        obtain ⟨hp24x, hp24e, hp24v, hp24a, hp24b, hp24c⟩ := hp24
        rw [hp24e, hp24v]
        show zG C V4 0 0 60 [(2, .int (zI (k))), (1, .int (zI (tr))), (0, .ref (ad 1))] [.int (zI (hp24x))]
        have hin : zbp (zaw (σ 24) t2h) (σ 24).toNat ((σ 24).toNat - 1 - k.toNat) := by
          rcases hp20a with ⟨-, e9⟩ | ⟨e9, -⟩
          · exact (zma_bd (by omega)).mp e9
          · exfalso; omega
        have htr := hI5 (by omega)
        have hmo := znb_mono (w := (zaw (σ 24) t2h)) (m := (σ 24).toNat) (show (σ 24).toNat - 1 - k.toNat + 1 ≤ (σ 24).toNat by omega)
        rw [znb_in hin] at hmo
        have hpl := hz1.2 _ (by omega) hin
        have hft := hp24c
        rw [if_pos (by omega), show tr.toNat = znb (zaw (σ 24) t2h) (σ 24).toNat ((σ 24).toNat - 1 - k.toNat) by omega, hpl] at hft
        refine zr_iload_n X 61 0 dX6_builderChainIsRight_60 rfl rfl ?_
        refine zr_icmp_eq X 66 64 dX6_builderChainIsRight_61 rfl rfl (by omega) (by omega) (fun bq25 => ?_) (fun bq25 => ?_)
        · refine zr_iinc X 69 1 [(1, .int (zI (tr + 1))), (2, .int (zI (k))), (0, .ref (ad 1))] dX6_builderChainIsRight_66 rfl rfl (by decide) rfl ?_
          refine zr_iinc X 72 1 [(2, .int (zI (k + (-1)))), (1, .int (zI (tr + 1))), (0, .ref (ad 1))] dX6_builderChainIsRight_69 rfl rfl (by decide) rfl ?_
          refine zr_goto X 23 dX6_builderChainIsRight_72 rfl ?_
          have hq9 : tr + 1 = (znb (zaw (σ 24) t2h) (σ 24).toNat ((σ 24).toNat - 1 - k.toNat + 1) : Int) := by
            have htr9 := hI5 (by omega)
            rcases hp20a with ⟨e9, z9⟩ | ⟨e9, z9⟩
            · rw [znb_in ((zma_bd (by omega)).mp z9)]
              omega
            · rw [znb_out (fun c9 => z9 ((zma_bd (by omega)).mpr c9))]
              omega
          exact ih _ (by omega) (tr + 1) (k + (-1)) ⟨by omega, by omega, by omega, by omega, fun h9 => by rw [hq9, show (σ 24).toNat - 1 - (k + (-1)).toNat = (σ 24).toNat - 1 - k.toNat + 1 by omega], fun h9 => by rw [hq9, show (σ 24).toNat - 1 - k.toNat + 1 = (σ 24).toNat by omega]⟩ rfl
        · refine zr_iconst X 65 dX6_builderChainIsRight_64 rfl ?_
          have htr9 := hI6
          try have htr8 := hI6 (by omega)
          exact zr_zret X rfl rfl (False.elim (by omega)) dX6_builderChainIsRight_65
  exact loop _ 0 ((σ 24) - 1) ⟨by omega, by omega, by omega, by omega, fun h9 => by rw [show (σ 24).toNat - 1 - ((σ 24) - 1).toNat = 0 by omega]; rfl, fun h9 => by rw [show (σ 24).toNat = 0 by omega]; rfl⟩ rfl
set_option maxRecDepth 100000 in
set_option maxHeartbeats 4000000 in
theorem m_X6_isSound (l : Launch) (Γ : zGam) {V : zV} {ad : Nat → Nat} {σ : Nat → Int} (hS : zS Γ V ad σ) : zM l Γ 10 yX6_isSound wsX6_isSound 0 0 V [.ref (ad 1)] (fun rv V' => rv = some (.int (zI 1)) ∧ zS Γ V' ad σ ∧ zfx V V') := by
  have w0 : Cond.fieldLink RX6 11 "Sashwords" "windows" "[LSashwords$Window;" ∈ wsX6_isSound := by decide +kernel
  have iX6 : ∀ w ∈ u_ws RX6 TX6 14, w ∈ wsX6_isSound := by decide +kernel
  have w2 : Cond.fieldLink RX6 30 "Sashwords" "line" "LSashwords$Pipe;" ∈ wsX6_isSound := by decide +kernel
  refine zM_of (cc := cX6_isSound) (nL := 2) (ret := (some .boolean)) (own := RX6) (by decide +kernel) rfl rfl (Nat.le_of_ble_eq_true rfl) (fun C X hi0 => ?_)
  have hx1 : V (ad 1) = some (1, .inr (7, [.ref (ad 2), .ref (ad 20), .ref (ad 22), .ref (ad 24), .ref (ad 16), .ref (ad 31), .ref (ad 33), .ref (ad 35), .ref (ad 40), .ref (ad 45), .int (zI (σ 30)), .int (zI (σ 31)), .int (zI (σ 32)), .int (zI (σ 33))])) := hS.1
  show zG C V 0 0 0 [(0, .ref (ad 1))] []
  refine zr_iconst X 1 dX6_isSound_0 rfl ?_
  refine zr_istore_n X 2 [(1, .int (zI (0))), (0, .ref (ad 1))] dX6_isSound_1 rfl (by decide) rfl ?_
  have loop : ∀ (N : Nat) (V1 : zV) (k : Int), zS Γ V1 ad σ ∧ zfx V V1 ∧ 0 ≤ k ∧ k ≤ 6 → (6 - k).toNat = N → zG C V1 0 0 2 [(1, .int (zI (k))), (0, .ref (ad 1))] [] := by
    intro N
    induction N using Nat.strongRecOn with
    | _ N ih =>
    intro V1 k hI hN
    obtain ⟨hI1, hI2, hI3, hI4⟩ := id hI
    have hx2 : V1 (ad 1) = some (1, .inr (7, [.ref (ad 2), .ref (ad 20), .ref (ad 22), .ref (ad 24), .ref (ad 16), .ref (ad 31), .ref (ad 33), .ref (ad 35), .ref (ad 40), .ref (ad 45), .int (zI (σ 30)), .int (zI (σ 31)), .int (zI (σ 32)), .int (zI (σ 33))])) := hI1.1
    refine zr_iload_n X 3 0 dX6_isSound_2 rfl rfl ?_
    refine zr_aload_n X 4 1 dX6_isSound_3 rfl rfl ?_
    refine zr_get X 7 7 0 hx2 rfl iX6 (by decide) w0 rfl rfl dX6_isSound_4 rfl ?_
    refine zr_alenq X 8 3 hI1.2.1.1 (by decide) dX6_isSound_7 rfl ?_
    refine zr_icmp_ge X 57 11 dX6_isSound_8 rfl rfl (by omega) (by omega) (fun bq3 => ?_) (fun bq3 => ?_)
    · refine zr_aload_n X 58 1 dX6_isSound_57 rfl rfl ?_
      refine zr_callVe (kc' := 0) (ks' := 0) X 61 0 (m_X6_builderIsSearchedRightly l Γ hI1) gX6_isSound_X6_builderIsSearchedRightly rfl (by decide +kernel) rfl (by decide) hI1.x rfl rfl (Nat.le_of_ble_eq_true rfl) dX6_isSound_58 rfl (by omega) (by omega) (fun rv4 V5 hp6 => ?_)
      obtain ⟨hp6e, hp6s, hp6x⟩ := hp6
      rw [hp6e]
      have fx7 := zag.tr hI2 hp6x
      have hx8 : V5 (ad 1) = some (1, .inr (7, [.ref (ad 2), .ref (ad 20), .ref (ad 22), .ref (ad 24), .ref (ad 16), .ref (ad 31), .ref (ad 33), .ref (ad 35), .ref (ad 40), .ref (ad 45), .int (zI (σ 30)), .int (zI (σ 31)), .int (zI (σ 32)), .int (zI (σ 33))])) := hp6s.1
      show zG C V5 0 0 61 [(1, .int (zI (k))), (0, .ref (ad 1))] [.int (zI (1))]
      refine zr_if_eq X 85 64 dX6_isSound_61 rfl rfl (by omega) (fun bq9 => absurd bq9 (by omega)) (fun bq9 => ?_)
      refine zr_aload_n X 65 1 dX6_isSound_64 rfl rfl ?_
      refine zr_callVe (kc' := 0) (ks' := 0) X 68 0 (m_X6_builderChainIsRight l Γ hp6s) gX6_isSound_X6_builderChainIsRight rfl (by decide +kernel) rfl (by decide) hp6s.x rfl rfl (Nat.le_of_ble_eq_true rfl) dX6_isSound_65 rfl (by omega) (by omega) (fun rv10 V11 hp12 => ?_)
      obtain ⟨hp12e, hp12s, hp12x⟩ := hp12
      rw [hp12e]
      have fx13 := zag.tr fx7 hp12x
      have hx14 : V11 (ad 1) = some (1, .inr (7, [.ref (ad 2), .ref (ad 20), .ref (ad 22), .ref (ad 24), .ref (ad 16), .ref (ad 31), .ref (ad 33), .ref (ad 35), .ref (ad 40), .ref (ad 45), .int (zI (σ 30)), .int (zI (σ 31)), .int (zI (σ 32)), .int (zI (σ 33))])) := hp12s.1
      show zG C V11 0 0 68 [(1, .int (zI (k))), (0, .ref (ad 1))] [.int (zI (1))]
      refine zr_if_eq X 85 71 dX6_isSound_68 rfl rfl (by omega) (fun bq15 => absurd bq15 (by omega)) (fun bq15 => ?_)
      refine zr_aload_n X 72 1 dX6_isSound_71 rfl rfl ?_
      refine zr_get X 75 7 3 hx14 rfl iX6 (by decide) w2 rfl rfl dX6_isSound_72 rfl ?_
      refine zr_callVe (kc' := 0) (ks' := 0) X 78 0 (h_isWhole l Γ hp12s) gX6_isSound_X1_isWhole rfl (by decide +kernel) rfl (by decide) hp12s.pcl rfl rfl (Nat.le_of_ble_eq_true rfl) dX6_isSound_75 rfl (by omega) (by omega) (fun rv16 V17 hp18 => ?_)
      rw [hp18.1, hp18.2]
      show zG C V11 0 0 78 [(1, .int (zI (k))), (0, .ref (ad 1))] [.int (zI (1))]
      refine zr_if_eq X 85 81 dX6_isSound_78 rfl rfl (by omega) (fun bq19 => absurd bq19 (by omega)) (fun bq19 => ?_)
      refine zr_iconst X 82 dX6_isSound_81 rfl ?_
      refine zr_goto X 86 dX6_isSound_82 rfl ?_
      exact zr_zret X rfl rfl ⟨rfl, hp12s, fx13⟩ dX6_isSound_86
    · refine zr_aload_n X 12 1 dX6_isSound_11 rfl rfl ?_
      refine zr_get X 15 7 0 hx2 rfl iX6 (by decide) w0 rfl rfl dX6_isSound_12 rfl ?_
      refine zr_iload_n X 16 0 dX6_isSound_15 rfl rfl ?_
      refine zr_aald X 17 (.ref (ad (10 + k.toNat))) hI1.2.1.1 (by omega) rfl dX6_isSound_16 rfl ?_
      have hw20 := hI1.w (i := k.toNat) (by omega)
      have hw20r := hw20.rg
      refine zr_callVe (kc' := 0) (ks' := 0) X 20 0 (e_isOrdered l Γ hw20) gX6_isSound_X5_isOrdered rfl (by decide +kernel) rfl (by decide) hw20.cl rfl rfl (Nat.le_of_ble_eq_true rfl) dX6_isSound_17 rfl (by omega) (by omega) (fun rv21 V22 hp23 => ?_)
      rw [hp23.1, hp23.2]
      show zG C V1 0 0 20 [(1, .int (zI (k))), (0, .ref (ad 1))] [.int (zI (1))]
      refine zr_if_eq X 49 23 dX6_isSound_20 rfl rfl (by omega) (fun bq24 => absurd bq24 (by omega)) (fun bq24 => ?_)
      refine zr_aload_n X 24 1 dX6_isSound_23 rfl rfl ?_
      refine zr_aload_n X 25 1 dX6_isSound_24 rfl rfl ?_
      refine zr_get X 28 7 0 hx2 rfl iX6 (by decide) w0 rfl rfl dX6_isSound_25 rfl ?_
      refine zr_iload_n X 29 0 dX6_isSound_28 rfl rfl ?_
      refine zr_aald X 30 (.ref (ad (10 + k.toNat))) hI1.2.1.1 (by omega) rfl dX6_isSound_29 rfl ?_
      refine zr_callVe (kc' := 0) (ks' := 0) X 33 1 (m_X6_readsAlike l Γ hI1 (q := k) (by omega)) gX6_isSound_X6_readsAlike rfl (by decide +kernel) rfl (by decide) hI1.x rfl rfl (Nat.le_of_ble_eq_true rfl) dX6_isSound_30 rfl (by omega) (by omega) (fun rv25 V26 hp27 => ?_)
      obtain ⟨hp27e, hp27s, hp27x⟩ := hp27
      rw [hp27e]
      have fx28 := zag.tr hI2 hp27x
      have hx29 : V26 (ad 1) = some (1, .inr (7, [.ref (ad 2), .ref (ad 20), .ref (ad 22), .ref (ad 24), .ref (ad 16), .ref (ad 31), .ref (ad 33), .ref (ad 35), .ref (ad 40), .ref (ad 45), .int (zI (σ 30)), .int (zI (σ 31)), .int (zI (σ 32)), .int (zI (σ 33))])) := hp27s.1
      have hw30 := hp27s.w (i := k.toNat) (by omega)
      have hw30r := hw30.rg
      show zG C V26 0 0 33 [(1, .int (zI (k))), (0, .ref (ad 1))] [.int (zI (1))]
      refine zr_if_eq X 49 36 dX6_isSound_33 rfl rfl (by omega) (fun bq31 => absurd bq31 (by omega)) (fun bq31 => ?_)
      refine zr_aload_n X 37 1 dX6_isSound_36 rfl rfl ?_
      refine zr_aload_n X 38 1 dX6_isSound_37 rfl rfl ?_
      refine zr_get X 41 7 0 hx29 rfl iX6 (by decide) w0 rfl rfl dX6_isSound_38 rfl ?_
      refine zr_iload_n X 42 0 dX6_isSound_41 rfl rfl ?_
      refine zr_aald X 43 (.ref (ad (10 + k.toNat))) hp27s.2.1.1 (by omega) rfl dX6_isSound_42 rfl ?_
      refine zr_callVe (kc' := 0) (ks' := 0) X 46 1 (m_X6_keptLiesAlike l Γ hp27s (q := k) (by omega)) gX6_isSound_X6_keptLiesAlike rfl (by decide +kernel) rfl (by decide) hp27s.x rfl rfl (Nat.le_of_ble_eq_true rfl) dX6_isSound_43 rfl (by omega) (by omega) (fun rv32 V33 hp34 => ?_)
      obtain ⟨hp34e, hp34s, hp34x⟩ := hp34
      rw [hp34e]
      have fx35 := zag.tr fx28 hp34x
      have hx36 : V33 (ad 1) = some (1, .inr (7, [.ref (ad 2), .ref (ad 20), .ref (ad 22), .ref (ad 24), .ref (ad 16), .ref (ad 31), .ref (ad 33), .ref (ad 35), .ref (ad 40), .ref (ad 45), .int (zI (σ 30)), .int (zI (σ 31)), .int (zI (σ 32)), .int (zI (σ 33))])) := hp34s.1
      have hw37 := hp34s.w (i := k.toNat) (by omega)
      have hw37r := hw37.rg
      show zG C V33 0 0 46 [(1, .int (zI (k))), (0, .ref (ad 1))] [.int (zI (1))]
      refine zr_if_ne X 51 49 dX6_isSound_46 rfl rfl (by omega) (fun bq38 => ?_) (fun bq38 => absurd bq38 (by omega))
      refine zr_iinc X 54 0 [(1, .int (zI (k + 1))), (0, .ref (ad 1))] dX6_isSound_51 rfl rfl (by decide) rfl ?_
      refine zr_goto X 2 dX6_isSound_54 rfl ?_
      exact ih _ (by omega) V33 (k + 1) ⟨hp34s, fx35, by omega, by omega⟩ rfl
  exact loop _ V 0 ⟨hS, zag.rf, by omega, by omega⟩ rfl
set_option maxRecDepth 100000 in
set_option maxHeartbeats 4000000 in
theorem m_X6_mixed (l : Launch) (Γ : zGam) {V : zV} {x y : Int64}  : zM l Γ 0 yX6_mixed wsX6_mixed 0 0 V [.long (x), .long (y)] (fun rv V' => rv = some (.long (x * 31 + y)) ∧ V' = V) := by
  have w0 : Cond.constantLong RX6 353 (31) ∈ wsX6_mixed := by decide +kernel
  refine zM_of (cc := cX6_mixed) (nL := 4) (ret := (some .long)) (own := RX6) (by decide +kernel) rfl rfl (Nat.le_of_ble_eq_true rfl) (fun C X hi0 => ?_)
  show zG C V 0 0 0 [(0, .long (x)), (2, .long (y))] []
  refine zr_lload_n X 1 0 dX6_mixed_0 rfl rfl ?_
  refine zr_ldc2 X 4 (v := 31) dX6_mixed_1 rfl w0 ?_
  refine zr_lmul X 5 dX6_mixed_4 rfl ?_
  refine zr_lload_n X 6 1 dX6_mixed_5 rfl rfl ?_
  refine zr_ladd X 7 dX6_mixed_6 rfl ?_
  exact zr_lret X rfl ⟨rfl, rfl⟩ dX6_mixed_7
set_option maxRecDepth 100000 in
set_option maxHeartbeats 4000000 in
theorem m_X6_mixedWithText (l : Launch) (Γ : zGam) {V : zV} {x : Int64} {o r : Nat} {m : Int} {h' : Int → Int} (hT : zTx Γ V o r m h') : zM l Γ 4 yX6_mixedWithText wsX6_mixedWithText 0 0 V [.long (x), .ref o] (fun rv V' => rv = some (.long (zmr x (fun j => h' (j : Int)) m.toNat)) ∧ V' = V) := by
  refine zM_of (cc := cX6_mixedWithText) (nL := 6) (ret := (some .long)) (own := RX6) (by decide +kernel) rfl rfl (Nat.le_of_ble_eq_true rfl) (fun C X hi0 => ?_)
  have hTr := hT.rg
  show zG C V 0 0 0 [(0, .long (x)), (2, .ref o)] []
  refine zr_lload_n X 1 0 dX6_mixedWithText_0 rfl rfl ?_
  refine zr_lstore_n X 2 [(3, .long (x)), (0, .long (x)), (2, .ref o)] dX6_mixedWithText_1 rfl (by decide) rfl ?_
  refine zr_iconst X 3 dX6_mixedWithText_2 rfl ?_
  refine zr_istore X 5 [(5, .int (zI (0))), (3, .long (x)), (0, .long (x)), (2, .ref o)] dX6_mixedWithText_3 rfl (by decide) rfl ?_
  refine zr_sub [0, 1, 3, 2] [(5, .int (zI (0))), (3, .long (x)), (2, .ref o), (0, .long (x))] rfl ?_
  have loop : ∀ (N : Nat) (y : Int64) (k : Int), 0 ≤ k ∧ k ≤ m ∧ y = zmr x (fun j => h' (j : Int)) k.toNat → (m - k).toNat = N → zG C V 0 0 5 [(5, .int (zI (k))), (3, .long (y)), (2, .ref o), (0, .long (x))] [] := by
    intro N
    induction N using Nat.strongRecOn with
    | _ N ih =>
    intro y k hI hN
    obtain ⟨hI1, hI2, hI3⟩ := id hI
    refine zr_iload X 7 0 dX6_mixedWithText_5 rfl rfl ?_
    refine zr_aload_n X 8 2 dX6_mixedWithText_7 rfl rfl ?_
    refine zr_txSize X 11 hT gX6_mixedWithText_X5_size_u165X5 gX6_mixedWithText_X2_size_u165X2 (by decide) (Nat.le_of_ble_eq_true rfl) dX6_mixedWithText_8 rfl ?_
    refine zr_icmp_ge X 32 14 dX6_mixedWithText_11 rfl rfl (by omega) (by omega) (fun bq1 => ?_) (fun bq1 => ?_)
    · refine zr_lload_n X 33 1 dX6_mixedWithText_32 rfl rfl ?_
      exact zr_lret X rfl ⟨by rw [hI3, show k = m by omega], rfl⟩ dX6_mixedWithText_33
    · refine zr_lload_n X 15 1 dX6_mixedWithText_14 rfl rfl ?_
      refine zr_aload_n X 16 2 dX6_mixedWithText_15 rfl rfl ?_
      refine zr_iload X 18 0 dX6_mixedWithText_16 rfl rfl ?_
      refine zr_txAt X 21 hT (by omega) gX6_mixedWithText_X5_at_u334X5 gX6_mixedWithText_X2_at_u334X2 (by decide) (Nat.le_of_ble_eq_true rfl) dX6_mixedWithText_18 rfl ?_
      rw [if_pos (show 0 ≤ k ∧ k < m by omega)]
      have hx2 := hTr.2.2 k
      show zG C V 0 0 21 [(5, .int (zI (k))), (3, .long (y)), (2, .ref o), (0, .long (x))] [.int (zI (h' k)), .long (y)]
      refine zr_i2l X 22 dX6_mixedWithText_21 rfl ?_
      obtain ⟨y3, y3e⟩ : ∃ zz9 : Int64, zz9 = (zI (h' k)).toInt64 := ⟨_, rfl⟩
      rw [← y3e]
      refine zr_callS (kc' := 0) (ks' := 0) X 25 2 (m_X6_mixed l Γ (V := V) (x := y) (y := y3)) gX6_mixedWithText_X6_mixed rfl (by decide +kernel) rfl (by decide) rfl (Nat.le_of_ble_eq_true rfl) dX6_mixedWithText_22 rfl (by omega) (by omega) (fun rv4 V5 hp6 => ?_)
      obtain ⟨hp6e, hp6v⟩ := hp6
      obtain ⟨hp6z, hp6q⟩ : ∃ zz9 : Int64, zz9 = y * 31 + y3 := ⟨_, rfl⟩
      rw [hp6e, hp6v, ← hp6q]
      show zG C V 0 0 25 [(5, .int (zI (k))), (3, .long (y)), (2, .ref o), (0, .long (x))] [.long (hp6z)]
      refine zr_lstore_n X 26 [(3, .long (hp6z)), (5, .int (zI (k))), (2, .ref o), (0, .long (x))] dX6_mixedWithText_25 rfl (by decide) rfl ?_
      refine zr_iinc X 29 1 [(5, .int (zI (k + 1))), (3, .long (hp6z)), (2, .ref o), (0, .long (x))] dX6_mixedWithText_26 rfl rfl (by decide) rfl ?_
      refine zr_goto X 5 dX6_mixedWithText_29 rfl ?_
      exact ih _ (by omega) hp6z (k + 1) ⟨by omega, by omega, hp6q.trans (zmr_up hI3 (by omega) y3e (congrArg h' (by omega)))⟩ rfl
  exact loop _ x 0 ⟨by omega, by omega, rfl⟩ rfl
set_option maxRecDepth 100000 in
set_option maxHeartbeats 4000000 in
theorem m_X6_mixedWithWindow (l : Launch) (Γ : zGam) {V : zV} {ad : Nat → Nat} {σ : Nat → Int} {x : Int64} {q : Int} (hS : zS Γ V ad σ) (hq : 0 ≤ q ∧ q < 6) : zM l Γ 9 yX6_mixedWithWindow wsX6_mixedWithWindow 0 0 V [.ref (ad 1), .long (x), .ref (ad (10 + q.toNat))] (fun rv V' => (∃ (b p : Int) (z : Int64), rv = some (.long z) ∧ zsB σ q b ∧ zsP σ q 7 0 p ∧ z = zmw σ q x b p) ∧ zS Γ V' ad σ ∧ zfx V V') := by
  have iX5 : ∀ w ∈ u_ws RX5 TX5 6, w ∈ wsX6_mixedWithWindow := by decide +kernel
  have w1 : Cond.fieldLink RX6 48 "Sashwords" "road" "LSashwords$Seeker;" ∈ wsX6_mixedWithWindow := by decide +kernel
  have iX6 : ∀ w ∈ u_ws RX6 TX6 14, w ∈ wsX6_mixedWithWindow := by decide +kernel
  have w3 : Cond.fieldLink RX6 24 "Sashwords" "kept" "LSashwords$Script;" ∈ wsX6_mixedWithWindow := by decide +kernel
  refine zM_of (cc := cX6_mixedWithWindow) (nL := 6) (ret := (some .long)) (own := RX6) (by decide +kernel) rfl rfl (Nat.le_of_ble_eq_true rfl) (fun C X hi0 => ?_)
  have hx1 : V (ad 1) = some (1, .inr (7, [.ref (ad 2), .ref (ad 20), .ref (ad 22), .ref (ad 24), .ref (ad 16), .ref (ad 31), .ref (ad 33), .ref (ad 35), .ref (ad 40), .ref (ad 45), .int (zI (σ 30)), .int (zI (σ 31)), .int (zI (σ 32)), .int (zI (σ 33))])) := hS.1
  obtain ⟨_, -, -, -, hk0, hk80⟩ := hS.2.2.2.2.1.2.1
  have hw2 := hS.w (i := q.toNat) (by omega)
  have hw2r := hw2.rg
  show zG C V 0 0 0 [(0, .ref (ad 1)), (1, .long (x)), (3, .ref (ad (10 + q.toNat)))] []
  refine zr_lload_n X 1 1 dX6_mixedWithWindow_0 rfl rfl ?_
  refine zr_aload_n X 2 2 dX6_mixedWithWindow_1 rfl rfl ?_
  refine zr_getNw X 5 4 5 hw2 (σ (4 * q.toNat + 2)) (by simp) iX5 rfl dX6_mixedWithWindow_2 rfl ?_
  refine zr_i2l X 6 dX6_mixedWithWindow_5 rfl ?_
  obtain ⟨y3, y3e⟩ : ∃ zz9 : Int64, zz9 = (zI (σ (4 * q.toNat + 2))).toInt64 := ⟨_, rfl⟩
  rw [← y3e]
  refine zr_callS (kc' := 0) (ks' := 0) X 9 2 (m_X6_mixed l Γ (V := V) (x := x) (y := y3)) gX6_mixedWithWindow_X6_mixed rfl (by decide +kernel) rfl (by decide) rfl (Nat.le_of_ble_eq_true rfl) dX6_mixedWithWindow_6 rfl (by omega) (by omega) (fun rv4 V5 hp6 => ?_)
  obtain ⟨hp6e, hp6v⟩ := hp6
  obtain ⟨hp6z, hp6q⟩ : ∃ zz9 : Int64, zz9 = x * 31 + y3 := ⟨_, rfl⟩
  rw [hp6e, hp6v, ← hp6q]
  have hp6k : hp6z = zmi x (σ (4 * q.toNat + 2)) := hp6q.trans (zmi_of y3e)
  show zG C V 0 0 9 [(0, .ref (ad 1)), (1, .long (x)), (3, .ref (ad (10 + q.toNat)))] [.long (hp6z)]
  refine zr_lstore X 11 [(4, .long (hp6z)), (0, .ref (ad 1)), (1, .long (x)), (3, .ref (ad (10 + q.toNat)))] dX6_mixedWithWindow_9 rfl (by decide) rfl ?_
  refine zr_lload X 13 0 dX6_mixedWithWindow_11 rfl rfl ?_
  refine zr_aload_n X 14 3 dX6_mixedWithWindow_13 rfl rfl ?_
  refine zr_getNw X 17 3 4 hw2 (σ (4 * q.toNat + 1)) (by simp) iX5 rfl dX6_mixedWithWindow_14 rfl ?_
  refine zr_i2l X 18 dX6_mixedWithWindow_17 rfl ?_
  obtain ⟨y7, y7e⟩ : ∃ zz9 : Int64, zz9 = (zI (σ (4 * q.toNat + 1))).toInt64 := ⟨_, rfl⟩
  rw [← y7e]
  refine zr_callS (kc' := 0) (ks' := 0) X 21 2 (m_X6_mixed l Γ (V := V) (x := hp6z) (y := y7)) gX6_mixedWithWindow_X6_mixed rfl (by decide +kernel) rfl (by decide) rfl (Nat.le_of_ble_eq_true rfl) dX6_mixedWithWindow_18 rfl (by omega) (by omega) (fun rv8 V9 hp10 => ?_)
  obtain ⟨hp10e, hp10v⟩ := hp10
  obtain ⟨hp10z, hp10q⟩ : ∃ zz9 : Int64, zz9 = hp6z * 31 + y7 := ⟨_, rfl⟩
  rw [hp10e, hp10v, ← hp10q]
  have hp10k : hp10z = zmi hp6z (σ (4 * q.toNat + 1)) := hp10q.trans (zmi_of y7e)
  show zG C V 0 0 21 [(4, .long (hp6z)), (0, .ref (ad 1)), (1, .long (x)), (3, .ref (ad (10 + q.toNat)))] [.long (hp10z)]
  refine zr_lstore X 23 [(4, .long (hp10z)), (0, .ref (ad 1)), (1, .long (x)), (3, .ref (ad (10 + q.toNat)))] dX6_mixedWithWindow_21 rfl (by decide) rfl ?_
  refine zr_lload X 25 0 dX6_mixedWithWindow_23 rfl rfl ?_
  refine zr_aload_n X 26 3 dX6_mixedWithWindow_25 rfl rfl ?_
  refine zr_getNw X 29 2 3 hw2 (σ (4 * q.toNat)) (by simp) iX5 rfl dX6_mixedWithWindow_26 rfl ?_
  refine zr_i2l X 30 dX6_mixedWithWindow_29 rfl ?_
  obtain ⟨y11, y11e⟩ : ∃ zz9 : Int64, zz9 = (zI (σ (4 * q.toNat))).toInt64 := ⟨_, rfl⟩
  rw [← y11e]
  refine zr_callS (kc' := 0) (ks' := 0) X 33 2 (m_X6_mixed l Γ (V := V) (x := hp10z) (y := y11)) gX6_mixedWithWindow_X6_mixed rfl (by decide +kernel) rfl (by decide) rfl (Nat.le_of_ble_eq_true rfl) dX6_mixedWithWindow_30 rfl (by omega) (by omega) (fun rv12 V13 hp14 => ?_)
  obtain ⟨hp14e, hp14v⟩ := hp14
  obtain ⟨hp14z, hp14q⟩ : ∃ zz9 : Int64, zz9 = hp10z * 31 + y11 := ⟨_, rfl⟩
  rw [hp14e, hp14v, ← hp14q]
  have hp14k : hp14z = zmi hp10z (σ (4 * q.toNat)) := hp14q.trans (zmi_of y11e)
  show zG C V 0 0 33 [(4, .long (hp10z)), (0, .ref (ad 1)), (1, .long (x)), (3, .ref (ad (10 + q.toNat)))] [.long (hp14z)]
  refine zr_lstore X 35 [(4, .long (hp14z)), (0, .ref (ad 1)), (1, .long (x)), (3, .ref (ad (10 + q.toNat)))] dX6_mixedWithWindow_33 rfl (by decide) rfl ?_
  refine zr_lload X 37 0 dX6_mixedWithWindow_35 rfl rfl ?_
  refine zr_aload_n X 38 3 dX6_mixedWithWindow_37 rfl rfl ?_
  refine zr_getNw X 41 5 6 hw2 (σ (4 * q.toNat + 3)) (by simp) iX5 rfl dX6_mixedWithWindow_38 rfl ?_
  refine zr_i2l X 42 dX6_mixedWithWindow_41 rfl ?_
  obtain ⟨y15, y15e⟩ : ∃ zz9 : Int64, zz9 = (zI (σ (4 * q.toNat + 3))).toInt64 := ⟨_, rfl⟩
  rw [← y15e]
  refine zr_callS (kc' := 0) (ks' := 0) X 45 2 (m_X6_mixed l Γ (V := V) (x := hp14z) (y := y15)) gX6_mixedWithWindow_X6_mixed rfl (by decide +kernel) rfl (by decide) rfl (Nat.le_of_ble_eq_true rfl) dX6_mixedWithWindow_42 rfl (by omega) (by omega) (fun rv16 V17 hp18 => ?_)
  obtain ⟨hp18e, hp18v⟩ := hp18
  obtain ⟨hp18z, hp18q⟩ : ∃ zz9 : Int64, zz9 = hp14z * 31 + y15 := ⟨_, rfl⟩
  rw [hp18e, hp18v, ← hp18q]
  have hp18k : hp18z = zmi hp14z (σ (4 * q.toNat + 3)) := hp18q.trans (zmi_of y15e)
  show zG C V 0 0 45 [(4, .long (hp14z)), (0, .ref (ad 1)), (1, .long (x)), (3, .ref (ad (10 + q.toNat)))] [.long (hp18z)]
  refine zr_lstore X 47 [(4, .long (hp18z)), (0, .ref (ad 1)), (1, .long (x)), (3, .ref (ad (10 + q.toNat)))] dX6_mixedWithWindow_45 rfl (by decide) rfl ?_
  refine zr_lload X 49 0 dX6_mixedWithWindow_47 rfl rfl ?_
  refine zr_aload_n X 50 3 dX6_mixedWithWindow_49 rfl rfl ?_
  obtain ⟨t19r, t19to, t19tr, t19e, t19e2, t19h, t19T, t19o, t19q, t19c, t19a, t19b, t19z⟩ := hS.txt (q := q) (by omega)
  rw [show zso ad q = ad (10 + q.toNat) from if_pos (by omega)] at t19T t19o
  have t19g := t19T.rg
  refine zr_callS (kc' := 0) (ks' := 0) X 53 2 (m_X6_mixedWithText l Γ (V := V) (x := hp18z) t19T) gX6_mixedWithWindow_X6_mixedWithText rfl (by decide +kernel) rfl (by decide) rfl (Nat.le_of_ble_eq_true rfl) dX6_mixedWithWindow_50 rfl (by omega) (by omega) (fun rv20 V21 hp22 => ?_)
  obtain ⟨hp22e, hp22v⟩ := hp22
  obtain ⟨hp22z, hp22q⟩ : ∃ zz9 : Int64, zz9 = zmr hp18z (fun j => t19h (j : Int)) (zsz σ q).toNat := ⟨_, rfl⟩
  rw [hp22e, hp22v, ← hp22q]
  have hp22k : hp22z = zmr hp18z (zsg σ q) (zsz σ q).toNat := hp22q.trans (zmr_eq rfl (fun k9 h9 => t19z k9 (by omega)))
  show zG C V 0 0 53 [(4, .long (hp18z)), (0, .ref (ad 1)), (1, .long (x)), (3, .ref (ad (10 + q.toNat)))] [.long (hp22z)]
  refine zr_lstore X 55 [(4, .long (hp22z)), (0, .ref (ad 1)), (1, .long (x)), (3, .ref (ad (10 + q.toNat)))] dX6_mixedWithWindow_53 rfl (by decide) rfl ?_
  refine zr_lload X 57 0 dX6_mixedWithWindow_55 rfl rfl ?_
  refine zr_aload_n X 58 1 dX6_mixedWithWindow_57 rfl rfl ?_
  refine zr_aload_n X 59 3 dX6_mixedWithWindow_58 rfl rfl ?_
  obtain ⟨t23r, t23to, t23tr, t23e, t23e2, t23h, t23T, t23o, t23q, t23c, t23a, t23b, t23z⟩ := hS.txt (q := q) (by omega)
  rw [show zso ad q = ad (10 + q.toNat) from if_pos (by omega)] at t23T t23o
  have t23g := t23T.rg
  refine zr_callVe (kc' := 0) (ks' := 0) X 62 1 (m_X6_greatestBorder l Γ hS t23T t23o t23q (by omega) (by omega)) gX6_mixedWithWindow_X6_greatestBorder rfl (by decide +kernel) rfl (by decide) hS.x rfl rfl (Nat.le_of_ble_eq_true rfl) dX6_mixedWithWindow_59 rfl (by omega) (by omega) (fun rv24 V25 hp26 => ?_)
  obtain ⟨hp26y, hp26s, hp26e, hS27, fx28, hp26a, hp26b, hp26q, hp26z⟩ := hp26
  rw [hp26e]
  rw [hp26q] at hS27
  have hx29 : V25 (ad 1) = some (1, .inr (7, [.ref (ad 2), .ref (ad 20), .ref (ad 22), .ref (ad 24), .ref (ad 16), .ref (ad 31), .ref (ad 33), .ref (ad 35), .ref (ad 40), .ref (ad 45), .int (zI (σ 30)), .int (zI (σ 31)), .int (zI (σ 32)), .int (zI (σ 33))])) := hS27.1
  show zG C V25 0 0 62 [(4, .long (hp22z)), (0, .ref (ad 1)), (1, .long (x)), (3, .ref (ad (10 + q.toNat)))] [.int (zI (hp26y)), .long (hp22z)]
  have hw30 := hS27.w (i := q.toNat) (by omega)
  have hw30r := hw30.rg
  have hp26B : zsB σ q hp26y := ⟨by omega, by have hz := hp26z; rw [zaw_eq t23z] at hz; exact hz⟩
  refine zr_i2l X 63 dX6_mixedWithWindow_62 rfl ?_
  obtain ⟨y31, y31e⟩ : ∃ zz9 : Int64, zz9 = (zI (hp26y)).toInt64 := ⟨_, rfl⟩
  rw [← y31e]
  refine zr_callS (kc' := 0) (ks' := 0) X 66 2 (m_X6_mixed l Γ (V := V25) (x := hp22z) (y := y31)) gX6_mixedWithWindow_X6_mixed rfl (by decide +kernel) rfl (by decide) rfl (Nat.le_of_ble_eq_true rfl) dX6_mixedWithWindow_63 rfl (by omega) (by omega) (fun rv32 V33 hp34 => ?_)
  obtain ⟨hp34e, hp34v⟩ := hp34
  obtain ⟨hp34z, hp34q⟩ : ∃ zz9 : Int64, zz9 = hp22z * 31 + y31 := ⟨_, rfl⟩
  rw [hp34e, hp34v, ← hp34q]
  have hp34k : hp34z = zmi hp22z (hp26y) := hp34q.trans (zmi_of y31e)
  show zG C V25 0 0 66 [(4, .long (hp22z)), (0, .ref (ad 1)), (1, .long (x)), (3, .ref (ad (10 + q.toNat)))] [.long (hp34z)]
  refine zr_lstore X 68 [(4, .long (hp34z)), (0, .ref (ad 1)), (1, .long (x)), (3, .ref (ad (10 + q.toNat)))] dX6_mixedWithWindow_66 rfl (by decide) rfl ?_
  refine zr_aload_n X 69 1 dX6_mixedWithWindow_68 rfl rfl ?_
  refine zr_get X 72 7 7 hx29 rfl iX6 (by decide) w1 rfl rfl dX6_mixedWithWindow_69 rfl ?_
  refine zr_aload_n X 73 3 dX6_mixedWithWindow_72 rfl rfl ?_
  refine zr_aload_n X 74 1 dX6_mixedWithWindow_73 rfl rfl ?_
  refine zr_get X 77 7 2 hx29 rfl iX6 (by decide) w3 rfl rfl dX6_mixedWithWindow_74 rfl ?_
  obtain ⟨t35r, t35to, t35tr, t35e, t35e2, t35h, t35T, t35o, t35q, t35c, t35a, t35b, t35z⟩ := hS27.txt (q := q) (by omega)
  rw [show zso ad q = ad (10 + q.toNat) from if_pos (by omega)] at t35T t35o
  have t35g := t35T.rg
  obtain ⟨t36r, t36to, t36tr, t36e, t36e2, t36h, t36T, t36o, t36q, t36c, t36a, t36b, t36z⟩ := hS27.txt (q := 7) (by omega)
  rw [zso7, zsz7] at t36T
  rw [zso7] at t36o
  rw [zsz7] at t36a t36b t36z
  have t36g := t36T.rg
  refine zr_callVe (kc' := 0) (ks' := 0) X 80 2 (g_seek l Γ hS27.2.2.2.2.2.2.1 hS27.2.2.2.2.2.2.2.1 t35T t35o t35q t36T t36o t36q (by omega) (by omega) (by decide) (by omega) (by omega)) gX6_mixedWithWindow_X3_seek rfl (by decide +kernel) rfl (by decide) hS27.2.2.2.2.2.2.1.cl rfl rfl (Nat.le_of_ble_eq_true rfl) dX6_mixedWithWindow_77 rfl (by omega) (by omega) (fun rv37 V38 hp39 => ?_)
  obtain ⟨hp39e, ⟨hp39m, hp39f, hp39x, hp39z⟩, hp39w, hp39g⟩ := hp39
  rw [hp39e]
  have hp39r := hp39x.2.2.2
  obtain ⟨hS40, fx41⟩ := hS27.road hp39x.sk hp39w hp39g
  have fx42 := zag.tr fx28 fx41
  have hx43 : V38 (ad 1) = some (1, .inr (7, [.ref (ad 2), .ref (ad 20), .ref (ad 22), .ref (ad 24), .ref (ad 16), .ref (ad 31), .ref (ad 33), .ref (ad 35), .ref (ad 40), .ref (ad 45), .int (zI (σ 30)), .int (zI (σ 31)), .int (zI (σ 32)), .int (zI (σ 33))])) := hS40.1
  have t44o := hp39g _ _ _ t35o (by omega)
  have t44q := hp39g _ _ _ t35q (by omega)
  have t44T := t35T.kept (t44o.trans t35o.symm) (t44q.trans t35q.symm)
  have t44c := t35c
  have t44g := t44T.rg
  have t45o := hp39g _ _ _ t36o (by omega)
  have t45q := hp39g _ _ _ t36q (by omega)
  have t45T := t36T.kept (t45o.trans t36o.symm) (t45q.trans t36q.symm)
  have t45c := t36c
  have t45g := t45T.rg
  show zG C V38 0 0 80 [(4, .long (hp34z)), (0, .ref (ad 1)), (1, .long (x)), (3, .ref (ad (10 + q.toNat)))] []
  have hw46 := hS40.w (i := q.toNat) (by omega)
  have hw46r := hw46.rg
  refine zr_lload X 82 0 dX6_mixedWithWindow_80 rfl rfl ?_
  refine zr_aload_n X 83 1 dX6_mixedWithWindow_82 rfl rfl ?_
  refine zr_get X 86 7 7 hx43 rfl iX6 (by decide) w1 rfl rfl dX6_mixedWithWindow_83 rfl ?_
  refine zr_iconst X 87 dX6_mixedWithWindow_86 rfl ?_
  refine zr_callVe (kc' := 0) (ks' := 0) X 90 1 (g_foundAtx l Γ hp39x (q := 0) (by omega)) gX6_mixedWithWindow_X3_foundAt rfl (by decide +kernel) rfl (by decide) hS40.2.2.2.2.2.2.1.cl rfl rfl (Nat.le_of_ble_eq_true rfl) dX6_mixedWithWindow_87 rfl (by omega) (by omega) (fun rv47 V48 hp49 => ?_)
  obtain ⟨hp49x, hp49e, hp49v, hp49a, hp49b, hp49c⟩ := hp49
  rw [hp49e, hp49v]
  show zG C V38 0 0 90 [(4, .long (hp34z)), (0, .ref (ad 1)), (1, .long (x)), (3, .ref (ad (10 + q.toNat)))] [.int (zI (hp49x)), .long (hp34z)]
  refine zr_i2l X 91 dX6_mixedWithWindow_90 rfl ?_
  obtain ⟨y50, y50e⟩ : ∃ zz9 : Int64, zz9 = (zI (hp49x)).toInt64 := ⟨_, rfl⟩
  rw [← y50e]
  refine zr_callS (kc' := 0) (ks' := 0) X 94 2 (m_X6_mixed l Γ (V := V38) (x := hp34z) (y := y50)) gX6_mixedWithWindow_X6_mixed rfl (by decide +kernel) rfl (by decide) rfl (Nat.le_of_ble_eq_true rfl) dX6_mixedWithWindow_91 rfl (by omega) (by omega) (fun rv51 V52 hp53 => ?_)
  obtain ⟨hp53e, hp53v⟩ := hp53
  obtain ⟨hp53z, hp53q⟩ : ∃ zz9 : Int64, zz9 = hp34z * 31 + y50 := ⟨_, rfl⟩
  rw [hp53e, hp53v, ← hp53q]
  have hp53k : hp53z = zmi hp34z (hp49x) := hp53q.trans (zmi_of y50e)
  show zG C V38 0 0 94 [(4, .long (hp34z)), (0, .ref (ad 1)), (1, .long (x)), (3, .ref (ad (10 + q.toNat)))] [.long (hp53z)]
  have hP9 := (zsP.of hp39z rfl zsz7.symm t35z t36z hp49c)
  exact zr_lret X rfl ⟨⟨hp26y, hp49x, _, rfl, hp26B, hP9, by rw [hp53k, hp34k, hp22k, hp18k, hp14k, hp10k, hp6k]; first | done | rfl⟩, hS40, fx42⟩ dX6_mixedWithWindow_94
set_option maxRecDepth 100000 in
set_option maxHeartbeats 4000000 in
theorem m_X6_digest (l : Launch) (Γ : zGam) {V : zV} {ad : Nat → Nat} {σ : Nat → Int} (hS : zS Γ V ad σ) : zM l Γ 11 yX6_digest wsX6_digest 0 0 V [.ref (ad 1)] (fun rv V' => (∃ z : Int64, rv = some (.long z) ∧ zdG σ z) ∧ zS Γ V' ad σ ∧ zfx V V') := by
  have hbR := hS.2.2.2.2.1.1.rg
  have hkR := hS.2.2.2.2.1.2.1.rg
  have w0 : Cond.constantLong RX6 285 (7702) ∈ wsX6_digest := by decide +kernel
  have w1 : Cond.fieldLink RX6 11 "Sashwords" "windows" "[LSashwords$Window;" ∈ wsX6_digest := by decide +kernel
  have iX6 : ∀ w ∈ u_ws RX6 TX6 14, w ∈ wsX6_digest := by decide +kernel
  have w3 : Cond.fieldLink RX6 20 "Sashwords" "builder" "LSashwords$Script;" ∈ wsX6_digest := by decide +kernel
  have w4 : Cond.fieldLink RX6 24 "Sashwords" "kept" "LSashwords$Script;" ∈ wsX6_digest := by decide +kernel
  have w5 : Cond.fieldLink RX6 48 "Sashwords" "road" "LSashwords$Seeker;" ∈ wsX6_digest := by decide +kernel
  have iX3 : ∀ w ∈ u_ws RX3 TX3 3, w ∈ wsX6_digest := by decide +kernel
  have w7 : Cond.fieldLink RX6 30 "Sashwords" "line" "LSashwords$Pipe;" ∈ wsX6_digest := by decide +kernel
  have iX1 : ∀ w ∈ u_ws RX1 TX1 4, w ∈ wsX6_digest := by decide +kernel
  refine zM_of (cc := cX6_digest) (nL := 4) (ret := (some .long)) (own := RX6) (by decide +kernel) rfl rfl (Nat.le_of_ble_eq_true rfl) (fun C X hi0 => ?_)
  have hx1 : V (ad 1) = some (1, .inr (7, [.ref (ad 2), .ref (ad 20), .ref (ad 22), .ref (ad 24), .ref (ad 16), .ref (ad 31), .ref (ad 33), .ref (ad 35), .ref (ad 40), .ref (ad 45), .int (zI (σ 30)), .int (zI (σ 31)), .int (zI (σ 32)), .int (zI (σ 33))])) := hS.1
  show zG C V 0 0 0 [(0, .ref (ad 1))] []
  refine zr_ldc2 X 3 (v := 7702) dX6_digest_0 rfl w0 ?_
  refine zr_lstore_n X 4 [(1, .long (7702)), (0, .ref (ad 1))] dX6_digest_3 rfl (by decide) rfl ?_
  refine zr_iconst X 5 dX6_digest_4 rfl ?_
  refine zr_istore_n X 6 [(3, .int (zI (0))), (1, .long (7702)), (0, .ref (ad 1))] dX6_digest_5 rfl (by decide) rfl ?_
  have loop : ∀ (N : Nat) (V1 : zV) (x : Int64) (k : Int), zS Γ V1 ad σ ∧ zfx V V1 ∧ 0 ≤ k ∧ k ≤ 6 ∧ zdW σ k.toNat x → (6 - k).toNat = N → zG C V1 0 0 6 [(3, .int (zI (k))), (1, .long (x)), (0, .ref (ad 1))] [] := by
    intro N
    induction N using Nat.strongRecOn with
    | _ N ih =>
    intro V1 x k hI hN
    obtain ⟨hI1, hI2, hI3, hI4, hI5⟩ := id hI
    have hx2 : V1 (ad 1) = some (1, .inr (7, [.ref (ad 2), .ref (ad 20), .ref (ad 22), .ref (ad 24), .ref (ad 16), .ref (ad 31), .ref (ad 33), .ref (ad 35), .ref (ad 40), .ref (ad 45), .int (zI (σ 30)), .int (zI (σ 31)), .int (zI (σ 32)), .int (zI (σ 33))])) := hI1.1
    refine zr_iload_n X 7 0 dX6_digest_6 rfl rfl ?_
    refine zr_aload_n X 8 2 dX6_digest_7 rfl rfl ?_
    refine zr_get X 11 7 0 hx2 rfl iX6 (by decide) w1 rfl rfl dX6_digest_8 rfl ?_
    refine zr_alenq X 12 3 hI1.2.1.1 (by decide) dX6_digest_11 rfl ?_
    refine zr_icmp_ge X 33 15 dX6_digest_12 rfl rfl (by omega) (by omega) (fun bq3 => ?_) (fun bq3 => ?_)
    · refine zr_lload_n X 34 1 dX6_digest_33 rfl rfl ?_
      refine zr_aload_n X 35 2 dX6_digest_34 rfl rfl ?_
      refine zr_get X 38 7 1 hx2 rfl iX6 (by decide) w3 rfl rfl dX6_digest_35 rfl ?_
      refine zr_callVe (kc' := 0) (ks' := 0) X 41 0 (f_size l Γ hI1.2.2.2.2.1.1) gX6_digest_X2_size rfl (by decide +kernel) rfl (by decide) hI1.2.2.2.2.1.1.cl rfl rfl (Nat.le_of_ble_eq_true rfl) dX6_digest_38 rfl (by omega) (by omega) (fun rv4 V5 hp6 => ?_)
      rw [hp6.1, hp6.2]
      have hp6r := hI1.2.2.2.2.1.1.rg
      show zG C V1 0 0 41 [(3, .int (zI (k))), (1, .long (x)), (0, .ref (ad 1))] [.int (zI (σ 24)), .long (x)]
      refine zr_i2l X 42 dX6_digest_41 rfl ?_
      obtain ⟨y7, y7e⟩ : ∃ zz9 : Int64, zz9 = (zI (σ 24)).toInt64 := ⟨_, rfl⟩
      rw [← y7e]
      refine zr_callS (kc' := 0) (ks' := 0) X 45 2 (m_X6_mixed l Γ (V := V1) (x := x) (y := y7)) gX6_digest_X6_mixed rfl (by decide +kernel) rfl (by decide) rfl (Nat.le_of_ble_eq_true rfl) dX6_digest_42 rfl (by omega) (by omega) (fun rv8 V9 hp10 => ?_)
      obtain ⟨hp10e, hp10v⟩ := hp10
      obtain ⟨hp10z, hp10q⟩ : ∃ zz9 : Int64, zz9 = x * 31 + y7 := ⟨_, rfl⟩
      rw [hp10e, hp10v, ← hp10q]
      have hp10k : hp10z = zmi x (σ 24) := hp10q.trans (zmi_of y7e)
      show zG C V1 0 0 45 [(3, .int (zI (k))), (1, .long (x)), (0, .ref (ad 1))] [.long (hp10z)]
      refine zr_aload_n X 46 2 dX6_digest_45 rfl rfl ?_
      refine zr_get X 49 7 1 hx2 rfl iX6 (by decide) w3 rfl rfl dX6_digest_46 rfl ?_
      obtain ⟨t11r, t11to, t11tr, t11e, t11e2, t11h, t11T, t11o, t11q, t11c, t11a, t11b, t11z⟩ := hI1.txt (q := 6) (by omega)
      rw [zso6, zsz6] at t11T
      rw [zso6] at t11o
      rw [zsz6] at t11a t11b t11z
      have t11g := t11T.rg
      refine zr_callS (kc' := 0) (ks' := 0) X 52 2 (m_X6_mixedWithText l Γ (V := V1) (x := hp10z) t11T) gX6_digest_X6_mixedWithText rfl (by decide +kernel) rfl (by decide) rfl (Nat.le_of_ble_eq_true rfl) dX6_digest_49 rfl (by omega) (by omega) (fun rv12 V13 hp14 => ?_)
      obtain ⟨hp14e, hp14v⟩ := hp14
      obtain ⟨hp14z, hp14q⟩ : ∃ zz9 : Int64, zz9 = zmr hp10z (fun j => t11h (j : Int)) (σ 24).toNat := ⟨_, rfl⟩
      rw [hp14e, hp14v, ← hp14q]
      have hp14k : hp14z = zmr hp10z (zsg σ 6) (σ 24).toNat := hp14q.trans (zmr_eq rfl (fun k9 h9 => t11z k9 (by omega)))
      show zG C V1 0 0 52 [(3, .int (zI (k))), (1, .long (x)), (0, .ref (ad 1))] [.long (hp14z)]
      refine zr_lstore_n X 53 [(1, .long (hp14z)), (3, .int (zI (k))), (0, .ref (ad 1))] dX6_digest_52 rfl (by decide) rfl ?_
      refine zr_lload_n X 54 0 dX6_digest_53 rfl rfl ?_
      refine zr_aload_n X 55 2 dX6_digest_54 rfl rfl ?_
      refine zr_get X 58 7 2 hx2 rfl iX6 (by decide) w4 rfl rfl dX6_digest_55 rfl ?_
      refine zr_callVe (kc' := 0) (ks' := 0) X 61 0 (f_size l Γ hI1.2.2.2.2.1.2.1) gX6_digest_X2_size rfl (by decide +kernel) rfl (by decide) hI1.2.2.2.2.1.2.1.cl rfl rfl (Nat.le_of_ble_eq_true rfl) dX6_digest_58 rfl (by omega) (by omega) (fun rv15 V16 hp17 => ?_)
      rw [hp17.1, hp17.2]
      have hp17r := hI1.2.2.2.2.1.2.1.rg
      show zG C V1 0 0 61 [(1, .long (hp14z)), (3, .int (zI (k))), (0, .ref (ad 1))] [.int (zI (σ 25)), .long (hp14z)]
      refine zr_i2l X 62 dX6_digest_61 rfl ?_
      obtain ⟨y18, y18e⟩ : ∃ zz9 : Int64, zz9 = (zI (σ 25)).toInt64 := ⟨_, rfl⟩
      rw [← y18e]
      refine zr_callS (kc' := 0) (ks' := 0) X 65 2 (m_X6_mixed l Γ (V := V1) (x := hp14z) (y := y18)) gX6_digest_X6_mixed rfl (by decide +kernel) rfl (by decide) rfl (Nat.le_of_ble_eq_true rfl) dX6_digest_62 rfl (by omega) (by omega) (fun rv19 V20 hp21 => ?_)
      obtain ⟨hp21e, hp21v⟩ := hp21
      obtain ⟨hp21z, hp21q⟩ : ∃ zz9 : Int64, zz9 = hp14z * 31 + y18 := ⟨_, rfl⟩
      rw [hp21e, hp21v, ← hp21q]
      have hp21k : hp21z = zmi hp14z (σ 25) := hp21q.trans (zmi_of y18e)
      show zG C V1 0 0 65 [(1, .long (hp14z)), (3, .int (zI (k))), (0, .ref (ad 1))] [.long (hp21z)]
      refine zr_aload_n X 66 2 dX6_digest_65 rfl rfl ?_
      refine zr_get X 69 7 2 hx2 rfl iX6 (by decide) w4 rfl rfl dX6_digest_66 rfl ?_
      obtain ⟨t22r, t22to, t22tr, t22e, t22e2, t22h, t22T, t22o, t22q, t22c, t22a, t22b, t22z⟩ := hI1.txt (q := 7) (by omega)
      rw [zso7, zsz7] at t22T
      rw [zso7] at t22o
      rw [zsz7] at t22a t22b t22z
      have t22g := t22T.rg
      refine zr_callS (kc' := 0) (ks' := 0) X 72 2 (m_X6_mixedWithText l Γ (V := V1) (x := hp21z) t22T) gX6_digest_X6_mixedWithText rfl (by decide +kernel) rfl (by decide) rfl (Nat.le_of_ble_eq_true rfl) dX6_digest_69 rfl (by omega) (by omega) (fun rv23 V24 hp25 => ?_)
      obtain ⟨hp25e, hp25v⟩ := hp25
      obtain ⟨hp25z, hp25q⟩ : ∃ zz9 : Int64, zz9 = zmr hp21z (fun j => t22h (j : Int)) (σ 25).toNat := ⟨_, rfl⟩
      rw [hp25e, hp25v, ← hp25q]
      have hp25k : hp25z = zmr hp21z (zsg σ 7) (σ 25).toNat := hp25q.trans (zmr_eq rfl (fun k9 h9 => t22z k9 (by omega)))
      show zG C V1 0 0 72 [(1, .long (hp14z)), (3, .int (zI (k))), (0, .ref (ad 1))] [.long (hp25z)]
      refine zr_lstore_n X 73 [(1, .long (hp25z)), (3, .int (zI (k))), (0, .ref (ad 1))] dX6_digest_72 rfl (by decide) rfl ?_
      refine zr_lload_n X 74 0 dX6_digest_73 rfl rfl ?_
      refine zr_aload_n X 75 2 dX6_digest_74 rfl rfl ?_
      refine zr_aload_n X 76 2 dX6_digest_75 rfl rfl ?_
      refine zr_get X 79 7 1 hx2 rfl iX6 (by decide) w3 rfl rfl dX6_digest_76 rfl ?_
      obtain ⟨t26r, t26to, t26tr, t26e, t26e2, t26h, t26T, t26o, t26q, t26c, t26a, t26b, t26z⟩ := hI1.txt (q := 6) (by omega)
      rw [zso6, zsz6] at t26T
      rw [zso6] at t26o
      rw [zsz6] at t26a t26b t26z
      have t26g := t26T.rg
      refine zr_callVe (kc' := 0) (ks' := 0) X 82 1 (m_X6_greatestBorder l Γ hI1 t26T t26o t26q (by omega) (by omega)) gX6_digest_X6_greatestBorder rfl (by decide +kernel) rfl (by decide) hI1.x rfl rfl (Nat.le_of_ble_eq_true rfl) dX6_digest_79 rfl (by omega) (by omega) (fun rv27 V28 hp29 => ?_)
      obtain ⟨hp29y, hp29s, hp29e, hS30, fx31, hp29a, hp29b, hp29q, hp29z⟩ := hp29
      rw [hp29e]
      rw [hp29q] at hS30
      have fx32 := zag.tr hI2 fx31
      have hx33 : V28 (ad 1) = some (1, .inr (7, [.ref (ad 2), .ref (ad 20), .ref (ad 22), .ref (ad 24), .ref (ad 16), .ref (ad 31), .ref (ad 33), .ref (ad 35), .ref (ad 40), .ref (ad 45), .int (zI (σ 30)), .int (zI (σ 31)), .int (zI (σ 32)), .int (zI (σ 33))])) := hS30.1
      show zG C V28 0 0 82 [(1, .long (hp25z)), (3, .int (zI (k))), (0, .ref (ad 1))] [.int (zI (hp29y)), .long (hp25z)]
      have hp29B : zsB σ 6 hp29y := ⟨by omega, by rw [zsz6]; have hz := hp29z; rw [zaw_eq t26z] at hz; exact hz⟩
      refine zr_i2l X 83 dX6_digest_82 rfl ?_
      obtain ⟨y34, y34e⟩ : ∃ zz9 : Int64, zz9 = (zI (hp29y)).toInt64 := ⟨_, rfl⟩
      rw [← y34e]
      refine zr_callS (kc' := 0) (ks' := 0) X 86 2 (m_X6_mixed l Γ (V := V28) (x := hp25z) (y := y34)) gX6_digest_X6_mixed rfl (by decide +kernel) rfl (by decide) rfl (Nat.le_of_ble_eq_true rfl) dX6_digest_83 rfl (by omega) (by omega) (fun rv35 V36 hp37 => ?_)
      obtain ⟨hp37e, hp37v⟩ := hp37
      obtain ⟨hp37z, hp37q⟩ : ∃ zz9 : Int64, zz9 = hp25z * 31 + y34 := ⟨_, rfl⟩
      rw [hp37e, hp37v, ← hp37q]
      have hp37k : hp37z = zmi hp25z (hp29y) := hp37q.trans (zmi_of y34e)
      show zG C V28 0 0 86 [(1, .long (hp25z)), (3, .int (zI (k))), (0, .ref (ad 1))] [.long (hp37z)]
      refine zr_lstore_n X 87 [(1, .long (hp37z)), (3, .int (zI (k))), (0, .ref (ad 1))] dX6_digest_86 rfl (by decide) rfl ?_
      refine zr_lload_n X 88 0 dX6_digest_87 rfl rfl ?_
      refine zr_aload_n X 89 2 dX6_digest_88 rfl rfl ?_
      refine zr_aload_n X 90 2 dX6_digest_89 rfl rfl ?_
      refine zr_get X 93 7 2 hx33 rfl iX6 (by decide) w4 rfl rfl dX6_digest_90 rfl ?_
      obtain ⟨t38r, t38to, t38tr, t38e, t38e2, t38h, t38T, t38o, t38q, t38c, t38a, t38b, t38z⟩ := hS30.txt (q := 7) (by omega)
      rw [zso7, zsz7] at t38T
      rw [zso7] at t38o
      rw [zsz7] at t38a t38b t38z
      have t38g := t38T.rg
      refine zr_callVe (kc' := 0) (ks' := 0) X 96 1 (m_X6_greatestBorder l Γ hS30 t38T t38o t38q (by omega) (by omega)) gX6_digest_X6_greatestBorder rfl (by decide +kernel) rfl (by decide) hS30.x rfl rfl (Nat.le_of_ble_eq_true rfl) dX6_digest_93 rfl (by omega) (by omega) (fun rv39 V40 hp41 => ?_)
      obtain ⟨hp41y, hp41s, hp41e, hS42, fx43, hp41a, hp41b, hp41q, hp41z⟩ := hp41
      rw [hp41e]
      rw [hp41q] at hS42
      have fx44 := zag.tr fx32 fx43
      have hx45 : V40 (ad 1) = some (1, .inr (7, [.ref (ad 2), .ref (ad 20), .ref (ad 22), .ref (ad 24), .ref (ad 16), .ref (ad 31), .ref (ad 33), .ref (ad 35), .ref (ad 40), .ref (ad 45), .int (zI (σ 30)), .int (zI (σ 31)), .int (zI (σ 32)), .int (zI (σ 33))])) := hS42.1
      show zG C V40 0 0 96 [(1, .long (hp37z)), (3, .int (zI (k))), (0, .ref (ad 1))] [.int (zI (hp41y)), .long (hp37z)]
      have hp41B : zsB σ 7 hp41y := ⟨by omega, by rw [zsz7]; have hz := hp41z; rw [zaw_eq t38z] at hz; exact hz⟩
      refine zr_i2l X 97 dX6_digest_96 rfl ?_
      obtain ⟨y46, y46e⟩ : ∃ zz9 : Int64, zz9 = (zI (hp41y)).toInt64 := ⟨_, rfl⟩
      rw [← y46e]
      refine zr_callS (kc' := 0) (ks' := 0) X 100 2 (m_X6_mixed l Γ (V := V40) (x := hp37z) (y := y46)) gX6_digest_X6_mixed rfl (by decide +kernel) rfl (by decide) rfl (Nat.le_of_ble_eq_true rfl) dX6_digest_97 rfl (by omega) (by omega) (fun rv47 V48 hp49 => ?_)
      obtain ⟨hp49e, hp49v⟩ := hp49
      obtain ⟨hp49z, hp49q⟩ : ∃ zz9 : Int64, zz9 = hp37z * 31 + y46 := ⟨_, rfl⟩
      rw [hp49e, hp49v, ← hp49q]
      have hp49k : hp49z = zmi hp37z (hp41y) := hp49q.trans (zmi_of y46e)
      show zG C V40 0 0 100 [(1, .long (hp37z)), (3, .int (zI (k))), (0, .ref (ad 1))] [.long (hp49z)]
      refine zr_lstore_n X 101 [(1, .long (hp49z)), (3, .int (zI (k))), (0, .ref (ad 1))] dX6_digest_100 rfl (by decide) rfl ?_
      refine zr_aload_n X 102 2 dX6_digest_101 rfl rfl ?_
      refine zr_get X 105 7 7 hx45 rfl iX6 (by decide) w5 rfl rfl dX6_digest_102 rfl ?_
      refine zr_aload_n X 106 2 dX6_digest_105 rfl rfl ?_
      refine zr_get X 109 7 1 hx45 rfl iX6 (by decide) w3 rfl rfl dX6_digest_106 rfl ?_
      refine zr_aload_n X 110 2 dX6_digest_109 rfl rfl ?_
      refine zr_get X 113 7 2 hx45 rfl iX6 (by decide) w4 rfl rfl dX6_digest_110 rfl ?_
      obtain ⟨t50r, t50to, t50tr, t50e, t50e2, t50h, t50T, t50o, t50q, t50c, t50a, t50b, t50z⟩ := hS42.txt (q := 6) (by omega)
      rw [zso6, zsz6] at t50T
      rw [zso6] at t50o
      rw [zsz6] at t50a t50b t50z
      have t50g := t50T.rg
      obtain ⟨t51r, t51to, t51tr, t51e, t51e2, t51h, t51T, t51o, t51q, t51c, t51a, t51b, t51z⟩ := hS42.txt (q := 7) (by omega)
      rw [zso7, zsz7] at t51T
      rw [zso7] at t51o
      rw [zsz7] at t51a t51b t51z
      have t51g := t51T.rg
      refine zr_callVe (kc' := 0) (ks' := 0) X 116 2 (g_seek l Γ hS42.2.2.2.2.2.2.1 hS42.2.2.2.2.2.2.2.1 t50T t50o t50q t51T t51o t51q (by omega) (by omega) (by decide) (by omega) (by omega)) gX6_digest_X3_seek rfl (by decide +kernel) rfl (by decide) hS42.2.2.2.2.2.2.1.cl rfl rfl (Nat.le_of_ble_eq_true rfl) dX6_digest_113 rfl (by omega) (by omega) (fun rv52 V53 hp54 => ?_)
      obtain ⟨hp54e, ⟨hp54m, hp54f, hp54x, hp54z⟩, hp54w, hp54g⟩ := hp54
      rw [hp54e]
      have hp54r := hp54x.2.2.2
      obtain ⟨hS55, fx56⟩ := hS42.road hp54x.sk hp54w hp54g
      have fx57 := zag.tr fx44 fx56
      have hx58 : V53 (ad 1) = some (1, .inr (7, [.ref (ad 2), .ref (ad 20), .ref (ad 22), .ref (ad 24), .ref (ad 16), .ref (ad 31), .ref (ad 33), .ref (ad 35), .ref (ad 40), .ref (ad 45), .int (zI (σ 30)), .int (zI (σ 31)), .int (zI (σ 32)), .int (zI (σ 33))])) := hS55.1
      have t59o := hp54g _ _ _ t50o (by omega)
      have t59q := hp54g _ _ _ t50q (by omega)
      have t59T := t50T.kept (t59o.trans t50o.symm) (t59q.trans t50q.symm)
      have t59c := t50c
      have t59g := t59T.rg
      have t60o := hp54g _ _ _ t51o (by omega)
      have t60q := hp54g _ _ _ t51q (by omega)
      have t60T := t51T.kept (t60o.trans t51o.symm) (t60q.trans t51q.symm)
      have t60c := t51c
      have t60g := t60T.rg
      show zG C V53 0 0 116 [(1, .long (hp49z)), (3, .int (zI (k))), (0, .ref (ad 1))] []
      have hp54N : hp54m = zsN σ 6 7 := (zsN.of hp54z zsz6.symm zsz7.symm t50z t51z)
      refine zr_lload_n X 117 0 dX6_digest_116 rfl rfl ?_
      refine zr_aload_n X 118 2 dX6_digest_117 rfl rfl ?_
      refine zr_get X 121 7 7 hx58 rfl iX6 (by decide) w5 rfl rfl dX6_digest_118 rfl ?_
      refine zr_getNsx X 124 hp54x iX3 rfl dX6_digest_121 rfl ?_
      refine zr_i2l X 125 dX6_digest_124 rfl ?_
      obtain ⟨y61, y61e⟩ : ∃ zz9 : Int64, zz9 = (zI (hp54m)).toInt64 := ⟨_, rfl⟩
      rw [← y61e]
      refine zr_callS (kc' := 0) (ks' := 0) X 128 2 (m_X6_mixed l Γ (V := V53) (x := hp49z) (y := y61)) gX6_digest_X6_mixed rfl (by decide +kernel) rfl (by decide) rfl (Nat.le_of_ble_eq_true rfl) dX6_digest_125 rfl (by omega) (by omega) (fun rv62 V63 hp64 => ?_)
      obtain ⟨hp64e, hp64v⟩ := hp64
      obtain ⟨hp64z, hp64q⟩ : ∃ zz9 : Int64, zz9 = hp49z * 31 + y61 := ⟨_, rfl⟩
      rw [hp64e, hp64v, ← hp64q]
      have hp64k : hp64z = zmi hp49z (zsN σ 6 7) := by
        rw [hp64q, zmi_of y61e, hp54N]
      show zG C V53 0 0 128 [(1, .long (hp49z)), (3, .int (zI (k))), (0, .ref (ad 1))] [.long (hp64z)]
      refine zr_lstore_n X 129 [(1, .long (hp64z)), (3, .int (zI (k))), (0, .ref (ad 1))] dX6_digest_128 rfl (by decide) rfl ?_
      refine zr_aload_n X 130 2 dX6_digest_129 rfl rfl ?_
      refine zr_get X 133 7 7 hx58 rfl iX6 (by decide) w5 rfl rfl dX6_digest_130 rfl ?_
      refine zr_aload_n X 134 2 dX6_digest_133 rfl rfl ?_
      refine zr_get X 137 7 2 hx58 rfl iX6 (by decide) w4 rfl rfl dX6_digest_134 rfl ?_
      refine zr_aload_n X 138 2 dX6_digest_137 rfl rfl ?_
      refine zr_get X 141 7 1 hx58 rfl iX6 (by decide) w3 rfl rfl dX6_digest_138 rfl ?_
      obtain ⟨t65r, t65to, t65tr, t65e, t65e2, t65h, t65T, t65o, t65q, t65c, t65a, t65b, t65z⟩ := hS55.txt (q := 7) (by omega)
      rw [zso7, zsz7] at t65T
      rw [zso7] at t65o
      rw [zsz7] at t65a t65b t65z
      have t65g := t65T.rg
      obtain ⟨t66r, t66to, t66tr, t66e, t66e2, t66h, t66T, t66o, t66q, t66c, t66a, t66b, t66z⟩ := hS55.txt (q := 6) (by omega)
      rw [zso6, zsz6] at t66T
      rw [zso6] at t66o
      rw [zsz6] at t66a t66b t66z
      have t66g := t66T.rg
      refine zr_callVe (kc' := 0) (ks' := 0) X 144 2 (g_seek l Γ hS55.2.2.2.2.2.2.1 hS55.2.2.2.2.2.2.2.1 t65T t65o t65q t66T t66o t66q (by omega) (by omega) (by decide) (by omega) (by omega)) gX6_digest_X3_seek rfl (by decide +kernel) rfl (by decide) hS55.2.2.2.2.2.2.1.cl rfl rfl (Nat.le_of_ble_eq_true rfl) dX6_digest_141 rfl (by omega) (by omega) (fun rv67 V68 hp69 => ?_)
      obtain ⟨hp69e, ⟨hp69m, hp69f, hp69x, hp69z⟩, hp69w, hp69g⟩ := hp69
      rw [hp69e]
      have hp69r := hp69x.2.2.2
      obtain ⟨hS70, fx71⟩ := hS55.road hp69x.sk hp69w hp69g
      have fx72 := zag.tr fx57 fx71
      have hx73 : V68 (ad 1) = some (1, .inr (7, [.ref (ad 2), .ref (ad 20), .ref (ad 22), .ref (ad 24), .ref (ad 16), .ref (ad 31), .ref (ad 33), .ref (ad 35), .ref (ad 40), .ref (ad 45), .int (zI (σ 30)), .int (zI (σ 31)), .int (zI (σ 32)), .int (zI (σ 33))])) := hS70.1
      have t74o := hp69g _ _ _ t65o (by omega)
      have t74q := hp69g _ _ _ t65q (by omega)
      have t74T := t65T.kept (t74o.trans t65o.symm) (t74q.trans t65q.symm)
      have t74c := t65c
      have t74g := t74T.rg
      have t75o := hp69g _ _ _ t66o (by omega)
      have t75q := hp69g _ _ _ t66q (by omega)
      have t75T := t66T.kept (t75o.trans t66o.symm) (t75q.trans t66q.symm)
      have t75c := t66c
      have t75g := t75T.rg
      show zG C V68 0 0 144 [(1, .long (hp64z)), (3, .int (zI (k))), (0, .ref (ad 1))] []
      have hp69N : hp69m = zsN σ 7 6 := (zsN.of hp69z zsz7.symm zsz6.symm t65z t66z)
      refine zr_lload_n X 145 0 dX6_digest_144 rfl rfl ?_
      refine zr_aload_n X 146 2 dX6_digest_145 rfl rfl ?_
      refine zr_get X 149 7 7 hx73 rfl iX6 (by decide) w5 rfl rfl dX6_digest_146 rfl ?_
      refine zr_getNsx X 152 hp69x iX3 rfl dX6_digest_149 rfl ?_
      refine zr_i2l X 153 dX6_digest_152 rfl ?_
      obtain ⟨y76, y76e⟩ : ∃ zz9 : Int64, zz9 = (zI (hp69m)).toInt64 := ⟨_, rfl⟩
      rw [← y76e]
      refine zr_callS (kc' := 0) (ks' := 0) X 156 2 (m_X6_mixed l Γ (V := V68) (x := hp64z) (y := y76)) gX6_digest_X6_mixed rfl (by decide +kernel) rfl (by decide) rfl (Nat.le_of_ble_eq_true rfl) dX6_digest_153 rfl (by omega) (by omega) (fun rv77 V78 hp79 => ?_)
      obtain ⟨hp79e, hp79v⟩ := hp79
      obtain ⟨hp79z, hp79q⟩ : ∃ zz9 : Int64, zz9 = hp64z * 31 + y76 := ⟨_, rfl⟩
      rw [hp79e, hp79v, ← hp79q]
      have hp79k : hp79z = zmi hp64z (zsN σ 7 6) := by
        rw [hp79q, zmi_of y76e, hp69N]
      show zG C V68 0 0 156 [(1, .long (hp64z)), (3, .int (zI (k))), (0, .ref (ad 1))] [.long (hp79z)]
      refine zr_lstore_n X 157 [(1, .long (hp79z)), (3, .int (zI (k))), (0, .ref (ad 1))] dX6_digest_156 rfl (by decide) rfl ?_
      refine zr_lload_n X 158 0 dX6_digest_157 rfl rfl ?_
      refine zr_aload_n X 159 2 dX6_digest_158 rfl rfl ?_
      refine zr_get X 162 7 3 hx73 rfl iX6 (by decide) w7 rfl rfl dX6_digest_159 rfl ?_
      refine zr_getN X 165 3 0 0 hS70.2.2.2.2.2.1.1 rfl iX1 (by decide) rfl rfl rfl dX6_digest_162 rfl ?_
      refine zr_callVe (kc' := 0) (ks' := 0) X 168 0 (f_size l Γ hS70.2.2.2.2.2.1.2.1) gX6_digest_X2_size rfl (by decide +kernel) rfl (by decide) hS70.2.2.2.2.2.1.2.1.cl rfl rfl (Nat.le_of_ble_eq_true rfl) dX6_digest_165 rfl (by omega) (by omega) (fun rv80 V81 hp82 => ?_)
      rw [hp82.1, hp82.2]
      have hp82r := hS70.2.2.2.2.2.1.2.1.rg
      show zG C V68 0 0 168 [(1, .long (hp79z)), (3, .int (zI (k))), (0, .ref (ad 1))] [.int (zI (σ 27)), .long (hp79z)]
      refine zr_i2l X 169 dX6_digest_168 rfl ?_
      obtain ⟨y83, y83e⟩ : ∃ zz9 : Int64, zz9 = (zI (σ 27)).toInt64 := ⟨_, rfl⟩
      rw [← y83e]
      refine zr_callS (kc' := 0) (ks' := 0) X 172 2 (m_X6_mixed l Γ (V := V68) (x := hp79z) (y := y83)) gX6_digest_X6_mixed rfl (by decide +kernel) rfl (by decide) rfl (Nat.le_of_ble_eq_true rfl) dX6_digest_169 rfl (by omega) (by omega) (fun rv84 V85 hp86 => ?_)
      obtain ⟨hp86e, hp86v⟩ := hp86
      obtain ⟨hp86z, hp86q⟩ : ∃ zz9 : Int64, zz9 = hp79z * 31 + y83 := ⟨_, rfl⟩
      rw [hp86e, hp86v, ← hp86q]
      have hp86k : hp86z = zmi hp79z (σ 27) := hp86q.trans (zmi_of y83e)
      show zG C V68 0 0 172 [(1, .long (hp79z)), (3, .int (zI (k))), (0, .ref (ad 1))] [.long (hp86z)]
      refine zr_aload_n X 173 2 dX6_digest_172 rfl rfl ?_
      refine zr_get X 176 7 3 hx73 rfl iX6 (by decide) w7 rfl rfl dX6_digest_173 rfl ?_
      refine zr_getN X 179 3 0 0 hS70.2.2.2.2.2.1.1 rfl iX1 (by decide) rfl rfl rfl dX6_digest_176 rfl ?_
      obtain ⟨t87e, t87e2, t87h, t87T, t87o, t87q, t87z⟩ := hS70.heldT
      have t87g := t87T.rg
      refine zr_callS (kc' := 0) (ks' := 0) X 182 2 (m_X6_mixedWithText l Γ (V := V68) (x := hp86z) t87T) gX6_digest_X6_mixedWithText rfl (by decide +kernel) rfl (by decide) rfl (Nat.le_of_ble_eq_true rfl) dX6_digest_179 rfl (by omega) (by omega) (fun rv88 V89 hp90 => ?_)
      obtain ⟨hp90e, hp90v⟩ := hp90
      obtain ⟨hp90z, hp90q⟩ : ∃ zz9 : Int64, zz9 = zmr hp86z (fun j => t87h (j : Int)) (σ 27).toNat := ⟨_, rfl⟩
      rw [hp90e, hp90v, ← hp90q]
      have hp90k : hp90z = zmr hp86z (fun k => σ (300 + ((σ 29).toNat + k))) (σ 27).toNat := hp90q.trans (zmr_eq rfl (fun k9 h9 => t87z k9 (by omega)))
      show zG C V68 0 0 182 [(1, .long (hp79z)), (3, .int (zI (k))), (0, .ref (ad 1))] [.long (hp90z)]
      refine zr_lstore_n X 183 [(1, .long (hp90z)), (3, .int (zI (k))), (0, .ref (ad 1))] dX6_digest_182 rfl (by decide) rfl ?_
      refine zr_lload_n X 184 0 dX6_digest_183 rfl rfl ?_
      refine zr_aload_n X 185 2 dX6_digest_184 rfl rfl ?_
      refine zr_get X 188 7 3 hx73 rfl iX6 (by decide) w7 rfl rfl dX6_digest_185 rfl ?_
      refine zr_getN X 191 3 1 1 hS70.2.2.2.2.2.1.1 rfl iX1 (by decide) rfl rfl rfl dX6_digest_188 rfl ?_
      refine zr_callVe (kc' := 0) (ks' := 0) X 194 0 (f_size l Γ hS70.2.2.2.2.2.1.2.2.1) gX6_digest_X2_size rfl (by decide +kernel) rfl (by decide) hS70.2.2.2.2.2.1.2.2.1.cl rfl rfl (Nat.le_of_ble_eq_true rfl) dX6_digest_191 rfl (by omega) (by omega) (fun rv91 V92 hp93 => ?_)
      rw [hp93.1, hp93.2]
      have hp93r := hS70.2.2.2.2.2.1.2.2.1.rg
      show zG C V68 0 0 194 [(1, .long (hp90z)), (3, .int (zI (k))), (0, .ref (ad 1))] [.int (zI (σ 28)), .long (hp90z)]
      refine zr_i2l X 195 dX6_digest_194 rfl ?_
      obtain ⟨y94, y94e⟩ : ∃ zz9 : Int64, zz9 = (zI (σ 28)).toInt64 := ⟨_, rfl⟩
      rw [← y94e]
      refine zr_callS (kc' := 0) (ks' := 0) X 198 2 (m_X6_mixed l Γ (V := V68) (x := hp90z) (y := y94)) gX6_digest_X6_mixed rfl (by decide +kernel) rfl (by decide) rfl (Nat.le_of_ble_eq_true rfl) dX6_digest_195 rfl (by omega) (by omega) (fun rv95 V96 hp97 => ?_)
      obtain ⟨hp97e, hp97v⟩ := hp97
      obtain ⟨hp97z, hp97q⟩ : ∃ zz9 : Int64, zz9 = hp90z * 31 + y94 := ⟨_, rfl⟩
      rw [hp97e, hp97v, ← hp97q]
      have hp97k : hp97z = zmi hp90z (σ 28) := hp97q.trans (zmi_of y94e)
      show zG C V68 0 0 198 [(1, .long (hp90z)), (3, .int (zI (k))), (0, .ref (ad 1))] [.long (hp97z)]
      refine zr_lstore_n X 199 [(1, .long (hp97z)), (3, .int (zI (k))), (0, .ref (ad 1))] dX6_digest_198 rfl (by decide) rfl ?_
      refine zr_iconst X 200 dX6_digest_199 rfl ?_
      refine zr_istore_n X 201 [(3, .int (zI (0))), (1, .long (hp97z)), (0, .ref (ad 1))] dX6_digest_200 rfl (by decide) rfl ?_
      have loop2 : ∀ (N : Nat) (x2 : Int64) (k2 : Int), 0 ≤ k2 ∧ k2 ≤ 4 ∧ x2 = zmr hp97z (fun j => σ (30 + j)) k2.toNat → (4 - k2).toNat = N → zG C V68 0 0 201 [(3, .int (zI (k2))), (1, .long (x2)), (0, .ref (ad 1))] [] := by
        intro N
        induction N using Nat.strongRecOn with
        | _ N ih =>
        intro x2 k2 hI hN
        obtain ⟨hJ1, hJ2, hJ3⟩ := id hI
        refine zr_iload_n X 202 0 dX6_digest_201 rfl rfl ?_
        refine zr_iconst X 203 dX6_digest_202 rfl ?_
        refine zr_icmp_gt X 223 206 dX6_digest_203 rfl rfl (by omega) (by omega) (fun bq98 => ?_) (fun bq98 => ?_)
        · refine zr_lload_n X 224 1 dX6_digest_223 rfl rfl ?_
          refine zr_aload_n X 225 2 dX6_digest_224 rfl rfl ?_
          refine zr_callVe (kc' := 0) (ks' := 0) X 228 0 (m_X6_isSound l Γ hS70) gX6_digest_X6_isSound rfl (by decide +kernel) rfl (by decide) hS70.x rfl rfl (Nat.le_of_ble_eq_true rfl) dX6_digest_225 rfl (by omega) (by omega) (fun rv99 V100 hp101 => ?_)
          obtain ⟨hp101e, hp101s, hp101x⟩ := hp101
          rw [hp101e]
          have fx102 := zag.tr fx72 hp101x
          have hx103 : V100 (ad 1) = some (1, .inr (7, [.ref (ad 2), .ref (ad 20), .ref (ad 22), .ref (ad 24), .ref (ad 16), .ref (ad 31), .ref (ad 33), .ref (ad 35), .ref (ad 40), .ref (ad 45), .int (zI (σ 30)), .int (zI (σ 31)), .int (zI (σ 32)), .int (zI (σ 33))])) := hp101s.1
          show zG C V100 0 0 228 [(3, .int (zI (k2))), (1, .long (x2)), (0, .ref (ad 1))] [.int (zI (1)), .long (x2)]
          refine zr_if_eq X 235 231 dX6_digest_228 rfl rfl (by omega) (fun bq104 => absurd bq104 (by omega)) (fun bq104 => ?_)
          refine zr_lconst X 232 (v := 1) dX6_digest_231 rfl rfl ?_
          refine zr_goto X 236 dX6_digest_232 rfl ?_
          refine zr_callS (kc' := 0) (ks' := 0) X 239 2 (m_X6_mixed l Γ (V := V100) (x := x2) (y := 1)) gX6_digest_X6_mixed rfl (by decide +kernel) rfl (by decide) rfl (Nat.le_of_ble_eq_true rfl) dX6_digest_236 rfl (by omega) (by omega) (fun rv105 V106 hp107 => ?_)
          obtain ⟨hp107e, hp107v⟩ := hp107
          obtain ⟨hp107z, hp107q⟩ : ∃ zz9 : Int64, zz9 = x2 * 31 + 1 := ⟨_, rfl⟩
          rw [hp107e, hp107v, ← hp107q]
          have hp107k : hp107z = zmi x2 1 := hp107q.trans (zmi_of (show (1 : Int64) = (zI 1).toInt64 by decide +kernel))
          show zG C V100 0 0 239 [(3, .int (zI (k2))), (1, .long (x2)), (0, .ref (ad 1))] [.long (hp107z)]
          have hx9 : x2 = zmi (zmi (zmi (zmi hp97z (σ 30)) (σ 31)) (σ 32)) (σ 33) := by
            rw [hJ3, show k2.toNat = 4 by omega]
            exact zmr_f4 rfl rfl rfl rfl
          have hW9 := hI5
          rw [show k.toNat = 6 by omega] at hW9
          exact zr_lret X rfl ⟨⟨_, rfl, x, hp29y, hp41y, hW9, hp29B, hp41B, by rw [hp107k, hx9, hp97k, hp90k, hp86k, hp79k, hp64k, hp49k, hp37k, hp25k, hp21k, hp14k, hp10k]; first | done | rfl⟩, hp101s, fx102⟩ dX6_digest_239
        · refine zr_lload_n X 207 1 dX6_digest_206 rfl rfl ?_
          refine zr_aload_n X 208 2 dX6_digest_207 rfl rfl ?_
          refine zr_iload_n X 209 0 dX6_digest_208 rfl rfl ?_
          refine zr_callVe (kc' := 0) (ks' := 0) X 212 1 (m_X6_counted l Γ hS70 (q := k2) (by omega)) gX6_digest_X6_counted rfl (by decide +kernel) rfl (by decide) hS70.x rfl rfl (Nat.le_of_ble_eq_true rfl) dX6_digest_209 rfl (by omega) (by omega) (fun rv108 V109 hp110 => ?_)
          obtain ⟨⟨y111, y111e, y111a⟩, y111v⟩ := hp110
          rw [y111e, y111v]
          show zG C V68 0 0 212 [(3, .int (zI (k2))), (1, .long (x2)), (0, .ref (ad 1))] [.int (zI (y111)), .long (x2)]
          refine zr_i2l X 213 dX6_digest_212 rfl ?_
          obtain ⟨y112, y112e⟩ : ∃ zz9 : Int64, zz9 = (zI (y111)).toInt64 := ⟨_, rfl⟩
          rw [← y112e]
          refine zr_callS (kc' := 0) (ks' := 0) X 216 2 (m_X6_mixed l Γ (V := V68) (x := x2) (y := y112)) gX6_digest_X6_mixed rfl (by decide +kernel) rfl (by decide) rfl (Nat.le_of_ble_eq_true rfl) dX6_digest_213 rfl (by omega) (by omega) (fun rv113 V114 hp115 => ?_)
          obtain ⟨hp115e, hp115v⟩ := hp115
          obtain ⟨hp115z, hp115q⟩ : ∃ zz9 : Int64, zz9 = x2 * 31 + y112 := ⟨_, rfl⟩
          rw [hp115e, hp115v, ← hp115q]
          have hp115k : hp115z = zmi x2 (y111) := hp115q.trans (zmi_of y112e)
          show zG C V68 0 0 216 [(3, .int (zI (k2))), (1, .long (x2)), (0, .ref (ad 1))] [.long (hp115z)]
          refine zr_lstore_n X 217 [(1, .long (hp115z)), (3, .int (zI (k2))), (0, .ref (ad 1))] dX6_digest_216 rfl (by decide) rfl ?_
          refine zr_iinc X 220 1 [(3, .int (zI (k2 + 1))), (1, .long (hp115z)), (0, .ref (ad 1))] dX6_digest_217 rfl rfl (by decide) rfl ?_
          refine zr_goto X 201 dX6_digest_220 rfl ?_
          have hcv : y111 = σ (30 + k2.toNat) := by
            rcases y111a with ⟨e9, h9⟩ | ⟨e9, h9⟩ | ⟨e9, h9⟩ | ⟨e9, h9⟩ <;> rw [h9, e9] <;> rfl
          exact ih _ (by omega) hp115z (k2 + 1) ⟨by omega, by omega, hp115q.trans (zmr_up hJ3 (by omega) y112e hcv)⟩ rfl
      exact loop2 _ hp97z 0 ⟨by omega, by omega, rfl⟩ rfl
    · refine zr_aload_n X 16 2 dX6_digest_15 rfl rfl ?_
      refine zr_lload_n X 17 1 dX6_digest_16 rfl rfl ?_
      refine zr_aload_n X 18 2 dX6_digest_17 rfl rfl ?_
      refine zr_get X 21 7 0 hx2 rfl iX6 (by decide) w1 rfl rfl dX6_digest_18 rfl ?_
      refine zr_iload_n X 22 0 dX6_digest_21 rfl rfl ?_
      refine zr_aald X 23 (.ref (ad (10 + k.toNat))) hI1.2.1.1 (by omega) rfl dX6_digest_22 rfl ?_
      refine zr_callVe (kc' := 0) (ks' := 0) X 26 2 (m_X6_mixedWithWindow l Γ (x := x) (q := k) hI1 (by omega)) gX6_digest_X6_mixedWithWindow rfl (by decide +kernel) rfl (by decide) hI1.x rfl rfl (Nat.le_of_ble_eq_true rfl) dX6_digest_23 rfl (by omega) (by omega) (fun rv116 V117 hp118 => ?_)
      obtain ⟨⟨hp118b, hp118p, hp118z, hp118e, hp118B, hp118P, hp118k⟩, hp118s, hp118x⟩ := hp118
      rw [hp118e]
      have fx119 := zag.tr hI2 hp118x
      have hx120 : V117 (ad 1) = some (1, .inr (7, [.ref (ad 2), .ref (ad 20), .ref (ad 22), .ref (ad 24), .ref (ad 16), .ref (ad 31), .ref (ad 33), .ref (ad 35), .ref (ad 40), .ref (ad 45), .int (zI (σ 30)), .int (zI (σ 31)), .int (zI (σ 32)), .int (zI (σ 33))])) := hp118s.1
      show zG C V117 0 0 26 [(3, .int (zI (k))), (1, .long (x)), (0, .ref (ad 1))] [.long (hp118z)]
      refine zr_lstore_n X 27 [(1, .long (hp118z)), (3, .int (zI (k))), (0, .ref (ad 1))] dX6_digest_26 rfl (by decide) rfl ?_
      refine zr_iinc X 30 1 [(3, .int (zI (k + 1))), (1, .long (hp118z)), (0, .ref (ad 1))] dX6_digest_27 rfl rfl (by decide) rfl ?_
      refine zr_goto X 6 dX6_digest_30 rfl ?_
      exact ih _ (by omega) V117 hp118z (k + 1) ⟨hp118s, fx119, by omega, by omega, zdW_up hI5 hI3 hp118B hp118P hp118k⟩ rfl
  exact loop _ V 7702 0 ⟨hS, zag.rf, by omega, by omega, zdW_0⟩ rfl
