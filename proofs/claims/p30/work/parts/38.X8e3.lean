set_option maxRecDepth 100000 in
set_option maxHeartbeats 4000000 in
theorem m_X8_compact (l : Launch) (Γ : zGam) {V : zV} {c md : Nat → Nat} {τ κ : Nat → Int} {E : Int} {q : Int} (hM : zMo Γ V c md τ κ E) (hq : -2147483648 ≤ q ∧ q ≤ 2147483647) : zM l Γ 4 yX8_compact wsX8_compact 1 40 V [.ref (c 60), .int (zI (q))] (fun rv V' => ∃ (y : Int) (md' : Nat → Nat) (τ' κ' : Nat → Int), rv = some (.int (zI y)) ∧ zMo Γ V' c md' τ' κ' (E + 40) ∧ zfm V V' ∧ ((¬ (0 ≤ q ∧ q ≤ 5) ∧ y = 0 ∧ τ' = zf τ 36 1) ∨ ((0 ≤ q ∧ q ≤ 5) ∧ ¬ (True) ∧ y = 0 ∧ τ' = zf τ 36 2) ∨ ((0 ≤ q ∧ q ≤ 5) ∧ (True) ∧ (y = (zf τ 36 0) (4 * q.toNat + 1) - (zf τ 36 0) (4 * q.toNat + 2) ∧ τ' = zdn (zw4 (zf τ 36 0) q.toNat ((zf τ 36 0) (4 * q.toNat)) ((zf τ 36 0) (4 * q.toNat)) ((zf τ 36 0) (4 * q.toNat + 1) - (zf τ 36 0) (4 * q.toNat + 2)) (-9)))))) := by
  have w0 : Cond.fieldLink RX8 14 "SashwordsModel" "windows" "[[I" ∈ wsX8_compact := by decide +kernel
  have iX8 : ∀ w ∈ u_ws RX8 TX8 11, w ∈ wsX8_compact := by decide +kernel
  have w2 : Cond.fieldLink RX8 7 "SashwordsModel" "tape" "[I" ∈ wsX8_compact := by decide +kernel
  refine zM_of (cc := cX8_compact) (nL := 5) (ret := (some .int)) (own := RX8) (by decide +kernel) rfl rfl (Nat.le_of_ble_eq_true rfl) (fun C X hi0 => ?_)
  have nn1 : 0 ≤ κ 0 ∧ κ 0 ≤ κ 1 ∧ κ 0 ≤ E ∧ κ 1 ≤ 7000 := hM.n.1
  show zG C V 1 40 0 [(0, .ref (c 60)), (1, .int (zI (q)))] []
  refine zr_aload_n X 1 0 dX8_compact_0 rfl rfl ?_
  refine zr_iload_n X 2 1 dX8_compact_1 rfl rfl ?_
  refine zr_callS (kc' := 1) (ks' := 40) X 5 1 (m_X8_isNoWindow l Γ (V := V) (x := q) (by first | with_reducible assumption | decide | omega)) gX8_compact_X8_isNoWindow rfl (by decide +kernel) rfl (by decide) rfl (Nat.le_of_ble_eq_true rfl) dX8_compact_2 rfl (by first | with_reducible assumption | decide | omega) (by first | with_reducible assumption | decide | omega) (fun rv2 V3 hp4 => ?_)
  obtain ⟨⟨no5, no5e, no5a⟩, no5v⟩ := hp4
  rw [no5e, no5v]
  show zG C V 1 40 5 [(0, .ref (c 60)), (1, .int (zI (q)))] [.int (zI (no5)), .ref (c 60)]
  refine zr_iconst X 6 dX8_compact_5 rfl ?_
  refine zr_callVe (kc' := 1) (ks' := 40) X 9 2 (m_X8_isThrown l Γ hM (a := no5) (b := 0) (by first | with_reducible assumption | decide | omega) (by first | with_reducible assumption | decide | omega)) gX8_compact_X8_isThrown rfl (by decide +kernel) rfl (by decide) ⟨_, _, hM.1⟩ rfl rfl (Nat.le_of_ble_eq_true rfl) dX8_compact_6 rfl (by first | with_reducible assumption | decide | omega) (by first | with_reducible assumption | decide | omega) (fun rv6 V7 hp8 => ?_)
  obtain ⟨⟨hp8x, hp8k, hp8e, hp8c, hp8m⟩, hp8g⟩ := hp8
  rw [hp8e]
  rcases hp8c with ⟨tc9a, tc9k, tc9x⟩ | ⟨tc9a, tc9b, tc9k, tc9x⟩ | ⟨tc9a, tc9b, tc9k, tc9x⟩
  · skip
    subst tc9k tc9x
    have fx10 : zfm V V7 := (hp8g.mono (fun t ht => by omega))
    obtain ⟨τ11, τ11e⟩ : ∃ zz9 : Nat → Int, zz9 = zf τ 36 1 := ⟨_, rfl⟩
    rw [← τ11e] at hp8m
    show zG C V7 1 40 9 [(0, .ref (c 60)), (1, .int (zI (q)))] [.int (zI (1))]
    refine zr_if_eq X 14 12 dX8_compact_9 rfl rfl (by first | with_reducible assumption | decide | omega) (fun bq12 => absurd bq12 (by first | with_reducible assumption | decide | omega)) (fun bq12 => ?_)
    refine zr_iconst X 13 dX8_compact_12 rfl ?_
    exact zr_iret X rfl ⟨0, md, τ11, κ, rfl, hp8m.le (by first | with_reducible assumption | decide | omega), fx10, Or.inl ⟨by omega, rfl, by rw [τ11e]⟩⟩ dX8_compact_13
  · exact absurd tc9b (by decide)
  · skip
    subst tc9k tc9x
    have fx13 : zfm V V7 := (hp8g.mono (fun t ht => by omega))
    obtain ⟨τ14, τ14e⟩ : ∃ zz9 : Nat → Int, zz9 = zf τ 36 0 := ⟨_, rfl⟩
    rw [← τ14e] at hp8m
    show zG C V7 1 40 9 [(0, .ref (c 60)), (1, .int (zI (q)))] [.int (zI (0))]
    refine zr_if_eq X 14 12 dX8_compact_9 rfl rfl (by first | with_reducible assumption | decide | omega) (fun bq15 => ?_) (fun bq15 => absurd bq15 (by first | with_reducible assumption | decide | omega))
    refine zr_aload_n X 15 0 dX8_compact_14 rfl rfl ?_
    have c816 : V7 (c 60) = some (60, .inr (9, [.ref (md 61), .int (zI (κ 0)), .ref (c 62), .ref (md 63), .ref (md 64), .ref (c 65), .int (zI (τ14 26)), .int (zI (τ14 28)), .int (zI (τ14 29)), .ref (c 66), .int (zI (τ14 36))])) := hp8m.1
    refine zr_get X 18 9 2 c816 rfl iX8 (by decide) w0 rfl rfl dX8_compact_15 rfl ?_
    refine zr_iload_n X 19 1 dX8_compact_18 rfl rfl ?_
    have c817 : V7 (c 62) = some (62, zq Γ.2.1 4 6 (fun i => some (md (70 + i)))) := hp8m.2.2.1
    refine zr_aaldI X 20 (.ref (md (70 + q.toNat))) c817 (by first | with_reducible assumption | decide | omega) rfl dX8_compact_19 rfl ?_
    refine zr_astore_n X 21 [(2, .ref (md (70 + q.toNat))), (0, .ref (c 60)), (1, .int (zI (q)))] dX8_compact_20 rfl (by decide) rfl ?_
    refine zr_aload_n X 22 1 dX8_compact_21 rfl rfl ?_
    refine zr_aload_n X 23 0 dX8_compact_22 rfl rfl ?_
    have hw19 := hp8m.w (i := q.toNat) (by first | with_reducible assumption | decide | omega)
    have hw19r := hw19.rg
    have z020 : (zf τ 36 0) (4 * q.toNat) = τ14 (4 * q.toNat) := by rw [τ14e]
    have z021 : (zf τ 36 0) (4 * q.toNat + 1) = τ14 (4 * q.toNat + 1) := by rw [τ14e]
    have z022 : (zf τ 36 0) (4 * q.toNat + 2) = τ14 (4 * q.toNat + 2) := by rw [τ14e]
    have z023 : (zf τ 36 0) (4 * q.toNat + 3) = τ14 (4 * q.toNat + 3) := by rw [τ14e]
    refine zr_callVe (kc' := (1 - 1)) (ks' := (40 - 40)) X 26 1 (m_X8_text l Γ (tg := 76) (i := q) hp8m (by first | with_reducible assumption | decide | omega)) gX8_compact_X8_text rfl (by decide +kernel) rfl (by decide) ⟨_, _, hp8m.1⟩ rfl rfl (Nat.le_of_ble_eq_true rfl) dX8_compact_23 rfl (by first | with_reducible assumption | decide | omega) (by first | with_reducible assumption | decide | omega) (fun rv24 V25 hp26 => ?_)
    obtain ⟨hp26q, hp26f, hp26e, hp26h, hp26c, hp26g⟩ := hp26
    rw [hp26e]
    have hp26m := hp8m.kept hp26g (fun _ _ _ => trivial)
    have fx27 : zfm V V25 := zag.tr fx13 (hp26g.mono (fun _ _ => trivial))
    show zG C V25 (1 - 1) (40 - 40) 26 [(2, .ref (md (70 + q.toNat))), (0, .ref (c 60)), (1, .int (zI (q)))] [.ref hp26q]
    refine zr_astore_n X 27 [(3, .ref hp26q), (2, .ref (md (70 + q.toNat))), (0, .ref (c 60)), (1, .int (zI (q)))] dX8_compact_26 rfl (by decide) rfl ?_
    refine zr_iconst X 28 dX8_compact_27 rfl ?_
    refine zr_istore X 30 [(4, .int (zI (0))), (3, .ref hp26q), (2, .ref (md (70 + q.toNat))), (0, .ref (c 60)), (1, .int (zI (q)))] dX8_compact_28 rfl (by decide) rfl ?_
    refine zr_sub [0, 1, 2, 4, 3] [(4, .int (zI (0))), (3, .ref hp26q), (2, .ref (md (70 + q.toNat))), (1, .int (zI (q))), (0, .ref (c 60))] rfl ?_
    have loop : ∀ (N : Nat) (V1 : zV) (k : Int), zMo Γ V1 c md τ14 κ E ∧ zfm V V1 ∧ V1 hp26q = some (76, za Γ.2.1 0 (τ14 (4 * q.toNat + 1) - τ14 (4 * q.toNat + 2)).toNat hp26f) ∧ 0 ≤ k ∧ k ≤ (((τ14 (4 * q.toNat + 1) - τ14 (4 * q.toNat + 2)).toNat : Nat) : Int) → ((((τ14 (4 * q.toNat + 1) - τ14 (4 * q.toNat + 2)).toNat : Nat) : Int) - k).toNat = N → zG C V1 (1 - 1) (40 - 40) 30 [(4, .int (zI (k))), (3, .ref hp26q), (2, .ref (md (70 + q.toNat))), (1, .int (zI (q))), (0, .ref (c 60))] [] := by
      intro N
      induction N using Nat.strongRecOn with
      | _ N ih =>
      intro V1 k hI hN
      obtain ⟨hI1, hI2, hI3, hI4, hI5⟩ := id hI
      have nn28 : 0 ≤ κ 0 ∧ κ 0 ≤ κ 1 ∧ κ 0 ≤ E ∧ κ 1 ≤ 7000 := hI1.n.1
      refine zr_iload X 32 0 dX8_compact_30 rfl rfl ?_
      refine zr_aload_n X 33 1 dX8_compact_32 rfl rfl ?_
      refine zr_alen X 34 0 hI3 (by decide) dX8_compact_33 rfl ?_
      refine zr_icmp_ge X 58 37 dX8_compact_34 rfl rfl (by first | with_reducible assumption | decide | omega) (by first | with_reducible assumption | decide | omega) (fun bq29 => ?_) (fun bq29 => ?_)
      · refine zr_aload_n X 59 2 dX8_compact_58 rfl rfl ?_
        refine zr_aload_n X 60 1 dX8_compact_59 rfl rfl ?_
        refine zr_alen X 61 0 hI3 (by decide) dX8_compact_60 rfl ?_
        refine zr_aload_n X 62 2 dX8_compact_61 rfl rfl ?_
        refine zr_iconst X 63 dX8_compact_62 rfl ?_
        have hw31 := hI1.w (i := q.toNat) (by first | with_reducible assumption | decide | omega)
        have hw31r := hw31.rg
        have z032 : (zf τ 36 0) (4 * q.toNat) = τ14 (4 * q.toNat) := by rw [τ14e]
        have z033 : (zf τ 36 0) (4 * q.toNat + 1) = τ14 (4 * q.toNat + 1) := by rw [τ14e]
        have z034 : (zf τ 36 0) (4 * q.toNat + 2) = τ14 (4 * q.toNat + 2) := by rw [τ14e]
        have z035 : (zf τ 36 0) (4 * q.toNat + 3) = τ14 (4 * q.toNat + 3) := by rw [τ14e]
        refine zr_iald X 64 hw31.1 (by first | with_reducible assumption | decide | omega) dX8_compact_63 rfl ?_
        show zG C V1 (1 - 1) (40 - 40) 64 [(4, .int (zI (k))), (3, .ref hp26q), (2, .ref (md (70 + q.toNat))), (1, .int (zI (q))), (0, .ref (c 60))] [.int (zI (τ14 (4 * q.toNat))), .int (zI (((τ14 (4 * q.toNat + 1) - τ14 (4 * q.toNat + 2)).toNat : Nat))), .ref (md (70 + q.toNat))]
        refine zr_iconst X 65 dX8_compact_64 rfl ?_
        refine zr_callS (kc' := (1 - 1)) (ks' := (40 - 40)) X 68 4 (m_X8_place l Γ (p1 := ((τ14 (4 * q.toNat + 1) - τ14 (4 * q.toNat + 2)).toNat : Nat)) (l1 := τ14 (4 * q.toNat)) (m1 := -1) hw31.1 (by first | with_reducible assumption | decide | omega)) gX8_compact_X8_place rfl (by decide +kernel) rfl (by decide) rfl (Nat.le_of_ble_eq_true rfl) dX8_compact_65 rfl (by first | with_reducible assumption | decide | omega) (by first | with_reducible assumption | decide | omega) (fun rv36 V37 hp38 => ?_)
        rw [hp38.1, hp38.2]
        obtain ⟨cm39h, cm39f⟩ := hI1.setW (i := q.toNat) (by first | with_reducible assumption | decide | omega) (τ14 (4 * q.toNat)) (((τ14 (4 * q.toNat + 1) - τ14 (4 * q.toNat + 2)).toNat : Nat)) (-9) (-1) ⟨by omega, by omega, by omega, (Or.inl ⟨rfl, rfl⟩), by omega⟩
        obtain ⟨cm39V, cm39e⟩ : ∃ zz9 : zV, zz9 = (zu V1 (md (70 + q.toNat)) (70 + q.toNat) (za Γ.2.1 0 5 (zr5 (κ (10 + q.toNat)) (τ14 (4 * q.toNat)) (τ14 (4 * q.toNat)) ((τ14 (4 * q.toNat + 1) - τ14 (4 * q.toNat + 2)).toNat : Nat) (-1)))) := ⟨_, rfl⟩
        obtain ⟨κ40, κ40e⟩ : ∃ zz9 : Nat → Int, zz9 = zf κ (20 + q.toNat) (-1) := ⟨_, rfl⟩
        have cm39m : zMo Γ cm39V c md (zw4 τ14 q.toNat (τ14 (4 * q.toNat)) (τ14 (4 * q.toNat)) (((τ14 (4 * q.toNat + 1) - τ14 (4 * q.toNat + 2)).toNat : Nat)) (-9)) κ40 E := by
          rw [κ40e, cm39e]
          exact cm39h
        have cm39g : zag (fun x => x ≠ 70 + q.toNat) V1 cm39V := by
          rw [cm39e]
          exact cm39f
        refine zr_view (cm39e).symm ?_
        have lc41 := cm39g _ _ _ hI3 (by first | with_reducible assumption | decide | omega)
        have fx42 : zfm V cm39V := zag.tr hI2 (cm39g.mono (fun t ht => by omega))
        obtain ⟨τ43, τ43e⟩ : ∃ zz9 : Nat → Int, zz9 = zw4 τ14 q.toNat (τ14 (4 * q.toNat)) (τ14 (4 * q.toNat)) (((τ14 (4 * q.toNat + 1) - τ14 (4 * q.toNat + 2)).toNat : Nat)) (-9) := ⟨_, rfl⟩
        rw [← τ43e] at cm39m
        have τ43_q0 : τ43 (4 * q.toNat) = τ14 (4 * q.toNat) := by rw [τ43e]; exact zw4_0
        have τ43_q1 : τ43 (4 * q.toNat + 1) = τ14 (4 * q.toNat) := by rw [τ43e]; exact zw4_1
        have τ43_q2 : τ43 (4 * q.toNat + 2) = ((τ14 (4 * q.toNat + 1) - τ14 (4 * q.toNat + 2)).toNat : Nat) := by rw [τ43e]; exact zw4_2
        have τ43_q3 : τ43 (4 * q.toNat + 3) = -9 := by rw [τ43e]; exact zw4_3
        show zG C cm39V (1 - 1) (40 - 40) 68 [(4, .int (zI (k))), (3, .ref hp26q), (2, .ref (md (70 + q.toNat))), (1, .int (zI (q))), (0, .ref (c 60))] []
        show zG C cm39V (1 - 1) (40 - 40) 68 [(4, .int (zI (k))), (3, .ref hp26q), (2, .ref (md (70 + q.toNat))), (1, .int (zI (q))), (0, .ref (c 60))] []
        refine zr_aload_n X 69 4 dX8_compact_68 rfl rfl ?_
        refine zr_aload_n X 70 1 dX8_compact_69 rfl rfl ?_
        refine zr_alen X 71 0 lc41 (by decide) dX8_compact_70 rfl ?_
        refine zr_callVe (kc' := (1 - 1)) (ks' := (40 - 40)) X 74 1 (m_X8_done l Γ cm39m) gX8_compact_X8_done rfl (by decide +kernel) rfl (by decide) ⟨_, _, cm39m.1⟩ rfl rfl (Nat.le_of_ble_eq_true rfl) dX8_compact_71 rfl (by first | with_reducible assumption | decide | omega) (by first | with_reducible assumption | decide | omega) (fun rv44 V45 hp46 => ?_)
        obtain ⟨hp46e, hp46m, hp46g⟩ := hp46
        rw [hp46e]
        have lc47 := hp46g _ _ _ lc41 (by first | with_reducible assumption | decide | omega)
        have fx48 : zfm V V45 := zag.tr fx42 (hp46g.mono (fun t ht => by omega))
        obtain ⟨τ49, τ49e⟩ : ∃ zz9 : Nat → Int, zz9 = zdn τ43 := ⟨_, rfl⟩
        rw [← τ49e] at hp46m
        have τ49_q0 : τ49 (4 * q.toNat) = τ43 (4 * q.toNat) := by rw [τ49e]; exact zdn_ne (by first | with_reducible assumption | decide | omega)
        have τ49_q1 : τ49 (4 * q.toNat + 1) = τ43 (4 * q.toNat + 1) := by rw [τ49e]; exact zdn_ne (by first | with_reducible assumption | decide | omega)
        have τ49_q2 : τ49 (4 * q.toNat + 2) = τ43 (4 * q.toNat + 2) := by rw [τ49e]; exact zdn_ne (by first | with_reducible assumption | decide | omega)
        have τ49_q3 : τ49 (4 * q.toNat + 3) = τ43 (4 * q.toNat + 3) := by rw [τ49e]; exact zdn_ne (by first | with_reducible assumption | decide | omega)
        show zG C V45 (1 - 1) (40 - 40) 74 [(4, .int (zI (k))), (3, .ref hp26q), (2, .ref (md (70 + q.toNat))), (1, .int (zI (q))), (0, .ref (c 60))] [.int (zI (((τ14 (4 * q.toNat + 1) - τ14 (4 * q.toNat + 2)).toNat : Nat)))]
        exact zr_iret X rfl ⟨((τ14 (4 * q.toNat + 1) - τ14 (4 * q.toNat + 2)).toNat : Nat), md, τ49, κ40, rfl, hp46m.le (by first | with_reducible assumption | decide | omega), fx48, Or.inr (Or.inr ⟨by omega, trivial, ⟨by omega, by rw [τ49e, τ43e, show (((τ14 (4 * q.toNat + 1) - τ14 (4 * q.toNat + 2)).toNat : Nat) : Int) = τ14 (4 * q.toNat + 1) - τ14 (4 * q.toNat + 2) by omega, τ14e]⟩⟩)⟩ dX8_compact_74
      · refine zr_aload_n X 38 4 dX8_compact_37 rfl rfl ?_
        have c850 : V1 (c 60) = some (60, .inr (9, [.ref (md 61), .int (zI (κ 0)), .ref (c 62), .ref (md 63), .ref (md 64), .ref (c 65), .int (zI (τ14 26)), .int (zI (τ14 28)), .int (zI (τ14 29)), .ref (c 66), .int (zI (τ14 36))])) := hI1.1
        refine zr_get X 41 9 0 c850 rfl iX8 (by decide) w2 rfl rfl dX8_compact_38 rfl ?_
        refine zr_aload_n X 42 2 dX8_compact_41 rfl rfl ?_
        refine zr_iconst X 43 dX8_compact_42 rfl ?_
        have hw52 := hI1.w (i := q.toNat) (by first | with_reducible assumption | decide | omega)
        have hw52r := hw52.rg
        have z053 : (zf τ 36 0) (4 * q.toNat) = τ14 (4 * q.toNat) := by rw [τ14e]
        have z054 : (zf τ 36 0) (4 * q.toNat + 1) = τ14 (4 * q.toNat + 1) := by rw [τ14e]
        have z055 : (zf τ 36 0) (4 * q.toNat + 2) = τ14 (4 * q.toNat + 2) := by rw [τ14e]
        have z056 : (zf τ 36 0) (4 * q.toNat + 3) = τ14 (4 * q.toNat + 3) := by rw [τ14e]
        refine zr_iald X 44 hw52.1 (by first | with_reducible assumption | decide | omega) dX8_compact_43 rfl ?_
        show zG C V1 (1 - 1) (40 - 40) 44 [(4, .int (zI (k))), (3, .ref hp26q), (2, .ref (md (70 + q.toNat))), (1, .int (zI (q))), (0, .ref (c 60))] [.int (zI (κ (10 + q.toNat))), .ref (md 61)]
        refine zr_iload X 46 0 dX8_compact_44 rfl rfl ?_
        refine zr_iadd X 47 dX8_compact_46 rfl ?_
        refine zr_aload_n X 48 1 dX8_compact_47 rfl rfl ?_
        refine zr_iload X 50 0 dX8_compact_48 rfl rfl ?_
        refine zr_iald X 51 hI3 (by first | with_reducible assumption | decide | omega) dX8_compact_50 rfl ?_
        have zb57 := zc.b hp26c (k).toNat
        obtain ⟨c858f, c858, c858c⟩ := hI1.2.1
        refine zr_iast X 52 c858 (by first | with_reducible assumption | decide | omega) dX8_compact_51 rfl ?_
        obtain ⟨cm59h, cm59f⟩ := hI1.setTape (f := zf c858f ((κ (10 + q.toNat)) + k).toNat (hp26f (k).toNat)) (zc_zf c858c (by first | with_reducible assumption | decide | omega))
        obtain ⟨cm59V, cm59e⟩ : ∃ zz9 : zV, zz9 = (zu V1 (md 61) 61 (za Γ.2.1 0 ((κ 1).toNat) (zf c858f ((κ (10 + q.toNat)) + k).toNat (hp26f (k).toNat)))) := ⟨_, rfl⟩
        have cm59m : zMo Γ cm59V c md (τ14) κ E := by
          rw [cm59e]
          exact cm59h
        have cm59g : zag (fun x => x ≠ 61) V1 cm59V := by
          rw [cm59e]
          exact cm59f
        refine zr_view (cm59e).symm ?_
        have lc60 := cm59g _ _ _ hI3 (by first | with_reducible assumption | decide | omega)
        have fx61 : zfm V cm59V := zag.tr hI2 (cm59g.mono (fun t ht => by omega))
        show zG C cm59V (1 - 1) (40 - 40) 52 [(4, .int (zI (k))), (3, .ref hp26q), (2, .ref (md (70 + q.toNat))), (1, .int (zI (q))), (0, .ref (c 60))] []
        refine zr_iinc X 55 0 [(4, .int (zI (k + 1))), (3, .ref hp26q), (2, .ref (md (70 + q.toNat))), (1, .int (zI (q))), (0, .ref (c 60))] dX8_compact_52 rfl rfl (by decide) rfl ?_
        refine zr_goto X 30 dX8_compact_55 rfl ?_
        exact ih _ (by first | with_reducible assumption | decide | omega) cm59V (k + 1) ⟨cm59m, fx61, lc60, by omega, by omega⟩ rfl
    exact loop _ V25 0 ⟨hp26m, fx27, hp26h, by omega, by omega⟩ rfl
set_option maxRecDepth 100000 in
set_option maxHeartbeats 4000000 in
theorem m_X8_position (l : Launch) (Γ : zGam) {V : zV} {c md : Nat → Nat} {τ κ : Nat → Int} {E : Int} {q : Int} (hM : zMo Γ V c md τ κ E) (hq : -2147483648 ≤ q ∧ q ≤ 2147483647) : zM l Γ 4 yX8_position wsX8_position 0 0 V [.ref (c 60), .int (zI (q))] (fun rv V' => ∃ (y : Int) (md' : Nat → Nat) (τ' κ' : Nat → Int), rv = some (.int (zI y)) ∧ zMo Γ V' c md' τ' κ' (E + 40) ∧ zfm V V' ∧ ((¬ (0 ≤ q ∧ q ≤ 5) ∧ y = 0 ∧ τ' = zf τ 36 1) ∨ ((0 ≤ q ∧ q ≤ 5) ∧ ¬ (True) ∧ y = 0 ∧ τ' = zf τ 36 2) ∨ ((0 ≤ q ∧ q ≤ 5) ∧ (True) ∧ (y = (zf τ 36 0) (4 * q.toNat + 2) ∧ τ' = (zf τ 36 0))))) := by
  have w0 : Cond.fieldLink RX8 14 "SashwordsModel" "windows" "[[I" ∈ wsX8_position := by decide +kernel
  have iX8 : ∀ w ∈ u_ws RX8 TX8 11, w ∈ wsX8_position := by decide +kernel
  refine zM_of (cc := cX8_position) (nL := 2) (ret := (some .int)) (own := RX8) (by decide +kernel) rfl rfl (Nat.le_of_ble_eq_true rfl) (fun C X hi0 => ?_)
  have nn1 : 0 ≤ κ 0 ∧ κ 0 ≤ κ 1 ∧ κ 0 ≤ E ∧ κ 1 ≤ 7000 := hM.n.1
  show zG C V 0 0 0 [(0, .ref (c 60)), (1, .int (zI (q)))] []
  refine zr_aload_n X 1 0 dX8_position_0 rfl rfl ?_
  refine zr_iload_n X 2 1 dX8_position_1 rfl rfl ?_
  refine zr_callS (kc' := 0) (ks' := 0) X 5 1 (m_X8_isNoWindow l Γ (V := V) (x := q) (by first | with_reducible assumption | decide | omega)) gX8_position_X8_isNoWindow rfl (by decide +kernel) rfl (by decide) rfl (Nat.le_of_ble_eq_true rfl) dX8_position_2 rfl (by first | with_reducible assumption | decide | omega) (by first | with_reducible assumption | decide | omega) (fun rv2 V3 hp4 => ?_)
  obtain ⟨⟨no5, no5e, no5a⟩, no5v⟩ := hp4
  rw [no5e, no5v]
  show zG C V 0 0 5 [(0, .ref (c 60)), (1, .int (zI (q)))] [.int (zI (no5)), .ref (c 60)]
  refine zr_iconst X 6 dX8_position_5 rfl ?_
  refine zr_callVe (kc' := 0) (ks' := 0) X 9 2 (m_X8_isThrown l Γ hM (a := no5) (b := 0) (by first | with_reducible assumption | decide | omega) (by first | with_reducible assumption | decide | omega)) gX8_position_X8_isThrown rfl (by decide +kernel) rfl (by decide) ⟨_, _, hM.1⟩ rfl rfl (Nat.le_of_ble_eq_true rfl) dX8_position_6 rfl (by first | with_reducible assumption | decide | omega) (by first | with_reducible assumption | decide | omega) (fun rv6 V7 hp8 => ?_)
  obtain ⟨⟨hp8x, hp8k, hp8e, hp8c, hp8m⟩, hp8g⟩ := hp8
  rw [hp8e]
  rcases hp8c with ⟨tc9a, tc9k, tc9x⟩ | ⟨tc9a, tc9b, tc9k, tc9x⟩ | ⟨tc9a, tc9b, tc9k, tc9x⟩
  · skip
    subst tc9k tc9x
    have fx10 : zfm V V7 := (hp8g.mono (fun t ht => by omega))
    obtain ⟨τ11, τ11e⟩ : ∃ zz9 : Nat → Int, zz9 = zf τ 36 1 := ⟨_, rfl⟩
    rw [← τ11e] at hp8m
    show zG C V7 0 0 9 [(0, .ref (c 60)), (1, .int (zI (q)))] [.int (zI (1))]
    refine zr_if_eq X 16 12 dX8_position_9 rfl rfl (by first | with_reducible assumption | decide | omega) (fun bq12 => absurd bq12 (by first | with_reducible assumption | decide | omega)) (fun bq12 => ?_)
    refine zr_iconst X 13 dX8_position_12 rfl ?_
    refine zr_goto X 24 dX8_position_13 rfl ?_
    exact zr_iret X rfl ⟨0, md, τ11, κ, rfl, hp8m.le (by first | with_reducible assumption | decide | omega), fx10, Or.inl ⟨by omega, rfl, by rw [τ11e]⟩⟩ dX8_position_24
  · exact absurd tc9b (by decide)
  · skip
    subst tc9k tc9x
    have fx13 : zfm V V7 := (hp8g.mono (fun t ht => by omega))
    obtain ⟨τ14, τ14e⟩ : ∃ zz9 : Nat → Int, zz9 = zf τ 36 0 := ⟨_, rfl⟩
    rw [← τ14e] at hp8m
    show zG C V7 0 0 9 [(0, .ref (c 60)), (1, .int (zI (q)))] [.int (zI (0))]
    refine zr_if_eq X 16 12 dX8_position_9 rfl rfl (by first | with_reducible assumption | decide | omega) (fun bq15 => ?_) (fun bq15 => absurd bq15 (by first | with_reducible assumption | decide | omega))
    refine zr_aload_n X 17 0 dX8_position_16 rfl rfl ?_
    have c816 : V7 (c 60) = some (60, .inr (9, [.ref (md 61), .int (zI (κ 0)), .ref (c 62), .ref (md 63), .ref (md 64), .ref (c 65), .int (zI (τ14 26)), .int (zI (τ14 28)), .int (zI (τ14 29)), .ref (c 66), .int (zI (τ14 36))])) := hp8m.1
    refine zr_get X 20 9 2 c816 rfl iX8 (by decide) w0 rfl rfl dX8_position_17 rfl ?_
    refine zr_iload_n X 21 1 dX8_position_20 rfl rfl ?_
    have c817 : V7 (c 62) = some (62, zq Γ.2.1 4 6 (fun i => some (md (70 + i)))) := hp8m.2.2.1
    refine zr_aaldI X 22 (.ref (md (70 + q.toNat))) c817 (by first | with_reducible assumption | decide | omega) rfl dX8_position_21 rfl ?_
    refine zr_iconst X 23 dX8_position_22 rfl ?_
    have hw19 := hp8m.w (i := q.toNat) (by first | with_reducible assumption | decide | omega)
    have hw19r := hw19.rg
    have z020 : (zf τ 36 0) (4 * q.toNat) = τ14 (4 * q.toNat) := by rw [τ14e]
    have z021 : (zf τ 36 0) (4 * q.toNat + 1) = τ14 (4 * q.toNat + 1) := by rw [τ14e]
    have z022 : (zf τ 36 0) (4 * q.toNat + 2) = τ14 (4 * q.toNat + 2) := by rw [τ14e]
    have z023 : (zf τ 36 0) (4 * q.toNat + 3) = τ14 (4 * q.toNat + 3) := by rw [τ14e]
    refine zr_iald X 24 hw19.1 (by first | with_reducible assumption | decide | omega) dX8_position_23 rfl ?_
    show zG C V7 0 0 24 [(0, .ref (c 60)), (1, .int (zI (q)))] [.int (zI (τ14 (4 * q.toNat + 2)))]
    exact zr_iret X rfl ⟨τ14 (4 * q.toNat + 2), md, τ14, κ, rfl, hp8m.le (by first | with_reducible assumption | decide | omega), fx13, Or.inr (Or.inr ⟨by omega, trivial, ⟨by omega, by rw [τ14e]⟩⟩)⟩ dX8_position_24
set_option maxRecDepth 100000 in
set_option maxHeartbeats 4000000 in
theorem m_X8_limit (l : Launch) (Γ : zGam) {V : zV} {c md : Nat → Nat} {τ κ : Nat → Int} {E : Int} {q : Int} (hM : zMo Γ V c md τ κ E) (hq : -2147483648 ≤ q ∧ q ≤ 2147483647) : zM l Γ 4 yX8_limit wsX8_limit 0 0 V [.ref (c 60), .int (zI (q))] (fun rv V' => ∃ (y : Int) (md' : Nat → Nat) (τ' κ' : Nat → Int), rv = some (.int (zI y)) ∧ zMo Γ V' c md' τ' κ' (E + 40) ∧ zfm V V' ∧ ((¬ (0 ≤ q ∧ q ≤ 5) ∧ y = 0 ∧ τ' = zf τ 36 1) ∨ ((0 ≤ q ∧ q ≤ 5) ∧ ¬ (True) ∧ y = 0 ∧ τ' = zf τ 36 2) ∨ ((0 ≤ q ∧ q ≤ 5) ∧ (True) ∧ (y = (zf τ 36 0) (4 * q.toNat + 1) ∧ τ' = (zf τ 36 0))))) := by
  have w0 : Cond.fieldLink RX8 14 "SashwordsModel" "windows" "[[I" ∈ wsX8_limit := by decide +kernel
  have iX8 : ∀ w ∈ u_ws RX8 TX8 11, w ∈ wsX8_limit := by decide +kernel
  refine zM_of (cc := cX8_limit) (nL := 2) (ret := (some .int)) (own := RX8) (by decide +kernel) rfl rfl (Nat.le_of_ble_eq_true rfl) (fun C X hi0 => ?_)
  have nn1 : 0 ≤ κ 0 ∧ κ 0 ≤ κ 1 ∧ κ 0 ≤ E ∧ κ 1 ≤ 7000 := hM.n.1
  show zG C V 0 0 0 [(0, .ref (c 60)), (1, .int (zI (q)))] []
  refine zr_aload_n X 1 0 dX8_limit_0 rfl rfl ?_
  refine zr_iload_n X 2 1 dX8_limit_1 rfl rfl ?_
  refine zr_callS (kc' := 0) (ks' := 0) X 5 1 (m_X8_isNoWindow l Γ (V := V) (x := q) (by first | with_reducible assumption | decide | omega)) gX8_limit_X8_isNoWindow rfl (by decide +kernel) rfl (by decide) rfl (Nat.le_of_ble_eq_true rfl) dX8_limit_2 rfl (by first | with_reducible assumption | decide | omega) (by first | with_reducible assumption | decide | omega) (fun rv2 V3 hp4 => ?_)
  obtain ⟨⟨no5, no5e, no5a⟩, no5v⟩ := hp4
  rw [no5e, no5v]
  show zG C V 0 0 5 [(0, .ref (c 60)), (1, .int (zI (q)))] [.int (zI (no5)), .ref (c 60)]
  refine zr_iconst X 6 dX8_limit_5 rfl ?_
  refine zr_callVe (kc' := 0) (ks' := 0) X 9 2 (m_X8_isThrown l Γ hM (a := no5) (b := 0) (by first | with_reducible assumption | decide | omega) (by first | with_reducible assumption | decide | omega)) gX8_limit_X8_isThrown rfl (by decide +kernel) rfl (by decide) ⟨_, _, hM.1⟩ rfl rfl (Nat.le_of_ble_eq_true rfl) dX8_limit_6 rfl (by first | with_reducible assumption | decide | omega) (by first | with_reducible assumption | decide | omega) (fun rv6 V7 hp8 => ?_)
  obtain ⟨⟨hp8x, hp8k, hp8e, hp8c, hp8m⟩, hp8g⟩ := hp8
  rw [hp8e]
  rcases hp8c with ⟨tc9a, tc9k, tc9x⟩ | ⟨tc9a, tc9b, tc9k, tc9x⟩ | ⟨tc9a, tc9b, tc9k, tc9x⟩
  · skip
    subst tc9k tc9x
    have fx10 : zfm V V7 := (hp8g.mono (fun t ht => by omega))
    obtain ⟨τ11, τ11e⟩ : ∃ zz9 : Nat → Int, zz9 = zf τ 36 1 := ⟨_, rfl⟩
    rw [← τ11e] at hp8m
    show zG C V7 0 0 9 [(0, .ref (c 60)), (1, .int (zI (q)))] [.int (zI (1))]
    refine zr_if_eq X 16 12 dX8_limit_9 rfl rfl (by first | with_reducible assumption | decide | omega) (fun bq12 => absurd bq12 (by first | with_reducible assumption | decide | omega)) (fun bq12 => ?_)
    refine zr_iconst X 13 dX8_limit_12 rfl ?_
    refine zr_goto X 24 dX8_limit_13 rfl ?_
    exact zr_iret X rfl ⟨0, md, τ11, κ, rfl, hp8m.le (by first | with_reducible assumption | decide | omega), fx10, Or.inl ⟨by omega, rfl, by rw [τ11e]⟩⟩ dX8_limit_24
  · exact absurd tc9b (by decide)
  · skip
    subst tc9k tc9x
    have fx13 : zfm V V7 := (hp8g.mono (fun t ht => by omega))
    obtain ⟨τ14, τ14e⟩ : ∃ zz9 : Nat → Int, zz9 = zf τ 36 0 := ⟨_, rfl⟩
    rw [← τ14e] at hp8m
    show zG C V7 0 0 9 [(0, .ref (c 60)), (1, .int (zI (q)))] [.int (zI (0))]
    refine zr_if_eq X 16 12 dX8_limit_9 rfl rfl (by first | with_reducible assumption | decide | omega) (fun bq15 => ?_) (fun bq15 => absurd bq15 (by first | with_reducible assumption | decide | omega))
    refine zr_aload_n X 17 0 dX8_limit_16 rfl rfl ?_
    have c816 : V7 (c 60) = some (60, .inr (9, [.ref (md 61), .int (zI (κ 0)), .ref (c 62), .ref (md 63), .ref (md 64), .ref (c 65), .int (zI (τ14 26)), .int (zI (τ14 28)), .int (zI (τ14 29)), .ref (c 66), .int (zI (τ14 36))])) := hp8m.1
    refine zr_get X 20 9 2 c816 rfl iX8 (by decide) w0 rfl rfl dX8_limit_17 rfl ?_
    refine zr_iload_n X 21 1 dX8_limit_20 rfl rfl ?_
    have c817 : V7 (c 62) = some (62, zq Γ.2.1 4 6 (fun i => some (md (70 + i)))) := hp8m.2.2.1
    refine zr_aaldI X 22 (.ref (md (70 + q.toNat))) c817 (by first | with_reducible assumption | decide | omega) rfl dX8_limit_21 rfl ?_
    refine zr_iconst X 23 dX8_limit_22 rfl ?_
    have hw19 := hp8m.w (i := q.toNat) (by first | with_reducible assumption | decide | omega)
    have hw19r := hw19.rg
    have z020 : (zf τ 36 0) (4 * q.toNat) = τ14 (4 * q.toNat) := by rw [τ14e]
    have z021 : (zf τ 36 0) (4 * q.toNat + 1) = τ14 (4 * q.toNat + 1) := by rw [τ14e]
    have z022 : (zf τ 36 0) (4 * q.toNat + 2) = τ14 (4 * q.toNat + 2) := by rw [τ14e]
    have z023 : (zf τ 36 0) (4 * q.toNat + 3) = τ14 (4 * q.toNat + 3) := by rw [τ14e]
    refine zr_iald X 24 hw19.1 (by first | with_reducible assumption | decide | omega) dX8_limit_23 rfl ?_
    show zG C V7 0 0 24 [(0, .ref (c 60)), (1, .int (zI (q)))] [.int (zI (τ14 (4 * q.toNat + 1)))]
    exact zr_iret X rfl ⟨τ14 (4 * q.toNat + 1), md, τ14, κ, rfl, hp8m.le (by first | with_reducible assumption | decide | omega), fx13, Or.inr (Or.inr ⟨by omega, trivial, ⟨by omega, by rw [τ14e]⟩⟩)⟩ dX8_limit_24
set_option maxRecDepth 100000 in
set_option maxHeartbeats 4000000 in
theorem m_X8_capacity (l : Launch) (Γ : zGam) {V : zV} {c md : Nat → Nat} {τ κ : Nat → Int} {E : Int} {q : Int} (hM : zMo Γ V c md τ κ E) (hq : -2147483648 ≤ q ∧ q ≤ 2147483647) : zM l Γ 4 yX8_capacity wsX8_capacity 0 0 V [.ref (c 60), .int (zI (q))] (fun rv V' => ∃ (y : Int) (md' : Nat → Nat) (τ' κ' : Nat → Int), rv = some (.int (zI y)) ∧ zMo Γ V' c md' τ' κ' (E + 40) ∧ zfm V V' ∧ ((¬ (0 ≤ q ∧ q ≤ 5) ∧ y = 0 ∧ τ' = zf τ 36 1) ∨ ((0 ≤ q ∧ q ≤ 5) ∧ ¬ (True) ∧ y = 0 ∧ τ' = zf τ 36 2) ∨ ((0 ≤ q ∧ q ≤ 5) ∧ (True) ∧ (y = (zf τ 36 0) (4 * q.toNat) ∧ τ' = (zf τ 36 0))))) := by
  have w0 : Cond.fieldLink RX8 14 "SashwordsModel" "windows" "[[I" ∈ wsX8_capacity := by decide +kernel
  have iX8 : ∀ w ∈ u_ws RX8 TX8 11, w ∈ wsX8_capacity := by decide +kernel
  refine zM_of (cc := cX8_capacity) (nL := 2) (ret := (some .int)) (own := RX8) (by decide +kernel) rfl rfl (Nat.le_of_ble_eq_true rfl) (fun C X hi0 => ?_)
  have nn1 : 0 ≤ κ 0 ∧ κ 0 ≤ κ 1 ∧ κ 0 ≤ E ∧ κ 1 ≤ 7000 := hM.n.1
  show zG C V 0 0 0 [(0, .ref (c 60)), (1, .int (zI (q)))] []
  refine zr_aload_n X 1 0 dX8_capacity_0 rfl rfl ?_
  refine zr_iload_n X 2 1 dX8_capacity_1 rfl rfl ?_
  refine zr_callS (kc' := 0) (ks' := 0) X 5 1 (m_X8_isNoWindow l Γ (V := V) (x := q) (by first | with_reducible assumption | decide | omega)) gX8_capacity_X8_isNoWindow rfl (by decide +kernel) rfl (by decide) rfl (Nat.le_of_ble_eq_true rfl) dX8_capacity_2 rfl (by first | with_reducible assumption | decide | omega) (by first | with_reducible assumption | decide | omega) (fun rv2 V3 hp4 => ?_)
  obtain ⟨⟨no5, no5e, no5a⟩, no5v⟩ := hp4
  rw [no5e, no5v]
  show zG C V 0 0 5 [(0, .ref (c 60)), (1, .int (zI (q)))] [.int (zI (no5)), .ref (c 60)]
  refine zr_iconst X 6 dX8_capacity_5 rfl ?_
  refine zr_callVe (kc' := 0) (ks' := 0) X 9 2 (m_X8_isThrown l Γ hM (a := no5) (b := 0) (by first | with_reducible assumption | decide | omega) (by first | with_reducible assumption | decide | omega)) gX8_capacity_X8_isThrown rfl (by decide +kernel) rfl (by decide) ⟨_, _, hM.1⟩ rfl rfl (Nat.le_of_ble_eq_true rfl) dX8_capacity_6 rfl (by first | with_reducible assumption | decide | omega) (by first | with_reducible assumption | decide | omega) (fun rv6 V7 hp8 => ?_)
  obtain ⟨⟨hp8x, hp8k, hp8e, hp8c, hp8m⟩, hp8g⟩ := hp8
  rw [hp8e]
  rcases hp8c with ⟨tc9a, tc9k, tc9x⟩ | ⟨tc9a, tc9b, tc9k, tc9x⟩ | ⟨tc9a, tc9b, tc9k, tc9x⟩
  · skip
    subst tc9k tc9x
    have fx10 : zfm V V7 := (hp8g.mono (fun t ht => by omega))
    obtain ⟨τ11, τ11e⟩ : ∃ zz9 : Nat → Int, zz9 = zf τ 36 1 := ⟨_, rfl⟩
    rw [← τ11e] at hp8m
    show zG C V7 0 0 9 [(0, .ref (c 60)), (1, .int (zI (q)))] [.int (zI (1))]
    refine zr_if_eq X 16 12 dX8_capacity_9 rfl rfl (by first | with_reducible assumption | decide | omega) (fun bq12 => absurd bq12 (by first | with_reducible assumption | decide | omega)) (fun bq12 => ?_)
    refine zr_iconst X 13 dX8_capacity_12 rfl ?_
    refine zr_goto X 24 dX8_capacity_13 rfl ?_
    exact zr_iret X rfl ⟨0, md, τ11, κ, rfl, hp8m.le (by first | with_reducible assumption | decide | omega), fx10, Or.inl ⟨by omega, rfl, by rw [τ11e]⟩⟩ dX8_capacity_24
  · exact absurd tc9b (by decide)
  · skip
    subst tc9k tc9x
    have fx13 : zfm V V7 := (hp8g.mono (fun t ht => by omega))
    obtain ⟨τ14, τ14e⟩ : ∃ zz9 : Nat → Int, zz9 = zf τ 36 0 := ⟨_, rfl⟩
    rw [← τ14e] at hp8m
    show zG C V7 0 0 9 [(0, .ref (c 60)), (1, .int (zI (q)))] [.int (zI (0))]
    refine zr_if_eq X 16 12 dX8_capacity_9 rfl rfl (by first | with_reducible assumption | decide | omega) (fun bq15 => ?_) (fun bq15 => absurd bq15 (by first | with_reducible assumption | decide | omega))
    refine zr_aload_n X 17 0 dX8_capacity_16 rfl rfl ?_
    have c816 : V7 (c 60) = some (60, .inr (9, [.ref (md 61), .int (zI (κ 0)), .ref (c 62), .ref (md 63), .ref (md 64), .ref (c 65), .int (zI (τ14 26)), .int (zI (τ14 28)), .int (zI (τ14 29)), .ref (c 66), .int (zI (τ14 36))])) := hp8m.1
    refine zr_get X 20 9 2 c816 rfl iX8 (by decide) w0 rfl rfl dX8_capacity_17 rfl ?_
    refine zr_iload_n X 21 1 dX8_capacity_20 rfl rfl ?_
    have c817 : V7 (c 62) = some (62, zq Γ.2.1 4 6 (fun i => some (md (70 + i)))) := hp8m.2.2.1
    refine zr_aaldI X 22 (.ref (md (70 + q.toNat))) c817 (by first | with_reducible assumption | decide | omega) rfl dX8_capacity_21 rfl ?_
    refine zr_iconst X 23 dX8_capacity_22 rfl ?_
    have hw19 := hp8m.w (i := q.toNat) (by first | with_reducible assumption | decide | omega)
    have hw19r := hw19.rg
    have z020 : (zf τ 36 0) (4 * q.toNat) = τ14 (4 * q.toNat) := by rw [τ14e]
    have z021 : (zf τ 36 0) (4 * q.toNat + 1) = τ14 (4 * q.toNat + 1) := by rw [τ14e]
    have z022 : (zf τ 36 0) (4 * q.toNat + 2) = τ14 (4 * q.toNat + 2) := by rw [τ14e]
    have z023 : (zf τ 36 0) (4 * q.toNat + 3) = τ14 (4 * q.toNat + 3) := by rw [τ14e]
    refine zr_iald X 24 hw19.1 (by first | with_reducible assumption | decide | omega) dX8_capacity_23 rfl ?_
    show zG C V7 0 0 24 [(0, .ref (c 60)), (1, .int (zI (q)))] [.int (zI (τ14 (4 * q.toNat)))]
    exact zr_iret X rfl ⟨τ14 (4 * q.toNat), md, τ14, κ, rfl, hp8m.le (by first | with_reducible assumption | decide | omega), fx13, Or.inr (Or.inr ⟨by omega, trivial, ⟨by omega, by rw [τ14e]⟩⟩)⟩ dX8_capacity_24
set_option maxRecDepth 100000 in
set_option maxHeartbeats 4000000 in
theorem m_X8_left (l : Launch) (Γ : zGam) {V : zV} {c md : Nat → Nat} {τ κ : Nat → Int} {E : Int} {q z : Int} (hM : zMo Γ V c md τ κ E) (hq : -2147483648 ≤ q ∧ q ≤ 2147483647) (hz : -2147483648 ≤ z ∧ z ≤ 2147483647) : zM l Γ 4 yX8_left wsX8_left 0 0 V [.ref (c 60), .int (zI (q)), .int (zI (z))] (fun rv V' => ∃ (y : Int) (md' : Nat → Nat) (τ' κ' : Nat → Int), rv = some (.int (zI y)) ∧ zMo Γ V' c md' τ' κ' (E + 40) ∧ zfm V V' ∧ ((¬ (0 ≤ q ∧ q ≤ 5) ∧ y = 0 ∧ τ' = zf τ 36 1) ∨ ((0 ≤ q ∧ q ≤ 5) ∧ ¬ (0 ≤ z ∧ z ≤ 1) ∧ y = 0 ∧ τ' = zf τ 36 2) ∨ ((0 ≤ q ∧ q ≤ 5) ∧ (0 ≤ z ∧ z ≤ 1) ∧ (y = (zf τ 36 0) (4 * q.toNat + 1) - (zf τ 36 0) (4 * q.toNat + 2) ∧ τ' = (zf τ 36 0))))) := by
  have w0 : Cond.fieldLink RX8 14 "SashwordsModel" "windows" "[[I" ∈ wsX8_left := by decide +kernel
  have iX8 : ∀ w ∈ u_ws RX8 TX8 11, w ∈ wsX8_left := by decide +kernel
  refine zM_of (cc := cX8_left) (nL := 3) (ret := (some .int)) (own := RX8) (by decide +kernel) rfl rfl (Nat.le_of_ble_eq_true rfl) (fun C X hi0 => ?_)
  have nn1 : 0 ≤ κ 0 ∧ κ 0 ≤ κ 1 ∧ κ 0 ≤ E ∧ κ 1 ≤ 7000 := hM.n.1
  show zG C V 0 0 0 [(0, .ref (c 60)), (1, .int (zI (q))), (2, .int (zI (z)))] []
  refine zr_aload_n X 1 0 dX8_left_0 rfl rfl ?_
  refine zr_iload_n X 2 1 dX8_left_1 rfl rfl ?_
  refine zr_callS (kc' := 0) (ks' := 0) X 5 1 (m_X8_isNoWindow l Γ (V := V) (x := q) (by first | with_reducible assumption | decide | omega)) gX8_left_X8_isNoWindow rfl (by decide +kernel) rfl (by decide) rfl (Nat.le_of_ble_eq_true rfl) dX8_left_2 rfl (by first | with_reducible assumption | decide | omega) (by first | with_reducible assumption | decide | omega) (fun rv2 V3 hp4 => ?_)
  obtain ⟨⟨no5, no5e, no5a⟩, no5v⟩ := hp4
  rw [no5e, no5v]
  show zG C V 0 0 5 [(0, .ref (c 60)), (1, .int (zI (q))), (2, .int (zI (z)))] [.int (zI (no5)), .ref (c 60)]
  refine zr_iload_n X 6 2 dX8_left_5 rfl rfl ?_
  refine zr_iconst X 7 dX8_left_6 rfl ?_
  refine zr_iconst X 8 dX8_left_7 rfl ?_
  refine zr_callS (kc' := 0) (ks' := 0) X 11 3 (m_X8_isNo l Γ (V := V) (x := z) (a := 0) (b := 1) (by first | with_reducible assumption | decide | omega) (by first | with_reducible assumption | decide | omega) (by first | with_reducible assumption | decide | omega)) gX8_left_X8_isNo rfl (by decide +kernel) rfl (by decide) rfl (Nat.le_of_ble_eq_true rfl) dX8_left_8 rfl (by first | with_reducible assumption | decide | omega) (by first | with_reducible assumption | decide | omega) (fun rv6 V7 hp8 => ?_)
  obtain ⟨⟨no9, no9e, no9a⟩, no9v⟩ := hp8
  rw [no9e, no9v]
  show zG C V 0 0 11 [(0, .ref (c 60)), (1, .int (zI (q))), (2, .int (zI (z)))] [.int (zI (no9)), .int (zI (no5)), .ref (c 60)]
  refine zr_callVe (kc' := 0) (ks' := 0) X 14 2 (m_X8_isThrown l Γ hM (a := no5) (b := no9) (by first | with_reducible assumption | decide | omega) (by first | with_reducible assumption | decide | omega)) gX8_left_X8_isThrown rfl (by decide +kernel) rfl (by decide) ⟨_, _, hM.1⟩ rfl rfl (Nat.le_of_ble_eq_true rfl) dX8_left_11 rfl (by first | with_reducible assumption | decide | omega) (by first | with_reducible assumption | decide | omega) (fun rv10 V11 hp12 => ?_)
  obtain ⟨⟨hp12x, hp12k, hp12e, hp12c, hp12m⟩, hp12g⟩ := hp12
  rw [hp12e]
  rcases hp12c with ⟨tc13a, tc13k, tc13x⟩ | ⟨tc13a, tc13b, tc13k, tc13x⟩ | ⟨tc13a, tc13b, tc13k, tc13x⟩
  · skip
    subst tc13k tc13x
    have fx14 : zfm V V11 := (hp12g.mono (fun t ht => by omega))
    obtain ⟨τ15, τ15e⟩ : ∃ zz9 : Nat → Int, zz9 = zf τ 36 1 := ⟨_, rfl⟩
    rw [← τ15e] at hp12m
    show zG C V11 0 0 14 [(0, .ref (c 60)), (1, .int (zI (q))), (2, .int (zI (z)))] [.int (zI (1))]
    refine zr_if_eq X 21 17 dX8_left_14 rfl rfl (by first | with_reducible assumption | decide | omega) (fun bq16 => absurd bq16 (by first | with_reducible assumption | decide | omega)) (fun bq16 => ?_)
    refine zr_iconst X 18 dX8_left_17 rfl ?_
    refine zr_goto X 30 dX8_left_18 rfl ?_
    exact zr_iret X rfl ⟨0, md, τ15, κ, rfl, hp12m.le (by first | with_reducible assumption | decide | omega), fx14, Or.inl ⟨by omega, rfl, by rw [τ15e]⟩⟩ dX8_left_30
  · skip
    subst tc13k tc13x
    have fx17 : zfm V V11 := (hp12g.mono (fun t ht => by omega))
    obtain ⟨τ18, τ18e⟩ : ∃ zz9 : Nat → Int, zz9 = zf τ 36 2 := ⟨_, rfl⟩
    rw [← τ18e] at hp12m
    show zG C V11 0 0 14 [(0, .ref (c 60)), (1, .int (zI (q))), (2, .int (zI (z)))] [.int (zI (1))]
    refine zr_if_eq X 21 17 dX8_left_14 rfl rfl (by first | with_reducible assumption | decide | omega) (fun bq19 => absurd bq19 (by first | with_reducible assumption | decide | omega)) (fun bq19 => ?_)
    refine zr_iconst X 18 dX8_left_17 rfl ?_
    refine zr_goto X 30 dX8_left_18 rfl ?_
    exact zr_iret X rfl ⟨0, md, τ18, κ, rfl, hp12m.le (by first | with_reducible assumption | decide | omega), fx17, Or.inr (Or.inl ⟨by omega, by omega, rfl, by rw [τ18e]⟩)⟩ dX8_left_30
  · skip
    subst tc13k tc13x
    have fx20 : zfm V V11 := (hp12g.mono (fun t ht => by omega))
    obtain ⟨τ21, τ21e⟩ : ∃ zz9 : Nat → Int, zz9 = zf τ 36 0 := ⟨_, rfl⟩
    rw [← τ21e] at hp12m
    show zG C V11 0 0 14 [(0, .ref (c 60)), (1, .int (zI (q))), (2, .int (zI (z)))] [.int (zI (0))]
    refine zr_if_eq X 21 17 dX8_left_14 rfl rfl (by first | with_reducible assumption | decide | omega) (fun bq22 => ?_) (fun bq22 => absurd bq22 (by first | with_reducible assumption | decide | omega))
    refine zr_aload_n X 22 0 dX8_left_21 rfl rfl ?_
    have c823 : V11 (c 60) = some (60, .inr (9, [.ref (md 61), .int (zI (κ 0)), .ref (c 62), .ref (md 63), .ref (md 64), .ref (c 65), .int (zI (τ21 26)), .int (zI (τ21 28)), .int (zI (τ21 29)), .ref (c 66), .int (zI (τ21 36))])) := hp12m.1
    refine zr_get X 25 9 2 c823 rfl iX8 (by decide) w0 rfl rfl dX8_left_22 rfl ?_
    refine zr_iload_n X 26 1 dX8_left_25 rfl rfl ?_
    have c824 : V11 (c 62) = some (62, zq Γ.2.1 4 6 (fun i => some (md (70 + i)))) := hp12m.2.2.1
    refine zr_aaldI X 27 (.ref (md (70 + q.toNat))) c824 (by first | with_reducible assumption | decide | omega) rfl dX8_left_26 rfl ?_
    have hw26 := hp12m.w (i := q.toNat) (by first | with_reducible assumption | decide | omega)
    have hw26r := hw26.rg
    have z027 : (zf τ 36 0) (4 * q.toNat) = τ21 (4 * q.toNat) := by rw [τ21e]
    have z028 : (zf τ 36 0) (4 * q.toNat + 1) = τ21 (4 * q.toNat + 1) := by rw [τ21e]
    have z029 : (zf τ 36 0) (4 * q.toNat + 2) = τ21 (4 * q.toNat + 2) := by rw [τ21e]
    have z030 : (zf τ 36 0) (4 * q.toNat + 3) = τ21 (4 * q.toNat + 3) := by rw [τ21e]
    refine zr_callS (kc' := 0) (ks' := 0) X 30 1 (m_X8_length l Γ hw26.1 (by first | with_reducible assumption | decide | omega)) gX8_left_X8_length rfl (by decide +kernel) rfl (by decide) rfl (Nat.le_of_ble_eq_true rfl) dX8_left_27 rfl (by first | with_reducible assumption | decide | omega) (by first | with_reducible assumption | decide | omega) (fun rv31 V32 hp33 => ?_)
    rw [hp33.1, hp33.2]
    show zG C V11 0 0 30 [(0, .ref (c 60)), (1, .int (zI (q))), (2, .int (zI (z)))] [.int (zI ((τ21 (4 * q.toNat + 1)) - (τ21 (4 * q.toNat + 2))))]
    exact zr_iret X rfl ⟨(τ21 (4 * q.toNat + 1)) - (τ21 (4 * q.toNat + 2)), md, τ21, κ, rfl, hp12m.le (by first | with_reducible assumption | decide | omega), fx20, Or.inr (Or.inr ⟨by omega, by omega, ⟨by omega, by rw [τ21e]⟩⟩)⟩ dX8_left_30
set_option maxRecDepth 100000 in
set_option maxHeartbeats 4000000 in
theorem m_X8_marked (l : Launch) (Γ : zGam) {V : zV} {c md : Nat → Nat} {τ κ : Nat → Int} {E : Int} {q : Int} (hM : zMo Γ V c md τ κ E) (hq : -2147483648 ≤ q ∧ q ≤ 2147483647) : zM l Γ 4 yX8_marked wsX8_marked 0 0 V [.ref (c 60), .int (zI (q))] (fun rv V' => ∃ (y : Int) (md' : Nat → Nat) (τ' κ' : Nat → Int), rv = some (.int (zI y)) ∧ zMo Γ V' c md' τ' κ' (E + 40) ∧ zfm V V' ∧ ((¬ (0 ≤ q ∧ q ≤ 5) ∧ y = 0 ∧ τ' = zf τ 36 1) ∨ ((0 ≤ q ∧ q ≤ 5) ∧ ¬ (True) ∧ y = 0 ∧ τ' = zf τ 36 2) ∨ ((0 ≤ q ∧ q ≤ 5) ∧ (True) ∧ (y = (zf τ 36 0) (4 * q.toNat + 3) ∧ τ' = (zf τ 36 0))))) := by
  have w0 : Cond.fieldLink RX8 14 "SashwordsModel" "windows" "[[I" ∈ wsX8_marked := by decide +kernel
  have iX8 : ∀ w ∈ u_ws RX8 TX8 11, w ∈ wsX8_marked := by decide +kernel
  refine zM_of (cc := cX8_marked) (nL := 2) (ret := (some .int)) (own := RX8) (by decide +kernel) rfl rfl (Nat.le_of_ble_eq_true rfl) (fun C X hi0 => ?_)
  have nn1 : 0 ≤ κ 0 ∧ κ 0 ≤ κ 1 ∧ κ 0 ≤ E ∧ κ 1 ≤ 7000 := hM.n.1
  show zG C V 0 0 0 [(0, .ref (c 60)), (1, .int (zI (q)))] []
  refine zr_aload_n X 1 0 dX8_marked_0 rfl rfl ?_
  refine zr_iload_n X 2 1 dX8_marked_1 rfl rfl ?_
  refine zr_callS (kc' := 0) (ks' := 0) X 5 1 (m_X8_isNoWindow l Γ (V := V) (x := q) (by first | with_reducible assumption | decide | omega)) gX8_marked_X8_isNoWindow rfl (by decide +kernel) rfl (by decide) rfl (Nat.le_of_ble_eq_true rfl) dX8_marked_2 rfl (by first | with_reducible assumption | decide | omega) (by first | with_reducible assumption | decide | omega) (fun rv2 V3 hp4 => ?_)
  obtain ⟨⟨no5, no5e, no5a⟩, no5v⟩ := hp4
  rw [no5e, no5v]
  show zG C V 0 0 5 [(0, .ref (c 60)), (1, .int (zI (q)))] [.int (zI (no5)), .ref (c 60)]
  refine zr_iconst X 6 dX8_marked_5 rfl ?_
  refine zr_callVe (kc' := 0) (ks' := 0) X 9 2 (m_X8_isThrown l Γ hM (a := no5) (b := 0) (by first | with_reducible assumption | decide | omega) (by first | with_reducible assumption | decide | omega)) gX8_marked_X8_isThrown rfl (by decide +kernel) rfl (by decide) ⟨_, _, hM.1⟩ rfl rfl (Nat.le_of_ble_eq_true rfl) dX8_marked_6 rfl (by first | with_reducible assumption | decide | omega) (by first | with_reducible assumption | decide | omega) (fun rv6 V7 hp8 => ?_)
  obtain ⟨⟨hp8x, hp8k, hp8e, hp8c, hp8m⟩, hp8g⟩ := hp8
  rw [hp8e]
  rcases hp8c with ⟨tc9a, tc9k, tc9x⟩ | ⟨tc9a, tc9b, tc9k, tc9x⟩ | ⟨tc9a, tc9b, tc9k, tc9x⟩
  · skip
    subst tc9k tc9x
    have fx10 : zfm V V7 := (hp8g.mono (fun t ht => by omega))
    obtain ⟨τ11, τ11e⟩ : ∃ zz9 : Nat → Int, zz9 = zf τ 36 1 := ⟨_, rfl⟩
    rw [← τ11e] at hp8m
    show zG C V7 0 0 9 [(0, .ref (c 60)), (1, .int (zI (q)))] [.int (zI (1))]
    refine zr_if_eq X 16 12 dX8_marked_9 rfl rfl (by first | with_reducible assumption | decide | omega) (fun bq12 => absurd bq12 (by first | with_reducible assumption | decide | omega)) (fun bq12 => ?_)
    refine zr_iconst X 13 dX8_marked_12 rfl ?_
    refine zr_goto X 25 dX8_marked_13 rfl ?_
    exact zr_iret X rfl ⟨0, md, τ11, κ, rfl, hp8m.le (by first | with_reducible assumption | decide | omega), fx10, Or.inl ⟨by omega, rfl, by rw [τ11e]⟩⟩ dX8_marked_25
  · exact absurd tc9b (by decide)
  · skip
    subst tc9k tc9x
    have fx13 : zfm V V7 := (hp8g.mono (fun t ht => by omega))
    obtain ⟨τ14, τ14e⟩ : ∃ zz9 : Nat → Int, zz9 = zf τ 36 0 := ⟨_, rfl⟩
    rw [← τ14e] at hp8m
    show zG C V7 0 0 9 [(0, .ref (c 60)), (1, .int (zI (q)))] [.int (zI (0))]
    refine zr_if_eq X 16 12 dX8_marked_9 rfl rfl (by first | with_reducible assumption | decide | omega) (fun bq15 => ?_) (fun bq15 => absurd bq15 (by first | with_reducible assumption | decide | omega))
    refine zr_aload_n X 17 0 dX8_marked_16 rfl rfl ?_
    have c816 : V7 (c 60) = some (60, .inr (9, [.ref (md 61), .int (zI (κ 0)), .ref (c 62), .ref (md 63), .ref (md 64), .ref (c 65), .int (zI (τ14 26)), .int (zI (τ14 28)), .int (zI (τ14 29)), .ref (c 66), .int (zI (τ14 36))])) := hp8m.1
    refine zr_get X 20 9 2 c816 rfl iX8 (by decide) w0 rfl rfl dX8_marked_17 rfl ?_
    refine zr_iload_n X 21 1 dX8_marked_20 rfl rfl ?_
    have c817 : V7 (c 62) = some (62, zq Γ.2.1 4 6 (fun i => some (md (70 + i)))) := hp8m.2.2.1
    refine zr_aaldI X 22 (.ref (md (70 + q.toNat))) c817 (by first | with_reducible assumption | decide | omega) rfl dX8_marked_21 rfl ?_
    have hw19 := hp8m.w (i := q.toNat) (by first | with_reducible assumption | decide | omega)
    have hw19r := hw19.rg
    have hw19d := hw19.mk
    have z020 : (zf τ 36 0) (4 * q.toNat) = τ14 (4 * q.toNat) := by rw [τ14e]
    have z021 : (zf τ 36 0) (4 * q.toNat + 1) = τ14 (4 * q.toNat + 1) := by rw [τ14e]
    have z022 : (zf τ 36 0) (4 * q.toNat + 2) = τ14 (4 * q.toNat + 2) := by rw [τ14e]
    have z023 : (zf τ 36 0) (4 * q.toNat + 3) = τ14 (4 * q.toNat + 3) := by rw [τ14e]
    refine zr_callS (kc' := 0) (ks' := 0) X 25 1 (m_X8_markOf l Γ hw19.1 (by first | with_reducible assumption | decide | omega) (by first | with_reducible assumption | decide | omega)) gX8_marked_X8_markOf rfl (by decide +kernel) rfl (by decide) rfl (Nat.le_of_ble_eq_true rfl) dX8_marked_22 rfl (by first | with_reducible assumption | decide | omega) (by first | with_reducible assumption | decide | omega) (fun rv24 V25 hp26 => ?_)
    obtain ⟨⟨y27, y27e, y270⟩, y27v⟩ := hp26
    rw [y27e, y27v]
    show zG C V7 0 0 25 [(0, .ref (c 60)), (1, .int (zI (q)))] [.int (zI (y27))]
    exact zr_iret X rfl ⟨y27, md, τ14, κ, rfl, hp8m.le (by first | with_reducible assumption | decide | omega), fx13, Or.inr (Or.inr ⟨by omega, trivial, ⟨by omega, by rw [τ14e]⟩⟩)⟩ dX8_marked_25
set_option maxRecDepth 100000 in
set_option maxHeartbeats 4000000 in
theorem m_X8_sign (l : Launch) (Γ : zGam) {V : zV} {c md : Nat → Nat} {τ κ : Nat → Int} {E : Int} {q z : Int} (hM : zMo Γ V c md τ κ E) (hq : -2147483648 ≤ q ∧ q ≤ 2147483647) (hz : -2147483648 ≤ z ∧ z ≤ 2147483647) : zM l Γ 4 yX8_sign wsX8_sign 0 0 V [.ref (c 60), .int (zI (q)), .int (zI (z))] (fun rv V' => ∃ (y : Int) (md' : Nat → Nat) (τ' κ' : Nat → Int), rv = some (.int (zI y)) ∧ zMo Γ V' c md' τ' κ' (E + 40) ∧ zfm V V' ∧ ((¬ (0 ≤ q ∧ q ≤ 5) ∧ y = 0 ∧ τ' = zf τ 36 1) ∨ ((0 ≤ q ∧ q ≤ 5) ∧ ¬ (True) ∧ y = 0 ∧ τ' = zf τ 36 2) ∨ ((0 ≤ q ∧ q ≤ 5) ∧ (True) ∧ (-9 ≤ y ∧ y ≤ 255 ∧ τ' = (zf τ 36 0))))) := by
  have w0 : Cond.fieldLink RX8 14 "SashwordsModel" "windows" "[[I" ∈ wsX8_sign := by decide +kernel
  have iX8 : ∀ w ∈ u_ws RX8 TX8 11, w ∈ wsX8_sign := by decide +kernel
  have w2 : Cond.fieldLink RX8 7 "SashwordsModel" "tape" "[I" ∈ wsX8_sign := by decide +kernel
  refine zM_of (cc := cX8_sign) (nL := 4) (ret := (some .int)) (own := RX8) (by decide +kernel) rfl rfl (Nat.le_of_ble_eq_true rfl) (fun C X hi0 => ?_)
  have nn1 : 0 ≤ κ 0 ∧ κ 0 ≤ κ 1 ∧ κ 0 ≤ E ∧ κ 1 ≤ 7000 := hM.n.1
  show zG C V 0 0 0 [(0, .ref (c 60)), (1, .int (zI (q))), (2, .int (zI (z)))] []
  refine zr_aload_n X 1 0 dX8_sign_0 rfl rfl ?_
  refine zr_iload_n X 2 1 dX8_sign_1 rfl rfl ?_
  refine zr_callS (kc' := 0) (ks' := 0) X 5 1 (m_X8_isNoWindow l Γ (V := V) (x := q) (by first | with_reducible assumption | decide | omega)) gX8_sign_X8_isNoWindow rfl (by decide +kernel) rfl (by decide) rfl (Nat.le_of_ble_eq_true rfl) dX8_sign_2 rfl (by first | with_reducible assumption | decide | omega) (by first | with_reducible assumption | decide | omega) (fun rv2 V3 hp4 => ?_)
  obtain ⟨⟨no5, no5e, no5a⟩, no5v⟩ := hp4
  rw [no5e, no5v]
  show zG C V 0 0 5 [(0, .ref (c 60)), (1, .int (zI (q))), (2, .int (zI (z)))] [.int (zI (no5)), .ref (c 60)]
  refine zr_iconst X 6 dX8_sign_5 rfl ?_
  refine zr_callVe (kc' := 0) (ks' := 0) X 9 2 (m_X8_isThrown l Γ hM (a := no5) (b := 0) (by first | with_reducible assumption | decide | omega) (by first | with_reducible assumption | decide | omega)) gX8_sign_X8_isThrown rfl (by decide +kernel) rfl (by decide) ⟨_, _, hM.1⟩ rfl rfl (Nat.le_of_ble_eq_true rfl) dX8_sign_6 rfl (by first | with_reducible assumption | decide | omega) (by first | with_reducible assumption | decide | omega) (fun rv6 V7 hp8 => ?_)
  obtain ⟨⟨hp8x, hp8k, hp8e, hp8c, hp8m⟩, hp8g⟩ := hp8
  rw [hp8e]
  rcases hp8c with ⟨tc9a, tc9k, tc9x⟩ | ⟨tc9a, tc9b, tc9k, tc9x⟩ | ⟨tc9a, tc9b, tc9k, tc9x⟩
  · skip
    subst tc9k tc9x
    have fx10 : zfm V V7 := (hp8g.mono (fun t ht => by omega))
    obtain ⟨τ11, τ11e⟩ : ∃ zz9 : Nat → Int, zz9 = zf τ 36 1 := ⟨_, rfl⟩
    rw [← τ11e] at hp8m
    show zG C V7 0 0 9 [(0, .ref (c 60)), (1, .int (zI (q))), (2, .int (zI (z)))] [.int (zI (1))]
    refine zr_if_eq X 14 12 dX8_sign_9 rfl rfl (by first | with_reducible assumption | decide | omega) (fun bq12 => absurd bq12 (by first | with_reducible assumption | decide | omega)) (fun bq12 => ?_)
    refine zr_iconst X 13 dX8_sign_12 rfl ?_
    exact zr_iret X rfl ⟨0, md, τ11, κ, rfl, hp8m.le (by first | with_reducible assumption | decide | omega), fx10, Or.inl ⟨by omega, rfl, by rw [τ11e]⟩⟩ dX8_sign_13
  · exact absurd tc9b (by decide)
  · skip
    subst tc9k tc9x
    have fx13 : zfm V V7 := (hp8g.mono (fun t ht => by omega))
    obtain ⟨τ14, τ14e⟩ : ∃ zz9 : Nat → Int, zz9 = zf τ 36 0 := ⟨_, rfl⟩
    rw [← τ14e] at hp8m
    show zG C V7 0 0 9 [(0, .ref (c 60)), (1, .int (zI (q))), (2, .int (zI (z)))] [.int (zI (0))]
    refine zr_if_eq X 14 12 dX8_sign_9 rfl rfl (by first | with_reducible assumption | decide | omega) (fun bq15 => ?_) (fun bq15 => absurd bq15 (by first | with_reducible assumption | decide | omega))
    refine zr_aload_n X 15 0 dX8_sign_14 rfl rfl ?_
    have c816 : V7 (c 60) = some (60, .inr (9, [.ref (md 61), .int (zI (κ 0)), .ref (c 62), .ref (md 63), .ref (md 64), .ref (c 65), .int (zI (τ14 26)), .int (zI (τ14 28)), .int (zI (τ14 29)), .ref (c 66), .int (zI (τ14 36))])) := hp8m.1
    refine zr_get X 18 9 2 c816 rfl iX8 (by decide) w0 rfl rfl dX8_sign_15 rfl ?_
    refine zr_iload_n X 19 1 dX8_sign_18 rfl rfl ?_
    have c817 : V7 (c 62) = some (62, zq Γ.2.1 4 6 (fun i => some (md (70 + i)))) := hp8m.2.2.1
    refine zr_aaldI X 20 (.ref (md (70 + q.toNat))) c817 (by first | with_reducible assumption | decide | omega) rfl dX8_sign_19 rfl ?_
    refine zr_astore_n X 21 [(3, .ref (md (70 + q.toNat))), (0, .ref (c 60)), (1, .int (zI (q))), (2, .int (zI (z)))] dX8_sign_20 rfl (by decide) rfl ?_
    refine zr_iload_n X 22 3 dX8_sign_21 rfl rfl ?_
    refine zr_iconst X 23 dX8_sign_22 rfl ?_
    refine zr_aload_n X 24 0 dX8_sign_23 rfl rfl ?_
    have hw19 := hp8m.w (i := q.toNat) (by first | with_reducible assumption | decide | omega)
    have hw19r := hw19.rg
    have z020 : (zf τ 36 0) (4 * q.toNat) = τ14 (4 * q.toNat) := by rw [τ14e]
    have z021 : (zf τ 36 0) (4 * q.toNat + 1) = τ14 (4 * q.toNat + 1) := by rw [τ14e]
    have z022 : (zf τ 36 0) (4 * q.toNat + 2) = τ14 (4 * q.toNat + 2) := by rw [τ14e]
    have z023 : (zf τ 36 0) (4 * q.toNat + 3) = τ14 (4 * q.toNat + 3) := by rw [τ14e]
    refine zr_callS (kc' := 0) (ks' := 0) X 27 1 (m_X8_length l Γ hw19.1 (by first | with_reducible assumption | decide | omega)) gX8_sign_X8_length rfl (by decide +kernel) rfl (by decide) rfl (Nat.le_of_ble_eq_true rfl) dX8_sign_24 rfl (by first | with_reducible assumption | decide | omega) (by first | with_reducible assumption | decide | omega) (fun rv24 V25 hp26 => ?_)
    rw [hp26.1, hp26.2]
    show zG C V7 0 0 27 [(3, .ref (md (70 + q.toNat))), (0, .ref (c 60)), (1, .int (zI (q))), (2, .int (zI (z)))] [.int (zI ((τ14 (4 * q.toNat + 1)) - (τ14 (4 * q.toNat + 2)))), .int (zI (0)), .int (zI (z))]
    refine zr_iconst X 28 dX8_sign_27 rfl ?_
    refine zr_isub X 29 dX8_sign_28 rfl ?_
    refine zr_callS (kc' := 0) (ks' := 0) X 32 3 (m_X8_isNo l Γ (V := V7) (x := z) (a := 0) (b := ((τ14 (4 * q.toNat + 1)) - (τ14 (4 * q.toNat + 2))) - 1) (by first | with_reducible assumption | decide | omega) (by first | with_reducible assumption | decide | omega) (by first | with_reducible assumption | decide | omega)) gX8_sign_X8_isNo rfl (by decide +kernel) rfl (by decide) rfl (Nat.le_of_ble_eq_true rfl) dX8_sign_29 rfl (by first | with_reducible assumption | decide | omega) (by first | with_reducible assumption | decide | omega) (fun rv27 V28 hp29 => ?_)
    obtain ⟨⟨no30, no30e, no30a⟩, no30v⟩ := hp29
    rw [no30e, no30v]
    show zG C V7 0 0 32 [(3, .ref (md (70 + q.toNat))), (0, .ref (c 60)), (1, .int (zI (q))), (2, .int (zI (z)))] [.int (zI (no30))]
    refine zr_if_eq X 40 35 dX8_sign_32 rfl rfl (by first | with_reducible assumption | decide | omega) (fun bq31 => ?_) (fun bq31 => ?_)
    · refine zr_aload_n X 41 1 dX8_sign_40 rfl rfl ?_
      refine zr_get X 44 9 0 c816 rfl iX8 (by decide) w2 rfl rfl dX8_sign_41 rfl ?_
      refine zr_aload_n X 45 0 dX8_sign_44 rfl rfl ?_
      refine zr_iconst X 46 dX8_sign_45 rfl ?_
      refine zr_iald X 47 hw19.1 (by first | with_reducible assumption | decide | omega) dX8_sign_46 rfl ?_
      show zG C V7 0 0 47 [(3, .ref (md (70 + q.toNat))), (0, .ref (c 60)), (1, .int (zI (q))), (2, .int (zI (z)))] [.int (zI (κ (10 + q.toNat))), .ref (md 61)]
      refine zr_aload_n X 48 0 dX8_sign_47 rfl rfl ?_
      refine zr_iconst X 49 dX8_sign_48 rfl ?_
      refine zr_iald X 50 hw19.1 (by first | with_reducible assumption | decide | omega) dX8_sign_49 rfl ?_
      show zG C V7 0 0 50 [(3, .ref (md (70 + q.toNat))), (0, .ref (c 60)), (1, .int (zI (q))), (2, .int (zI (z)))] [.int (zI (τ14 (4 * q.toNat + 2))), .int (zI (κ (10 + q.toNat))), .ref (md 61)]
      refine zr_iadd X 51 dX8_sign_50 rfl ?_
      refine zr_iload_n X 52 3 dX8_sign_51 rfl rfl ?_
      refine zr_iadd X 53 dX8_sign_52 rfl ?_
      obtain ⟨c832f, c832, c832c⟩ := hp8m.2.1
      refine zr_iald X 54 c832 (by first | with_reducible assumption | decide | omega) dX8_sign_53 rfl ?_
      have zb33 := zc.b c832c (((κ (10 + q.toNat)) + (τ14 (4 * q.toNat + 2))) + z).toNat
      exact zr_iret X rfl ⟨c832f (((κ (10 + q.toNat)) + (τ14 (4 * q.toNat + 2))) + z).toNat, md, τ14, κ, rfl, hp8m.le (by first | with_reducible assumption | decide | omega), fx13, Or.inr (Or.inr ⟨by omega, trivial, ⟨by omega, by omega, by rw [τ14e]⟩⟩)⟩ dX8_sign_54
    · refine zr_bipush X 37 (-9) dX8_sign_35 rfl (by decide) ?_
      refine zr_goto X 54 dX8_sign_37 rfl ?_
      exact zr_iret X rfl ⟨-9, md, τ14, κ, rfl, hp8m.le (by first | with_reducible assumption | decide | omega), fx13, Or.inr (Or.inr ⟨by omega, trivial, ⟨by omega, by omega, by rw [τ14e]⟩⟩)⟩ dX8_sign_54
set_option maxRecDepth 100000 in
set_option maxHeartbeats 4000000 in
theorem m_X8_look (l : Launch) (Γ : zGam) {V : zV} {c md : Nat → Nat} {τ κ : Nat → Int} {E : Int} {q z : Int} (hM : zMo Γ V c md τ κ E) (hq : -2147483648 ≤ q ∧ q ≤ 2147483647) (hz : -2147483648 ≤ z ∧ z ≤ 2147483647) : zM l Γ 4 yX8_look wsX8_look 0 0 V [.ref (c 60), .int (zI (q)), .int (zI (z))] (fun rv V' => ∃ (y : Int) (md' : Nat → Nat) (τ' κ' : Nat → Int), rv = some (.int (zI y)) ∧ zMo Γ V' c md' τ' κ' (E + 40) ∧ zfm V V' ∧ ((¬ (0 ≤ q ∧ q ≤ 5) ∧ y = 0 ∧ τ' = zf τ 36 1) ∨ ((0 ≤ q ∧ q ≤ 5) ∧ ¬ (True) ∧ y = 0 ∧ τ' = zf τ 36 2) ∨ ((0 ≤ q ∧ q ≤ 5) ∧ (True) ∧ (-9 ≤ y ∧ y ≤ 255 ∧ τ' = (zf τ 36 0))))) := by
  have w0 : Cond.fieldLink RX8 14 "SashwordsModel" "windows" "[[I" ∈ wsX8_look := by decide +kernel
  have iX8 : ∀ w ∈ u_ws RX8 TX8 11, w ∈ wsX8_look := by decide +kernel
  have w2 : Cond.fieldLink RX8 7 "SashwordsModel" "tape" "[I" ∈ wsX8_look := by decide +kernel
  refine zM_of (cc := cX8_look) (nL := 4) (ret := (some .int)) (own := RX8) (by decide +kernel) rfl rfl (Nat.le_of_ble_eq_true rfl) (fun C X hi0 => ?_)
  have nn1 : 0 ≤ κ 0 ∧ κ 0 ≤ κ 1 ∧ κ 0 ≤ E ∧ κ 1 ≤ 7000 := hM.n.1
  show zG C V 0 0 0 [(0, .ref (c 60)), (1, .int (zI (q))), (2, .int (zI (z)))] []
  refine zr_aload_n X 1 0 dX8_look_0 rfl rfl ?_
  refine zr_iload_n X 2 1 dX8_look_1 rfl rfl ?_
  refine zr_callS (kc' := 0) (ks' := 0) X 5 1 (m_X8_isNoWindow l Γ (V := V) (x := q) (by first | with_reducible assumption | decide | omega)) gX8_look_X8_isNoWindow rfl (by decide +kernel) rfl (by decide) rfl (Nat.le_of_ble_eq_true rfl) dX8_look_2 rfl (by first | with_reducible assumption | decide | omega) (by first | with_reducible assumption | decide | omega) (fun rv2 V3 hp4 => ?_)
  obtain ⟨⟨no5, no5e, no5a⟩, no5v⟩ := hp4
  rw [no5e, no5v]
  show zG C V 0 0 5 [(0, .ref (c 60)), (1, .int (zI (q))), (2, .int (zI (z)))] [.int (zI (no5)), .ref (c 60)]
  refine zr_iconst X 6 dX8_look_5 rfl ?_
  refine zr_callVe (kc' := 0) (ks' := 0) X 9 2 (m_X8_isThrown l Γ hM (a := no5) (b := 0) (by first | with_reducible assumption | decide | omega) (by first | with_reducible assumption | decide | omega)) gX8_look_X8_isThrown rfl (by decide +kernel) rfl (by decide) ⟨_, _, hM.1⟩ rfl rfl (Nat.le_of_ble_eq_true rfl) dX8_look_6 rfl (by first | with_reducible assumption | decide | omega) (by first | with_reducible assumption | decide | omega) (fun rv6 V7 hp8 => ?_)
  obtain ⟨⟨hp8x, hp8k, hp8e, hp8c, hp8m⟩, hp8g⟩ := hp8
  rw [hp8e]
  rcases hp8c with ⟨tc9a, tc9k, tc9x⟩ | ⟨tc9a, tc9b, tc9k, tc9x⟩ | ⟨tc9a, tc9b, tc9k, tc9x⟩
  · skip
    subst tc9k tc9x
    have fx10 : zfm V V7 := (hp8g.mono (fun t ht => by omega))
    obtain ⟨τ11, τ11e⟩ : ∃ zz9 : Nat → Int, zz9 = zf τ 36 1 := ⟨_, rfl⟩
    rw [← τ11e] at hp8m
    show zG C V7 0 0 9 [(0, .ref (c 60)), (1, .int (zI (q))), (2, .int (zI (z)))] [.int (zI (1))]
    refine zr_if_eq X 14 12 dX8_look_9 rfl rfl (by first | with_reducible assumption | decide | omega) (fun bq12 => absurd bq12 (by first | with_reducible assumption | decide | omega)) (fun bq12 => ?_)
    refine zr_iconst X 13 dX8_look_12 rfl ?_
    exact zr_iret X rfl ⟨0, md, τ11, κ, rfl, hp8m.le (by first | with_reducible assumption | decide | omega), fx10, Or.inl ⟨by omega, rfl, by rw [τ11e]⟩⟩ dX8_look_13
  · exact absurd tc9b (by decide)
  · skip
    subst tc9k tc9x
    have fx13 : zfm V V7 := (hp8g.mono (fun t ht => by omega))
    obtain ⟨τ14, τ14e⟩ : ∃ zz9 : Nat → Int, zz9 = zf τ 36 0 := ⟨_, rfl⟩
    rw [← τ14e] at hp8m
    show zG C V7 0 0 9 [(0, .ref (c 60)), (1, .int (zI (q))), (2, .int (zI (z)))] [.int (zI (0))]
    refine zr_if_eq X 14 12 dX8_look_9 rfl rfl (by first | with_reducible assumption | decide | omega) (fun bq15 => ?_) (fun bq15 => absurd bq15 (by first | with_reducible assumption | decide | omega))
    refine zr_aload_n X 15 0 dX8_look_14 rfl rfl ?_
    have c816 : V7 (c 60) = some (60, .inr (9, [.ref (md 61), .int (zI (κ 0)), .ref (c 62), .ref (md 63), .ref (md 64), .ref (c 65), .int (zI (τ14 26)), .int (zI (τ14 28)), .int (zI (τ14 29)), .ref (c 66), .int (zI (τ14 36))])) := hp8m.1
    refine zr_get X 18 9 2 c816 rfl iX8 (by decide) w0 rfl rfl dX8_look_15 rfl ?_
    refine zr_iload_n X 19 1 dX8_look_18 rfl rfl ?_
    have c817 : V7 (c 62) = some (62, zq Γ.2.1 4 6 (fun i => some (md (70 + i)))) := hp8m.2.2.1
    refine zr_aaldI X 20 (.ref (md (70 + q.toNat))) c817 (by first | with_reducible assumption | decide | omega) rfl dX8_look_19 rfl ?_
    refine zr_astore_n X 21 [(3, .ref (md (70 + q.toNat))), (0, .ref (c 60)), (1, .int (zI (q))), (2, .int (zI (z)))] dX8_look_20 rfl (by decide) rfl ?_
    refine zr_iload_n X 22 3 dX8_look_21 rfl rfl ?_
    refine zr_iconst X 23 dX8_look_22 rfl ?_
    refine zr_aload_n X 24 0 dX8_look_23 rfl rfl ?_
    refine zr_iconst X 25 dX8_look_24 rfl ?_
    have hw19 := hp8m.w (i := q.toNat) (by first | with_reducible assumption | decide | omega)
    have hw19r := hw19.rg
    have z020 : (zf τ 36 0) (4 * q.toNat) = τ14 (4 * q.toNat) := by rw [τ14e]
    have z021 : (zf τ 36 0) (4 * q.toNat + 1) = τ14 (4 * q.toNat + 1) := by rw [τ14e]
    have z022 : (zf τ 36 0) (4 * q.toNat + 2) = τ14 (4 * q.toNat + 2) := by rw [τ14e]
    have z023 : (zf τ 36 0) (4 * q.toNat + 3) = τ14 (4 * q.toNat + 3) := by rw [τ14e]
    refine zr_iald X 26 hw19.1 (by first | with_reducible assumption | decide | omega) dX8_look_25 rfl ?_
    show zG C V7 0 0 26 [(3, .ref (md (70 + q.toNat))), (0, .ref (c 60)), (1, .int (zI (q))), (2, .int (zI (z)))] [.int (zI (τ14 (4 * q.toNat + 1))), .int (zI (0)), .int (zI (z))]
    refine zr_iconst X 27 dX8_look_26 rfl ?_
    refine zr_isub X 28 dX8_look_27 rfl ?_
    refine zr_callS (kc' := 0) (ks' := 0) X 31 3 (m_X8_isNo l Γ (V := V7) (x := z) (a := 0) (b := (τ14 (4 * q.toNat + 1)) - 1) (by first | with_reducible assumption | decide | omega) (by first | with_reducible assumption | decide | omega) (by first | with_reducible assumption | decide | omega)) gX8_look_X8_isNo rfl (by decide +kernel) rfl (by decide) rfl (Nat.le_of_ble_eq_true rfl) dX8_look_28 rfl (by first | with_reducible assumption | decide | omega) (by first | with_reducible assumption | decide | omega) (fun rv24 V25 hp26 => ?_)
    obtain ⟨⟨no27, no27e, no27a⟩, no27v⟩ := hp26
    rw [no27e, no27v]
    show zG C V7 0 0 31 [(3, .ref (md (70 + q.toNat))), (0, .ref (c 60)), (1, .int (zI (q))), (2, .int (zI (z)))] [.int (zI (no27))]
    refine zr_if_eq X 39 34 dX8_look_31 rfl rfl (by first | with_reducible assumption | decide | omega) (fun bq28 => ?_) (fun bq28 => ?_)
    · refine zr_aload_n X 40 1 dX8_look_39 rfl rfl ?_
      refine zr_get X 43 9 0 c816 rfl iX8 (by decide) w2 rfl rfl dX8_look_40 rfl ?_
      refine zr_aload_n X 44 0 dX8_look_43 rfl rfl ?_
      refine zr_iconst X 45 dX8_look_44 rfl ?_
      refine zr_iald X 46 hw19.1 (by first | with_reducible assumption | decide | omega) dX8_look_45 rfl ?_
      show zG C V7 0 0 46 [(3, .ref (md (70 + q.toNat))), (0, .ref (c 60)), (1, .int (zI (q))), (2, .int (zI (z)))] [.int (zI (κ (10 + q.toNat))), .ref (md 61)]
      refine zr_iload_n X 47 3 dX8_look_46 rfl rfl ?_
      refine zr_iadd X 48 dX8_look_47 rfl ?_
      obtain ⟨c829f, c829, c829c⟩ := hp8m.2.1
      refine zr_iald X 49 c829 (by first | with_reducible assumption | decide | omega) dX8_look_48 rfl ?_
      have zb30 := zc.b c829c ((κ (10 + q.toNat)) + z).toNat
      exact zr_iret X rfl ⟨c829f ((κ (10 + q.toNat)) + z).toNat, md, τ14, κ, rfl, hp8m.le (by first | with_reducible assumption | decide | omega), fx13, Or.inr (Or.inr ⟨by omega, trivial, ⟨by omega, by omega, by rw [τ14e]⟩⟩)⟩ dX8_look_49
    · refine zr_bipush X 36 (-9) dX8_look_34 rfl (by decide) ?_
      refine zr_goto X 49 dX8_look_36 rfl ?_
      exact zr_iret X rfl ⟨-9, md, τ14, κ, rfl, hp8m.le (by first | with_reducible assumption | decide | omega), fx13, Or.inr (Or.inr ⟨by omega, trivial, ⟨by omega, by omega, by rw [τ14e]⟩⟩)⟩ dX8_look_49
set_option maxRecDepth 100000 in
set_option maxHeartbeats 4000000 in
theorem m_X8_text_ (l : Launch) (Γ : zGam) {V : zV} {c md : Nat → Nat} {τ κ : Nat → Int} {E : Int} {q z : Int} (hM : zMo Γ V c md τ κ E) (hq : -2147483648 ≤ q ∧ q ≤ 2147483647) (hz : -2147483648 ≤ z ∧ z ≤ 2147483647) : zM l Γ 10 yX8_text_ wsX8_text_ 3011 6340 V [.ref (c 60), .int (zI (q)), .int (zI (z))] (fun rv V' => ∃ (zr : Nat) (md' : Nat → Nat) (τ' κ' : Nat → Int), rv = some (.ref zr) ∧ zMo Γ V' c md' τ' κ' (E + 40) ∧ zfm V V' ∧ ((¬ (0 ≤ q ∧ q ≤ 5) ∧ τ' = zf τ 36 1) ∨ ((0 ≤ q ∧ q ≤ 5) ∧ ¬ (0 ≤ z ∧ z ≤ 3) ∧ τ' = zf τ 36 2) ∨ ((0 ≤ q ∧ q ≤ 5) ∧ (0 ≤ z ∧ z ≤ 3) ∧ (τ' = (zf τ 36 0))))) := by
  have w0 : Cond.fieldLink RX8 14 "SashwordsModel" "windows" "[[I" ∈ wsX8_text_ := by decide +kernel
  have iX8 : ∀ w ∈ u_ws RX8 TX8 11, w ∈ wsX8_text_ := by decide +kernel
  refine zM_of (cc := cX8_text_) (nL := 4) (ret := (some (.object "java/lang/String"))) (own := RX8) (by decide +kernel) rfl rfl (Nat.le_of_ble_eq_true rfl) (fun C X hi0 => ?_)
  have nn1 : 0 ≤ κ 0 ∧ κ 0 ≤ κ 1 ∧ κ 0 ≤ E ∧ κ 1 ≤ 7000 := hM.n.1
  show zG C V 3011 6340 0 [(0, .ref (c 60)), (1, .int (zI (q))), (2, .int (zI (z)))] []
  refine zr_aload_n X 1 0 dX8_text__0 rfl rfl ?_
  refine zr_iload_n X 2 1 dX8_text__1 rfl rfl ?_
  refine zr_callS (kc' := 3011) (ks' := 6340) X 5 1 (m_X8_isNoWindow l Γ (V := V) (x := q) (by first | with_reducible assumption | decide | omega)) gX8_text__X8_isNoWindow rfl (by decide +kernel) rfl (by decide) rfl (Nat.le_of_ble_eq_true rfl) dX8_text__2 rfl (by first | with_reducible assumption | decide | omega) (by first | with_reducible assumption | decide | omega) (fun rv2 V3 hp4 => ?_)
  obtain ⟨⟨no5, no5e, no5a⟩, no5v⟩ := hp4
  rw [no5e, no5v]
  show zG C V 3011 6340 5 [(0, .ref (c 60)), (1, .int (zI (q))), (2, .int (zI (z)))] [.int (zI (no5)), .ref (c 60)]
  refine zr_iload_n X 6 2 dX8_text__5 rfl rfl ?_
  refine zr_iconst X 7 dX8_text__6 rfl ?_
  refine zr_iconst X 8 dX8_text__7 rfl ?_
  refine zr_callS (kc' := 3011) (ks' := 6340) X 11 3 (m_X8_isNo l Γ (V := V) (x := z) (a := 0) (b := 3) (by first | with_reducible assumption | decide | omega) (by first | with_reducible assumption | decide | omega) (by first | with_reducible assumption | decide | omega)) gX8_text__X8_isNo rfl (by decide +kernel) rfl (by decide) rfl (Nat.le_of_ble_eq_true rfl) dX8_text__8 rfl (by first | with_reducible assumption | decide | omega) (by first | with_reducible assumption | decide | omega) (fun rv6 V7 hp8 => ?_)
  obtain ⟨⟨no9, no9e, no9a⟩, no9v⟩ := hp8
  rw [no9e, no9v]
  show zG C V 3011 6340 11 [(0, .ref (c 60)), (1, .int (zI (q))), (2, .int (zI (z)))] [.int (zI (no9)), .int (zI (no5)), .ref (c 60)]
  refine zr_callVe (kc' := 3011) (ks' := 6340) X 14 2 (m_X8_isThrown l Γ hM (a := no5) (b := no9) (by first | with_reducible assumption | decide | omega) (by first | with_reducible assumption | decide | omega)) gX8_text__X8_isThrown rfl (by decide +kernel) rfl (by decide) ⟨_, _, hM.1⟩ rfl rfl (Nat.le_of_ble_eq_true rfl) dX8_text__11 rfl (by first | with_reducible assumption | decide | omega) (by first | with_reducible assumption | decide | omega) (fun rv10 V11 hp12 => ?_)
  obtain ⟨⟨hp12x, hp12k, hp12e, hp12c, hp12m⟩, hp12g⟩ := hp12
  rw [hp12e]
  rcases hp12c with ⟨tc13a, tc13k, tc13x⟩ | ⟨tc13a, tc13b, tc13k, tc13x⟩ | ⟨tc13a, tc13b, tc13k, tc13x⟩
  · skip
    subst tc13k tc13x
    have fx14 : zfm V V11 := (hp12g.mono (fun t ht => by omega))
    obtain ⟨τ15, τ15e⟩ : ∃ zz9 : Nat → Int, zz9 = zf τ 36 1 := ⟨_, rfl⟩
    rw [← τ15e] at hp12m
    show zG C V11 3011 6340 14 [(0, .ref (c 60)), (1, .int (zI (q))), (2, .int (zI (z)))] [.int (zI (1))]
    refine zr_if_eq X 20 17 dX8_text__14 rfl rfl (by first | with_reducible assumption | decide | omega) (fun bq16 => absurd bq16 (by first | with_reducible assumption | decide | omega)) (fun bq16 => ?_)
    refine zr_ldcS X 19 6 rfl dX8_text__17 rfl ?_
    exact zr_aret X rfl (Or.inl ⟨_, rfl⟩) ⟨Γ.2.2.1 6, md, τ15, κ, rfl, hp12m.le (by first | with_reducible assumption | decide | omega), fx14, Or.inl ⟨by omega, by rw [τ15e]⟩⟩ dX8_text__19
  · skip
    subst tc13k tc13x
    have fx17 : zfm V V11 := (hp12g.mono (fun t ht => by omega))
    obtain ⟨τ18, τ18e⟩ : ∃ zz9 : Nat → Int, zz9 = zf τ 36 2 := ⟨_, rfl⟩
    rw [← τ18e] at hp12m
    show zG C V11 3011 6340 14 [(0, .ref (c 60)), (1, .int (zI (q))), (2, .int (zI (z)))] [.int (zI (1))]
    refine zr_if_eq X 20 17 dX8_text__14 rfl rfl (by first | with_reducible assumption | decide | omega) (fun bq19 => absurd bq19 (by first | with_reducible assumption | decide | omega)) (fun bq19 => ?_)
    refine zr_ldcS X 19 6 rfl dX8_text__17 rfl ?_
    exact zr_aret X rfl (Or.inl ⟨_, rfl⟩) ⟨Γ.2.2.1 6, md, τ18, κ, rfl, hp12m.le (by first | with_reducible assumption | decide | omega), fx17, Or.inr (Or.inl ⟨by omega, by omega, by rw [τ18e]⟩)⟩ dX8_text__19
  · skip
    subst tc13k tc13x
    have fx20 : zfm V V11 := (hp12g.mono (fun t ht => by omega))
    obtain ⟨τ21, τ21e⟩ : ∃ zz9 : Nat → Int, zz9 = zf τ 36 0 := ⟨_, rfl⟩
    rw [← τ21e] at hp12m
    show zG C V11 3011 6340 14 [(0, .ref (c 60)), (1, .int (zI (q))), (2, .int (zI (z)))] [.int (zI (0))]
    refine zr_if_eq X 20 17 dX8_text__14 rfl rfl (by first | with_reducible assumption | decide | omega) (fun bq22 => ?_) (fun bq22 => absurd bq22 (by first | with_reducible assumption | decide | omega))
    refine zr_aload_n X 21 0 dX8_text__20 rfl rfl ?_
    refine zr_aload_n X 22 0 dX8_text__21 rfl rfl ?_
    have c823 : V11 (c 60) = some (60, .inr (9, [.ref (md 61), .int (zI (κ 0)), .ref (c 62), .ref (md 63), .ref (md 64), .ref (c 65), .int (zI (τ21 26)), .int (zI (τ21 28)), .int (zI (τ21 29)), .ref (c 66), .int (zI (τ21 36))])) := hp12m.1
    refine zr_get X 25 9 2 c823 rfl iX8 (by decide) w0 rfl rfl dX8_text__22 rfl ?_
    refine zr_iload_n X 26 1 dX8_text__25 rfl rfl ?_
    have c824 : V11 (c 62) = some (62, zq Γ.2.1 4 6 (fun i => some (md (70 + i)))) := hp12m.2.2.1
    refine zr_aaldI X 27 (.ref (md (70 + q.toNat))) c824 (by first | with_reducible assumption | decide | omega) rfl dX8_text__26 rfl ?_
    have hw26 := hp12m.w (i := q.toNat) (by first | with_reducible assumption | decide | omega)
    have hw26r := hw26.rg
    have z027 : (zf τ 36 0) (4 * q.toNat) = τ21 (4 * q.toNat) := by rw [τ21e]
    have z028 : (zf τ 36 0) (4 * q.toNat + 1) = τ21 (4 * q.toNat + 1) := by rw [τ21e]
    have z029 : (zf τ 36 0) (4 * q.toNat + 2) = τ21 (4 * q.toNat + 2) := by rw [τ21e]
    have z030 : (zf τ 36 0) (4 * q.toNat + 3) = τ21 (4 * q.toNat + 3) := by rw [τ21e]
    refine zr_callVe (kc' := (3011 - 1)) (ks' := (6340 - 40)) X 30 1 (m_X8_text l Γ (tg := 76) (i := q) hp12m (by first | with_reducible assumption | decide | omega)) gX8_text__X8_text rfl (by decide +kernel) rfl (by decide) ⟨_, _, hp12m.1⟩ rfl rfl (Nat.le_of_ble_eq_true rfl) dX8_text__27 rfl (by first | with_reducible assumption | decide | omega) (by first | with_reducible assumption | decide | omega) (fun rv31 V32 hp33 => ?_)
    obtain ⟨hp33q, hp33f, hp33e, hp33h, hp33c, hp33g⟩ := hp33
    rw [hp33e]
    have hp33m := hp12m.kept hp33g (fun _ _ _ => trivial)
    have fx34 : zfm V V32 := zag.tr fx20 (hp33g.mono (fun _ _ => trivial))
    show zG C V32 (3011 - 1) (6340 - 40) 30 [(0, .ref (c 60)), (1, .int (zI (q))), (2, .int (zI (z)))] [.ref hp33q]
    refine zr_astore_n X 31 [(3, .ref hp33q), (0, .ref (c 60)), (1, .int (zI (q))), (2, .int (zI (z)))] dX8_text__30 rfl (by decide) rfl ?_
    refine zr_aload_n X 32 0 dX8_text__31 rfl rfl ?_
    refine zr_iconst X 33 dX8_text__32 rfl ?_
    refine zr_aload_n X 34 0 dX8_text__33 rfl rfl ?_
    refine zr_alen X 35 0 hp33h (by decide) dX8_text__34 rfl ?_
    refine zr_callS (kc' := (3011 - 1) - 3010) (ks' := (6340 - 40) - 6300) X 38 3 (m_X8_told l Γ (fr := 0) (to := ((τ21 (4 * q.toNat + 1) - τ21 (4 * q.toNat + 2)).toNat : Nat)) hp33h hp33c (by first | with_reducible assumption | decide | omega) (by first | with_reducible assumption | decide | omega) (by first | with_reducible assumption | decide | omega)) gX8_text__X8_told rfl (by decide +kernel) rfl (by decide) rfl (Nat.le_of_ble_eq_true rfl) dX8_text__35 rfl (by first | with_reducible assumption | decide | omega) (by first | with_reducible assumption | decide | omega) (fun rv35 V36 hp37 => ?_)
    obtain ⟨hp37z, hp37e, hp37f⟩ := hp37
    rw [hp37e]
    have hp37g : zag (fun x => x ≠ 7) V32 V36 := hp37f
    have hp37m := hp33m.kept hp37g (fun t h1 h2 => by omega)
    have lc38 := hp37g _ _ _ hp33h (by first | with_reducible assumption | decide | omega)
    have fx39 : zfm V V36 := zag.tr fx34 (hp37g.mono (fun t ht => by omega))
    show zG C V36 ((3011 - 1) - 3010) ((6340 - 40) - 6300) 38 [(3, .ref hp33q), (0, .ref (c 60)), (1, .int (zI (q))), (2, .int (zI (z)))] [.ref hp37z]
    exact zr_aret X rfl (Or.inl ⟨_, rfl⟩) ⟨hp37z, md, τ21, κ, rfl, hp37m.le (by first | with_reducible assumption | decide | omega), fx39, Or.inr (Or.inr ⟨by omega, by omega, by rw [τ21e]⟩)⟩ dX8_text__38
