set_option maxRecDepth 100000 in
set_option maxHeartbeats 4000000 in
theorem m_X6_copyText_d (l : Launch) (Γ : zGam) {V : zV} {ad : Nat → Nat} {σ : Nat → Int} {q how : Int} (hS : zS Γ V ad σ) (hq : 0 ≤ q ∧ q < 6) (hh : 0 ≤ how ∧ how ≤ 3) : zM l Γ 6 yX6_copyText wsX6_copyText 0 0 V [.ref (ad 1), .ref (ad (10 + q.toNat)), .int (zI (how)), .ref (ad 31)] (fun rv V' => rv = none ∧ zS Γ V' ad σ ∧ zfx V V' ∧ zag (fun t => t ≠ 31 ∧ t ≠ 32 ∧ t ≠ 16 ∧ t ≠ 50) V V' ∧ ∃ f : Nat → Int, zSq Γ V' 31 (ad 31) 32 (ad 32) 80 (σ (4 * q.toNat + 1) - σ (4 * q.toNat + 2)) f ∧ zdc f (σ (4 * q.toNat + 1) - σ (4 * q.toNat + 2)) (zws σ q.toNat) (σ (4 * q.toNat + 2))) := by
  have iX5 : ∀ w ∈ u_ws RX5 TX5 6, w ∈ wsX6_copyText := by decide +kernel
  have w1 : Cond.fieldLink RX6 35 "Sashwords" "aside" "LSashwords$Window;" ∈ wsX6_copyText := by decide +kernel
  have iX6 : ∀ w ∈ u_ws RX6 TX6 14, w ∈ wsX6_copyText := by decide +kernel
  refine zM_of (cc := cX6_copyText) (nL := 5) (ret := none) (own := RX6) (by decide +kernel) rfl rfl (Nat.le_of_ble_eq_true rfl) (fun C X hi0 => ?_)
  have hx1 : V (ad 1) = some (1, .inr (7, [.ref (ad 2), .ref (ad 20), .ref (ad 22), .ref (ad 24), .ref (ad 16), .ref (ad 31), .ref (ad 33), .ref (ad 35), .ref (ad 40), .ref (ad 45), .int (zI (σ 30)), .int (zI (σ 31)), .int (zI (σ 32)), .int (zI (σ 33))])) := hS.1
  have hw2 := hS.w (i := q.toNat) (by omega)
  have hw2r := hw2.rg
  obtain ⟨as3c, as3l, as3p, as3m, as3⟩ := hS.2.2.2.1
  have as3r := as3.rg
  obtain ⟨dr4n, dr4⟩ := hS.2.2.2.2.1.2.2.1
  have dr4r := dr4.rg
  obtain ⟨dq5f, dq5⟩ := dr4.sq
  show zG C V 0 0 0 [(0, .ref (ad 1)), (1, .ref (ad (10 + q.toNat))), (2, .int (zI (how))), (3, .ref (ad 31))] []
  refine zr_aload_n X 1 3 dX6_copyText_0 rfl rfl ?_
  refine zr_callVe (kc' := 0) (ks' := 0) X 4 0 (q_clear l Γ dq5 (by decide)) gX6_copyText_X2_clear rfl (by decide +kernel) rfl (by decide) dr4.cl rfl rfl (Nat.le_of_ble_eq_true rfl) dX6_copyText_1 rfl (by omega) (by omega) (fun rv6 V7 hp8 => ?_)
  have dz9 : zdc (dq5f) (0) (zws σ q.toNat) (σ (4 * q.toNat + 2)) := zdc_0
  obtain ⟨hp8e, hp8q, hp8z⟩ := hp8
  rw [hp8e]
  obtain ⟨hS10, fx11⟩ := hS.setDr hp8z
  have dz9r := hp8z.1.rg
  have fy12 := zag.tr (zag.rf (P := fun t => t ≠ 31 ∧ t ≠ 32 ∧ t ≠ 16 ∧ t ≠ 50)) (hp8z.2.mono (fun t ht => by omega))
  have hw13 := hw2.kept hp8z.2 (by omega) (by omega)
  have hw14 := as3.kept hp8z.2 (by omega) (by omega)
  have hx15 : V7 (ad 1) = some (1, .inr (7, [.ref (ad 2), .ref (ad 20), .ref (ad 22), .ref (ad 24), .ref (ad 16), .ref (ad 31), .ref (ad 33), .ref (ad 35), .ref (ad 40), .ref (ad 45), .int (zI (σ 30)), .int (zI (σ 31)), .int (zI (σ 32)), .int (zI (σ 33))])) := hS10.1
  show zG C V7 0 0 4 [(0, .ref (ad 1)), (1, .ref (ad (10 + q.toNat))), (2, .int (zI (how))), (3, .ref (ad 31))] []
  refine zr_iload_n X 5 2 dX6_copyText_4 rfl rfl ?_
  rcases (by omega : how = 0 ∨ how = 1 ∨ how = 2 ∨ ¬ (0 ≤ how ∧ how < 3)) with ts16 | ts16 | ts16 | ts16
  · refine zr_tsIn X 32 0 ts16 (by decide) dX6_copyText_5 (by decide) (by decide) rfl rfl ?_
    refine zr_aload_n X 33 3 dX6_copyText_32 rfl rfl ?_
    refine zr_aload_n X 34 1 dX6_copyText_33 rfl rfl ?_
    have wg18 := hS10.wg (i := q.toNat) (by omega)
    obtain ⟨t17r, t17e, t17e2, t17h, t17T, t17o, t17q, t17s⟩ := wg18.tx
    have t17g := t17T.rg
    have t17c := True.intro
    refine zr_callVe (kc' := 0) (ks' := 0) X 37 1 (q_append l Γ hp8q (by decide) (by decide) t17T t17o t17q (by omega) (by omega)) gX6_copyText_X2_append rfl (by decide +kernel) rfl (by decide) hp8q.sc.cl rfl rfl (Nat.le_of_ble_eq_true rfl) dX6_copyText_34 rfl (by omega) (by omega) (fun rv19 V20 hp21 => ?_)
    have dz22 : zdc (zap dq5f (0) ((σ (4 * q.toNat + 1)) - (σ (4 * q.toNat + 2))) t17h) (0 + ((σ (4 * q.toNat + 1)) - (σ (4 * q.toNat + 2)))) (zws σ q.toNat) (σ (4 * q.toNat + 2)) := zdc.app dz9 (by omega) t17s (by omega)
    obtain ⟨hp21e, hp21q, hp21z⟩ := hp21
    rw [hp21e]
    obtain ⟨hS23, fx24⟩ := hS10.setDr hp21z
    have dz22r := hp21z.1.rg
    have fy25 := zag.tr fy12 (hp21z.2.mono (fun t ht => by omega))
    have hw26 := hw13.kept hp21z.2 (by omega) (by omega)
    have hw27 := hw14.kept hp21z.2 (by omega) (by omega)
    have fx28 := zag.tr fx11 fx24
    have hx29 : V20 (ad 1) = some (1, .inr (7, [.ref (ad 2), .ref (ad 20), .ref (ad 22), .ref (ad 24), .ref (ad 16), .ref (ad 31), .ref (ad 33), .ref (ad 35), .ref (ad 40), .ref (ad 45), .int (zI (σ 30)), .int (zI (σ 31)), .int (zI (σ 32)), .int (zI (σ 33))])) := hS23.1
    show zG C V20 0 0 37 [(0, .ref (ad 1)), (1, .ref (ad (10 + q.toNat))), (2, .int (zI (how))), (3, .ref (ad 31))] []
    refine zr_goto X 165 dX6_copyText_37 rfl ?_
    have hq9 := hp21q
    have hz9 := dz22
    have hl9 : 0 + ((σ (4 * q.toNat + 1)) - (σ (4 * q.toNat + 2))) = σ (4 * q.toNat + 1) - σ (4 * q.toNat + 2) := by omega
    rw [hl9] at hq9 hz9
    exact zr_vret X rfl ⟨rfl, hS23, fx28, fy25, _, hq9, hz9⟩ dX6_copyText_165
  · refine zr_tsIn X 40 1 ts16 (by decide) dX6_copyText_5 (by decide) (by decide) rfl rfl ?_
    refine zr_aload_n X 41 1 dX6_copyText_40 rfl rfl ?_
    refine zr_getNw X 44 4 5 hw13 (σ (4 * q.toNat + 2)) (by simp) iX5 rfl dX6_copyText_41 rfl ?_
    refine zr_istore X 46 [(4, .int (zI (σ (4 * q.toNat + 2)))), (0, .ref (ad 1)), (1, .ref (ad (10 + q.toNat))), (2, .int (zI (how))), (3, .ref (ad 31))] dX6_copyText_44 rfl (by decide) rfl ?_
    refine zr_sub [0, 4, 3, 2, 1] [(4, .int (zI (σ (4 * q.toNat + 2)))), (3, .ref (ad 31)), (2, .int (zI (how))), (1, .ref (ad (10 + q.toNat))), (0, .ref (ad 1))] rfl ?_
    have loop : ∀ (N : Nat) (V1 : zV) (p1 : Int) (n1 : Int) (f1 : Nat → Int), zS Γ V1 ad σ ∧ zfx V V1 ∧ zSq Γ V1 31 (ad 31) 32 (ad 32) 80 n1 f1 ∧ zdc f1 n1 (zws σ q.toNat) (σ (4 * q.toNat + 2)) ∧ zag (fun t => t ≠ 31 ∧ t ≠ 32 ∧ t ≠ 16 ∧ t ≠ 50) V V1 ∧ σ (4 * q.toNat + 2) ≤ p1 ∧ p1 ≤ σ (4 * q.toNat + 1) ∧ n1 = p1 - σ (4 * q.toNat + 2) → (σ (4 * q.toNat + 1) - p1).toNat = N → zG C V1 0 0 46 [(4, .int (zI (p1))), (3, .ref (ad 31)), (2, .int (zI (how))), (1, .ref (ad (10 + q.toNat))), (0, .ref (ad 1))] [] := by
      intro N
      induction N using Nat.strongRecOn with
      | _ N ih =>
      intro V1 p1 n1 f1 hI hN
      obtain ⟨hI1, hI2, hI3, hI4, hI5, hI6, hI7, hI8⟩ := id hI
      have hx30 : V1 (ad 1) = some (1, .inr (7, [.ref (ad 2), .ref (ad 20), .ref (ad 22), .ref (ad 24), .ref (ad 16), .ref (ad 31), .ref (ad 33), .ref (ad 35), .ref (ad 40), .ref (ad 45), .int (zI (σ 30)), .int (zI (σ 31)), .int (zI (σ 32)), .int (zI (σ 33))])) := hI1.1
      have hw31 := hI1.w (i := q.toNat) (by omega)
      have hw31r := hw31.rg
      have hDr := hI3.sc.rg
      refine zr_iload X 48 0 dX6_copyText_46 rfl rfl ?_
      refine zr_aload_n X 49 3 dX6_copyText_48 rfl rfl ?_
      refine zr_getNw X 52 3 4 hw31 (σ (4 * q.toNat + 1)) (by simp) iX5 rfl dX6_copyText_49 rfl ?_
      refine zr_icmp_ge X 71 55 dX6_copyText_52 rfl rfl (by omega) (by omega) (fun bq32 => ?_) (fun bq32 => ?_)
      · refine zr_goto X 165 dX6_copyText_71 rfl ?_
        have hq9 := hI3
        have hz9 := hI4
        have hl9 : n1 = σ (4 * q.toNat + 1) - σ (4 * q.toNat + 2) := by omega
        rw [hl9] at hq9 hz9
        exact zr_vret X rfl ⟨rfl, hI1, hI2, hI5, _, hq9, hz9⟩ dX6_copyText_165
      · refine zr_aload_n X 56 1 dX6_copyText_55 rfl rfl ?_
        refine zr_aload_n X 57 3 dX6_copyText_56 rfl rfl ?_
        refine zr_iload X 59 0 dX6_copyText_57 rfl rfl ?_
        have wg36 := hI1.wg (i := q.toNat) (by omega)
        refine zr_callVe (kc' := 0) (ks' := 0) X 62 1 (e_atPlaceG l Γ wg36 (k := p1) (by omega)) gX6_copyText_X5_atPlace rfl (by decide +kernel) rfl (by decide) hw31.cl rfl rfl (Nat.le_of_ble_eq_true rfl) dX6_copyText_59 rfl (by omega) (by omega) (fun rv33 V34 hp35 => ?_)
        obtain ⟨hp35e, hp35v, hp35a, hp35b⟩ := hp35
        rw [hp35e, hp35v]
        show zG C V1 0 0 62 [(4, .int (zI (p1))), (3, .ref (ad 31)), (2, .int (zI (how))), (1, .ref (ad (10 + q.toNat))), (0, .ref (ad 1))] [.int (zI (zws σ q.toNat p1)), .ref (ad 31)]
        refine zr_callVe (kc' := 0) (ks' := 0) X 65 1 (q_add l Γ hI3 (by decide) (by decide) (x := zws σ q.toNat p1) (by omega) (by omega)) gX6_copyText_X2_add rfl (by decide +kernel) rfl (by decide) hI3.sc.cl rfl rfl (Nat.le_of_ble_eq_true rfl) dX6_copyText_62 rfl (by omega) (by omega) (fun rv37 V38 hp39 => ?_)
        have dz40 : zdc (zf f1 (n1 : Int).toNat (zws σ q.toNat p1)) (n1 + 1) (zws σ q.toNat) (σ (4 * q.toNat + 2)) := zdc.add (p := p1) hI4 (by omega) rfl (by omega)
        obtain ⟨hp39e, hp39q, hp39z⟩ := hp39
        rw [hp39e]
        obtain ⟨hS41, fx42⟩ := hI1.setDr hp39z
        have dz40r := hp39z.1.rg
        have fy43 := zag.tr hI5 (hp39z.2.mono (fun t ht => by omega))
        have hw44 := hw31.kept hp39z.2 (by omega) (by omega)
        have fx45 := zag.tr hI2 fx42
        have hx46 : V38 (ad 1) = some (1, .inr (7, [.ref (ad 2), .ref (ad 20), .ref (ad 22), .ref (ad 24), .ref (ad 16), .ref (ad 31), .ref (ad 33), .ref (ad 35), .ref (ad 40), .ref (ad 45), .int (zI (σ 30)), .int (zI (σ 31)), .int (zI (σ 32)), .int (zI (σ 33))])) := hS41.1
        show zG C V38 0 0 65 [(4, .int (zI (p1))), (3, .ref (ad 31)), (2, .int (zI (how))), (1, .ref (ad (10 + q.toNat))), (0, .ref (ad 1))] []
        refine zr_iinc X 68 0 [(4, .int (zI (p1 + 1))), (3, .ref (ad 31)), (2, .int (zI (how))), (1, .ref (ad (10 + q.toNat))), (0, .ref (ad 1))] dX6_copyText_65 rfl rfl (by decide) rfl ?_
        refine zr_goto X 46 dX6_copyText_68 rfl ?_
        exact ih _ (by omega) V38 (p1 + 1) (n1 + 1) (zf f1 (n1 : Int).toNat (zws σ q.toNat p1)) ⟨hS41, fx45, hp39q, dz40, fy43, by omega, by omega, by omega⟩ rfl
    exact loop _ V7 (σ (4 * q.toNat + 2)) 0 dq5f ⟨hS10, fx11, hp8q, dz9, fy12, by omega, by omega, by omega⟩ rfl
  · refine zr_tsIn X 74 2 ts16 (by decide) dX6_copyText_5 (by decide) (by decide) rfl rfl ?_
    refine zr_aload_n X 75 0 dX6_copyText_74 rfl rfl ?_
    refine zr_get X 78 7 4 hx15 rfl iX6 (by decide) w1 rfl rfl dX6_copyText_75 rfl ?_
    refine zr_aload_n X 79 1 dX6_copyText_78 rfl rfl ?_
    have wg47 := hS10.wg (i := q.toNat) (by omega)
    refine zr_callVe (kc' := 0) (ks' := 0) X 82 1 (e_likeG l Γ hw14 wg47 (by omega) (zneW hw14 hw13 (by omega))) gX6_copyText_X5_becomeLike rfl (by decide +kernel) rfl (by decide) hw14.cl rfl rfl (Nat.le_of_ble_eq_true rfl) dX6_copyText_79 rfl (by omega) (by omega) (fun rv48 V49 hp50 => ?_)
    obtain ⟨hp50e, hp50n, hp50g⟩ := hp50
    rw [hp50e]
    have hp50z := hp50n.1
    obtain ⟨hS51, fx52⟩ := hS10.setD hp50n
    have hw53 := hp50z.1
    have hw53r := hw53.rg
    have dq54 := hp8q.kept hp50z.2.1 (by omega) (by omega)
    have fy55 := zag.tr fy12 (hp50z.2.1.mono (fun t ht => by omega))
    have hw56 := hw13.row hp50z.2.1 (by omega) hp50z.2.2
    have hd57 := hp8q.sc.kept hp50z.2.1 (by omega) (by omega)
    have fx58 := zag.tr fx11 fx52
    have hx59 : V49 (ad 1) = some (1, .inr (7, [.ref (ad 2), .ref (ad 20), .ref (ad 22), .ref (ad 24), .ref (ad 16), .ref (ad 31), .ref (ad 33), .ref (ad 35), .ref (ad 40), .ref (ad 45), .int (zI (σ 30)), .int (zI (σ 31)), .int (zI (σ 32)), .int (zI (σ 33))])) := hS51.1
    show zG C V49 0 0 82 [(0, .ref (ad 1)), (1, .ref (ad (10 + q.toNat))), (2, .int (zI (how))), (3, .ref (ad 31))] []
    refine zr_aload_n X 83 0 dX6_copyText_82 rfl rfl ?_
    refine zr_get X 86 7 4 hx59 rfl iX6 (by decide) w1 rfl rfl dX6_copyText_83 rfl ?_
    refine zr_callVe (kc' := 0) (ks' := 0) X 89 0 (e_size l Γ hw53) gX6_copyText_X5_size rfl (by decide +kernel) rfl (by decide) hw53.cl rfl rfl (Nat.le_of_ble_eq_true rfl) dX6_copyText_86 rfl (by omega) (by omega) (fun rv60 V61 hp62 => ?_)
    rw [hp62.1, hp62.2]
    show zG C V49 0 0 89 [(0, .ref (ad 1)), (1, .ref (ad (10 + q.toNat))), (2, .int (zI (how))), (3, .ref (ad 31))] [.int (zI ((σ (4 * q.toNat + 1)) - (σ (4 * q.toNat + 2))))]
    refine zr_istore X 91 [(4, .int (zI ((σ (4 * q.toNat + 1)) - (σ (4 * q.toNat + 2))))), (0, .ref (ad 1)), (1, .ref (ad (10 + q.toNat))), (2, .int (zI (how))), (3, .ref (ad 31))] dX6_copyText_89 rfl (by decide) rfl ?_
    refine zr_sub [0, 4, 3, 2, 1] [(4, .int (zI ((σ (4 * q.toNat + 1)) - (σ (4 * q.toNat + 2))))), (3, .ref (ad 31)), (2, .int (zI (how))), (1, .ref (ad (10 + q.toNat))), (0, .ref (ad 1))] rfl ?_
    have loop : ∀ (N : Nat) (V1 : zV) (p1 : Int) (r1 : Int) (n1 : Int) (f1 : Nat → Int), zS Γ V1 ad σ ∧ zfx V V1 ∧ zSq Γ V1 31 (ad 31) 32 (ad 32) 80 n1 f1 ∧ zdc f1 n1 (zws σ q.toNat) (σ (4 * q.toNat + 2)) ∧ zag (fun t => t ≠ 31 ∧ t ≠ 32 ∧ t ≠ 16 ∧ t ≠ 50) V V1 ∧ zWg Γ V1 16 (ad 16) (σ (4 * q.toNat)) (σ (4 * q.toNat + 1)) p1 (σ (4 * q.toNat + 3)) (zws σ q.toNat) ∧ σ (4 * q.toNat + 2) ≤ p1 ∧ r1 = σ (4 * q.toNat + 1) - p1 ∧ n1 = p1 - σ (4 * q.toNat + 2) → r1.toNat = N → zG C V1 0 0 91 [(4, .int (zI (r1))), (3, .ref (ad 31)), (2, .int (zI (how))), (1, .ref (ad (10 + q.toNat))), (0, .ref (ad 1))] [] := by
      intro N
      induction N using Nat.strongRecOn with
      | _ N ih =>
      intro V1 p1 r1 n1 f1 hI hN
      obtain ⟨hI1, hI2, hI3, hI4, hI5, hI6, hI7, hI8, hI9⟩ := id hI
      have hx63 : V1 (ad 1) = some (1, .inr (7, [.ref (ad 2), .ref (ad 20), .ref (ad 22), .ref (ad 24), .ref (ad 16), .ref (ad 31), .ref (ad 33), .ref (ad 35), .ref (ad 40), .ref (ad 45), .int (zI (σ 30)), .int (zI (σ 31)), .int (zI (σ 32)), .int (zI (σ 33))])) := hI1.1
      have hw64 := hI1.w (i := q.toNat) (by omega)
      have hw64r := hw64.rg
      have hDr := hI3.sc.rg
      have hIr := hI6.wi.rg
      refine zr_iload X 93 0 dX6_copyText_91 rfl rfl ?_
      refine zr_if_le X 113 96 dX6_copyText_93 rfl rfl (by omega) (fun bq65 => ?_) (fun bq65 => ?_)
      · refine zr_goto X 165 dX6_copyText_113 rfl ?_
        have hq9 := hI3
        have hz9 := hI4
        have hl9 : n1 = σ (4 * q.toNat + 1) - σ (4 * q.toNat + 2) := by omega
        rw [hl9] at hq9 hz9
        exact zr_vret X rfl ⟨rfl, hI1, hI2, hI5, _, hq9, hz9⟩ dX6_copyText_165
      · refine zr_aload_n X 97 1 dX6_copyText_96 rfl rfl ?_
        refine zr_aload_n X 98 4 dX6_copyText_97 rfl rfl ?_
        refine zr_get X 101 7 4 hx63 rfl iX6 (by decide) w1 rfl rfl dX6_copyText_98 rfl ?_
        refine zr_callVe (kc' := 0) (ks' := 0) X 104 0 (e_readG l Γ hI6 (by omega) (by omega)) gX6_copyText_X5_readSign rfl (by decide +kernel) rfl (by decide) hI6.wi.cl rfl rfl (Nat.le_of_ble_eq_true rfl) dX6_copyText_101 rfl (by omega) (by omega) (fun rv66 V67 hp68 => ?_)
        obtain ⟨hp68e, hp68a, hp68b, hp68n, hp68g⟩ := hp68
        rw [hp68e]
        have hp68z := hp68n.1
        obtain ⟨hS69, fx70⟩ := hI1.setD hp68n
        have hw71 := hp68z.1
        have hw71r := hw71.rg
        have dq72 := hI3.kept hp68z.2.1 (by omega) (by omega)
        have fy73 := zag.tr hI5 (hp68z.2.1.mono (fun t ht => by omega))
        have hw74 := hw64.row hp68z.2.1 (by omega) hp68z.2.2
        have hd75 := hI3.sc.kept hp68z.2.1 (by omega) (by omega)
        have fx76 := zag.tr hI2 fx70
        have hx77 : V67 (ad 1) = some (1, .inr (7, [.ref (ad 2), .ref (ad 20), .ref (ad 22), .ref (ad 24), .ref (ad 16), .ref (ad 31), .ref (ad 33), .ref (ad 35), .ref (ad 40), .ref (ad 45), .int (zI (σ 30)), .int (zI (σ 31)), .int (zI (σ 32)), .int (zI (σ 33))])) := hS69.1
        show zG C V67 0 0 104 [(4, .int (zI (r1))), (3, .ref (ad 31)), (2, .int (zI (how))), (1, .ref (ad (10 + q.toNat))), (0, .ref (ad 1))] [.int (zI (zws σ q.toNat p1)), .ref (ad 31)]
        refine zr_callVe (kc' := 0) (ks' := 0) X 107 1 (q_add l Γ dq72 (by decide) (by decide) (x := zws σ q.toNat p1) (by omega) (by omega)) gX6_copyText_X2_add rfl (by decide +kernel) rfl (by decide) hd75.cl rfl rfl (Nat.le_of_ble_eq_true rfl) dX6_copyText_104 rfl (by omega) (by omega) (fun rv78 V79 hp80 => ?_)
        have dz81 : zdc (zf f1 (n1 : Int).toNat (zws σ q.toNat p1)) (n1 + 1) (zws σ q.toNat) (σ (4 * q.toNat + 2)) := zdc.add (p := p1) hI4 (by omega) rfl (by omega)
        obtain ⟨hp80e, hp80q, hp80z⟩ := hp80
        rw [hp80e]
        obtain ⟨hS82, fx83⟩ := hS69.setDr hp80z
        have dz81r := hp80z.1.rg
        have ag84 := hp68g.kept hp80z.2 (by omega) (by omega)
        have fy85 := zag.tr fy73 (hp80z.2.mono (fun t ht => by omega))
        have hw86 := hw74.kept hp80z.2 (by omega) (by omega)
        have hw87 := hw71.kept hp80z.2 (by omega) (by omega)
        have fx88 := zag.tr fx76 fx83
        have hx89 : V79 (ad 1) = some (1, .inr (7, [.ref (ad 2), .ref (ad 20), .ref (ad 22), .ref (ad 24), .ref (ad 16), .ref (ad 31), .ref (ad 33), .ref (ad 35), .ref (ad 40), .ref (ad 45), .int (zI (σ 30)), .int (zI (σ 31)), .int (zI (σ 32)), .int (zI (σ 33))])) := hS82.1
        show zG C V79 0 0 107 [(4, .int (zI (r1))), (3, .ref (ad 31)), (2, .int (zI (how))), (1, .ref (ad (10 + q.toNat))), (0, .ref (ad 1))] []
        refine zr_iinc X 110 0 [(4, .int (zI (r1 + (-1)))), (3, .ref (ad 31)), (2, .int (zI (how))), (1, .ref (ad (10 + q.toNat))), (0, .ref (ad 1))] dX6_copyText_107 rfl rfl (by decide) rfl ?_
        refine zr_goto X 91 dX6_copyText_110 rfl ?_
        exact ih _ (by omega) V79 (p1 + 1) (r1 + (-1)) (n1 + 1) (zf f1 (n1 : Int).toNat (zws σ q.toNat p1)) ⟨hS82, fx88, hp80q, dz81, fy85, ag84, by omega, by omega, by omega⟩ rfl
    exact loop _ V49 (σ (4 * q.toNat + 2)) ((σ (4 * q.toNat + 1)) - (σ (4 * q.toNat + 2))) 0 dq5f ⟨hS51, fx58, dq54, dz9, fy55, hp50g, by omega, by omega, by omega⟩ rfl
  · refine zr_tsOut X 116 (by omega) dX6_copyText_5 (by omega) rfl ?_
    refine zr_aload_n X 117 1 dX6_copyText_116 rfl rfl ?_
    refine zr_callVe (kc' := 0) (ks' := 0) X 120 0 (e_size l Γ hw13) gX6_copyText_X5_size rfl (by decide +kernel) rfl (by decide) hw13.cl rfl rfl (Nat.le_of_ble_eq_true rfl) dX6_copyText_117 rfl (by omega) (by omega) (fun rv90 V91 hp92 => ?_)
    rw [hp92.1, hp92.2]
    show zG C V7 0 0 120 [(0, .ref (ad 1)), (1, .ref (ad (10 + q.toNat))), (2, .int (zI (how))), (3, .ref (ad 31))] [.int (zI ((σ (4 * q.toNat + 1)) - (σ (4 * q.toNat + 2))))]
    refine zr_iconst X 121 dX6_copyText_120 rfl ?_
    refine zr_idiv X 122 dX6_copyText_121 rfl (by omega) (by omega) ?_
    refine zr_istore X 124 [(4, .int (zI (((σ (4 * q.toNat + 1)) - (σ (4 * q.toNat + 2))) / 2))), (0, .ref (ad 1)), (1, .ref (ad (10 + q.toNat))), (2, .int (zI (how))), (3, .ref (ad 31))] dX6_copyText_122 rfl (by decide) rfl ?_
    refine zr_aload_n X 125 1 dX6_copyText_124 rfl rfl ?_
    refine zr_get X 128 7 4 hx15 rfl iX6 (by decide) w1 rfl rfl dX6_copyText_125 rfl ?_
    refine zr_aload_n X 129 2 dX6_copyText_128 rfl rfl ?_
    refine zr_iconst X 130 dX6_copyText_129 rfl ?_
    refine zr_iload X 132 0 dX6_copyText_130 rfl rfl ?_
    have wg93 := hS10.wg (i := q.toNat) (by omega)
    refine zr_callVe (kc' := 0) (ks' := 0) X 135 3 (e_partG l Γ hw14 wg93 (by omega) (zneW hw14 hw13 (by omega)) (a := 0) (b := ((σ (4 * q.toNat + 1)) - (σ (4 * q.toNat + 2))) / 2) (by omega)) gX6_copyText_X5_becomePart rfl (by decide +kernel) rfl (by decide) hw14.cl rfl rfl (Nat.le_of_ble_eq_true rfl) dX6_copyText_132 rfl (by omega) (by omega) (fun rv94 V95 hp96 => ?_)
    obtain ⟨hp96e, hp96n, hp96g⟩ := hp96
    rw [hp96e]
    have hp96z := hp96n.1
    obtain ⟨hS97, fx98⟩ := hS10.setD hp96n
    have hw99 := hp96z.1
    have hw99r := hw99.rg
    have dq100 := hp8q.kept hp96z.2.1 (by omega) (by omega)
    have fy101 := zag.tr fy12 (hp96z.2.1.mono (fun t ht => by omega))
    have hw102 := hw13.row hp96z.2.1 (by omega) hp96z.2.2
    have hd103 := hp8q.sc.kept hp96z.2.1 (by omega) (by omega)
    have fx104 := zag.tr fx11 fx98
    have hx105 : V95 (ad 1) = some (1, .inr (7, [.ref (ad 2), .ref (ad 20), .ref (ad 22), .ref (ad 24), .ref (ad 16), .ref (ad 31), .ref (ad 33), .ref (ad 35), .ref (ad 40), .ref (ad 45), .int (zI (σ 30)), .int (zI (σ 31)), .int (zI (σ 32)), .int (zI (σ 33))])) := hS97.1
    show zG C V95 0 0 135 [(4, .int (zI (((σ (4 * q.toNat + 1)) - (σ (4 * q.toNat + 2))) / 2))), (0, .ref (ad 1)), (1, .ref (ad (10 + q.toNat))), (2, .int (zI (how))), (3, .ref (ad 31))] []
    refine zr_aload_n X 136 4 dX6_copyText_135 rfl rfl ?_
    refine zr_aload_n X 137 1 dX6_copyText_136 rfl rfl ?_
    refine zr_get X 140 7 4 hx105 rfl iX6 (by decide) w1 rfl rfl dX6_copyText_137 rfl ?_
    obtain ⟨t106r, t106e, t106e2, t106h, t106T, t106o, t106q, t106s⟩ := hp96g.tx
    have t106g := t106T.rg
    have t106c := True.intro
    refine zr_callVe (kc' := 0) (ks' := 0) X 143 1 (q_append l Γ dq100 (by decide) (by decide) t106T t106o t106q (by omega) (by omega)) gX6_copyText_X2_append rfl (by decide +kernel) rfl (by decide) hd103.cl rfl rfl (Nat.le_of_ble_eq_true rfl) dX6_copyText_140 rfl (by omega) (by omega) (fun rv107 V108 hp109 => ?_)
    have dz110 : zdc (zap dq5f (0) (((σ (4 * q.toNat + 2)) + (((σ (4 * q.toNat + 1)) - (σ (4 * q.toNat + 2))) / 2)) - ((σ (4 * q.toNat + 2)) + 0)) t106h) (0 + (((σ (4 * q.toNat + 2)) + (((σ (4 * q.toNat + 1)) - (σ (4 * q.toNat + 2))) / 2)) - ((σ (4 * q.toNat + 2)) + 0))) (zws σ q.toNat) (σ (4 * q.toNat + 2)) := zdc.app dz9 (by omega) t106s (by omega)
    obtain ⟨hp109e, hp109q, hp109z⟩ := hp109
    rw [hp109e]
    obtain ⟨hS111, fx112⟩ := hS97.setDr hp109z
    have dz110r := hp109z.1.rg
    have ag113 := hp96g.kept hp109z.2 (by omega) (by omega)
    have fy114 := zag.tr fy101 (hp109z.2.mono (fun t ht => by omega))
    have hw115 := hw102.kept hp109z.2 (by omega) (by omega)
    have hw116 := hw99.kept hp109z.2 (by omega) (by omega)
    have fx117 := zag.tr fx104 fx112
    have hx118 : V108 (ad 1) = some (1, .inr (7, [.ref (ad 2), .ref (ad 20), .ref (ad 22), .ref (ad 24), .ref (ad 16), .ref (ad 31), .ref (ad 33), .ref (ad 35), .ref (ad 40), .ref (ad 45), .int (zI (σ 30)), .int (zI (σ 31)), .int (zI (σ 32)), .int (zI (σ 33))])) := hS111.1
    show zG C V108 0 0 143 [(4, .int (zI (((σ (4 * q.toNat + 1)) - (σ (4 * q.toNat + 2))) / 2))), (0, .ref (ad 1)), (1, .ref (ad (10 + q.toNat))), (2, .int (zI (how))), (3, .ref (ad 31))] []
    refine zr_aload_n X 144 1 dX6_copyText_143 rfl rfl ?_
    refine zr_get X 147 7 4 hx118 rfl iX6 (by decide) w1 rfl rfl dX6_copyText_144 rfl ?_
    refine zr_aload_n X 148 2 dX6_copyText_147 rfl rfl ?_
    refine zr_iload X 150 0 dX6_copyText_148 rfl rfl ?_
    refine zr_aload_n X 151 2 dX6_copyText_150 rfl rfl ?_
    refine zr_callVe (kc' := 0) (ks' := 0) X 154 0 (e_size l Γ hw115) gX6_copyText_X5_size rfl (by decide +kernel) rfl (by decide) hw115.cl rfl rfl (Nat.le_of_ble_eq_true rfl) dX6_copyText_151 rfl (by omega) (by omega) (fun rv119 V120 hp121 => ?_)
    rw [hp121.1, hp121.2]
    show zG C V108 0 0 154 [(4, .int (zI (((σ (4 * q.toNat + 1)) - (σ (4 * q.toNat + 2))) / 2))), (0, .ref (ad 1)), (1, .ref (ad (10 + q.toNat))), (2, .int (zI (how))), (3, .ref (ad 31))] [.int (zI ((σ (4 * q.toNat + 1)) - (σ (4 * q.toNat + 2)))), .int (zI (((σ (4 * q.toNat + 1)) - (σ (4 * q.toNat + 2))) / 2)), .ref (ad (10 + q.toNat)), .ref (ad 16)]
    have wg122 := hS111.wg (i := q.toNat) (by omega)
    refine zr_callVe (kc' := 0) (ks' := 0) X 157 3 (e_partG l Γ hw116 wg122 (by omega) (zneW hw116 hw115 (by omega)) (a := ((σ (4 * q.toNat + 1)) - (σ (4 * q.toNat + 2))) / 2) (b := (σ (4 * q.toNat + 1)) - (σ (4 * q.toNat + 2))) (by omega)) gX6_copyText_X5_becomePart rfl (by decide +kernel) rfl (by decide) hw116.cl rfl rfl (Nat.le_of_ble_eq_true rfl) dX6_copyText_154 rfl (by omega) (by omega) (fun rv123 V124 hp125 => ?_)
    obtain ⟨hp125e, hp125n, hp125g⟩ := hp125
    rw [hp125e]
    have hp125z := hp125n.1
    obtain ⟨hS126, fx127⟩ := hS111.setD hp125n
    have hw128 := hp125z.1
    have hw128r := hw128.rg
    have dq129 := hp109q.kept hp125z.2.1 (by omega) (by omega)
    have fy130 := zag.tr fy114 (hp125z.2.1.mono (fun t ht => by omega))
    have hw131 := hw115.row hp125z.2.1 (by omega) hp125z.2.2
    have hd132 := hp109q.sc.kept hp125z.2.1 (by omega) (by omega)
    have fx133 := zag.tr fx117 fx127
    have hx134 : V124 (ad 1) = some (1, .inr (7, [.ref (ad 2), .ref (ad 20), .ref (ad 22), .ref (ad 24), .ref (ad 16), .ref (ad 31), .ref (ad 33), .ref (ad 35), .ref (ad 40), .ref (ad 45), .int (zI (σ 30)), .int (zI (σ 31)), .int (zI (σ 32)), .int (zI (σ 33))])) := hS126.1
    show zG C V124 0 0 157 [(4, .int (zI (((σ (4 * q.toNat + 1)) - (σ (4 * q.toNat + 2))) / 2))), (0, .ref (ad 1)), (1, .ref (ad (10 + q.toNat))), (2, .int (zI (how))), (3, .ref (ad 31))] []
    refine zr_aload_n X 158 4 dX6_copyText_157 rfl rfl ?_
    refine zr_aload_n X 159 1 dX6_copyText_158 rfl rfl ?_
    refine zr_get X 162 7 4 hx134 rfl iX6 (by decide) w1 rfl rfl dX6_copyText_159 rfl ?_
    obtain ⟨t135r, t135e, t135e2, t135h, t135T, t135o, t135q, t135s⟩ := hp125g.tx
    have t135g := t135T.rg
    have t135c := True.intro
    refine zr_callVe (kc' := 0) (ks' := 0) X 165 1 (q_append l Γ dq129 (by decide) (by decide) t135T t135o t135q (by omega) (by omega)) gX6_copyText_X2_append rfl (by decide +kernel) rfl (by decide) hd132.cl rfl rfl (Nat.le_of_ble_eq_true rfl) dX6_copyText_162 rfl (by omega) (by omega) (fun rv136 V137 hp138 => ?_)
    have dz139 : zdc (zap (zap dq5f (0) (((σ (4 * q.toNat + 2)) + (((σ (4 * q.toNat + 1)) - (σ (4 * q.toNat + 2))) / 2)) - ((σ (4 * q.toNat + 2)) + 0)) t106h) (0 + (((σ (4 * q.toNat + 2)) + (((σ (4 * q.toNat + 1)) - (σ (4 * q.toNat + 2))) / 2)) - ((σ (4 * q.toNat + 2)) + 0))) (((σ (4 * q.toNat + 2)) + ((σ (4 * q.toNat + 1)) - (σ (4 * q.toNat + 2)))) - ((σ (4 * q.toNat + 2)) + (((σ (4 * q.toNat + 1)) - (σ (4 * q.toNat + 2))) / 2))) t135h) (0 + (((σ (4 * q.toNat + 2)) + (((σ (4 * q.toNat + 1)) - (σ (4 * q.toNat + 2))) / 2)) - ((σ (4 * q.toNat + 2)) + 0)) + (((σ (4 * q.toNat + 2)) + ((σ (4 * q.toNat + 1)) - (σ (4 * q.toNat + 2)))) - ((σ (4 * q.toNat + 2)) + (((σ (4 * q.toNat + 1)) - (σ (4 * q.toNat + 2))) / 2)))) (zws σ q.toNat) (σ (4 * q.toNat + 2)) := zdc.app dz110 (by omega) t135s (by omega)
    obtain ⟨hp138e, hp138q, hp138z⟩ := hp138
    rw [hp138e]
    obtain ⟨hS140, fx141⟩ := hS126.setDr hp138z
    have dz139r := hp138z.1.rg
    have ag142 := hp125g.kept hp138z.2 (by omega) (by omega)
    have fy143 := zag.tr fy130 (hp138z.2.mono (fun t ht => by omega))
    have hw144 := hw131.kept hp138z.2 (by omega) (by omega)
    have hw145 := hw128.kept hp138z.2 (by omega) (by omega)
    have fx146 := zag.tr fx133 fx141
    have hx147 : V137 (ad 1) = some (1, .inr (7, [.ref (ad 2), .ref (ad 20), .ref (ad 22), .ref (ad 24), .ref (ad 16), .ref (ad 31), .ref (ad 33), .ref (ad 35), .ref (ad 40), .ref (ad 45), .int (zI (σ 30)), .int (zI (σ 31)), .int (zI (σ 32)), .int (zI (σ 33))])) := hS140.1
    show zG C V137 0 0 165 [(4, .int (zI (((σ (4 * q.toNat + 1)) - (σ (4 * q.toNat + 2))) / 2))), (0, .ref (ad 1)), (1, .ref (ad (10 + q.toNat))), (2, .int (zI (how))), (3, .ref (ad 31))] []
    have hq9 := hp138q
    have hz9 := dz139
    have hl9 : 0 + (((σ (4 * q.toNat + 2)) + (((σ (4 * q.toNat + 1)) - (σ (4 * q.toNat + 2))) / 2)) - ((σ (4 * q.toNat + 2)) + 0)) + (((σ (4 * q.toNat + 2)) + ((σ (4 * q.toNat + 1)) - (σ (4 * q.toNat + 2)))) - ((σ (4 * q.toNat + 2)) + (((σ (4 * q.toNat + 1)) - (σ (4 * q.toNat + 2))) / 2))) = σ (4 * q.toNat + 1) - σ (4 * q.toNat + 2) := by omega
    rw [hl9] at hq9 hz9
    exact zr_vret X rfl ⟨rfl, hS140, fx146, fy143, _, hq9, hz9⟩ dX6_copyText_165
set_option maxRecDepth 100000 in
set_option maxHeartbeats 4000000 in
theorem m_X6_copyText_s (l : Launch) (Γ : zGam) {V : zV} {ad : Nat → Nat} {σ : Nat → Int} {q how : Int} (hS : zS Γ V ad σ) (hq : 0 ≤ q ∧ q < 6) (hh : 0 ≤ how ∧ how ≤ 3) : zM l Γ 6 yX6_copyText wsX6_copyText 0 0 V [.ref (ad 1), .ref (ad (10 + q.toNat)), .int (zI (how)), .ref (ad 33)] (fun rv V' => rv = none ∧ zS Γ V' ad σ ∧ zfx V V' ∧ zag (fun t => t ≠ 33 ∧ t ≠ 34 ∧ t ≠ 16 ∧ t ≠ 50) V V' ∧ ∃ f : Nat → Int, zSq Γ V' 33 (ad 33) 34 (ad 34) 80 (σ (4 * q.toNat + 1) - σ (4 * q.toNat + 2)) f ∧ zdc f (σ (4 * q.toNat + 1) - σ (4 * q.toNat + 2)) (zws σ q.toNat) (σ (4 * q.toNat + 2))) := by
  have iX5 : ∀ w ∈ u_ws RX5 TX5 6, w ∈ wsX6_copyText := by decide +kernel
  have w1 : Cond.fieldLink RX6 35 "Sashwords" "aside" "LSashwords$Window;" ∈ wsX6_copyText := by decide +kernel
  have iX6 : ∀ w ∈ u_ws RX6 TX6 14, w ∈ wsX6_copyText := by decide +kernel
  refine zM_of (cc := cX6_copyText) (nL := 5) (ret := none) (own := RX6) (by decide +kernel) rfl rfl (Nat.le_of_ble_eq_true rfl) (fun C X hi0 => ?_)
  have hx1 : V (ad 1) = some (1, .inr (7, [.ref (ad 2), .ref (ad 20), .ref (ad 22), .ref (ad 24), .ref (ad 16), .ref (ad 31), .ref (ad 33), .ref (ad 35), .ref (ad 40), .ref (ad 45), .int (zI (σ 30)), .int (zI (σ 31)), .int (zI (σ 32)), .int (zI (σ 33))])) := hS.1
  have hw2 := hS.w (i := q.toNat) (by omega)
  have hw2r := hw2.rg
  obtain ⟨as3c, as3l, as3p, as3m, as3⟩ := hS.2.2.2.1
  have as3r := as3.rg
  obtain ⟨dr4n, dr4⟩ := hS.2.2.2.2.1.2.2.2
  have dr4r := dr4.rg
  obtain ⟨dq5f, dq5⟩ := dr4.sq
  show zG C V 0 0 0 [(0, .ref (ad 1)), (1, .ref (ad (10 + q.toNat))), (2, .int (zI (how))), (3, .ref (ad 33))] []
  refine zr_aload_n X 1 3 dX6_copyText_0 rfl rfl ?_
  refine zr_callVe (kc' := 0) (ks' := 0) X 4 0 (q_clear l Γ dq5 (by decide)) gX6_copyText_X2_clear rfl (by decide +kernel) rfl (by decide) dr4.cl rfl rfl (Nat.le_of_ble_eq_true rfl) dX6_copyText_1 rfl (by omega) (by omega) (fun rv6 V7 hp8 => ?_)
  have dz9 : zdc (dq5f) (0) (zws σ q.toNat) (σ (4 * q.toNat + 2)) := zdc_0
  obtain ⟨hp8e, hp8q, hp8z⟩ := hp8
  rw [hp8e]
  obtain ⟨hS10, fx11⟩ := hS.setSd hp8z
  have dz9r := hp8z.1.rg
  have fy12 := zag.tr (zag.rf (P := fun t => t ≠ 33 ∧ t ≠ 34 ∧ t ≠ 16 ∧ t ≠ 50)) (hp8z.2.mono (fun t ht => by omega))
  have hw13 := hw2.kept hp8z.2 (by omega) (by omega)
  have hw14 := as3.kept hp8z.2 (by omega) (by omega)
  have hx15 : V7 (ad 1) = some (1, .inr (7, [.ref (ad 2), .ref (ad 20), .ref (ad 22), .ref (ad 24), .ref (ad 16), .ref (ad 31), .ref (ad 33), .ref (ad 35), .ref (ad 40), .ref (ad 45), .int (zI (σ 30)), .int (zI (σ 31)), .int (zI (σ 32)), .int (zI (σ 33))])) := hS10.1
  show zG C V7 0 0 4 [(0, .ref (ad 1)), (1, .ref (ad (10 + q.toNat))), (2, .int (zI (how))), (3, .ref (ad 33))] []
  refine zr_iload_n X 5 2 dX6_copyText_4 rfl rfl ?_
  rcases (by omega : how = 0 ∨ how = 1 ∨ how = 2 ∨ ¬ (0 ≤ how ∧ how < 3)) with ts16 | ts16 | ts16 | ts16
  · refine zr_tsIn X 32 0 ts16 (by decide) dX6_copyText_5 (by decide) (by decide) rfl rfl ?_
    refine zr_aload_n X 33 3 dX6_copyText_32 rfl rfl ?_
    refine zr_aload_n X 34 1 dX6_copyText_33 rfl rfl ?_
    have wg18 := hS10.wg (i := q.toNat) (by omega)
    obtain ⟨t17r, t17e, t17e2, t17h, t17T, t17o, t17q, t17s⟩ := wg18.tx
    have t17g := t17T.rg
    have t17c := True.intro
    refine zr_callVe (kc' := 0) (ks' := 0) X 37 1 (q_append l Γ hp8q (by decide) (by decide) t17T t17o t17q (by omega) (by omega)) gX6_copyText_X2_append rfl (by decide +kernel) rfl (by decide) hp8q.sc.cl rfl rfl (Nat.le_of_ble_eq_true rfl) dX6_copyText_34 rfl (by omega) (by omega) (fun rv19 V20 hp21 => ?_)
    have dz22 : zdc (zap dq5f (0) ((σ (4 * q.toNat + 1)) - (σ (4 * q.toNat + 2))) t17h) (0 + ((σ (4 * q.toNat + 1)) - (σ (4 * q.toNat + 2)))) (zws σ q.toNat) (σ (4 * q.toNat + 2)) := zdc.app dz9 (by omega) t17s (by omega)
    obtain ⟨hp21e, hp21q, hp21z⟩ := hp21
    rw [hp21e]
    obtain ⟨hS23, fx24⟩ := hS10.setSd hp21z
    have dz22r := hp21z.1.rg
    have fy25 := zag.tr fy12 (hp21z.2.mono (fun t ht => by omega))
    have hw26 := hw13.kept hp21z.2 (by omega) (by omega)
    have hw27 := hw14.kept hp21z.2 (by omega) (by omega)
    have fx28 := zag.tr fx11 fx24
    have hx29 : V20 (ad 1) = some (1, .inr (7, [.ref (ad 2), .ref (ad 20), .ref (ad 22), .ref (ad 24), .ref (ad 16), .ref (ad 31), .ref (ad 33), .ref (ad 35), .ref (ad 40), .ref (ad 45), .int (zI (σ 30)), .int (zI (σ 31)), .int (zI (σ 32)), .int (zI (σ 33))])) := hS23.1
    show zG C V20 0 0 37 [(0, .ref (ad 1)), (1, .ref (ad (10 + q.toNat))), (2, .int (zI (how))), (3, .ref (ad 33))] []
    refine zr_goto X 165 dX6_copyText_37 rfl ?_
    have hq9 := hp21q
    have hz9 := dz22
    have hl9 : 0 + ((σ (4 * q.toNat + 1)) - (σ (4 * q.toNat + 2))) = σ (4 * q.toNat + 1) - σ (4 * q.toNat + 2) := by omega
    rw [hl9] at hq9 hz9
    exact zr_vret X rfl ⟨rfl, hS23, fx28, fy25, _, hq9, hz9⟩ dX6_copyText_165
  · refine zr_tsIn X 40 1 ts16 (by decide) dX6_copyText_5 (by decide) (by decide) rfl rfl ?_
    refine zr_aload_n X 41 1 dX6_copyText_40 rfl rfl ?_
    refine zr_getNw X 44 4 5 hw13 (σ (4 * q.toNat + 2)) (by simp) iX5 rfl dX6_copyText_41 rfl ?_
    refine zr_istore X 46 [(4, .int (zI (σ (4 * q.toNat + 2)))), (0, .ref (ad 1)), (1, .ref (ad (10 + q.toNat))), (2, .int (zI (how))), (3, .ref (ad 33))] dX6_copyText_44 rfl (by decide) rfl ?_
    refine zr_sub [0, 4, 3, 2, 1] [(4, .int (zI (σ (4 * q.toNat + 2)))), (3, .ref (ad 33)), (2, .int (zI (how))), (1, .ref (ad (10 + q.toNat))), (0, .ref (ad 1))] rfl ?_
    have loop : ∀ (N : Nat) (V1 : zV) (p1 : Int) (n1 : Int) (f1 : Nat → Int), zS Γ V1 ad σ ∧ zfx V V1 ∧ zSq Γ V1 33 (ad 33) 34 (ad 34) 80 n1 f1 ∧ zdc f1 n1 (zws σ q.toNat) (σ (4 * q.toNat + 2)) ∧ zag (fun t => t ≠ 33 ∧ t ≠ 34 ∧ t ≠ 16 ∧ t ≠ 50) V V1 ∧ σ (4 * q.toNat + 2) ≤ p1 ∧ p1 ≤ σ (4 * q.toNat + 1) ∧ n1 = p1 - σ (4 * q.toNat + 2) → (σ (4 * q.toNat + 1) - p1).toNat = N → zG C V1 0 0 46 [(4, .int (zI (p1))), (3, .ref (ad 33)), (2, .int (zI (how))), (1, .ref (ad (10 + q.toNat))), (0, .ref (ad 1))] [] := by
      intro N
      induction N using Nat.strongRecOn with
      | _ N ih =>
      intro V1 p1 n1 f1 hI hN
      obtain ⟨hI1, hI2, hI3, hI4, hI5, hI6, hI7, hI8⟩ := id hI
      have hx30 : V1 (ad 1) = some (1, .inr (7, [.ref (ad 2), .ref (ad 20), .ref (ad 22), .ref (ad 24), .ref (ad 16), .ref (ad 31), .ref (ad 33), .ref (ad 35), .ref (ad 40), .ref (ad 45), .int (zI (σ 30)), .int (zI (σ 31)), .int (zI (σ 32)), .int (zI (σ 33))])) := hI1.1
      have hw31 := hI1.w (i := q.toNat) (by omega)
      have hw31r := hw31.rg
      have hDr := hI3.sc.rg
      refine zr_iload X 48 0 dX6_copyText_46 rfl rfl ?_
      refine zr_aload_n X 49 3 dX6_copyText_48 rfl rfl ?_
      refine zr_getNw X 52 3 4 hw31 (σ (4 * q.toNat + 1)) (by simp) iX5 rfl dX6_copyText_49 rfl ?_
      refine zr_icmp_ge X 71 55 dX6_copyText_52 rfl rfl (by omega) (by omega) (fun bq32 => ?_) (fun bq32 => ?_)
      · refine zr_goto X 165 dX6_copyText_71 rfl ?_
        have hq9 := hI3
        have hz9 := hI4
        have hl9 : n1 = σ (4 * q.toNat + 1) - σ (4 * q.toNat + 2) := by omega
        rw [hl9] at hq9 hz9
        exact zr_vret X rfl ⟨rfl, hI1, hI2, hI5, _, hq9, hz9⟩ dX6_copyText_165
      · refine zr_aload_n X 56 1 dX6_copyText_55 rfl rfl ?_
        refine zr_aload_n X 57 3 dX6_copyText_56 rfl rfl ?_
        refine zr_iload X 59 0 dX6_copyText_57 rfl rfl ?_
        have wg36 := hI1.wg (i := q.toNat) (by omega)
        refine zr_callVe (kc' := 0) (ks' := 0) X 62 1 (e_atPlaceG l Γ wg36 (k := p1) (by omega)) gX6_copyText_X5_atPlace rfl (by decide +kernel) rfl (by decide) hw31.cl rfl rfl (Nat.le_of_ble_eq_true rfl) dX6_copyText_59 rfl (by omega) (by omega) (fun rv33 V34 hp35 => ?_)
        obtain ⟨hp35e, hp35v, hp35a, hp35b⟩ := hp35
        rw [hp35e, hp35v]
        show zG C V1 0 0 62 [(4, .int (zI (p1))), (3, .ref (ad 33)), (2, .int (zI (how))), (1, .ref (ad (10 + q.toNat))), (0, .ref (ad 1))] [.int (zI (zws σ q.toNat p1)), .ref (ad 33)]
        refine zr_callVe (kc' := 0) (ks' := 0) X 65 1 (q_add l Γ hI3 (by decide) (by decide) (x := zws σ q.toNat p1) (by omega) (by omega)) gX6_copyText_X2_add rfl (by decide +kernel) rfl (by decide) hI3.sc.cl rfl rfl (Nat.le_of_ble_eq_true rfl) dX6_copyText_62 rfl (by omega) (by omega) (fun rv37 V38 hp39 => ?_)
        have dz40 : zdc (zf f1 (n1 : Int).toNat (zws σ q.toNat p1)) (n1 + 1) (zws σ q.toNat) (σ (4 * q.toNat + 2)) := zdc.add (p := p1) hI4 (by omega) rfl (by omega)
        obtain ⟨hp39e, hp39q, hp39z⟩ := hp39
        rw [hp39e]
        obtain ⟨hS41, fx42⟩ := hI1.setSd hp39z
        have dz40r := hp39z.1.rg
        have fy43 := zag.tr hI5 (hp39z.2.mono (fun t ht => by omega))
        have hw44 := hw31.kept hp39z.2 (by omega) (by omega)
        have fx45 := zag.tr hI2 fx42
        have hx46 : V38 (ad 1) = some (1, .inr (7, [.ref (ad 2), .ref (ad 20), .ref (ad 22), .ref (ad 24), .ref (ad 16), .ref (ad 31), .ref (ad 33), .ref (ad 35), .ref (ad 40), .ref (ad 45), .int (zI (σ 30)), .int (zI (σ 31)), .int (zI (σ 32)), .int (zI (σ 33))])) := hS41.1
        show zG C V38 0 0 65 [(4, .int (zI (p1))), (3, .ref (ad 33)), (2, .int (zI (how))), (1, .ref (ad (10 + q.toNat))), (0, .ref (ad 1))] []
        refine zr_iinc X 68 0 [(4, .int (zI (p1 + 1))), (3, .ref (ad 33)), (2, .int (zI (how))), (1, .ref (ad (10 + q.toNat))), (0, .ref (ad 1))] dX6_copyText_65 rfl rfl (by decide) rfl ?_
        refine zr_goto X 46 dX6_copyText_68 rfl ?_
        exact ih _ (by omega) V38 (p1 + 1) (n1 + 1) (zf f1 (n1 : Int).toNat (zws σ q.toNat p1)) ⟨hS41, fx45, hp39q, dz40, fy43, by omega, by omega, by omega⟩ rfl
    exact loop _ V7 (σ (4 * q.toNat + 2)) 0 dq5f ⟨hS10, fx11, hp8q, dz9, fy12, by omega, by omega, by omega⟩ rfl
  · refine zr_tsIn X 74 2 ts16 (by decide) dX6_copyText_5 (by decide) (by decide) rfl rfl ?_
    refine zr_aload_n X 75 0 dX6_copyText_74 rfl rfl ?_
    refine zr_get X 78 7 4 hx15 rfl iX6 (by decide) w1 rfl rfl dX6_copyText_75 rfl ?_
    refine zr_aload_n X 79 1 dX6_copyText_78 rfl rfl ?_
    have wg47 := hS10.wg (i := q.toNat) (by omega)
    refine zr_callVe (kc' := 0) (ks' := 0) X 82 1 (e_likeG l Γ hw14 wg47 (by omega) (zneW hw14 hw13 (by omega))) gX6_copyText_X5_becomeLike rfl (by decide +kernel) rfl (by decide) hw14.cl rfl rfl (Nat.le_of_ble_eq_true rfl) dX6_copyText_79 rfl (by omega) (by omega) (fun rv48 V49 hp50 => ?_)
    obtain ⟨hp50e, hp50n, hp50g⟩ := hp50
    rw [hp50e]
    have hp50z := hp50n.1
    obtain ⟨hS51, fx52⟩ := hS10.setD hp50n
    have hw53 := hp50z.1
    have hw53r := hw53.rg
    have dq54 := hp8q.kept hp50z.2.1 (by omega) (by omega)
    have fy55 := zag.tr fy12 (hp50z.2.1.mono (fun t ht => by omega))
    have hw56 := hw13.row hp50z.2.1 (by omega) hp50z.2.2
    have hd57 := hp8q.sc.kept hp50z.2.1 (by omega) (by omega)
    have fx58 := zag.tr fx11 fx52
    have hx59 : V49 (ad 1) = some (1, .inr (7, [.ref (ad 2), .ref (ad 20), .ref (ad 22), .ref (ad 24), .ref (ad 16), .ref (ad 31), .ref (ad 33), .ref (ad 35), .ref (ad 40), .ref (ad 45), .int (zI (σ 30)), .int (zI (σ 31)), .int (zI (σ 32)), .int (zI (σ 33))])) := hS51.1
    show zG C V49 0 0 82 [(0, .ref (ad 1)), (1, .ref (ad (10 + q.toNat))), (2, .int (zI (how))), (3, .ref (ad 33))] []
    refine zr_aload_n X 83 0 dX6_copyText_82 rfl rfl ?_
    refine zr_get X 86 7 4 hx59 rfl iX6 (by decide) w1 rfl rfl dX6_copyText_83 rfl ?_
    refine zr_callVe (kc' := 0) (ks' := 0) X 89 0 (e_size l Γ hw53) gX6_copyText_X5_size rfl (by decide +kernel) rfl (by decide) hw53.cl rfl rfl (Nat.le_of_ble_eq_true rfl) dX6_copyText_86 rfl (by omega) (by omega) (fun rv60 V61 hp62 => ?_)
    rw [hp62.1, hp62.2]
    show zG C V49 0 0 89 [(0, .ref (ad 1)), (1, .ref (ad (10 + q.toNat))), (2, .int (zI (how))), (3, .ref (ad 33))] [.int (zI ((σ (4 * q.toNat + 1)) - (σ (4 * q.toNat + 2))))]
    refine zr_istore X 91 [(4, .int (zI ((σ (4 * q.toNat + 1)) - (σ (4 * q.toNat + 2))))), (0, .ref (ad 1)), (1, .ref (ad (10 + q.toNat))), (2, .int (zI (how))), (3, .ref (ad 33))] dX6_copyText_89 rfl (by decide) rfl ?_
    refine zr_sub [0, 4, 3, 2, 1] [(4, .int (zI ((σ (4 * q.toNat + 1)) - (σ (4 * q.toNat + 2))))), (3, .ref (ad 33)), (2, .int (zI (how))), (1, .ref (ad (10 + q.toNat))), (0, .ref (ad 1))] rfl ?_
    have loop : ∀ (N : Nat) (V1 : zV) (p1 : Int) (r1 : Int) (n1 : Int) (f1 : Nat → Int), zS Γ V1 ad σ ∧ zfx V V1 ∧ zSq Γ V1 33 (ad 33) 34 (ad 34) 80 n1 f1 ∧ zdc f1 n1 (zws σ q.toNat) (σ (4 * q.toNat + 2)) ∧ zag (fun t => t ≠ 33 ∧ t ≠ 34 ∧ t ≠ 16 ∧ t ≠ 50) V V1 ∧ zWg Γ V1 16 (ad 16) (σ (4 * q.toNat)) (σ (4 * q.toNat + 1)) p1 (σ (4 * q.toNat + 3)) (zws σ q.toNat) ∧ σ (4 * q.toNat + 2) ≤ p1 ∧ r1 = σ (4 * q.toNat + 1) - p1 ∧ n1 = p1 - σ (4 * q.toNat + 2) → r1.toNat = N → zG C V1 0 0 91 [(4, .int (zI (r1))), (3, .ref (ad 33)), (2, .int (zI (how))), (1, .ref (ad (10 + q.toNat))), (0, .ref (ad 1))] [] := by
      intro N
      induction N using Nat.strongRecOn with
      | _ N ih =>
      intro V1 p1 r1 n1 f1 hI hN
      obtain ⟨hI1, hI2, hI3, hI4, hI5, hI6, hI7, hI8, hI9⟩ := id hI
      have hx63 : V1 (ad 1) = some (1, .inr (7, [.ref (ad 2), .ref (ad 20), .ref (ad 22), .ref (ad 24), .ref (ad 16), .ref (ad 31), .ref (ad 33), .ref (ad 35), .ref (ad 40), .ref (ad 45), .int (zI (σ 30)), .int (zI (σ 31)), .int (zI (σ 32)), .int (zI (σ 33))])) := hI1.1
      have hw64 := hI1.w (i := q.toNat) (by omega)
      have hw64r := hw64.rg
      have hDr := hI3.sc.rg
      have hIr := hI6.wi.rg
      refine zr_iload X 93 0 dX6_copyText_91 rfl rfl ?_
      refine zr_if_le X 113 96 dX6_copyText_93 rfl rfl (by omega) (fun bq65 => ?_) (fun bq65 => ?_)
      · refine zr_goto X 165 dX6_copyText_113 rfl ?_
        have hq9 := hI3
        have hz9 := hI4
        have hl9 : n1 = σ (4 * q.toNat + 1) - σ (4 * q.toNat + 2) := by omega
        rw [hl9] at hq9 hz9
        exact zr_vret X rfl ⟨rfl, hI1, hI2, hI5, _, hq9, hz9⟩ dX6_copyText_165
      · refine zr_aload_n X 97 1 dX6_copyText_96 rfl rfl ?_
        refine zr_aload_n X 98 4 dX6_copyText_97 rfl rfl ?_
        refine zr_get X 101 7 4 hx63 rfl iX6 (by decide) w1 rfl rfl dX6_copyText_98 rfl ?_
        refine zr_callVe (kc' := 0) (ks' := 0) X 104 0 (e_readG l Γ hI6 (by omega) (by omega)) gX6_copyText_X5_readSign rfl (by decide +kernel) rfl (by decide) hI6.wi.cl rfl rfl (Nat.le_of_ble_eq_true rfl) dX6_copyText_101 rfl (by omega) (by omega) (fun rv66 V67 hp68 => ?_)
        obtain ⟨hp68e, hp68a, hp68b, hp68n, hp68g⟩ := hp68
        rw [hp68e]
        have hp68z := hp68n.1
        obtain ⟨hS69, fx70⟩ := hI1.setD hp68n
        have hw71 := hp68z.1
        have hw71r := hw71.rg
        have dq72 := hI3.kept hp68z.2.1 (by omega) (by omega)
        have fy73 := zag.tr hI5 (hp68z.2.1.mono (fun t ht => by omega))
        have hw74 := hw64.row hp68z.2.1 (by omega) hp68z.2.2
        have hd75 := hI3.sc.kept hp68z.2.1 (by omega) (by omega)
        have fx76 := zag.tr hI2 fx70
        have hx77 : V67 (ad 1) = some (1, .inr (7, [.ref (ad 2), .ref (ad 20), .ref (ad 22), .ref (ad 24), .ref (ad 16), .ref (ad 31), .ref (ad 33), .ref (ad 35), .ref (ad 40), .ref (ad 45), .int (zI (σ 30)), .int (zI (σ 31)), .int (zI (σ 32)), .int (zI (σ 33))])) := hS69.1
        show zG C V67 0 0 104 [(4, .int (zI (r1))), (3, .ref (ad 33)), (2, .int (zI (how))), (1, .ref (ad (10 + q.toNat))), (0, .ref (ad 1))] [.int (zI (zws σ q.toNat p1)), .ref (ad 33)]
        refine zr_callVe (kc' := 0) (ks' := 0) X 107 1 (q_add l Γ dq72 (by decide) (by decide) (x := zws σ q.toNat p1) (by omega) (by omega)) gX6_copyText_X2_add rfl (by decide +kernel) rfl (by decide) hd75.cl rfl rfl (Nat.le_of_ble_eq_true rfl) dX6_copyText_104 rfl (by omega) (by omega) (fun rv78 V79 hp80 => ?_)
        have dz81 : zdc (zf f1 (n1 : Int).toNat (zws σ q.toNat p1)) (n1 + 1) (zws σ q.toNat) (σ (4 * q.toNat + 2)) := zdc.add (p := p1) hI4 (by omega) rfl (by omega)
        obtain ⟨hp80e, hp80q, hp80z⟩ := hp80
        rw [hp80e]
        obtain ⟨hS82, fx83⟩ := hS69.setSd hp80z
        have dz81r := hp80z.1.rg
        have ag84 := hp68g.kept hp80z.2 (by omega) (by omega)
        have fy85 := zag.tr fy73 (hp80z.2.mono (fun t ht => by omega))
        have hw86 := hw74.kept hp80z.2 (by omega) (by omega)
        have hw87 := hw71.kept hp80z.2 (by omega) (by omega)
        have fx88 := zag.tr fx76 fx83
        have hx89 : V79 (ad 1) = some (1, .inr (7, [.ref (ad 2), .ref (ad 20), .ref (ad 22), .ref (ad 24), .ref (ad 16), .ref (ad 31), .ref (ad 33), .ref (ad 35), .ref (ad 40), .ref (ad 45), .int (zI (σ 30)), .int (zI (σ 31)), .int (zI (σ 32)), .int (zI (σ 33))])) := hS82.1
        show zG C V79 0 0 107 [(4, .int (zI (r1))), (3, .ref (ad 33)), (2, .int (zI (how))), (1, .ref (ad (10 + q.toNat))), (0, .ref (ad 1))] []
        refine zr_iinc X 110 0 [(4, .int (zI (r1 + (-1)))), (3, .ref (ad 33)), (2, .int (zI (how))), (1, .ref (ad (10 + q.toNat))), (0, .ref (ad 1))] dX6_copyText_107 rfl rfl (by decide) rfl ?_
        refine zr_goto X 91 dX6_copyText_110 rfl ?_
        exact ih _ (by omega) V79 (p1 + 1) (r1 + (-1)) (n1 + 1) (zf f1 (n1 : Int).toNat (zws σ q.toNat p1)) ⟨hS82, fx88, hp80q, dz81, fy85, ag84, by omega, by omega, by omega⟩ rfl
    exact loop _ V49 (σ (4 * q.toNat + 2)) ((σ (4 * q.toNat + 1)) - (σ (4 * q.toNat + 2))) 0 dq5f ⟨hS51, fx58, dq54, dz9, fy55, hp50g, by omega, by omega, by omega⟩ rfl
  · refine zr_tsOut X 116 (by omega) dX6_copyText_5 (by omega) rfl ?_
    refine zr_aload_n X 117 1 dX6_copyText_116 rfl rfl ?_
    refine zr_callVe (kc' := 0) (ks' := 0) X 120 0 (e_size l Γ hw13) gX6_copyText_X5_size rfl (by decide +kernel) rfl (by decide) hw13.cl rfl rfl (Nat.le_of_ble_eq_true rfl) dX6_copyText_117 rfl (by omega) (by omega) (fun rv90 V91 hp92 => ?_)
    rw [hp92.1, hp92.2]
    show zG C V7 0 0 120 [(0, .ref (ad 1)), (1, .ref (ad (10 + q.toNat))), (2, .int (zI (how))), (3, .ref (ad 33))] [.int (zI ((σ (4 * q.toNat + 1)) - (σ (4 * q.toNat + 2))))]
    refine zr_iconst X 121 dX6_copyText_120 rfl ?_
    refine zr_idiv X 122 dX6_copyText_121 rfl (by omega) (by omega) ?_
    refine zr_istore X 124 [(4, .int (zI (((σ (4 * q.toNat + 1)) - (σ (4 * q.toNat + 2))) / 2))), (0, .ref (ad 1)), (1, .ref (ad (10 + q.toNat))), (2, .int (zI (how))), (3, .ref (ad 33))] dX6_copyText_122 rfl (by decide) rfl ?_
    refine zr_aload_n X 125 1 dX6_copyText_124 rfl rfl ?_
    refine zr_get X 128 7 4 hx15 rfl iX6 (by decide) w1 rfl rfl dX6_copyText_125 rfl ?_
    refine zr_aload_n X 129 2 dX6_copyText_128 rfl rfl ?_
    refine zr_iconst X 130 dX6_copyText_129 rfl ?_
    refine zr_iload X 132 0 dX6_copyText_130 rfl rfl ?_
    have wg93 := hS10.wg (i := q.toNat) (by omega)
    refine zr_callVe (kc' := 0) (ks' := 0) X 135 3 (e_partG l Γ hw14 wg93 (by omega) (zneW hw14 hw13 (by omega)) (a := 0) (b := ((σ (4 * q.toNat + 1)) - (σ (4 * q.toNat + 2))) / 2) (by omega)) gX6_copyText_X5_becomePart rfl (by decide +kernel) rfl (by decide) hw14.cl rfl rfl (Nat.le_of_ble_eq_true rfl) dX6_copyText_132 rfl (by omega) (by omega) (fun rv94 V95 hp96 => ?_)
    obtain ⟨hp96e, hp96n, hp96g⟩ := hp96
    rw [hp96e]
    have hp96z := hp96n.1
    obtain ⟨hS97, fx98⟩ := hS10.setD hp96n
    have hw99 := hp96z.1
    have hw99r := hw99.rg
    have dq100 := hp8q.kept hp96z.2.1 (by omega) (by omega)
    have fy101 := zag.tr fy12 (hp96z.2.1.mono (fun t ht => by omega))
    have hw102 := hw13.row hp96z.2.1 (by omega) hp96z.2.2
    have hd103 := hp8q.sc.kept hp96z.2.1 (by omega) (by omega)
    have fx104 := zag.tr fx11 fx98
    have hx105 : V95 (ad 1) = some (1, .inr (7, [.ref (ad 2), .ref (ad 20), .ref (ad 22), .ref (ad 24), .ref (ad 16), .ref (ad 31), .ref (ad 33), .ref (ad 35), .ref (ad 40), .ref (ad 45), .int (zI (σ 30)), .int (zI (σ 31)), .int (zI (σ 32)), .int (zI (σ 33))])) := hS97.1
    show zG C V95 0 0 135 [(4, .int (zI (((σ (4 * q.toNat + 1)) - (σ (4 * q.toNat + 2))) / 2))), (0, .ref (ad 1)), (1, .ref (ad (10 + q.toNat))), (2, .int (zI (how))), (3, .ref (ad 33))] []
    refine zr_aload_n X 136 4 dX6_copyText_135 rfl rfl ?_
    refine zr_aload_n X 137 1 dX6_copyText_136 rfl rfl ?_
    refine zr_get X 140 7 4 hx105 rfl iX6 (by decide) w1 rfl rfl dX6_copyText_137 rfl ?_
    obtain ⟨t106r, t106e, t106e2, t106h, t106T, t106o, t106q, t106s⟩ := hp96g.tx
    have t106g := t106T.rg
    have t106c := True.intro
    refine zr_callVe (kc' := 0) (ks' := 0) X 143 1 (q_append l Γ dq100 (by decide) (by decide) t106T t106o t106q (by omega) (by omega)) gX6_copyText_X2_append rfl (by decide +kernel) rfl (by decide) hd103.cl rfl rfl (Nat.le_of_ble_eq_true rfl) dX6_copyText_140 rfl (by omega) (by omega) (fun rv107 V108 hp109 => ?_)
    have dz110 : zdc (zap dq5f (0) (((σ (4 * q.toNat + 2)) + (((σ (4 * q.toNat + 1)) - (σ (4 * q.toNat + 2))) / 2)) - ((σ (4 * q.toNat + 2)) + 0)) t106h) (0 + (((σ (4 * q.toNat + 2)) + (((σ (4 * q.toNat + 1)) - (σ (4 * q.toNat + 2))) / 2)) - ((σ (4 * q.toNat + 2)) + 0))) (zws σ q.toNat) (σ (4 * q.toNat + 2)) := zdc.app dz9 (by omega) t106s (by omega)
    obtain ⟨hp109e, hp109q, hp109z⟩ := hp109
    rw [hp109e]
    obtain ⟨hS111, fx112⟩ := hS97.setSd hp109z
    have dz110r := hp109z.1.rg
    have ag113 := hp96g.kept hp109z.2 (by omega) (by omega)
    have fy114 := zag.tr fy101 (hp109z.2.mono (fun t ht => by omega))
    have hw115 := hw102.kept hp109z.2 (by omega) (by omega)
    have hw116 := hw99.kept hp109z.2 (by omega) (by omega)
    have fx117 := zag.tr fx104 fx112
    have hx118 : V108 (ad 1) = some (1, .inr (7, [.ref (ad 2), .ref (ad 20), .ref (ad 22), .ref (ad 24), .ref (ad 16), .ref (ad 31), .ref (ad 33), .ref (ad 35), .ref (ad 40), .ref (ad 45), .int (zI (σ 30)), .int (zI (σ 31)), .int (zI (σ 32)), .int (zI (σ 33))])) := hS111.1
    show zG C V108 0 0 143 [(4, .int (zI (((σ (4 * q.toNat + 1)) - (σ (4 * q.toNat + 2))) / 2))), (0, .ref (ad 1)), (1, .ref (ad (10 + q.toNat))), (2, .int (zI (how))), (3, .ref (ad 33))] []
    refine zr_aload_n X 144 1 dX6_copyText_143 rfl rfl ?_
    refine zr_get X 147 7 4 hx118 rfl iX6 (by decide) w1 rfl rfl dX6_copyText_144 rfl ?_
    refine zr_aload_n X 148 2 dX6_copyText_147 rfl rfl ?_
    refine zr_iload X 150 0 dX6_copyText_148 rfl rfl ?_
    refine zr_aload_n X 151 2 dX6_copyText_150 rfl rfl ?_
    refine zr_callVe (kc' := 0) (ks' := 0) X 154 0 (e_size l Γ hw115) gX6_copyText_X5_size rfl (by decide +kernel) rfl (by decide) hw115.cl rfl rfl (Nat.le_of_ble_eq_true rfl) dX6_copyText_151 rfl (by omega) (by omega) (fun rv119 V120 hp121 => ?_)
    rw [hp121.1, hp121.2]
    show zG C V108 0 0 154 [(4, .int (zI (((σ (4 * q.toNat + 1)) - (σ (4 * q.toNat + 2))) / 2))), (0, .ref (ad 1)), (1, .ref (ad (10 + q.toNat))), (2, .int (zI (how))), (3, .ref (ad 33))] [.int (zI ((σ (4 * q.toNat + 1)) - (σ (4 * q.toNat + 2)))), .int (zI (((σ (4 * q.toNat + 1)) - (σ (4 * q.toNat + 2))) / 2)), .ref (ad (10 + q.toNat)), .ref (ad 16)]
    have wg122 := hS111.wg (i := q.toNat) (by omega)
    refine zr_callVe (kc' := 0) (ks' := 0) X 157 3 (e_partG l Γ hw116 wg122 (by omega) (zneW hw116 hw115 (by omega)) (a := ((σ (4 * q.toNat + 1)) - (σ (4 * q.toNat + 2))) / 2) (b := (σ (4 * q.toNat + 1)) - (σ (4 * q.toNat + 2))) (by omega)) gX6_copyText_X5_becomePart rfl (by decide +kernel) rfl (by decide) hw116.cl rfl rfl (Nat.le_of_ble_eq_true rfl) dX6_copyText_154 rfl (by omega) (by omega) (fun rv123 V124 hp125 => ?_)
    obtain ⟨hp125e, hp125n, hp125g⟩ := hp125
    rw [hp125e]
    have hp125z := hp125n.1
    obtain ⟨hS126, fx127⟩ := hS111.setD hp125n
    have hw128 := hp125z.1
    have hw128r := hw128.rg
    have dq129 := hp109q.kept hp125z.2.1 (by omega) (by omega)
    have fy130 := zag.tr fy114 (hp125z.2.1.mono (fun t ht => by omega))
    have hw131 := hw115.row hp125z.2.1 (by omega) hp125z.2.2
    have hd132 := hp109q.sc.kept hp125z.2.1 (by omega) (by omega)
    have fx133 := zag.tr fx117 fx127
    have hx134 : V124 (ad 1) = some (1, .inr (7, [.ref (ad 2), .ref (ad 20), .ref (ad 22), .ref (ad 24), .ref (ad 16), .ref (ad 31), .ref (ad 33), .ref (ad 35), .ref (ad 40), .ref (ad 45), .int (zI (σ 30)), .int (zI (σ 31)), .int (zI (σ 32)), .int (zI (σ 33))])) := hS126.1
    show zG C V124 0 0 157 [(4, .int (zI (((σ (4 * q.toNat + 1)) - (σ (4 * q.toNat + 2))) / 2))), (0, .ref (ad 1)), (1, .ref (ad (10 + q.toNat))), (2, .int (zI (how))), (3, .ref (ad 33))] []
    refine zr_aload_n X 158 4 dX6_copyText_157 rfl rfl ?_
    refine zr_aload_n X 159 1 dX6_copyText_158 rfl rfl ?_
    refine zr_get X 162 7 4 hx134 rfl iX6 (by decide) w1 rfl rfl dX6_copyText_159 rfl ?_
    obtain ⟨t135r, t135e, t135e2, t135h, t135T, t135o, t135q, t135s⟩ := hp125g.tx
    have t135g := t135T.rg
    have t135c := True.intro
    refine zr_callVe (kc' := 0) (ks' := 0) X 165 1 (q_append l Γ dq129 (by decide) (by decide) t135T t135o t135q (by omega) (by omega)) gX6_copyText_X2_append rfl (by decide +kernel) rfl (by decide) hd132.cl rfl rfl (Nat.le_of_ble_eq_true rfl) dX6_copyText_162 rfl (by omega) (by omega) (fun rv136 V137 hp138 => ?_)
    have dz139 : zdc (zap (zap dq5f (0) (((σ (4 * q.toNat + 2)) + (((σ (4 * q.toNat + 1)) - (σ (4 * q.toNat + 2))) / 2)) - ((σ (4 * q.toNat + 2)) + 0)) t106h) (0 + (((σ (4 * q.toNat + 2)) + (((σ (4 * q.toNat + 1)) - (σ (4 * q.toNat + 2))) / 2)) - ((σ (4 * q.toNat + 2)) + 0))) (((σ (4 * q.toNat + 2)) + ((σ (4 * q.toNat + 1)) - (σ (4 * q.toNat + 2)))) - ((σ (4 * q.toNat + 2)) + (((σ (4 * q.toNat + 1)) - (σ (4 * q.toNat + 2))) / 2))) t135h) (0 + (((σ (4 * q.toNat + 2)) + (((σ (4 * q.toNat + 1)) - (σ (4 * q.toNat + 2))) / 2)) - ((σ (4 * q.toNat + 2)) + 0)) + (((σ (4 * q.toNat + 2)) + ((σ (4 * q.toNat + 1)) - (σ (4 * q.toNat + 2)))) - ((σ (4 * q.toNat + 2)) + (((σ (4 * q.toNat + 1)) - (σ (4 * q.toNat + 2))) / 2)))) (zws σ q.toNat) (σ (4 * q.toNat + 2)) := zdc.app dz110 (by omega) t135s (by omega)
    obtain ⟨hp138e, hp138q, hp138z⟩ := hp138
    rw [hp138e]
    obtain ⟨hS140, fx141⟩ := hS126.setSd hp138z
    have dz139r := hp138z.1.rg
    have ag142 := hp125g.kept hp138z.2 (by omega) (by omega)
    have fy143 := zag.tr fy130 (hp138z.2.mono (fun t ht => by omega))
    have hw144 := hw131.kept hp138z.2 (by omega) (by omega)
    have hw145 := hw128.kept hp138z.2 (by omega) (by omega)
    have fx146 := zag.tr fx133 fx141
    have hx147 : V137 (ad 1) = some (1, .inr (7, [.ref (ad 2), .ref (ad 20), .ref (ad 22), .ref (ad 24), .ref (ad 16), .ref (ad 31), .ref (ad 33), .ref (ad 35), .ref (ad 40), .ref (ad 45), .int (zI (σ 30)), .int (zI (σ 31)), .int (zI (σ 32)), .int (zI (σ 33))])) := hS140.1
    show zG C V137 0 0 165 [(4, .int (zI (((σ (4 * q.toNat + 1)) - (σ (4 * q.toNat + 2))) / 2))), (0, .ref (ad 1)), (1, .ref (ad (10 + q.toNat))), (2, .int (zI (how))), (3, .ref (ad 33))] []
    have hq9 := hp138q
    have hz9 := dz139
    have hl9 : 0 + (((σ (4 * q.toNat + 2)) + (((σ (4 * q.toNat + 1)) - (σ (4 * q.toNat + 2))) / 2)) - ((σ (4 * q.toNat + 2)) + 0)) + (((σ (4 * q.toNat + 2)) + ((σ (4 * q.toNat + 1)) - (σ (4 * q.toNat + 2)))) - ((σ (4 * q.toNat + 2)) + (((σ (4 * q.toNat + 1)) - (σ (4 * q.toNat + 2))) / 2))) = σ (4 * q.toNat + 1) - σ (4 * q.toNat + 2) := by omega
    rw [hl9] at hq9 hz9
    exact zr_vret X rfl ⟨rfl, hS140, fx146, fy143, _, hq9, hz9⟩ dX6_copyText_165
set_option maxRecDepth 100000 in
set_option maxHeartbeats 4000000 in
theorem m_X6_text (l : Launch) (hlt : l.stackTraces = false) (Γ : zGam) {V : zV} {ad : Nat → Nat} {σ : Nat → Int} {q how : Int} (hS : zS Γ V ad σ) (hq : -2147483648 ≤ q ∧ q ≤ 2147483647) (hh : -2147483648 ≤ how ∧ how ≤ 2147483647) : zN l Γ 10 yX6_text wsX6_text 3012 6312 V [.ref (ad 1), .int (zI (q)), .int (zI (how))] (fun rv V' => ∃ (z : Nat) (σ' : Nat → Int), rv = some (.ref z) ∧ zS Γ V' ad σ' ∧ zfx V V' ∧ ((0 ≤ q ∧ q < 6 ∧ 0 ≤ how ∧ how ≤ 3) ∧ σ' = σ)) (fun E V' => V' = V ∧ ((E = zIO ∧ ¬ (0 ≤ q ∧ q < 6)) ∨ (E = zIA ∧ (0 ≤ q ∧ q < 6) ∧ ¬ (0 ≤ how ∧ how ≤ 3)))) := by
  have w0 : Cond.fieldLink RX6 39 "Sashwords" "draft" "LSashwords$Script;" ∈ wsX6_text := by decide +kernel
  have iX6 : ∀ w ∈ u_ws RX6 TX6 14, w ∈ wsX6_text := by decide +kernel
  refine zN_of (cc := cX6_text) (nL := 4) (ret := (some (.object "java/lang/String"))) (own := RX6) hlt (by decide +kernel) rfl rfl (Nat.le_of_ble_eq_true rfl) (fun C X Y => ?_)
  have hx1 : V (ad 1) = some (1, .inr (7, [.ref (ad 2), .ref (ad 20), .ref (ad 22), .ref (ad 24), .ref (ad 16), .ref (ad 31), .ref (ad 33), .ref (ad 35), .ref (ad 40), .ref (ad 45), .int (zI (σ 30)), .int (zI (σ 31)), .int (zI (σ 32)), .int (zI (σ 33))])) := hS.1
  show zG C V 3012 6312 0 [(0, .ref (ad 1)), (1, .int (zI (q))), (2, .int (zI (how)))] []
  refine zr_aload_n X 1 0 dX6_text_0 rfl rfl ?_
  refine zr_iload_n X 2 1 dX6_text_1 rfl rfl ?_
  refine zr_callVN (kc' := 3012 - 1) (ks' := 6312 - 6) X Y 5 1 (m_X6_windowOf l hlt Γ hS (q := q) (by omega)) gX6_text_X6_windowOf rfl (by decide +kernel) rfl (by decide) hx1 rfl rfl (Nat.le_of_ble_eq_true rfl) dX6_text_2 rfl (by omega) (by omega) (fun E W hX => ⟨hX.2.2, Or.inl ⟨hX.1, by have := hX.2.1; omega⟩⟩) (fun rv2 V3 hp4 => ?_)
  obtain ⟨hp4a, hp4b, hp4c⟩ := hp4
  rw [hp4b, hp4c]
  have hw5 := hS.w (i := q.toNat) (by omega)
  have hw5r := hw5.rg
  show zG C V (3012 - 1) (6312 - 6) 5 [(0, .ref (ad 1)), (1, .int (zI (q))), (2, .int (zI (how)))] [.ref (ad (10 + q.toNat))]
  refine zr_astore_n X 6 [(3, .ref (ad (10 + q.toNat))), (0, .ref (ad 1)), (1, .int (zI (q))), (2, .int (zI (how)))] dX6_text_5 rfl (by decide) rfl ?_
  refine zr_iload_n X 7 3 dX6_text_6 rfl rfl ?_
  refine zr_iconst X 8 dX6_text_7 rfl ?_
  refine zr_iconst X 9 dX6_text_8 rfl ?_
  refine zr_callSN (kc' := (3012 - 1) - 1) (ks' := (6312 - 6) - 6) X Y 12 3 (m_X6_requireWithin l hlt Γ (V := V) (x := how) (a := 0) (b := 3) (by omega) (by omega) (by omega)) gX6_text_X6_requireWithin rfl (by decide +kernel) rfl (by decide) rfl (Nat.le_of_ble_eq_true rfl) dX6_text_9 rfl (by omega) (by omega) (fun E W hX => ⟨hX.2.2, Or.inr ⟨hX.1, by have := hX.2.1; omega⟩⟩) (fun rv6 V7 hp8 => ?_)
  obtain ⟨hp8a, hp8b, hp8c⟩ := hp8
  rw [hp8b, hp8c]
  show zG C V ((3012 - 1) - 1) ((6312 - 6) - 6) 12 [(3, .ref (ad (10 + q.toNat))), (0, .ref (ad 1)), (1, .int (zI (q))), (2, .int (zI (how)))] []
  refine zr_aload_n X 13 1 dX6_text_12 rfl rfl ?_
  refine zr_aload_n X 14 0 dX6_text_13 rfl rfl ?_
  refine zr_iload_n X 15 3 dX6_text_14 rfl rfl ?_
  refine zr_aload_n X 16 1 dX6_text_15 rfl rfl ?_
  refine zr_get X 19 7 5 hx1 rfl iX6 (by decide) w0 rfl rfl dX6_text_16 rfl ?_
  refine zr_callVe (kc' := ((3012 - 1) - 1)) (ks' := ((6312 - 6) - 6)) X 22 3 (m_X6_copyText_d l Γ (q := q) (how := how) hS (by omega) (by omega)) gX6_text_X6_copyText rfl (by decide +kernel) rfl (by decide) hS.x rfl rfl (Nat.le_of_ble_eq_true rfl) dX6_text_19 rfl (by omega) (by omega) (fun rv9 V10 hp11 => ?_)
  obtain ⟨hp11e, hp11s, hp11x, hp11y, hp11f, hp11q, hp11z⟩ := hp11
  rw [hp11e]
  have hx12 : V10 (ad 1) = some (1, .inr (7, [.ref (ad 2), .ref (ad 20), .ref (ad 22), .ref (ad 24), .ref (ad 16), .ref (ad 31), .ref (ad 33), .ref (ad 35), .ref (ad 40), .ref (ad 45), .int (zI (σ 30)), .int (zI (σ 31)), .int (zI (σ 32)), .int (zI (σ 33))])) := hp11s.1
  have hw13 := hp11s.w (i := q.toNat) (by omega)
  have hw13r := hw13.rg
  show zG C V10 ((3012 - 1) - 1) ((6312 - 6) - 6) 22 [(3, .ref (ad (10 + q.toNat))), (0, .ref (ad 1)), (1, .int (zI (q))), (2, .int (zI (how)))] []
  refine zr_aload_n X 23 1 dX6_text_22 rfl rfl ?_
  refine zr_get X 26 7 5 hx12 rfl iX6 (by decide) w0 rfl rfl dX6_text_23 rfl ?_
  obtain ⟨t14e, t14e2, t14T, t14o, t14q⟩ := hp11q.tx (by decide)
  have t14g := t14T.rg
  have t14c := True.intro
  refine zr_callS (kc' := ((3012 - 1) - 1) - 3010) (ks' := ((6312 - 6) - 6) - 6300) X 29 1 (m_X6_spelled l Γ (V := V10) t14T t14o t14q (by omega) (by omega)) gX6_text_X6_spelled rfl (by decide +kernel) rfl (by decide) rfl (Nat.le_of_ble_eq_true rfl) dX6_text_26 rfl (by omega) (by omega) (fun rv15 V16 hp17 => ?_)
  obtain ⟨hp17z, hp17e, hp17f⟩ := hp17
  rw [hp17e]
  obtain ⟨hS18, fx19⟩ := hp11s.fr hp17f
  have hw20 := hw13.kept hp17f.ag (by omega) (by omega)
  have hd21 := hp11q.sc.kept hp17f.ag (by omega) (by omega)
  have fx22 := zag.tr hp11x fx19
  have hx23 : V16 (ad 1) = some (1, .inr (7, [.ref (ad 2), .ref (ad 20), .ref (ad 22), .ref (ad 24), .ref (ad 16), .ref (ad 31), .ref (ad 33), .ref (ad 35), .ref (ad 40), .ref (ad 45), .int (zI (σ 30)), .int (zI (σ 31)), .int (zI (σ 32)), .int (zI (σ 33))])) := hS18.1
  show zG C V16 (((3012 - 1) - 1) - 3010) (((6312 - 6) - 6) - 6300) 29 [(3, .ref (ad (10 + q.toNat))), (0, .ref (ad 1)), (1, .int (zI (q))), (2, .int (zI (how)))] [.ref hp17z]
  exact zr_aret X rfl (Or.inl ⟨_, rfl⟩) ⟨_, σ, rfl, hS18, fx22, ⟨by omega, rfl⟩⟩ dX6_text_29
set_option maxRecDepth 100000 in
set_option maxHeartbeats 4000000 in
theorem m_X6_inner (l : Launch) (hlt : l.stackTraces = false) (Γ : zGam) {V : zV} {ad : Nat → Nat} {σ : Nat → Int} {q a b c e how : Int} (hS : zS Γ V ad σ) (hq : -2147483648 ≤ q ∧ q ≤ 2147483647) (ha : -2147483648 ≤ a ∧ a ≤ 2147483647) (hb : -2147483648 ≤ b ∧ b ≤ 2147483647) (hc : -2147483648 ≤ c ∧ c ≤ 2147483647) (he : -2147483648 ≤ e ∧ e ≤ 2147483647) (hh : -2147483648 ≤ how ∧ how ≤ 2147483647) : zN l Γ 10 yX6_inner wsX6_inner 3013 6318 V [.ref (ad 1), .int (zI (q)), .int (zI (a)), .int (zI (b)), .int (zI (c)), .int (zI (e)), .int (zI (how))] (fun rv V' => ∃ (z : Nat) (σ' : Nat → Int), rv = some (.ref z) ∧ zS Γ V' ad σ' ∧ zfx V V' ∧ ((0 ≤ q ∧ q < 6) ∧ (0 ≤ a ∧ a ≤ b ∧ b ≤ σ (4 * q.toNat + 1) - σ (4 * q.toNat + 2) ∧ 0 ≤ c ∧ c ≤ e ∧ e ≤ b - a ∧ 0 ≤ how ∧ how ≤ 2) ∧ σ' = σ)) (fun E V' => V' = V ∧ ((E = zIO ∧ ¬ (0 ≤ q ∧ q < 6)) ∨ (E = zIA ∧ (0 ≤ q ∧ q < 6) ∧ ¬ (0 ≤ a ∧ a ≤ b ∧ b ≤ σ (4 * q.toNat + 1) - σ (4 * q.toNat + 2) ∧ 0 ≤ c ∧ c ≤ e ∧ e ≤ b - a ∧ 0 ≤ how ∧ how ≤ 2)))) := by
  have w0 : Cond.fieldLink RX6 35 "Sashwords" "aside" "LSashwords$Window;" ∈ wsX6_inner := by decide +kernel
  have iX6 : ∀ w ∈ u_ws RX6 TX6 14, w ∈ wsX6_inner := by decide +kernel
  refine zN_of (cc := cX6_inner) (nL := 8) (ret := (some (.object "java/lang/String"))) (own := RX6) hlt (by decide +kernel) rfl rfl (Nat.le_of_ble_eq_true rfl) (fun C X Y => ?_)
  have hx1 : V (ad 1) = some (1, .inr (7, [.ref (ad 2), .ref (ad 20), .ref (ad 22), .ref (ad 24), .ref (ad 16), .ref (ad 31), .ref (ad 33), .ref (ad 35), .ref (ad 40), .ref (ad 45), .int (zI (σ 30)), .int (zI (σ 31)), .int (zI (σ 32)), .int (zI (σ 33))])) := hS.1
  obtain ⟨as2c, as2l, as2p, as2m, as2⟩ := hS.2.2.2.1
  have as2r := as2.rg
  show zG C V 3013 6318 0 [(0, .ref (ad 1)), (1, .int (zI (q))), (2, .int (zI (a))), (3, .int (zI (b))), (4, .int (zI (c))), (5, .int (zI (e))), (6, .int (zI (how)))] []
  refine zr_aload_n X 1 0 dX6_inner_0 rfl rfl ?_
  refine zr_iload_n X 2 1 dX6_inner_1 rfl rfl ?_
  refine zr_callVN (kc' := 3013 - 1) (ks' := 6318 - 6) X Y 5 1 (m_X6_windowOf l hlt Γ hS (q := q) (by omega)) gX6_inner_X6_windowOf rfl (by decide +kernel) rfl (by decide) hx1 rfl rfl (Nat.le_of_ble_eq_true rfl) dX6_inner_2 rfl (by omega) (by omega) (fun E W hX => ⟨hX.2.2, Or.inl ⟨hX.1, by have := hX.2.1; omega⟩⟩) (fun rv3 V4 hp5 => ?_)
  obtain ⟨hp5a, hp5b, hp5c⟩ := hp5
  rw [hp5b, hp5c]
  have hw6 := hS.w (i := q.toNat) (by omega)
  have hw6r := hw6.rg
  show zG C V (3013 - 1) (6318 - 6) 5 [(0, .ref (ad 1)), (1, .int (zI (q))), (2, .int (zI (a))), (3, .int (zI (b))), (4, .int (zI (c))), (5, .int (zI (e))), (6, .int (zI (how)))] [.ref (ad (10 + q.toNat))]
  refine zr_astore X 7 [(7, .ref (ad (10 + q.toNat))), (0, .ref (ad 1)), (1, .int (zI (q))), (2, .int (zI (a))), (3, .int (zI (b))), (4, .int (zI (c))), (5, .int (zI (e))), (6, .int (zI (how)))] dX6_inner_5 rfl (by decide) rfl ?_
  refine zr_iload_n X 8 3 dX6_inner_7 rfl rfl ?_
  refine zr_iload_n X 9 4 dX6_inner_8 rfl rfl ?_
  refine zr_aload X 11 0 dX6_inner_9 rfl rfl ?_
  refine zr_callVe (kc' := (3013 - 1)) (ks' := (6318 - 6)) X 14 0 (e_size l Γ hw6) gX6_inner_X5_size rfl (by decide +kernel) rfl (by decide) hw6.cl rfl rfl (Nat.le_of_ble_eq_true rfl) dX6_inner_11 rfl (by omega) (by omega) (fun rv7 V8 hp9 => ?_)
  rw [hp9.1, hp9.2]
  show zG C V (3013 - 1) (6318 - 6) 14 [(7, .ref (ad (10 + q.toNat))), (0, .ref (ad 1)), (1, .int (zI (q))), (2, .int (zI (a))), (3, .int (zI (b))), (4, .int (zI (c))), (5, .int (zI (e))), (6, .int (zI (how)))] [.int (zI ((σ (4 * q.toNat + 1)) - (σ (4 * q.toNat + 2)))), .int (zI (b)), .int (zI (a))]
  refine zr_callS (kc' := (3013 - 1)) (ks' := (6318 - 6)) X 17 3 (m_X6_isStretch l Γ (V := V) (a := a) (b := b) (n := (σ (4 * q.toNat + 1)) - (σ (4 * q.toNat + 2))) (by omega) (by omega) (by omega)) gX6_inner_X6_isStretch rfl (by decide +kernel) rfl (by decide) rfl (Nat.le_of_ble_eq_true rfl) dX6_inner_14 rfl (by omega) (by omega) (fun rv10 V11 hp12 => ?_)
  obtain ⟨⟨x13, x13e, x13a⟩, x13v⟩ := hp12
  rw [x13e, x13v]
  show zG C V (3013 - 1) (6318 - 6) 17 [(7, .ref (ad (10 + q.toNat))), (0, .ref (ad 1)), (1, .int (zI (q))), (2, .int (zI (a))), (3, .int (zI (b))), (4, .int (zI (c))), (5, .int (zI (e))), (6, .int (zI (how)))] [.int (zI (x13))]
  refine zr_if_eq X 37 20 dX6_inner_17 rfl rfl (by omega) (fun bq14 => ?_) (fun bq14 => ?_)
  · refine zr_iconst X 38 dX6_inner_37 rfl ?_
    refine zr_callSN (kc' := (3013 - 1) - 1) (ks' := (6318 - 6) - 6) X Y 41 1 (m_X6_require l hlt Γ (V := V) (b := 0) (by omega)) gX6_inner_X6_require rfl (by decide +kernel) rfl (by decide) rfl (Nat.le_of_ble_eq_true rfl) dX6_inner_38 rfl (by omega) (by omega) (fun E W hX => ⟨hX.2.2, Or.inr ⟨hX.1, by have := hX.2.1; omega⟩⟩) (fun rv15 V16 hp17 => ?_)
    obtain ⟨hp17a, hp17b, hp17c⟩ := hp17
    rw [hp17b, hp17c]
    show zG C V ((3013 - 1) - 1) ((6318 - 6) - 6) 41 [(7, .ref (ad (10 + q.toNat))), (0, .ref (ad 1)), (1, .int (zI (q))), (2, .int (zI (a))), (3, .int (zI (b))), (4, .int (zI (c))), (5, .int (zI (e))), (6, .int (zI (how)))] []
    exfalso
    omega
  · refine zr_iload X 22 5 dX6_inner_20 rfl rfl ?_
    refine zr_iload X 24 6 dX6_inner_22 rfl rfl ?_
    refine zr_iload_n X 25 4 dX6_inner_24 rfl rfl ?_
    refine zr_iload_n X 26 3 dX6_inner_25 rfl rfl ?_
    refine zr_isub X 27 dX6_inner_26 rfl ?_
    refine zr_callS (kc' := (3013 - 1)) (ks' := (6318 - 6)) X 30 3 (m_X6_isStretch l Γ (V := V) (a := c) (b := e) (n := b - a) (by omega) (by omega) (by omega)) gX6_inner_X6_isStretch rfl (by decide +kernel) rfl (by decide) rfl (Nat.le_of_ble_eq_true rfl) dX6_inner_27 rfl (by omega) (by omega) (fun rv18 V19 hp20 => ?_)
    obtain ⟨⟨x21, x21e, x21a⟩, x21v⟩ := hp20
    rw [x21e, x21v]
    show zG C V (3013 - 1) (6318 - 6) 30 [(7, .ref (ad (10 + q.toNat))), (0, .ref (ad 1)), (1, .int (zI (q))), (2, .int (zI (a))), (3, .int (zI (b))), (4, .int (zI (c))), (5, .int (zI (e))), (6, .int (zI (how)))] [.int (zI (x21))]
    refine zr_if_eq X 37 33 dX6_inner_30 rfl rfl (by omega) (fun bq22 => ?_) (fun bq22 => ?_)
    · refine zr_iconst X 38 dX6_inner_37 rfl ?_
      refine zr_callSN (kc' := (3013 - 1) - 1) (ks' := (6318 - 6) - 6) X Y 41 1 (m_X6_require l hlt Γ (V := V) (b := 0) (by omega)) gX6_inner_X6_require rfl (by decide +kernel) rfl (by decide) rfl (Nat.le_of_ble_eq_true rfl) dX6_inner_38 rfl (by omega) (by omega) (fun E W hX => ⟨hX.2.2, Or.inr ⟨hX.1, by have := hX.2.1; omega⟩⟩) (fun rv23 V24 hp25 => ?_)
      obtain ⟨hp25a, hp25b, hp25c⟩ := hp25
      rw [hp25b, hp25c]
      show zG C V ((3013 - 1) - 1) ((6318 - 6) - 6) 41 [(7, .ref (ad (10 + q.toNat))), (0, .ref (ad 1)), (1, .int (zI (q))), (2, .int (zI (a))), (3, .int (zI (b))), (4, .int (zI (c))), (5, .int (zI (e))), (6, .int (zI (how)))] []
      exfalso
      omega
    · refine zr_iconst X 34 dX6_inner_33 rfl ?_
      refine zr_goto X 38 dX6_inner_34 rfl ?_
      refine zr_callSN (kc' := (3013 - 1) - 1) (ks' := (6318 - 6) - 6) X Y 41 1 (m_X6_require l hlt Γ (V := V) (b := 1) (by omega)) gX6_inner_X6_require rfl (by decide +kernel) rfl (by decide) rfl (Nat.le_of_ble_eq_true rfl) dX6_inner_38 rfl (by omega) (by omega) (fun E W hX => ⟨hX.2.2, Or.inr ⟨hX.1, by have := hX.2.1; omega⟩⟩) (fun rv26 V27 hp28 => ?_)
      obtain ⟨hp28a, hp28b, hp28c⟩ := hp28
      rw [hp28b, hp28c]
      show zG C V ((3013 - 1) - 1) ((6318 - 6) - 6) 41 [(7, .ref (ad (10 + q.toNat))), (0, .ref (ad 1)), (1, .int (zI (q))), (2, .int (zI (a))), (3, .int (zI (b))), (4, .int (zI (c))), (5, .int (zI (e))), (6, .int (zI (how)))] []
      refine zr_iload X 43 7 dX6_inner_41 rfl rfl ?_
      refine zr_iconst X 44 dX6_inner_43 rfl ?_
      refine zr_iconst X 45 dX6_inner_44 rfl ?_
      refine zr_callSN (kc' := ((3013 - 1) - 1) - 1) (ks' := ((6318 - 6) - 6) - 6) X Y 48 3 (m_X6_requireWithin l hlt Γ (V := V) (x := how) (a := 0) (b := 2) (by omega) (by omega) (by omega)) gX6_inner_X6_requireWithin rfl (by decide +kernel) rfl (by decide) rfl (Nat.le_of_ble_eq_true rfl) dX6_inner_45 rfl (by omega) (by omega) (fun E W hX => ⟨hX.2.2, Or.inr ⟨hX.1, by have := hX.2.1; omega⟩⟩) (fun rv29 V30 hp31 => ?_)
      obtain ⟨hp31a, hp31b, hp31c⟩ := hp31
      rw [hp31b, hp31c]
      show zG C V (((3013 - 1) - 1) - 1) (((6318 - 6) - 6) - 6) 48 [(7, .ref (ad (10 + q.toNat))), (0, .ref (ad 1)), (1, .int (zI (q))), (2, .int (zI (a))), (3, .int (zI (b))), (4, .int (zI (c))), (5, .int (zI (e))), (6, .int (zI (how)))] []
      refine zr_iload X 50 7 dX6_inner_48 rfl rfl ?_
      refine zr_iconst X 51 dX6_inner_50 rfl ?_
      refine zr_icmp_ne X 79 54 dX6_inner_51 rfl rfl (by omega) (by omega) (fun bq32 => ?_) (fun bq32 => ?_)
      · refine zr_aload_n X 80 1 dX6_inner_79 rfl rfl ?_
        refine zr_get X 83 7 4 hx1 rfl iX6 (by decide) w0 rfl rfl dX6_inner_80 rfl ?_
        refine zr_aload X 85 0 dX6_inner_83 rfl rfl ?_
        refine zr_iload_n X 86 3 dX6_inner_85 rfl rfl ?_
        refine zr_iload_n X 87 4 dX6_inner_86 rfl rfl ?_
        refine zr_callVe (kc' := (((3013 - 1) - 1) - 1)) (ks' := (((6318 - 6) - 6) - 6)) X 90 3 (e_part l Γ as2 hw6 (by omega) (zneW as2 hw6 (by omega)) (a := a) (b := b) (by omega)) gX6_inner_X5_becomePart rfl (by decide +kernel) rfl (by decide) as2.cl rfl rfl (Nat.le_of_ble_eq_true rfl) dX6_inner_87 rfl (by omega) (by omega) (fun rv33 V34 hp35 => ?_)
        obtain ⟨hp35e, hp35n⟩ := hp35
        rw [hp35e]
        have hp35z := hp35n.1
        obtain ⟨hS36, fx37⟩ := hS.setD hp35n
        have hw38 := hp35z.1
        have hw38r := hw38.rg
        have hw39 := hw6.row hp35z.2.1 (by omega) hp35z.2.2
        have hx40 : V34 (ad 1) = some (1, .inr (7, [.ref (ad 2), .ref (ad 20), .ref (ad 22), .ref (ad 24), .ref (ad 16), .ref (ad 31), .ref (ad 33), .ref (ad 35), .ref (ad 40), .ref (ad 45), .int (zI (σ 30)), .int (zI (σ 31)), .int (zI (σ 32)), .int (zI (σ 33))])) := hS36.1
        show zG C V34 (((3013 - 1) - 1) - 1) (((6318 - 6) - 6) - 6) 90 [(7, .ref (ad (10 + q.toNat))), (0, .ref (ad 1)), (1, .int (zI (q))), (2, .int (zI (a))), (3, .int (zI (b))), (4, .int (zI (c))), (5, .int (zI (e))), (6, .int (zI (how)))] []
        refine zr_iload X 92 7 dX6_inner_90 rfl rfl ?_
        refine zr_iconst X 93 dX6_inner_92 rfl ?_
        refine zr_icmp_ne X 107 96 dX6_inner_93 rfl rfl (by omega) (by omega) (fun bq41 => ?_) (fun bq41 => ?_)
        · refine zr_aload_n X 108 1 dX6_inner_107 rfl rfl ?_
          refine zr_get X 111 7 4 hx40 rfl iX6 (by decide) w0 rfl rfl dX6_inner_108 rfl ?_
          refine zr_aload_n X 112 1 dX6_inner_111 rfl rfl ?_
          refine zr_get X 115 7 4 hx40 rfl iX6 (by decide) w0 rfl rfl dX6_inner_112 rfl ?_
          refine zr_iload X 117 5 dX6_inner_115 rfl rfl ?_
          refine zr_iload X 119 6 dX6_inner_117 rfl rfl ?_
          refine zr_callVe (kc' := (((3013 - 1) - 1) - 1)) (ks' := (((6318 - 6) - 6) - 6)) X 122 3 (e_part_eq l Γ hw38 (by omega) (a := c) (b := e) (by omega)) gX6_inner_X5_becomePart rfl (by decide +kernel) rfl (by decide) hw38.cl rfl rfl (Nat.le_of_ble_eq_true rfl) dX6_inner_119 rfl (by omega) (by omega) (fun rv42 V43 hp44 => ?_)
          obtain ⟨hp44e, hp44n⟩ := hp44
          rw [hp44e]
          have hp44z := hp44n.1
          obtain ⟨hS45, fx46⟩ := hS36.setD hp44n
          have hw47 := hp44z.1
          have hw47r := hw47.rg
          have hw48 := hw39.row hp44z.2.1 (by omega) hp44z.2.2
          have fx49 := zag.tr fx37 fx46
          have hx50 : V43 (ad 1) = some (1, .inr (7, [.ref (ad 2), .ref (ad 20), .ref (ad 22), .ref (ad 24), .ref (ad 16), .ref (ad 31), .ref (ad 33), .ref (ad 35), .ref (ad 40), .ref (ad 45), .int (zI (σ 30)), .int (zI (σ 31)), .int (zI (σ 32)), .int (zI (σ 33))])) := hS45.1
          show zG C V43 (((3013 - 1) - 1) - 1) (((6318 - 6) - 6) - 6) 122 [(7, .ref (ad (10 + q.toNat))), (0, .ref (ad 1)), (1, .int (zI (q))), (2, .int (zI (a))), (3, .int (zI (b))), (4, .int (zI (c))), (5, .int (zI (e))), (6, .int (zI (how)))] []
          refine zr_aload_n X 123 1 dX6_inner_122 rfl rfl ?_
          refine zr_get X 126 7 4 hx50 rfl iX6 (by decide) w0 rfl rfl dX6_inner_123 rfl ?_
          obtain ⟨t51r, t51e, t51e2, t51h, t51T, t51o, t51q⟩ := hw47.tx
          have t51g := t51T.rg
          have t51c := True.intro
          refine zr_callS (kc' := (((3013 - 1) - 1) - 1) - 3010) (ks' := (((6318 - 6) - 6) - 6) - 6300) X 129 1 (m_X6_spelled l Γ (V := V43) t51T t51o t51q (by omega) (by omega)) gX6_inner_X6_spelled rfl (by decide +kernel) rfl (by decide) rfl (Nat.le_of_ble_eq_true rfl) dX6_inner_126 rfl (by omega) (by omega) (fun rv52 V53 hp54 => ?_)
          obtain ⟨hp54z, hp54e, hp54f⟩ := hp54
          rw [hp54e]
          obtain ⟨hS55, fx56⟩ := hS45.fr hp54f
          have hw57 := hw47.kept hp54f.ag (by omega) (by omega)
          have hw58 := hw48.kept hp54f.ag (by omega) (by omega)
          have fx59 := zag.tr fx49 fx56
          have hx60 : V53 (ad 1) = some (1, .inr (7, [.ref (ad 2), .ref (ad 20), .ref (ad 22), .ref (ad 24), .ref (ad 16), .ref (ad 31), .ref (ad 33), .ref (ad 35), .ref (ad 40), .ref (ad 45), .int (zI (σ 30)), .int (zI (σ 31)), .int (zI (σ 32)), .int (zI (σ 33))])) := hS55.1
          show zG C V53 ((((3013 - 1) - 1) - 1) - 3010) ((((6318 - 6) - 6) - 6) - 6300) 129 [(7, .ref (ad (10 + q.toNat))), (0, .ref (ad 1)), (1, .int (zI (q))), (2, .int (zI (a))), (3, .int (zI (b))), (4, .int (zI (c))), (5, .int (zI (e))), (6, .int (zI (how)))] [.ref hp54z]
          exact zr_aret X rfl (Or.inl ⟨_, rfl⟩) ⟨_, σ, rfl, hS55, fx59, ⟨by omega, by omega, rfl⟩⟩ dX6_inner_129
        · refine zr_aload_n X 97 1 dX6_inner_96 rfl rfl ?_
          refine zr_get X 100 7 4 hx40 rfl iX6 (by decide) w0 rfl rfl dX6_inner_97 rfl ?_
          refine zr_aload_n X 101 1 dX6_inner_100 rfl rfl ?_
          refine zr_get X 104 7 4 hx40 rfl iX6 (by decide) w0 rfl rfl dX6_inner_101 rfl ?_
          refine zr_callVe (kc' := (((3013 - 1) - 1) - 1)) (ks' := (((6318 - 6) - 6) - 6)) X 107 1 (e_slice_eq l Γ hw38 (by omega)) gX6_inner_X5_becomeSlice rfl (by decide +kernel) rfl (by decide) hw38.cl rfl rfl (Nat.le_of_ble_eq_true rfl) dX6_inner_104 rfl (by omega) (by omega) (fun rv61 V62 hp63 => ?_)
          obtain ⟨hp63e, hp63n⟩ := hp63
          rw [hp63e]
          have hp63z := hp63n.1
          obtain ⟨hS64, fx65⟩ := hS36.setD hp63n
          have hw66 := hp63z.1
          have hw66r := hw66.rg
          have hw67 := hw39.row hp63z.2.1 (by omega) hp63z.2.2
          have fx68 := zag.tr fx37 fx65
          have hx69 : V62 (ad 1) = some (1, .inr (7, [.ref (ad 2), .ref (ad 20), .ref (ad 22), .ref (ad 24), .ref (ad 16), .ref (ad 31), .ref (ad 33), .ref (ad 35), .ref (ad 40), .ref (ad 45), .int (zI (σ 30)), .int (zI (σ 31)), .int (zI (σ 32)), .int (zI (σ 33))])) := hS64.1
          show zG C V62 (((3013 - 1) - 1) - 1) (((6318 - 6) - 6) - 6) 107 [(7, .ref (ad (10 + q.toNat))), (0, .ref (ad 1)), (1, .int (zI (q))), (2, .int (zI (a))), (3, .int (zI (b))), (4, .int (zI (c))), (5, .int (zI (e))), (6, .int (zI (how)))] []
          refine zr_aload_n X 108 1 dX6_inner_107 rfl rfl ?_
          refine zr_get X 111 7 4 hx69 rfl iX6 (by decide) w0 rfl rfl dX6_inner_108 rfl ?_
          refine zr_aload_n X 112 1 dX6_inner_111 rfl rfl ?_
          refine zr_get X 115 7 4 hx69 rfl iX6 (by decide) w0 rfl rfl dX6_inner_112 rfl ?_
          refine zr_iload X 117 5 dX6_inner_115 rfl rfl ?_
          refine zr_iload X 119 6 dX6_inner_117 rfl rfl ?_
          refine zr_callVe (kc' := (((3013 - 1) - 1) - 1)) (ks' := (((6318 - 6) - 6) - 6)) X 122 3 (e_part_eq l Γ hw66 (by omega) (a := c) (b := e) (by omega)) gX6_inner_X5_becomePart rfl (by decide +kernel) rfl (by decide) hw66.cl rfl rfl (Nat.le_of_ble_eq_true rfl) dX6_inner_119 rfl (by omega) (by omega) (fun rv70 V71 hp72 => ?_)
          obtain ⟨hp72e, hp72n⟩ := hp72
          rw [hp72e]
          have hp72z := hp72n.1
          obtain ⟨hS73, fx74⟩ := hS64.setD hp72n
          have hw75 := hp72z.1
          have hw75r := hw75.rg
          have hw76 := hw67.row hp72z.2.1 (by omega) hp72z.2.2
          have fx77 := zag.tr fx68 fx74
          have hx78 : V71 (ad 1) = some (1, .inr (7, [.ref (ad 2), .ref (ad 20), .ref (ad 22), .ref (ad 24), .ref (ad 16), .ref (ad 31), .ref (ad 33), .ref (ad 35), .ref (ad 40), .ref (ad 45), .int (zI (σ 30)), .int (zI (σ 31)), .int (zI (σ 32)), .int (zI (σ 33))])) := hS73.1
          show zG C V71 (((3013 - 1) - 1) - 1) (((6318 - 6) - 6) - 6) 122 [(7, .ref (ad (10 + q.toNat))), (0, .ref (ad 1)), (1, .int (zI (q))), (2, .int (zI (a))), (3, .int (zI (b))), (4, .int (zI (c))), (5, .int (zI (e))), (6, .int (zI (how)))] []
          refine zr_aload_n X 123 1 dX6_inner_122 rfl rfl ?_
          refine zr_get X 126 7 4 hx78 rfl iX6 (by decide) w0 rfl rfl dX6_inner_123 rfl ?_
          obtain ⟨t79r, t79e, t79e2, t79h, t79T, t79o, t79q⟩ := hw75.tx
          have t79g := t79T.rg
          have t79c := True.intro
          refine zr_callS (kc' := (((3013 - 1) - 1) - 1) - 3010) (ks' := (((6318 - 6) - 6) - 6) - 6300) X 129 1 (m_X6_spelled l Γ (V := V71) t79T t79o t79q (by omega) (by omega)) gX6_inner_X6_spelled rfl (by decide +kernel) rfl (by decide) rfl (Nat.le_of_ble_eq_true rfl) dX6_inner_126 rfl (by omega) (by omega) (fun rv80 V81 hp82 => ?_)
          obtain ⟨hp82z, hp82e, hp82f⟩ := hp82
          rw [hp82e]
          obtain ⟨hS83, fx84⟩ := hS73.fr hp82f
          have hw85 := hw75.kept hp82f.ag (by omega) (by omega)
          have hw86 := hw76.kept hp82f.ag (by omega) (by omega)
          have fx87 := zag.tr fx77 fx84
          have hx88 : V81 (ad 1) = some (1, .inr (7, [.ref (ad 2), .ref (ad 20), .ref (ad 22), .ref (ad 24), .ref (ad 16), .ref (ad 31), .ref (ad 33), .ref (ad 35), .ref (ad 40), .ref (ad 45), .int (zI (σ 30)), .int (zI (σ 31)), .int (zI (σ 32)), .int (zI (σ 33))])) := hS83.1
          show zG C V81 ((((3013 - 1) - 1) - 1) - 3010) ((((6318 - 6) - 6) - 6) - 6300) 129 [(7, .ref (ad (10 + q.toNat))), (0, .ref (ad 1)), (1, .int (zI (q))), (2, .int (zI (a))), (3, .int (zI (b))), (4, .int (zI (c))), (5, .int (zI (e))), (6, .int (zI (how)))] [.ref hp82z]
          exact zr_aret X rfl (Or.inl ⟨_, rfl⟩) ⟨_, σ, rfl, hS83, fx87, ⟨by omega, by omega, rfl⟩⟩ dX6_inner_129
      · refine zr_aload_n X 55 1 dX6_inner_54 rfl rfl ?_
        refine zr_get X 58 7 4 hx1 rfl iX6 (by decide) w0 rfl rfl dX6_inner_55 rfl ?_
        refine zr_aload X 60 0 dX6_inner_58 rfl rfl ?_
        refine zr_iload_n X 61 3 dX6_inner_60 rfl rfl ?_
        refine zr_iload X 63 5 dX6_inner_61 rfl rfl ?_
        refine zr_iadd X 64 dX6_inner_63 rfl ?_
        refine zr_iload_n X 65 3 dX6_inner_64 rfl rfl ?_
        refine zr_iload X 67 6 dX6_inner_65 rfl rfl ?_
        refine zr_iadd X 68 dX6_inner_67 rfl ?_
        refine zr_callVe (kc' := (((3013 - 1) - 1) - 1)) (ks' := (((6318 - 6) - 6) - 6)) X 71 3 (e_part l Γ as2 hw6 (by omega) (zneW as2 hw6 (by omega)) (a := a + c) (b := a + e) (by omega)) gX6_inner_X5_becomePart rfl (by decide +kernel) rfl (by decide) as2.cl rfl rfl (Nat.le_of_ble_eq_true rfl) dX6_inner_68 rfl (by omega) (by omega) (fun rv89 V90 hp91 => ?_)
        obtain ⟨hp91e, hp91n⟩ := hp91
        rw [hp91e]
        have hp91z := hp91n.1
        obtain ⟨hS92, fx93⟩ := hS.setD hp91n
        have hw94 := hp91z.1
        have hw94r := hw94.rg
        have hw95 := hw6.row hp91z.2.1 (by omega) hp91z.2.2
        have hx96 : V90 (ad 1) = some (1, .inr (7, [.ref (ad 2), .ref (ad 20), .ref (ad 22), .ref (ad 24), .ref (ad 16), .ref (ad 31), .ref (ad 33), .ref (ad 35), .ref (ad 40), .ref (ad 45), .int (zI (σ 30)), .int (zI (σ 31)), .int (zI (σ 32)), .int (zI (σ 33))])) := hS92.1
        show zG C V90 (((3013 - 1) - 1) - 1) (((6318 - 6) - 6) - 6) 71 [(7, .ref (ad (10 + q.toNat))), (0, .ref (ad 1)), (1, .int (zI (q))), (2, .int (zI (a))), (3, .int (zI (b))), (4, .int (zI (c))), (5, .int (zI (e))), (6, .int (zI (how)))] []
        refine zr_aload_n X 72 1 dX6_inner_71 rfl rfl ?_
        refine zr_get X 75 7 4 hx96 rfl iX6 (by decide) w0 rfl rfl dX6_inner_72 rfl ?_
        obtain ⟨t97r, t97e, t97e2, t97h, t97T, t97o, t97q⟩ := hw94.tx
        have t97g := t97T.rg
        have t97c := True.intro
        refine zr_callS (kc' := (((3013 - 1) - 1) - 1) - 3010) (ks' := (((6318 - 6) - 6) - 6) - 6300) X 78 1 (m_X6_spelled l Γ (V := V90) t97T t97o t97q (by omega) (by omega)) gX6_inner_X6_spelled rfl (by decide +kernel) rfl (by decide) rfl (Nat.le_of_ble_eq_true rfl) dX6_inner_75 rfl (by omega) (by omega) (fun rv98 V99 hp100 => ?_)
        obtain ⟨hp100z, hp100e, hp100f⟩ := hp100
        rw [hp100e]
        obtain ⟨hS101, fx102⟩ := hS92.fr hp100f
        have hw103 := hw94.kept hp100f.ag (by omega) (by omega)
        have hw104 := hw95.kept hp100f.ag (by omega) (by omega)
        have fx105 := zag.tr fx93 fx102
        have hx106 : V99 (ad 1) = some (1, .inr (7, [.ref (ad 2), .ref (ad 20), .ref (ad 22), .ref (ad 24), .ref (ad 16), .ref (ad 31), .ref (ad 33), .ref (ad 35), .ref (ad 40), .ref (ad 45), .int (zI (σ 30)), .int (zI (σ 31)), .int (zI (σ 32)), .int (zI (σ 33))])) := hS101.1
        show zG C V99 ((((3013 - 1) - 1) - 1) - 3010) ((((6318 - 6) - 6) - 6) - 6300) 78 [(7, .ref (ad (10 + q.toNat))), (0, .ref (ad 1)), (1, .int (zI (q))), (2, .int (zI (a))), (3, .int (zI (b))), (4, .int (zI (c))), (5, .int (zI (e))), (6, .int (zI (how)))] [.ref hp100z]
        exact zr_aret X rfl (Or.inl ⟨_, rfl⟩) ⟨_, σ, rfl, hS101, fx105, ⟨by omega, by omega, rfl⟩⟩ dX6_inner_78
theorem zS.zsr {Γ : zGam} {V : zV} {ad : Nat → Nat} {σ : Nat → Int} (h : zS Γ V ad σ) {q : Int} (hq : 0 ≤ q ∧ q ≤ 7) : 0 ≤ zsz σ q ∧ zsz σ q ≤ 80 := by
  obtain ⟨r, to, tr, e, e2, h', a, b, c, d, x, y, z⟩ := h.txt hq
  exact ⟨x, y⟩
set_option maxRecDepth 100000 in
set_option maxHeartbeats 4000000 in
theorem m_X6_borders (l : Launch) (hlt : l.stackTraces = false) (Γ : zGam) {V : zV} {ad : Nat → Nat} {σ : Nat → Int} {q : Int} (hS : zS Γ V ad σ) (hq : -2147483648 ≤ q ∧ q ≤ 2147483647) : zN l Γ 10 yX6_borders wsX6_borders 3010 6300 V [.ref (ad 1), .int (zI (q))] (fun rv V' => ∃ (z : Nat) (σ' : Nat → Int), rv = some (.ref z) ∧ zS Γ V' ad σ' ∧ zfx V V' ∧ ((0 ≤ q ∧ q ≤ 7) ∧ σ' = σ)) (fun E V' => V' = V ∧ ((E = zIO ∧ ¬ (0 ≤ q ∧ q ≤ 7)) ∨ (E = zIA ∧ False))) := by
  have w0 : Cond.fieldLink RX6 58 "Sashwords" "table" "LSashwords$Borders;" ∈ wsX6_borders := by decide +kernel
  have iX6 : ∀ w ∈ u_ws RX6 TX6 14, w ∈ wsX6_borders := by decide +kernel
  have w2 : Cond.classLink RX6 113 RJ4 ∈ wsX6_borders := by decide +kernel
  have w3 : Cond.instantiable RJ4 4 ∈ wsX6_borders := by decide +kernel
  have w4 : Cond.initialized RJ4 ∈ wsX6_borders := by decide +kernel
  have iJ4 : ∀ w ∈ u_ws RJ4 TJ4 4, w ∈ wsX6_borders := by decide +kernel
  have w6 : Cond.initialized yJ4_init_da8c8.cls ∈ wsX6_borders := by decide +kernel
  have w7 : Cond.methodLink RX6 115 yJ4_init_da8c8 ∈ wsX6_borders := by decide +kernel
  have w8 : Cond.instanceMethod yJ4_init_da8c8 ∈ wsX6_borders := by decide +kernel
  refine zN_of (cc := cX6_borders) (nL := 5) (ret := (some (.object "java/lang/String"))) (own := RX6) hlt (by decide +kernel) rfl rfl (Nat.le_of_ble_eq_true rfl) (fun C X Y => ?_)
  have hx1 : V (ad 1) = some (1, .inr (7, [.ref (ad 2), .ref (ad 20), .ref (ad 22), .ref (ad 24), .ref (ad 16), .ref (ad 31), .ref (ad 33), .ref (ad 35), .ref (ad 40), .ref (ad 45), .int (zI (σ 30)), .int (zI (σ 31)), .int (zI (σ 32)), .int (zI (σ 33))])) := hS.1
  show zG C V 3010 6300 0 [(0, .ref (ad 1)), (1, .int (zI (q)))] []
  refine zr_aload_n X 1 0 dX6_borders_0 rfl rfl ?_
  refine zr_iload_n X 2 1 dX6_borders_1 rfl rfl ?_
  refine zr_callVN (kc' := 3010 - 1) (ks' := 6300 - 6) X Y 5 1 (m_X6_sourceOf l hlt Γ hS (q := q) (by omega)) gX6_borders_X6_sourceOf rfl (by decide +kernel) rfl (by decide) hx1 rfl rfl (Nat.le_of_ble_eq_true rfl) dX6_borders_2 rfl (by omega) (by omega) (fun E W hX => ⟨hX.2.2, Or.inl ⟨hX.1, by have := hX.2.1; omega⟩⟩) (fun rv2 V3 hp4 => ?_)
  obtain ⟨hp4a, hp4b, hp4c⟩ := hp4
  rw [hp4b, hp4c]
  obtain ⟨t5r, t5to, t5tr, t5e, t5e2, t5h, t5T, t5o, t5q, t5c, t5a, t5b, t5z⟩ := hS.txt (q := q) (by omega)
  have t5g := t5T.rg
  show zG C V (3010 - 1) (6300 - 6) 5 [(0, .ref (ad 1)), (1, .int (zI (q)))] [.ref (zso ad q)]
  refine zr_astore_n X 6 [(2, .ref (zso ad q)), (0, .ref (ad 1)), (1, .int (zI (q)))] dX6_borders_5 rfl (by decide) rfl ?_
  refine zr_aload_n X 7 1 dX6_borders_6 rfl rfl ?_
  refine zr_get X 10 7 9 hx1 rfl iX6 (by decide) w0 rfl rfl dX6_borders_7 rfl ?_
  refine zr_aload_n X 11 0 dX6_borders_10 rfl rfl ?_
  refine zr_callVe (kc' := (3010 - 1)) (ks' := (6300 - 6)) X 14 1 (g_measure l Γ hS.2.2.2.2.2.2.2.2.2.2 t5T t5o t5q (by omega) (by omega)) gX6_borders_X0_measure rfl (by decide +kernel) rfl (by decide) hS.2.2.2.2.2.2.2.2.2.2.cl rfl rfl (Nat.le_of_ble_eq_true rfl) dX6_borders_11 rfl (by omega) (by omega) (fun rv6 V7 hp8 => ?_)
  obtain ⟨hp8e, hp8w, hp8g, hp8f, hp8x, hp8z⟩ := hp8
  rw [hp8e]
  obtain ⟨hS9, fx10⟩ := hS.table hp8w (hp8g.mono (fun t ht => by omega))
  have hx11 : V7 (ad 1) = some (1, .inr (7, [.ref (ad 2), .ref (ad 20), .ref (ad 22), .ref (ad 24), .ref (ad 16), .ref (ad 31), .ref (ad 33), .ref (ad 35), .ref (ad 40), .ref (ad 45), .int (zI (σ 30)), .int (zI (σ 31)), .int (zI (σ 32)), .int (zI (σ 33))])) := hS9.1
  have t12o := hp8g _ _ _ t5o (by omega)
  have t12q := hp8g _ _ _ t5q (by omega)
  have t12T := t5T.kept (t12o.trans t5o.symm) (t12q.trans t5q.symm)
  have t12c := t5c
  have t12g := t12T.rg
  show zG C V7 (3010 - 1) (6300 - 6) 14 [(2, .ref (zso ad q)), (0, .ref (ad 1)), (1, .int (zI (q)))] []
  refine zr_new (kc' := ((3010 - 1) - 1)) (ks' := ((6300 - 6) - 4)) X 17 1 7 [.null, .int (zI (0)), .int (zI (0)), .int (zI (0))] tyJ4 rfl iJ4 tyJ4_ok w2 w3 w4 (zdf_J4) dX6_borders_14 rfl (by omega) (by omega) (fun q13 hq14 => ?_)
  refine zr_dup X 18 dX6_borders_17 rfl rfl ?_
  refine zr_callI (kc' := ((3010 - 1) - 1) - 1) (ks' := ((6300 - 6) - 4) - 16) X 21 0 (m_J4_init_da8c8 l Γ (zu_eq _ _ _ _)) gX6_borders_J4_init_da8c8 rfl w6 w7 w8 rfl (by decide +kernel) rfl (by decide) rfl (Nat.le_of_ble_eq_true rfl) dX6_borders_18 rfl (by omega) (by omega) (fun rv15 V16 hp17 => ?_)
  obtain ⟨hp17e, hp17b, hp17f⟩ := hp17
  rw [hp17e]
  have ff18 : zfr V7 V16 := zag.tr (P := fun t => t ≠ 7) (zag.rf.new hq14) hp17f
  obtain ⟨hS19, fx20⟩ := hS9.fr ff18
  have fx21 := zag.tr fx10 fx20
  have hx22 : V16 (ad 1) = some (1, .inr (7, [.ref (ad 2), .ref (ad 20), .ref (ad 22), .ref (ad 24), .ref (ad 16), .ref (ad 31), .ref (ad 33), .ref (ad 35), .ref (ad 40), .ref (ad 45), .int (zI (σ 30)), .int (zI (σ 31)), .int (zI (σ 32)), .int (zI (σ 33))])) := hS19.1
  show zG C V16 (((3010 - 1) - 1) - 1) (((6300 - 6) - 4) - 16) 21 [(2, .ref (zso ad q)), (0, .ref (ad 1)), (1, .int (zI (q)))] [.ref q13]
  refine zr_astore_n X 22 [(3, .ref q13), (2, .ref (zso ad q)), (0, .ref (ad 1)), (1, .int (zI (q)))] dX6_borders_21 rfl (by decide) rfl ?_
  refine zr_iconst X 23 dX6_borders_22 rfl ?_
  refine zr_istore X 25 [(4, .int (zI (1))), (3, .ref q13), (2, .ref (zso ad q)), (0, .ref (ad 1)), (1, .int (zI (q)))] dX6_borders_23 rfl (by decide) rfl ?_
  refine zr_room (3002 - 16) (6200 - 2 * 16) (by omega) (by omega) ?_
  obtain ⟨hza, hzb⟩ := hS19.zsr (q := q) (by omega)
  refine zr_sub [0, 1, 2, 4, 3] [(4, .int (zI (1))), (3, .ref q13), (2, .ref (zso ad q)), (1, .int (zI (q))), (0, .ref (ad 1))] rfl ?_
  have loop : ∀ (N : Nat) (V1 : zV) (k : Int) (cnt : Int) (cap : Nat), zS Γ V1 ad σ ∧ zfx V V1 ∧ zSB Γ V1 q13 cnt cap ∧ 1 ≤ k ∧ k ≤ zsz σ q + 1 ∧ 0 ≤ cnt ∧ cnt ≤ 5 * (k - 1) ∧ 16 ≤ cap ∧ cap ≤ 900 → (zsz σ q + 1 - k).toNat = N → zG C V1 (3002 - cap) (6200 - 2 * cap) 25 [(4, .int (zI (k))), (3, .ref q13), (2, .ref (zso ad q)), (1, .int (zI (q))), (0, .ref (ad 1))] [] := by
    intro N
    induction N using Nat.strongRecOn with
    | _ N ih =>
    intro V1 k cnt cap hI hN
    obtain ⟨hI1, hI2, hI3, hI4, hI5, hI6, hI7, hI8, hI9⟩ := id hI
    have hx23 : V1 (ad 1) = some (1, .inr (7, [.ref (ad 2), .ref (ad 20), .ref (ad 22), .ref (ad 24), .ref (ad 16), .ref (ad 31), .ref (ad 33), .ref (ad 35), .ref (ad 40), .ref (ad 45), .int (zI (σ 30)), .int (zI (σ 31)), .int (zI (σ 32)), .int (zI (σ 33))])) := hI1.1
    obtain ⟨hza, hzb⟩ := hI1.zsr (q := q) (by omega)
    refine zr_iload X 27 0 dX6_borders_25 rfl rfl ?_
    refine zr_aload_n X 28 2 dX6_borders_27 rfl rfl ?_
    obtain ⟨t25r, t25to, t25tr, t25e, t25e2, t25h, t25T, t25o, t25q, t25c, t25a, t25b, t25z⟩ := hI1.txt (q := q) (by omega)
    have t25g := t25T.rg
    refine zr_txSize X 31 t25T gX6_borders_X5_size_u165X5 gX6_borders_X2_size_u165X2 (by decide) (Nat.le_of_ble_eq_true rfl) dX6_borders_28 rfl ?_
    refine zr_icmp_gt X 59 34 dX6_borders_31 rfl rfl (by omega) (by omega) (fun bq26 => ?_) (fun bq26 => ?_)
    · refine zr_aload_n X 60 1 dX6_borders_59 rfl rfl ?_
      have hp29r := hI3.rg
      refine zr_callVe (kc' := 3002 - cap - 2) (ks' := 6200 - 2 * cap - ((cnt).toNat + 4)) X 63 0 (zsb_str l Γ hI3) gX6_borders_J4_toString_0e30d rfl (by decide +kernel) rfl (by decide) hI3.cl rfl rfl (Nat.le_of_ble_eq_true rfl) dX6_borders_60 rfl (by omega) (by omega) (fun rv27 V28 hp29 => ?_)
      obtain ⟨hp29z, hp29e, hp29n, hp29f⟩ := hp29
      rw [hp29e]
      obtain ⟨hS30, fx31⟩ := hI1.fr hp29f
      have fx32 := zag.tr hI2 fx31
      have hx33 : V28 (ad 1) = some (1, .inr (7, [.ref (ad 2), .ref (ad 20), .ref (ad 22), .ref (ad 24), .ref (ad 16), .ref (ad 31), .ref (ad 33), .ref (ad 35), .ref (ad 40), .ref (ad 45), .int (zI (σ 30)), .int (zI (σ 31)), .int (zI (σ 32)), .int (zI (σ 33))])) := hS30.1
      show zG C V28 (3002 - cap - 2) (6200 - 2 * cap - ((cnt).toNat + 4)) 63 [(4, .int (zI (k))), (3, .ref q13), (2, .ref (zso ad q)), (1, .int (zI (q))), (0, .ref (ad 1))] [.ref hp29z]
      exact zr_aret X rfl (Or.inl ⟨_, rfl⟩) ⟨_, σ, rfl, hS30, fx32, ⟨by omega, rfl⟩⟩ dX6_borders_63
    · refine zr_aload_n X 35 1 dX6_borders_34 rfl rfl ?_
      refine zr_aload_n X 36 4 dX6_borders_35 rfl rfl ?_
      refine zr_get X 39 7 9 hx23 rfl iX6 (by decide) w0 rfl rfl dX6_borders_36 rfl ?_
      refine zr_iload X 41 0 dX6_borders_39 rfl rfl ?_
      refine zr_callVe (kc' := 3002 - cap) (ks' := 6200 - 2 * cap) X 44 1 (g_greatestOf l Γ hI1.2.2.2.2.2.2.2.2.2.2 (k := k) (by omega)) gX6_borders_X0_greatestOf rfl (by decide +kernel) rfl (by decide) hI1.2.2.2.2.2.2.2.2.2.2.cl rfl rfl (Nat.le_of_ble_eq_true rfl) dX6_borders_41 rfl (by omega) (by omega) (fun rv34 V35 hp36 => ?_)
      obtain ⟨hp36x, hp36e, hp36v, hp36a, hp36b⟩ := hp36
      rw [hp36e, hp36v]
      show zG C V1 (3002 - cap) (6200 - 2 * cap) 44 [(4, .int (zI (k))), (3, .ref q13), (2, .ref (zso ad q)), (1, .int (zI (q))), (0, .ref (ad 1))] [.int (zI (hp36x)), .ref q13]
      have gr40r := hI3.rg
      obtain ⟨gr40q, gr40a⟩ : ∃ zq9 : Int, ((hp36x < 10 ∧ zq9 = 1) ∨ (10 ≤ hp36x ∧ hp36x < 100 ∧ zq9 = 2) ∨ (100 ≤ hp36x ∧ hp36x < 1000 ∧ zq9 = 3) ∨ (1000 ≤ hp36x ∧ zq9 = 4)) := zdigits hp36x
      obtain ⟨gr40p, gr40c, gr40k, gr40⟩ := zgrow cnt gr40q cap ⟨by omega, by omega, by omega⟩ (by omega) (by omega)
      refine zr_callVe (kc' := 3002 - cap - gr40c) (ks' := 6200 - 2 * cap - gr40k) X 47 1 (zsb_app_i l Γ hI3 (x := hp36x) (by omega) gr40a gr40) gX6_borders_J4_append_bf812 rfl (by decide +kernel) rfl (by decide) hI3.cl rfl rfl (Nat.le_of_ble_eq_true rfl) dX6_borders_44 rfl (by omega) (by omega) (fun rv37 V38 hp39 => ?_)
      obtain ⟨hp39e, hp39b, hp39f⟩ := hp39
      rw [hp39e]
      have gr40s := hp39b.rg
      obtain ⟨hS41, fx42⟩ := hI1.fr hp39f
      have fx43 := zag.tr hI2 fx42
      have hx44 : V38 (ad 1) = some (1, .inr (7, [.ref (ad 2), .ref (ad 20), .ref (ad 22), .ref (ad 24), .ref (ad 16), .ref (ad 31), .ref (ad 33), .ref (ad 35), .ref (ad 40), .ref (ad 45), .int (zI (σ 30)), .int (zI (σ 31)), .int (zI (σ 32)), .int (zI (σ 33))])) := hS41.1
      show zG C V38 (3002 - cap - gr40c) (6200 - 2 * cap - gr40k) 47 [(4, .int (zI (k))), (3, .ref q13), (2, .ref (zso ad q)), (1, .int (zI (q))), (0, .ref (ad 1))] [.ref q13]
      refine zr_bipush X 49 (32) dX6_borders_47 rfl (by decide) ?_
      have gr48r := hp39b.rg
      obtain ⟨gr48p, gr48c, gr48k, gr48⟩ := zgrow1w (cnt + gr40q) gr40p (by omega)
      refine zr_callVe (kc' := (3002 - cap - gr40c) - gr48c) (ks' := (6200 - 2 * cap - gr40k) - gr48k) X 52 1 (zsb_app_c l Γ hp39b (x := 32) (by omega) gr48) gX6_borders_J4_append_cf468 rfl (by decide +kernel) rfl (by decide) hp39b.cl rfl rfl (Nat.le_of_ble_eq_true rfl) dX6_borders_49 rfl (by omega) (by omega) (fun rv45 V46 hp47 => ?_)
      obtain ⟨hp47e, hp47b, hp47f⟩ := hp47
      rw [hp47e]
      have gr48s := hp47b.rg
      obtain ⟨hS49, fx50⟩ := hS41.fr hp47f
      have fx51 := zag.tr fx43 fx50
      have hx52 : V46 (ad 1) = some (1, .inr (7, [.ref (ad 2), .ref (ad 20), .ref (ad 22), .ref (ad 24), .ref (ad 16), .ref (ad 31), .ref (ad 33), .ref (ad 35), .ref (ad 40), .ref (ad 45), .int (zI (σ 30)), .int (zI (σ 31)), .int (zI (σ 32)), .int (zI (σ 33))])) := hS49.1
      show zG C V46 ((3002 - cap - gr40c) - gr48c) ((6200 - 2 * cap - gr40k) - gr48k) 52 [(4, .int (zI (k))), (3, .ref q13), (2, .ref (zso ad q)), (1, .int (zI (q))), (0, .ref (ad 1))] [.ref q13]
      refine zr_pop X 53 dX6_borders_52 rfl rfl ?_
      refine zr_iinc X 56 0 [(4, .int (zI (k + 1))), (3, .ref q13), (2, .ref (zso ad q)), (1, .int (zI (q))), (0, .ref (ad 1))] dX6_borders_53 rfl rfl (by decide) rfl ?_
      refine zr_goto X 25 dX6_borders_56 rfl ?_
      refine zr_room (3002 - gr48p) (6200 - 2 * gr48p) (by omega) (by omega) ?_
      exact ih _ (by omega) V46 (k + 1) (cnt + gr40q + 1) gr48p ⟨hS49, fx51, hp47b, by omega, by omega, by omega, by omega, by omega, by omega⟩ rfl
  exact loop _ V16 1 0 16 ⟨hS19, fx21, hp17b, by omega, by omega, by omega, by omega, by omega, by omega⟩ rfl
