set_option maxRecDepth 100000 in
set_option maxHeartbeats 4000000 in
theorem m_X8_pour (l : Launch) (Γ : zGam) {V : zV} {c md : Nat → Nat} {τ κ : Nat → Int} {E : Int} {q q2 n : Int} (hM : zMo Γ V c md τ κ E) (hq : -2147483648 ≤ q ∧ q ≤ 2147483647) (hq2 : -2147483648 ≤ q2 ∧ q2 ≤ 2147483647) (hn : -2147483648 ≤ n ∧ n ≤ 2147483647) : zM l Γ 4 yX8_pour wsX8_pour 0 0 V [.ref (c 60), .int (zI (q)), .int (zI (q2)), .int (zI (n))] (fun rv V' => ∃ (y : Int) (md' : Nat → Nat) (τ' κ' : Nat → Int), rv = some (.int (zI y)) ∧ zMo Γ V' c md' τ' κ' (E + 40) ∧ zfm V V' ∧ ((¬ ((0 ≤ q ∧ q ≤ 5) ∧ (0 ≤ q2 ∧ q2 ≤ 5)) ∧ y = 0 ∧ τ' = zf τ 36 1) ∨ (((0 ≤ q ∧ q ≤ 5) ∧ (0 ≤ q2 ∧ q2 ≤ 5)) ∧ ¬ (q ≠ q2 ∧ 0 ≤ n ∧ n ≤ 40) ∧ y = 0 ∧ τ' = zf τ 36 2) ∨ (((0 ≤ q ∧ q ≤ 5) ∧ (0 ≤ q2 ∧ q2 ≤ 5)) ∧ (q ≠ q2 ∧ 0 ≤ n ∧ n ≤ 40) ∧ (0 ≤ y ∧ y ≤ n ∧ y ≤ (zf τ 36 0) (4 * q.toNat + 1) - (zf τ 36 0) (4 * q.toNat + 2) ∧ y ≤ (zf τ 36 0) (4 * q2.toNat + 1) - (zf τ 36 0) (4 * q2.toNat + 2) ∧ (y = n ∨ y = (zf τ 36 0) (4 * q.toNat + 1) - (zf τ 36 0) (4 * q.toNat + 2) ∨ y = (zf τ 36 0) (4 * q2.toNat + 1) - (zf τ 36 0) (4 * q2.toNat + 2)) ∧ τ' = zdn (zw4 (zw4 (zf τ 36 0) q.toNat ((zf τ 36 0) (4 * q.toNat)) ((zf τ 36 0) (4 * q.toNat + 1)) ((zf τ 36 0) (4 * q.toNat + 2) + y) ((zf τ 36 0) (4 * q.toNat + 3))) q2.toNat ((zf τ 36 0) (4 * q2.toNat)) ((zf τ 36 0) (4 * q2.toNat + 1)) ((zf τ 36 0) (4 * q2.toNat + 2) + y) ((zf τ 36 0) (4 * q2.toNat + 3))))))) := by
  have w0 : Cond.fieldLink RX8 14 "SashwordsModel" "windows" "[[I" ∈ wsX8_pour := by decide +kernel
  have iX8 : ∀ w ∈ u_ws RX8 TX8 11, w ∈ wsX8_pour := by decide +kernel
  have w2 : Cond.methodLink RX8 97 Lib.Math.min.name ∈ wsX8_pour := by decide +kernel
  have w3 : Cond.static Lib.Math.min.name ∈ wsX8_pour := by decide +kernel
  have w4 : Cond.initialized "java/lang/Math" ∈ wsX8_pour := by decide +kernel
  have w5 : Cond.code Lib.Math.min.name Lib.Math.min.code 2 (some .int) ∈ wsX8_pour := by decide +kernel
  refine zM_of (cc := cX8_pour) (nL := 6) (ret := (some .int)) (own := RX8) (by decide +kernel) rfl rfl (Nat.le_of_ble_eq_true rfl) (fun C X hi0 => ?_)
  have nn1 : 0 ≤ κ 0 ∧ κ 0 ≤ κ 1 ∧ κ 0 ≤ E ∧ κ 1 ≤ 7000 := hM.n.1
  show zG C V 0 0 0 [(0, .ref (c 60)), (1, .int (zI (q))), (2, .int (zI (q2))), (3, .int (zI (n)))] []
  refine zr_aload_n X 1 0 dX8_pour_0 rfl rfl ?_
  refine zr_iload_n X 2 1 dX8_pour_1 rfl rfl ?_
  refine zr_callS (kc' := 0) (ks' := 0) X 5 1 (m_X8_isNoWindow l Γ (V := V) (x := q) (by first | with_reducible assumption | decide | omega)) gX8_pour_X8_isNoWindow rfl (by decide +kernel) rfl (by decide) rfl (Nat.le_of_ble_eq_true rfl) dX8_pour_2 rfl (by first | with_reducible assumption | decide | omega) (by first | with_reducible assumption | decide | omega) (fun rv2 V3 hp4 => ?_)
  obtain ⟨⟨no5, no5e, no5a⟩, no5v⟩ := hp4
  rw [no5e, no5v]
  show zG C V 0 0 5 [(0, .ref (c 60)), (1, .int (zI (q))), (2, .int (zI (q2))), (3, .int (zI (n)))] [.int (zI (no5)), .ref (c 60)]
  refine zr_if_ne X 15 8 dX8_pour_5 rfl rfl (by first | with_reducible assumption | decide | omega) (fun bq6 => ?_) (fun bq6 => ?_)
  · refine zr_iconst X 16 dX8_pour_15 rfl ?_
    refine zr_goto X 20 dX8_pour_16 rfl ?_
    refine zr_iload_n X 21 1 dX8_pour_20 rfl rfl ?_
    refine zr_iload_n X 22 2 dX8_pour_21 rfl rfl ?_
    refine zr_icmp_eq X 35 25 dX8_pour_22 rfl rfl (by first | with_reducible assumption | decide | omega) (by first | with_reducible assumption | decide | omega) (fun bq7 => ?_) (fun bq7 => ?_)
    · refine zr_iconst X 36 dX8_pour_35 rfl ?_
      refine zr_goto X 40 dX8_pour_36 rfl ?_
      refine zr_callVe (kc' := 0) (ks' := 0) X 43 2 (m_X8_isThrown l Γ hM (a := 1) (b := 1) (by first | with_reducible assumption | decide | omega) (by first | with_reducible assumption | decide | omega)) gX8_pour_X8_isThrown rfl (by decide +kernel) rfl (by decide) ⟨_, _, hM.1⟩ rfl rfl (Nat.le_of_ble_eq_true rfl) dX8_pour_40 rfl (by first | with_reducible assumption | decide | omega) (by first | with_reducible assumption | decide | omega) (fun rv8 V9 hp10 => ?_)
      obtain ⟨⟨hp10x, hp10k, hp10e, hp10c, hp10m⟩, hp10g⟩ := hp10
      rw [hp10e]
      rcases hp10c with ⟨tc11a, tc11k, tc11x⟩ | ⟨tc11a, tc11b, tc11k, tc11x⟩ | ⟨tc11a, tc11b, tc11k, tc11x⟩
      · skip
        subst tc11k tc11x
        have fx12 : zfm V V9 := (hp10g.mono (fun t ht => by omega))
        obtain ⟨τ13, τ13e⟩ : ∃ zz9 : Nat → Int, zz9 = zf τ 36 1 := ⟨_, rfl⟩
        rw [← τ13e] at hp10m
        show zG C V9 0 0 43 [(0, .ref (c 60)), (1, .int (zI (q))), (2, .int (zI (q2))), (3, .int (zI (n)))] [.int (zI (1))]
        refine zr_if_eq X 48 46 dX8_pour_43 rfl rfl (by first | with_reducible assumption | decide | omega) (fun bq14 => absurd bq14 (by first | with_reducible assumption | decide | omega)) (fun bq14 => ?_)
        refine zr_iconst X 47 dX8_pour_46 rfl ?_
        exact zr_iret X rfl ⟨0, md, τ13, κ, rfl, hp10m.le (by first | with_reducible assumption | decide | omega), fx12, Or.inl ⟨by omega, rfl, by rw [τ13e]⟩⟩ dX8_pour_47
      · exact absurd tc11a (by decide)
      · exact absurd tc11a (by decide)
    · refine zr_iload_n X 26 3 dX8_pour_25 rfl rfl ?_
      refine zr_iconst X 27 dX8_pour_26 rfl ?_
      refine zr_bipush X 29 (40) dX8_pour_27 rfl (by decide) ?_
      refine zr_callS (kc' := 0) (ks' := 0) X 32 3 (m_X8_isNo l Γ (V := V) (x := n) (a := 0) (b := 40) (by first | with_reducible assumption | decide | omega) (by first | with_reducible assumption | decide | omega) (by first | with_reducible assumption | decide | omega)) gX8_pour_X8_isNo rfl (by decide +kernel) rfl (by decide) rfl (Nat.le_of_ble_eq_true rfl) dX8_pour_29 rfl (by first | with_reducible assumption | decide | omega) (by first | with_reducible assumption | decide | omega) (fun rv15 V16 hp17 => ?_)
      obtain ⟨⟨no18, no18e, no18a⟩, no18v⟩ := hp17
      rw [no18e, no18v]
      show zG C V 0 0 32 [(0, .ref (c 60)), (1, .int (zI (q))), (2, .int (zI (q2))), (3, .int (zI (n)))] [.int (zI (no18)), .int (zI (1)), .ref (c 60)]
      refine zr_if_eq X 39 35 dX8_pour_32 rfl rfl (by first | with_reducible assumption | decide | omega) (fun bq19 => ?_) (fun bq19 => ?_)
      · refine zr_iconst X 40 dX8_pour_39 rfl ?_
        refine zr_callVe (kc' := 0) (ks' := 0) X 43 2 (m_X8_isThrown l Γ hM (a := 1) (b := 0) (by first | with_reducible assumption | decide | omega) (by first | with_reducible assumption | decide | omega)) gX8_pour_X8_isThrown rfl (by decide +kernel) rfl (by decide) ⟨_, _, hM.1⟩ rfl rfl (Nat.le_of_ble_eq_true rfl) dX8_pour_40 rfl (by first | with_reducible assumption | decide | omega) (by first | with_reducible assumption | decide | omega) (fun rv20 V21 hp22 => ?_)
        obtain ⟨⟨hp22x, hp22k, hp22e, hp22c, hp22m⟩, hp22g⟩ := hp22
        rw [hp22e]
        rcases hp22c with ⟨tc23a, tc23k, tc23x⟩ | ⟨tc23a, tc23b, tc23k, tc23x⟩ | ⟨tc23a, tc23b, tc23k, tc23x⟩
        · skip
          subst tc23k tc23x
          have fx24 : zfm V V21 := (hp22g.mono (fun t ht => by omega))
          obtain ⟨τ25, τ25e⟩ : ∃ zz9 : Nat → Int, zz9 = zf τ 36 1 := ⟨_, rfl⟩
          rw [← τ25e] at hp22m
          show zG C V21 0 0 43 [(0, .ref (c 60)), (1, .int (zI (q))), (2, .int (zI (q2))), (3, .int (zI (n)))] [.int (zI (1))]
          refine zr_if_eq X 48 46 dX8_pour_43 rfl rfl (by first | with_reducible assumption | decide | omega) (fun bq26 => absurd bq26 (by first | with_reducible assumption | decide | omega)) (fun bq26 => ?_)
          refine zr_iconst X 47 dX8_pour_46 rfl ?_
          exact zr_iret X rfl ⟨0, md, τ25, κ, rfl, hp22m.le (by first | with_reducible assumption | decide | omega), fx24, Or.inl ⟨by omega, rfl, by rw [τ25e]⟩⟩ dX8_pour_47
        · exact absurd tc23a (by decide)
        · exact absurd tc23a (by decide)
      · refine zr_iconst X 36 dX8_pour_35 rfl ?_
        refine zr_goto X 40 dX8_pour_36 rfl ?_
        refine zr_callVe (kc' := 0) (ks' := 0) X 43 2 (m_X8_isThrown l Γ hM (a := 1) (b := 1) (by first | with_reducible assumption | decide | omega) (by first | with_reducible assumption | decide | omega)) gX8_pour_X8_isThrown rfl (by decide +kernel) rfl (by decide) ⟨_, _, hM.1⟩ rfl rfl (Nat.le_of_ble_eq_true rfl) dX8_pour_40 rfl (by first | with_reducible assumption | decide | omega) (by first | with_reducible assumption | decide | omega) (fun rv27 V28 hp29 => ?_)
        obtain ⟨⟨hp29x, hp29k, hp29e, hp29c, hp29m⟩, hp29g⟩ := hp29
        rw [hp29e]
        rcases hp29c with ⟨tc30a, tc30k, tc30x⟩ | ⟨tc30a, tc30b, tc30k, tc30x⟩ | ⟨tc30a, tc30b, tc30k, tc30x⟩
        · skip
          subst tc30k tc30x
          have fx31 : zfm V V28 := (hp29g.mono (fun t ht => by omega))
          obtain ⟨τ32, τ32e⟩ : ∃ zz9 : Nat → Int, zz9 = zf τ 36 1 := ⟨_, rfl⟩
          rw [← τ32e] at hp29m
          show zG C V28 0 0 43 [(0, .ref (c 60)), (1, .int (zI (q))), (2, .int (zI (q2))), (3, .int (zI (n)))] [.int (zI (1))]
          refine zr_if_eq X 48 46 dX8_pour_43 rfl rfl (by first | with_reducible assumption | decide | omega) (fun bq33 => absurd bq33 (by first | with_reducible assumption | decide | omega)) (fun bq33 => ?_)
          refine zr_iconst X 47 dX8_pour_46 rfl ?_
          exact zr_iret X rfl ⟨0, md, τ32, κ, rfl, hp29m.le (by first | with_reducible assumption | decide | omega), fx31, Or.inl ⟨by omega, rfl, by rw [τ32e]⟩⟩ dX8_pour_47
        · exact absurd tc30a (by decide)
        · exact absurd tc30a (by decide)
  · refine zr_iload_n X 9 2 dX8_pour_8 rfl rfl ?_
    refine zr_callS (kc' := 0) (ks' := 0) X 12 1 (m_X8_isNoWindow l Γ (V := V) (x := q2) (by first | with_reducible assumption | decide | omega)) gX8_pour_X8_isNoWindow rfl (by decide +kernel) rfl (by decide) rfl (Nat.le_of_ble_eq_true rfl) dX8_pour_9 rfl (by first | with_reducible assumption | decide | omega) (by first | with_reducible assumption | decide | omega) (fun rv34 V35 hp36 => ?_)
    obtain ⟨⟨no37, no37e, no37a⟩, no37v⟩ := hp36
    rw [no37e, no37v]
    show zG C V 0 0 12 [(0, .ref (c 60)), (1, .int (zI (q))), (2, .int (zI (q2))), (3, .int (zI (n)))] [.int (zI (no37)), .ref (c 60)]
    refine zr_if_eq X 19 15 dX8_pour_12 rfl rfl (by first | with_reducible assumption | decide | omega) (fun bq38 => ?_) (fun bq38 => ?_)
    · refine zr_iconst X 20 dX8_pour_19 rfl ?_
      refine zr_iload_n X 21 1 dX8_pour_20 rfl rfl ?_
      refine zr_iload_n X 22 2 dX8_pour_21 rfl rfl ?_
      refine zr_icmp_eq X 35 25 dX8_pour_22 rfl rfl (by first | with_reducible assumption | decide | omega) (by first | with_reducible assumption | decide | omega) (fun bq39 => ?_) (fun bq39 => ?_)
      · refine zr_iconst X 36 dX8_pour_35 rfl ?_
        refine zr_goto X 40 dX8_pour_36 rfl ?_
        refine zr_callVe (kc' := 0) (ks' := 0) X 43 2 (m_X8_isThrown l Γ hM (a := 0) (b := 1) (by first | with_reducible assumption | decide | omega) (by first | with_reducible assumption | decide | omega)) gX8_pour_X8_isThrown rfl (by decide +kernel) rfl (by decide) ⟨_, _, hM.1⟩ rfl rfl (Nat.le_of_ble_eq_true rfl) dX8_pour_40 rfl (by first | with_reducible assumption | decide | omega) (by first | with_reducible assumption | decide | omega) (fun rv40 V41 hp42 => ?_)
        obtain ⟨⟨hp42x, hp42k, hp42e, hp42c, hp42m⟩, hp42g⟩ := hp42
        rw [hp42e]
        rcases hp42c with ⟨tc43a, tc43k, tc43x⟩ | ⟨tc43a, tc43b, tc43k, tc43x⟩ | ⟨tc43a, tc43b, tc43k, tc43x⟩
        · exact absurd tc43a (by decide)
        · skip
          subst tc43k tc43x
          have fx44 : zfm V V41 := (hp42g.mono (fun t ht => by omega))
          obtain ⟨τ45, τ45e⟩ : ∃ zz9 : Nat → Int, zz9 = zf τ 36 2 := ⟨_, rfl⟩
          rw [← τ45e] at hp42m
          show zG C V41 0 0 43 [(0, .ref (c 60)), (1, .int (zI (q))), (2, .int (zI (q2))), (3, .int (zI (n)))] [.int (zI (1))]
          refine zr_if_eq X 48 46 dX8_pour_43 rfl rfl (by first | with_reducible assumption | decide | omega) (fun bq46 => absurd bq46 (by first | with_reducible assumption | decide | omega)) (fun bq46 => ?_)
          refine zr_iconst X 47 dX8_pour_46 rfl ?_
          exact zr_iret X rfl ⟨0, md, τ45, κ, rfl, hp42m.le (by first | with_reducible assumption | decide | omega), fx44, Or.inr (Or.inl ⟨by omega, by omega, rfl, by rw [τ45e]⟩)⟩ dX8_pour_47
        · exact absurd tc43b (by decide)
      · refine zr_iload_n X 26 3 dX8_pour_25 rfl rfl ?_
        refine zr_iconst X 27 dX8_pour_26 rfl ?_
        refine zr_bipush X 29 (40) dX8_pour_27 rfl (by decide) ?_
        refine zr_callS (kc' := 0) (ks' := 0) X 32 3 (m_X8_isNo l Γ (V := V) (x := n) (a := 0) (b := 40) (by first | with_reducible assumption | decide | omega) (by first | with_reducible assumption | decide | omega) (by first | with_reducible assumption | decide | omega)) gX8_pour_X8_isNo rfl (by decide +kernel) rfl (by decide) rfl (Nat.le_of_ble_eq_true rfl) dX8_pour_29 rfl (by first | with_reducible assumption | decide | omega) (by first | with_reducible assumption | decide | omega) (fun rv47 V48 hp49 => ?_)
        obtain ⟨⟨no50, no50e, no50a⟩, no50v⟩ := hp49
        rw [no50e, no50v]
        show zG C V 0 0 32 [(0, .ref (c 60)), (1, .int (zI (q))), (2, .int (zI (q2))), (3, .int (zI (n)))] [.int (zI (no50)), .int (zI (0)), .ref (c 60)]
        refine zr_if_eq X 39 35 dX8_pour_32 rfl rfl (by first | with_reducible assumption | decide | omega) (fun bq51 => ?_) (fun bq51 => ?_)
        · refine zr_iconst X 40 dX8_pour_39 rfl ?_
          refine zr_callVe (kc' := 0) (ks' := 0) X 43 2 (m_X8_isThrown l Γ hM (a := 0) (b := 0) (by first | with_reducible assumption | decide | omega) (by first | with_reducible assumption | decide | omega)) gX8_pour_X8_isThrown rfl (by decide +kernel) rfl (by decide) ⟨_, _, hM.1⟩ rfl rfl (Nat.le_of_ble_eq_true rfl) dX8_pour_40 rfl (by first | with_reducible assumption | decide | omega) (by first | with_reducible assumption | decide | omega) (fun rv52 V53 hp54 => ?_)
          obtain ⟨⟨hp54x, hp54k, hp54e, hp54c, hp54m⟩, hp54g⟩ := hp54
          rw [hp54e]
          rcases hp54c with ⟨tc55a, tc55k, tc55x⟩ | ⟨tc55a, tc55b, tc55k, tc55x⟩ | ⟨tc55a, tc55b, tc55k, tc55x⟩
          · exact absurd tc55a (by decide)
          · exact absurd tc55b (by decide)
          · skip
            subst tc55k tc55x
            have fx56 : zfm V V53 := (hp54g.mono (fun t ht => by omega))
            obtain ⟨τ57, τ57e⟩ : ∃ zz9 : Nat → Int, zz9 = zf τ 36 0 := ⟨_, rfl⟩
            rw [← τ57e] at hp54m
            show zG C V53 0 0 43 [(0, .ref (c 60)), (1, .int (zI (q))), (2, .int (zI (q2))), (3, .int (zI (n)))] [.int (zI (0))]
            refine zr_if_eq X 48 46 dX8_pour_43 rfl rfl (by first | with_reducible assumption | decide | omega) (fun bq58 => ?_) (fun bq58 => absurd bq58 (by first | with_reducible assumption | decide | omega))
            refine zr_iload_n X 49 3 dX8_pour_48 rfl rfl ?_
            refine zr_aload_n X 50 0 dX8_pour_49 rfl rfl ?_
            have c859 : V53 (c 60) = some (60, .inr (9, [.ref (md 61), .int (zI (κ 0)), .ref (c 62), .ref (md 63), .ref (md 64), .ref (c 65), .int (zI (τ57 26)), .int (zI (τ57 28)), .int (zI (τ57 29)), .ref (c 66), .int (zI (τ57 36))])) := hp54m.1
            refine zr_get X 53 9 2 c859 rfl iX8 (by decide) w0 rfl rfl dX8_pour_50 rfl ?_
            refine zr_iload_n X 54 1 dX8_pour_53 rfl rfl ?_
            have c860 : V53 (c 62) = some (62, zq Γ.2.1 4 6 (fun i => some (md (70 + i)))) := hp54m.2.2.1
            refine zr_aaldI X 55 (.ref (md (70 + q.toNat))) c860 (by first | with_reducible assumption | decide | omega) rfl dX8_pour_54 rfl ?_
            have hw62 := hp54m.w (i := q.toNat) (by first | with_reducible assumption | decide | omega)
            have hw62r := hw62.rg
            have z063 : (zf τ 36 0) (4 * q.toNat) = τ57 (4 * q.toNat) := by rw [τ57e]
            have z064 : (zf τ 36 0) (4 * q.toNat + 1) = τ57 (4 * q.toNat + 1) := by rw [τ57e]
            have z065 : (zf τ 36 0) (4 * q.toNat + 2) = τ57 (4 * q.toNat + 2) := by rw [τ57e]
            have z066 : (zf τ 36 0) (4 * q.toNat + 3) = τ57 (4 * q.toNat + 3) := by rw [τ57e]
            refine zr_callS (kc' := 0) (ks' := 0) X 58 1 (m_X8_length l Γ hw62.1 (by first | with_reducible assumption | decide | omega)) gX8_pour_X8_length rfl (by decide +kernel) rfl (by decide) rfl (Nat.le_of_ble_eq_true rfl) dX8_pour_55 rfl (by first | with_reducible assumption | decide | omega) (by first | with_reducible assumption | decide | omega) (fun rv67 V68 hp69 => ?_)
            rw [hp69.1, hp69.2]
            show zG C V53 0 0 58 [(0, .ref (c 60)), (1, .int (zI (q))), (2, .int (zI (q2))), (3, .int (zI (n)))] [.int (zI ((τ57 (4 * q.toNat + 1)) - (τ57 (4 * q.toNat + 2)))), .int (zI (n))]
            refine zr_aload_n X 59 0 dX8_pour_58 rfl rfl ?_
            refine zr_get X 62 9 2 c859 rfl iX8 (by decide) w0 rfl rfl dX8_pour_59 rfl ?_
            refine zr_iload_n X 63 2 dX8_pour_62 rfl rfl ?_
            refine zr_aaldI X 64 (.ref (md (70 + q2.toNat))) c860 (by first | with_reducible assumption | decide | omega) rfl dX8_pour_63 rfl ?_
            have hw71 := hp54m.w (i := q2.toNat) (by first | with_reducible assumption | decide | omega)
            have hw71r := hw71.rg
            have z072 : (zf τ 36 0) (4 * q2.toNat) = τ57 (4 * q2.toNat) := by rw [τ57e]
            have z073 : (zf τ 36 0) (4 * q2.toNat + 1) = τ57 (4 * q2.toNat + 1) := by rw [τ57e]
            have z074 : (zf τ 36 0) (4 * q2.toNat + 2) = τ57 (4 * q2.toNat + 2) := by rw [τ57e]
            have z075 : (zf τ 36 0) (4 * q2.toNat + 3) = τ57 (4 * q2.toNat + 3) := by rw [τ57e]
            refine zr_callS (kc' := 0) (ks' := 0) X 67 1 (m_X8_length l Γ hw71.1 (by first | with_reducible assumption | decide | omega)) gX8_pour_X8_length rfl (by decide +kernel) rfl (by decide) rfl (Nat.le_of_ble_eq_true rfl) dX8_pour_64 rfl (by first | with_reducible assumption | decide | omega) (by first | with_reducible assumption | decide | omega) (fun rv76 V77 hp78 => ?_)
            rw [hp78.1, hp78.2]
            show zG C V53 0 0 67 [(0, .ref (c 60)), (1, .int (zI (q))), (2, .int (zI (q2))), (3, .int (zI (n)))] [.int (zI ((τ57 (4 * q2.toNat + 1)) - (τ57 (4 * q2.toNat + 2)))), .int (zI ((τ57 (4 * q.toNat + 1)) - (τ57 (4 * q.toNat + 2)))), .int (zI (n))]
            obtain ⟨mz79, mz79e, mz79a⟩ : ∃ z9 : Int, z9 = (if (τ57 (4 * q2.toNat + 1)) - (τ57 (4 * q2.toNat + 2)) < (τ57 (4 * q.toNat + 1)) - (τ57 (4 * q.toNat + 2)) then (τ57 (4 * q2.toNat + 1)) - (τ57 (4 * q2.toNat + 2)) else (τ57 (4 * q.toNat + 1)) - (τ57 (4 * q.toNat + 2))) ∧ (((τ57 (4 * q2.toNat + 1)) - (τ57 (4 * q2.toNat + 2)) < (τ57 (4 * q.toNat + 1)) - (τ57 (4 * q.toNat + 2)) ∧ z9 = (τ57 (4 * q2.toNat + 1)) - (τ57 (4 * q2.toNat + 2))) ∨ (¬ (τ57 (4 * q2.toNat + 1)) - (τ57 (4 * q2.toNat + 2)) < (τ57 (4 * q.toNat + 1)) - (τ57 (4 * q.toNat + 2)) ∧ z9 = (τ57 (4 * q.toNat + 1)) - (τ57 (4 * q.toNat + 2)))) := zmine _ _
            refine zr_mmin X 70 (mz79) w2 w3 w4 w5 (by decide) (Nat.le_of_ble_eq_true rfl) (by first | with_reducible assumption | decide | omega) (by first | with_reducible assumption | decide | omega) mz79e dX8_pour_67 rfl ?_
            clear mz79e
            obtain ⟨mz80, mz80e, mz80a⟩ : ∃ z9 : Int, z9 = (if mz79 < n then mz79 else n) ∧ ((mz79 < n ∧ z9 = mz79) ∨ (¬ mz79 < n ∧ z9 = n)) := zmine _ _
            refine zr_mmin X 73 (mz80) w2 w3 w4 w5 (by decide) (Nat.le_of_ble_eq_true rfl) (by first | with_reducible assumption | decide | omega) (by first | with_reducible assumption | decide | omega) mz80e dX8_pour_70 rfl ?_
            clear mz80e
            refine zr_istore X 75 [(4, .int (zI (mz80))), (0, .ref (c 60)), (1, .int (zI (q))), (2, .int (zI (q2))), (3, .int (zI (n)))] dX8_pour_73 rfl (by decide) rfl ?_
            refine zr_iconst X 76 dX8_pour_75 rfl ?_
            refine zr_istore X 78 [(5, .int (zI (0))), (4, .int (zI (mz80))), (0, .ref (c 60)), (1, .int (zI (q))), (2, .int (zI (q2))), (3, .int (zI (n)))] dX8_pour_76 rfl (by decide) rfl ?_
            refine zr_sub [0, 1, 5, 4, 3, 2] [(5, .int (zI (0))), (4, .int (zI (mz80))), (3, .int (zI (n))), (2, .int (zI (q2))), (1, .int (zI (q))), (0, .ref (c 60))] rfl ?_
            have loop : ∀ (N : Nat) (V1 : zV) (τ1 : Nat → Int) (k : Int), zMo Γ V1 c md τ1 κ E ∧ zfm V V1 ∧ τ1 = zw4 (zw4 τ57 q.toNat (τ57 (4 * q.toNat)) (τ57 (4 * q.toNat + 1)) (τ57 (4 * q.toNat + 2) + k) (τ57 (4 * q.toNat + 3))) q2.toNat (τ57 (4 * q2.toNat)) (τ57 (4 * q2.toNat + 1)) (τ57 (4 * q2.toNat + 2) + k) (τ57 (4 * q2.toNat + 3)) ∧ 0 ≤ k ∧ (k ≤ mz80 ∨ k = 0) → (mz80 - k).toNat = N → zG C V1 0 0 78 [(5, .int (zI (k))), (4, .int (zI (mz80))), (3, .int (zI (n))), (2, .int (zI (q2))), (1, .int (zI (q))), (0, .ref (c 60))] [] := by
              intro N
              induction N using Nat.strongRecOn with
              | _ N ih =>
              intro V1 τ1 k hI hN
              obtain ⟨hI1, hI2, hI3, hI4, hI5⟩ := id hI
              have nn81 : 0 ≤ κ 0 ∧ κ 0 ≤ κ 1 ∧ κ 0 ≤ E ∧ κ 1 ≤ 7000 := hI1.n.1
              have fq0 : τ1 (4 * q.toNat) = τ57 (4 * q.toNat) := by rw [hI3, zw4_ne0 (show q.toNat ≠ q2.toNat by omega)]; exact zw4_0
              have fq1 : τ1 (4 * q.toNat + 1) = τ57 (4 * q.toNat + 1) := by rw [hI3, zw4_ne (show q.toNat ≠ q2.toNat by omega) (by first | with_reducible assumption | decide | omega)]; exact zw4_1
              have fq2 : τ1 (4 * q.toNat + 2) = τ57 (4 * q.toNat + 2) + k := by rw [hI3, zw4_ne (show q.toNat ≠ q2.toNat by omega) (by first | with_reducible assumption | decide | omega)]; exact zw4_2
              have fq3 : τ1 (4 * q.toNat + 3) = τ57 (4 * q.toNat + 3) := by rw [hI3, zw4_ne (show q.toNat ≠ q2.toNat by omega) (by first | with_reducible assumption | decide | omega)]; exact zw4_3
              have fq20 : τ1 (4 * q2.toNat) = τ57 (4 * q2.toNat) := by rw [hI3]; exact zw4_0
              have fq21 : τ1 (4 * q2.toNat + 1) = τ57 (4 * q2.toNat + 1) := by rw [hI3]; exact zw4_1
              have fq22 : τ1 (4 * q2.toNat + 2) = τ57 (4 * q2.toNat + 2) + k := by rw [hI3]; exact zw4_2
              have fq23 : τ1 (4 * q2.toNat + 3) = τ57 (4 * q2.toNat + 3) := by rw [hI3]; exact zw4_3
              refine zr_iload X 80 0 dX8_pour_78 rfl rfl ?_
              refine zr_iload X 82 1 dX8_pour_80 rfl rfl ?_
              refine zr_icmp_ge X 111 85 dX8_pour_82 rfl rfl (by first | with_reducible assumption | decide | omega) (by first | with_reducible assumption | decide | omega) (fun bq82 => ?_) (fun bq82 => ?_)
              · refine zr_aload_n X 112 5 dX8_pour_111 rfl rfl ?_
                refine zr_iload X 114 1 dX8_pour_112 rfl rfl ?_
                refine zr_callVe (kc' := 0) (ks' := 0) X 117 1 (m_X8_done l Γ hI1) gX8_pour_X8_done rfl (by decide +kernel) rfl (by decide) ⟨_, _, hI1.1⟩ rfl rfl (Nat.le_of_ble_eq_true rfl) dX8_pour_114 rfl (by first | with_reducible assumption | decide | omega) (by first | with_reducible assumption | decide | omega) (fun rv83 V84 hp85 => ?_)
                obtain ⟨hp85e, hp85m, hp85g⟩ := hp85
                rw [hp85e]
                have fx86 : zfm V V84 := zag.tr hI2 (hp85g.mono (fun t ht => by omega))
                obtain ⟨τ87, τ87e⟩ : ∃ zz9 : Nat → Int, zz9 = zdn τ1 := ⟨_, rfl⟩
                rw [← τ87e] at hp85m
                have τ87_q0 : τ87 (4 * q.toNat) = τ1 (4 * q.toNat) := by rw [τ87e]; exact zdn_ne (by first | with_reducible assumption | decide | omega)
                have τ87_q1 : τ87 (4 * q.toNat + 1) = τ1 (4 * q.toNat + 1) := by rw [τ87e]; exact zdn_ne (by first | with_reducible assumption | decide | omega)
                have τ87_q2 : τ87 (4 * q.toNat + 2) = τ1 (4 * q.toNat + 2) := by rw [τ87e]; exact zdn_ne (by first | with_reducible assumption | decide | omega)
                have τ87_q3 : τ87 (4 * q.toNat + 3) = τ1 (4 * q.toNat + 3) := by rw [τ87e]; exact zdn_ne (by first | with_reducible assumption | decide | omega)
                have τ87_q20 : τ87 (4 * q2.toNat) = τ1 (4 * q2.toNat) := by rw [τ87e]; exact zdn_ne (by first | with_reducible assumption | decide | omega)
                have τ87_q21 : τ87 (4 * q2.toNat + 1) = τ1 (4 * q2.toNat + 1) := by rw [τ87e]; exact zdn_ne (by first | with_reducible assumption | decide | omega)
                have τ87_q22 : τ87 (4 * q2.toNat + 2) = τ1 (4 * q2.toNat + 2) := by rw [τ87e]; exact zdn_ne (by first | with_reducible assumption | decide | omega)
                have τ87_q23 : τ87 (4 * q2.toNat + 3) = τ1 (4 * q2.toNat + 3) := by rw [τ87e]; exact zdn_ne (by first | with_reducible assumption | decide | omega)
                show zG C V84 0 0 117 [(5, .int (zI (k))), (4, .int (zI (mz80))), (3, .int (zI (n))), (2, .int (zI (q2))), (1, .int (zI (q))), (0, .ref (c 60))] [.int (zI (mz80))]
                exact zr_iret X rfl ⟨mz80, md, τ87, κ, rfl, hp85m.le (by first | with_reducible assumption | decide | omega), fx86, Or.inr (Or.inr ⟨by omega, by omega, ⟨by omega, by omega, by omega, by omega, by omega, by rw [show mz80 = k by omega]; exact (by rw [τ87e, hI3, τ57e])⟩⟩)⟩ dX8_pour_117
              · refine zr_aload_n X 86 5 dX8_pour_85 rfl rfl ?_
                refine zr_aload_n X 87 5 dX8_pour_86 rfl rfl ?_
                have c888 : V1 (c 60) = some (60, .inr (9, [.ref (md 61), .int (zI (κ 0)), .ref (c 62), .ref (md 63), .ref (md 64), .ref (c 65), .int (zI (τ1 26)), .int (zI (τ1 28)), .int (zI (τ1 29)), .ref (c 66), .int (zI (τ1 36))])) := hI1.1
                refine zr_get X 90 9 2 c888 rfl iX8 (by decide) w0 rfl rfl dX8_pour_87 rfl ?_
                refine zr_iload_n X 91 3 dX8_pour_90 rfl rfl ?_
                have c889 : V1 (c 62) = some (62, zq Γ.2.1 4 6 (fun i => some (md (70 + i)))) := hI1.2.2.1
                refine zr_aaldI X 92 (.ref (md (70 + q2.toNat))) c889 (by first | with_reducible assumption | decide | omega) rfl dX8_pour_91 rfl ?_
                refine zr_aload_n X 93 5 dX8_pour_92 rfl rfl ?_
                refine zr_aload_n X 94 5 dX8_pour_93 rfl rfl ?_
                refine zr_get X 97 9 2 c888 rfl iX8 (by decide) w0 rfl rfl dX8_pour_94 rfl ?_
                refine zr_iload_n X 98 4 dX8_pour_97 rfl rfl ?_
                refine zr_aaldI X 99 (.ref (md (70 + q.toNat))) c889 (by first | with_reducible assumption | decide | omega) rfl dX8_pour_98 rfl ?_
                have hw91 := hI1.w (i := q.toNat) (by first | with_reducible assumption | decide | omega)
                have hw91r := hw91.rg
                refine zr_callVe (kc' := 0) (ks' := 0) X 102 1 (m_X8_read l Γ (i := q) hI1 (by first | with_reducible assumption | decide | omega) (by first | with_reducible assumption | decide | omega)) gX8_pour_X8_read rfl (by decide +kernel) rfl (by decide) ⟨_, _, hI1.1⟩ rfl rfl (Nat.le_of_ble_eq_true rfl) dX8_pour_99 rfl (by first | with_reducible assumption | decide | omega) (by first | with_reducible assumption | decide | omega) (fun rv92 V93 hp94 => ?_)
                obtain ⟨⟨hp94x, hp94e, hp94a, hp94b⟩, hp94m, hp94g⟩ := hp94
                rw [hp94e]
                have fx95 : zfm V V93 := zag.tr hI2 (hp94g.mono (fun t ht => by omega))
                obtain ⟨τ96, τ96e⟩ : ∃ zz9 : Nat → Int, zz9 = zw4 τ1 q.toNat (τ1 (4 * q.toNat)) (τ1 (4 * q.toNat + 1)) (τ1 (4 * q.toNat + 2) + 1) (τ1 (4 * q.toNat + 3)) := ⟨_, rfl⟩
                rw [← τ96e] at hp94m
                have τ96_q0 : τ96 (4 * q.toNat) = τ1 (4 * q.toNat) := by rw [τ96e]; exact zw4_0
                have τ96_q1 : τ96 (4 * q.toNat + 1) = τ1 (4 * q.toNat + 1) := by rw [τ96e]; exact zw4_1
                have τ96_q2 : τ96 (4 * q.toNat + 2) = τ1 (4 * q.toNat + 2) + 1 := by rw [τ96e]; exact zw4_2
                have τ96_q3 : τ96 (4 * q.toNat + 3) = τ1 (4 * q.toNat + 3) := by rw [τ96e]; exact zw4_3
                have τ96_q20 : τ96 (4 * q2.toNat) = τ1 (4 * q2.toNat) := by rw [τ96e]; exact zw4_ne0 (by first | with_reducible assumption | decide | omega)
                have τ96_q21 : τ96 (4 * q2.toNat + 1) = τ1 (4 * q2.toNat + 1) := by rw [τ96e]; exact zw4_ne (by first | with_reducible assumption | decide | omega) (by first | with_reducible assumption | decide | omega)
                have τ96_q22 : τ96 (4 * q2.toNat + 2) = τ1 (4 * q2.toNat + 2) := by rw [τ96e]; exact zw4_ne (by first | with_reducible assumption | decide | omega) (by first | with_reducible assumption | decide | omega)
                have τ96_q23 : τ96 (4 * q2.toNat + 3) = τ1 (4 * q2.toNat + 3) := by rw [τ96e]; exact zw4_ne (by first | with_reducible assumption | decide | omega) (by first | with_reducible assumption | decide | omega)
                show zG C V93 0 0 102 [(5, .int (zI (k))), (4, .int (zI (mz80))), (3, .int (zI (n))), (2, .int (zI (q2))), (1, .int (zI (q))), (0, .ref (c 60))] [.int (zI (hp94x)), .ref (md (70 + q2.toNat)), .ref (c 60)]
                have hw98 := hp94m.w (i := q2.toNat) (by first | with_reducible assumption | decide | omega)
                have hw98r := hw98.rg
                refine zr_callVe (kc' := 0) (ks' := 0) X 105 2 (m_X8_write l Γ (i := q2) (x := hp94x) hp94m (by first | with_reducible assumption | decide | omega) (by first | with_reducible assumption | decide | omega) (by first | with_reducible assumption | decide | omega)) gX8_pour_X8_write rfl (by decide +kernel) rfl (by decide) ⟨_, _, hp94m.1⟩ rfl rfl (Nat.le_of_ble_eq_true rfl) dX8_pour_102 rfl (by first | with_reducible assumption | decide | omega) (by first | with_reducible assumption | decide | omega) (fun rv99 V100 hp101 => ?_)
                obtain ⟨hp101e, hp101m, hp101g⟩ := hp101
                rw [hp101e]
                have fx102 : zfm V V100 := zag.tr fx95 (hp101g.mono (fun t ht => by omega))
                obtain ⟨τ103, τ103e⟩ : ∃ zz9 : Nat → Int, zz9 = zw4 τ96 q2.toNat (τ96 (4 * q2.toNat)) (τ96 (4 * q2.toNat + 1)) (τ96 (4 * q2.toNat + 2) + 1) (τ96 (4 * q2.toNat + 3)) := ⟨_, rfl⟩
                rw [← τ103e] at hp101m
                have τ103_q0 : τ103 (4 * q.toNat) = τ96 (4 * q.toNat) := by rw [τ103e]; exact zw4_ne0 (by first | with_reducible assumption | decide | omega)
                have τ103_q1 : τ103 (4 * q.toNat + 1) = τ96 (4 * q.toNat + 1) := by rw [τ103e]; exact zw4_ne (by first | with_reducible assumption | decide | omega) (by first | with_reducible assumption | decide | omega)
                have τ103_q2 : τ103 (4 * q.toNat + 2) = τ96 (4 * q.toNat + 2) := by rw [τ103e]; exact zw4_ne (by first | with_reducible assumption | decide | omega) (by first | with_reducible assumption | decide | omega)
                have τ103_q3 : τ103 (4 * q.toNat + 3) = τ96 (4 * q.toNat + 3) := by rw [τ103e]; exact zw4_ne (by first | with_reducible assumption | decide | omega) (by first | with_reducible assumption | decide | omega)
                have τ103_q20 : τ103 (4 * q2.toNat) = τ96 (4 * q2.toNat) := by rw [τ103e]; exact zw4_0
                have τ103_q21 : τ103 (4 * q2.toNat + 1) = τ96 (4 * q2.toNat + 1) := by rw [τ103e]; exact zw4_1
                have τ103_q22 : τ103 (4 * q2.toNat + 2) = τ96 (4 * q2.toNat + 2) + 1 := by rw [τ103e]; exact zw4_2
                have τ103_q23 : τ103 (4 * q2.toNat + 3) = τ96 (4 * q2.toNat + 3) := by rw [τ103e]; exact zw4_3
                show zG C V100 0 0 105 [(5, .int (zI (k))), (4, .int (zI (mz80))), (3, .int (zI (n))), (2, .int (zI (q2))), (1, .int (zI (q))), (0, .ref (c 60))] []
                refine zr_iinc X 108 0 [(5, .int (zI (k + 1))), (4, .int (zI (mz80))), (3, .int (zI (n))), (2, .int (zI (q2))), (1, .int (zI (q))), (0, .ref (c 60))] dX8_pour_105 rfl rfl (by decide) rfl ?_
                refine zr_goto X 78 dX8_pour_108 rfl ?_
                exact ih _ (by first | with_reducible assumption | decide | omega) V100 τ103 (k + 1) ⟨hp101m, fx102, by rw [τ103e, τ96_q20, τ96_q21, τ96_q22, τ96_q23, τ96e, fq0, fq1, fq2, fq3, fq20, fq21, fq22, fq23, hI3, zw4_two (show q.toNat ≠ q2.toNat by omega), Int.add_assoc, Int.add_assoc], by omega, by omega⟩ rfl
            exact loop _ V53 τ57 0 ⟨hp54m, fx56, (by rw [Int.add_zero, Int.add_zero, zw4_id, zw4_id]), by omega, by omega⟩ rfl
        · refine zr_iconst X 36 dX8_pour_35 rfl ?_
          refine zr_goto X 40 dX8_pour_36 rfl ?_
          refine zr_callVe (kc' := 0) (ks' := 0) X 43 2 (m_X8_isThrown l Γ hM (a := 0) (b := 1) (by first | with_reducible assumption | decide | omega) (by first | with_reducible assumption | decide | omega)) gX8_pour_X8_isThrown rfl (by decide +kernel) rfl (by decide) ⟨_, _, hM.1⟩ rfl rfl (Nat.le_of_ble_eq_true rfl) dX8_pour_40 rfl (by first | with_reducible assumption | decide | omega) (by first | with_reducible assumption | decide | omega) (fun rv104 V105 hp106 => ?_)
          obtain ⟨⟨hp106x, hp106k, hp106e, hp106c, hp106m⟩, hp106g⟩ := hp106
          rw [hp106e]
          rcases hp106c with ⟨tc107a, tc107k, tc107x⟩ | ⟨tc107a, tc107b, tc107k, tc107x⟩ | ⟨tc107a, tc107b, tc107k, tc107x⟩
          · exact absurd tc107a (by decide)
          · skip
            subst tc107k tc107x
            have fx108 : zfm V V105 := (hp106g.mono (fun t ht => by omega))
            obtain ⟨τ109, τ109e⟩ : ∃ zz9 : Nat → Int, zz9 = zf τ 36 2 := ⟨_, rfl⟩
            rw [← τ109e] at hp106m
            show zG C V105 0 0 43 [(0, .ref (c 60)), (1, .int (zI (q))), (2, .int (zI (q2))), (3, .int (zI (n)))] [.int (zI (1))]
            refine zr_if_eq X 48 46 dX8_pour_43 rfl rfl (by first | with_reducible assumption | decide | omega) (fun bq110 => absurd bq110 (by first | with_reducible assumption | decide | omega)) (fun bq110 => ?_)
            refine zr_iconst X 47 dX8_pour_46 rfl ?_
            exact zr_iret X rfl ⟨0, md, τ109, κ, rfl, hp106m.le (by first | with_reducible assumption | decide | omega), fx108, Or.inr (Or.inl ⟨by omega, by omega, rfl, by rw [τ109e]⟩)⟩ dX8_pour_47
          · exact absurd tc107b (by decide)
    · refine zr_iconst X 16 dX8_pour_15 rfl ?_
      refine zr_goto X 20 dX8_pour_16 rfl ?_
      refine zr_iload_n X 21 1 dX8_pour_20 rfl rfl ?_
      refine zr_iload_n X 22 2 dX8_pour_21 rfl rfl ?_
      refine zr_icmp_eq X 35 25 dX8_pour_22 rfl rfl (by first | with_reducible assumption | decide | omega) (by first | with_reducible assumption | decide | omega) (fun bq111 => ?_) (fun bq111 => ?_)
      · refine zr_iconst X 36 dX8_pour_35 rfl ?_
        refine zr_goto X 40 dX8_pour_36 rfl ?_
        refine zr_callVe (kc' := 0) (ks' := 0) X 43 2 (m_X8_isThrown l Γ hM (a := 1) (b := 1) (by first | with_reducible assumption | decide | omega) (by first | with_reducible assumption | decide | omega)) gX8_pour_X8_isThrown rfl (by decide +kernel) rfl (by decide) ⟨_, _, hM.1⟩ rfl rfl (Nat.le_of_ble_eq_true rfl) dX8_pour_40 rfl (by first | with_reducible assumption | decide | omega) (by first | with_reducible assumption | decide | omega) (fun rv112 V113 hp114 => ?_)
        obtain ⟨⟨hp114x, hp114k, hp114e, hp114c, hp114m⟩, hp114g⟩ := hp114
        rw [hp114e]
        rcases hp114c with ⟨tc115a, tc115k, tc115x⟩ | ⟨tc115a, tc115b, tc115k, tc115x⟩ | ⟨tc115a, tc115b, tc115k, tc115x⟩
        · skip
          subst tc115k tc115x
          have fx116 : zfm V V113 := (hp114g.mono (fun t ht => by omega))
          obtain ⟨τ117, τ117e⟩ : ∃ zz9 : Nat → Int, zz9 = zf τ 36 1 := ⟨_, rfl⟩
          rw [← τ117e] at hp114m
          show zG C V113 0 0 43 [(0, .ref (c 60)), (1, .int (zI (q))), (2, .int (zI (q2))), (3, .int (zI (n)))] [.int (zI (1))]
          refine zr_if_eq X 48 46 dX8_pour_43 rfl rfl (by first | with_reducible assumption | decide | omega) (fun bq118 => absurd bq118 (by first | with_reducible assumption | decide | omega)) (fun bq118 => ?_)
          refine zr_iconst X 47 dX8_pour_46 rfl ?_
          exact zr_iret X rfl ⟨0, md, τ117, κ, rfl, hp114m.le (by first | with_reducible assumption | decide | omega), fx116, Or.inl ⟨by omega, rfl, by rw [τ117e]⟩⟩ dX8_pour_47
        · exact absurd tc115a (by decide)
        · exact absurd tc115a (by decide)
      · refine zr_iload_n X 26 3 dX8_pour_25 rfl rfl ?_
        refine zr_iconst X 27 dX8_pour_26 rfl ?_
        refine zr_bipush X 29 (40) dX8_pour_27 rfl (by decide) ?_
        refine zr_callS (kc' := 0) (ks' := 0) X 32 3 (m_X8_isNo l Γ (V := V) (x := n) (a := 0) (b := 40) (by first | with_reducible assumption | decide | omega) (by first | with_reducible assumption | decide | omega) (by first | with_reducible assumption | decide | omega)) gX8_pour_X8_isNo rfl (by decide +kernel) rfl (by decide) rfl (Nat.le_of_ble_eq_true rfl) dX8_pour_29 rfl (by first | with_reducible assumption | decide | omega) (by first | with_reducible assumption | decide | omega) (fun rv119 V120 hp121 => ?_)
        obtain ⟨⟨no122, no122e, no122a⟩, no122v⟩ := hp121
        rw [no122e, no122v]
        show zG C V 0 0 32 [(0, .ref (c 60)), (1, .int (zI (q))), (2, .int (zI (q2))), (3, .int (zI (n)))] [.int (zI (no122)), .int (zI (1)), .ref (c 60)]
        refine zr_if_eq X 39 35 dX8_pour_32 rfl rfl (by first | with_reducible assumption | decide | omega) (fun bq123 => ?_) (fun bq123 => ?_)
        · refine zr_iconst X 40 dX8_pour_39 rfl ?_
          refine zr_callVe (kc' := 0) (ks' := 0) X 43 2 (m_X8_isThrown l Γ hM (a := 1) (b := 0) (by first | with_reducible assumption | decide | omega) (by first | with_reducible assumption | decide | omega)) gX8_pour_X8_isThrown rfl (by decide +kernel) rfl (by decide) ⟨_, _, hM.1⟩ rfl rfl (Nat.le_of_ble_eq_true rfl) dX8_pour_40 rfl (by first | with_reducible assumption | decide | omega) (by first | with_reducible assumption | decide | omega) (fun rv124 V125 hp126 => ?_)
          obtain ⟨⟨hp126x, hp126k, hp126e, hp126c, hp126m⟩, hp126g⟩ := hp126
          rw [hp126e]
          rcases hp126c with ⟨tc127a, tc127k, tc127x⟩ | ⟨tc127a, tc127b, tc127k, tc127x⟩ | ⟨tc127a, tc127b, tc127k, tc127x⟩
          · skip
            subst tc127k tc127x
            have fx128 : zfm V V125 := (hp126g.mono (fun t ht => by omega))
            obtain ⟨τ129, τ129e⟩ : ∃ zz9 : Nat → Int, zz9 = zf τ 36 1 := ⟨_, rfl⟩
            rw [← τ129e] at hp126m
            show zG C V125 0 0 43 [(0, .ref (c 60)), (1, .int (zI (q))), (2, .int (zI (q2))), (3, .int (zI (n)))] [.int (zI (1))]
            refine zr_if_eq X 48 46 dX8_pour_43 rfl rfl (by first | with_reducible assumption | decide | omega) (fun bq130 => absurd bq130 (by first | with_reducible assumption | decide | omega)) (fun bq130 => ?_)
            refine zr_iconst X 47 dX8_pour_46 rfl ?_
            exact zr_iret X rfl ⟨0, md, τ129, κ, rfl, hp126m.le (by first | with_reducible assumption | decide | omega), fx128, Or.inl ⟨by omega, rfl, by rw [τ129e]⟩⟩ dX8_pour_47
          · exact absurd tc127a (by decide)
          · exact absurd tc127a (by decide)
        · refine zr_iconst X 36 dX8_pour_35 rfl ?_
          refine zr_goto X 40 dX8_pour_36 rfl ?_
          refine zr_callVe (kc' := 0) (ks' := 0) X 43 2 (m_X8_isThrown l Γ hM (a := 1) (b := 1) (by first | with_reducible assumption | decide | omega) (by first | with_reducible assumption | decide | omega)) gX8_pour_X8_isThrown rfl (by decide +kernel) rfl (by decide) ⟨_, _, hM.1⟩ rfl rfl (Nat.le_of_ble_eq_true rfl) dX8_pour_40 rfl (by first | with_reducible assumption | decide | omega) (by first | with_reducible assumption | decide | omega) (fun rv131 V132 hp133 => ?_)
          obtain ⟨⟨hp133x, hp133k, hp133e, hp133c, hp133m⟩, hp133g⟩ := hp133
          rw [hp133e]
          rcases hp133c with ⟨tc134a, tc134k, tc134x⟩ | ⟨tc134a, tc134b, tc134k, tc134x⟩ | ⟨tc134a, tc134b, tc134k, tc134x⟩
          · skip
            subst tc134k tc134x
            have fx135 : zfm V V132 := (hp133g.mono (fun t ht => by omega))
            obtain ⟨τ136, τ136e⟩ : ∃ zz9 : Nat → Int, zz9 = zf τ 36 1 := ⟨_, rfl⟩
            rw [← τ136e] at hp133m
            show zG C V132 0 0 43 [(0, .ref (c 60)), (1, .int (zI (q))), (2, .int (zI (q2))), (3, .int (zI (n)))] [.int (zI (1))]
            refine zr_if_eq X 48 46 dX8_pour_43 rfl rfl (by first | with_reducible assumption | decide | omega) (fun bq137 => absurd bq137 (by first | with_reducible assumption | decide | omega)) (fun bq137 => ?_)
            refine zr_iconst X 47 dX8_pour_46 rfl ?_
            exact zr_iret X rfl ⟨0, md, τ136, κ, rfl, hp133m.le (by first | with_reducible assumption | decide | omega), fx135, Or.inl ⟨by omega, rfl, by rw [τ136e]⟩⟩ dX8_pour_47
          · exact absurd tc134a (by decide)
          · exact absurd tc134a (by decide)
