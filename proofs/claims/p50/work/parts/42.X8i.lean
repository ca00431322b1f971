/-! the model: soundness, checksum -/
theorem ziand1 {x y : Int} (hx : x = 1) (hy : y = 0 ∨ y = 1) : ∃ z : Int, zI x &&& zI y = zI z ∧ z = y := by
  subst hx
  rcases hy with rfl | rfl
  · exact ⟨0, by decide, rfl⟩
  · exact ⟨1, by decide, rfl⟩
/-- whether there is a last one -/
theorem zsP.lst {τ : Nat → Int} {q q2 y : Int} (h : zsP τ q q2 (zsN τ q q2 - 1) y) : (y < 0 ∧ zsN τ q q2 ≤ 0) ∨ (0 ≤ y ∧ 0 < zsN τ q q2) := by
  rcases h with ⟨e, a⟩ | ⟨p, e, a, b, c⟩
  · refine Or.inl ⟨by omega, ?_⟩
    rcases a with a | a
    · omega
    · have d : zsN τ q q2 ≤ zsN τ q q2 - 1 := a
      omega
  · refine Or.inr ⟨by omega, ?_⟩
    have d : (0 : Int) ≤ (zno (zwt (zsz τ q2) (zsg τ q2)) (zwt (zsz τ q) (zsg τ q)) (zsz τ q2).toNat p : Int) := Int.natCast_nonneg _
    omega
set_option maxRecDepth 100000 in
set_option maxHeartbeats 4000000 in
theorem m_X8_isRight (l : Launch) (Γ : zGam) {V : zV} {c md : Nat → Nat} {τ κ : Nat → Int} {E : Int} (hM : zMo Γ V c md τ κ E) : zM l Γ 6 yX8_isRight wsX8_isRight 12 480 V [.ref (c 60)] (fun rv V' => rv = some (.int (zI 1)) ∧ zMo Γ V' c md τ κ E ∧ zag zal V V') := by
  have w0 : Cond.fieldLink RX8 132 "SashwordsModel" "out" "I" ∈ wsX8_isRight := by decide +kernel
  have iX8 : ∀ w ∈ u_ws RX8 TX8 11, w ∈ wsX8_isRight := by decide +kernel
  have w2 : Cond.fieldLink RX8 129 "SashwordsModel" "in" "I" ∈ wsX8_isRight := by decide +kernel
  have w3 : Cond.fieldLink RX8 27 "SashwordsModel" "size" "I" ∈ wsX8_isRight := by decide +kernel
  have w4 : Cond.fieldLink RX8 18 "SashwordsModel" "built" "[I" ∈ wsX8_isRight := by decide +kernel
  have w5 : Cond.fieldLink RX8 14 "SashwordsModel" "windows" "[[I" ∈ wsX8_isRight := by decide +kernel
  have w6 : Cond.fieldLink RX8 45 "SashwordsModel" "end" "I" ∈ wsX8_isRight := by decide +kernel
  have w7 : Cond.fieldLink RX8 21 "SashwordsModel" "kept" "[I" ∈ wsX8_isRight := by decide +kernel
  refine zM_of (cc := cX8_isRight) (nL := 6) (ret := (some .boolean)) (own := RX8) (by decide +kernel) rfl rfl (Nat.le_of_ble_eq_true rfl) (fun C X hi0 => ?_)
  have nn1 : (0 ≤ κ 0 ∧ κ 0 ≤ κ 1 ∧ κ 0 ≤ E ∧ κ 1 ≤ 7000) ∧ (0 ≤ τ 24 ∧ τ 24 ≤ 80 ∧ 0 ≤ τ 25 ∧ τ 25 ≤ 80) ∧ 1 ≤ τ 26 ∧ τ 26 ≤ 8 ∧ 0 ≤ τ 29 ∧ τ 29 ≤ τ 28 ∧ τ 28 ≤ 160 ∧ τ 27 ≤ τ 26 ∧ τ 27 = τ 28 - τ 29 := hM.n
  show zG C V 12 480 0 [(0, .ref (c 60))] []
  refine zr_aload_n X 1 0 dX8_isRight_0 rfl rfl ?_
  have c82 : V (c 60) = some (60, .inr (9, [.ref (md 61), .int (zI (κ 0)), .ref (c 62), .ref (md 63), .ref (md 64), .ref (c 65), .int (zI (τ 26)), .int (zI (τ 28)), .int (zI (τ 29)), .ref (c 66), .int (zI (τ 36))])) := hM.1
  refine zr_get X 4 9 8 c82 rfl iX8 (by decide) w0 rfl rfl dX8_isRight_1 rfl ?_
  refine zr_aload_n X 5 0 dX8_isRight_4 rfl rfl ?_
  refine zr_get X 8 9 7 c82 rfl iX8 (by decide) w2 rfl rfl dX8_isRight_5 rfl ?_
  refine zr_icmp_gt X 51 11 dX8_isRight_8 rfl rfl (by omega) (by omega) (fun bq3 => ?_) (fun bq3 => ?_)
  · exfalso
    omega
  · refine zr_aload_n X 12 0 dX8_isRight_11 rfl rfl ?_
    refine zr_get X 15 9 7 c82 rfl iX8 (by decide) w2 rfl rfl dX8_isRight_12 rfl ?_
    refine zr_aload_n X 16 0 dX8_isRight_15 rfl rfl ?_
    refine zr_get X 19 9 8 c82 rfl iX8 (by decide) w0 rfl rfl dX8_isRight_16 rfl ?_
    refine zr_isub X 20 dX8_isRight_19 rfl ?_
    refine zr_aload_n X 21 0 dX8_isRight_20 rfl rfl ?_
    refine zr_get X 24 9 6 c82 rfl iX8 (by decide) w3 rfl rfl dX8_isRight_21 rfl ?_
    refine zr_icmp_gt X 51 27 dX8_isRight_24 rfl rfl (by omega) (by omega) (fun bq4 => ?_) (fun bq4 => ?_)
    · exfalso
      omega
    · refine zr_aload_n X 28 0 dX8_isRight_27 rfl rfl ?_
      refine zr_get X 31 9 7 c82 rfl iX8 (by decide) w2 rfl rfl dX8_isRight_28 rfl ?_
      refine zr_sipush X 34 (160) dX8_isRight_31 rfl (by decide) ?_
      refine zr_icmp_gt X 51 37 dX8_isRight_34 rfl rfl (by omega) (by omega) (fun bq5 => ?_) (fun bq5 => ?_)
      · exfalso
        omega
      · refine zr_aload_n X 38 0 dX8_isRight_37 rfl rfl ?_
        refine zr_get X 41 9 3 c82 rfl iX8 (by decide) w4 rfl rfl dX8_isRight_38 rfl ?_
        obtain ⟨c86f, c86, c86c, c86v⟩ := hM.ct.2.2.2.1
        refine zr_alen X 42 0 c86 (by decide) dX8_isRight_41 rfl ?_
        refine zr_bipush X 44 (80) dX8_isRight_42 rfl (by decide) ?_
        refine zr_icmp_gt X 51 47 dX8_isRight_44 rfl rfl (by omega) (by omega) (fun bq7 => ?_) (fun bq7 => ?_)
        · exfalso
          omega
        · refine zr_iconst X 48 dX8_isRight_47 rfl ?_
          refine zr_goto X 52 dX8_isRight_48 rfl ?_
          refine zr_istore_n X 53 [(1, .int (zI (1))), (0, .ref (c 60))] dX8_isRight_52 rfl (by decide) rfl ?_
          refine zr_aload_n X 54 1 dX8_isRight_53 rfl rfl ?_
          refine zr_get X 57 9 2 c82 rfl iX8 (by decide) w5 rfl rfl dX8_isRight_54 rfl ?_
          refine zr_astore_n X 58 [(2, .ref (c 62)), (1, .int (zI (1))), (0, .ref (c 60))] dX8_isRight_57 rfl (by decide) rfl ?_
          refine zr_aload_n X 59 0 dX8_isRight_58 rfl rfl ?_
          have c88 : V (c 62) = some (62, zq Γ.2.1 4 6 (fun i => some (md (70 + i)))) := hM.2.2.1
          refine zr_alenq X 60 4 c88 (by decide) dX8_isRight_59 rfl ?_
          refine zr_istore_n X 61 [(3, .int (zI ((6 : Nat)))), (2, .ref (c 62)), (1, .int (zI (1))), (0, .ref (c 60))] dX8_isRight_60 rfl (by decide) rfl ?_
          refine zr_iconst X 62 dX8_isRight_61 rfl ?_
          refine zr_istore X 64 [(4, .int (zI (0))), (3, .int (zI ((6 : Nat)))), (2, .ref (c 62)), (1, .int (zI (1))), (0, .ref (c 60))] dX8_isRight_62 rfl (by decide) rfl ?_
          refine zr_room (12 - 2 * (0 : Int).toNat) (480 - 80 * (0 : Int).toNat) (by omega) (by omega) ?_
          have loop : ∀ (N : Nat) (V1 : zV) (b1 : Int) (k : Int), zMo Γ V1 c md τ κ E ∧ zfm V V1 ∧ b1 = 1 ∧ 0 ≤ k ∧ k ≤ 6 ∧ zag zal V V1 → (6 - k).toNat = N → zG C V1 (12 - 2 * k.toNat) (480 - 80 * k.toNat) 64 [(4, .int (zI (k))), (3, .int (zI ((6 : Nat)))), (2, .ref (c 62)), (1, .int (zI (b1))), (0, .ref (c 60))] [] := by
            intro N
            induction N using Nat.strongRecOn with
            | _ N ih =>
            intro V1 b1 k hI hN
            obtain ⟨hI1, hI2, hI3, hI4, hI5, hI6⟩ := id hI
            refine zr_iload X 66 0 dX8_isRight_64 rfl rfl ?_
            refine zr_iload_n X 67 1 dX8_isRight_66 rfl rfl ?_
            refine zr_icmp_ge X 200 70 dX8_isRight_67 rfl rfl (by omega) (by omega) (fun bq9 => ?_) (fun bq9 => ?_)
            · refine zr_iload_n X 201 3 dX8_isRight_200 rfl rfl ?_
              exact zr_zret X rfl (znz (by omega)) ⟨by rw [hI3], hI1, hI6⟩ dX8_isRight_201
            · refine zr_aload_n X 71 2 dX8_isRight_70 rfl rfl ?_
              refine zr_iload X 73 0 dX8_isRight_71 rfl rfl ?_
              have c810 : V1 (c 62) = some (62, zq Γ.2.1 4 6 (fun i => some (md (70 + i)))) := hI1.2.2.1
              refine zr_aaldI X 74 (.ref (md (70 + k.toNat))) c810 (by omega) rfl dX8_isRight_73 rfl ?_
              refine zr_astore X 76 [(5, .ref (md (70 + k.toNat))), (4, .int (zI (k))), (3, .int (zI ((6 : Nat)))), (2, .ref (c 62)), (1, .int (zI (b1))), (0, .ref (c 60))] dX8_isRight_74 rfl (by decide) rfl ?_
              refine zr_iload_n X 77 4 dX8_isRight_76 rfl rfl ?_
              refine zr_aload X 79 0 dX8_isRight_77 rfl rfl ?_
              refine zr_iconst X 80 dX8_isRight_79 rfl ?_
              have hw12 := hI1.w (i := k.toNat) (by omega)
              have hw12r := hw12.rg
              have hw12d := hw12.mk
              refine zr_iald X 81 hw12.1 (by omega) dX8_isRight_80 rfl ?_
              show zG C V1 (12 - 2 * k.toNat) (480 - 80 * k.toNat) 81 [(5, .ref (md (70 + k.toNat))), (4, .int (zI (k))), (3, .int (zI ((6 : Nat)))), (2, .ref (c 62)), (1, .int (zI (b1))), (0, .ref (c 60))] [.int (zI (κ (20 + k.toNat))), .int (zI (b1))]
              refine zr_aload X 83 0 dX8_isRight_81 rfl rfl ?_
              refine zr_iconst X 84 dX8_isRight_83 rfl ?_
              refine zr_iald X 85 hw12.1 (by omega) dX8_isRight_84 rfl ?_
              show zG C V1 (12 - 2 * k.toNat) (480 - 80 * k.toNat) 85 [(5, .ref (md (70 + k.toNat))), (4, .int (zI (k))), (3, .int (zI ((6 : Nat)))), (2, .ref (c 62)), (1, .int (zI (b1))), (0, .ref (c 60))] [.int (zI (τ (4 * k.toNat + 2))), .int (zI (κ (20 + k.toNat))), .int (zI (b1))]
              refine zr_icmp_gt X 137 88 dX8_isRight_85 rfl rfl (by omega) (by omega) (fun bq13 => ?_) (fun bq13 => ?_)
              · exfalso
                omega
              · refine zr_aload X 90 0 dX8_isRight_88 rfl rfl ?_
                refine zr_iconst X 91 dX8_isRight_90 rfl ?_
                refine zr_iald X 92 hw12.1 (by omega) dX8_isRight_91 rfl ?_
                show zG C V1 (12 - 2 * k.toNat) (480 - 80 * k.toNat) 92 [(5, .ref (md (70 + k.toNat))), (4, .int (zI (k))), (3, .int (zI ((6 : Nat)))), (2, .ref (c 62)), (1, .int (zI (b1))), (0, .ref (c 60))] [.int (zI (τ (4 * k.toNat + 2))), .int (zI (b1))]
                refine zr_if_lt X 137 95 dX8_isRight_92 rfl rfl (by omega) (fun bq14 => ?_) (fun bq14 => ?_)
                · exfalso
                  omega
                · refine zr_aload X 97 0 dX8_isRight_95 rfl rfl ?_
                  refine zr_iconst X 98 dX8_isRight_97 rfl ?_
                  refine zr_iald X 99 hw12.1 (by omega) dX8_isRight_98 rfl ?_
                  show zG C V1 (12 - 2 * k.toNat) (480 - 80 * k.toNat) 99 [(5, .ref (md (70 + k.toNat))), (4, .int (zI (k))), (3, .int (zI ((6 : Nat)))), (2, .ref (c 62)), (1, .int (zI (b1))), (0, .ref (c 60))] [.int (zI (τ (4 * k.toNat + 2))), .int (zI (b1))]
                  refine zr_aload X 101 0 dX8_isRight_99 rfl rfl ?_
                  refine zr_iconst X 102 dX8_isRight_101 rfl ?_
                  refine zr_iald X 103 hw12.1 (by omega) dX8_isRight_102 rfl ?_
                  show zG C V1 (12 - 2 * k.toNat) (480 - 80 * k.toNat) 103 [(5, .ref (md (70 + k.toNat))), (4, .int (zI (k))), (3, .int (zI ((6 : Nat)))), (2, .ref (c 62)), (1, .int (zI (b1))), (0, .ref (c 60))] [.int (zI (τ (4 * k.toNat + 1))), .int (zI (τ (4 * k.toNat + 2))), .int (zI (b1))]
                  refine zr_icmp_gt X 137 106 dX8_isRight_103 rfl rfl (by omega) (by omega) (fun bq15 => ?_) (fun bq15 => ?_)
                  · exfalso
                    omega
                  · refine zr_aload X 108 0 dX8_isRight_106 rfl rfl ?_
                    refine zr_iconst X 109 dX8_isRight_108 rfl ?_
                    refine zr_iald X 110 hw12.1 (by omega) dX8_isRight_109 rfl ?_
                    show zG C V1 (12 - 2 * k.toNat) (480 - 80 * k.toNat) 110 [(5, .ref (md (70 + k.toNat))), (4, .int (zI (k))), (3, .int (zI ((6 : Nat)))), (2, .ref (c 62)), (1, .int (zI (b1))), (0, .ref (c 60))] [.int (zI (τ (4 * k.toNat + 1))), .int (zI (b1))]
                    refine zr_aload X 112 0 dX8_isRight_110 rfl rfl ?_
                    refine zr_iconst X 113 dX8_isRight_112 rfl ?_
                    refine zr_iald X 114 hw12.1 (by omega) dX8_isRight_113 rfl ?_
                    show zG C V1 (12 - 2 * k.toNat) (480 - 80 * k.toNat) 114 [(5, .ref (md (70 + k.toNat))), (4, .int (zI (k))), (3, .int (zI ((6 : Nat)))), (2, .ref (c 62)), (1, .int (zI (b1))), (0, .ref (c 60))] [.int (zI (τ (4 * k.toNat))), .int (zI (τ (4 * k.toNat + 1))), .int (zI (b1))]
                    refine zr_icmp_gt X 137 117 dX8_isRight_114 rfl rfl (by omega) (by omega) (fun bq16 => ?_) (fun bq16 => ?_)
                    · exfalso
                      omega
                    · refine zr_aload X 119 0 dX8_isRight_117 rfl rfl ?_
                      refine zr_iconst X 120 dX8_isRight_119 rfl ?_
                      refine zr_iald X 121 hw12.1 (by omega) dX8_isRight_120 rfl ?_
                      show zG C V1 (12 - 2 * k.toNat) (480 - 80 * k.toNat) 121 [(5, .ref (md (70 + k.toNat))), (4, .int (zI (k))), (3, .int (zI ((6 : Nat)))), (2, .ref (c 62)), (1, .int (zI (b1))), (0, .ref (c 60))] [.int (zI (κ (10 + k.toNat))), .int (zI (b1))]
                      refine zr_aload X 123 0 dX8_isRight_121 rfl rfl ?_
                      refine zr_iconst X 124 dX8_isRight_123 rfl ?_
                      refine zr_iald X 125 hw12.1 (by omega) dX8_isRight_124 rfl ?_
                      show zG C V1 (12 - 2 * k.toNat) (480 - 80 * k.toNat) 125 [(5, .ref (md (70 + k.toNat))), (4, .int (zI (k))), (3, .int (zI ((6 : Nat)))), (2, .ref (c 62)), (1, .int (zI (b1))), (0, .ref (c 60))] [.int (zI (τ (4 * k.toNat))), .int (zI (κ (10 + k.toNat))), .int (zI (b1))]
                      refine zr_iadd X 126 dX8_isRight_125 rfl ?_
                      refine zr_aload_n X 127 5 dX8_isRight_126 rfl rfl ?_
                      have c817 : V1 (c 60) = some (60, .inr (9, [.ref (md 61), .int (zI (κ 0)), .ref (c 62), .ref (md 63), .ref (md 64), .ref (c 65), .int (zI (τ 26)), .int (zI (τ 28)), .int (zI (τ 29)), .ref (c 66), .int (zI (τ 36))])) := hI1.1
                      refine zr_get X 130 9 1 c817 rfl iX8 (by decide) w6 rfl rfl dX8_isRight_127 rfl ?_
                      refine zr_icmp_gt X 137 133 dX8_isRight_130 rfl rfl (by omega) (by omega) (fun bq18 => ?_) (fun bq18 => ?_)
                      · exfalso
                        omega
                      · refine zr_iconst X 134 dX8_isRight_133 rfl ?_
                        refine zr_goto X 138 dX8_isRight_134 rfl ?_
                        obtain ⟨iz19, iz19e, iz19a⟩ := ziand1 (x := b1) (y := 1) (by omega) (by omega)
                        refine zr_iand X 139 dX8_isRight_138 rfl ?_
                        rw [iz19e]
                        show zG C V1 (12 - 2 * k.toNat) (480 - 80 * k.toNat) 139 [(5, .ref (md (70 + k.toNat))), (4, .int (zI (k))), (3, .int (zI ((6 : Nat)))), (2, .ref (c 62)), (1, .int (zI (b1))), (0, .ref (c 60))] [.int (zI (iz19))]
                        refine zr_istore_n X 140 [(1, .int (zI (iz19))), (5, .ref (md (70 + k.toNat))), (4, .int (zI (k))), (3, .int (zI ((6 : Nat)))), (2, .ref (c 62)), (0, .ref (c 60))] dX8_isRight_139 rfl (by decide) rfl ?_
                        refine zr_iload_n X 141 0 dX8_isRight_140 rfl rfl ?_
                        refine zr_aload_n X 142 5 dX8_isRight_141 rfl rfl ?_
                        refine zr_aload X 144 1 dX8_isRight_142 rfl rfl ?_
                        refine zr_callVe (kc' := (12 - 2 * k.toNat - 1)) (ks' := (480 - 80 * k.toNat - 40)) X 147 1 (m_X8_text l Γ (tg := 76) (i := k) hI1 (by omega)) gX8_isRight_X8_text rfl (by decide +kernel) rfl (by decide) ⟨_, _, hI1.1⟩ rfl rfl (Nat.le_of_ble_eq_true rfl) dX8_isRight_144 rfl (by omega) (by omega) (fun rv20 V21 hp22 => ?_)
                        obtain ⟨hp22q, hp22f, hp22e, hp22h, hp22c, hp22g, hp22z⟩ := hp22
                        rw [hp22e]
                        have hp22m := hI1.kept hp22g (fun _ _ _ => trivial)
                        have fx23 : zfm V V21 := zag.tr hI2 (hp22g.mono (fun _ _ => trivial))
                        show zG C V21 (12 - 2 * k.toNat - 1) (480 - 80 * k.toNat - 40) 147 [(1, .int (zI (iz19))), (5, .ref (md (70 + k.toNat))), (4, .int (zI (k))), (3, .int (zI ((6 : Nat)))), (2, .ref (c 62)), (0, .ref (c 60))] [.ref hp22q, .int (zI (iz19))]
                        refine zr_aload_n X 148 5 dX8_isRight_147 rfl rfl ?_
                        have c824 : V21 (c 60) = some (60, .inr (9, [.ref (md 61), .int (zI (κ 0)), .ref (c 62), .ref (md 63), .ref (md 64), .ref (c 65), .int (zI (τ 26)), .int (zI (τ 28)), .int (zI (τ 29)), .ref (c 66), .int (zI (τ 36))])) := hp22m.1
                        refine zr_get X 151 9 4 c824 rfl iX8 (by decide) w7 rfl rfl dX8_isRight_148 rfl ?_
                        refine zr_iconst X 152 dX8_isRight_151 rfl ?_
                        obtain ⟨c825f, c825, c825c, c825v⟩ := hp22m.ct.2.2.2.2
                        refine zr_callS (kc' := (12 - 2 * k.toNat - 1)) (ks' := (480 - 80 * k.toNat - 40)) X 155 3 (m_X8_nth l Γ (w := 0) hp22h hp22c (by omega) c825 c825c (by omega) (by omega)) gX8_isRight_X8_nth rfl (by decide +kernel) rfl (by decide) rfl (Nat.le_of_ble_eq_true rfl) dX8_isRight_152 rfl (by omega) (by omega) (fun rv26 V27 hp28 => ?_)
                        obtain ⟨⟨y29, y29e, y290, y291, y292, y293⟩, y29v⟩ := hp28
                        rw [y29e, y29v]
                        show zG C V21 (12 - 2 * k.toNat - 1) (480 - 80 * k.toNat - 40) 155 [(1, .int (zI (iz19))), (5, .ref (md (70 + k.toNat))), (4, .int (zI (k))), (3, .int (zI ((6 : Nat)))), (2, .ref (c 62)), (0, .ref (c 60))] [.int (zI (y29)), .int (zI (iz19))]
                        have ez30 : zsz τ k = τ (4 * k.toNat + 1) - τ (4 * k.toNat + 2) := by
                          unfold zsz
                          rw [if_pos (by omega)]
                        have ez30p := zsP.any (zsP.row (τ := τ) (q := k) (q2 := 7) y293 (by rw [ez30]; omega) (by rw [zsz7]; omega) (fun j9 h9 => by rw [ez30] at h9; unfold zsg; rw [if_pos (by omega)]; exact hp22z j9 h9) (fun k9 h9 => by rw [zsz7] at h9; unfold zsg; rw [if_neg (by omega), if_neg (by omega)]; exact c825v k9 (by omega) (by omega)))
                        refine zr_if_ge X 162 158 dX8_isRight_155 rfl rfl (by omega) (fun bq31 => ?_) (fun bq31 => ?_)
                        · refine zr_iconst X 163 dX8_isRight_162 rfl ?_
                          refine zr_aload_n X 164 5 dX8_isRight_163 rfl rfl ?_
                          refine zr_aload X 166 1 dX8_isRight_164 rfl rfl ?_
                          have hw33 := hp22m.w (i := k.toNat) (by omega)
                          have hw33r := hw33.rg
                          have hw33d := hw33.mk
                          refine zr_callVe (kc' := ((12 - 2 * k.toNat - 1) - 1)) (ks' := ((480 - 80 * k.toNat - 40) - 40)) X 169 1 (m_X8_text l Γ (tg := 77) (i := k) hp22m (by omega)) gX8_isRight_X8_text rfl (by decide +kernel) rfl (by decide) ⟨_, _, hp22m.1⟩ rfl rfl (Nat.le_of_ble_eq_true rfl) dX8_isRight_166 rfl (by omega) (by omega) (fun rv34 V35 hp36 => ?_)
                          obtain ⟨hp36q, hp36f, hp36e, hp36h, hp36c, hp36g, hp36z⟩ := hp36
                          rw [hp36e]
                          have hp36m := hp22m.kept hp36g (fun _ _ _ => trivial)
                          have lc37 := hp36g _ _ _ hp22h trivial
                          have fx38 : zfm V V35 := zag.tr fx23 (hp36g.mono (fun _ _ => trivial))
                          show zG C V35 ((12 - 2 * k.toNat - 1) - 1) ((480 - 80 * k.toNat - 40) - 40) 169 [(1, .int (zI (iz19))), (5, .ref (md (70 + k.toNat))), (4, .int (zI (k))), (3, .int (zI ((6 : Nat)))), (2, .ref (c 62)), (0, .ref (c 60))] [.ref hp36q, .int (zI (0)), .int (zI (iz19))]
                          refine zr_aload_n X 170 5 dX8_isRight_169 rfl rfl ?_
                          have c839 : V35 (c 60) = some (60, .inr (9, [.ref (md 61), .int (zI (κ 0)), .ref (c 62), .ref (md 63), .ref (md 64), .ref (c 65), .int (zI (τ 26)), .int (zI (τ 28)), .int (zI (τ 29)), .ref (c 66), .int (zI (τ 36))])) := hp36m.1
                          refine zr_get X 173 9 4 c839 rfl iX8 (by decide) w7 rfl rfl dX8_isRight_170 rfl ?_
                          obtain ⟨c840f, c840, c840c, c840v⟩ := hp36m.ct.2.2.2.2
                          refine zr_callS (kc' := ((12 - 2 * k.toNat - 1) - 1)) (ks' := ((480 - 80 * k.toNat - 40) - 40)) X 176 2 (m_X8_lastOf l Γ hp36h hp36c (by omega) c840 c840c (by omega)) gX8_isRight_X8_lastOf rfl (by decide +kernel) rfl (by decide) rfl (Nat.le_of_ble_eq_true rfl) dX8_isRight_173 rfl (by omega) (by omega) (fun rv41 V42 hp43 => ?_)
                          obtain ⟨⟨y44, y44e, y440, y441, y442⟩, y44v⟩ := hp43
                          rw [y44e, y44v]
                          show zG C V35 ((12 - 2 * k.toNat - 1) - 1) ((480 - 80 * k.toNat - 40) - 40) 176 [(1, .int (zI (iz19))), (5, .ref (md (70 + k.toNat))), (4, .int (zI (k))), (3, .int (zI ((6 : Nat)))), (2, .ref (c 62)), (0, .ref (c 60))] [.int (zI (y44)), .int (zI (0)), .int (zI (iz19))]
                          have ez45 : zsz τ k = τ (4 * k.toNat + 1) - τ (4 * k.toNat + 2) := by
                            unfold zsz
                            rw [if_pos (by omega)]
                          have ez45p := zsP.lst (zsL.row (τ := τ) (q := k) (q2 := 7) y442 (by rw [ez45]; omega) (by rw [zsz7]; omega) (fun j9 h9 => by rw [ez45] at h9; unfold zsg; rw [if_pos (by omega)]; exact hp36z j9 h9) (fun k9 h9 => by rw [zsz7] at h9; unfold zsg; rw [if_neg (by omega), if_neg (by omega)]; exact c840v k9 (by omega) (by omega)))
                          refine zr_if_ge X 183 179 dX8_isRight_176 rfl rfl (by omega) (fun bq46 => ?_) (fun bq46 => ?_)
                          · refine zr_iconst X 184 dX8_isRight_183 rfl ?_
                            refine zr_icmp_ne X 191 187 dX8_isRight_184 rfl rfl (by omega) (by omega) (fun bq47 => absurd bq47 (by omega)) (fun bq47 => ?_)
                            refine zr_iconst X 188 dX8_isRight_187 rfl ?_
                            refine zr_goto X 192 dX8_isRight_188 rfl ?_
                            obtain ⟨iz48, iz48e, iz48a⟩ := ziand1 (x := iz19) (y := 1) (by omega) (by omega)
                            refine zr_iand X 193 dX8_isRight_192 rfl ?_
                            rw [iz48e]
                            show zG C V35 ((12 - 2 * k.toNat - 1) - 1) ((480 - 80 * k.toNat - 40) - 40) 193 [(1, .int (zI (iz19))), (5, .ref (md (70 + k.toNat))), (4, .int (zI (k))), (3, .int (zI ((6 : Nat)))), (2, .ref (c 62)), (0, .ref (c 60))] [.int (zI (iz48))]
                            refine zr_istore_n X 194 [(1, .int (zI (iz48))), (5, .ref (md (70 + k.toNat))), (4, .int (zI (k))), (3, .int (zI ((6 : Nat)))), (2, .ref (c 62)), (0, .ref (c 60))] dX8_isRight_193 rfl (by decide) rfl ?_
                            refine zr_iinc X 197 2 [(4, .int (zI (k + 1))), (1, .int (zI (iz48))), (5, .ref (md (70 + k.toNat))), (3, .int (zI ((6 : Nat)))), (2, .ref (c 62)), (0, .ref (c 60))] dX8_isRight_194 rfl rfl (by decide) rfl ?_
                            refine zr_goto X 64 dX8_isRight_197 rfl ?_
                            refine zr_sub [0, 3, 4, 1, 5] [(4, .int (zI (k + 1))), (3, .int (zI ((6 : Nat)))), (2, .ref (c 62)), (1, .int (zI (iz48))), (0, .ref (c 60))] rfl ?_
                            refine zr_room (12 - 2 * (k + 1).toNat) (480 - 80 * (k + 1).toNat) (by omega) (by omega) ?_
                            exact ih _ (by omega) V35 iz48 (k + 1) ⟨hp36m, fx38, by omega, by omega, by omega, (zag.tr (zag.tr hI6 hp22g) hp36g)⟩ rfl
                          · refine zr_iconst X 180 dX8_isRight_179 rfl ?_
                            refine zr_goto X 184 dX8_isRight_180 rfl ?_
                            refine zr_icmp_ne X 191 187 dX8_isRight_184 rfl rfl (by omega) (by omega) (fun bq49 => ?_) (fun bq49 => absurd bq49 (by omega))
                            refine zr_iconst X 192 dX8_isRight_191 rfl ?_
                            obtain ⟨iz50, iz50e, iz50a⟩ := ziand1 (x := iz19) (y := 0) (by omega) (by omega)
                            refine zr_iand X 193 dX8_isRight_192 rfl ?_
                            rw [iz50e]
                            show zG C V35 ((12 - 2 * k.toNat - 1) - 1) ((480 - 80 * k.toNat - 40) - 40) 193 [(1, .int (zI (iz19))), (5, .ref (md (70 + k.toNat))), (4, .int (zI (k))), (3, .int (zI ((6 : Nat)))), (2, .ref (c 62)), (0, .ref (c 60))] [.int (zI (iz50))]
                            refine zr_istore_n X 194 [(1, .int (zI (iz50))), (5, .ref (md (70 + k.toNat))), (4, .int (zI (k))), (3, .int (zI ((6 : Nat)))), (2, .ref (c 62)), (0, .ref (c 60))] dX8_isRight_193 rfl (by decide) rfl ?_
                            refine zr_iinc X 197 2 [(4, .int (zI (k + 1))), (1, .int (zI (iz50))), (5, .ref (md (70 + k.toNat))), (3, .int (zI ((6 : Nat)))), (2, .ref (c 62)), (0, .ref (c 60))] dX8_isRight_194 rfl rfl (by decide) rfl ?_
                            refine zr_goto X 64 dX8_isRight_197 rfl ?_
                            refine zr_sub [0, 3, 4, 1, 5] [(4, .int (zI (k + 1))), (3, .int (zI ((6 : Nat)))), (2, .ref (c 62)), (1, .int (zI (iz50))), (0, .ref (c 60))] rfl ?_
                            refine zr_room (12 - 2 * (k + 1).toNat) (480 - 80 * (k + 1).toNat) (by omega) (by omega) ?_
                            exact ih _ (by omega) V35 iz50 (k + 1) ⟨hp36m, fx38, by omega, by omega, by omega, (zag.tr (zag.tr hI6 hp22g) hp36g)⟩ rfl
                        · refine zr_iconst X 159 dX8_isRight_158 rfl ?_
                          refine zr_goto X 163 dX8_isRight_159 rfl ?_
                          refine zr_aload_n X 164 5 dX8_isRight_163 rfl rfl ?_
                          refine zr_aload X 166 1 dX8_isRight_164 rfl rfl ?_
                          have hw52 := hp22m.w (i := k.toNat) (by omega)
                          have hw52r := hw52.rg
                          have hw52d := hw52.mk
                          refine zr_callVe (kc' := ((12 - 2 * k.toNat - 1) - 1)) (ks' := ((480 - 80 * k.toNat - 40) - 40)) X 169 1 (m_X8_text l Γ (tg := 77) (i := k) hp22m (by omega)) gX8_isRight_X8_text rfl (by decide +kernel) rfl (by decide) ⟨_, _, hp22m.1⟩ rfl rfl (Nat.le_of_ble_eq_true rfl) dX8_isRight_166 rfl (by omega) (by omega) (fun rv53 V54 hp55 => ?_)
                          obtain ⟨hp55q, hp55f, hp55e, hp55h, hp55c, hp55g, hp55z⟩ := hp55
                          rw [hp55e]
                          have hp55m := hp22m.kept hp55g (fun _ _ _ => trivial)
                          have lc56 := hp55g _ _ _ hp22h trivial
                          have fx57 : zfm V V54 := zag.tr fx23 (hp55g.mono (fun _ _ => trivial))
                          show zG C V54 ((12 - 2 * k.toNat - 1) - 1) ((480 - 80 * k.toNat - 40) - 40) 169 [(1, .int (zI (iz19))), (5, .ref (md (70 + k.toNat))), (4, .int (zI (k))), (3, .int (zI ((6 : Nat)))), (2, .ref (c 62)), (0, .ref (c 60))] [.ref hp55q, .int (zI (1)), .int (zI (iz19))]
                          refine zr_aload_n X 170 5 dX8_isRight_169 rfl rfl ?_
                          have c858 : V54 (c 60) = some (60, .inr (9, [.ref (md 61), .int (zI (κ 0)), .ref (c 62), .ref (md 63), .ref (md 64), .ref (c 65), .int (zI (τ 26)), .int (zI (τ 28)), .int (zI (τ 29)), .ref (c 66), .int (zI (τ 36))])) := hp55m.1
                          refine zr_get X 173 9 4 c858 rfl iX8 (by decide) w7 rfl rfl dX8_isRight_170 rfl ?_
                          obtain ⟨c859f, c859, c859c, c859v⟩ := hp55m.ct.2.2.2.2
                          refine zr_callS (kc' := ((12 - 2 * k.toNat - 1) - 1)) (ks' := ((480 - 80 * k.toNat - 40) - 40)) X 176 2 (m_X8_lastOf l Γ hp55h hp55c (by omega) c859 c859c (by omega)) gX8_isRight_X8_lastOf rfl (by decide +kernel) rfl (by decide) rfl (Nat.le_of_ble_eq_true rfl) dX8_isRight_173 rfl (by omega) (by omega) (fun rv60 V61 hp62 => ?_)
                          obtain ⟨⟨y63, y63e, y630, y631, y632⟩, y63v⟩ := hp62
                          rw [y63e, y63v]
                          show zG C V54 ((12 - 2 * k.toNat - 1) - 1) ((480 - 80 * k.toNat - 40) - 40) 176 [(1, .int (zI (iz19))), (5, .ref (md (70 + k.toNat))), (4, .int (zI (k))), (3, .int (zI ((6 : Nat)))), (2, .ref (c 62)), (0, .ref (c 60))] [.int (zI (y63)), .int (zI (1)), .int (zI (iz19))]
                          have ez64 : zsz τ k = τ (4 * k.toNat + 1) - τ (4 * k.toNat + 2) := by
                            unfold zsz
                            rw [if_pos (by omega)]
                          have ez64p := zsP.lst (zsL.row (τ := τ) (q := k) (q2 := 7) y632 (by rw [ez64]; omega) (by rw [zsz7]; omega) (fun j9 h9 => by rw [ez64] at h9; unfold zsg; rw [if_pos (by omega)]; exact hp55z j9 h9) (fun k9 h9 => by rw [zsz7] at h9; unfold zsg; rw [if_neg (by omega), if_neg (by omega)]; exact c859v k9 (by omega) (by omega)))
                          refine zr_if_ge X 183 179 dX8_isRight_176 rfl rfl (by omega) (fun bq65 => ?_) (fun bq65 => ?_)
                          · refine zr_iconst X 184 dX8_isRight_183 rfl ?_
                            refine zr_icmp_ne X 191 187 dX8_isRight_184 rfl rfl (by omega) (by omega) (fun bq66 => ?_) (fun bq66 => absurd bq66 (by omega))
                            refine zr_iconst X 192 dX8_isRight_191 rfl ?_
                            obtain ⟨iz67, iz67e, iz67a⟩ := ziand1 (x := iz19) (y := 0) (by omega) (by omega)
                            refine zr_iand X 193 dX8_isRight_192 rfl ?_
                            rw [iz67e]
                            show zG C V54 ((12 - 2 * k.toNat - 1) - 1) ((480 - 80 * k.toNat - 40) - 40) 193 [(1, .int (zI (iz19))), (5, .ref (md (70 + k.toNat))), (4, .int (zI (k))), (3, .int (zI ((6 : Nat)))), (2, .ref (c 62)), (0, .ref (c 60))] [.int (zI (iz67))]
                            refine zr_istore_n X 194 [(1, .int (zI (iz67))), (5, .ref (md (70 + k.toNat))), (4, .int (zI (k))), (3, .int (zI ((6 : Nat)))), (2, .ref (c 62)), (0, .ref (c 60))] dX8_isRight_193 rfl (by decide) rfl ?_
                            refine zr_iinc X 197 2 [(4, .int (zI (k + 1))), (1, .int (zI (iz67))), (5, .ref (md (70 + k.toNat))), (3, .int (zI ((6 : Nat)))), (2, .ref (c 62)), (0, .ref (c 60))] dX8_isRight_194 rfl rfl (by decide) rfl ?_
                            refine zr_goto X 64 dX8_isRight_197 rfl ?_
                            refine zr_sub [0, 3, 4, 1, 5] [(4, .int (zI (k + 1))), (3, .int (zI ((6 : Nat)))), (2, .ref (c 62)), (1, .int (zI (iz67))), (0, .ref (c 60))] rfl ?_
                            refine zr_room (12 - 2 * (k + 1).toNat) (480 - 80 * (k + 1).toNat) (by omega) (by omega) ?_
                            exact ih _ (by omega) V54 iz67 (k + 1) ⟨hp55m, fx57, by omega, by omega, by omega, (zag.tr (zag.tr hI6 hp22g) hp55g)⟩ rfl
                          · refine zr_iconst X 180 dX8_isRight_179 rfl ?_
                            refine zr_goto X 184 dX8_isRight_180 rfl ?_
                            refine zr_icmp_ne X 191 187 dX8_isRight_184 rfl rfl (by omega) (by omega) (fun bq68 => absurd bq68 (by omega)) (fun bq68 => ?_)
                            refine zr_iconst X 188 dX8_isRight_187 rfl ?_
                            refine zr_goto X 192 dX8_isRight_188 rfl ?_
                            obtain ⟨iz69, iz69e, iz69a⟩ := ziand1 (x := iz19) (y := 1) (by omega) (by omega)
                            refine zr_iand X 193 dX8_isRight_192 rfl ?_
                            rw [iz69e]
                            show zG C V54 ((12 - 2 * k.toNat - 1) - 1) ((480 - 80 * k.toNat - 40) - 40) 193 [(1, .int (zI (iz19))), (5, .ref (md (70 + k.toNat))), (4, .int (zI (k))), (3, .int (zI ((6 : Nat)))), (2, .ref (c 62)), (0, .ref (c 60))] [.int (zI (iz69))]
                            refine zr_istore_n X 194 [(1, .int (zI (iz69))), (5, .ref (md (70 + k.toNat))), (4, .int (zI (k))), (3, .int (zI ((6 : Nat)))), (2, .ref (c 62)), (0, .ref (c 60))] dX8_isRight_193 rfl (by decide) rfl ?_
                            refine zr_iinc X 197 2 [(4, .int (zI (k + 1))), (1, .int (zI (iz69))), (5, .ref (md (70 + k.toNat))), (3, .int (zI ((6 : Nat)))), (2, .ref (c 62)), (0, .ref (c 60))] dX8_isRight_194 rfl rfl (by decide) rfl ?_
                            refine zr_goto X 64 dX8_isRight_197 rfl ?_
                            refine zr_sub [0, 3, 4, 1, 5] [(4, .int (zI (k + 1))), (3, .int (zI ((6 : Nat)))), (2, .ref (c 62)), (1, .int (zI (iz69))), (0, .ref (c 60))] rfl ?_
                            refine zr_room (12 - 2 * (k + 1).toNat) (480 - 80 * (k + 1).toNat) (by omega) (by omega) ?_
                            exact ih _ (by omega) V54 iz69 (k + 1) ⟨hp55m, fx57, by omega, by omega, by omega, (zag.tr (zag.tr hI6 hp22g) hp55g)⟩ rfl
          exact loop _ V 1 0 ⟨hM, zag.rf, by omega, by omega, by omega, zag.rf⟩ rfl
set_option maxRecDepth 100000 in
set_option maxHeartbeats 4000000 in
theorem m_X8_isSound (l : Launch) (Γ : zGam) {V : zV} {c md : Nat → Nat} {τ κ : Nat → Int} {E : Int} (hM : zMo Γ V c md τ κ E) : zM l Γ 8 yX8_isSound wsX8_isSound 12 480 V [.ref (c 60)] (fun rv V' => ∃ (y : Int) (md' : Nat → Nat) (τ' κ' : Nat → Int), rv = some (.int (zI y)) ∧ zMo Γ V' c md' τ' κ' (E + 40) ∧ zfm V V' ∧ (y = 1 ∧ τ' = (zf τ 36 0))) := by
  refine zM_of (cc := cX8_isSound) (nL := 1) (ret := (some .boolean)) (own := RX8) (by decide +kernel) rfl rfl (Nat.le_of_ble_eq_true rfl) (fun C X hi0 => ?_)
  have nn1 : 0 ≤ κ 0 ∧ κ 0 ≤ κ 1 ∧ κ 0 ≤ E ∧ κ 1 ≤ 7000 := hM.n.1
  show zG C V 12 480 0 [(0, .ref (c 60))] []
  refine zr_aload_n X 1 0 dX8_isSound_0 rfl rfl ?_
  refine zr_iconst X 2 dX8_isSound_1 rfl ?_
  refine zr_iconst X 3 dX8_isSound_2 rfl ?_
  refine zr_callVe (kc' := 12) (ks' := 480) X 6 2 (m_X8_isThrown l Γ hM (a := 0) (b := 0) (by omega) (by omega)) gX8_isSound_X8_isThrown rfl (by decide +kernel) rfl (by decide) ⟨_, _, hM.1⟩ rfl rfl (Nat.le_of_ble_eq_true rfl) dX8_isSound_3 rfl (by omega) (by omega) (fun rv2 V3 hp4 => ?_)
  obtain ⟨⟨hp4x, hp4k, hp4e, hp4c, hp4m⟩, hp4g⟩ := hp4
  rw [hp4e]
  rcases hp4c with ⟨tc5a, tc5k, tc5x⟩ | ⟨tc5a, tc5b, tc5k, tc5x⟩ | ⟨tc5a, tc5b, tc5k, tc5x⟩
  · exact absurd tc5a (by decide)
  · exact absurd tc5b (by decide)
  · skip
    subst tc5k tc5x
    have fx6 : zfm V V3 := (hp4g.mono (fun t ht => by omega))
    obtain ⟨τ7, τ7e⟩ : ∃ zz9 : Nat → Int, zz9 = zf τ 36 0 := ⟨_, rfl⟩
    rw [← τ7e] at hp4m
    show zG C V3 12 480 6 [(0, .ref (c 60))] [.int (zI (0))]
    refine zr_pop X 7 dX8_isSound_6 rfl rfl ?_
    refine zr_aload_n X 8 0 dX8_isSound_7 rfl rfl ?_
    refine zr_callVe (kc' := (12 - 12)) (ks' := (480 - 480)) X 11 0 (m_X8_isRight l Γ hp4m) gX8_isSound_X8_isRight rfl (by decide +kernel) rfl (by decide) ⟨_, _, hp4m.1⟩ rfl rfl (Nat.le_of_ble_eq_true rfl) dX8_isSound_8 rfl (by omega) (by omega) (fun rv8 V9 hp10 => ?_)
    obtain ⟨hp10e, hp10m, hp10g⟩ := hp10
    rw [hp10e]
    have fx11 : zfm V V9 := zag.tr fx6 (hp10g.mono (fun _ _ => trivial))
    show zG C V9 (12 - 12) (480 - 480) 11 [(0, .ref (c 60))] [.int (zI (1))]
    exact zr_zret X rfl rfl ⟨1, md, τ7, κ, rfl, hp10m.le (by omega), fx11, ⟨rfl, by rw [τ7e]⟩⟩ dX8_isSound_11
set_option maxRecDepth 100000 in
set_option maxHeartbeats 4000000 in
theorem m_X8_mixed (l : Launch) (Γ : zGam) {V : zV} {x : Int64} {a ta n : Nat} {f : Nat → Int} (ha : V a = some (ta, za Γ.2.1 0 n f)) (hn : n ≤ 200) : zM l Γ 0 yX8_mixed wsX8_mixed 0 0 V [.long (x), .ref a] (fun rv V' => rv = some (.long (zmr x f n)) ∧ V' = V) := by
  have w0 : Cond.constantLong RX8 171 (31) ∈ wsX8_mixed := by decide +kernel
  refine zM_of (cc := cX8_mixed) (nL := 9) (ret := (some .long)) (own := RX8) (by decide +kernel) rfl rfl (Nat.le_of_ble_eq_true rfl) (fun C X hi0 => ?_)
  show zG C V 0 0 0 [(0, .long (x)), (2, .ref a)] []
  refine zr_lload_n X 1 0 dX8_mixed_0 rfl rfl ?_
  refine zr_lstore_n X 2 [(3, .long (x)), (0, .long (x)), (2, .ref a)] dX8_mixed_1 rfl (by decide) rfl ?_
  refine zr_aload_n X 3 2 dX8_mixed_2 rfl rfl ?_
  refine zr_astore X 5 [(5, .ref a), (3, .long (x)), (0, .long (x)), (2, .ref a)] dX8_mixed_3 rfl (by decide) rfl ?_
  refine zr_aload X 7 0 dX8_mixed_5 rfl rfl ?_
  refine zr_alen X 8 0 ha (by decide) dX8_mixed_7 rfl ?_
  refine zr_istore X 10 [(6, .int (zI ((n : Nat)))), (5, .ref a), (3, .long (x)), (0, .long (x)), (2, .ref a)] dX8_mixed_8 rfl (by decide) rfl ?_
  refine zr_iconst X 11 dX8_mixed_10 rfl ?_
  refine zr_istore X 13 [(7, .int (zI (0))), (6, .int (zI ((n : Nat)))), (5, .ref a), (3, .long (x)), (0, .long (x)), (2, .ref a)] dX8_mixed_11 rfl (by decide) rfl ?_
  refine zr_sub [0, 1, 2, 3, 5, 4] [(7, .int (zI (0))), (6, .int (zI ((n : Nat)))), (5, .ref a), (3, .long (x)), (2, .ref a), (0, .long (x))] rfl ?_
  have loop : ∀ (N : Nat) (y : Int64) (k : Int), 0 ≤ k ∧ k ≤ (n : Int) ∧ y = zmr x f k.toNat → ((n : Int) - k).toNat = N → zG C V 0 0 13 [(7, .int (zI (k))), (6, .int (zI ((n : Nat)))), (5, .ref a), (3, .long (y)), (2, .ref a), (0, .long (x))] [] := by
    intro N
    induction N using Nat.strongRecOn with
    | _ N ih =>
    intro y k hI hN
    obtain ⟨hI1, hI2, hI3⟩ := id hI
    refine zr_iload X 15 0 dX8_mixed_13 rfl rfl ?_
    refine zr_iload X 17 1 dX8_mixed_15 rfl rfl ?_
    refine zr_icmp_ge X 43 20 dX8_mixed_17 rfl rfl (by omega) (by omega) (fun bq1 => ?_) (fun bq1 => ?_)
    · refine zr_lload_n X 44 3 dX8_mixed_43 rfl rfl ?_
      exact zr_lret X rfl ⟨by rw [hI3, show k.toNat = n by omega], rfl⟩ dX8_mixed_44
    · refine zr_aload X 22 2 dX8_mixed_20 rfl rfl ?_
      refine zr_iload X 24 0 dX8_mixed_22 rfl rfl ?_
      refine zr_iald X 25 ha (by omega) dX8_mixed_24 rfl ?_
      refine zr_istore X 27 [(8, .int (zI (f (k).toNat))), (7, .int (zI (k))), (6, .int (zI ((n : Nat)))), (5, .ref a), (3, .long (y)), (2, .ref a), (0, .long (x))] dX8_mixed_25 rfl (by decide) rfl ?_
      refine zr_lload_n X 28 4 dX8_mixed_27 rfl rfl ?_
      refine zr_ldc2 X 31 (v := 31) dX8_mixed_28 rfl w0 ?_
      refine zr_lmul X 32 dX8_mixed_31 rfl ?_
      refine zr_iload X 34 0 dX8_mixed_32 rfl rfl ?_
      refine zr_i2l X 35 dX8_mixed_34 rfl ?_
      obtain ⟨y2, y2e⟩ : ∃ zz9 : Int64, zz9 = (zI (f (k).toNat)).toInt64 := ⟨_, rfl⟩
      rw [← y2e]
      refine zr_ladd X 36 dX8_mixed_35 rfl ?_
      refine zr_lstore_n X 37 [(3, .long ((y * 31) + y2)), (8, .int (zI (f (k).toNat))), (7, .int (zI (k))), (6, .int (zI ((n : Nat)))), (5, .ref a), (2, .ref a), (0, .long (x))] dX8_mixed_36 rfl (by decide) rfl ?_
      refine zr_iinc X 40 2 [(7, .int (zI (k + 1))), (3, .long ((y * 31) + y2)), (8, .int (zI (f (k).toNat))), (6, .int (zI ((n : Nat)))), (5, .ref a), (2, .ref a), (0, .long (x))] dX8_mixed_37 rfl rfl (by decide) rfl ?_
      refine zr_goto X 13 dX8_mixed_40 rfl ?_
      refine zr_sub [0, 3, 4, 1, 5, 6] [(7, .int (zI (k + 1))), (6, .int (zI ((n : Nat)))), (5, .ref a), (3, .long ((y * 31) + y2)), (2, .ref a), (0, .long (x))] rfl ?_
      exact ih _ (by omega) ((y * 31) + y2) (k + 1) ⟨by omega, by omega, zmr_up hI3 (by omega) y2e rfl⟩ rfl
  exact loop _ x 0 ⟨by omega, by omega, rfl⟩ rfl
set_option maxRecDepth 100000 in
set_option maxHeartbeats 4000000 in
theorem m_X8_digest (l : Launch) (Γ : zGam) {V : zV} {c md : Nat → Nat} {τ κ : Nat → Int} {E : Int} (hM : zMo Γ V c md τ κ E) : zM l Γ 8 yX8_digest wsX8_digest 40 1200 V [.ref (c 60)] (fun rv V' => (∃ z : Int64, rv = some (.long z) ∧ zdG (zf τ 36 0) z) ∧ zMo Γ V' c md (zf τ 36 0) κ E ∧ zfm V V') := by
  have w0 : Cond.constantLong RX8 173 (7702) ∈ wsX8_digest := by decide +kernel
  have w1 : Cond.fieldLink RX8 14 "SashwordsModel" "windows" "[[I" ∈ wsX8_digest := by decide +kernel
  have iX8 : ∀ w ∈ u_ws RX8 TX8 11, w ∈ wsX8_digest := by decide +kernel
  have w3 : Cond.constantLong RX8 171 (31) ∈ wsX8_digest := by decide +kernel
  have w4 : Cond.fieldLink RX8 18 "SashwordsModel" "built" "[I" ∈ wsX8_digest := by decide +kernel
  have w5 : Cond.fieldLink RX8 21 "SashwordsModel" "kept" "[I" ∈ wsX8_digest := by decide +kernel
  have w6 : Cond.arrayClass .int ∈ wsX8_digest := by decide +kernel
  have w7 : Cond.fieldLink RX8 129 "SashwordsModel" "in" "I" ∈ wsX8_digest := by decide +kernel
  have w8 : Cond.fieldLink RX8 132 "SashwordsModel" "out" "I" ∈ wsX8_digest := by decide +kernel
  have w9 : Cond.fieldLink RX8 31 "SashwordsModel" "tallies" "[I" ∈ wsX8_digest := by decide +kernel
  have w10 : Cond.fieldLink RX8 24 "SashwordsModel" "sent" "[I" ∈ wsX8_digest := by decide +kernel
  refine zM_of (cc := cX8_digest) (nL := 8) (ret := (some .long)) (own := RX8) (by decide +kernel) rfl rfl (Nat.le_of_ble_eq_true rfl) (fun C X hi0 => ?_)
  have nn1 : (0 ≤ κ 0 ∧ κ 0 ≤ κ 1 ∧ κ 0 ≤ E ∧ κ 1 ≤ 7000) ∧ (0 ≤ τ 24 ∧ τ 24 ≤ 80 ∧ 0 ≤ τ 25 ∧ τ 25 ≤ 80) ∧ 1 ≤ τ 26 ∧ τ 26 ≤ 8 ∧ 0 ≤ τ 29 ∧ τ 29 ≤ τ 28 ∧ τ 28 ≤ 160 ∧ τ 27 ≤ τ 26 ∧ τ 27 = τ 28 - τ 29 := hM.n
  show zG C V 40 1200 0 [(0, .ref (c 60))] []
  refine zr_aload_n X 1 0 dX8_digest_0 rfl rfl ?_
  refine zr_iconst X 2 dX8_digest_1 rfl ?_
  refine zr_iconst X 3 dX8_digest_2 rfl ?_
  refine zr_callVe (kc' := 40) (ks' := 1200) X 6 2 (m_X8_isThrown l Γ hM (a := 0) (b := 0) (by omega) (by omega)) gX8_digest_X8_isThrown rfl (by decide +kernel) rfl (by decide) ⟨_, _, hM.1⟩ rfl rfl (Nat.le_of_ble_eq_true rfl) dX8_digest_3 rfl (by omega) (by omega) (fun rv2 V3 hp4 => ?_)
  obtain ⟨⟨hp4x, hp4k, hp4e, hp4c, hp4m⟩, hp4g⟩ := hp4
  rw [hp4e]
  rcases hp4c with ⟨tc5a, tc5k, tc5x⟩ | ⟨tc5a, tc5b, tc5k, tc5x⟩ | ⟨tc5a, tc5b, tc5k, tc5x⟩
  · exact absurd tc5a (by decide)
  · exact absurd tc5b (by decide)
  · skip
    subst tc5k tc5x
    have fx6 : zfm V V3 := (hp4g.mono (fun t ht => by omega))
    obtain ⟨τ7, τ7e⟩ : ∃ zz9 : Nat → Int, zz9 = zf τ 36 0 := ⟨_, rfl⟩
    rw [← τ7e] at hp4m
    have τ7_24 : τ7 24 = τ 24 := by rw [τ7e]; exact rfl
    have τ7_25 : τ7 25 = τ 25 := by rw [τ7e]; exact rfl
    have τ7_26 : τ7 26 = τ 26 := by rw [τ7e]; exact rfl
    have τ7_27 : τ7 27 = τ 27 := by rw [τ7e]; exact rfl
    have τ7_28 : τ7 28 = τ 28 := by rw [τ7e]; exact rfl
    have τ7_29 : τ7 29 = τ 29 := by rw [τ7e]; exact rfl
    have τ7_30 : τ7 30 = τ 30 := by rw [τ7e]; exact rfl
    have τ7_31 : τ7 31 = τ 31 := by rw [τ7e]; exact rfl
    have τ7_32 : τ7 32 = τ 32 := by rw [τ7e]; exact rfl
    have τ7_33 : τ7 33 = τ 33 := by rw [τ7e]; exact rfl
    have τ7_36 : τ7 36 = 0 := by rw [τ7e]; exact rfl
    show zG C V3 40 1200 6 [(0, .ref (c 60))] [.int (zI (0))]
    refine zr_pop X 7 dX8_digest_6 rfl rfl ?_
    refine zr_ldc2 X 10 (v := 7702) dX8_digest_7 rfl w0 ?_
    refine zr_lstore_n X 11 [(1, .long (7702)), (0, .ref (c 60))] dX8_digest_10 rfl (by decide) rfl ?_
    refine zr_aload_n X 12 1 dX8_digest_11 rfl rfl ?_
    have c88 : V3 (c 60) = some (60, .inr (9, [.ref (md 61), .int (zI (κ 0)), .ref (c 62), .ref (md 63), .ref (md 64), .ref (c 65), .int (zI (τ7 26)), .int (zI (τ7 28)), .int (zI (τ7 29)), .ref (c 66), .int (zI (τ7 36))])) := hp4m.1
    refine zr_get X 15 9 2 c88 rfl iX8 (by decide) w1 rfl rfl dX8_digest_12 rfl ?_
    refine zr_astore_n X 16 [(3, .ref (c 62)), (1, .long (7702)), (0, .ref (c 60))] dX8_digest_15 rfl (by decide) rfl ?_
    refine zr_aload_n X 17 0 dX8_digest_16 rfl rfl ?_
    have c89 : V3 (c 62) = some (62, zq Γ.2.1 4 6 (fun i => some (md (70 + i)))) := hp4m.2.2.1
    refine zr_alenq X 18 4 c89 (by decide) dX8_digest_17 rfl ?_
    refine zr_istore X 20 [(4, .int (zI ((6 : Nat)))), (3, .ref (c 62)), (1, .long (7702)), (0, .ref (c 60))] dX8_digest_18 rfl (by decide) rfl ?_
    refine zr_iconst X 21 dX8_digest_20 rfl ?_
    refine zr_istore X 23 [(5, .int (zI (0))), (4, .int (zI ((6 : Nat)))), (3, .ref (c 62)), (1, .long (7702)), (0, .ref (c 60))] dX8_digest_21 rfl (by decide) rfl ?_
    refine zr_room (40 - 3 * (0 : Int).toNat) (1200 - 50 * (0 : Int).toNat) (by omega) (by omega) ?_
    have loop : ∀ (N : Nat) (V1 : zV) (x1 : Int64) (k : Int), zMo Γ V1 c md τ7 κ E ∧ zfm V V1 ∧ 0 ≤ k ∧ k ≤ 6 ∧ zdW τ7 k.toNat x1 → (6 - k).toNat = N → zG C V1 (40 - 3 * k.toNat) (1200 - 50 * k.toNat) 23 [(5, .int (zI (k))), (4, .int (zI ((6 : Nat)))), (3, .ref (c 62)), (1, .long (x1)), (0, .ref (c 60))] [] := by
      intro N
      induction N using Nat.strongRecOn with
      | _ N ih =>
      intro V1 x1 k hI hN
      obtain ⟨hI1, hI2, hI3, hI4, hI5⟩ := id hI
      have nn10 : (0 ≤ κ 0 ∧ κ 0 ≤ κ 1 ∧ κ 0 ≤ E ∧ κ 1 ≤ 7000) ∧ (0 ≤ τ7 24 ∧ τ7 24 ≤ 80 ∧ 0 ≤ τ7 25 ∧ τ7 25 ≤ 80) ∧ 1 ≤ τ7 26 ∧ τ7 26 ≤ 8 ∧ 0 ≤ τ7 29 ∧ τ7 29 ≤ τ7 28 ∧ τ7 28 ≤ 160 ∧ τ7 27 ≤ τ7 26 ∧ τ7 27 = τ7 28 - τ7 29 := hI1.n
      refine zr_iload X 25 0 dX8_digest_23 rfl rfl ?_
      refine zr_iload X 27 1 dX8_digest_25 rfl rfl ?_
      refine zr_icmp_ge X 124 30 dX8_digest_27 rfl rfl (by omega) (by omega) (fun bq11 => ?_) (fun bq11 => ?_)
      · refine zr_lload_n X 125 3 dX8_digest_124 rfl rfl ?_
        refine zr_ldc2 X 128 (v := 31) dX8_digest_125 rfl w3 ?_
        refine zr_lmul X 129 dX8_digest_128 rfl ?_
        refine zr_aload_n X 130 4 dX8_digest_129 rfl rfl ?_
        have c812 : V1 (c 60) = some (60, .inr (9, [.ref (md 61), .int (zI (κ 0)), .ref (c 62), .ref (md 63), .ref (md 64), .ref (c 65), .int (zI (τ7 26)), .int (zI (τ7 28)), .int (zI (τ7 29)), .ref (c 66), .int (zI (τ7 36))])) := hI1.1
        refine zr_get X 133 9 3 c812 rfl iX8 (by decide) w4 rfl rfl dX8_digest_130 rfl ?_
        obtain ⟨c813f, c813, c813c, c813v⟩ := hI1.ct.2.2.2.1
        refine zr_alen X 134 0 c813 (by decide) dX8_digest_133 rfl ?_
        refine zr_i2l X 135 dX8_digest_134 rfl ?_
        obtain ⟨y14, y14e⟩ : ∃ zz9 : Int64, zz9 = (zI (((τ7 24).toNat : Nat))).toInt64 := ⟨_, rfl⟩
        rw [← y14e]
        refine zr_ladd X 136 dX8_digest_135 rfl ?_
        refine zr_aload_n X 137 4 dX8_digest_136 rfl rfl ?_
        refine zr_get X 140 9 3 c812 rfl iX8 (by decide) w4 rfl rfl dX8_digest_137 rfl ?_
        refine zr_callS (kc' := 40 - 3 * k.toNat) (ks' := 1200 - 50 * k.toNat) X 143 2 (m_X8_mixed l Γ (V := V1) (x := (x1 * 31) + y14) c813 (by omega)) gX8_digest_X8_mixed rfl (by decide +kernel) rfl (by decide) rfl (Nat.le_of_ble_eq_true rfl) dX8_digest_140 rfl (by omega) (by omega) (fun rv15 V16 hp17 => ?_)
        obtain ⟨hp17e, hp17v⟩ := hp17
        obtain ⟨hp17z, hp17q⟩ : ∃ zz9 : Int64, zz9 = zmr ((x1 * 31) + y14) (c813f) ((τ7 24).toNat) := ⟨_, rfl⟩
        rw [hp17e, hp17v, ← hp17q]
        have xe18 : (x1 * 31) + y14 = zmi x1 (τ7 24) := (zmi_of y14e).trans (congrArg (zmi x1) (show (((τ7 24).toNat : Nat) : Int) = τ7 24 by omega))
        have hp17k : hp17z = zmr (zmi x1 (τ7 24)) (zsg τ7 6) (τ7 24).toNat := by
          rw [hp17q, xe18]
          exact zmr_eq rfl (fun k9 h9 => by unfold zsg; rw [if_neg (by omega), if_pos (by omega)]; exact c813v k9 (by omega) h9)
        show zG C V1 (40 - 3 * k.toNat) (1200 - 50 * k.toNat) 143 [(5, .int (zI (k))), (4, .int (zI ((6 : Nat)))), (3, .ref (c 62)), (1, .long (x1)), (0, .ref (c 60))] [.long (hp17z)]
        refine zr_ldc2 X 146 (v := 31) dX8_digest_143 rfl w3 ?_
        refine zr_lmul X 147 dX8_digest_146 rfl ?_
        refine zr_aload_n X 148 4 dX8_digest_147 rfl rfl ?_
        refine zr_get X 151 9 4 c812 rfl iX8 (by decide) w5 rfl rfl dX8_digest_148 rfl ?_
        obtain ⟨c819f, c819, c819c, c819v⟩ := hI1.ct.2.2.2.2
        refine zr_alen X 152 0 c819 (by decide) dX8_digest_151 rfl ?_
        refine zr_i2l X 153 dX8_digest_152 rfl ?_
        obtain ⟨y20, y20e⟩ : ∃ zz9 : Int64, zz9 = (zI (((τ7 25).toNat : Nat))).toInt64 := ⟨_, rfl⟩
        rw [← y20e]
        refine zr_ladd X 154 dX8_digest_153 rfl ?_
        refine zr_aload_n X 155 4 dX8_digest_154 rfl rfl ?_
        refine zr_get X 158 9 4 c812 rfl iX8 (by decide) w5 rfl rfl dX8_digest_155 rfl ?_
        refine zr_callS (kc' := 40 - 3 * k.toNat) (ks' := 1200 - 50 * k.toNat) X 161 2 (m_X8_mixed l Γ (V := V1) (x := (hp17z * 31) + y20) c819 (by omega)) gX8_digest_X8_mixed rfl (by decide +kernel) rfl (by decide) rfl (Nat.le_of_ble_eq_true rfl) dX8_digest_158 rfl (by omega) (by omega) (fun rv21 V22 hp23 => ?_)
        obtain ⟨hp23e, hp23v⟩ := hp23
        obtain ⟨hp23z, hp23q⟩ : ∃ zz9 : Int64, zz9 = zmr ((hp17z * 31) + y20) (c819f) ((τ7 25).toNat) := ⟨_, rfl⟩
        rw [hp23e, hp23v, ← hp23q]
        have xe24 : (hp17z * 31) + y20 = zmi hp17z (τ7 25) := (zmi_of y20e).trans (congrArg (zmi hp17z) (show (((τ7 25).toNat : Nat) : Int) = τ7 25 by omega))
        have hp23k : hp23z = zmr (zmi hp17z (τ7 25)) (zsg τ7 7) (τ7 25).toNat := by
          rw [hp23q, xe24]
          exact zmr_eq rfl (fun k9 h9 => by unfold zsg; rw [if_neg (by omega), if_neg (by omega)]; exact c819v k9 (by omega) h9)
        show zG C V1 (40 - 3 * k.toNat) (1200 - 50 * k.toNat) 161 [(5, .int (zI (k))), (4, .int (zI ((6 : Nat)))), (3, .ref (c 62)), (1, .long (x1)), (0, .ref (c 60))] [.long (hp23z)]
        refine zr_lstore_n X 162 [(1, .long (hp23z)), (5, .int (zI (k))), (4, .int (zI ((6 : Nat)))), (3, .ref (c 62)), (0, .ref (c 60))] dX8_digest_161 rfl (by decide) rfl ?_
        refine zr_lload_n X 163 0 dX8_digest_162 rfl rfl ?_
        refine zr_iconst X 164 dX8_digest_163 rfl ?_
        refine zr_newai (kc' := (40 - 3 * k.toNat - 1)) (ks' := (1200 - 50 * k.toNat - (5 : Int).toNat)) X 166 92 w6 (by omega) dX8_digest_164 rfl (by omega) (by omega) (fun q25 hq26 => ?_)
        have nz27 := zag.rf.new (P := zal) (t := 92) (e := za Γ.2.1 0 ((5 : Int).toNat) (fun _ => 0)) hq26
        obtain ⟨cm28h, cm28f⟩ := (⟨hI1.kept nz27 (fun _ _ _ => trivial), nz27⟩ : _ ∧ _)
        obtain ⟨cm28V, cm28e⟩ : ∃ zz9 : zV, zz9 = (zu V1 q25 92 (za Γ.2.1 0 ((5 : Int).toNat) (fun _ => 0))) := ⟨_, rfl⟩
        have cm28m : zMo Γ cm28V c md (τ7) κ E := by
          rw [cm28e]
          exact cm28h
        have cm28g : zag zal V1 cm28V := by
          rw [cm28e]
          exact cm28f
        have cm28s : cm28V q25 = some (92, za Γ.2.1 0 ((5 : Int).toNat) (fun _ => 0)) := by
          rw [cm28e]
          exact zu_eq _ _ _ _
        refine zr_view (cm28e).symm ?_
        have fx29 : zfm V cm28V := zag.tr hI2 (cm28g.mono (fun _ _ => trivial))
        show zG C cm28V (40 - 3 * k.toNat - 1) (1200 - 50 * k.toNat - (5 : Int).toNat) 166 [(1, .long (hp23z)), (5, .int (zI (k))), (4, .int (zI ((6 : Nat)))), (3, .ref (c 62)), (0, .ref (c 60))] [.ref q25, .long (hp23z)]
        refine zr_dup X 167 dX8_digest_166 rfl rfl ?_
        refine zr_iconst X 168 dX8_digest_167 rfl ?_
        refine zr_aload_n X 169 4 dX8_digest_168 rfl rfl ?_
        have c830 : cm28V (c 60) = some (60, .inr (9, [.ref (md 61), .int (zI (κ 0)), .ref (c 62), .ref (md 63), .ref (md 64), .ref (c 65), .int (zI (τ7 26)), .int (zI (τ7 28)), .int (zI (τ7 29)), .ref (c 66), .int (zI (τ7 36))])) := cm28m.1
        refine zr_get X 172 9 3 c830 rfl iX8 (by decide) w4 rfl rfl dX8_digest_169 rfl ?_
        refine zr_aload_n X 173 4 dX8_digest_172 rfl rfl ?_
        refine zr_get X 176 9 3 c830 rfl iX8 (by decide) w4 rfl rfl dX8_digest_173 rfl ?_
        obtain ⟨c831f, c831, c831c, c831v⟩ := cm28m.ct.2.2.2.1
        refine zr_alen X 177 0 c831 (by decide) dX8_digest_176 rfl ?_
        refine zr_callS (kc' := (40 - 3 * k.toNat - 1)) (ks' := (1200 - 50 * k.toNat - (5 : Int).toNat)) X 180 2 (m_X8_greatest l Γ (mn := ((τ7 24).toNat : Nat)) c831 c831c (by omega) (by omega)) gX8_digest_X8_greatest rfl (by decide +kernel) rfl (by decide) rfl (Nat.le_of_ble_eq_true rfl) dX8_digest_177 rfl (by omega) (by omega) (fun rv32 V33 hp34 => ?_)
        obtain ⟨⟨y35, y35e, y350, y351, y352⟩, y35v⟩ := hp34
        rw [y35e, y35v]
        show zG C cm28V (40 - 3 * k.toNat - 1) (1200 - 50 * k.toNat - (5 : Int).toNat) 180 [(1, .long (hp23z)), (5, .int (zI (k))), (4, .int (zI ((6 : Nat)))), (3, .ref (c 62)), (0, .ref (c 60))] [.int (zI (y35)), .int (zI (0)), .ref q25, .ref q25, .long (hp23z)]
        have y35B : zsB τ7 6 y35 := zsB.row y352 (by omega) (by rw [zsz6]; omega) (by rw [zsz6]; omega) (fun k9 h9 => by rw [zsz6] at h9; unfold zsg; rw [if_neg (by omega), if_pos (by omega)]; exact c831v k9 (by omega) (by omega))
        refine zr_iast X 181 cm28s (by omega) dX8_digest_180 rfl ?_
        have cm28sz := zag.one (e' := za Γ.2.1 0 ((5 : Int).toNat) (zf (fun _ => 0) (0 : Int).toNat y35)) cm28s
        obtain ⟨cm36h, cm36f⟩ := (⟨cm28m.kept cm28sz (fun t h1 h2 => by omega), cm28sz⟩ : _ ∧ _)
        obtain ⟨cm36V, cm36e⟩ : ∃ zz9 : zV, zz9 = (zu cm28V q25 92 (za Γ.2.1 0 ((5 : Int).toNat) (zf (fun _ => 0) (0 : Int).toNat y35))) := ⟨_, rfl⟩
        have cm36m : zMo Γ cm36V c md (τ7) κ E := by
          rw [cm36e]
          exact cm36h
        have cm36g : zag (fun x => x ≠ 92) cm28V cm36V := by
          rw [cm36e]
          exact cm36f
        have cm36s : cm36V q25 = some (92, za Γ.2.1 0 ((5 : Int).toNat) (zf (fun _ => 0) (0 : Int).toNat y35)) := by
          rw [cm36e]
          exact zu_eq _ _ _ _
        refine zr_view (cm36e).symm ?_
        have fx37 : zfm V cm36V := zag.tr fx29 (cm36g.mono (fun t ht => by omega))
        show zG C cm36V (40 - 3 * k.toNat - 1) (1200 - 50 * k.toNat - (5 : Int).toNat) 181 [(1, .long (hp23z)), (5, .int (zI (k))), (4, .int (zI ((6 : Nat)))), (3, .ref (c 62)), (0, .ref (c 60))] [.ref q25, .long (hp23z)]
        refine zr_dup X 182 dX8_digest_181 rfl rfl ?_
        refine zr_iconst X 183 dX8_digest_182 rfl ?_
        refine zr_aload_n X 184 4 dX8_digest_183 rfl rfl ?_
        have c838 : cm36V (c 60) = some (60, .inr (9, [.ref (md 61), .int (zI (κ 0)), .ref (c 62), .ref (md 63), .ref (md 64), .ref (c 65), .int (zI (τ7 26)), .int (zI (τ7 28)), .int (zI (τ7 29)), .ref (c 66), .int (zI (τ7 36))])) := cm36m.1
        refine zr_get X 187 9 4 c838 rfl iX8 (by decide) w5 rfl rfl dX8_digest_184 rfl ?_
        refine zr_aload_n X 188 4 dX8_digest_187 rfl rfl ?_
        refine zr_get X 191 9 4 c838 rfl iX8 (by decide) w5 rfl rfl dX8_digest_188 rfl ?_
        obtain ⟨c839f, c839, c839c, c839v⟩ := cm36m.ct.2.2.2.2
        refine zr_alen X 192 0 c839 (by decide) dX8_digest_191 rfl ?_
        refine zr_callS (kc' := (40 - 3 * k.toNat - 1)) (ks' := (1200 - 50 * k.toNat - (5 : Int).toNat)) X 195 2 (m_X8_greatest l Γ (mn := ((τ7 25).toNat : Nat)) c839 c839c (by omega) (by omega)) gX8_digest_X8_greatest rfl (by decide +kernel) rfl (by decide) rfl (Nat.le_of_ble_eq_true rfl) dX8_digest_192 rfl (by omega) (by omega) (fun rv40 V41 hp42 => ?_)
        obtain ⟨⟨y43, y43e, y430, y431, y432⟩, y43v⟩ := hp42
        rw [y43e, y43v]
        show zG C cm36V (40 - 3 * k.toNat - 1) (1200 - 50 * k.toNat - (5 : Int).toNat) 195 [(1, .long (hp23z)), (5, .int (zI (k))), (4, .int (zI ((6 : Nat)))), (3, .ref (c 62)), (0, .ref (c 60))] [.int (zI (y43)), .int (zI (1)), .ref q25, .ref q25, .long (hp23z)]
        have y43B : zsB τ7 7 y43 := zsB.row y432 (by omega) (by rw [zsz7]; omega) (by rw [zsz7]; omega) (fun k9 h9 => by rw [zsz7] at h9; unfold zsg; rw [if_neg (by omega), if_neg (by omega)]; exact c839v k9 (by omega) (by omega))
        refine zr_iast X 196 cm36s (by omega) dX8_digest_195 rfl ?_
        have cm36sz := zag.one (e' := za Γ.2.1 0 ((5 : Int).toNat) (zf (zf (fun _ => 0) (0 : Int).toNat y35) (1 : Int).toNat y43)) cm36s
        obtain ⟨cm44h, cm44f⟩ := (⟨cm36m.kept cm36sz (fun t h1 h2 => by omega), cm36sz⟩ : _ ∧ _)
        obtain ⟨cm44V, cm44e⟩ : ∃ zz9 : zV, zz9 = (zu cm36V q25 92 (za Γ.2.1 0 ((5 : Int).toNat) (zf (zf (fun _ => 0) (0 : Int).toNat y35) (1 : Int).toNat y43))) := ⟨_, rfl⟩
        have cm44m : zMo Γ cm44V c md (τ7) κ E := by
          rw [cm44e]
          exact cm44h
        have cm44g : zag (fun x => x ≠ 92) cm36V cm44V := by
          rw [cm44e]
          exact cm44f
        have cm44s : cm44V q25 = some (92, za Γ.2.1 0 ((5 : Int).toNat) (zf (zf (fun _ => 0) (0 : Int).toNat y35) (1 : Int).toNat y43)) := by
          rw [cm44e]
          exact zu_eq _ _ _ _
        refine zr_view (cm44e).symm ?_
        have fx45 : zfm V cm44V := zag.tr fx37 (cm44g.mono (fun t ht => by omega))
        show zG C cm44V (40 - 3 * k.toNat - 1) (1200 - 50 * k.toNat - (5 : Int).toNat) 196 [(1, .long (hp23z)), (5, .int (zI (k))), (4, .int (zI ((6 : Nat)))), (3, .ref (c 62)), (0, .ref (c 60))] [.ref q25, .long (hp23z)]
        refine zr_dup X 197 dX8_digest_196 rfl rfl ?_
        refine zr_iconst X 198 dX8_digest_197 rfl ?_
        refine zr_aload_n X 199 4 dX8_digest_198 rfl rfl ?_
        have c846 : cm44V (c 60) = some (60, .inr (9, [.ref (md 61), .int (zI (κ 0)), .ref (c 62), .ref (md 63), .ref (md 64), .ref (c 65), .int (zI (τ7 26)), .int (zI (τ7 28)), .int (zI (τ7 29)), .ref (c 66), .int (zI (τ7 36))])) := cm44m.1
        refine zr_get X 202 9 3 c846 rfl iX8 (by decide) w4 rfl rfl dX8_digest_199 rfl ?_
        refine zr_aload_n X 203 4 dX8_digest_202 rfl rfl ?_
        refine zr_get X 206 9 4 c846 rfl iX8 (by decide) w5 rfl rfl dX8_digest_203 rfl ?_
        obtain ⟨c847f, c847, c847c, c847v⟩ := cm44m.ct.2.2.2.1
        obtain ⟨c848f, c848, c848c, c848v⟩ := cm44m.ct.2.2.2.2
        refine zr_callS (kc' := (40 - 3 * k.toNat - 1)) (ks' := (1200 - 50 * k.toNat - (5 : Int).toNat)) X 209 2 (m_X8_places l Γ c847 c847c (by omega) c848 c848c (by omega)) gX8_digest_X8_places rfl (by decide +kernel) rfl (by decide) rfl (Nat.le_of_ble_eq_true rfl) dX8_digest_206 rfl (by omega) (by omega) (fun rv49 V50 hp51 => ?_)
        obtain ⟨⟨y52, y52e, y520, y521, y522⟩, y52v⟩ := hp51
        rw [y52e, y52v]
        show zG C cm44V (40 - 3 * k.toNat - 1) (1200 - 50 * k.toNat - (5 : Int).toNat) 209 [(1, .long (hp23z)), (5, .int (zI (k))), (4, .int (zI ((6 : Nat)))), (3, .ref (c 62)), (0, .ref (c 60))] [.int (zI (y52)), .int (zI (2)), .ref q25, .ref q25, .long (hp23z)]
        have y52N : y52 = zsN τ7 6 7 := zsN.row y522 (by rw [zsz6]; omega) (by rw [zsz7]; omega) (fun k9 h9 => by rw [zsz6] at h9; unfold zsg; rw [if_neg (by omega), if_pos (by omega)]; exact c847v k9 (by omega) (by omega)) (fun k9 h9 => by rw [zsz7] at h9; unfold zsg; rw [if_neg (by omega), if_neg (by omega)]; exact c848v k9 (by omega) (by omega))
        refine zr_iast X 210 cm44s (by omega) dX8_digest_209 rfl ?_
        have cm44sz := zag.one (e' := za Γ.2.1 0 ((5 : Int).toNat) (zf (zf (zf (fun _ => 0) (0 : Int).toNat y35) (1 : Int).toNat y43) (2 : Int).toNat y52)) cm44s
        obtain ⟨cm53h, cm53f⟩ := (⟨cm44m.kept cm44sz (fun t h1 h2 => by omega), cm44sz⟩ : _ ∧ _)
        obtain ⟨cm53V, cm53e⟩ : ∃ zz9 : zV, zz9 = (zu cm44V q25 92 (za Γ.2.1 0 ((5 : Int).toNat) (zf (zf (zf (fun _ => 0) (0 : Int).toNat y35) (1 : Int).toNat y43) (2 : Int).toNat y52))) := ⟨_, rfl⟩
        have cm53m : zMo Γ cm53V c md (τ7) κ E := by
          rw [cm53e]
          exact cm53h
        have cm53g : zag (fun x => x ≠ 92) cm44V cm53V := by
          rw [cm53e]
          exact cm53f
        have cm53s : cm53V q25 = some (92, za Γ.2.1 0 ((5 : Int).toNat) (zf (zf (zf (fun _ => 0) (0 : Int).toNat y35) (1 : Int).toNat y43) (2 : Int).toNat y52)) := by
          rw [cm53e]
          exact zu_eq _ _ _ _
        refine zr_view (cm53e).symm ?_
        have fx54 : zfm V cm53V := zag.tr fx45 (cm53g.mono (fun t ht => by omega))
        show zG C cm53V (40 - 3 * k.toNat - 1) (1200 - 50 * k.toNat - (5 : Int).toNat) 210 [(1, .long (hp23z)), (5, .int (zI (k))), (4, .int (zI ((6 : Nat)))), (3, .ref (c 62)), (0, .ref (c 60))] [.ref q25, .long (hp23z)]
        refine zr_dup X 211 dX8_digest_210 rfl rfl ?_
        refine zr_iconst X 212 dX8_digest_211 rfl ?_
        refine zr_aload_n X 213 4 dX8_digest_212 rfl rfl ?_
        have c855 : cm53V (c 60) = some (60, .inr (9, [.ref (md 61), .int (zI (κ 0)), .ref (c 62), .ref (md 63), .ref (md 64), .ref (c 65), .int (zI (τ7 26)), .int (zI (τ7 28)), .int (zI (τ7 29)), .ref (c 66), .int (zI (τ7 36))])) := cm53m.1
        refine zr_get X 216 9 4 c855 rfl iX8 (by decide) w5 rfl rfl dX8_digest_213 rfl ?_
        refine zr_aload_n X 217 4 dX8_digest_216 rfl rfl ?_
        refine zr_get X 220 9 3 c855 rfl iX8 (by decide) w4 rfl rfl dX8_digest_217 rfl ?_
        obtain ⟨c856f, c856, c856c, c856v⟩ := cm53m.ct.2.2.2.2
        obtain ⟨c857f, c857, c857c, c857v⟩ := cm53m.ct.2.2.2.1
        refine zr_callS (kc' := (40 - 3 * k.toNat - 1)) (ks' := (1200 - 50 * k.toNat - (5 : Int).toNat)) X 223 2 (m_X8_places l Γ c856 c856c (by omega) c857 c857c (by omega)) gX8_digest_X8_places rfl (by decide +kernel) rfl (by decide) rfl (Nat.le_of_ble_eq_true rfl) dX8_digest_220 rfl (by omega) (by omega) (fun rv58 V59 hp60 => ?_)
        obtain ⟨⟨y61, y61e, y610, y611, y612⟩, y61v⟩ := hp60
        rw [y61e, y61v]
        show zG C cm53V (40 - 3 * k.toNat - 1) (1200 - 50 * k.toNat - (5 : Int).toNat) 223 [(1, .long (hp23z)), (5, .int (zI (k))), (4, .int (zI ((6 : Nat)))), (3, .ref (c 62)), (0, .ref (c 60))] [.int (zI (y61)), .int (zI (3)), .ref q25, .ref q25, .long (hp23z)]
        have y61N : y61 = zsN τ7 7 6 := zsN.row y612 (by rw [zsz7]; omega) (by rw [zsz6]; omega) (fun k9 h9 => by rw [zsz7] at h9; unfold zsg; rw [if_neg (by omega), if_neg (by omega)]; exact c856v k9 (by omega) (by omega)) (fun k9 h9 => by rw [zsz6] at h9; unfold zsg; rw [if_neg (by omega), if_pos (by omega)]; exact c857v k9 (by omega) (by omega))
        refine zr_iast X 224 cm53s (by omega) dX8_digest_223 rfl ?_
        have cm53sz := zag.one (e' := za Γ.2.1 0 ((5 : Int).toNat) (zf (zf (zf (zf (fun _ => 0) (0 : Int).toNat y35) (1 : Int).toNat y43) (2 : Int).toNat y52) (3 : Int).toNat y61)) cm53s
        obtain ⟨cm62h, cm62f⟩ := (⟨cm53m.kept cm53sz (fun t h1 h2 => by omega), cm53sz⟩ : _ ∧ _)
        obtain ⟨cm62V, cm62e⟩ : ∃ zz9 : zV, zz9 = (zu cm53V q25 92 (za Γ.2.1 0 ((5 : Int).toNat) (zf (zf (zf (zf (fun _ => 0) (0 : Int).toNat y35) (1 : Int).toNat y43) (2 : Int).toNat y52) (3 : Int).toNat y61))) := ⟨_, rfl⟩
        have cm62m : zMo Γ cm62V c md (τ7) κ E := by
          rw [cm62e]
          exact cm62h
        have cm62g : zag (fun x => x ≠ 92) cm53V cm62V := by
          rw [cm62e]
          exact cm62f
        have cm62s : cm62V q25 = some (92, za Γ.2.1 0 ((5 : Int).toNat) (zf (zf (zf (zf (fun _ => 0) (0 : Int).toNat y35) (1 : Int).toNat y43) (2 : Int).toNat y52) (3 : Int).toNat y61)) := by
          rw [cm62e]
          exact zu_eq _ _ _ _
        refine zr_view (cm62e).symm ?_
        have fx63 : zfm V cm62V := zag.tr fx54 (cm62g.mono (fun t ht => by omega))
        show zG C cm62V (40 - 3 * k.toNat - 1) (1200 - 50 * k.toNat - (5 : Int).toNat) 224 [(1, .long (hp23z)), (5, .int (zI (k))), (4, .int (zI ((6 : Nat)))), (3, .ref (c 62)), (0, .ref (c 60))] [.ref q25, .long (hp23z)]
        refine zr_dup X 225 dX8_digest_224 rfl rfl ?_
        refine zr_iconst X 226 dX8_digest_225 rfl ?_
        refine zr_aload_n X 227 4 dX8_digest_226 rfl rfl ?_
        have c864 : cm62V (c 60) = some (60, .inr (9, [.ref (md 61), .int (zI (κ 0)), .ref (c 62), .ref (md 63), .ref (md 64), .ref (c 65), .int (zI (τ7 26)), .int (zI (τ7 28)), .int (zI (τ7 29)), .ref (c 66), .int (zI (τ7 36))])) := cm62m.1
        refine zr_get X 230 9 7 c864 rfl iX8 (by decide) w7 rfl rfl dX8_digest_227 rfl ?_
        refine zr_aload_n X 231 4 dX8_digest_230 rfl rfl ?_
        refine zr_get X 234 9 8 c864 rfl iX8 (by decide) w8 rfl rfl dX8_digest_231 rfl ?_
        refine zr_isub X 235 dX8_digest_234 rfl ?_
        refine zr_iast X 236 cm62s (by omega) dX8_digest_235 rfl ?_
        have cm62sz := zag.one (e' := za Γ.2.1 0 ((5 : Int).toNat) (zf (zf (zf (zf (zf (fun _ => 0) (0 : Int).toNat y35) (1 : Int).toNat y43) (2 : Int).toNat y52) (3 : Int).toNat y61) (4 : Int).toNat ((τ7 28) - (τ7 29)))) cm62s
        obtain ⟨cm65h, cm65f⟩ := (⟨cm62m.kept cm62sz (fun t h1 h2 => by omega), cm62sz⟩ : _ ∧ _)
        obtain ⟨cm65V, cm65e⟩ : ∃ zz9 : zV, zz9 = (zu cm62V q25 92 (za Γ.2.1 0 ((5 : Int).toNat) (zf (zf (zf (zf (zf (fun _ => 0) (0 : Int).toNat y35) (1 : Int).toNat y43) (2 : Int).toNat y52) (3 : Int).toNat y61) (4 : Int).toNat ((τ7 28) - (τ7 29))))) := ⟨_, rfl⟩
        have cm65m : zMo Γ cm65V c md (τ7) κ E := by
          rw [cm65e]
          exact cm65h
        have cm65g : zag (fun x => x ≠ 92) cm62V cm65V := by
          rw [cm65e]
          exact cm65f
        have cm65s : cm65V q25 = some (92, za Γ.2.1 0 ((5 : Int).toNat) (zf (zf (zf (zf (zf (fun _ => 0) (0 : Int).toNat y35) (1 : Int).toNat y43) (2 : Int).toNat y52) (3 : Int).toNat y61) (4 : Int).toNat ((τ7 28) - (τ7 29)))) := by
          rw [cm65e]
          exact zu_eq _ _ _ _
        refine zr_view (cm65e).symm ?_
        have fx66 : zfm V cm65V := zag.tr fx63 (cm65g.mono (fun t ht => by omega))
        show zG C cm65V (40 - 3 * k.toNat - 1) (1200 - 50 * k.toNat - (5 : Int).toNat) 236 [(1, .long (hp23z)), (5, .int (zI (k))), (4, .int (zI ((6 : Nat)))), (3, .ref (c 62)), (0, .ref (c 60))] [.ref q25, .long (hp23z)]
        refine zr_callS (kc' := (40 - 3 * k.toNat - 1)) (ks' := (1200 - 50 * k.toNat - (5 : Int).toNat)) X 239 2 (m_X8_mixed l Γ (V := cm65V) (x := hp23z) cm65s (by omega)) gX8_digest_X8_mixed rfl (by decide +kernel) rfl (by decide) rfl (Nat.le_of_ble_eq_true rfl) dX8_digest_236 rfl (by omega) (by omega) (fun rv67 V68 hp69 => ?_)
        obtain ⟨hp69e, hp69v⟩ := hp69
        obtain ⟨hp69z, hp69q⟩ : ∃ zz9 : Int64, zz9 = zmr (hp23z) (zf (zf (zf (zf (zf (fun _ => 0) (0 : Int).toNat y35) (1 : Int).toNat y43) (2 : Int).toNat y52) (3 : Int).toNat y61) (4 : Int).toNat ((τ7 28) - (τ7 29))) ((5 : Int).toNat) := ⟨_, rfl⟩
        rw [hp69e, hp69v, ← hp69q]
        have hp69k : hp69z = (zmi (zmi (zmi (zmi (zmi hp23z (y35)) (y43)) (zsN τ7 6 7)) (zsN τ7 7 6)) (τ7 27)) := by
          rw [hp69q, zmr_5, y52N, y61N, show (τ7 28) - (τ7 29) = τ7 27 by omega]
        show zG C cm65V (40 - 3 * k.toNat - 1) (1200 - 50 * k.toNat - (5 : Int).toNat) 239 [(1, .long (hp23z)), (5, .int (zI (k))), (4, .int (zI ((6 : Nat)))), (3, .ref (c 62)), (0, .ref (c 60))] [.long (hp69z)]
        refine zr_lstore_n X 240 [(1, .long (hp69z)), (5, .int (zI (k))), (4, .int (zI ((6 : Nat)))), (3, .ref (c 62)), (0, .ref (c 60))] dX8_digest_239 rfl (by decide) rfl ?_
        refine zr_aload_n X 241 4 dX8_digest_240 rfl rfl ?_
        have c870 : cm65V (c 60) = some (60, .inr (9, [.ref (md 61), .int (zI (κ 0)), .ref (c 62), .ref (md 63), .ref (md 64), .ref (c 65), .int (zI (τ7 26)), .int (zI (τ7 28)), .int (zI (τ7 29)), .ref (c 66), .int (zI (τ7 36))])) := cm65m.1
        refine zr_get X 244 9 8 c870 rfl iX8 (by decide) w8 rfl rfl dX8_digest_241 rfl ?_
        refine zr_istore_n X 245 [(3, .int (zI (τ7 29))), (1, .long (hp69z)), (5, .int (zI (k))), (4, .int (zI ((6 : Nat)))), (0, .ref (c 60))] dX8_digest_244 rfl (by decide) rfl ?_
        obtain ⟨c871f, c871, c871c, c871v⟩ := cm65m.ts
        refine zr_sub [0, 1, 4] [(3, .int (zI (τ7 29))), (1, .long (hp69z)), (0, .ref (c 60))] rfl ?_
        have loop3 : ∀ (N : Nat) (x3 : Int64) (k3 : Int), τ7 29 ≤ k3 ∧ k3 ≤ τ7 28 ∧ x3 = zmr hp69z (fun j => τ7 (300 + ((τ7 29).toNat + j))) (k3 - τ7 29).toNat → (τ7 28 - k3).toNat = N → zG C cm65V (40 - 3 * k.toNat - 1) (1200 - 50 * k.toNat - (5 : Int).toNat) 245 [(3, .int (zI (k3))), (1, .long (x3)), (0, .ref (c 60))] [] := by
          intro N
          induction N using Nat.strongRecOn with
          | _ N ih =>
          intro x3 k3 hI hN
          obtain ⟨hJ1, hJ2, hJ3⟩ := id hI
          refine zr_iload_n X 246 0 dX8_digest_245 rfl rfl ?_
          refine zr_aload_n X 247 2 dX8_digest_246 rfl rfl ?_
          refine zr_get X 250 9 7 c870 rfl iX8 (by decide) w7 rfl rfl dX8_digest_247 rfl ?_
          refine zr_icmp_ge X 273 253 dX8_digest_250 rfl rfl (by omega) (by omega) (fun bq72 => ?_) (fun bq72 => ?_)
          · refine zr_lload_n X 274 1 dX8_digest_273 rfl rfl ?_
            refine zr_ldc2 X 277 (v := 31) dX8_digest_274 rfl w3 ?_
            refine zr_lmul X 278 dX8_digest_277 rfl ?_
            refine zr_aload_n X 279 2 dX8_digest_278 rfl rfl ?_
            refine zr_get X 282 9 7 c870 rfl iX8 (by decide) w7 rfl rfl dX8_digest_279 rfl ?_
            refine zr_i2l X 283 dX8_digest_282 rfl ?_
            obtain ⟨y73, y73e⟩ : ∃ zz9 : Int64, zz9 = (zI (τ7 28)).toInt64 := ⟨_, rfl⟩
            rw [← y73e]
            refine zr_ladd X 284 dX8_digest_283 rfl ?_
            refine zr_aload_n X 285 2 dX8_digest_284 rfl rfl ?_
            refine zr_get X 288 9 9 c870 rfl iX8 (by decide) w9 rfl rfl dX8_digest_285 rfl ?_
            obtain ⟨c874f, c874, c8740, c8741, c8742, c8743⟩ := cm65m.2.2.2.2.2.2.2.1
            refine zr_callS (kc' := (40 - 3 * k.toNat - 1)) (ks' := (1200 - 50 * k.toNat - (5 : Int).toNat)) X 291 2 (m_X8_mixed l Γ (V := cm65V) (x := (x3 * 31) + y73) c874 (by omega)) gX8_digest_X8_mixed rfl (by decide +kernel) rfl (by decide) rfl (Nat.le_of_ble_eq_true rfl) dX8_digest_288 rfl (by omega) (by omega) (fun rv75 V76 hp77 => ?_)
            obtain ⟨hp77e, hp77v⟩ := hp77
            obtain ⟨hp77z, hp77q⟩ : ∃ zz9 : Int64, zz9 = zmr ((x3 * 31) + y73) (c874f) (4) := ⟨_, rfl⟩
            rw [hp77e, hp77v, ← hp77q]
            have xe78 : (x3 * 31) + y73 = zmi x3 (τ7 28) := zmi_of y73e
            have hp77k : hp77z = (zmi (zmi (zmi (zmi (zmi x3 (τ7 28)) (τ7 30)) (τ7 31)) (τ7 32)) (τ7 33)) := by
              rw [hp77q, xe78]
              exact zmr_f4 c8740 c8741 c8742 c8743
            show zG C cm65V (40 - 3 * k.toNat - 1) (1200 - 50 * k.toNat - (5 : Int).toNat) 291 [(3, .int (zI (k3))), (1, .long (x3)), (0, .ref (c 60))] [.long (hp77z)]
            refine zr_iconst X 292 dX8_digest_291 rfl ?_
            refine zr_newai (kc' := ((40 - 3 * k.toNat - 1) - 1)) (ks' := ((1200 - 50 * k.toNat - (5 : Int).toNat) - (1 : Int).toNat)) X 294 93 w6 (by omega) dX8_digest_292 rfl (by omega) (by omega) (fun q79 hq80 => ?_)
            have nz81 := zag.rf.new (P := zal) (t := 93) (e := za Γ.2.1 0 ((1 : Int).toNat) (fun _ => 0)) hq80
            obtain ⟨cm82h, cm82f⟩ := (⟨cm65m.kept nz81 (fun _ _ _ => trivial), nz81⟩ : _ ∧ _)
            obtain ⟨cm82V, cm82e⟩ : ∃ zz9 : zV, zz9 = (zu cm65V q79 93 (za Γ.2.1 0 ((1 : Int).toNat) (fun _ => 0))) := ⟨_, rfl⟩
            have cm82m : zMo Γ cm82V c md (τ7) κ E := by
              rw [cm82e]
              exact cm82h
            have cm82g : zag zal cm65V cm82V := by
              rw [cm82e]
              exact cm82f
            have cm82s : cm82V q79 = some (93, za Γ.2.1 0 ((1 : Int).toNat) (fun _ => 0)) := by
              rw [cm82e]
              exact zu_eq _ _ _ _
            refine zr_view (cm82e).symm ?_
            have lc83 := cm82g _ _ _ cm65s trivial
            have fx84 : zfm V cm82V := zag.tr fx66 (cm82g.mono (fun _ _ => trivial))
            show zG C cm82V ((40 - 3 * k.toNat - 1) - 1) ((1200 - 50 * k.toNat - (5 : Int).toNat) - (1 : Int).toNat) 294 [(3, .int (zI (k3))), (1, .long (x3)), (0, .ref (c 60))] [.ref q79, .long (hp77z)]
            refine zr_dup X 295 dX8_digest_294 rfl rfl ?_
            refine zr_iconst X 296 dX8_digest_295 rfl ?_
            refine zr_aload_n X 297 2 dX8_digest_296 rfl rfl ?_
            refine zr_callVe (kc' := (((40 - 3 * k.toNat - 1) - 1) - 12)) (ks' := (((1200 - 50 * k.toNat - (5 : Int).toNat) - (1 : Int).toNat) - 480)) X 300 0 (m_X8_isRight l Γ cm82m) gX8_digest_X8_isRight rfl (by decide +kernel) rfl (by decide) ⟨_, _, cm82m.1⟩ rfl rfl (Nat.le_of_ble_eq_true rfl) dX8_digest_297 rfl (by omega) (by omega) (fun rv85 V86 hp87 => ?_)
            obtain ⟨hp87e, hp87m, hp87g⟩ := hp87
            rw [hp87e]
            have lc88 := hp87g _ _ _ lc83 trivial
            have lc89 := hp87g _ _ _ cm82s trivial
            have fx90 : zfm V V86 := zag.tr fx84 (hp87g.mono (fun _ _ => trivial))
            show zG C V86 (((40 - 3 * k.toNat - 1) - 1) - 12) (((1200 - 50 * k.toNat - (5 : Int).toNat) - (1 : Int).toNat) - 480) 300 [(3, .int (zI (k3))), (1, .long (x3)), (0, .ref (c 60))] [.int (zI (1)), .int (zI (0)), .ref q79, .ref q79, .long (hp77z)]
            refine zr_if_eq X 307 303 dX8_digest_300 rfl rfl (by omega) (fun bq91 => absurd bq91 (by omega)) (fun bq91 => ?_)
            refine zr_iconst X 304 dX8_digest_303 rfl ?_
            refine zr_goto X 308 dX8_digest_304 rfl ?_
            refine zr_iast X 309 lc89 (by omega) dX8_digest_308 rfl ?_
            have lc89z := zag.one (e' := za Γ.2.1 0 ((1 : Int).toNat) (zf (fun _ => 0) (0 : Int).toNat 1)) lc89
            obtain ⟨cm92h, cm92f⟩ := (⟨hp87m.kept lc89z (fun t h1 h2 => by omega), lc89z⟩ : _ ∧ _)
            obtain ⟨cm92V, cm92e⟩ : ∃ zz9 : zV, zz9 = (zu V86 q79 93 (za Γ.2.1 0 ((1 : Int).toNat) (zf (fun _ => 0) (0 : Int).toNat 1))) := ⟨_, rfl⟩
            have cm92m : zMo Γ cm92V c md (τ7) κ E := by
              rw [cm92e]
              exact cm92h
            have cm92g : zag (fun x => x ≠ 93) V86 cm92V := by
              rw [cm92e]
              exact cm92f
            have cm92s : cm92V q79 = some (93, za Γ.2.1 0 ((1 : Int).toNat) (zf (fun _ => 0) (0 : Int).toNat 1)) := by
              rw [cm92e]
              exact zu_eq _ _ _ _
            refine zr_view (cm92e).symm ?_
            have lc93 := cm92g _ _ _ lc88 (by omega)
            have fx94 : zfm V cm92V := zag.tr fx90 (cm92g.mono (fun t ht => by omega))
            show zG C cm92V (((40 - 3 * k.toNat - 1) - 1) - 12) (((1200 - 50 * k.toNat - (5 : Int).toNat) - (1 : Int).toNat) - 480) 309 [(3, .int (zI (k3))), (1, .long (x3)), (0, .ref (c 60))] [.ref q79, .long (hp77z)]
            refine zr_callS (kc' := (((40 - 3 * k.toNat - 1) - 1) - 12)) (ks' := (((1200 - 50 * k.toNat - (5 : Int).toNat) - (1 : Int).toNat) - 480)) X 312 2 (m_X8_mixed l Γ (V := cm92V) (x := hp77z) cm92s (by omega)) gX8_digest_X8_mixed rfl (by decide +kernel) rfl (by decide) rfl (Nat.le_of_ble_eq_true rfl) dX8_digest_309 rfl (by omega) (by omega) (fun rv95 V96 hp97 => ?_)
            obtain ⟨hp97e, hp97v⟩ := hp97
            obtain ⟨hp97z, hp97q⟩ : ∃ zz9 : Int64, zz9 = zmr (hp77z) (zf (fun _ => 0) (0 : Int).toNat 1) ((1 : Int).toNat) := ⟨_, rfl⟩
            rw [hp97e, hp97v, ← hp97q]
            have hp97k : hp97z = (zmi hp77z (1)) := by
              rw [hp97q, zmr_1]
            show zG C cm92V (((40 - 3 * k.toNat - 1) - 1) - 12) (((1200 - 50 * k.toNat - (5 : Int).toNat) - (1 : Int).toNat) - 480) 312 [(3, .int (zI (k3))), (1, .long (x3)), (0, .ref (c 60))] [.long (hp97z)]
            have hx9 : x3 = zmr hp69z (fun j => τ7 (300 + ((τ7 29).toNat + j))) (τ7 27).toNat := by
              rw [hJ3, show (k3 - τ7 29).toNat = (τ7 27).toNat by omega]
            have hW9 := hI5
            rw [show k.toNat = 6 by omega] at hW9
            exact zr_lret X rfl ⟨⟨_, rfl, by rw [← τ7e]; exact ⟨x1, y35, y43, hW9, y35B, y43B, by rw [hp97k, hp77k, hx9, hp69k, hp23k, hp17k]; first | done | rfl⟩⟩, by rw [← τ7e]; exact cm92m, fx94⟩ dX8_digest_312
          · refine zr_lload_n X 254 1 dX8_digest_253 rfl rfl ?_
            refine zr_ldc2 X 257 (v := 31) dX8_digest_254 rfl w3 ?_
            refine zr_lmul X 258 dX8_digest_257 rfl ?_
            refine zr_aload_n X 259 2 dX8_digest_258 rfl rfl ?_
            refine zr_get X 262 9 5 c870 rfl iX8 (by decide) w10 rfl rfl dX8_digest_259 rfl ?_
            refine zr_iload_n X 263 0 dX8_digest_262 rfl rfl ?_
            refine zr_iald X 264 c871 (by omega) dX8_digest_263 rfl ?_
            have zb98 := zc.b c871c (k3).toNat
            refine zr_i2l X 265 dX8_digest_264 rfl ?_
            obtain ⟨y99, y99e⟩ : ∃ zz9 : Int64, zz9 = (zI (c871f (k3).toNat)).toInt64 := ⟨_, rfl⟩
            rw [← y99e]
            refine zr_ladd X 266 dX8_digest_265 rfl ?_
            refine zr_lstore_n X 267 [(1, .long ((x3 * 31) + y99)), (3, .int (zI (k3))), (0, .ref (c 60))] dX8_digest_266 rfl (by decide) rfl ?_
            refine zr_iinc X 270 1 [(3, .int (zI (k3 + 1))), (1, .long ((x3 * 31) + y99)), (0, .ref (c 60))] dX8_digest_267 rfl rfl (by decide) rfl ?_
            refine zr_goto X 245 dX8_digest_270 rfl ?_
            exact ih _ (by omega) ((x3 * 31) + y99) (k3 + 1) ⟨by omega, by omega, zmr_up hJ3 (by omega) y99e (show c871f (k3).toNat = τ7 (300 + ((τ7 29).toNat + (k3 - τ7 29).toNat)) from (c871v _ (by omega)).trans (congrArg τ7 (by omega)))⟩ rfl
        exact loop3 _ hp69z (τ7 29) ⟨by omega, by omega, by rw [show (τ7 29 - τ7 29).toNat = 0 by omega]; rfl⟩ rfl
      · refine zr_aload_n X 31 2 dX8_digest_30 rfl rfl ?_
        refine zr_iload X 33 0 dX8_digest_31 rfl rfl ?_
        have c8100 : V1 (c 62) = some (62, zq Γ.2.1 4 6 (fun i => some (md (70 + i)))) := hI1.2.2.1
        refine zr_aaldI X 34 (.ref (md (70 + k.toNat))) c8100 (by omega) rfl dX8_digest_33 rfl ?_
        refine zr_astore X 36 [(6, .ref (md (70 + k.toNat))), (5, .int (zI (k))), (4, .int (zI ((6 : Nat)))), (3, .ref (c 62)), (1, .long (x1)), (0, .ref (c 60))] dX8_digest_34 rfl (by decide) rfl ?_
        refine zr_aload_n X 37 5 dX8_digest_36 rfl rfl ?_
        refine zr_aload X 39 0 dX8_digest_37 rfl rfl ?_
        have hw102 := hI1.w (i := k.toNat) (by omega)
        have hw102r := hw102.rg
        have hw102d := hw102.mk
        have z0103 : (zf τ 36 0) (4 * k.toNat) = τ7 (4 * k.toNat) := by rw [τ7e]
        have z0104 : (zf τ 36 0) (4 * k.toNat + 1) = τ7 (4 * k.toNat + 1) := by rw [τ7e]
        have z0105 : (zf τ 36 0) (4 * k.toNat + 2) = τ7 (4 * k.toNat + 2) := by rw [τ7e]
        have z0106 : (zf τ 36 0) (4 * k.toNat + 3) = τ7 (4 * k.toNat + 3) := by rw [τ7e]
        refine zr_callVe (kc' := (40 - 3 * k.toNat - 1)) (ks' := (1200 - 50 * k.toNat - 40)) X 42 1 (m_X8_text l Γ (tg := 76) (i := k) hI1 (by omega)) gX8_digest_X8_text rfl (by decide +kernel) rfl (by decide) ⟨_, _, hI1.1⟩ rfl rfl (Nat.le_of_ble_eq_true rfl) dX8_digest_39 rfl (by omega) (by omega) (fun rv107 V108 hp109 => ?_)
        obtain ⟨hp109q, hp109f, hp109e, hp109h, hp109c, hp109g, hp109z⟩ := hp109
        rw [hp109e]
        have hp109m := hI1.kept hp109g (fun _ _ _ => trivial)
        have fx110 : zfm V V108 := zag.tr hI2 (hp109g.mono (fun _ _ => trivial))
        show zG C V108 (40 - 3 * k.toNat - 1) (1200 - 50 * k.toNat - 40) 42 [(6, .ref (md (70 + k.toNat))), (5, .int (zI (k))), (4, .int (zI ((6 : Nat)))), (3, .ref (c 62)), (1, .long (x1)), (0, .ref (c 60))] [.ref hp109q]
        have tx111e : zsz τ7 k = τ7 (4 * k.toNat + 1) - τ7 (4 * k.toNat + 2) := by
          unfold zsz
          rw [if_pos (by omega)]
        have tx111n : (((τ7 (4 * k.toNat + 1) - τ7 (4 * k.toNat + 2)).toNat : Nat) : Int) = zsz τ7 k := by
          rw [tx111e]
          omega
        have tx111s : ∀ j9 : Nat, (j9 : Int) < zsz τ7 k → hp109f j9 = zsg τ7 k j9 := fun j9 h9 => by
          rw [tx111e] at h9
          unfold zsg
          rw [if_pos (by omega)]
          exact hp109z j9 h9
        refine zr_astore X 44 [(7, .ref hp109q), (6, .ref (md (70 + k.toNat))), (5, .int (zI (k))), (4, .int (zI ((6 : Nat)))), (3, .ref (c 62)), (1, .long (x1)), (0, .ref (c 60))] dX8_digest_42 rfl (by decide) rfl ?_
        refine zr_lload_n X 45 5 dX8_digest_44 rfl rfl ?_
        refine zr_iconst X 46 dX8_digest_45 rfl ?_
        refine zr_newai (kc' := ((40 - 3 * k.toNat - 1) - 1)) (ks' := ((1200 - 50 * k.toNat - 40) - (4 : Int).toNat)) X 48 90 w6 (by omega) dX8_digest_46 rfl (by omega) (by omega) (fun q112 hq113 => ?_)
        have nz114 := zag.rf.new (P := zal) (t := 90) (e := za Γ.2.1 0 ((4 : Int).toNat) (fun _ => 0)) hq113
        obtain ⟨cm115h, cm115f⟩ := (⟨hp109m.kept nz114 (fun _ _ _ => trivial), nz114⟩ : _ ∧ _)
        obtain ⟨cm115V, cm115e⟩ : ∃ zz9 : zV, zz9 = (zu V108 q112 90 (za Γ.2.1 0 ((4 : Int).toNat) (fun _ => 0))) := ⟨_, rfl⟩
        have cm115m : zMo Γ cm115V c md (τ7) κ E := by
          rw [cm115e]
          exact cm115h
        have cm115g : zag zal V108 cm115V := by
          rw [cm115e]
          exact cm115f
        have cm115s : cm115V q112 = some (90, za Γ.2.1 0 ((4 : Int).toNat) (fun _ => 0)) := by
          rw [cm115e]
          exact zu_eq _ _ _ _
        refine zr_view (cm115e).symm ?_
        have lc116 := cm115g _ _ _ hp109h trivial
        have fx117 : zfm V cm115V := zag.tr fx110 (cm115g.mono (fun _ _ => trivial))
        show zG C cm115V ((40 - 3 * k.toNat - 1) - 1) ((1200 - 50 * k.toNat - 40) - (4 : Int).toNat) 48 [(7, .ref hp109q), (6, .ref (md (70 + k.toNat))), (5, .int (zI (k))), (4, .int (zI ((6 : Nat)))), (3, .ref (c 62)), (1, .long (x1)), (0, .ref (c 60))] [.ref q112, .long (x1)]
        refine zr_dup X 49 dX8_digest_48 rfl rfl ?_
        refine zr_iconst X 50 dX8_digest_49 rfl ?_
        refine zr_aload X 52 1 dX8_digest_50 rfl rfl ?_
        refine zr_iconst X 53 dX8_digest_52 rfl ?_
        have hw119 := cm115m.w (i := k.toNat) (by omega)
        have hw119r := hw119.rg
        have hw119d := hw119.mk
        have z0120 : (zf τ 36 0) (4 * k.toNat) = τ7 (4 * k.toNat) := by rw [τ7e]
        have z0121 : (zf τ 36 0) (4 * k.toNat + 1) = τ7 (4 * k.toNat + 1) := by rw [τ7e]
        have z0122 : (zf τ 36 0) (4 * k.toNat + 2) = τ7 (4 * k.toNat + 2) := by rw [τ7e]
        have z0123 : (zf τ 36 0) (4 * k.toNat + 3) = τ7 (4 * k.toNat + 3) := by rw [τ7e]
        refine zr_iald X 54 hw119.1 (by omega) dX8_digest_53 rfl ?_
        show zG C cm115V ((40 - 3 * k.toNat - 1) - 1) ((1200 - 50 * k.toNat - 40) - (4 : Int).toNat) 54 [(7, .ref hp109q), (6, .ref (md (70 + k.toNat))), (5, .int (zI (k))), (4, .int (zI ((6 : Nat)))), (3, .ref (c 62)), (1, .long (x1)), (0, .ref (c 60))] [.int (zI (τ7 (4 * k.toNat + 2))), .int (zI (0)), .ref q112, .ref q112, .long (x1)]
        refine zr_iast X 55 cm115s (by omega) dX8_digest_54 rfl ?_
        have cm115sz := zag.one (e' := za Γ.2.1 0 ((4 : Int).toNat) (zf (fun _ => 0) (0 : Int).toNat (τ7 (4 * k.toNat + 2)))) cm115s
        obtain ⟨cm124h, cm124f⟩ := (⟨cm115m.kept cm115sz (fun t h1 h2 => by omega), cm115sz⟩ : _ ∧ _)
        obtain ⟨cm124V, cm124e⟩ : ∃ zz9 : zV, zz9 = (zu cm115V q112 90 (za Γ.2.1 0 ((4 : Int).toNat) (zf (fun _ => 0) (0 : Int).toNat (τ7 (4 * k.toNat + 2))))) := ⟨_, rfl⟩
        have cm124m : zMo Γ cm124V c md (τ7) κ E := by
          rw [cm124e]
          exact cm124h
        have cm124g : zag (fun x => x ≠ 90) cm115V cm124V := by
          rw [cm124e]
          exact cm124f
        have cm124s : cm124V q112 = some (90, za Γ.2.1 0 ((4 : Int).toNat) (zf (fun _ => 0) (0 : Int).toNat (τ7 (4 * k.toNat + 2)))) := by
          rw [cm124e]
          exact zu_eq _ _ _ _
        refine zr_view (cm124e).symm ?_
        have lc125 := cm124g _ _ _ lc116 (by omega)
        have fx126 : zfm V cm124V := zag.tr fx117 (cm124g.mono (fun t ht => by omega))
        show zG C cm124V ((40 - 3 * k.toNat - 1) - 1) ((1200 - 50 * k.toNat - 40) - (4 : Int).toNat) 55 [(7, .ref hp109q), (6, .ref (md (70 + k.toNat))), (5, .int (zI (k))), (4, .int (zI ((6 : Nat)))), (3, .ref (c 62)), (1, .long (x1)), (0, .ref (c 60))] [.ref q112, .long (x1)]
        refine zr_dup X 56 dX8_digest_55 rfl rfl ?_
        refine zr_iconst X 57 dX8_digest_56 rfl ?_
        refine zr_aload X 59 1 dX8_digest_57 rfl rfl ?_
        refine zr_iconst X 60 dX8_digest_59 rfl ?_
        have hw128 := cm124m.w (i := k.toNat) (by omega)
        have hw128r := hw128.rg
        have hw128d := hw128.mk
        have z0129 : (zf τ 36 0) (4 * k.toNat) = τ7 (4 * k.toNat) := by rw [τ7e]
        have z0130 : (zf τ 36 0) (4 * k.toNat + 1) = τ7 (4 * k.toNat + 1) := by rw [τ7e]
        have z0131 : (zf τ 36 0) (4 * k.toNat + 2) = τ7 (4 * k.toNat + 2) := by rw [τ7e]
        have z0132 : (zf τ 36 0) (4 * k.toNat + 3) = τ7 (4 * k.toNat + 3) := by rw [τ7e]
        refine zr_iald X 61 hw128.1 (by omega) dX8_digest_60 rfl ?_
        show zG C cm124V ((40 - 3 * k.toNat - 1) - 1) ((1200 - 50 * k.toNat - 40) - (4 : Int).toNat) 61 [(7, .ref hp109q), (6, .ref (md (70 + k.toNat))), (5, .int (zI (k))), (4, .int (zI ((6 : Nat)))), (3, .ref (c 62)), (1, .long (x1)), (0, .ref (c 60))] [.int (zI (τ7 (4 * k.toNat + 1))), .int (zI (1)), .ref q112, .ref q112, .long (x1)]
        refine zr_iast X 62 cm124s (by omega) dX8_digest_61 rfl ?_
        have cm124sz := zag.one (e' := za Γ.2.1 0 ((4 : Int).toNat) (zf (zf (fun _ => 0) (0 : Int).toNat (τ7 (4 * k.toNat + 2))) (1 : Int).toNat (τ7 (4 * k.toNat + 1)))) cm124s
        obtain ⟨cm133h, cm133f⟩ := (⟨cm124m.kept cm124sz (fun t h1 h2 => by omega), cm124sz⟩ : _ ∧ _)
        obtain ⟨cm133V, cm133e⟩ : ∃ zz9 : zV, zz9 = (zu cm124V q112 90 (za Γ.2.1 0 ((4 : Int).toNat) (zf (zf (fun _ => 0) (0 : Int).toNat (τ7 (4 * k.toNat + 2))) (1 : Int).toNat (τ7 (4 * k.toNat + 1))))) := ⟨_, rfl⟩
        have cm133m : zMo Γ cm133V c md (τ7) κ E := by
          rw [cm133e]
          exact cm133h
        have cm133g : zag (fun x => x ≠ 90) cm124V cm133V := by
          rw [cm133e]
          exact cm133f
        have cm133s : cm133V q112 = some (90, za Γ.2.1 0 ((4 : Int).toNat) (zf (zf (fun _ => 0) (0 : Int).toNat (τ7 (4 * k.toNat + 2))) (1 : Int).toNat (τ7 (4 * k.toNat + 1)))) := by
          rw [cm133e]
          exact zu_eq _ _ _ _
        refine zr_view (cm133e).symm ?_
        have lc134 := cm133g _ _ _ lc125 (by omega)
        have fx135 : zfm V cm133V := zag.tr fx126 (cm133g.mono (fun t ht => by omega))
        show zG C cm133V ((40 - 3 * k.toNat - 1) - 1) ((1200 - 50 * k.toNat - 40) - (4 : Int).toNat) 62 [(7, .ref hp109q), (6, .ref (md (70 + k.toNat))), (5, .int (zI (k))), (4, .int (zI ((6 : Nat)))), (3, .ref (c 62)), (1, .long (x1)), (0, .ref (c 60))] [.ref q112, .long (x1)]
        refine zr_dup X 63 dX8_digest_62 rfl rfl ?_
        refine zr_iconst X 64 dX8_digest_63 rfl ?_
        refine zr_aload X 66 1 dX8_digest_64 rfl rfl ?_
        refine zr_iconst X 67 dX8_digest_66 rfl ?_
        have hw137 := cm133m.w (i := k.toNat) (by omega)
        have hw137r := hw137.rg
        have hw137d := hw137.mk
        have z0138 : (zf τ 36 0) (4 * k.toNat) = τ7 (4 * k.toNat) := by rw [τ7e]
        have z0139 : (zf τ 36 0) (4 * k.toNat + 1) = τ7 (4 * k.toNat + 1) := by rw [τ7e]
        have z0140 : (zf τ 36 0) (4 * k.toNat + 2) = τ7 (4 * k.toNat + 2) := by rw [τ7e]
        have z0141 : (zf τ 36 0) (4 * k.toNat + 3) = τ7 (4 * k.toNat + 3) := by rw [τ7e]
        refine zr_iald X 68 hw137.1 (by omega) dX8_digest_67 rfl ?_
        show zG C cm133V ((40 - 3 * k.toNat - 1) - 1) ((1200 - 50 * k.toNat - 40) - (4 : Int).toNat) 68 [(7, .ref hp109q), (6, .ref (md (70 + k.toNat))), (5, .int (zI (k))), (4, .int (zI ((6 : Nat)))), (3, .ref (c 62)), (1, .long (x1)), (0, .ref (c 60))] [.int (zI (τ7 (4 * k.toNat))), .int (zI (2)), .ref q112, .ref q112, .long (x1)]
        refine zr_iast X 69 cm133s (by omega) dX8_digest_68 rfl ?_
        have cm133sz := zag.one (e' := za Γ.2.1 0 ((4 : Int).toNat) (zf (zf (zf (fun _ => 0) (0 : Int).toNat (τ7 (4 * k.toNat + 2))) (1 : Int).toNat (τ7 (4 * k.toNat + 1))) (2 : Int).toNat (τ7 (4 * k.toNat)))) cm133s
        obtain ⟨cm142h, cm142f⟩ := (⟨cm133m.kept cm133sz (fun t h1 h2 => by omega), cm133sz⟩ : _ ∧ _)
        obtain ⟨cm142V, cm142e⟩ : ∃ zz9 : zV, zz9 = (zu cm133V q112 90 (za Γ.2.1 0 ((4 : Int).toNat) (zf (zf (zf (fun _ => 0) (0 : Int).toNat (τ7 (4 * k.toNat + 2))) (1 : Int).toNat (τ7 (4 * k.toNat + 1))) (2 : Int).toNat (τ7 (4 * k.toNat))))) := ⟨_, rfl⟩
        have cm142m : zMo Γ cm142V c md (τ7) κ E := by
          rw [cm142e]
          exact cm142h
        have cm142g : zag (fun x => x ≠ 90) cm133V cm142V := by
          rw [cm142e]
          exact cm142f
        have cm142s : cm142V q112 = some (90, za Γ.2.1 0 ((4 : Int).toNat) (zf (zf (zf (fun _ => 0) (0 : Int).toNat (τ7 (4 * k.toNat + 2))) (1 : Int).toNat (τ7 (4 * k.toNat + 1))) (2 : Int).toNat (τ7 (4 * k.toNat)))) := by
          rw [cm142e]
          exact zu_eq _ _ _ _
        refine zr_view (cm142e).symm ?_
        have lc143 := cm142g _ _ _ lc134 (by omega)
        have fx144 : zfm V cm142V := zag.tr fx135 (cm142g.mono (fun t ht => by omega))
        show zG C cm142V ((40 - 3 * k.toNat - 1) - 1) ((1200 - 50 * k.toNat - 40) - (4 : Int).toNat) 69 [(7, .ref hp109q), (6, .ref (md (70 + k.toNat))), (5, .int (zI (k))), (4, .int (zI ((6 : Nat)))), (3, .ref (c 62)), (1, .long (x1)), (0, .ref (c 60))] [.ref q112, .long (x1)]
        refine zr_dup X 70 dX8_digest_69 rfl rfl ?_
        refine zr_iconst X 71 dX8_digest_70 rfl ?_
        refine zr_aload X 73 1 dX8_digest_71 rfl rfl ?_
        have hw146 := cm142m.w (i := k.toNat) (by omega)
        have hw146r := hw146.rg
        have hw146d := hw146.mk
        have z0147 : (zf τ 36 0) (4 * k.toNat) = τ7 (4 * k.toNat) := by rw [τ7e]
        have z0148 : (zf τ 36 0) (4 * k.toNat + 1) = τ7 (4 * k.toNat + 1) := by rw [τ7e]
        have z0149 : (zf τ 36 0) (4 * k.toNat + 2) = τ7 (4 * k.toNat + 2) := by rw [τ7e]
        have z0150 : (zf τ 36 0) (4 * k.toNat + 3) = τ7 (4 * k.toNat + 3) := by rw [τ7e]
        refine zr_callS (kc' := ((40 - 3 * k.toNat - 1) - 1)) (ks' := ((1200 - 50 * k.toNat - 40) - (4 : Int).toNat)) X 76 1 (m_X8_markOf l Γ hw146.1 (by omega) (by omega)) gX8_digest_X8_markOf rfl (by decide +kernel) rfl (by decide) rfl (Nat.le_of_ble_eq_true rfl) dX8_digest_73 rfl (by omega) (by omega) (fun rv151 V152 hp153 => ?_)
        obtain ⟨⟨y154, y154e, y1540⟩, y154v⟩ := hp153
        rw [y154e, y154v]
        show zG C cm142V ((40 - 3 * k.toNat - 1) - 1) ((1200 - 50 * k.toNat - 40) - (4 : Int).toNat) 76 [(7, .ref hp109q), (6, .ref (md (70 + k.toNat))), (5, .int (zI (k))), (4, .int (zI ((6 : Nat)))), (3, .ref (c 62)), (1, .long (x1)), (0, .ref (c 60))] [.int (zI (y154)), .int (zI (3)), .ref q112, .ref q112, .long (x1)]
        have y154M : y154 = τ7 (4 * k.toNat + 3) := by omega
        refine zr_iast X 77 cm142s (by omega) dX8_digest_76 rfl ?_
        have cm142sz := zag.one (e' := za Γ.2.1 0 ((4 : Int).toNat) (zf (zf (zf (zf (fun _ => 0) (0 : Int).toNat (τ7 (4 * k.toNat + 2))) (1 : Int).toNat (τ7 (4 * k.toNat + 1))) (2 : Int).toNat (τ7 (4 * k.toNat))) (3 : Int).toNat y154)) cm142s
        obtain ⟨cm155h, cm155f⟩ := (⟨cm142m.kept cm142sz (fun t h1 h2 => by omega), cm142sz⟩ : _ ∧ _)
        obtain ⟨cm155V, cm155e⟩ : ∃ zz9 : zV, zz9 = (zu cm142V q112 90 (za Γ.2.1 0 ((4 : Int).toNat) (zf (zf (zf (zf (fun _ => 0) (0 : Int).toNat (τ7 (4 * k.toNat + 2))) (1 : Int).toNat (τ7 (4 * k.toNat + 1))) (2 : Int).toNat (τ7 (4 * k.toNat))) (3 : Int).toNat y154))) := ⟨_, rfl⟩
        have cm155m : zMo Γ cm155V c md (τ7) κ E := by
          rw [cm155e]
          exact cm155h
        have cm155g : zag (fun x => x ≠ 90) cm142V cm155V := by
          rw [cm155e]
          exact cm155f
        have cm155s : cm155V q112 = some (90, za Γ.2.1 0 ((4 : Int).toNat) (zf (zf (zf (zf (fun _ => 0) (0 : Int).toNat (τ7 (4 * k.toNat + 2))) (1 : Int).toNat (τ7 (4 * k.toNat + 1))) (2 : Int).toNat (τ7 (4 * k.toNat))) (3 : Int).toNat y154)) := by
          rw [cm155e]
          exact zu_eq _ _ _ _
        refine zr_view (cm155e).symm ?_
        have lc156 := cm155g _ _ _ lc143 (by omega)
        have fx157 : zfm V cm155V := zag.tr fx144 (cm155g.mono (fun t ht => by omega))
        show zG C cm155V ((40 - 3 * k.toNat - 1) - 1) ((1200 - 50 * k.toNat - 40) - (4 : Int).toNat) 77 [(7, .ref hp109q), (6, .ref (md (70 + k.toNat))), (5, .int (zI (k))), (4, .int (zI ((6 : Nat)))), (3, .ref (c 62)), (1, .long (x1)), (0, .ref (c 60))] [.ref q112, .long (x1)]
        refine zr_callS (kc' := ((40 - 3 * k.toNat - 1) - 1)) (ks' := ((1200 - 50 * k.toNat - 40) - (4 : Int).toNat)) X 80 2 (m_X8_mixed l Γ (V := cm155V) (x := x1) cm155s (by omega)) gX8_digest_X8_mixed rfl (by decide +kernel) rfl (by decide) rfl (Nat.le_of_ble_eq_true rfl) dX8_digest_77 rfl (by omega) (by omega) (fun rv158 V159 hp160 => ?_)
        obtain ⟨hp160e, hp160v⟩ := hp160
        obtain ⟨hp160z, hp160q⟩ : ∃ zz9 : Int64, zz9 = zmr (x1) (zf (zf (zf (zf (fun _ => 0) (0 : Int).toNat (τ7 (4 * k.toNat + 2))) (1 : Int).toNat (τ7 (4 * k.toNat + 1))) (2 : Int).toNat (τ7 (4 * k.toNat))) (3 : Int).toNat y154) ((4 : Int).toNat) := ⟨_, rfl⟩
        rw [hp160e, hp160v, ← hp160q]
        have hp160k : hp160z = (zmi (zmi (zmi (zmi x1 (τ7 (4 * k.toNat + 2))) (τ7 (4 * k.toNat + 1))) (τ7 (4 * k.toNat))) (τ7 (4 * k.toNat + 3))) := by
          rw [hp160q, zmr_4, y154M]
        show zG C cm155V ((40 - 3 * k.toNat - 1) - 1) ((1200 - 50 * k.toNat - 40) - (4 : Int).toNat) 80 [(7, .ref hp109q), (6, .ref (md (70 + k.toNat))), (5, .int (zI (k))), (4, .int (zI ((6 : Nat)))), (3, .ref (c 62)), (1, .long (x1)), (0, .ref (c 60))] [.long (hp160z)]
        refine zr_lstore_n X 81 [(1, .long (hp160z)), (7, .ref hp109q), (6, .ref (md (70 + k.toNat))), (5, .int (zI (k))), (4, .int (zI ((6 : Nat)))), (3, .ref (c 62)), (0, .ref (c 60))] dX8_digest_80 rfl (by decide) rfl ?_
        refine zr_lload_n X 82 0 dX8_digest_81 rfl rfl ?_
        refine zr_aload X 84 1 dX8_digest_82 rfl rfl ?_
        refine zr_callS (kc' := ((40 - 3 * k.toNat - 1) - 1)) (ks' := ((1200 - 50 * k.toNat - 40) - (4 : Int).toNat)) X 87 2 (m_X8_mixed l Γ (V := cm155V) (x := hp160z) lc156 (by omega)) gX8_digest_X8_mixed rfl (by decide +kernel) rfl (by decide) rfl (Nat.le_of_ble_eq_true rfl) dX8_digest_84 rfl (by omega) (by omega) (fun rv161 V162 hp163 => ?_)
        obtain ⟨hp163e, hp163v⟩ := hp163
        obtain ⟨hp163z, hp163q⟩ : ∃ zz9 : Int64, zz9 = zmr (hp160z) (hp109f) ((τ7 (4 * k.toNat + 1) - τ7 (4 * k.toNat + 2)).toNat) := ⟨_, rfl⟩
        rw [hp163e, hp163v, ← hp163q]
        have hp163k : hp163z = zmr hp160z (zsg τ7 k) (zsz τ7 k).toNat := by
          rw [hp163q]
          exact zmr_eq (by rw [tx111e]) (fun k9 h9 => tx111s k9 (by omega))
        show zG C cm155V ((40 - 3 * k.toNat - 1) - 1) ((1200 - 50 * k.toNat - 40) - (4 : Int).toNat) 87 [(1, .long (hp160z)), (7, .ref hp109q), (6, .ref (md (70 + k.toNat))), (5, .int (zI (k))), (4, .int (zI ((6 : Nat)))), (3, .ref (c 62)), (0, .ref (c 60))] [.long (hp163z)]
        refine zr_iconst X 88 dX8_digest_87 rfl ?_
        refine zr_newai (kc' := (((40 - 3 * k.toNat - 1) - 1) - 1)) (ks' := (((1200 - 50 * k.toNat - 40) - (4 : Int).toNat) - (2 : Int).toNat)) X 90 91 w6 (by omega) dX8_digest_88 rfl (by omega) (by omega) (fun q164 hq165 => ?_)
        have nz166 := zag.rf.new (P := zal) (t := 91) (e := za Γ.2.1 0 ((2 : Int).toNat) (fun _ => 0)) hq165
        obtain ⟨cm167h, cm167f⟩ := (⟨cm155m.kept nz166 (fun _ _ _ => trivial), nz166⟩ : _ ∧ _)
        obtain ⟨cm167V, cm167e⟩ : ∃ zz9 : zV, zz9 = (zu cm155V q164 91 (za Γ.2.1 0 ((2 : Int).toNat) (fun _ => 0))) := ⟨_, rfl⟩
        have cm167m : zMo Γ cm167V c md (τ7) κ E := by
          rw [cm167e]
          exact cm167h
        have cm167g : zag zal cm155V cm167V := by
          rw [cm167e]
          exact cm167f
        have cm167s : cm167V q164 = some (91, za Γ.2.1 0 ((2 : Int).toNat) (fun _ => 0)) := by
          rw [cm167e]
          exact zu_eq _ _ _ _
        refine zr_view (cm167e).symm ?_
        have lc168 := cm167g _ _ _ lc156 trivial
        have lc169 := cm167g _ _ _ cm155s trivial
        have fx170 : zfm V cm167V := zag.tr fx157 (cm167g.mono (fun _ _ => trivial))
        show zG C cm167V (((40 - 3 * k.toNat - 1) - 1) - 1) (((1200 - 50 * k.toNat - 40) - (4 : Int).toNat) - (2 : Int).toNat) 90 [(1, .long (hp160z)), (7, .ref hp109q), (6, .ref (md (70 + k.toNat))), (5, .int (zI (k))), (4, .int (zI ((6 : Nat)))), (3, .ref (c 62)), (0, .ref (c 60))] [.ref q164, .long (hp163z)]
        refine zr_dup X 91 dX8_digest_90 rfl rfl ?_
        refine zr_iconst X 92 dX8_digest_91 rfl ?_
        refine zr_aload X 94 1 dX8_digest_92 rfl rfl ?_
        refine zr_aload X 96 1 dX8_digest_94 rfl rfl ?_
        refine zr_alen X 97 0 lc168 (by decide) dX8_digest_96 rfl ?_
        refine zr_callS (kc' := (((40 - 3 * k.toNat - 1) - 1) - 1)) (ks' := (((1200 - 50 * k.toNat - 40) - (4 : Int).toNat) - (2 : Int).toNat)) X 100 2 (m_X8_greatest l Γ (mn := ((τ7 (4 * k.toNat + 1) - τ7 (4 * k.toNat + 2)).toNat : Nat)) lc168 hp109c (by omega) (by omega)) gX8_digest_X8_greatest rfl (by decide +kernel) rfl (by decide) rfl (Nat.le_of_ble_eq_true rfl) dX8_digest_97 rfl (by omega) (by omega) (fun rv171 V172 hp173 => ?_)
        obtain ⟨⟨y174, y174e, y1740, y1741, y1742⟩, y174v⟩ := hp173
        rw [y174e, y174v]
        show zG C cm167V (((40 - 3 * k.toNat - 1) - 1) - 1) (((1200 - 50 * k.toNat - 40) - (4 : Int).toNat) - (2 : Int).toNat) 100 [(1, .long (hp160z)), (7, .ref hp109q), (6, .ref (md (70 + k.toNat))), (5, .int (zI (k))), (4, .int (zI ((6 : Nat)))), (3, .ref (c 62)), (0, .ref (c 60))] [.int (zI (y174)), .int (zI (0)), .ref q164, .ref q164, .long (hp163z)]
        have y174B : zsB τ7 k y174 := zsB.row y1742 (by omega) tx111n tx111n tx111s
        refine zr_iast X 101 cm167s (by omega) dX8_digest_100 rfl ?_
        have cm167sz := zag.one (e' := za Γ.2.1 0 ((2 : Int).toNat) (zf (fun _ => 0) (0 : Int).toNat y174)) cm167s
        obtain ⟨cm175h, cm175f⟩ := (⟨cm167m.kept cm167sz (fun t h1 h2 => by omega), cm167sz⟩ : _ ∧ _)
        obtain ⟨cm175V, cm175e⟩ : ∃ zz9 : zV, zz9 = (zu cm167V q164 91 (za Γ.2.1 0 ((2 : Int).toNat) (zf (fun _ => 0) (0 : Int).toNat y174))) := ⟨_, rfl⟩
        have cm175m : zMo Γ cm175V c md (τ7) κ E := by
          rw [cm175e]
          exact cm175h
        have cm175g : zag (fun x => x ≠ 91) cm167V cm175V := by
          rw [cm175e]
          exact cm175f
        have cm175s : cm175V q164 = some (91, za Γ.2.1 0 ((2 : Int).toNat) (zf (fun _ => 0) (0 : Int).toNat y174)) := by
          rw [cm175e]
          exact zu_eq _ _ _ _
        refine zr_view (cm175e).symm ?_
        have lc176 := cm175g _ _ _ lc168 (by omega)
        have lc177 := cm175g _ _ _ lc169 (by omega)
        have fx178 : zfm V cm175V := zag.tr fx170 (cm175g.mono (fun t ht => by omega))
        show zG C cm175V (((40 - 3 * k.toNat - 1) - 1) - 1) (((1200 - 50 * k.toNat - 40) - (4 : Int).toNat) - (2 : Int).toNat) 101 [(1, .long (hp160z)), (7, .ref hp109q), (6, .ref (md (70 + k.toNat))), (5, .int (zI (k))), (4, .int (zI ((6 : Nat)))), (3, .ref (c 62)), (0, .ref (c 60))] [.ref q164, .long (hp163z)]
        refine zr_dup X 102 dX8_digest_101 rfl rfl ?_
        refine zr_iconst X 103 dX8_digest_102 rfl ?_
        refine zr_aload X 105 1 dX8_digest_103 rfl rfl ?_
        refine zr_aload_n X 106 6 dX8_digest_105 rfl rfl ?_
        have c8179 : cm175V (c 60) = some (60, .inr (9, [.ref (md 61), .int (zI (κ 0)), .ref (c 62), .ref (md 63), .ref (md 64), .ref (c 65), .int (zI (τ7 26)), .int (zI (τ7 28)), .int (zI (τ7 29)), .ref (c 66), .int (zI (τ7 36))])) := cm175m.1
        refine zr_get X 109 9 4 c8179 rfl iX8 (by decide) w5 rfl rfl dX8_digest_106 rfl ?_
        refine zr_iconst X 110 dX8_digest_109 rfl ?_
        obtain ⟨c8180f, c8180, c8180c, c8180v⟩ := cm175m.ct.2.2.2.2
        refine zr_callS (kc' := (((40 - 3 * k.toNat - 1) - 1) - 1)) (ks' := (((1200 - 50 * k.toNat - 40) - (4 : Int).toNat) - (2 : Int).toNat)) X 113 3 (m_X8_nth l Γ (w := 0) lc176 hp109c (by omega) c8180 c8180c (by omega) (by omega)) gX8_digest_X8_nth rfl (by decide +kernel) rfl (by decide) rfl (Nat.le_of_ble_eq_true rfl) dX8_digest_110 rfl (by omega) (by omega) (fun rv181 V182 hp183 => ?_)
        obtain ⟨⟨y184, y184e, y1840, y1841, y1842, y1843⟩, y184v⟩ := hp183
        rw [y184e, y184v]
        show zG C cm175V (((40 - 3 * k.toNat - 1) - 1) - 1) (((1200 - 50 * k.toNat - 40) - (4 : Int).toNat) - (2 : Int).toNat) 113 [(1, .long (hp160z)), (7, .ref hp109q), (6, .ref (md (70 + k.toNat))), (5, .int (zI (k))), (4, .int (zI ((6 : Nat)))), (3, .ref (c 62)), (0, .ref (c 60))] [.int (zI (y184)), .int (zI (1)), .ref q164, .ref q164, .long (hp163z)]
        have y184P : zsP τ7 k 7 0 y184 := zsP.row y1843 tx111n (by rw [zsz7]; omega) tx111s (fun k9 h9 => by rw [zsz7] at h9; unfold zsg; rw [if_neg (by omega), if_neg (by omega)]; exact c8180v k9 (by omega) (by omega))
        refine zr_iast X 114 cm175s (by omega) dX8_digest_113 rfl ?_
        have cm175sz := zag.one (e' := za Γ.2.1 0 ((2 : Int).toNat) (zf (zf (fun _ => 0) (0 : Int).toNat y174) (1 : Int).toNat y184)) cm175s
        obtain ⟨cm185h, cm185f⟩ := (⟨cm175m.kept cm175sz (fun t h1 h2 => by omega), cm175sz⟩ : _ ∧ _)
        obtain ⟨cm185V, cm185e⟩ : ∃ zz9 : zV, zz9 = (zu cm175V q164 91 (za Γ.2.1 0 ((2 : Int).toNat) (zf (zf (fun _ => 0) (0 : Int).toNat y174) (1 : Int).toNat y184))) := ⟨_, rfl⟩
        have cm185m : zMo Γ cm185V c md (τ7) κ E := by
          rw [cm185e]
          exact cm185h
        have cm185g : zag (fun x => x ≠ 91) cm175V cm185V := by
          rw [cm185e]
          exact cm185f
        have cm185s : cm185V q164 = some (91, za Γ.2.1 0 ((2 : Int).toNat) (zf (zf (fun _ => 0) (0 : Int).toNat y174) (1 : Int).toNat y184)) := by
          rw [cm185e]
          exact zu_eq _ _ _ _
        refine zr_view (cm185e).symm ?_
        have lc186 := cm185g _ _ _ lc176 (by omega)
        have lc187 := cm185g _ _ _ lc177 (by omega)
        have fx188 : zfm V cm185V := zag.tr fx178 (cm185g.mono (fun t ht => by omega))
        show zG C cm185V (((40 - 3 * k.toNat - 1) - 1) - 1) (((1200 - 50 * k.toNat - 40) - (4 : Int).toNat) - (2 : Int).toNat) 114 [(1, .long (hp160z)), (7, .ref hp109q), (6, .ref (md (70 + k.toNat))), (5, .int (zI (k))), (4, .int (zI ((6 : Nat)))), (3, .ref (c 62)), (0, .ref (c 60))] [.ref q164, .long (hp163z)]
        refine zr_callS (kc' := (((40 - 3 * k.toNat - 1) - 1) - 1)) (ks' := (((1200 - 50 * k.toNat - 40) - (4 : Int).toNat) - (2 : Int).toNat)) X 117 2 (m_X8_mixed l Γ (V := cm185V) (x := hp163z) cm185s (by omega)) gX8_digest_X8_mixed rfl (by decide +kernel) rfl (by decide) rfl (Nat.le_of_ble_eq_true rfl) dX8_digest_114 rfl (by omega) (by omega) (fun rv189 V190 hp191 => ?_)
        obtain ⟨hp191e, hp191v⟩ := hp191
        obtain ⟨hp191z, hp191q⟩ : ∃ zz9 : Int64, zz9 = zmr (hp163z) (zf (zf (fun _ => 0) (0 : Int).toNat y174) (1 : Int).toNat y184) ((2 : Int).toNat) := ⟨_, rfl⟩
        rw [hp191e, hp191v, ← hp191q]
        have hp191k : hp191z = (zmi (zmi hp163z (y174)) (y184)) := by
          rw [hp191q, zmr_2]
        show zG C cm185V (((40 - 3 * k.toNat - 1) - 1) - 1) (((1200 - 50 * k.toNat - 40) - (4 : Int).toNat) - (2 : Int).toNat) 117 [(1, .long (hp160z)), (7, .ref hp109q), (6, .ref (md (70 + k.toNat))), (5, .int (zI (k))), (4, .int (zI ((6 : Nat)))), (3, .ref (c 62)), (0, .ref (c 60))] [.long (hp191z)]
        refine zr_lstore_n X 118 [(1, .long (hp191z)), (7, .ref hp109q), (6, .ref (md (70 + k.toNat))), (5, .int (zI (k))), (4, .int (zI ((6 : Nat)))), (3, .ref (c 62)), (0, .ref (c 60))] dX8_digest_117 rfl (by decide) rfl ?_
        refine zr_iinc X 121 3 [(5, .int (zI (k + 1))), (1, .long (hp191z)), (7, .ref hp109q), (6, .ref (md (70 + k.toNat))), (4, .int (zI ((6 : Nat)))), (3, .ref (c 62)), (0, .ref (c 60))] dX8_digest_118 rfl rfl (by decide) rfl ?_
        refine zr_goto X 23 dX8_digest_121 rfl ?_
        refine zr_sub [0, 4, 5, 1, 6] [(5, .int (zI (k + 1))), (4, .int (zI ((6 : Nat)))), (3, .ref (c 62)), (1, .long (hp191z)), (0, .ref (c 60))] rfl ?_
        refine zr_room (40 - 3 * (k + 1).toNat) (1200 - 50 * (k + 1).toNat) (by omega) (by omega) ?_
        exact ih _ (by omega) cm185V hp191z (k + 1) ⟨cm185m, fx188, by omega, by omega, zdW_up hI5 hI3 y174B y184P (by rw [hp191k, hp163k, hp160k]; first | done | rfl)⟩ rfl
    exact loop _ V3 7702 0 ⟨hp4m, fx6, by omega, by omega, zdW_0⟩ rfl
