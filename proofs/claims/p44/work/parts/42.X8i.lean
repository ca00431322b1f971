/-! the model: soundness, checksum -/
set_option maxRecDepth 100000 in
set_option maxHeartbeats 4000000 in
theorem m_X8_isRight (l : Launch) (Γ : zGam) {V : zV} {c md : Nat → Nat} {τ κ : Nat → Int} {E : Int} (hM : zMo Γ V c md τ κ E) : zM l Γ 6 yX8_isRight wsX8_isRight 12 480 V [.ref (c 60)] (fun rv V' => (∃ y : Int, rv = some (.int (zI y)) ∧ (y = 0 ∨ y = 1)) ∧ zMo Γ V' c md τ κ E ∧ zag zal V V') := by
  have w0 : Cond.fieldLink RX8 132 "SashwordsModel" "out" "I" ∈ wsX8_isRight := by decide +kernel
  have iX8 : ∀ w ∈ u_ws RX8 TX8 11, w ∈ wsX8_isRight := by decide +kernel
  have w2 : Cond.fieldLink RX8 129 "SashwordsModel" "in" "I" ∈ wsX8_isRight := by decide +kernel
  have w3 : Cond.fieldLink RX8 27 "SashwordsModel" "size" "I" ∈ wsX8_isRight := by decide +kernel
  have w4 : Cond.fieldLink RX8 18 "SashwordsModel" "built" "[I" ∈ wsX8_isRight := by decide +kernel
  have w5 : Cond.fieldLink RX8 14 "SashwordsModel" "windows" "[[I" ∈ wsX8_isRight := by decide +kernel
  have w6 : Cond.fieldLink RX8 45 "SashwordsModel" "end" "I" ∈ wsX8_isRight := by decide +kernel
  have w7 : Cond.fieldLink RX8 21 "SashwordsModel" "kept" "[I" ∈ wsX8_isRight := by decide +kernel
  refine zM_of (cc := cX8_isRight) (nL := 6) (ret := (some .boolean)) (own := RX8) (by decide +kernel) rfl rfl (Nat.le_of_ble_eq_true rfl) (fun C X hi0 => ?_)
  have nn1 : (0 ≤ κ 0 ∧ κ 0 ≤ κ 1 ∧ κ 0 ≤ E ∧ κ 1 ≤ 7000) ∧ (0 ≤ τ 24 ∧ τ 24 ≤ 80 ∧ 0 ≤ τ 25 ∧ τ 25 ≤ 80) ∧ 1 ≤ τ 26 ∧ τ 26 ≤ 8 ∧ 0 ≤ τ 29 ∧ τ 29 ≤ τ 28 ∧ τ 28 ≤ 160 ∧ τ 27 ≤ τ 26 ∧ τ 27 = τ 28 - τ 29 := hM.n
  show zG C V 12 480 0 [(0, .ref (c 60))] []
  refine zr_aload_n X 1 0 dX8_isRight_0 rfl rfl ?_
  have c82 : V (c 60) = some (60, .inr (9, [.ref (md 61), .int (zI (κ 0)), .ref (c 62), .ref (md 63), .ref (md 64), .ref (c 65), .int (zI (τ 26)), .int (zI (τ 28)), .int (zI (τ 29)), .ref (c 66), .int (zI (τ 36))])) := hM.1
  refine zr_get X 4 9 8 c82 rfl iX8 (by decide) w0 rfl rfl dX8_isRight_1 rfl ?_
  refine zr_aload_n X 5 0 dX8_isRight_4 rfl rfl ?_
  refine zr_get X 8 9 7 c82 rfl iX8 (by decide) w2 rfl rfl dX8_isRight_5 rfl ?_
  refine zr_icmp_gt X 51 11 dX8_isRight_8 rfl rfl (by omega) (by omega) (fun bq3 => ?_) (fun bq3 => ?_)
  · exfalso
    omega
  · refine zr_aload_n X 12 0 dX8_isRight_11 rfl rfl ?_
    refine zr_get X 15 9 7 c82 rfl iX8 (by decide) w2 rfl rfl dX8_isRight_12 rfl ?_
    refine zr_aload_n X 16 0 dX8_isRight_15 rfl rfl ?_
    refine zr_get X 19 9 8 c82 rfl iX8 (by decide) w0 rfl rfl dX8_isRight_16 rfl ?_
    refine zr_isub X 20 dX8_isRight_19 rfl ?_
    refine zr_aload_n X 21 0 dX8_isRight_20 rfl rfl ?_
    refine zr_get X 24 9 6 c82 rfl iX8 (by decide) w3 rfl rfl dX8_isRight_21 rfl ?_
    refine zr_icmp_gt X 51 27 dX8_isRight_24 rfl rfl (by omega) (by omega) (fun bq4 => ?_) (fun bq4 => ?_)
    · exfalso
      omega
    · refine zr_aload_n X 28 0 dX8_isRight_27 rfl rfl ?_
      refine zr_get X 31 9 7 c82 rfl iX8 (by decide) w2 rfl rfl dX8_isRight_28 rfl ?_
      refine zr_sipush X 34 (160) dX8_isRight_31 rfl (by decide) ?_
      refine zr_icmp_gt X 51 37 dX8_isRight_34 rfl rfl (by omega) (by omega) (fun bq5 => ?_) (fun bq5 => ?_)
      · exfalso
        omega
      · refine zr_aload_n X 38 0 dX8_isRight_37 rfl rfl ?_
        refine zr_get X 41 9 3 c82 rfl iX8 (by decide) w4 rfl rfl dX8_isRight_38 rfl ?_
        obtain ⟨c86f, c86, c86c, c86v⟩ := hM.ct.2.2.2.1
        refine zr_alen X 42 0 c86 (by decide) dX8_isRight_41 rfl ?_
        refine zr_bipush X 44 (80) dX8_isRight_42 rfl (by decide) ?_
        refine zr_icmp_gt X 51 47 dX8_isRight_44 rfl rfl (by omega) (by omega) (fun bq7 => ?_) (fun bq7 => ?_)
        · exfalso
          omega
        · refine zr_iconst X 48 dX8_isRight_47 rfl ?_
          refine zr_goto X 52 dX8_isRight_48 rfl ?_
          refine zr_istore_n X 53 [(1, .int (zI (1))), (0, .ref (c 60))] dX8_isRight_52 rfl (by decide) rfl ?_
          refine zr_aload_n X 54 1 dX8_isRight_53 rfl rfl ?_
          refine zr_get X 57 9 2 c82 rfl iX8 (by decide) w5 rfl rfl dX8_isRight_54 rfl ?_
          refine zr_astore_n X 58 [(2, .ref (c 62)), (1, .int (zI (1))), (0, .ref (c 60))] dX8_isRight_57 rfl (by decide) rfl ?_
          refine zr_aload_n X 59 0 dX8_isRight_58 rfl rfl ?_
          have c88 : V (c 62) = some (62, zq Γ.2.1 4 6 (fun i => some (md (70 + i)))) := hM.2.2.1
          refine zr_alenq X 60 4 c88 (by decide) dX8_isRight_59 rfl ?_
          refine zr_istore_n X 61 [(3, .int (zI ((6 : Nat)))), (2, .ref (c 62)), (1, .int (zI (1))), (0, .ref (c 60))] dX8_isRight_60 rfl (by decide) rfl ?_
          refine zr_iconst X 62 dX8_isRight_61 rfl ?_
          refine zr_istore X 64 [(4, .int (zI (0))), (3, .int (zI ((6 : Nat)))), (2, .ref (c 62)), (1, .int (zI (1))), (0, .ref (c 60))] dX8_isRight_62 rfl (by decide) rfl ?_
          refine zr_room (12 - 2 * (0 : Int).toNat) (480 - 80 * (0 : Int).toNat) (by omega) (by omega) ?_
          have loop : ∀ (N : Nat) (V1 : zV) (b1 : Int) (k : Int), zMo Γ V1 c md τ κ E ∧ zfm V V1 ∧ (b1 = 0 ∨ b1 = 1) ∧ 0 ≤ k ∧ k ≤ 6 ∧ zag zal V V1 → (6 - k).toNat = N → zG C V1 (12 - 2 * k.toNat) (480 - 80 * k.toNat) 64 [(4, .int (zI (k))), (3, .int (zI ((6 : Nat)))), (2, .ref (c 62)), (1, .int (zI (b1))), (0, .ref (c 60))] [] := by
            intro N
            induction N using Nat.strongRecOn with
            | _ N ih =>
            intro V1 b1 k hI hN
            obtain ⟨hI1, hI2, hI3, hI4, hI5, hI6⟩ := id hI
            refine zr_iload X 66 0 dX8_isRight_64 rfl rfl ?_
            refine zr_iload_n X 67 1 dX8_isRight_66 rfl rfl ?_
            refine zr_icmp_ge X 200 70 dX8_isRight_67 rfl rfl (by omega) (by omega) (fun bq9 => ?_) (fun bq9 => ?_)
            · refine zr_iload_n X 201 3 dX8_isRight_200 rfl rfl ?_
              exact zr_zret X rfl (znz (by omega)) ⟨⟨b1, rfl, by omega⟩, hI1, hI6⟩ dX8_isRight_201
            · refine zr_aload_n X 71 2 dX8_isRight_70 rfl rfl ?_
              refine zr_iload X 73 0 dX8_isRight_71 rfl rfl ?_
              have c810 : V1 (c 62) = some (62, zq Γ.2.1 4 6 (fun i => some (md (70 + i)))) := hI1.2.2.1
              refine zr_aaldI X 74 (.ref (md (70 + k.toNat))) c810 (by omega) rfl dX8_isRight_73 rfl ?_
              refine zr_astore X 76 [(5, .ref (md (70 + k.toNat))), (4, .int (zI (k))), (3, .int (zI ((6 : Nat)))), (2, .ref (c 62)), (1, .int (zI (b1))), (0, .ref (c 60))] dX8_isRight_74 rfl (by decide) rfl ?_
              refine zr_iload_n X 77 4 dX8_isRight_76 rfl rfl ?_
              refine zr_aload X 79 0 dX8_isRight_77 rfl rfl ?_
              refine zr_iconst X 80 dX8_isRight_79 rfl ?_
              have hw12 := hI1.w (i := k.toNat) (by omega)
              have hw12r := hw12.rg
              have hw12d := hw12.mk
              refine zr_iald X 81 hw12.1 (by omega) dX8_isRight_80 rfl ?_
              show zG C V1 (12 - 2 * k.toNat) (480 - 80 * k.toNat) 81 [(5, .ref (md (70 + k.toNat))), (4, .int (zI (k))), (3, .int (zI ((6 : Nat)))), (2, .ref (c 62)), (1, .int (zI (b1))), (0, .ref (c 60))] [.int (zI (κ (20 + k.toNat))), .int (zI (b1))]
              refine zr_aload X 83 0 dX8_isRight_81 rfl rfl ?_
              refine zr_iconst X 84 dX8_isRight_83 rfl ?_
              refine zr_iald X 85 hw12.1 (by omega) dX8_isRight_84 rfl ?_
              show zG C V1 (12 - 2 * k.toNat) (480 - 80 * k.toNat) 85 [(5, .ref (md (70 + k.toNat))), (4, .int (zI (k))), (3, .int (zI ((6 : Nat)))), (2, .ref (c 62)), (1, .int (zI (b1))), (0, .ref (c 60))] [.int (zI (τ (4 * k.toNat + 2))), .int (zI (κ (20 + k.toNat))), .int (zI (b1))]
              refine zr_icmp_gt X 137 88 dX8_isRight_85 rfl rfl (by omega) (by omega) (fun bq13 => ?_) (fun bq13 => ?_)
              · exfalso
                omega
              · refine zr_aload X 90 0 dX8_isRight_88 rfl rfl ?_
                refine zr_iconst X 91 dX8_isRight_90 rfl ?_
                refine zr_iald X 92 hw12.1 (by omega) dX8_isRight_91 rfl ?_
                show zG C V1 (12 - 2 * k.toNat) (480 - 80 * k.toNat) 92 [(5, .ref (md (70 + k.toNat))), (4, .int (zI (k))), (3, .int (zI ((6 : Nat)))), (2, .ref (c 62)), (1, .int (zI (b1))), (0, .ref (c 60))] [.int (zI (τ (4 * k.toNat + 2))), .int (zI (b1))]
                refine zr_if_lt X 137 95 dX8_isRight_92 rfl rfl (by omega) (fun bq14 => ?_) (fun bq14 => ?_)
                · exfalso
                  omega
                · refine zr_aload X 97 0 dX8_isRight_95 rfl rfl ?_
                  refine zr_iconst X 98 dX8_isRight_97 rfl ?_
                  refine zr_iald X 99 hw12.1 (by omega) dX8_isRight_98 rfl ?_
                  show zG C V1 (12 - 2 * k.toNat) (480 - 80 * k.toNat) 99 [(5, .ref (md (70 + k.toNat))), (4, .int (zI (k))), (3, .int (zI ((6 : Nat)))), (2, .ref (c 62)), (1, .int (zI (b1))), (0, .ref (c 60))] [.int (zI (τ (4 * k.toNat + 2))), .int (zI (b1))]
                  refine zr_aload X 101 0 dX8_isRight_99 rfl rfl ?_
                  refine zr_iconst X 102 dX8_isRight_101 rfl ?_
                  refine zr_iald X 103 hw12.1 (by omega) dX8_isRight_102 rfl ?_
                  show zG C V1 (12 - 2 * k.toNat) (480 - 80 * k.toNat) 103 [(5, .ref (md (70 + k.toNat))), (4, .int (zI (k))), (3, .int (zI ((6 : Nat)))), (2, .ref (c 62)), (1, .int (zI (b1))), (0, .ref (c 60))] [.int (zI (τ (4 * k.toNat + 1))), .int (zI (τ (4 * k.toNat + 2))), .int (zI (b1))]
                  refine zr_icmp_gt X 137 106 dX8_isRight_103 rfl rfl (by omega) (by omega) (fun bq15 => ?_) (fun bq15 => ?_)
                  · exfalso
                    omega
                  · refine zr_aload X 108 0 dX8_isRight_106 rfl rfl ?_
                    refine zr_iconst X 109 dX8_isRight_108 rfl ?_
                    refine zr_iald X 110 hw12.1 (by omega) dX8_isRight_109 rfl ?_
                    show zG C V1 (12 - 2 * k.toNat) (480 - 80 * k.toNat) 110 [(5, .ref (md (70 + k.toNat))), (4, .int (zI (k))), (3, .int (zI ((6 : Nat)))), (2, .ref (c 62)), (1, .int (zI (b1))), (0, .ref (c 60))] [.int (zI (τ (4 * k.toNat + 1))), .int (zI (b1))]
                    refine zr_aload X 112 0 dX8_isRight_110 rfl rfl ?_
                    refine zr_iconst X 113 dX8_isRight_112 rfl ?_
                    refine zr_iald X 114 hw12.1 (by omega) dX8_isRight_113 rfl ?_
                    show zG C V1 (12 - 2 * k.toNat) (480 - 80 * k.toNat) 114 [(5, .ref (md (70 + k.toNat))), (4, .int (zI (k))), (3, .int (zI ((6 : Nat)))), (2, .ref (c 62)), (1, .int (zI (b1))), (0, .ref (c 60))] [.int (zI (τ (4 * k.toNat))), .int (zI (τ (4 * k.toNat + 1))), .int (zI (b1))]
                    refine zr_icmp_gt X 137 117 dX8_isRight_114 rfl rfl (by omega) (by omega) (fun bq16 => ?_) (fun bq16 => ?_)
                    · exfalso
                      omega
                    · refine zr_aload X 119 0 dX8_isRight_117 rfl rfl ?_
                      refine zr_iconst X 120 dX8_isRight_119 rfl ?_
                      refine zr_iald X 121 hw12.1 (by omega) dX8_isRight_120 rfl ?_
                      show zG C V1 (12 - 2 * k.toNat) (480 - 80 * k.toNat) 121 [(5, .ref (md (70 + k.toNat))), (4, .int (zI (k))), (3, .int (zI ((6 : Nat)))), (2, .ref (c 62)), (1, .int (zI (b1))), (0, .ref (c 60))] [.int (zI (κ (10 + k.toNat))), .int (zI (b1))]
                      refine zr_aload X 123 0 dX8_isRight_121 rfl rfl ?_
                      refine zr_iconst X 124 dX8_isRight_123 rfl ?_
                      refine zr_iald X 125 hw12.1 (by omega) dX8_isRight_124 rfl ?_
                      show zG C V1 (12 - 2 * k.toNat) (480 - 80 * k.toNat) 125 [(5, .ref (md (70 + k.toNat))), (4, .int (zI (k))), (3, .int (zI ((6 : Nat)))), (2, .ref (c 62)), (1, .int (zI (b1))), (0, .ref (c 60))] [.int (zI (τ (4 * k.toNat))), .int (zI (κ (10 + k.toNat))), .int (zI (b1))]
                      refine zr_iadd X 126 dX8_isRight_125 rfl ?_
                      refine zr_aload_n X 127 5 dX8_isRight_126 rfl rfl ?_
                      have c817 : V1 (c 60) = some (60, .inr (9, [.ref (md 61), .int (zI (κ 0)), .ref (c 62), .ref (md 63), .ref (md 64), .ref (c 65), .int (zI (τ 26)), .int (zI (τ 28)), .int (zI (τ 29)), .ref (c 66), .int (zI (τ 36))])) := hI1.1
                      refine zr_get X 130 9 1 c817 rfl iX8 (by decide) w6 rfl rfl dX8_isRight_127 rfl ?_
                      refine zr_icmp_gt X 137 133 dX8_isRight_130 rfl rfl (by omega) (by omega) (fun bq18 => ?_) (fun bq18 => ?_)
                      · exfalso
                        omega
                      · refine zr_iconst X 134 dX8_isRight_133 rfl ?_
                        refine zr_goto X 138 dX8_isRight_134 rfl ?_
                        obtain ⟨iz19, iz19e, iz19a⟩ := ziand (x := b1) (y := 1) (by omega) (by omega)
                        refine zr_iand X 139 dX8_isRight_138 rfl ?_
                        rw [iz19e]
                        show zG C V1 (12 - 2 * k.toNat) (480 - 80 * k.toNat) 139 [(5, .ref (md (70 + k.toNat))), (4, .int (zI (k))), (3, .int (zI ((6 : Nat)))), (2, .ref (c 62)), (1, .int (zI (b1))), (0, .ref (c 60))] [.int (zI (iz19))]
                        refine zr_istore_n X 140 [(1, .int (zI (iz19))), (5, .ref (md (70 + k.toNat))), (4, .int (zI (k))), (3, .int (zI ((6 : Nat)))), (2, .ref (c 62)), (0, .ref (c 60))] dX8_isRight_139 rfl (by decide) rfl ?_
                        refine zr_iload_n X 141 0 dX8_isRight_140 rfl rfl ?_
                        refine zr_aload_n X 142 5 dX8_isRight_141 rfl rfl ?_
                        refine zr_aload X 144 1 dX8_isRight_142 rfl rfl ?_
                        refine zr_callVe (kc' := (12 - 2 * k.toNat - 1)) (ks' := (480 - 80 * k.toNat - 40)) X 147 1 (m_X8_text l Γ (tg := 76) (i := k) hI1 (by omega)) gX8_isRight_X8_text rfl (by decide +kernel) rfl (by decide) ⟨_, _, hI1.1⟩ rfl rfl (Nat.le_of_ble_eq_true rfl) dX8_isRight_144 rfl (by omega) (by omega) (fun rv20 V21 hp22 => ?_)
                        obtain ⟨hp22q, hp22f, hp22e, hp22h, hp22c, hp22g, hp22z⟩ := hp22
                        rw [hp22e]
                        have hp22m := hI1.kept hp22g (fun _ _ _ => trivial)
                        have fx23 : zfm V V21 := zag.tr hI2 (hp22g.mono (fun _ _ => trivial))
                        show zG C V21 (12 - 2 * k.toNat - 1) (480 - 80 * k.toNat - 40) 147 [(1, .int (zI (iz19))), (5, .ref (md (70 + k.toNat))), (4, .int (zI (k))), (3, .int (zI ((6 : Nat)))), (2, .ref (c 62)), (0, .ref (c 60))] [.ref hp22q, .int (zI (iz19))]
                        refine zr_aload_n X 148 5 dX8_isRight_147 rfl rfl ?_
                        have c824 : V21 (c 60) = some (60, .inr (9, [.ref (md 61), .int (zI (κ 0)), .ref (c 62), .ref (md 63), .ref (md 64), .ref (c 65), .int (zI (τ 26)), .int (zI (τ 28)), .int (zI (τ 29)), .ref (c 66), .int (zI (τ 36))])) := hp22m.1
                        refine zr_get X 151 9 4 c824 rfl iX8 (by decide) w7 rfl rfl dX8_isRight_148 rfl ?_
                        refine zr_iconst X 152 dX8_isRight_151 rfl ?_
                        obtain ⟨c825f, c825, c825c, c825v⟩ := hp22m.ct.2.2.2.2
                        refine zr_callS (kc' := (12 - 2 * k.toNat - 1)) (ks' := (480 - 80 * k.toNat - 40)) X 155 3 (m_X8_nth l Γ (w := 0) hp22h hp22c (by omega) c825 c825c (by omega) (by omega)) gX8_isRight_X8_nth rfl (by decide +kernel) rfl (by decide) rfl (Nat.le_of_ble_eq_true rfl) dX8_isRight_152 rfl (by omega) (by omega) (fun rv26 V27 hp28 => ?_)
                        obtain ⟨⟨y29, y29e, y290, y291, y292, y293⟩, y29v⟩ := hp28
                        rw [y29e, y29v]
                        show zG C V21 (12 - 2 * k.toNat - 1) (480 - 80 * k.toNat - 40) 155 [(1, .int (zI (iz19))), (5, .ref (md (70 + k.toNat))), (4, .int (zI (k))), (3, .int (zI ((6 : Nat)))), (2, .ref (c 62)), (0, .ref (c 60))] [.int (zI (y29)), .int (zI (iz19))]
                        refine zr_if_ge X 162 158 dX8_isRight_155 rfl rfl (by omega) (fun bq30 => ?_) (fun bq30 => ?_)
                        · refine zr_iconst X 163 dX8_isRight_162 rfl ?_
                          refine zr_aload_n X 164 5 dX8_isRight_163 rfl rfl ?_
                          refine zr_aload X 166 1 dX8_isRight_164 rfl rfl ?_
                          have hw32 := hp22m.w (i := k.toNat) (by omega)
                          have hw32r := hw32.rg
                          have hw32d := hw32.mk
                          refine zr_callVe (kc' := ((12 - 2 * k.toNat - 1) - 1)) (ks' := ((480 - 80 * k.toNat - 40) - 40)) X 169 1 (m_X8_text l Γ (tg := 77) (i := k) hp22m (by omega)) gX8_isRight_X8_text rfl (by decide +kernel) rfl (by decide) ⟨_, _, hp22m.1⟩ rfl rfl (Nat.le_of_ble_eq_true rfl) dX8_isRight_166 rfl (by omega) (by omega) (fun rv33 V34 hp35 => ?_)
                          obtain ⟨hp35q, hp35f, hp35e, hp35h, hp35c, hp35g, hp35z⟩ := hp35
                          rw [hp35e]
                          have hp35m := hp22m.kept hp35g (fun _ _ _ => trivial)
                          have lc36 := hp35g _ _ _ hp22h trivial
                          have fx37 : zfm V V34 := zag.tr fx23 (hp35g.mono (fun _ _ => trivial))
                          show zG C V34 ((12 - 2 * k.toNat - 1) - 1) ((480 - 80 * k.toNat - 40) - 40) 169 [(1, .int (zI (iz19))), (5, .ref (md (70 + k.toNat))), (4, .int (zI (k))), (3, .int (zI ((6 : Nat)))), (2, .ref (c 62)), (0, .ref (c 60))] [.ref hp35q, .int (zI (0)), .int (zI (iz19))]
                          refine zr_aload_n X 170 5 dX8_isRight_169 rfl rfl ?_
                          have c838 : V34 (c 60) = some (60, .inr (9, [.ref (md 61), .int (zI (κ 0)), .ref (c 62), .ref (md 63), .ref (md 64), .ref (c 65), .int (zI (τ 26)), .int (zI (τ 28)), .int (zI (τ 29)), .ref (c 66), .int (zI (τ 36))])) := hp35m.1
                          refine zr_get X 173 9 4 c838 rfl iX8 (by decide) w7 rfl rfl dX8_isRight_170 rfl ?_
                          obtain ⟨c839f, c839, c839c, c839v⟩ := hp35m.ct.2.2.2.2
                          refine zr_callS (kc' := ((12 - 2 * k.toNat - 1) - 1)) (ks' := ((480 - 80 * k.toNat - 40) - 40)) X 176 2 (m_X8_lastOf l Γ hp35h hp35c (by omega) c839 c839c (by omega)) gX8_isRight_X8_lastOf rfl (by decide +kernel) rfl (by decide) rfl (Nat.le_of_ble_eq_true rfl) dX8_isRight_173 rfl (by omega) (by omega) (fun rv40 V41 hp42 => ?_)
                          obtain ⟨⟨y43, y43e, y430, y431, y432⟩, y43v⟩ := hp42
                          rw [y43e, y43v]
                          show zG C V34 ((12 - 2 * k.toNat - 1) - 1) ((480 - 80 * k.toNat - 40) - 40) 176 [(1, .int (zI (iz19))), (5, .ref (md (70 + k.toNat))), (4, .int (zI (k))), (3, .int (zI ((6 : Nat)))), (2, .ref (c 62)), (0, .ref (c 60))] [.int (zI (y43)), .int (zI (0)), .int (zI (iz19))]
                          refine zr_if_ge X 183 179 dX8_isRight_176 rfl rfl (by omega) (fun bq44 => ?_) (fun bq44 => ?_)
                          · refine zr_iconst X 184 dX8_isRight_183 rfl ?_
                            refine zr_icmp_ne X 191 187 dX8_isRight_184 rfl rfl (by omega) (by omega) (fun bq45 => absurd bq45 (by omega)) (fun bq45 => ?_)
                            refine zr_iconst X 188 dX8_isRight_187 rfl ?_
                            refine zr_goto X 192 dX8_isRight_188 rfl ?_
                            obtain ⟨iz46, iz46e, iz46a⟩ := ziand (x := iz19) (y := 1) (by omega) (by omega)
                            refine zr_iand X 193 dX8_isRight_192 rfl ?_
                            rw [iz46e]
                            show zG C V34 ((12 - 2 * k.toNat - 1) - 1) ((480 - 80 * k.toNat - 40) - 40) 193 [(1, .int (zI (iz19))), (5, .ref (md (70 + k.toNat))), (4, .int (zI (k))), (3, .int (zI ((6 : Nat)))), (2, .ref (c 62)), (0, .ref (c 60))] [.int (zI (iz46))]
                            refine zr_istore_n X 194 [(1, .int (zI (iz46))), (5, .ref (md (70 + k.toNat))), (4, .int (zI (k))), (3, .int (zI ((6 : Nat)))), (2, .ref (c 62)), (0, .ref (c 60))] dX8_isRight_193 rfl (by decide) rfl ?_
                            refine zr_iinc X 197 2 [(4, .int (zI (k + 1))), (1, .int (zI (iz46))), (5, .ref (md (70 + k.toNat))), (3, .int (zI ((6 : Nat)))), (2, .ref (c 62)), (0, .ref (c 60))] dX8_isRight_194 rfl rfl (by decide) rfl ?_
                            refine zr_goto X 64 dX8_isRight_197 rfl ?_
                            refine zr_sub [0, 3, 4, 1, 5] [(4, .int (zI (k + 1))), (3, .int (zI ((6 : Nat)))), (2, .ref (c 62)), (1, .int (zI (iz46))), (0, .ref (c 60))] rfl ?_
                            refine zr_room (12 - 2 * (k + 1).toNat) (480 - 80 * (k + 1).toNat) (by omega) (by omega) ?_
                            exact ih _ (by omega) V34 iz46 (k + 1) ⟨hp35m, fx37, by omega, by omega, by omega, (zag.tr (zag.tr hI6 hp22g) hp35g)⟩ rfl
                          · refine zr_iconst X 180 dX8_isRight_179 rfl ?_
                            refine zr_goto X 184 dX8_isRight_180 rfl ?_
                            refine zr_icmp_ne X 191 187 dX8_isRight_184 rfl rfl (by omega) (by omega) (fun bq47 => ?_) (fun bq47 => absurd bq47 (by omega))
                            refine zr_iconst X 192 dX8_isRight_191 rfl ?_
                            obtain ⟨iz48, iz48e, iz48a⟩ := ziand (x := iz19) (y := 0) (by omega) (by omega)
                            refine zr_iand X 193 dX8_isRight_192 rfl ?_
                            rw [iz48e]
                            show zG C V34 ((12 - 2 * k.toNat - 1) - 1) ((480 - 80 * k.toNat - 40) - 40) 193 [(1, .int (zI (iz19))), (5, .ref (md (70 + k.toNat))), (4, .int (zI (k))), (3, .int (zI ((6 : Nat)))), (2, .ref (c 62)), (0, .ref (c 60))] [.int (zI (iz48))]
                            refine zr_istore_n X 194 [(1, .int (zI (iz48))), (5, .ref (md (70 + k.toNat))), (4, .int (zI (k))), (3, .int (zI ((6 : Nat)))), (2, .ref (c 62)), (0, .ref (c 60))] dX8_isRight_193 rfl (by decide) rfl ?_
                            refine zr_iinc X 197 2 [(4, .int (zI (k + 1))), (1, .int (zI (iz48))), (5, .ref (md (70 + k.toNat))), (3, .int (zI ((6 : Nat)))), (2, .ref (c 62)), (0, .ref (c 60))] dX8_isRight_194 rfl rfl (by decide) rfl ?_
                            refine zr_goto X 64 dX8_isRight_197 rfl ?_
                            refine zr_sub [0, 3, 4, 1, 5] [(4, .int (zI (k + 1))), (3, .int (zI ((6 : Nat)))), (2, .ref (c 62)), (1, .int (zI (iz48))), (0, .ref (c 60))] rfl ?_
                            refine zr_room (12 - 2 * (k + 1).toNat) (480 - 80 * (k + 1).toNat) (by omega) (by omega) ?_
                            exact ih _ (by omega) V34 iz48 (k + 1) ⟨hp35m, fx37, by omega, by omega, by omega, (zag.tr (zag.tr hI6 hp22g) hp35g)⟩ rfl
                        · refine zr_iconst X 159 dX8_isRight_158 rfl ?_
                          refine zr_goto X 163 dX8_isRight_159 rfl ?_
                          refine zr_aload_n X 164 5 dX8_isRight_163 rfl rfl ?_
                          refine zr_aload X 166 1 dX8_isRight_164 rfl rfl ?_
                          have hw50 := hp22m.w (i := k.toNat) (by omega)
                          have hw50r := hw50.rg
                          have hw50d := hw50.mk
                          refine zr_callVe (kc' := ((12 - 2 * k.toNat - 1) - 1)) (ks' := ((480 - 80 * k.toNat - 40) - 40)) X 169 1 (m_X8_text l Γ (tg := 77) (i := k) hp22m (by omega)) gX8_isRight_X8_text rfl (by decide +kernel) rfl (by decide) ⟨_, _, hp22m.1⟩ rfl rfl (Nat.le_of_ble_eq_true rfl) dX8_isRight_166 rfl (by omega) (by omega) (fun rv51 V52 hp53 => ?_)
                          obtain ⟨hp53q, hp53f, hp53e, hp53h, hp53c, hp53g, hp53z⟩ := hp53
                          rw [hp53e]
                          have hp53m := hp22m.kept hp53g (fun _ _ _ => trivial)
                          have lc54 := hp53g _ _ _ hp22h trivial
                          have fx55 : zfm V V52 := zag.tr fx23 (hp53g.mono (fun _ _ => trivial))
                          show zG C V52 ((12 - 2 * k.toNat - 1) - 1) ((480 - 80 * k.toNat - 40) - 40) 169 [(1, .int (zI (iz19))), (5, .ref (md (70 + k.toNat))), (4, .int (zI (k))), (3, .int (zI ((6 : Nat)))), (2, .ref (c 62)), (0, .ref (c 60))] [.ref hp53q, .int (zI (1)), .int (zI (iz19))]
                          refine zr_aload_n X 170 5 dX8_isRight_169 rfl rfl ?_
                          have c856 : V52 (c 60) = some (60, .inr (9, [.ref (md 61), .int (zI (κ 0)), .ref (c 62), .ref (md 63), .ref (md 64), .ref (c 65), .int (zI (τ 26)), .int (zI (τ 28)), .int (zI (τ 29)), .ref (c 66), .int (zI (τ 36))])) := hp53m.1
                          refine zr_get X 173 9 4 c856 rfl iX8 (by decide) w7 rfl rfl dX8_isRight_170 rfl ?_
                          obtain ⟨c857f, c857, c857c, c857v⟩ := hp53m.ct.2.2.2.2
                          refine zr_callS (kc' := ((12 - 2 * k.toNat - 1) - 1)) (ks' := ((480 - 80 * k.toNat - 40) - 40)) X 176 2 (m_X8_lastOf l Γ hp53h hp53c (by omega) c857 c857c (by omega)) gX8_isRight_X8_lastOf rfl (by decide +kernel) rfl (by decide) rfl (Nat.le_of_ble_eq_true rfl) dX8_isRight_173 rfl (by omega) (by omega) (fun rv58 V59 hp60 => ?_)
                          obtain ⟨⟨y61, y61e, y610, y611, y612⟩, y61v⟩ := hp60
                          rw [y61e, y61v]
                          show zG C V52 ((12 - 2 * k.toNat - 1) - 1) ((480 - 80 * k.toNat - 40) - 40) 176 [(1, .int (zI (iz19))), (5, .ref (md (70 + k.toNat))), (4, .int (zI (k))), (3, .int (zI ((6 : Nat)))), (2, .ref (c 62)), (0, .ref (c 60))] [.int (zI (y61)), .int (zI (1)), .int (zI (iz19))]
                          refine zr_if_ge X 183 179 dX8_isRight_176 rfl rfl (by omega) (fun bq62 => ?_) (fun bq62 => ?_)
                          · refine zr_iconst X 184 dX8_isRight_183 rfl ?_
                            refine zr_icmp_ne X 191 187 dX8_isRight_184 rfl rfl (by omega) (by omega) (fun bq63 => ?_) (fun bq63 => absurd bq63 (by omega))
                            refine zr_iconst X 192 dX8_isRight_191 rfl ?_
                            obtain ⟨iz64, iz64e, iz64a⟩ := ziand (x := iz19) (y := 0) (by omega) (by omega)
                            refine zr_iand X 193 dX8_isRight_192 rfl ?_
                            rw [iz64e]
                            show zG C V52 ((12 - 2 * k.toNat - 1) - 1) ((480 - 80 * k.toNat - 40) - 40) 193 [(1, .int (zI (iz19))), (5, .ref (md (70 + k.toNat))), (4, .int (zI (k))), (3, .int (zI ((6 : Nat)))), (2, .ref (c 62)), (0, .ref (c 60))] [.int (zI (iz64))]
                            refine zr_istore_n X 194 [(1, .int (zI (iz64))), (5, .ref (md (70 + k.toNat))), (4, .int (zI (k))), (3, .int (zI ((6 : Nat)))), (2, .ref (c 62)), (0, .ref (c 60))] dX8_isRight_193 rfl (by decide) rfl ?_
                            refine zr_iinc X 197 2 [(4, .int (zI (k + 1))), (1, .int (zI (iz64))), (5, .ref (md (70 + k.toNat))), (3, .int (zI ((6 : Nat)))), (2, .ref (c 62)), (0, .ref (c 60))] dX8_isRight_194 rfl rfl (by decide) rfl ?_
                            refine zr_goto X 64 dX8_isRight_197 rfl ?_
                            refine zr_sub [0, 3, 4, 1, 5] [(4, .int (zI (k + 1))), (3, .int (zI ((6 : Nat)))), (2, .ref (c 62)), (1, .int (zI (iz64))), (0, .ref (c 60))] rfl ?_
                            refine zr_room (12 - 2 * (k + 1).toNat) (480 - 80 * (k + 1).toNat) (by omega) (by omega) ?_
                            exact ih _ (by omega) V52 iz64 (k + 1) ⟨hp53m, fx55, by omega, by omega, by omega, (zag.tr (zag.tr hI6 hp22g) hp53g)⟩ rfl
                          · refine zr_iconst X 180 dX8_isRight_179 rfl ?_
                            refine zr_goto X 184 dX8_isRight_180 rfl ?_
                            refine zr_icmp_ne X 191 187 dX8_isRight_184 rfl rfl (by omega) (by omega) (fun bq65 => absurd bq65 (by omega)) (fun bq65 => ?_)
                            refine zr_iconst X 188 dX8_isRight_187 rfl ?_
                            refine zr_goto X 192 dX8_isRight_188 rfl ?_
                            obtain ⟨iz66, iz66e, iz66a⟩ := ziand (x := iz19) (y := 1) (by omega) (by omega)
                            refine zr_iand X 193 dX8_isRight_192 rfl ?_
                            rw [iz66e]
                            show zG C V52 ((12 - 2 * k.toNat - 1) - 1) ((480 - 80 * k.toNat - 40) - 40) 193 [(1, .int (zI (iz19))), (5, .ref (md (70 + k.toNat))), (4, .int (zI (k))), (3, .int (zI ((6 : Nat)))), (2, .ref (c 62)), (0, .ref (c 60))] [.int (zI (iz66))]
                            refine zr_istore_n X 194 [(1, .int (zI (iz66))), (5, .ref (md (70 + k.toNat))), (4, .int (zI (k))), (3, .int (zI ((6 : Nat)))), (2, .ref (c 62)), (0, .ref (c 60))] dX8_isRight_193 rfl (by decide) rfl ?_
                            refine zr_iinc X 197 2 [(4, .int (zI (k + 1))), (1, .int (zI (iz66))), (5, .ref (md (70 + k.toNat))), (3, .int (zI ((6 : Nat)))), (2, .ref (c 62)), (0, .ref (c 60))] dX8_isRight_194 rfl rfl (by decide) rfl ?_
                            refine zr_goto X 64 dX8_isRight_197 rfl ?_
                            refine zr_sub [0, 3, 4, 1, 5] [(4, .int (zI (k + 1))), (3, .int (zI ((6 : Nat)))), (2, .ref (c 62)), (1, .int (zI (iz66))), (0, .ref (c 60))] rfl ?_
                            refine zr_room (12 - 2 * (k + 1).toNat) (480 - 80 * (k + 1).toNat) (by omega) (by omega) ?_
                            exact ih _ (by omega) V52 iz66 (k + 1) ⟨hp53m, fx55, by omega, by omega, by omega, (zag.tr (zag.tr hI6 hp22g) hp53g)⟩ rfl
          exact loop _ V 1 0 ⟨hM, zag.rf, by omega, by omega, by omega, zag.rf⟩ rfl
set_option maxRecDepth 100000 in
set_option maxHeartbeats 4000000 in
theorem m_X8_isSound (l : Launch) (Γ : zGam) {V : zV} {c md : Nat → Nat} {τ κ : Nat → Int} {E : Int} (hM : zMo Γ V c md τ κ E) : zM l Γ 8 yX8_isSound wsX8_isSound 12 480 V [.ref (c 60)] (fun rv V' => ∃ (y : Int) (md' : Nat → Nat) (τ' κ' : Nat → Int), rv = some (.int (zI y)) ∧ zMo Γ V' c md' τ' κ' (E + 40) ∧ zfm V V' ∧ (τ' = (zf τ 36 0))) := by
  refine zM_of (cc := cX8_isSound) (nL := 1) (ret := (some .boolean)) (own := RX8) (by decide +kernel) rfl rfl (Nat.le_of_ble_eq_true rfl) (fun C X hi0 => ?_)
  have nn1 : 0 ≤ κ 0 ∧ κ 0 ≤ κ 1 ∧ κ 0 ≤ E ∧ κ 1 ≤ 7000 := hM.n.1
  show zG C V 12 480 0 [(0, .ref (c 60))] []
  refine zr_aload_n X 1 0 dX8_isSound_0 rfl rfl ?_
  refine zr_iconst X 2 dX8_isSound_1 rfl ?_
  refine zr_iconst X 3 dX8_isSound_2 rfl ?_
  refine zr_callVe (kc' := 12) (ks' := 480) X 6 2 (m_X8_isThrown l Γ hM (a := 0) (b := 0) (by omega) (by omega)) gX8_isSound_X8_isThrown rfl (by decide +kernel) rfl (by decide) ⟨_, _, hM.1⟩ rfl rfl (Nat.le_of_ble_eq_true rfl) dX8_isSound_3 rfl (by omega) (by omega) (fun rv2 V3 hp4 => ?_)
  obtain ⟨⟨hp4x, hp4k, hp4e, hp4c, hp4m⟩, hp4g⟩ := hp4
  rw [hp4e]
  rcases hp4c with ⟨tc5a, tc5k, tc5x⟩ | ⟨tc5a, tc5b, tc5k, tc5x⟩ | ⟨tc5a, tc5b, tc5k, tc5x⟩
  · exact absurd tc5a (by decide)
  · exact absurd tc5b (by decide)
  · skip
    subst tc5k tc5x
    have fx6 : zfm V V3 := (hp4g.mono (fun t ht => by omega))
    obtain ⟨τ7, τ7e⟩ : ∃ zz9 : Nat → Int, zz9 = zf τ 36 0 := ⟨_, rfl⟩
    rw [← τ7e] at hp4m
    show zG C V3 12 480 6 [(0, .ref (c 60))] [.int (zI (0))]
    refine zr_pop X 7 dX8_isSound_6 rfl rfl ?_
    refine zr_aload_n X 8 0 dX8_isSound_7 rfl rfl ?_
    refine zr_callVe (kc' := (12 - 12)) (ks' := (480 - 480)) X 11 0 (m_X8_isRight l Γ hp4m) gX8_isSound_X8_isRight rfl (by decide +kernel) rfl (by decide) ⟨_, _, hp4m.1⟩ rfl rfl (Nat.le_of_ble_eq_true rfl) dX8_isSound_8 rfl (by omega) (by omega) (fun rv8 V9 hp10 => ?_)
    obtain ⟨⟨hp10y, hp10e, hp10a⟩, hp10m, hp10g⟩ := hp10
    rw [hp10e]
    have fx11 : zfm V V9 := zag.tr fx6 (hp10g.mono (fun _ _ => trivial))
    show zG C V9 (12 - 12) (480 - 480) 11 [(0, .ref (c 60))] [.int (zI (hp10y))]
    exact zr_zret X rfl (znz (by omega)) ⟨hp10y, md, τ7, κ, rfl, hp10m.le (by omega), fx11, by rw [τ7e]⟩ dX8_isSound_11
set_option maxRecDepth 100000 in
set_option maxHeartbeats 4000000 in
theorem m_X8_mixed (l : Launch) (Γ : zGam) {V : zV} {x : Int64} {a ta n : Nat} {f : Nat → Int} (ha : V a = some (ta, za Γ.2.1 0 n f)) (hn : n ≤ 200) : zM l Γ 0 yX8_mixed wsX8_mixed 0 0 V [.long (x), .ref a] (fun rv V' => (∃ z : Int64, rv = some (.long z)) ∧ V' = V) := by
  have w0 : Cond.constantLong RX8 171 (31) ∈ wsX8_mixed := by decide +kernel
  refine zM_of (cc := cX8_mixed) (nL := 9) (ret := (some .long)) (own := RX8) (by decide +kernel) rfl rfl (Nat.le_of_ble_eq_true rfl) (fun C X hi0 => ?_)
  show zG C V 0 0 0 [(0, .long (x)), (2, .ref a)] []
  refine zr_lload_n X 1 0 dX8_mixed_0 rfl rfl ?_
  refine zr_lstore_n X 2 [(3, .long (x)), (0, .long (x)), (2, .ref a)] dX8_mixed_1 rfl (by decide) rfl ?_
  refine zr_aload_n X 3 2 dX8_mixed_2 rfl rfl ?_
  refine zr_astore X 5 [(5, .ref a), (3, .long (x)), (0, .long (x)), (2, .ref a)] dX8_mixed_3 rfl (by decide) rfl ?_
  refine zr_aload X 7 0 dX8_mixed_5 rfl rfl ?_
  refine zr_alen X 8 0 ha (by decide) dX8_mixed_7 rfl ?_
  refine zr_istore X 10 [(6, .int (zI ((n : Nat)))), (5, .ref a), (3, .long (x)), (0, .long (x)), (2, .ref a)] dX8_mixed_8 rfl (by decide) rfl ?_
  refine zr_iconst X 11 dX8_mixed_10 rfl ?_
  refine zr_istore X 13 [(7, .int (zI (0))), (6, .int (zI ((n : Nat)))), (5, .ref a), (3, .long (x)), (0, .long (x)), (2, .ref a)] dX8_mixed_11 rfl (by decide) rfl ?_
  refine zr_sub [0, 1, 2, 3, 5, 4] [(7, .int (zI (0))), (6, .int (zI ((n : Nat)))), (5, .ref a), (3, .long (x)), (2, .ref a), (0, .long (x))] rfl ?_
  have loop : ∀ (N : Nat) (y : Int64) (k : Int), 0 ≤ k ∧ k ≤ (n : Int) → ((n : Int) - k).toNat = N → zG C V 0 0 13 [(7, .int (zI (k))), (6, .int (zI ((n : Nat)))), (5, .ref a), (3, .long (y)), (2, .ref a), (0, .long (x))] [] := by
    intro N
    induction N using Nat.strongRecOn with
    | _ N ih =>
    intro y k hI hN
    obtain ⟨hI1, hI2⟩ := id hI
    refine zr_iload X 15 0 dX8_mixed_13 rfl rfl ?_
    refine zr_iload X 17 1 dX8_mixed_15 rfl rfl ?_
    refine zr_icmp_ge X 43 20 dX8_mixed_17 rfl rfl (by omega) (by omega) (fun bq1 => ?_) (fun bq1 => ?_)
    · refine zr_lload_n X 44 3 dX8_mixed_43 rfl rfl ?_
      exact zr_lret X rfl ⟨⟨_, rfl⟩, rfl⟩ dX8_mixed_44
    · refine zr_aload X 22 2 dX8_mixed_20 rfl rfl ?_
      refine zr_iload X 24 0 dX8_mixed_22 rfl rfl ?_
      refine zr_iald X 25 ha (by omega) dX8_mixed_24 rfl ?_
      refine zr_istore X 27 [(8, .int (zI (f (k).toNat))), (7, .int (zI (k))), (6, .int (zI ((n : Nat)))), (5, .ref a), (3, .long (y)), (2, .ref a), (0, .long (x))] dX8_mixed_25 rfl (by decide) rfl ?_
      refine zr_lload_n X 28 4 dX8_mixed_27 rfl rfl ?_
      refine zr_ldc2 X 31 (v := 31) dX8_mixed_28 rfl w0 ?_
      refine zr_lmul X 32 dX8_mixed_31 rfl ?_
      refine zr_iload X 34 0 dX8_mixed_32 rfl rfl ?_
      refine zr_i2l X 35 dX8_mixed_34 rfl ?_
      obtain ⟨y2, y2e⟩ : ∃ zz9 : Int64, zz9 = (zI (f (k).toNat)).toInt64 := ⟨_, rfl⟩
      rw [← y2e]
      refine zr_ladd X 36 dX8_mixed_35 rfl ?_
      refine zr_lstore_n X 37 [(3, .long ((y * 31) + y2)), (8, .int (zI (f (k).toNat))), (7, .int (zI (k))), (6, .int (zI ((n : Nat)))), (5, .ref a), (2, .ref a), (0, .long (x))] dX8_mixed_36 rfl (by decide) rfl ?_
      refine zr_iinc X 40 2 [(7, .int (zI (k + 1))), (3, .long ((y * 31) + y2)), (8, .int (zI (f (k).toNat))), (6, .int (zI ((n : Nat)))), (5, .ref a), (2, .ref a), (0, .long (x))] dX8_mixed_37 rfl rfl (by decide) rfl ?_
      refine zr_goto X 13 dX8_mixed_40 rfl ?_
      refine zr_sub [0, 3, 4, 1, 5, 6] [(7, .int (zI (k + 1))), (6, .int (zI ((n : Nat)))), (5, .ref a), (3, .long ((y * 31) + y2)), (2, .ref a), (0, .long (x))] rfl ?_
      exact ih _ (by omega) ((y * 31) + y2) (k + 1) ⟨by omega, by omega⟩ rfl
  exact loop _ x 0 ⟨by omega, by omega⟩ rfl
set_option maxRecDepth 100000 in
set_option maxHeartbeats 4000000 in
theorem m_X8_digest (l : Launch) (Γ : zGam) {V : zV} {c md : Nat → Nat} {τ κ : Nat → Int} {E : Int} (hM : zMo Γ V c md τ κ E) : zM l Γ 8 yX8_digest wsX8_digest 40 1200 V [.ref (c 60)] (fun rv V' => (∃ z : Int64, rv = some (.long z)) ∧ zMo Γ V' c md (zf τ 36 0) κ E ∧ zfm V V') := by
  have w0 : Cond.constantLong RX8 173 (7702) ∈ wsX8_digest := by decide +kernel
  have w1 : Cond.fieldLink RX8 14 "SashwordsModel" "windows" "[[I" ∈ wsX8_digest := by decide +kernel
  have iX8 : ∀ w ∈ u_ws RX8 TX8 11, w ∈ wsX8_digest := by decide +kernel
  have w3 : Cond.constantLong RX8 171 (31) ∈ wsX8_digest := by decide +kernel
  have w4 : Cond.fieldLink RX8 18 "SashwordsModel" "built" "[I" ∈ wsX8_digest := by decide +kernel
  have w5 : Cond.fieldLink RX8 21 "SashwordsModel" "kept" "[I" ∈ wsX8_digest := by decide +kernel
  have w6 : Cond.arrayClass .int ∈ wsX8_digest := by decide +kernel
  have w7 : Cond.fieldLink RX8 129 "SashwordsModel" "in" "I" ∈ wsX8_digest := by decide +kernel
  have w8 : Cond.fieldLink RX8 132 "SashwordsModel" "out" "I" ∈ wsX8_digest := by decide +kernel
  have w9 : Cond.fieldLink RX8 31 "SashwordsModel" "tallies" "[I" ∈ wsX8_digest := by decide +kernel
  have w10 : Cond.fieldLink RX8 24 "SashwordsModel" "sent" "[I" ∈ wsX8_digest := by decide +kernel
  refine zM_of (cc := cX8_digest) (nL := 8) (ret := (some .long)) (own := RX8) (by decide +kernel) rfl rfl (Nat.le_of_ble_eq_true rfl) (fun C X hi0 => ?_)
  have nn1 : (0 ≤ κ 0 ∧ κ 0 ≤ κ 1 ∧ κ 0 ≤ E ∧ κ 1 ≤ 7000) ∧ (0 ≤ τ 24 ∧ τ 24 ≤ 80 ∧ 0 ≤ τ 25 ∧ τ 25 ≤ 80) ∧ 1 ≤ τ 26 ∧ τ 26 ≤ 8 ∧ 0 ≤ τ 29 ∧ τ 29 ≤ τ 28 ∧ τ 28 ≤ 160 ∧ τ 27 ≤ τ 26 ∧ τ 27 = τ 28 - τ 29 := hM.n
  show zG C V 40 1200 0 [(0, .ref (c 60))] []
  refine zr_aload_n X 1 0 dX8_digest_0 rfl rfl ?_
  refine zr_iconst X 2 dX8_digest_1 rfl ?_
  refine zr_iconst X 3 dX8_digest_2 rfl ?_
  refine zr_callVe (kc' := 40) (ks' := 1200) X 6 2 (m_X8_isThrown l Γ hM (a := 0) (b := 0) (by omega) (by omega)) gX8_digest_X8_isThrown rfl (by decide +kernel) rfl (by decide) ⟨_, _, hM.1⟩ rfl rfl (Nat.le_of_ble_eq_true rfl) dX8_digest_3 rfl (by omega) (by omega) (fun rv2 V3 hp4 => ?_)
  obtain ⟨⟨hp4x, hp4k, hp4e, hp4c, hp4m⟩, hp4g⟩ := hp4
  rw [hp4e]
  rcases hp4c with ⟨tc5a, tc5k, tc5x⟩ | ⟨tc5a, tc5b, tc5k, tc5x⟩ | ⟨tc5a, tc5b, tc5k, tc5x⟩
  · exact absurd tc5a (by decide)
  · exact absurd tc5b (by decide)
  · skip
    subst tc5k tc5x
    have fx6 : zfm V V3 := (hp4g.mono (fun t ht => by omega))
    obtain ⟨τ7, τ7e⟩ : ∃ zz9 : Nat → Int, zz9 = zf τ 36 0 := ⟨_, rfl⟩
    rw [← τ7e] at hp4m
    have τ7_24 : τ7 24 = τ 24 := by rw [τ7e]; exact rfl
    have τ7_25 : τ7 25 = τ 25 := by rw [τ7e]; exact rfl
    have τ7_26 : τ7 26 = τ 26 := by rw [τ7e]; exact rfl
    have τ7_27 : τ7 27 = τ 27 := by rw [τ7e]; exact rfl
    have τ7_28 : τ7 28 = τ 28 := by rw [τ7e]; exact rfl
    have τ7_29 : τ7 29 = τ 29 := by rw [τ7e]; exact rfl
    have τ7_30 : τ7 30 = τ 30 := by rw [τ7e]; exact rfl
    have τ7_31 : τ7 31 = τ 31 := by rw [τ7e]; exact rfl
    have τ7_32 : τ7 32 = τ 32 := by rw [τ7e]; exact rfl
    have τ7_33 : τ7 33 = τ 33 := by rw [τ7e]; exact rfl
    have τ7_36 : τ7 36 = 0 := by rw [τ7e]; exact rfl
    show zG C V3 40 1200 6 [(0, .ref (c 60))] [.int (zI (0))]
    refine zr_pop X 7 dX8_digest_6 rfl rfl ?_
    refine zr_ldc2 X 10 (v := 7702) dX8_digest_7 rfl w0 ?_
    refine zr_lstore_n X 11 [(1, .long (7702)), (0, .ref (c 60))] dX8_digest_10 rfl (by decide) rfl ?_
    refine zr_aload_n X 12 1 dX8_digest_11 rfl rfl ?_
    have c88 : V3 (c 60) = some (60, .inr (9, [.ref (md 61), .int (zI (κ 0)), .ref (c 62), .ref (md 63), .ref (md 64), .ref (c 65), .int (zI (τ7 26)), .int (zI (τ7 28)), .int (zI (τ7 29)), .ref (c 66), .int (zI (τ7 36))])) := hp4m.1
    refine zr_get X 15 9 2 c88 rfl iX8 (by decide) w1 rfl rfl dX8_digest_12 rfl ?_
    refine zr_astore_n X 16 [(3, .ref (c 62)), (1, .long (7702)), (0, .ref (c 60))] dX8_digest_15 rfl (by decide) rfl ?_
    refine zr_aload_n X 17 0 dX8_digest_16 rfl rfl ?_
    have c89 : V3 (c 62) = some (62, zq Γ.2.1 4 6 (fun i => some (md (70 + i)))) := hp4m.2.2.1
    refine zr_alenq X 18 4 c89 (by decide) dX8_digest_17 rfl ?_
    refine zr_istore X 20 [(4, .int (zI ((6 : Nat)))), (3, .ref (c 62)), (1, .long (7702)), (0, .ref (c 60))] dX8_digest_18 rfl (by decide) rfl ?_
    refine zr_iconst X 21 dX8_digest_20 rfl ?_
    refine zr_istore X 23 [(5, .int (zI (0))), (4, .int (zI ((6 : Nat)))), (3, .ref (c 62)), (1, .long (7702)), (0, .ref (c 60))] dX8_digest_21 rfl (by decide) rfl ?_
    refine zr_room (40 - 3 * (0 : Int).toNat) (1200 - 50 * (0 : Int).toNat) (by omega) (by omega) ?_
    have loop : ∀ (N : Nat) (V1 : zV) (x1 : Int64) (k : Int), zMo Γ V1 c md τ7 κ E ∧ zfm V V1 ∧ 0 ≤ k ∧ k ≤ 6 → (6 - k).toNat = N → zG C V1 (40 - 3 * k.toNat) (1200 - 50 * k.toNat) 23 [(5, .int (zI (k))), (4, .int (zI ((6 : Nat)))), (3, .ref (c 62)), (1, .long (x1)), (0, .ref (c 60))] [] := by
      intro N
      induction N using Nat.strongRecOn with
      | _ N ih =>
      intro V1 x1 k hI hN
      obtain ⟨hI1, hI2, hI3, hI4⟩ := id hI
      have nn10 : (0 ≤ κ 0 ∧ κ 0 ≤ κ 1 ∧ κ 0 ≤ E ∧ κ 1 ≤ 7000) ∧ (0 ≤ τ7 24 ∧ τ7 24 ≤ 80 ∧ 0 ≤ τ7 25 ∧ τ7 25 ≤ 80) ∧ 1 ≤ τ7 26 ∧ τ7 26 ≤ 8 ∧ 0 ≤ τ7 29 ∧ τ7 29 ≤ τ7 28 ∧ τ7 28 ≤ 160 ∧ τ7 27 ≤ τ7 26 ∧ τ7 27 = τ7 28 - τ7 29 := hI1.n
      refine zr_iload X 25 0 dX8_digest_23 rfl rfl ?_
      refine zr_iload X 27 1 dX8_digest_25 rfl rfl ?_
      refine zr_icmp_ge X 124 30 dX8_digest_27 rfl rfl (by omega) (by omega) (fun bq11 => ?_) (fun bq11 => ?_)
      · refine zr_lload_n X 125 3 dX8_digest_124 rfl rfl ?_
        refine zr_ldc2 X 128 (v := 31) dX8_digest_125 rfl w3 ?_
        refine zr_lmul X 129 dX8_digest_128 rfl ?_
        refine zr_aload_n X 130 4 dX8_digest_129 rfl rfl ?_
        have c812 : V1 (c 60) = some (60, .inr (9, [.ref (md 61), .int (zI (κ 0)), .ref (c 62), .ref (md 63), .ref (md 64), .ref (c 65), .int (zI (τ7 26)), .int (zI (τ7 28)), .int (zI (τ7 29)), .ref (c 66), .int (zI (τ7 36))])) := hI1.1
        refine zr_get X 133 9 3 c812 rfl iX8 (by decide) w4 rfl rfl dX8_digest_130 rfl ?_
        obtain ⟨c813f, c813, c813c, c813v⟩ := hI1.ct.2.2.2.1
        refine zr_alen X 134 0 c813 (by decide) dX8_digest_133 rfl ?_
        refine zr_i2l X 135 dX8_digest_134 rfl ?_
        obtain ⟨y14, y14e⟩ : ∃ zz9 : Int64, zz9 = (zI (((τ7 24).toNat : Nat))).toInt64 := ⟨_, rfl⟩
        rw [← y14e]
        refine zr_ladd X 136 dX8_digest_135 rfl ?_
        refine zr_aload_n X 137 4 dX8_digest_136 rfl rfl ?_
        refine zr_get X 140 9 3 c812 rfl iX8 (by decide) w4 rfl rfl dX8_digest_137 rfl ?_
        refine zr_callS (kc' := 40 - 3 * k.toNat) (ks' := 1200 - 50 * k.toNat) X 143 2 (m_X8_mixed l Γ (V := V1) (x := (x1 * 31) + y14) c813 (by omega)) gX8_digest_X8_mixed rfl (by decide +kernel) rfl (by decide) rfl (Nat.le_of_ble_eq_true rfl) dX8_digest_140 rfl (by omega) (by omega) (fun rv15 V16 hp17 => ?_)
        obtain ⟨⟨hp17z, hp17e⟩, hp17v⟩ := hp17
        rw [hp17e, hp17v]
        show zG C V1 (40 - 3 * k.toNat) (1200 - 50 * k.toNat) 143 [(5, .int (zI (k))), (4, .int (zI ((6 : Nat)))), (3, .ref (c 62)), (1, .long (x1)), (0, .ref (c 60))] [.long (hp17z)]
        refine zr_ldc2 X 146 (v := 31) dX8_digest_143 rfl w3 ?_
        refine zr_lmul X 147 dX8_digest_146 rfl ?_
        refine zr_aload_n X 148 4 dX8_digest_147 rfl rfl ?_
        refine zr_get X 151 9 4 c812 rfl iX8 (by decide) w5 rfl rfl dX8_digest_148 rfl ?_
        obtain ⟨c818f, c818, c818c, c818v⟩ := hI1.ct.2.2.2.2
        refine zr_alen X 152 0 c818 (by decide) dX8_digest_151 rfl ?_
        refine zr_i2l X 153 dX8_digest_152 rfl ?_
        obtain ⟨y19, y19e⟩ : ∃ zz9 : Int64, zz9 = (zI (((τ7 25).toNat : Nat))).toInt64 := ⟨_, rfl⟩
        rw [← y19e]
        refine zr_ladd X 154 dX8_digest_153 rfl ?_
        refine zr_aload_n X 155 4 dX8_digest_154 rfl rfl ?_
        refine zr_get X 158 9 4 c812 rfl iX8 (by decide) w5 rfl rfl dX8_digest_155 rfl ?_
        refine zr_callS (kc' := 40 - 3 * k.toNat) (ks' := 1200 - 50 * k.toNat) X 161 2 (m_X8_mixed l Γ (V := V1) (x := (hp17z * 31) + y19) c818 (by omega)) gX8_digest_X8_mixed rfl (by decide +kernel) rfl (by decide) rfl (Nat.le_of_ble_eq_true rfl) dX8_digest_158 rfl (by omega) (by omega) (fun rv20 V21 hp22 => ?_)
        obtain ⟨⟨hp22z, hp22e⟩, hp22v⟩ := hp22
        rw [hp22e, hp22v]
        show zG C V1 (40 - 3 * k.toNat) (1200 - 50 * k.toNat) 161 [(5, .int (zI (k))), (4, .int (zI ((6 : Nat)))), (3, .ref (c 62)), (1, .long (x1)), (0, .ref (c 60))] [.long (hp22z)]
        refine zr_lstore_n X 162 [(1, .long (hp22z)), (5, .int (zI (k))), (4, .int (zI ((6 : Nat)))), (3, .ref (c 62)), (0, .ref (c 60))] dX8_digest_161 rfl (by decide) rfl ?_
        refine zr_lload_n X 163 0 dX8_digest_162 rfl rfl ?_
        refine zr_iconst X 164 dX8_digest_163 rfl ?_
        refine zr_newai (kc' := (40 - 3 * k.toNat - 1)) (ks' := (1200 - 50 * k.toNat - (5 : Int).toNat)) X 166 92 w6 (by omega) dX8_digest_164 rfl (by omega) (by omega) (fun q23 hq24 => ?_)
        have nz25 := zag.rf.new (P := zal) (t := 92) (e := za Γ.2.1 0 ((5 : Int).toNat) (fun _ => 0)) hq24
        obtain ⟨cm26h, cm26f⟩ := (⟨hI1.kept nz25 (fun _ _ _ => trivial), nz25⟩ : _ ∧ _)
        obtain ⟨cm26V, cm26e⟩ : ∃ zz9 : zV, zz9 = (zu V1 q23 92 (za Γ.2.1 0 ((5 : Int).toNat) (fun _ => 0))) := ⟨_, rfl⟩
        have cm26m : zMo Γ cm26V c md (τ7) κ E := by
          rw [cm26e]
          exact cm26h
        have cm26g : zag zal V1 cm26V := by
          rw [cm26e]
          exact cm26f
        have cm26s : cm26V q23 = some (92, za Γ.2.1 0 ((5 : Int).toNat) (fun _ => 0)) := by
          rw [cm26e]
          exact zu_eq _ _ _ _
        refine zr_view (cm26e).symm ?_
        have fx27 : zfm V cm26V := zag.tr hI2 (cm26g.mono (fun _ _ => trivial))
        show zG C cm26V (40 - 3 * k.toNat - 1) (1200 - 50 * k.toNat - (5 : Int).toNat) 166 [(1, .long (hp22z)), (5, .int (zI (k))), (4, .int (zI ((6 : Nat)))), (3, .ref (c 62)), (0, .ref (c 60))] [.ref q23, .long (hp22z)]
        refine zr_dup X 167 dX8_digest_166 rfl rfl ?_
        refine zr_iconst X 168 dX8_digest_167 rfl ?_
        refine zr_aload_n X 169 4 dX8_digest_168 rfl rfl ?_
        have c828 : cm26V (c 60) = some (60, .inr (9, [.ref (md 61), .int (zI (κ 0)), .ref (c 62), .ref (md 63), .ref (md 64), .ref (c 65), .int (zI (τ7 26)), .int (zI (τ7 28)), .int (zI (τ7 29)), .ref (c 66), .int (zI (τ7 36))])) := cm26m.1
        refine zr_get X 172 9 3 c828 rfl iX8 (by decide) w4 rfl rfl dX8_digest_169 rfl ?_
        refine zr_aload_n X 173 4 dX8_digest_172 rfl rfl ?_
        refine zr_get X 176 9 3 c828 rfl iX8 (by decide) w4 rfl rfl dX8_digest_173 rfl ?_
        obtain ⟨c829f, c829, c829c, c829v⟩ := cm26m.ct.2.2.2.1
        refine zr_alen X 177 0 c829 (by decide) dX8_digest_176 rfl ?_
        refine zr_callS (kc' := (40 - 3 * k.toNat - 1)) (ks' := (1200 - 50 * k.toNat - (5 : Int).toNat)) X 180 2 (m_X8_greatest l Γ (mn := ((τ7 24).toNat : Nat)) c829 c829c (by omega) (by omega)) gX8_digest_X8_greatest rfl (by decide +kernel) rfl (by decide) rfl (Nat.le_of_ble_eq_true rfl) dX8_digest_177 rfl (by omega) (by omega) (fun rv30 V31 hp32 => ?_)
        obtain ⟨⟨y33, y33e, y330, y331, y332⟩, y33v⟩ := hp32
        rw [y33e, y33v]
        show zG C cm26V (40 - 3 * k.toNat - 1) (1200 - 50 * k.toNat - (5 : Int).toNat) 180 [(1, .long (hp22z)), (5, .int (zI (k))), (4, .int (zI ((6 : Nat)))), (3, .ref (c 62)), (0, .ref (c 60))] [.int (zI (y33)), .int (zI (0)), .ref q23, .ref q23, .long (hp22z)]
        refine zr_iast X 181 cm26s (by omega) dX8_digest_180 rfl ?_
        have cm26sz := zag.one (e' := za Γ.2.1 0 ((5 : Int).toNat) (zf (fun _ => 0) (0 : Int).toNat y33)) cm26s
        obtain ⟨cm34h, cm34f⟩ := (⟨cm26m.kept cm26sz (fun t h1 h2 => by omega), cm26sz⟩ : _ ∧ _)
        obtain ⟨cm34V, cm34e⟩ : ∃ zz9 : zV, zz9 = (zu cm26V q23 92 (za Γ.2.1 0 ((5 : Int).toNat) (zf (fun _ => 0) (0 : Int).toNat y33))) := ⟨_, rfl⟩
        have cm34m : zMo Γ cm34V c md (τ7) κ E := by
          rw [cm34e]
          exact cm34h
        have cm34g : zag (fun x => x ≠ 92) cm26V cm34V := by
          rw [cm34e]
          exact cm34f
        have cm34s : cm34V q23 = some (92, za Γ.2.1 0 ((5 : Int).toNat) (zf (fun _ => 0) (0 : Int).toNat y33)) := by
          rw [cm34e]
          exact zu_eq _ _ _ _
        refine zr_view (cm34e).symm ?_
        have fx35 : zfm V cm34V := zag.tr fx27 (cm34g.mono (fun t ht => by omega))
        show zG C cm34V (40 - 3 * k.toNat - 1) (1200 - 50 * k.toNat - (5 : Int).toNat) 181 [(1, .long (hp22z)), (5, .int (zI (k))), (4, .int (zI ((6 : Nat)))), (3, .ref (c 62)), (0, .ref (c 60))] [.ref q23, .long (hp22z)]
        refine zr_dup X 182 dX8_digest_181 rfl rfl ?_
        refine zr_iconst X 183 dX8_digest_182 rfl ?_
        refine zr_aload_n X 184 4 dX8_digest_183 rfl rfl ?_
        have c836 : cm34V (c 60) = some (60, .inr (9, [.ref (md 61), .int (zI (κ 0)), .ref (c 62), .ref (md 63), .ref (md 64), .ref (c 65), .int (zI (τ7 26)), .int (zI (τ7 28)), .int (zI (τ7 29)), .ref (c 66), .int (zI (τ7 36))])) := cm34m.1
        refine zr_get X 187 9 4 c836 rfl iX8 (by decide) w5 rfl rfl dX8_digest_184 rfl ?_
        refine zr_aload_n X 188 4 dX8_digest_187 rfl rfl ?_
        refine zr_get X 191 9 4 c836 rfl iX8 (by decide) w5 rfl rfl dX8_digest_188 rfl ?_
        obtain ⟨c837f, c837, c837c, c837v⟩ := cm34m.ct.2.2.2.2
        refine zr_alen X 192 0 c837 (by decide) dX8_digest_191 rfl ?_
        refine zr_callS (kc' := (40 - 3 * k.toNat - 1)) (ks' := (1200 - 50 * k.toNat - (5 : Int).toNat)) X 195 2 (m_X8_greatest l Γ (mn := ((τ7 25).toNat : Nat)) c837 c837c (by omega) (by omega)) gX8_digest_X8_greatest rfl (by decide +kernel) rfl (by decide) rfl (Nat.le_of_ble_eq_true rfl) dX8_digest_192 rfl (by omega) (by omega) (fun rv38 V39 hp40 => ?_)
        obtain ⟨⟨y41, y41e, y410, y411, y412⟩, y41v⟩ := hp40
        rw [y41e, y41v]
        show zG C cm34V (40 - 3 * k.toNat - 1) (1200 - 50 * k.toNat - (5 : Int).toNat) 195 [(1, .long (hp22z)), (5, .int (zI (k))), (4, .int (zI ((6 : Nat)))), (3, .ref (c 62)), (0, .ref (c 60))] [.int (zI (y41)), .int (zI (1)), .ref q23, .ref q23, .long (hp22z)]
        refine zr_iast X 196 cm34s (by omega) dX8_digest_195 rfl ?_
        have cm34sz := zag.one (e' := za Γ.2.1 0 ((5 : Int).toNat) (zf (zf (fun _ => 0) (0 : Int).toNat y33) (1 : Int).toNat y41)) cm34s
        obtain ⟨cm42h, cm42f⟩ := (⟨cm34m.kept cm34sz (fun t h1 h2 => by omega), cm34sz⟩ : _ ∧ _)
        obtain ⟨cm42V, cm42e⟩ : ∃ zz9 : zV, zz9 = (zu cm34V q23 92 (za Γ.2.1 0 ((5 : Int).toNat) (zf (zf (fun _ => 0) (0 : Int).toNat y33) (1 : Int).toNat y41))) := ⟨_, rfl⟩
        have cm42m : zMo Γ cm42V c md (τ7) κ E := by
          rw [cm42e]
          exact cm42h
        have cm42g : zag (fun x => x ≠ 92) cm34V cm42V := by
          rw [cm42e]
          exact cm42f
        have cm42s : cm42V q23 = some (92, za Γ.2.1 0 ((5 : Int).toNat) (zf (zf (fun _ => 0) (0 : Int).toNat y33) (1 : Int).toNat y41)) := by
          rw [cm42e]
          exact zu_eq _ _ _ _
        refine zr_view (cm42e).symm ?_
        have fx43 : zfm V cm42V := zag.tr fx35 (cm42g.mono (fun t ht => by omega))
        show zG C cm42V (40 - 3 * k.toNat - 1) (1200 - 50 * k.toNat - (5 : Int).toNat) 196 [(1, .long (hp22z)), (5, .int (zI (k))), (4, .int (zI ((6 : Nat)))), (3, .ref (c 62)), (0, .ref (c 60))] [.ref q23, .long (hp22z)]
        refine zr_dup X 197 dX8_digest_196 rfl rfl ?_
        refine zr_iconst X 198 dX8_digest_197 rfl ?_
        refine zr_aload_n X 199 4 dX8_digest_198 rfl rfl ?_
        have c844 : cm42V (c 60) = some (60, .inr (9, [.ref (md 61), .int (zI (κ 0)), .ref (c 62), .ref (md 63), .ref (md 64), .ref (c 65), .int (zI (τ7 26)), .int (zI (τ7 28)), .int (zI (τ7 29)), .ref (c 66), .int (zI (τ7 36))])) := cm42m.1
        refine zr_get X 202 9 3 c844 rfl iX8 (by decide) w4 rfl rfl dX8_digest_199 rfl ?_
        refine zr_aload_n X 203 4 dX8_digest_202 rfl rfl ?_
        refine zr_get X 206 9 4 c844 rfl iX8 (by decide) w5 rfl rfl dX8_digest_203 rfl ?_
        obtain ⟨c845f, c845, c845c, c845v⟩ := cm42m.ct.2.2.2.1
        obtain ⟨c846f, c846, c846c, c846v⟩ := cm42m.ct.2.2.2.2
        refine zr_callS (kc' := (40 - 3 * k.toNat - 1)) (ks' := (1200 - 50 * k.toNat - (5 : Int).toNat)) X 209 2 (m_X8_places l Γ c845 c845c (by omega) c846 c846c (by omega)) gX8_digest_X8_places rfl (by decide +kernel) rfl (by decide) rfl (Nat.le_of_ble_eq_true rfl) dX8_digest_206 rfl (by omega) (by omega) (fun rv47 V48 hp49 => ?_)
        obtain ⟨⟨y50, y50e, y500, y501, y502⟩, y50v⟩ := hp49
        rw [y50e, y50v]
        show zG C cm42V (40 - 3 * k.toNat - 1) (1200 - 50 * k.toNat - (5 : Int).toNat) 209 [(1, .long (hp22z)), (5, .int (zI (k))), (4, .int (zI ((6 : Nat)))), (3, .ref (c 62)), (0, .ref (c 60))] [.int (zI (y50)), .int (zI (2)), .ref q23, .ref q23, .long (hp22z)]
        refine zr_iast X 210 cm42s (by omega) dX8_digest_209 rfl ?_
        have cm42sz := zag.one (e' := za Γ.2.1 0 ((5 : Int).toNat) (zf (zf (zf (fun _ => 0) (0 : Int).toNat y33) (1 : Int).toNat y41) (2 : Int).toNat y50)) cm42s
        obtain ⟨cm51h, cm51f⟩ := (⟨cm42m.kept cm42sz (fun t h1 h2 => by omega), cm42sz⟩ : _ ∧ _)
        obtain ⟨cm51V, cm51e⟩ : ∃ zz9 : zV, zz9 = (zu cm42V q23 92 (za Γ.2.1 0 ((5 : Int).toNat) (zf (zf (zf (fun _ => 0) (0 : Int).toNat y33) (1 : Int).toNat y41) (2 : Int).toNat y50))) := ⟨_, rfl⟩
        have cm51m : zMo Γ cm51V c md (τ7) κ E := by
          rw [cm51e]
          exact cm51h
        have cm51g : zag (fun x => x ≠ 92) cm42V cm51V := by
          rw [cm51e]
          exact cm51f
        have cm51s : cm51V q23 = some (92, za Γ.2.1 0 ((5 : Int).toNat) (zf (zf (zf (fun _ => 0) (0 : Int).toNat y33) (1 : Int).toNat y41) (2 : Int).toNat y50)) := by
          rw [cm51e]
          exact zu_eq _ _ _ _
        refine zr_view (cm51e).symm ?_
        have fx52 : zfm V cm51V := zag.tr fx43 (cm51g.mono (fun t ht => by omega))
        show zG C cm51V (40 - 3 * k.toNat - 1) (1200 - 50 * k.toNat - (5 : Int).toNat) 210 [(1, .long (hp22z)), (5, .int (zI (k))), (4, .int (zI ((6 : Nat)))), (3, .ref (c 62)), (0, .ref (c 60))] [.ref q23, .long (hp22z)]
        refine zr_dup X 211 dX8_digest_210 rfl rfl ?_
        refine zr_iconst X 212 dX8_digest_211 rfl ?_
        refine zr_aload_n X 213 4 dX8_digest_212 rfl rfl ?_
        have c853 : cm51V (c 60) = some (60, .inr (9, [.ref (md 61), .int (zI (κ 0)), .ref (c 62), .ref (md 63), .ref (md 64), .ref (c 65), .int (zI (τ7 26)), .int (zI (τ7 28)), .int (zI (τ7 29)), .ref (c 66), .int (zI (τ7 36))])) := cm51m.1
        refine zr_get X 216 9 4 c853 rfl iX8 (by decide) w5 rfl rfl dX8_digest_213 rfl ?_
        refine zr_aload_n X 217 4 dX8_digest_216 rfl rfl ?_
        refine zr_get X 220 9 3 c853 rfl iX8 (by decide) w4 rfl rfl dX8_digest_217 rfl ?_
        obtain ⟨c854f, c854, c854c, c854v⟩ := cm51m.ct.2.2.2.2
        obtain ⟨c855f, c855, c855c, c855v⟩ := cm51m.ct.2.2.2.1
        refine zr_callS (kc' := (40 - 3 * k.toNat - 1)) (ks' := (1200 - 50 * k.toNat - (5 : Int).toNat)) X 223 2 (m_X8_places l Γ c854 c854c (by omega) c855 c855c (by omega)) gX8_digest_X8_places rfl (by decide +kernel) rfl (by decide) rfl (Nat.le_of_ble_eq_true rfl) dX8_digest_220 rfl (by omega) (by omega) (fun rv56 V57 hp58 => ?_)
        obtain ⟨⟨y59, y59e, y590, y591, y592⟩, y59v⟩ := hp58
        rw [y59e, y59v]
        show zG C cm51V (40 - 3 * k.toNat - 1) (1200 - 50 * k.toNat - (5 : Int).toNat) 223 [(1, .long (hp22z)), (5, .int (zI (k))), (4, .int (zI ((6 : Nat)))), (3, .ref (c 62)), (0, .ref (c 60))] [.int (zI (y59)), .int (zI (3)), .ref q23, .ref q23, .long (hp22z)]
        refine zr_iast X 224 cm51s (by omega) dX8_digest_223 rfl ?_
        have cm51sz := zag.one (e' := za Γ.2.1 0 ((5 : Int).toNat) (zf (zf (zf (zf (fun _ => 0) (0 : Int).toNat y33) (1 : Int).toNat y41) (2 : Int).toNat y50) (3 : Int).toNat y59)) cm51s
        obtain ⟨cm60h, cm60f⟩ := (⟨cm51m.kept cm51sz (fun t h1 h2 => by omega), cm51sz⟩ : _ ∧ _)
        obtain ⟨cm60V, cm60e⟩ : ∃ zz9 : zV, zz9 = (zu cm51V q23 92 (za Γ.2.1 0 ((5 : Int).toNat) (zf (zf (zf (zf (fun _ => 0) (0 : Int).toNat y33) (1 : Int).toNat y41) (2 : Int).toNat y50) (3 : Int).toNat y59))) := ⟨_, rfl⟩
        have cm60m : zMo Γ cm60V c md (τ7) κ E := by
          rw [cm60e]
          exact cm60h
        have cm60g : zag (fun x => x ≠ 92) cm51V cm60V := by
          rw [cm60e]
          exact cm60f
        have cm60s : cm60V q23 = some (92, za Γ.2.1 0 ((5 : Int).toNat) (zf (zf (zf (zf (fun _ => 0) (0 : Int).toNat y33) (1 : Int).toNat y41) (2 : Int).toNat y50) (3 : Int).toNat y59)) := by
          rw [cm60e]
          exact zu_eq _ _ _ _
        refine zr_view (cm60e).symm ?_
        have fx61 : zfm V cm60V := zag.tr fx52 (cm60g.mono (fun t ht => by omega))
        show zG C cm60V (40 - 3 * k.toNat - 1) (1200 - 50 * k.toNat - (5 : Int).toNat) 224 [(1, .long (hp22z)), (5, .int (zI (k))), (4, .int (zI ((6 : Nat)))), (3, .ref (c 62)), (0, .ref (c 60))] [.ref q23, .long (hp22z)]
        refine zr_dup X 225 dX8_digest_224 rfl rfl ?_
        refine zr_iconst X 226 dX8_digest_225 rfl ?_
        refine zr_aload_n X 227 4 dX8_digest_226 rfl rfl ?_
        have c862 : cm60V (c 60) = some (60, .inr (9, [.ref (md 61), .int (zI (κ 0)), .ref (c 62), .ref (md 63), .ref (md 64), .ref (c 65), .int (zI (τ7 26)), .int (zI (τ7 28)), .int (zI (τ7 29)), .ref (c 66), .int (zI (τ7 36))])) := cm60m.1
        refine zr_get X 230 9 7 c862 rfl iX8 (by decide) w7 rfl rfl dX8_digest_227 rfl ?_
        refine zr_aload_n X 231 4 dX8_digest_230 rfl rfl ?_
        refine zr_get X 234 9 8 c862 rfl iX8 (by decide) w8 rfl rfl dX8_digest_231 rfl ?_
        refine zr_isub X 235 dX8_digest_234 rfl ?_
        refine zr_iast X 236 cm60s (by omega) dX8_digest_235 rfl ?_
        have cm60sz := zag.one (e' := za Γ.2.1 0 ((5 : Int).toNat) (zf (zf (zf (zf (zf (fun _ => 0) (0 : Int).toNat y33) (1 : Int).toNat y41) (2 : Int).toNat y50) (3 : Int).toNat y59) (4 : Int).toNat ((τ7 28) - (τ7 29)))) cm60s
        obtain ⟨cm63h, cm63f⟩ := (⟨cm60m.kept cm60sz (fun t h1 h2 => by omega), cm60sz⟩ : _ ∧ _)
        obtain ⟨cm63V, cm63e⟩ : ∃ zz9 : zV, zz9 = (zu cm60V q23 92 (za Γ.2.1 0 ((5 : Int).toNat) (zf (zf (zf (zf (zf (fun _ => 0) (0 : Int).toNat y33) (1 : Int).toNat y41) (2 : Int).toNat y50) (3 : Int).toNat y59) (4 : Int).toNat ((τ7 28) - (τ7 29))))) := ⟨_, rfl⟩
        have cm63m : zMo Γ cm63V c md (τ7) κ E := by
          rw [cm63e]
          exact cm63h
        have cm63g : zag (fun x => x ≠ 92) cm60V cm63V := by
          rw [cm63e]
          exact cm63f
        have cm63s : cm63V q23 = some (92, za Γ.2.1 0 ((5 : Int).toNat) (zf (zf (zf (zf (zf (fun _ => 0) (0 : Int).toNat y33) (1 : Int).toNat y41) (2 : Int).toNat y50) (3 : Int).toNat y59) (4 : Int).toNat ((τ7 28) - (τ7 29)))) := by
          rw [cm63e]
          exact zu_eq _ _ _ _
        refine zr_view (cm63e).symm ?_
        have fx64 : zfm V cm63V := zag.tr fx61 (cm63g.mono (fun t ht => by omega))
        show zG C cm63V (40 - 3 * k.toNat - 1) (1200 - 50 * k.toNat - (5 : Int).toNat) 236 [(1, .long (hp22z)), (5, .int (zI (k))), (4, .int (zI ((6 : Nat)))), (3, .ref (c 62)), (0, .ref (c 60))] [.ref q23, .long (hp22z)]
        refine zr_callS (kc' := (40 - 3 * k.toNat - 1)) (ks' := (1200 - 50 * k.toNat - (5 : Int).toNat)) X 239 2 (m_X8_mixed l Γ (V := cm63V) (x := hp22z) cm63s (by omega)) gX8_digest_X8_mixed rfl (by decide +kernel) rfl (by decide) rfl (Nat.le_of_ble_eq_true rfl) dX8_digest_236 rfl (by omega) (by omega) (fun rv65 V66 hp67 => ?_)
        obtain ⟨⟨hp67z, hp67e⟩, hp67v⟩ := hp67
        rw [hp67e, hp67v]
        show zG C cm63V (40 - 3 * k.toNat - 1) (1200 - 50 * k.toNat - (5 : Int).toNat) 239 [(1, .long (hp22z)), (5, .int (zI (k))), (4, .int (zI ((6 : Nat)))), (3, .ref (c 62)), (0, .ref (c 60))] [.long (hp67z)]
        refine zr_lstore_n X 240 [(1, .long (hp67z)), (5, .int (zI (k))), (4, .int (zI ((6 : Nat)))), (3, .ref (c 62)), (0, .ref (c 60))] dX8_digest_239 rfl (by decide) rfl ?_
        refine zr_aload_n X 241 4 dX8_digest_240 rfl rfl ?_
        have c868 : cm63V (c 60) = some (60, .inr (9, [.ref (md 61), .int (zI (κ 0)), .ref (c 62), .ref (md 63), .ref (md 64), .ref (c 65), .int (zI (τ7 26)), .int (zI (τ7 28)), .int (zI (τ7 29)), .ref (c 66), .int (zI (τ7 36))])) := cm63m.1
        refine zr_get X 244 9 8 c868 rfl iX8 (by decide) w8 rfl rfl dX8_digest_241 rfl ?_
        refine zr_istore_n X 245 [(3, .int (zI (τ7 29))), (1, .long (hp67z)), (5, .int (zI (k))), (4, .int (zI ((6 : Nat)))), (0, .ref (c 60))] dX8_digest_244 rfl (by decide) rfl ?_
        obtain ⟨c869f, c869, c869c⟩ := cm63m.2.2.2.2.2.2.1
        refine zr_sub [0, 1, 4] [(3, .int (zI (τ7 29))), (1, .long (hp67z)), (0, .ref (c 60))] rfl ?_
        have loop3 : ∀ (N : Nat) (x3 : Int64) (k3 : Int), τ7 29 ≤ k3 ∧ k3 ≤ τ7 28 → (τ7 28 - k3).toNat = N → zG C cm63V (40 - 3 * k.toNat - 1) (1200 - 50 * k.toNat - (5 : Int).toNat) 245 [(3, .int (zI (k3))), (1, .long (x3)), (0, .ref (c 60))] [] := by
          intro N
          induction N using Nat.strongRecOn with
          | _ N ih =>
          intro x3 k3 hI hN
          obtain ⟨hJ1, hJ2⟩ := id hI
          refine zr_iload_n X 246 0 dX8_digest_245 rfl rfl ?_
          refine zr_aload_n X 247 2 dX8_digest_246 rfl rfl ?_
          refine zr_get X 250 9 7 c868 rfl iX8 (by decide) w7 rfl rfl dX8_digest_247 rfl ?_
          refine zr_icmp_ge X 273 253 dX8_digest_250 rfl rfl (by omega) (by omega) (fun bq70 => ?_) (fun bq70 => ?_)
          · refine zr_lload_n X 274 1 dX8_digest_273 rfl rfl ?_
            refine zr_ldc2 X 277 (v := 31) dX8_digest_274 rfl w3 ?_
            refine zr_lmul X 278 dX8_digest_277 rfl ?_
            refine zr_aload_n X 279 2 dX8_digest_278 rfl rfl ?_
            refine zr_get X 282 9 7 c868 rfl iX8 (by decide) w7 rfl rfl dX8_digest_279 rfl ?_
            refine zr_i2l X 283 dX8_digest_282 rfl ?_
            obtain ⟨y71, y71e⟩ : ∃ zz9 : Int64, zz9 = (zI (τ7 28)).toInt64 := ⟨_, rfl⟩
            rw [← y71e]
            refine zr_ladd X 284 dX8_digest_283 rfl ?_
            refine zr_aload_n X 285 2 dX8_digest_284 rfl rfl ?_
            refine zr_get X 288 9 9 c868 rfl iX8 (by decide) w9 rfl rfl dX8_digest_285 rfl ?_
            obtain ⟨c872f, c872, c8720, c8721, c8722, c8723⟩ := cm63m.2.2.2.2.2.2.2.1
            refine zr_callS (kc' := (40 - 3 * k.toNat - 1)) (ks' := (1200 - 50 * k.toNat - (5 : Int).toNat)) X 291 2 (m_X8_mixed l Γ (V := cm63V) (x := (x3 * 31) + y71) c872 (by omega)) gX8_digest_X8_mixed rfl (by decide +kernel) rfl (by decide) rfl (Nat.le_of_ble_eq_true rfl) dX8_digest_288 rfl (by omega) (by omega) (fun rv73 V74 hp75 => ?_)
            obtain ⟨⟨hp75z, hp75e⟩, hp75v⟩ := hp75
            rw [hp75e, hp75v]
            show zG C cm63V (40 - 3 * k.toNat - 1) (1200 - 50 * k.toNat - (5 : Int).toNat) 291 [(3, .int (zI (k3))), (1, .long (x3)), (0, .ref (c 60))] [.long (hp75z)]
            refine zr_iconst X 292 dX8_digest_291 rfl ?_
            refine zr_newai (kc' := ((40 - 3 * k.toNat - 1) - 1)) (ks' := ((1200 - 50 * k.toNat - (5 : Int).toNat) - (1 : Int).toNat)) X 294 93 w6 (by omega) dX8_digest_292 rfl (by omega) (by omega) (fun q76 hq77 => ?_)
            have nz78 := zag.rf.new (P := zal) (t := 93) (e := za Γ.2.1 0 ((1 : Int).toNat) (fun _ => 0)) hq77
            obtain ⟨cm79h, cm79f⟩ := (⟨cm63m.kept nz78 (fun _ _ _ => trivial), nz78⟩ : _ ∧ _)
            obtain ⟨cm79V, cm79e⟩ : ∃ zz9 : zV, zz9 = (zu cm63V q76 93 (za Γ.2.1 0 ((1 : Int).toNat) (fun _ => 0))) := ⟨_, rfl⟩
            have cm79m : zMo Γ cm79V c md (τ7) κ E := by
              rw [cm79e]
              exact cm79h
            have cm79g : zag zal cm63V cm79V := by
              rw [cm79e]
              exact cm79f
            have cm79s : cm79V q76 = some (93, za Γ.2.1 0 ((1 : Int).toNat) (fun _ => 0)) := by
              rw [cm79e]
              exact zu_eq _ _ _ _
            refine zr_view (cm79e).symm ?_
            have lc80 := cm79g _ _ _ cm63s trivial
            have fx81 : zfm V cm79V := zag.tr fx64 (cm79g.mono (fun _ _ => trivial))
            show zG C cm79V ((40 - 3 * k.toNat - 1) - 1) ((1200 - 50 * k.toNat - (5 : Int).toNat) - (1 : Int).toNat) 294 [(3, .int (zI (k3))), (1, .long (x3)), (0, .ref (c 60))] [.ref q76, .long (hp75z)]
            refine zr_dup X 295 dX8_digest_294 rfl rfl ?_
            refine zr_iconst X 296 dX8_digest_295 rfl ?_
            refine zr_aload_n X 297 2 dX8_digest_296 rfl rfl ?_
            refine zr_callVe (kc' := (((40 - 3 * k.toNat - 1) - 1) - 12)) (ks' := (((1200 - 50 * k.toNat - (5 : Int).toNat) - (1 : Int).toNat) - 480)) X 300 0 (m_X8_isRight l Γ cm79m) gX8_digest_X8_isRight rfl (by decide +kernel) rfl (by decide) ⟨_, _, cm79m.1⟩ rfl rfl (Nat.le_of_ble_eq_true rfl) dX8_digest_297 rfl (by omega) (by omega) (fun rv82 V83 hp84 => ?_)
            obtain ⟨⟨hp84y, hp84e, hp84a⟩, hp84m, hp84g⟩ := hp84
            rw [hp84e]
            have lc85 := hp84g _ _ _ lc80 trivial
            have lc86 := hp84g _ _ _ cm79s trivial
            have fx87 : zfm V V83 := zag.tr fx81 (hp84g.mono (fun _ _ => trivial))
            show zG C V83 (((40 - 3 * k.toNat - 1) - 1) - 12) (((1200 - 50 * k.toNat - (5 : Int).toNat) - (1 : Int).toNat) - 480) 300 [(3, .int (zI (k3))), (1, .long (x3)), (0, .ref (c 60))] [.int (zI (hp84y)), .int (zI (0)), .ref q76, .ref q76, .long (hp75z)]
            refine zr_if_eq X 307 303 dX8_digest_300 rfl rfl (by omega) (fun bq88 => ?_) (fun bq88 => ?_)
            · refine zr_iconst X 308 dX8_digest_307 rfl ?_
              refine zr_iast X 309 lc86 (by omega) dX8_digest_308 rfl ?_
              have lc86z := zag.one (e' := za Γ.2.1 0 ((1 : Int).toNat) (zf (fun _ => 0) (0 : Int).toNat 0)) lc86
              obtain ⟨cm89h, cm89f⟩ := (⟨hp84m.kept lc86z (fun t h1 h2 => by omega), lc86z⟩ : _ ∧ _)
              obtain ⟨cm89V, cm89e⟩ : ∃ zz9 : zV, zz9 = (zu V83 q76 93 (za Γ.2.1 0 ((1 : Int).toNat) (zf (fun _ => 0) (0 : Int).toNat 0))) := ⟨_, rfl⟩
              have cm89m : zMo Γ cm89V c md (τ7) κ E := by
                rw [cm89e]
                exact cm89h
              have cm89g : zag (fun x => x ≠ 93) V83 cm89V := by
                rw [cm89e]
                exact cm89f
              have cm89s : cm89V q76 = some (93, za Γ.2.1 0 ((1 : Int).toNat) (zf (fun _ => 0) (0 : Int).toNat 0)) := by
                rw [cm89e]
                exact zu_eq _ _ _ _
              refine zr_view (cm89e).symm ?_
              have lc90 := cm89g _ _ _ lc85 (by omega)
              have fx91 : zfm V cm89V := zag.tr fx87 (cm89g.mono (fun t ht => by omega))
              show zG C cm89V (((40 - 3 * k.toNat - 1) - 1) - 12) (((1200 - 50 * k.toNat - (5 : Int).toNat) - (1 : Int).toNat) - 480) 309 [(3, .int (zI (k3))), (1, .long (x3)), (0, .ref (c 60))] [.ref q76, .long (hp75z)]
              refine zr_callS (kc' := (((40 - 3 * k.toNat - 1) - 1) - 12)) (ks' := (((1200 - 50 * k.toNat - (5 : Int).toNat) - (1 : Int).toNat) - 480)) X 312 2 (m_X8_mixed l Γ (V := cm89V) (x := hp75z) cm89s (by omega)) gX8_digest_X8_mixed rfl (by decide +kernel) rfl (by decide) rfl (Nat.le_of_ble_eq_true rfl) dX8_digest_309 rfl (by omega) (by omega) (fun rv92 V93 hp94 => ?_)
              obtain ⟨⟨hp94z, hp94e⟩, hp94v⟩ := hp94
              rw [hp94e, hp94v]
              show zG C cm89V (((40 - 3 * k.toNat - 1) - 1) - 12) (((1200 - 50 * k.toNat - (5 : Int).toNat) - (1 : Int).toNat) - 480) 312 [(3, .int (zI (k3))), (1, .long (x3)), (0, .ref (c 60))] [.long (hp94z)]
              exact zr_lret X rfl ⟨⟨_, rfl⟩, by rw [← τ7e]; exact cm89m, fx91⟩ dX8_digest_312
            · refine zr_iconst X 304 dX8_digest_303 rfl ?_
              refine zr_goto X 308 dX8_digest_304 rfl ?_
              refine zr_iast X 309 lc86 (by omega) dX8_digest_308 rfl ?_
              have lc86z := zag.one (e' := za Γ.2.1 0 ((1 : Int).toNat) (zf (fun _ => 0) (0 : Int).toNat 1)) lc86
              obtain ⟨cm95h, cm95f⟩ := (⟨hp84m.kept lc86z (fun t h1 h2 => by omega), lc86z⟩ : _ ∧ _)
              obtain ⟨cm95V, cm95e⟩ : ∃ zz9 : zV, zz9 = (zu V83 q76 93 (za Γ.2.1 0 ((1 : Int).toNat) (zf (fun _ => 0) (0 : Int).toNat 1))) := ⟨_, rfl⟩
              have cm95m : zMo Γ cm95V c md (τ7) κ E := by
                rw [cm95e]
                exact cm95h
              have cm95g : zag (fun x => x ≠ 93) V83 cm95V := by
                rw [cm95e]
                exact cm95f
              have cm95s : cm95V q76 = some (93, za Γ.2.1 0 ((1 : Int).toNat) (zf (fun _ => 0) (0 : Int).toNat 1)) := by
                rw [cm95e]
                exact zu_eq _ _ _ _
              refine zr_view (cm95e).symm ?_
              have lc96 := cm95g _ _ _ lc85 (by omega)
              have fx97 : zfm V cm95V := zag.tr fx87 (cm95g.mono (fun t ht => by omega))
              show zG C cm95V (((40 - 3 * k.toNat - 1) - 1) - 12) (((1200 - 50 * k.toNat - (5 : Int).toNat) - (1 : Int).toNat) - 480) 309 [(3, .int (zI (k3))), (1, .long (x3)), (0, .ref (c 60))] [.ref q76, .long (hp75z)]
              refine zr_callS (kc' := (((40 - 3 * k.toNat - 1) - 1) - 12)) (ks' := (((1200 - 50 * k.toNat - (5 : Int).toNat) - (1 : Int).toNat) - 480)) X 312 2 (m_X8_mixed l Γ (V := cm95V) (x := hp75z) cm95s (by omega)) gX8_digest_X8_mixed rfl (by decide +kernel) rfl (by decide) rfl (Nat.le_of_ble_eq_true rfl) dX8_digest_309 rfl (by omega) (by omega) (fun rv98 V99 hp100 => ?_)
              obtain ⟨⟨hp100z, hp100e⟩, hp100v⟩ := hp100
              rw [hp100e, hp100v]
              show zG C cm95V (((40 - 3 * k.toNat - 1) - 1) - 12) (((1200 - 50 * k.toNat - (5 : Int).toNat) - (1 : Int).toNat) - 480) 312 [(3, .int (zI (k3))), (1, .long (x3)), (0, .ref (c 60))] [.long (hp100z)]
              exact zr_lret X rfl ⟨⟨_, rfl⟩, by rw [← τ7e]; exact cm95m, fx97⟩ dX8_digest_312
          · refine zr_lload_n X 254 1 dX8_digest_253 rfl rfl ?_
            refine zr_ldc2 X 257 (v := 31) dX8_digest_254 rfl w3 ?_
            refine zr_lmul X 258 dX8_digest_257 rfl ?_
            refine zr_aload_n X 259 2 dX8_digest_258 rfl rfl ?_
            refine zr_get X 262 9 5 c868 rfl iX8 (by decide) w10 rfl rfl dX8_digest_259 rfl ?_
            refine zr_iload_n X 263 0 dX8_digest_262 rfl rfl ?_
            refine zr_iald X 264 c869 (by omega) dX8_digest_263 rfl ?_
            have zb101 := zc.b c869c (k3).toNat
            refine zr_i2l X 265 dX8_digest_264 rfl ?_
            obtain ⟨y102, y102e⟩ : ∃ zz9 : Int64, zz9 = (zI (c869f (k3).toNat)).toInt64 := ⟨_, rfl⟩
            rw [← y102e]
            refine zr_ladd X 266 dX8_digest_265 rfl ?_
            refine zr_lstore_n X 267 [(1, .long ((x3 * 31) + y102)), (3, .int (zI (k3))), (0, .ref (c 60))] dX8_digest_266 rfl (by decide) rfl ?_
            refine zr_iinc X 270 1 [(3, .int (zI (k3 + 1))), (1, .long ((x3 * 31) + y102)), (0, .ref (c 60))] dX8_digest_267 rfl rfl (by decide) rfl ?_
            refine zr_goto X 245 dX8_digest_270 rfl ?_
            exact ih _ (by omega) ((x3 * 31) + y102) (k3 + 1) ⟨by omega, by omega⟩ rfl
        exact loop3 _ hp67z (τ7 29) ⟨by omega, by omega⟩ rfl
      · refine zr_aload_n X 31 2 dX8_digest_30 rfl rfl ?_
        refine zr_iload X 33 0 dX8_digest_31 rfl rfl ?_
        have c8103 : V1 (c 62) = some (62, zq Γ.2.1 4 6 (fun i => some (md (70 + i)))) := hI1.2.2.1
        refine zr_aaldI X 34 (.ref (md (70 + k.toNat))) c8103 (by omega) rfl dX8_digest_33 rfl ?_
        refine zr_astore X 36 [(6, .ref (md (70 + k.toNat))), (5, .int (zI (k))), (4, .int (zI ((6 : Nat)))), (3, .ref (c 62)), (1, .long (x1)), (0, .ref (c 60))] dX8_digest_34 rfl (by decide) rfl ?_
        refine zr_aload_n X 37 5 dX8_digest_36 rfl rfl ?_
        refine zr_aload X 39 0 dX8_digest_37 rfl rfl ?_
        have hw105 := hI1.w (i := k.toNat) (by omega)
        have hw105r := hw105.rg
        have hw105d := hw105.mk
        have z0106 : (zf τ 36 0) (4 * k.toNat) = τ7 (4 * k.toNat) := by rw [τ7e]
        have z0107 : (zf τ 36 0) (4 * k.toNat + 1) = τ7 (4 * k.toNat + 1) := by rw [τ7e]
        have z0108 : (zf τ 36 0) (4 * k.toNat + 2) = τ7 (4 * k.toNat + 2) := by rw [τ7e]
        have z0109 : (zf τ 36 0) (4 * k.toNat + 3) = τ7 (4 * k.toNat + 3) := by rw [τ7e]
        refine zr_callVe (kc' := (40 - 3 * k.toNat - 1)) (ks' := (1200 - 50 * k.toNat - 40)) X 42 1 (m_X8_text l Γ (tg := 76) (i := k) hI1 (by omega)) gX8_digest_X8_text rfl (by decide +kernel) rfl (by decide) ⟨_, _, hI1.1⟩ rfl rfl (Nat.le_of_ble_eq_true rfl) dX8_digest_39 rfl (by omega) (by omega) (fun rv110 V111 hp112 => ?_)
        obtain ⟨hp112q, hp112f, hp112e, hp112h, hp112c, hp112g, hp112z⟩ := hp112
        rw [hp112e]
        have hp112m := hI1.kept hp112g (fun _ _ _ => trivial)
        have fx113 : zfm V V111 := zag.tr hI2 (hp112g.mono (fun _ _ => trivial))
        show zG C V111 (40 - 3 * k.toNat - 1) (1200 - 50 * k.toNat - 40) 42 [(6, .ref (md (70 + k.toNat))), (5, .int (zI (k))), (4, .int (zI ((6 : Nat)))), (3, .ref (c 62)), (1, .long (x1)), (0, .ref (c 60))] [.ref hp112q]
        refine zr_astore X 44 [(7, .ref hp112q), (6, .ref (md (70 + k.toNat))), (5, .int (zI (k))), (4, .int (zI ((6 : Nat)))), (3, .ref (c 62)), (1, .long (x1)), (0, .ref (c 60))] dX8_digest_42 rfl (by decide) rfl ?_
        refine zr_lload_n X 45 5 dX8_digest_44 rfl rfl ?_
        refine zr_iconst X 46 dX8_digest_45 rfl ?_
        refine zr_newai (kc' := ((40 - 3 * k.toNat - 1) - 1)) (ks' := ((1200 - 50 * k.toNat - 40) - (4 : Int).toNat)) X 48 90 w6 (by omega) dX8_digest_46 rfl (by omega) (by omega) (fun q114 hq115 => ?_)
        have nz116 := zag.rf.new (P := zal) (t := 90) (e := za Γ.2.1 0 ((4 : Int).toNat) (fun _ => 0)) hq115
        obtain ⟨cm117h, cm117f⟩ := (⟨hp112m.kept nz116 (fun _ _ _ => trivial), nz116⟩ : _ ∧ _)
        obtain ⟨cm117V, cm117e⟩ : ∃ zz9 : zV, zz9 = (zu V111 q114 90 (za Γ.2.1 0 ((4 : Int).toNat) (fun _ => 0))) := ⟨_, rfl⟩
        have cm117m : zMo Γ cm117V c md (τ7) κ E := by
          rw [cm117e]
          exact cm117h
        have cm117g : zag zal V111 cm117V := by
          rw [cm117e]
          exact cm117f
        have cm117s : cm117V q114 = some (90, za Γ.2.1 0 ((4 : Int).toNat) (fun _ => 0)) := by
          rw [cm117e]
          exact zu_eq _ _ _ _
        refine zr_view (cm117e).symm ?_
        have lc118 := cm117g _ _ _ hp112h trivial
        have fx119 : zfm V cm117V := zag.tr fx113 (cm117g.mono (fun _ _ => trivial))
        show zG C cm117V ((40 - 3 * k.toNat - 1) - 1) ((1200 - 50 * k.toNat - 40) - (4 : Int).toNat) 48 [(7, .ref hp112q), (6, .ref (md (70 + k.toNat))), (5, .int (zI (k))), (4, .int (zI ((6 : Nat)))), (3, .ref (c 62)), (1, .long (x1)), (0, .ref (c 60))] [.ref q114, .long (x1)]
        refine zr_dup X 49 dX8_digest_48 rfl rfl ?_
        refine zr_iconst X 50 dX8_digest_49 rfl ?_
        refine zr_aload X 52 1 dX8_digest_50 rfl rfl ?_
        refine zr_iconst X 53 dX8_digest_52 rfl ?_
        have hw121 := cm117m.w (i := k.toNat) (by omega)
        have hw121r := hw121.rg
        have hw121d := hw121.mk
        have z0122 : (zf τ 36 0) (4 * k.toNat) = τ7 (4 * k.toNat) := by rw [τ7e]
        have z0123 : (zf τ 36 0) (4 * k.toNat + 1) = τ7 (4 * k.toNat + 1) := by rw [τ7e]
        have z0124 : (zf τ 36 0) (4 * k.toNat + 2) = τ7 (4 * k.toNat + 2) := by rw [τ7e]
        have z0125 : (zf τ 36 0) (4 * k.toNat + 3) = τ7 (4 * k.toNat + 3) := by rw [τ7e]
        refine zr_iald X 54 hw121.1 (by omega) dX8_digest_53 rfl ?_
        show zG C cm117V ((40 - 3 * k.toNat - 1) - 1) ((1200 - 50 * k.toNat - 40) - (4 : Int).toNat) 54 [(7, .ref hp112q), (6, .ref (md (70 + k.toNat))), (5, .int (zI (k))), (4, .int (zI ((6 : Nat)))), (3, .ref (c 62)), (1, .long (x1)), (0, .ref (c 60))] [.int (zI (τ7 (4 * k.toNat + 2))), .int (zI (0)), .ref q114, .ref q114, .long (x1)]
        refine zr_iast X 55 cm117s (by omega) dX8_digest_54 rfl ?_
        have cm117sz := zag.one (e' := za Γ.2.1 0 ((4 : Int).toNat) (zf (fun _ => 0) (0 : Int).toNat (τ7 (4 * k.toNat + 2)))) cm117s
        obtain ⟨cm126h, cm126f⟩ := (⟨cm117m.kept cm117sz (fun t h1 h2 => by omega), cm117sz⟩ : _ ∧ _)
        obtain ⟨cm126V, cm126e⟩ : ∃ zz9 : zV, zz9 = (zu cm117V q114 90 (za Γ.2.1 0 ((4 : Int).toNat) (zf (fun _ => 0) (0 : Int).toNat (τ7 (4 * k.toNat + 2))))) := ⟨_, rfl⟩
        have cm126m : zMo Γ cm126V c md (τ7) κ E := by
          rw [cm126e]
          exact cm126h
        have cm126g : zag (fun x => x ≠ 90) cm117V cm126V := by
          rw [cm126e]
          exact cm126f
        have cm126s : cm126V q114 = some (90, za Γ.2.1 0 ((4 : Int).toNat) (zf (fun _ => 0) (0 : Int).toNat (τ7 (4 * k.toNat + 2)))) := by
          rw [cm126e]
          exact zu_eq _ _ _ _
        refine zr_view (cm126e).symm ?_
        have lc127 := cm126g _ _ _ lc118 (by omega)
        have fx128 : zfm V cm126V := zag.tr fx119 (cm126g.mono (fun t ht => by omega))
        show zG C cm126V ((40 - 3 * k.toNat - 1) - 1) ((1200 - 50 * k.toNat - 40) - (4 : Int).toNat) 55 [(7, .ref hp112q), (6, .ref (md (70 + k.toNat))), (5, .int (zI (k))), (4, .int (zI ((6 : Nat)))), (3, .ref (c 62)), (1, .long (x1)), (0, .ref (c 60))] [.ref q114, .long (x1)]
        refine zr_dup X 56 dX8_digest_55 rfl rfl ?_
        refine zr_iconst X 57 dX8_digest_56 rfl ?_
        refine zr_aload X 59 1 dX8_digest_57 rfl rfl ?_
        refine zr_iconst X 60 dX8_digest_59 rfl ?_
        have hw130 := cm126m.w (i := k.toNat) (by omega)
        have hw130r := hw130.rg
        have hw130d := hw130.mk
        have z0131 : (zf τ 36 0) (4 * k.toNat) = τ7 (4 * k.toNat) := by rw [τ7e]
        have z0132 : (zf τ 36 0) (4 * k.toNat + 1) = τ7 (4 * k.toNat + 1) := by rw [τ7e]
        have z0133 : (zf τ 36 0) (4 * k.toNat + 2) = τ7 (4 * k.toNat + 2) := by rw [τ7e]
        have z0134 : (zf τ 36 0) (4 * k.toNat + 3) = τ7 (4 * k.toNat + 3) := by rw [τ7e]
        refine zr_iald X 61 hw130.1 (by omega) dX8_digest_60 rfl ?_
        show zG C cm126V ((40 - 3 * k.toNat - 1) - 1) ((1200 - 50 * k.toNat - 40) - (4 : Int).toNat) 61 [(7, .ref hp112q), (6, .ref (md (70 + k.toNat))), (5, .int (zI (k))), (4, .int (zI ((6 : Nat)))), (3, .ref (c 62)), (1, .long (x1)), (0, .ref (c 60))] [.int (zI (τ7 (4 * k.toNat + 1))), .int (zI (1)), .ref q114, .ref q114, .long (x1)]
        refine zr_iast X 62 cm126s (by omega) dX8_digest_61 rfl ?_
        have cm126sz := zag.one (e' := za Γ.2.1 0 ((4 : Int).toNat) (zf (zf (fun _ => 0) (0 : Int).toNat (τ7 (4 * k.toNat + 2))) (1 : Int).toNat (τ7 (4 * k.toNat + 1)))) cm126s
        obtain ⟨cm135h, cm135f⟩ := (⟨cm126m.kept cm126sz (fun t h1 h2 => by omega), cm126sz⟩ : _ ∧ _)
        obtain ⟨cm135V, cm135e⟩ : ∃ zz9 : zV, zz9 = (zu cm126V q114 90 (za Γ.2.1 0 ((4 : Int).toNat) (zf (zf (fun _ => 0) (0 : Int).toNat (τ7 (4 * k.toNat + 2))) (1 : Int).toNat (τ7 (4 * k.toNat + 1))))) := ⟨_, rfl⟩
        have cm135m : zMo Γ cm135V c md (τ7) κ E := by
          rw [cm135e]
          exact cm135h
        have cm135g : zag (fun x => x ≠ 90) cm126V cm135V := by
          rw [cm135e]
          exact cm135f
        have cm135s : cm135V q114 = some (90, za Γ.2.1 0 ((4 : Int).toNat) (zf (zf (fun _ => 0) (0 : Int).toNat (τ7 (4 * k.toNat + 2))) (1 : Int).toNat (τ7 (4 * k.toNat + 1)))) := by
          rw [cm135e]
          exact zu_eq _ _ _ _
        refine zr_view (cm135e).symm ?_
        have lc136 := cm135g _ _ _ lc127 (by omega)
        have fx137 : zfm V cm135V := zag.tr fx128 (cm135g.mono (fun t ht => by omega))
        show zG C cm135V ((40 - 3 * k.toNat - 1) - 1) ((1200 - 50 * k.toNat - 40) - (4 : Int).toNat) 62 [(7, .ref hp112q), (6, .ref (md (70 + k.toNat))), (5, .int (zI (k))), (4, .int (zI ((6 : Nat)))), (3, .ref (c 62)), (1, .long (x1)), (0, .ref (c 60))] [.ref q114, .long (x1)]
        refine zr_dup X 63 dX8_digest_62 rfl rfl ?_
        refine zr_iconst X 64 dX8_digest_63 rfl ?_
        refine zr_aload X 66 1 dX8_digest_64 rfl rfl ?_
        refine zr_iconst X 67 dX8_digest_66 rfl ?_
        have hw139 := cm135m.w (i := k.toNat) (by omega)
        have hw139r := hw139.rg
        have hw139d := hw139.mk
        have z0140 : (zf τ 36 0) (4 * k.toNat) = τ7 (4 * k.toNat) := by rw [τ7e]
        have z0141 : (zf τ 36 0) (4 * k.toNat + 1) = τ7 (4 * k.toNat + 1) := by rw [τ7e]
        have z0142 : (zf τ 36 0) (4 * k.toNat + 2) = τ7 (4 * k.toNat + 2) := by rw [τ7e]
        have z0143 : (zf τ 36 0) (4 * k.toNat + 3) = τ7 (4 * k.toNat + 3) := by rw [τ7e]
        refine zr_iald X 68 hw139.1 (by omega) dX8_digest_67 rfl ?_
        show zG C cm135V ((40 - 3 * k.toNat - 1) - 1) ((1200 - 50 * k.toNat - 40) - (4 : Int).toNat) 68 [(7, .ref hp112q), (6, .ref (md (70 + k.toNat))), (5, .int (zI (k))), (4, .int (zI ((6 : Nat)))), (3, .ref (c 62)), (1, .long (x1)), (0, .ref (c 60))] [.int (zI (τ7 (4 * k.toNat))), .int (zI (2)), .ref q114, .ref q114, .long (x1)]
        refine zr_iast X 69 cm135s (by omega) dX8_digest_68 rfl ?_
        have cm135sz := zag.one (e' := za Γ.2.1 0 ((4 : Int).toNat) (zf (zf (zf (fun _ => 0) (0 : Int).toNat (τ7 (4 * k.toNat + 2))) (1 : Int).toNat (τ7 (4 * k.toNat + 1))) (2 : Int).toNat (τ7 (4 * k.toNat)))) cm135s
        obtain ⟨cm144h, cm144f⟩ := (⟨cm135m.kept cm135sz (fun t h1 h2 => by omega), cm135sz⟩ : _ ∧ _)
        obtain ⟨cm144V, cm144e⟩ : ∃ zz9 : zV, zz9 = (zu cm135V q114 90 (za Γ.2.1 0 ((4 : Int).toNat) (zf (zf (zf (fun _ => 0) (0 : Int).toNat (τ7 (4 * k.toNat + 2))) (1 : Int).toNat (τ7 (4 * k.toNat + 1))) (2 : Int).toNat (τ7 (4 * k.toNat))))) := ⟨_, rfl⟩
        have cm144m : zMo Γ cm144V c md (τ7) κ E := by
          rw [cm144e]
          exact cm144h
        have cm144g : zag (fun x => x ≠ 90) cm135V cm144V := by
          rw [cm144e]
          exact cm144f
        have cm144s : cm144V q114 = some (90, za Γ.2.1 0 ((4 : Int).toNat) (zf (zf (zf (fun _ => 0) (0 : Int).toNat (τ7 (4 * k.toNat + 2))) (1 : Int).toNat (τ7 (4 * k.toNat + 1))) (2 : Int).toNat (τ7 (4 * k.toNat)))) := by
          rw [cm144e]
          exact zu_eq _ _ _ _
        refine zr_view (cm144e).symm ?_
        have lc145 := cm144g _ _ _ lc136 (by omega)
        have fx146 : zfm V cm144V := zag.tr fx137 (cm144g.mono (fun t ht => by omega))
        show zG C cm144V ((40 - 3 * k.toNat - 1) - 1) ((1200 - 50 * k.toNat - 40) - (4 : Int).toNat) 69 [(7, .ref hp112q), (6, .ref (md (70 + k.toNat))), (5, .int (zI (k))), (4, .int (zI ((6 : Nat)))), (3, .ref (c 62)), (1, .long (x1)), (0, .ref (c 60))] [.ref q114, .long (x1)]
        refine zr_dup X 70 dX8_digest_69 rfl rfl ?_
        refine zr_iconst X 71 dX8_digest_70 rfl ?_
        refine zr_aload X 73 1 dX8_digest_71 rfl rfl ?_
        have hw148 := cm144m.w (i := k.toNat) (by omega)
        have hw148r := hw148.rg
        have hw148d := hw148.mk
        have z0149 : (zf τ 36 0) (4 * k.toNat) = τ7 (4 * k.toNat) := by rw [τ7e]
        have z0150 : (zf τ 36 0) (4 * k.toNat + 1) = τ7 (4 * k.toNat + 1) := by rw [τ7e]
        have z0151 : (zf τ 36 0) (4 * k.toNat + 2) = τ7 (4 * k.toNat + 2) := by rw [τ7e]
        have z0152 : (zf τ 36 0) (4 * k.toNat + 3) = τ7 (4 * k.toNat + 3) := by rw [τ7e]
        refine zr_callS (kc' := ((40 - 3 * k.toNat - 1) - 1)) (ks' := ((1200 - 50 * k.toNat - 40) - (4 : Int).toNat)) X 76 1 (m_X8_markOf l Γ hw148.1 (by omega) (by omega)) gX8_digest_X8_markOf rfl (by decide +kernel) rfl (by decide) rfl (Nat.le_of_ble_eq_true rfl) dX8_digest_73 rfl (by omega) (by omega) (fun rv153 V154 hp155 => ?_)
        obtain ⟨⟨y156, y156e, y1560⟩, y156v⟩ := hp155
        rw [y156e, y156v]
        show zG C cm144V ((40 - 3 * k.toNat - 1) - 1) ((1200 - 50 * k.toNat - 40) - (4 : Int).toNat) 76 [(7, .ref hp112q), (6, .ref (md (70 + k.toNat))), (5, .int (zI (k))), (4, .int (zI ((6 : Nat)))), (3, .ref (c 62)), (1, .long (x1)), (0, .ref (c 60))] [.int (zI (y156)), .int (zI (3)), .ref q114, .ref q114, .long (x1)]
        refine zr_iast X 77 cm144s (by omega) dX8_digest_76 rfl ?_
        have cm144sz := zag.one (e' := za Γ.2.1 0 ((4 : Int).toNat) (zf (zf (zf (zf (fun _ => 0) (0 : Int).toNat (τ7 (4 * k.toNat + 2))) (1 : Int).toNat (τ7 (4 * k.toNat + 1))) (2 : Int).toNat (τ7 (4 * k.toNat))) (3 : Int).toNat y156)) cm144s
        obtain ⟨cm157h, cm157f⟩ := (⟨cm144m.kept cm144sz (fun t h1 h2 => by omega), cm144sz⟩ : _ ∧ _)
        obtain ⟨cm157V, cm157e⟩ : ∃ zz9 : zV, zz9 = (zu cm144V q114 90 (za Γ.2.1 0 ((4 : Int).toNat) (zf (zf (zf (zf (fun _ => 0) (0 : Int).toNat (τ7 (4 * k.toNat + 2))) (1 : Int).toNat (τ7 (4 * k.toNat + 1))) (2 : Int).toNat (τ7 (4 * k.toNat))) (3 : Int).toNat y156))) := ⟨_, rfl⟩
        have cm157m : zMo Γ cm157V c md (τ7) κ E := by
          rw [cm157e]
          exact cm157h
        have cm157g : zag (fun x => x ≠ 90) cm144V cm157V := by
          rw [cm157e]
          exact cm157f
        have cm157s : cm157V q114 = some (90, za Γ.2.1 0 ((4 : Int).toNat) (zf (zf (zf (zf (fun _ => 0) (0 : Int).toNat (τ7 (4 * k.toNat + 2))) (1 : Int).toNat (τ7 (4 * k.toNat + 1))) (2 : Int).toNat (τ7 (4 * k.toNat))) (3 : Int).toNat y156)) := by
          rw [cm157e]
          exact zu_eq _ _ _ _
        refine zr_view (cm157e).symm ?_
        have lc158 := cm157g _ _ _ lc145 (by omega)
        have fx159 : zfm V cm157V := zag.tr fx146 (cm157g.mono (fun t ht => by omega))
        show zG C cm157V ((40 - 3 * k.toNat - 1) - 1) ((1200 - 50 * k.toNat - 40) - (4 : Int).toNat) 77 [(7, .ref hp112q), (6, .ref (md (70 + k.toNat))), (5, .int (zI (k))), (4, .int (zI ((6 : Nat)))), (3, .ref (c 62)), (1, .long (x1)), (0, .ref (c 60))] [.ref q114, .long (x1)]
        refine zr_callS (kc' := ((40 - 3 * k.toNat - 1) - 1)) (ks' := ((1200 - 50 * k.toNat - 40) - (4 : Int).toNat)) X 80 2 (m_X8_mixed l Γ (V := cm157V) (x := x1) cm157s (by omega)) gX8_digest_X8_mixed rfl (by decide +kernel) rfl (by decide) rfl (Nat.le_of_ble_eq_true rfl) dX8_digest_77 rfl (by omega) (by omega) (fun rv160 V161 hp162 => ?_)
        obtain ⟨⟨hp162z, hp162e⟩, hp162v⟩ := hp162
        rw [hp162e, hp162v]
        show zG C cm157V ((40 - 3 * k.toNat - 1) - 1) ((1200 - 50 * k.toNat - 40) - (4 : Int).toNat) 80 [(7, .ref hp112q), (6, .ref (md (70 + k.toNat))), (5, .int (zI (k))), (4, .int (zI ((6 : Nat)))), (3, .ref (c 62)), (1, .long (x1)), (0, .ref (c 60))] [.long (hp162z)]
        refine zr_lstore_n X 81 [(1, .long (hp162z)), (7, .ref hp112q), (6, .ref (md (70 + k.toNat))), (5, .int (zI (k))), (4, .int (zI ((6 : Nat)))), (3, .ref (c 62)), (0, .ref (c 60))] dX8_digest_80 rfl (by decide) rfl ?_
        refine zr_lload_n X 82 0 dX8_digest_81 rfl rfl ?_
        refine zr_aload X 84 1 dX8_digest_82 rfl rfl ?_
        refine zr_callS (kc' := ((40 - 3 * k.toNat - 1) - 1)) (ks' := ((1200 - 50 * k.toNat - 40) - (4 : Int).toNat)) X 87 2 (m_X8_mixed l Γ (V := cm157V) (x := hp162z) lc158 (by omega)) gX8_digest_X8_mixed rfl (by decide +kernel) rfl (by decide) rfl (Nat.le_of_ble_eq_true rfl) dX8_digest_84 rfl (by omega) (by omega) (fun rv163 V164 hp165 => ?_)
        obtain ⟨⟨hp165z, hp165e⟩, hp165v⟩ := hp165
        rw [hp165e, hp165v]
        show zG C cm157V ((40 - 3 * k.toNat - 1) - 1) ((1200 - 50 * k.toNat - 40) - (4 : Int).toNat) 87 [(1, .long (hp162z)), (7, .ref hp112q), (6, .ref (md (70 + k.toNat))), (5, .int (zI (k))), (4, .int (zI ((6 : Nat)))), (3, .ref (c 62)), (0, .ref (c 60))] [.long (hp165z)]
        refine zr_iconst X 88 dX8_digest_87 rfl ?_
        refine zr_newai (kc' := (((40 - 3 * k.toNat - 1) - 1) - 1)) (ks' := (((1200 - 50 * k.toNat - 40) - (4 : Int).toNat) - (2 : Int).toNat)) X 90 91 w6 (by omega) dX8_digest_88 rfl (by omega) (by omega) (fun q166 hq167 => ?_)
        have nz168 := zag.rf.new (P := zal) (t := 91) (e := za Γ.2.1 0 ((2 : Int).toNat) (fun _ => 0)) hq167
        obtain ⟨cm169h, cm169f⟩ := (⟨cm157m.kept nz168 (fun _ _ _ => trivial), nz168⟩ : _ ∧ _)
        obtain ⟨cm169V, cm169e⟩ : ∃ zz9 : zV, zz9 = (zu cm157V q166 91 (za Γ.2.1 0 ((2 : Int).toNat) (fun _ => 0))) := ⟨_, rfl⟩
        have cm169m : zMo Γ cm169V c md (τ7) κ E := by
          rw [cm169e]
          exact cm169h
        have cm169g : zag zal cm157V cm169V := by
          rw [cm169e]
          exact cm169f
        have cm169s : cm169V q166 = some (91, za Γ.2.1 0 ((2 : Int).toNat) (fun _ => 0)) := by
          rw [cm169e]
          exact zu_eq _ _ _ _
        refine zr_view (cm169e).symm ?_
        have lc170 := cm169g _ _ _ lc158 trivial
        have lc171 := cm169g _ _ _ cm157s trivial
        have fx172 : zfm V cm169V := zag.tr fx159 (cm169g.mono (fun _ _ => trivial))
        show zG C cm169V (((40 - 3 * k.toNat - 1) - 1) - 1) (((1200 - 50 * k.toNat - 40) - (4 : Int).toNat) - (2 : Int).toNat) 90 [(1, .long (hp162z)), (7, .ref hp112q), (6, .ref (md (70 + k.toNat))), (5, .int (zI (k))), (4, .int (zI ((6 : Nat)))), (3, .ref (c 62)), (0, .ref (c 60))] [.ref q166, .long (hp165z)]
        refine zr_dup X 91 dX8_digest_90 rfl rfl ?_
        refine zr_iconst X 92 dX8_digest_91 rfl ?_
        refine zr_aload X 94 1 dX8_digest_92 rfl rfl ?_
        refine zr_aload X 96 1 dX8_digest_94 rfl rfl ?_
        refine zr_alen X 97 0 lc170 (by decide) dX8_digest_96 rfl ?_
        refine zr_callS (kc' := (((40 - 3 * k.toNat - 1) - 1) - 1)) (ks' := (((1200 - 50 * k.toNat - 40) - (4 : Int).toNat) - (2 : Int).toNat)) X 100 2 (m_X8_greatest l Γ (mn := ((τ7 (4 * k.toNat + 1) - τ7 (4 * k.toNat + 2)).toNat : Nat)) lc170 hp112c (by omega) (by omega)) gX8_digest_X8_greatest rfl (by decide +kernel) rfl (by decide) rfl (Nat.le_of_ble_eq_true rfl) dX8_digest_97 rfl (by omega) (by omega) (fun rv173 V174 hp175 => ?_)
        obtain ⟨⟨y176, y176e, y1760, y1761, y1762⟩, y176v⟩ := hp175
        rw [y176e, y176v]
        show zG C cm169V (((40 - 3 * k.toNat - 1) - 1) - 1) (((1200 - 50 * k.toNat - 40) - (4 : Int).toNat) - (2 : Int).toNat) 100 [(1, .long (hp162z)), (7, .ref hp112q), (6, .ref (md (70 + k.toNat))), (5, .int (zI (k))), (4, .int (zI ((6 : Nat)))), (3, .ref (c 62)), (0, .ref (c 60))] [.int (zI (y176)), .int (zI (0)), .ref q166, .ref q166, .long (hp165z)]
        refine zr_iast X 101 cm169s (by omega) dX8_digest_100 rfl ?_
        have cm169sz := zag.one (e' := za Γ.2.1 0 ((2 : Int).toNat) (zf (fun _ => 0) (0 : Int).toNat y176)) cm169s
        obtain ⟨cm177h, cm177f⟩ := (⟨cm169m.kept cm169sz (fun t h1 h2 => by omega), cm169sz⟩ : _ ∧ _)
        obtain ⟨cm177V, cm177e⟩ : ∃ zz9 : zV, zz9 = (zu cm169V q166 91 (za Γ.2.1 0 ((2 : Int).toNat) (zf (fun _ => 0) (0 : Int).toNat y176))) := ⟨_, rfl⟩
        have cm177m : zMo Γ cm177V c md (τ7) κ E := by
          rw [cm177e]
          exact cm177h
        have cm177g : zag (fun x => x ≠ 91) cm169V cm177V := by
          rw [cm177e]
          exact cm177f
        have cm177s : cm177V q166 = some (91, za Γ.2.1 0 ((2 : Int).toNat) (zf (fun _ => 0) (0 : Int).toNat y176)) := by
          rw [cm177e]
          exact zu_eq _ _ _ _
        refine zr_view (cm177e).symm ?_
        have lc178 := cm177g _ _ _ lc170 (by omega)
        have lc179 := cm177g _ _ _ lc171 (by omega)
        have fx180 : zfm V cm177V := zag.tr fx172 (cm177g.mono (fun t ht => by omega))
        show zG C cm177V (((40 - 3 * k.toNat - 1) - 1) - 1) (((1200 - 50 * k.toNat - 40) - (4 : Int).toNat) - (2 : Int).toNat) 101 [(1, .long (hp162z)), (7, .ref hp112q), (6, .ref (md (70 + k.toNat))), (5, .int (zI (k))), (4, .int (zI ((6 : Nat)))), (3, .ref (c 62)), (0, .ref (c 60))] [.ref q166, .long (hp165z)]
        refine zr_dup X 102 dX8_digest_101 rfl rfl ?_
        refine zr_iconst X 103 dX8_digest_102 rfl ?_
        refine zr_aload X 105 1 dX8_digest_103 rfl rfl ?_
        refine zr_aload_n X 106 6 dX8_digest_105 rfl rfl ?_
        have c8181 : cm177V (c 60) = some (60, .inr (9, [.ref (md 61), .int (zI (κ 0)), .ref (c 62), .ref (md 63), .ref (md 64), .ref (c 65), .int (zI (τ7 26)), .int (zI (τ7 28)), .int (zI (τ7 29)), .ref (c 66), .int (zI (τ7 36))])) := cm177m.1
        refine zr_get X 109 9 4 c8181 rfl iX8 (by decide) w5 rfl rfl dX8_digest_106 rfl ?_
        refine zr_iconst X 110 dX8_digest_109 rfl ?_
        obtain ⟨c8182f, c8182, c8182c, c8182v⟩ := cm177m.ct.2.2.2.2
        refine zr_callS (kc' := (((40 - 3 * k.toNat - 1) - 1) - 1)) (ks' := (((1200 - 50 * k.toNat - 40) - (4 : Int).toNat) - (2 : Int).toNat)) X 113 3 (m_X8_nth l Γ (w := 0) lc178 hp112c (by omega) c8182 c8182c (by omega) (by omega)) gX8_digest_X8_nth rfl (by decide +kernel) rfl (by decide) rfl (Nat.le_of_ble_eq_true rfl) dX8_digest_110 rfl (by omega) (by omega) (fun rv183 V184 hp185 => ?_)
        obtain ⟨⟨y186, y186e, y1860, y1861, y1862, y1863⟩, y186v⟩ := hp185
        rw [y186e, y186v]
        show zG C cm177V (((40 - 3 * k.toNat - 1) - 1) - 1) (((1200 - 50 * k.toNat - 40) - (4 : Int).toNat) - (2 : Int).toNat) 113 [(1, .long (hp162z)), (7, .ref hp112q), (6, .ref (md (70 + k.toNat))), (5, .int (zI (k))), (4, .int (zI ((6 : Nat)))), (3, .ref (c 62)), (0, .ref (c 60))] [.int (zI (y186)), .int (zI (1)), .ref q166, .ref q166, .long (hp165z)]
        refine zr_iast X 114 cm177s (by omega) dX8_digest_113 rfl ?_
        have cm177sz := zag.one (e' := za Γ.2.1 0 ((2 : Int).toNat) (zf (zf (fun _ => 0) (0 : Int).toNat y176) (1 : Int).toNat y186)) cm177s
        obtain ⟨cm187h, cm187f⟩ := (⟨cm177m.kept cm177sz (fun t h1 h2 => by omega), cm177sz⟩ : _ ∧ _)
        obtain ⟨cm187V, cm187e⟩ : ∃ zz9 : zV, zz9 = (zu cm177V q166 91 (za Γ.2.1 0 ((2 : Int).toNat) (zf (zf (fun _ => 0) (0 : Int).toNat y176) (1 : Int).toNat y186))) := ⟨_, rfl⟩
        have cm187m : zMo Γ cm187V c md (τ7) κ E := by
          rw [cm187e]
          exact cm187h
        have cm187g : zag (fun x => x ≠ 91) cm177V cm187V := by
          rw [cm187e]
          exact cm187f
        have cm187s : cm187V q166 = some (91, za Γ.2.1 0 ((2 : Int).toNat) (zf (zf (fun _ => 0) (0 : Int).toNat y176) (1 : Int).toNat y186)) := by
          rw [cm187e]
          exact zu_eq _ _ _ _
        refine zr_view (cm187e).symm ?_
        have lc188 := cm187g _ _ _ lc178 (by omega)
        have lc189 := cm187g _ _ _ lc179 (by omega)
        have fx190 : zfm V cm187V := zag.tr fx180 (cm187g.mono (fun t ht => by omega))
        show zG C cm187V (((40 - 3 * k.toNat - 1) - 1) - 1) (((1200 - 50 * k.toNat - 40) - (4 : Int).toNat) - (2 : Int).toNat) 114 [(1, .long (hp162z)), (7, .ref hp112q), (6, .ref (md (70 + k.toNat))), (5, .int (zI (k))), (4, .int (zI ((6 : Nat)))), (3, .ref (c 62)), (0, .ref (c 60))] [.ref q166, .long (hp165z)]
        refine zr_callS (kc' := (((40 - 3 * k.toNat - 1) - 1) - 1)) (ks' := (((1200 - 50 * k.toNat - 40) - (4 : Int).toNat) - (2 : Int).toNat)) X 117 2 (m_X8_mixed l Γ (V := cm187V) (x := hp165z) cm187s (by omega)) gX8_digest_X8_mixed rfl (by decide +kernel) rfl (by decide) rfl (Nat.le_of_ble_eq_true rfl) dX8_digest_114 rfl (by omega) (by omega) (fun rv191 V192 hp193 => ?_)
        obtain ⟨⟨hp193z, hp193e⟩, hp193v⟩ := hp193
        rw [hp193e, hp193v]
        show zG C cm187V (((40 - 3 * k.toNat - 1) - 1) - 1) (((1200 - 50 * k.toNat - 40) - (4 : Int).toNat) - (2 : Int).toNat) 117 [(1, .long (hp162z)), (7, .ref hp112q), (6, .ref (md (70 + k.toNat))), (5, .int (zI (k))), (4, .int (zI ((6 : Nat)))), (3, .ref (c 62)), (0, .ref (c 60))] [.long (hp193z)]
        refine zr_lstore_n X 118 [(1, .long (hp193z)), (7, .ref hp112q), (6, .ref (md (70 + k.toNat))), (5, .int (zI (k))), (4, .int (zI ((6 : Nat)))), (3, .ref (c 62)), (0, .ref (c 60))] dX8_digest_117 rfl (by decide) rfl ?_
        refine zr_iinc X 121 3 [(5, .int (zI (k + 1))), (1, .long (hp193z)), (7, .ref hp112q), (6, .ref (md (70 + k.toNat))), (4, .int (zI ((6 : Nat)))), (3, .ref (c 62)), (0, .ref (c 60))] dX8_digest_118 rfl rfl (by decide) rfl ?_
        refine zr_goto X 23 dX8_digest_121 rfl ?_
        refine zr_sub [0, 4, 5, 1, 6] [(5, .int (zI (k + 1))), (4, .int (zI ((6 : Nat)))), (3, .ref (c 62)), (1, .long (hp193z)), (0, .ref (c 60))] rfl ?_
        refine zr_room (40 - 3 * (k + 1).toNat) (1200 - 50 * (k + 1).toNat) (by omega) (by omega) ?_
        exact ih _ (by omega) cm187V hp193z (k + 1) ⟨cm187m, fx190, by omega, by omega⟩ rfl
    exact loop _ V3 7702 0 ⟨hp4m, fx6, by omega, by omega⟩ rfl
