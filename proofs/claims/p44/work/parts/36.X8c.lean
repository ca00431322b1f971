/-! the model: rows of its own, public calls -/
set_option maxRecDepth 100000 in
set_option maxHeartbeats 4000000 in
theorem m_X8_write (l : Launch) (Γ : zGam) {V : zV} {c md : Nat → Nat} {τ κ : Nat → Int} {E : Int} {i x : Int} (hM : zMo Γ V c md τ κ E) (hi : 0 ≤ i ∧ i < 6) (hlt : τ (4 * i.toNat + 2) < τ (4 * i.toNat + 1)) (hx : 0 ≤ x ∧ x ≤ 255) : zM l Γ 0 yX8_write wsX8_write 0 0 V [.ref (c 60), .ref (md (70 + i.toNat)), .int (zI (x))] (fun rv V' => rv = none ∧ zMo Γ V' c md (zf (zw4 τ i.toNat (τ (4 * i.toNat)) (τ (4 * i.toNat + 1)) (τ (4 * i.toNat + 2) + 1) (τ (4 * i.toNat + 3))) (zTp (τ (40 + i.toNat) + τ (4 * i.toNat + 2))) x) κ E ∧ zag (fun t => t ≠ 61 ∧ t ≠ 70 + i.toNat) V V') := by
  have w0 : Cond.fieldLink RX8 7 "SashwordsModel" "tape" "[I" ∈ wsX8_write := by decide +kernel
  have iX8 : ∀ w ∈ u_ws RX8 TX8 11, w ∈ wsX8_write := by decide +kernel
  refine zM_of (cc := cX8_write) (nL := 3) (ret := none) (own := RX8) (by decide +kernel) rfl rfl (Nat.le_of_ble_eq_true rfl) (fun C X hi0 => ?_)
  have nn1 : 0 ≤ κ 0 ∧ κ 0 ≤ κ 1 ∧ κ 0 ≤ E ∧ κ 1 ≤ 7000 := hM.n.1
  have c82 : V (c 60) = some (60, .inr (9, [.ref (md 61), .int (zI (κ 0)), .ref (c 62), .ref (md 63), .ref (md 64), .ref (c 65), .int (zI (τ 26)), .int (zI (τ 28)), .int (zI (τ 29)), .ref (c 66), .int (zI (τ 36))])) := hM.1
  obtain ⟨c83f, c83, c83c, c83v⟩ := hM.ct.1
  have hw5 := hM.w (i := i.toNat) (by omega)
  have hw5r := hw5.rg
  show zG C V 0 0 0 [(0, .ref (c 60)), (1, .ref (md (70 + i.toNat))), (2, .int (zI (x)))] []
  refine zr_aload_n X 1 0 dX8_write_0 rfl rfl ?_
  refine zr_get X 4 9 0 c82 rfl iX8 (by decide) w0 rfl rfl dX8_write_1 rfl ?_
  refine zr_aload_n X 5 1 dX8_write_4 rfl rfl ?_
  refine zr_iconst X 6 dX8_write_5 rfl ?_
  refine zr_iald X 7 hw5.1 (by omega) dX8_write_6 rfl ?_
  show zG C V 0 0 7 [(0, .ref (c 60)), (1, .ref (md (70 + i.toNat))), (2, .int (zI (x)))] [.int (zI (κ (10 + i.toNat))), .ref (md 61)]
  refine zr_aload_n X 8 1 dX8_write_7 rfl rfl ?_
  refine zr_iconst X 9 dX8_write_8 rfl ?_
  refine zr_dup2 X 10 dX8_write_9 rfl rfl rfl ?_
  refine zr_iald X 11 hw5.1 (by omega) dX8_write_10 rfl ?_
  show zG C V 0 0 11 [(0, .ref (c 60)), (1, .ref (md (70 + i.toNat))), (2, .int (zI (x)))] [.int (zI (τ (4 * i.toNat + 2))), .int (zI (3)), .ref (md (70 + i.toNat)), .int (zI (κ (10 + i.toNat))), .ref (md 61)]
  refine zr_dup_x2 X 12 dX8_write_11 rfl rfl rfl rfl ?_
  refine zr_iconst X 13 dX8_write_12 rfl ?_
  refine zr_iadd X 14 dX8_write_13 rfl ?_
  refine zr_iast X 15 hw5.1 (by omega) dX8_write_14 rfl ?_
  refine zr_view zv5_3 ?_
  show zG C (zu V (md (70 + i.toNat)) (70 + i.toNat) (za Γ.2.1 0 5 (zr5 (κ (10 + i.toNat)) (τ (4 * i.toNat)) (τ (4 * i.toNat + 1)) ((τ (4 * i.toNat + 2)) + 1) (κ (20 + i.toNat))))) 0 0 15 [(0, .ref (c 60)), (1, .ref (md (70 + i.toNat))), (2, .int (zI (x)))] [.int (zI (τ (4 * i.toNat + 2))), .int (zI (κ (10 + i.toNat))), .ref (md 61)]
  refine zr_iadd X 16 dX8_write_15 rfl ?_
  refine zr_iload_n X 17 2 dX8_write_16 rfl rfl ?_
  refine zr_iast X 18 ((zu_ne (zne_tag c83 hw5.1 (by omega))).trans c83) (by omega) dX8_write_17 rfl ?_
  have hs1 := hM.setW (i := i.toNat) (by omega) (τ (4 * i.toNat + 1)) (τ (4 * i.toNat + 2) + 1) (τ (4 * i.toNat + 3)) (κ (20 + i.toNat)) ⟨by omega, by omega, by omega, hw5.mk, by omega⟩
  rw [zf_id] at hs1
  have h40 := hM.ct.2.2.1.2 i.toNat (by omega)
  have hs2 := hs1.1.setTape (f := c83f) (hs1.2 _ _ _ c83 (by omega)) c83c (a := κ (10 + i.toNat) + τ (4 * i.toNat + 2)) (by omega) (x := x) hx (fun b hb => by rw [zw4_hi (by omega) (by omega)]; exact c83v b hb)
  rw [show zTp (κ (10 + i.toNat) + τ (4 * i.toNat + 2)) = zTp (τ (40 + i.toNat) + τ (4 * i.toNat + 2)) by rw [h40]] at hs2
  exact zr_vret X rfl ⟨rfl, hs2.1, (hs1.2.mono (fun t ht => ht.2)).tr (hs2.2.mono (fun t ht => ht.1))⟩ dX8_write_18
set_option maxRecDepth 100000 in
set_option maxHeartbeats 4000000 in
theorem m_X8_read (l : Launch) (Γ : zGam) {V : zV} {c md : Nat → Nat} {τ κ : Nat → Int} {E : Int} {i : Int} (hM : zMo Γ V c md τ κ E) (hi : 0 ≤ i ∧ i < 6) (hlt : τ (4 * i.toNat + 2) < τ (4 * i.toNat + 1)) : zM l Γ 0 yX8_read wsX8_read 0 0 V [.ref (c 60), .ref (md (70 + i.toNat))] (fun rv V' => (∃ x : Int, rv = some (.int (zI x)) ∧ 0 ≤ x ∧ x ≤ 255 ∧ x = τ (zTp (τ (40 + i.toNat) + τ (4 * i.toNat + 2)))) ∧ zMo Γ V' c md (zw4 τ i.toNat (τ (4 * i.toNat)) (τ (4 * i.toNat + 1)) (τ (4 * i.toNat + 2) + 1) (τ (4 * i.toNat + 3))) κ E ∧ zag (fun t => t ≠ 70 + i.toNat) V V') := by
  have w0 : Cond.fieldLink RX8 7 "SashwordsModel" "tape" "[I" ∈ wsX8_read := by decide +kernel
  have iX8 : ∀ w ∈ u_ws RX8 TX8 11, w ∈ wsX8_read := by decide +kernel
  refine zM_of (cc := cX8_read) (nL := 2) (ret := (some .int)) (own := RX8) (by decide +kernel) rfl rfl (Nat.le_of_ble_eq_true rfl) (fun C X hi0 => ?_)
  have nn1 : 0 ≤ κ 0 ∧ κ 0 ≤ κ 1 ∧ κ 0 ≤ E ∧ κ 1 ≤ 7000 := hM.n.1
  have c82 : V (c 60) = some (60, .inr (9, [.ref (md 61), .int (zI (κ 0)), .ref (c 62), .ref (md 63), .ref (md 64), .ref (c 65), .int (zI (τ 26)), .int (zI (τ 28)), .int (zI (τ 29)), .ref (c 66), .int (zI (τ 36))])) := hM.1
  obtain ⟨c83f, c83, c83c, c83v⟩ := hM.ct.1
  have hw5 := hM.w (i := i.toNat) (by omega)
  have hw5r := hw5.rg
  show zG C V 0 0 0 [(0, .ref (c 60)), (1, .ref (md (70 + i.toNat)))] []
  refine zr_aload_n X 1 0 dX8_read_0 rfl rfl ?_
  refine zr_get X 4 9 0 c82 rfl iX8 (by decide) w0 rfl rfl dX8_read_1 rfl ?_
  refine zr_aload_n X 5 1 dX8_read_4 rfl rfl ?_
  refine zr_iconst X 6 dX8_read_5 rfl ?_
  refine zr_iald X 7 hw5.1 (by omega) dX8_read_6 rfl ?_
  show zG C V 0 0 7 [(0, .ref (c 60)), (1, .ref (md (70 + i.toNat)))] [.int (zI (κ (10 + i.toNat))), .ref (md 61)]
  refine zr_aload_n X 8 1 dX8_read_7 rfl rfl ?_
  refine zr_iconst X 9 dX8_read_8 rfl ?_
  refine zr_dup2 X 10 dX8_read_9 rfl rfl rfl ?_
  refine zr_iald X 11 hw5.1 (by omega) dX8_read_10 rfl ?_
  show zG C V 0 0 11 [(0, .ref (c 60)), (1, .ref (md (70 + i.toNat)))] [.int (zI (τ (4 * i.toNat + 2))), .int (zI (3)), .ref (md (70 + i.toNat)), .int (zI (κ (10 + i.toNat))), .ref (md 61)]
  refine zr_dup_x2 X 12 dX8_read_11 rfl rfl rfl rfl ?_
  refine zr_iconst X 13 dX8_read_12 rfl ?_
  refine zr_iadd X 14 dX8_read_13 rfl ?_
  refine zr_iast X 15 hw5.1 (by omega) dX8_read_14 rfl ?_
  refine zr_view zv5_3 ?_
  show zG C (zu V (md (70 + i.toNat)) (70 + i.toNat) (za Γ.2.1 0 5 (zr5 (κ (10 + i.toNat)) (τ (4 * i.toNat)) (τ (4 * i.toNat + 1)) ((τ (4 * i.toNat + 2)) + 1) (κ (20 + i.toNat))))) 0 0 15 [(0, .ref (c 60)), (1, .ref (md (70 + i.toNat)))] [.int (zI (τ (4 * i.toNat + 2))), .int (zI (κ (10 + i.toNat))), .ref (md 61)]
  refine zr_iadd X 16 dX8_read_15 rfl ?_
  refine zr_iald X 17 ((zu_ne (zne_tag c83 hw5.1 (by omega))).trans c83) (by omega) dX8_read_16 rfl ?_
  have zb6 := zc.b c83c ((κ (10 + i.toNat)) + (τ (4 * i.toNat + 2))).toNat
  have hs1 := hM.setW (i := i.toNat) (by omega) (τ (4 * i.toNat + 1)) (τ (4 * i.toNat + 2) + 1) (τ (4 * i.toNat + 3)) (κ (20 + i.toNat)) ⟨by omega, by omega, by omega, hw5.mk, by omega⟩
  rw [zf_id] at hs1
  exact zr_iret X rfl ⟨⟨c83f ((κ (10 + i.toNat)) + (τ (4 * i.toNat + 2))).toNat, rfl, by omega, by omega, (by have h40 := hM.ct.2.2.1.2 i.toNat (by omega); rw [c83v _ (by omega)]; exact congrArg τ (by unfold zTp; omega))⟩, hs1.1, hs1.2⟩ dX8_read_17
theorem zcp_tape {f : Nat → Int} {τ : Nat → Int} {n e : Nat} (hf : ∀ a : Nat, a < n → f a = τ (1000 + a)) (he : e ≤ n) (hz : ∀ a : Nat, e ≤ a → τ (1000 + a) = 0) (a : Nat) : zcp f (fun _ => 0) (0 : Int).toNat (0 : Int).toNat e a = τ (1000 + a) := by
  unfold zcp
  show (if 0 ≤ a ∧ a < 0 + e then f (0 + (a - 0)) else 0) = _
  by_cases c : a < e
  · rw [if_pos (by omega), ← hf a (by omega)]
    exact congrArg f (by omega)
  · rw [if_neg (by omega)]
    exact (hz a (by omega)).symm
theorem zal_comm {τ : Nat → Int} {i : Nat} (hi : i < 6) {c l p m s x : Int} : zf (zw4 (zf τ 46 x) i c l p m) (40 + i) s = zf (zf (zw4 τ i c l p m) (40 + i) s) 46 x := by
  funext j
  unfold zf zw4
  dsimp only
  by_cases h : j = 46
  · rw [if_pos h, if_pos h, if_neg (by omega), if_neg (by omega), if_neg (by omega), if_neg (by omega), if_neg (by omega)]
  · rw [if_neg h, if_neg h]
set_option maxRecDepth 100000 in
set_option maxHeartbeats 4000000 in
theorem m_X8_fresh (l : Launch) (Γ : zGam) {V : zV} {c md : Nat → Nat} {τ κ : Nat → Int} {E : Int} {n : Int} {tg : Nat} (hM : zMo Γ V c md τ κ E) (hn : 0 ≤ n ∧ n ≤ 40) (hE : E ≤ 3000) : zM l Γ 2 yX8_fresh wsX8_fresh 2 6085 V [.ref (c 60), .int (zI (n))] (fun rv V' => ∃ (q : Nat) (md' : Nat → Nat) (κ' : Nat → Int) (st : Int), rv = some (.ref q) ∧ zMo Γ V' c md' (zf τ 46 (τ 46 + n)) κ' (E + n) ∧ zWm Γ V' tg q (κ' 0) n n 0 (-9) st (-1) ∧ zag (fun x => x ≠ 60) V V' ∧ st = τ 46) := by
  have w0 : Cond.fieldLink RX8 45 "SashwordsModel" "end" "I" ∈ wsX8_fresh := by decide +kernel
  have iX8 : ∀ w ∈ u_ws RX8 TX8 11, w ∈ wsX8_fresh := by decide +kernel
  have w2 : Cond.fieldLink RX8 7 "SashwordsModel" "tape" "[I" ∈ wsX8_fresh := by decide +kernel
  have w3 : Cond.arrayClass .int ∈ wsX8_fresh := by decide +kernel
  have w4 : Cond.methodLink RX8 48 arraycopyName ∈ wsX8_fresh := by decide +kernel
  have w5 : Cond.native arraycopyName ∈ wsX8_fresh := by decide +kernel
  have w6 : Cond.static arraycopyName ∈ wsX8_fresh := by decide +kernel
  have w7 : Cond.initialized "java/lang/System" ∈ wsX8_fresh := by decide +kernel
  refine zM_of (cc := cX8_fresh) (nL := 3) (ret := (some (.array .int))) (own := RX8) (by decide +kernel) rfl rfl (Nat.le_of_ble_eq_true rfl) (fun C X hi0 => ?_)
  have nn1 : 0 ≤ κ 0 ∧ κ 0 ≤ κ 1 ∧ κ 0 ≤ E ∧ κ 1 ≤ 7000 := hM.n.1
  have c82 : V (c 60) = some (60, .inr (9, [.ref (md 61), .int (zI (κ 0)), .ref (c 62), .ref (md 63), .ref (md 64), .ref (c 65), .int (zI (τ 26)), .int (zI (τ 28)), .int (zI (τ 29)), .ref (c 66), .int (zI (τ 36))])) := hM.1
  obtain ⟨c83f, c83, c83c, c83v⟩ := hM.ct.1
  show zG C V 2 6085 0 [(0, .ref (c 60)), (1, .int (zI (n)))] []
  refine zr_aload_n X 1 0 dX8_fresh_0 rfl rfl ?_
  refine zr_get X 4 9 1 c82 rfl iX8 (by decide) w0 rfl rfl dX8_fresh_1 rfl ?_
  refine zr_iload_n X 5 1 dX8_fresh_4 rfl rfl ?_
  refine zr_iadd X 6 dX8_fresh_5 rfl ?_
  refine zr_aload_n X 7 0 dX8_fresh_6 rfl rfl ?_
  refine zr_get X 10 9 0 c82 rfl iX8 (by decide) w2 rfl rfl dX8_fresh_7 rfl ?_
  refine zr_alen X 11 0 c83 (by decide) dX8_fresh_10 rfl ?_
  refine zr_icmp_le X 44 14 dX8_fresh_11 rfl rfl (by omega) (by omega) (fun bq4 => ?_) (fun bq4 => ?_)
  · refine zr_aload_n X 45 0 dX8_fresh_44 rfl rfl ?_
    refine zr_dup X 46 dX8_fresh_45 rfl rfl ?_
    refine zr_get X 49 9 1 c82 rfl iX8 (by decide) w0 rfl rfl dX8_fresh_46 rfl ?_
    refine zr_iload_n X 50 1 dX8_fresh_49 rfl rfl ?_
    refine zr_iadd X 51 dX8_fresh_50 rfl ?_
    refine zr_put X 54 9 1 [.ref (md 61), .int (zI ((κ 0) + n)), .ref (c 62), .ref (md 63), .ref (md 64), .ref (c 65), .int (zI (τ 26)), .int (zI (τ 28)), .int (zI (τ 29)), .ref (c 66), .int (zI (τ 36))] tyX8 c82 rfl iX8 tyX8_ok nmX8 (by decide) w0 rfl rfl rfl rfl (Nat.le_of_ble_eq_true rfl) rfl dX8_fresh_51 rfl ?_
    refine zr_iconst X 55 dX8_fresh_54 rfl ?_
    refine zr_newai (kc' := (2 - 1)) (ks' := (6085 - (5 : Int).toNat)) X 57 tg w3 (by omega) dX8_fresh_55 rfl (by omega) (by omega) (fun q5 hq6 => ?_)
    show zG C (zu (zu V (c 60) 60 (.inr (9, [.ref (md 61), .int (zI ((κ 0) + n)), .ref (c 62), .ref (md 63), .ref (md 64), .ref (c 65), .int (zI (τ 26)), .int (zI (τ 28)), .int (zI (τ 29)), .ref (c 66), .int (zI (τ 36))]))) q5 tg (za Γ.2.1 0 5 (fun _ => 0))) (2 - 1) (6085 - (5 : Int).toNat) 57 [(0, .ref (c 60)), (1, .int (zI (n)))] [.ref q5]
    refine zr_dup X 58 dX8_fresh_57 rfl rfl ?_
    refine zr_iconst X 59 dX8_fresh_58 rfl ?_
    refine zr_aload_n X 60 0 dX8_fresh_59 rfl rfl ?_
    refine zr_get X 63 9 1 ((zu_ne (zne_new (zu_eq _ _ _ _) hq6)).trans (zu_eq _ _ _ _)) rfl iX8 (by decide) w0 rfl rfl dX8_fresh_60 rfl ?_
    refine zr_iload_n X 64 1 dX8_fresh_63 rfl rfl ?_
    refine zr_isub X 65 dX8_fresh_64 rfl ?_
    refine zr_iast X 66 (zu_eq _ _ _ _) (by omega) dX8_fresh_65 rfl ?_
    refine zr_view (zu_zu _ _ _ _ _ _) ?_
    refine zr_dup X 67 dX8_fresh_66 rfl rfl ?_
    refine zr_iconst X 68 dX8_fresh_67 rfl ?_
    refine zr_iload_n X 69 1 dX8_fresh_68 rfl rfl ?_
    refine zr_iast X 70 (zu_eq _ _ _ _) (by omega) dX8_fresh_69 rfl ?_
    refine zr_view (zu_zu _ _ _ _ _ _) ?_
    refine zr_dup X 71 dX8_fresh_70 rfl rfl ?_
    refine zr_iconst X 72 dX8_fresh_71 rfl ?_
    refine zr_iload_n X 73 1 dX8_fresh_72 rfl rfl ?_
    refine zr_iast X 74 (zu_eq _ _ _ _) (by omega) dX8_fresh_73 rfl ?_
    refine zr_view (zu_zu _ _ _ _ _ _) ?_
    refine zr_dup X 75 dX8_fresh_74 rfl rfl ?_
    refine zr_iconst X 76 dX8_fresh_75 rfl ?_
    refine zr_iconst X 77 dX8_fresh_76 rfl ?_
    refine zr_iast X 78 (zu_eq _ _ _ _) (by omega) dX8_fresh_77 rfl ?_
    refine zr_view (zu_zu _ _ _ _ _ _) ?_
    refine zr_dup X 79 dX8_fresh_78 rfl rfl ?_
    refine zr_iconst X 80 dX8_fresh_79 rfl ?_
    refine zr_iconst X 81 dX8_fresh_80 rfl ?_
    refine zr_iast X 82 (zu_eq _ _ _ _) (by omega) dX8_fresh_81 rfl ?_
    refine zr_view (zu_zu _ _ _ _ _ _) ?_
    refine zr_view zv5_n ?_
    show zG C (zu (zu V (c 60) 60 (.inr (9, [.ref (md 61), .int (zI ((κ 0) + n)), .ref (c 62), .ref (md 63), .ref (md 64), .ref (c 65), .int (zI (τ 26)), .int (zI (τ 28)), .int (zI (τ 29)), .ref (c 66), .int (zI (τ 36))]))) q5 tg (za Γ.2.1 0 5 (zr5 (((κ 0) + n) - n) n n 0 (-1)))) (2 - 1) (6085 - (5 : Int).toNat) 82 [(0, .ref (c 60)), (1, .int (zI (n)))] [.ref q5]
    obtain ⟨f9, f9a, f9b, f9c⟩ := hM.ct.1
    have hg1 := hM.grow (q := md 61) (n := (κ 1).toNat) (en := κ 0 + n) (E' := E + n) f9a f9b f9c (by omega)
    rw [show zMc c (zmu md 61 (md 61)) (κ 0 + n) (τ 26) (τ 28) (τ 29) (τ 36) = zMc c md (κ 0 + n) (τ 26) (τ 28) (τ 29) (τ 36) from rfl] at hg1
    have hg0 : zag (fun x => x ≠ 60) V V := zag.rf
    have hk2 := hg1.1.kept (zag.rf.new (P := zal) (t := tg) (e := za Γ.2.1 0 5 (zr5 (((κ 0) + n) - n) n n 0 (-1))) hq6) (fun _ _ _ => trivial)
    rw [show zf τ 46 (κ 0 + n) = zf τ 46 (τ 46 + n) by rw [hM.ct.2.2.1.1]] at hk2
    have hk3 := (hg0.tr hg1.2).tr (zag.rf.new (t := tg) (e := za Γ.2.1 0 5 (zr5 (((κ 0) + n) - n) n n 0 (-1))) hq6)
    exact zr_aret X rfl (Or.inr ⟨_, rfl⟩) ⟨q5, _, _, κ 0 + n - n, rfl, hk2, ⟨zu_eq _ _ _ _, by omega, show κ 0 + n - n + n ≤ κ 0 + n by omega, by omega, by omega, by omega, by omega, by omega, by omega⟩, hk3, by rw [← hM.ct.2.2.1.1]; omega⟩ dX8_fresh_82
  · refine zr_iconst X 15 dX8_fresh_14 rfl ?_
    refine zr_aload_n X 16 0 dX8_fresh_15 rfl rfl ?_
    refine zr_get X 19 9 1 c82 rfl iX8 (by decide) w0 rfl rfl dX8_fresh_16 rfl ?_
    refine zr_iload_n X 20 1 dX8_fresh_19 rfl rfl ?_
    refine zr_iadd X 21 dX8_fresh_20 rfl ?_
    refine zr_imul X 22 dX8_fresh_21 rfl ?_
    refine zr_newai (kc' := (2 - 1)) (ks' := (6085 - (2 * ((κ 0) + n)).toNat)) X 24 61 w3 (by omega) dX8_fresh_22 rfl (by omega) (by omega) (fun q7 hq8 => ?_)
    refine zr_astore_n X 25 [(2, .ref q7), (0, .ref (c 60)), (1, .int (zI (n)))] dX8_fresh_24 rfl (by decide) rfl ?_
    refine zr_aload_n X 26 1 dX8_fresh_25 rfl rfl ?_
    refine zr_get X 29 9 0 ((zu_ne (zne_new c82 hq8)).trans c82) rfl iX8 (by decide) w2 rfl rfl dX8_fresh_26 rfl ?_
    refine zr_iconst X 30 dX8_fresh_29 rfl ?_
    refine zr_aload_n X 31 0 dX8_fresh_30 rfl rfl ?_
    refine zr_iconst X 32 dX8_fresh_31 rfl ?_
    refine zr_aload_n X 33 1 dX8_fresh_32 rfl rfl ?_
    refine zr_get X 36 9 1 ((zu_ne (zne_new c82 hq8)).trans c82) rfl iX8 (by decide) w0 rfl rfl dX8_fresh_33 rfl ?_
    refine zr_copyw X 39 ((zu_ne (zne_new c83 hq8)).trans c83) (zu_eq _ _ _ _) w4 w5 w6 w7 (by omega) (by decide) (Nat.le_of_ble_eq_true rfl) dX8_fresh_36 rfl ?_
    refine zr_view (zu_zu _ _ _ _ _ _) ?_
    show zG C (zu V q7 61 (za Γ.2.1 0 ((2 * ((κ 0) + n)).toNat) (zcp c83f (fun _ => 0) (0 : Int).toNat (0 : Int).toNat (κ 0).toNat))) (2 - 1) (6085 - (2 * ((κ 0) + n)).toNat) 39 [(2, .ref q7), (0, .ref (c 60)), (1, .int (zI (n)))] []
    refine zr_aload_n X 40 1 dX8_fresh_39 rfl rfl ?_
    refine zr_aload_n X 41 0 dX8_fresh_40 rfl rfl ?_
    refine zr_put X 44 9 0 [.ref q7, .int (zI (κ 0)), .ref (c 62), .ref (md 63), .ref (md 64), .ref (c 65), .int (zI (τ 26)), .int (zI (τ 28)), .int (zI (τ 29)), .ref (c 66), .int (zI (τ 36))] tyX8 ((zu_ne (zne_new c82 hq8)).trans c82) rfl iX8 tyX8_ok nmX8 (by decide) w2 rfl rfl rfl rfl (Nat.le_of_ble_eq_true rfl) rfl dX8_fresh_41 rfl ?_
    refine zr_aload_n X 45 1 dX8_fresh_44 rfl rfl ?_
    refine zr_dup X 46 dX8_fresh_45 rfl rfl ?_
    refine zr_get X 49 9 1 (zu_eq _ _ _ _) rfl iX8 (by decide) w0 rfl rfl dX8_fresh_46 rfl ?_
    refine zr_iload_n X 50 2 dX8_fresh_49 rfl rfl ?_
    refine zr_iadd X 51 dX8_fresh_50 rfl ?_
    refine zr_put X 54 9 1 [.ref q7, .int (zI ((κ 0) + n)), .ref (c 62), .ref (md 63), .ref (md 64), .ref (c 65), .int (zI (τ 26)), .int (zI (τ 28)), .int (zI (τ 29)), .ref (c 66), .int (zI (τ 36))] tyX8 (zu_eq _ _ _ _) rfl iX8 tyX8_ok nmX8 (by decide) w0 rfl rfl rfl rfl (Nat.le_of_ble_eq_true rfl) rfl dX8_fresh_51 rfl ?_
    refine zr_view (zu_zu _ _ _ _ _ _) ?_
    refine zr_iconst X 55 dX8_fresh_54 rfl ?_
    refine zr_newai (kc' := ((2 - 1) - 1)) (ks' := ((6085 - (2 * ((κ 0) + n)).toNat) - (5 : Int).toNat)) X 57 tg w3 (by omega) dX8_fresh_55 rfl (by omega) (by omega) (fun q9 hq10 => ?_)
    show zG C (zu (zu (zu V q7 61 (za Γ.2.1 0 ((2 * ((κ 0) + n)).toNat) (zcp c83f (fun _ => 0) (0 : Int).toNat (0 : Int).toNat (κ 0).toNat))) (c 60) 60 (.inr (9, [.ref q7, .int (zI ((κ 0) + n)), .ref (c 62), .ref (md 63), .ref (md 64), .ref (c 65), .int (zI (τ 26)), .int (zI (τ 28)), .int (zI (τ 29)), .ref (c 66), .int (zI (τ 36))]))) q9 tg (za Γ.2.1 0 5 (fun _ => 0))) ((2 - 1) - 1) ((6085 - (2 * ((κ 0) + n)).toNat) - (5 : Int).toNat) 57 [(2, .ref q7), (0, .ref (c 60)), (1, .int (zI (n)))] [.ref q9]
    refine zr_dup X 58 dX8_fresh_57 rfl rfl ?_
    refine zr_iconst X 59 dX8_fresh_58 rfl ?_
    refine zr_aload_n X 60 1 dX8_fresh_59 rfl rfl ?_
    refine zr_get X 63 9 1 ((zu_ne (zne_new (zu_eq _ _ _ _) hq10)).trans (zu_eq _ _ _ _)) rfl iX8 (by decide) w0 rfl rfl dX8_fresh_60 rfl ?_
    refine zr_iload_n X 64 2 dX8_fresh_63 rfl rfl ?_
    refine zr_isub X 65 dX8_fresh_64 rfl ?_
    refine zr_iast X 66 (zu_eq _ _ _ _) (by omega) dX8_fresh_65 rfl ?_
    refine zr_view (zu_zu _ _ _ _ _ _) ?_
    refine zr_dup X 67 dX8_fresh_66 rfl rfl ?_
    refine zr_iconst X 68 dX8_fresh_67 rfl ?_
    refine zr_iload_n X 69 2 dX8_fresh_68 rfl rfl ?_
    refine zr_iast X 70 (zu_eq _ _ _ _) (by omega) dX8_fresh_69 rfl ?_
    refine zr_view (zu_zu _ _ _ _ _ _) ?_
    refine zr_dup X 71 dX8_fresh_70 rfl rfl ?_
    refine zr_iconst X 72 dX8_fresh_71 rfl ?_
    refine zr_iload_n X 73 2 dX8_fresh_72 rfl rfl ?_
    refine zr_iast X 74 (zu_eq _ _ _ _) (by omega) dX8_fresh_73 rfl ?_
    refine zr_view (zu_zu _ _ _ _ _ _) ?_
    refine zr_dup X 75 dX8_fresh_74 rfl rfl ?_
    refine zr_iconst X 76 dX8_fresh_75 rfl ?_
    refine zr_iconst X 77 dX8_fresh_76 rfl ?_
    refine zr_iast X 78 (zu_eq _ _ _ _) (by omega) dX8_fresh_77 rfl ?_
    refine zr_view (zu_zu _ _ _ _ _ _) ?_
    refine zr_dup X 79 dX8_fresh_78 rfl rfl ?_
    refine zr_iconst X 80 dX8_fresh_79 rfl ?_
    refine zr_iconst X 81 dX8_fresh_80 rfl ?_
    refine zr_iast X 82 (zu_eq _ _ _ _) (by omega) dX8_fresh_81 rfl ?_
    refine zr_view (zu_zu _ _ _ _ _ _) ?_
    refine zr_view zv5_n ?_
    show zG C (zu (zu (zu V q7 61 (za Γ.2.1 0 ((2 * ((κ 0) + n)).toNat) (zcp c83f (fun _ => 0) (0 : Int).toNat (0 : Int).toNat (κ 0).toNat))) (c 60) 60 (.inr (9, [.ref q7, .int (zI ((κ 0) + n)), .ref (c 62), .ref (md 63), .ref (md 64), .ref (c 65), .int (zI (τ 26)), .int (zI (τ 28)), .int (zI (τ 29)), .ref (c 66), .int (zI (τ 36))]))) q9 tg (za Γ.2.1 0 5 (zr5 (((κ 0) + n) - n) n n 0 (-1)))) ((2 - 1) - 1) ((6085 - (2 * ((κ 0) + n)).toNat) - (5 : Int).toNat) 82 [(2, .ref q7), (0, .ref (c 60)), (1, .int (zI (n)))] [.ref q9]
    have hg0 : zag (fun x => x ≠ 60) V (zu V q7 61 (za Γ.2.1 0 ((2 * ((κ 0) + n)).toNat) (zcp c83f (fun _ => 0) (0 : Int).toNat (0 : Int).toNat (κ 0).toNat))) := zag.rf.new hq8
    have hk1 := hM.kept (zag.rf.new (P := zal) (t := 61) (e := za Γ.2.1 0 ((2 * ((κ 0) + n)).toNat) (zcp c83f (fun _ => 0) (0 : Int).toNat (0 : Int).toNat (κ 0).toNat)) hq8) (fun _ _ _ => trivial)
    have hg1 := hk1.grow (q := q7) (n := (2 * ((κ 0) + n)).toNat) (en := κ 0 + n) (E' := E + n) (zu_eq _ _ _ _) (zc_zcp c83c z0c) (fun a ha => zcp_tape c83v (by omega) (fun b hb => hM.ct.2.1 b (by rw [← hM.ct.2.2.1.1]; omega)) a) (by omega)
    have hk2 := hg1.1.kept (zag.rf.new (P := zal) (t := tg) (e := za Γ.2.1 0 5 (zr5 (((κ 0) + n) - n) n n 0 (-1))) hq10) (fun _ _ _ => trivial)
    rw [show zf τ 46 (κ 0 + n) = zf τ 46 (τ 46 + n) by rw [hM.ct.2.2.1.1]] at hk2
    have hk3 := (hg0.tr hg1.2).tr (zag.rf.new (t := tg) (e := za Γ.2.1 0 5 (zr5 (((κ 0) + n) - n) n n 0 (-1))) hq10)
    exact zr_aret X rfl (Or.inr ⟨_, rfl⟩) ⟨q9, _, _, κ 0 + n - n, rfl, hk2, ⟨zu_eq _ _ _ _, by omega, show κ 0 + n - n + n ≤ κ 0 + n by omega, by omega, by omega, by omega, by omega, by omega, by omega⟩, hk3, by rw [← hM.ct.2.2.1.1]; omega⟩ dX8_fresh_82
set_option maxRecDepth 100000 in
set_option maxHeartbeats 4000000 in
theorem m_X8_became (l : Launch) (Γ : zGam) {V : zV} {c md : Nat → Nat} {τ κ : Nat → Int} {E : Int} {i st cp li po m mk : Int} (hM : zMo Γ V c md τ κ E) (hi : 0 ≤ i ∧ i < 6) (hb : 0 ≤ st ∧ st + cp ≤ κ 0 ∧ 0 ≤ po ∧ po ≤ li ∧ li ≤ cp ∧ cp ≤ 40 ∧ ((m = -9 ∧ mk = -1) ∨ (m = mk ∧ 0 ≤ mk)) ∧ m ≤ po) : zM l Γ 2 yX8_became wsX8_became 1 5 V [.ref (c 60), .int (zI (i)), .int (zI (st)), .int (zI (cp)), .int (zI (li)), .int (zI (po)), .int (zI (mk))] (fun rv V' => ∃ (md' : Nat → Nat) (κ' : Nat → Int), rv = some (.int (zI (li - po))) ∧ zMo Γ V' c md' (zdn (zf (zw4 τ i.toNat cp li po m) (40 + i.toNat) st)) κ' E ∧ zfm V V') := by
  have w0 : Cond.fieldLink RX8 14 "SashwordsModel" "windows" "[[I" ∈ wsX8_became := by decide +kernel
  have iX8 : ∀ w ∈ u_ws RX8 TX8 11, w ∈ wsX8_became := by decide +kernel
  have w2 : Cond.arrayClass .int ∈ wsX8_became := by decide +kernel
  refine zM_of (cc := cX8_became) (nL := 7) (ret := (some .int)) (own := RX8) (by decide +kernel) rfl rfl (Nat.le_of_ble_eq_true rfl) (fun C X hi0 => ?_)
  have nn1 : 0 ≤ κ 0 ∧ κ 0 ≤ κ 1 ∧ κ 0 ≤ E ∧ κ 1 ≤ 7000 := hM.n.1
  have c82 : V (c 60) = some (60, .inr (9, [.ref (md 61), .int (zI (κ 0)), .ref (c 62), .ref (md 63), .ref (md 64), .ref (c 65), .int (zI (τ 26)), .int (zI (τ 28)), .int (zI (τ 29)), .ref (c 66), .int (zI (τ 36))])) := hM.1
  have c83 : V (c 62) = some (62, zq Γ.2.1 4 6 (fun i => some (md (70 + i)))) := hM.2.2.1
  show zG C V 1 5 0 [(0, .ref (c 60)), (1, .int (zI (i))), (2, .int (zI (st))), (3, .int (zI (cp))), (4, .int (zI (li))), (5, .int (zI (po))), (6, .int (zI (mk)))] []
  refine zr_aload_n X 1 0 dX8_became_0 rfl rfl ?_
  refine zr_get X 4 9 2 c82 rfl iX8 (by decide) w0 rfl rfl dX8_became_1 rfl ?_
  refine zr_iload_n X 5 1 dX8_became_4 rfl rfl ?_
  refine zr_iconst X 6 dX8_became_5 rfl ?_
  refine zr_newai (kc' := (1 - 1)) (ks' := (5 - (5 : Int).toNat)) X 8 (70 + i.toNat) w2 (by omega) dX8_became_6 rfl (by omega) (by omega) (fun q4 hq5 => ?_)
  show zG C (zu V q4 (70 + i.toNat) (za Γ.2.1 0 5 (fun _ => 0))) (1 - 1) (5 - (5 : Int).toNat) 8 [(0, .ref (c 60)), (1, .int (zI (i))), (2, .int (zI (st))), (3, .int (zI (cp))), (4, .int (zI (li))), (5, .int (zI (po))), (6, .int (zI (mk)))] [.ref q4, .int (zI (i)), .ref (c 62)]
  refine zr_dup X 9 dX8_became_8 rfl rfl ?_
  refine zr_iconst X 10 dX8_became_9 rfl ?_
  refine zr_iload_n X 11 2 dX8_became_10 rfl rfl ?_
  refine zr_iast X 12 (zu_eq _ _ _ _) (by omega) dX8_became_11 rfl ?_
  refine zr_view (zu_zu _ _ _ _ _ _) ?_
  refine zr_dup X 13 dX8_became_12 rfl rfl ?_
  refine zr_iconst X 14 dX8_became_13 rfl ?_
  refine zr_iload_n X 15 3 dX8_became_14 rfl rfl ?_
  refine zr_iast X 16 (zu_eq _ _ _ _) (by omega) dX8_became_15 rfl ?_
  refine zr_view (zu_zu _ _ _ _ _ _) ?_
  refine zr_dup X 17 dX8_became_16 rfl rfl ?_
  refine zr_iconst X 18 dX8_became_17 rfl ?_
  refine zr_iload X 20 4 dX8_became_18 rfl rfl ?_
  refine zr_iast X 21 (zu_eq _ _ _ _) (by omega) dX8_became_20 rfl ?_
  refine zr_view (zu_zu _ _ _ _ _ _) ?_
  refine zr_dup X 22 dX8_became_21 rfl rfl ?_
  refine zr_iconst X 23 dX8_became_22 rfl ?_
  refine zr_iload X 25 5 dX8_became_23 rfl rfl ?_
  refine zr_iast X 26 (zu_eq _ _ _ _) (by omega) dX8_became_25 rfl ?_
  refine zr_view (zu_zu _ _ _ _ _ _) ?_
  refine zr_dup X 27 dX8_became_26 rfl rfl ?_
  refine zr_iconst X 28 dX8_became_27 rfl ?_
  refine zr_iload X 30 6 dX8_became_28 rfl rfl ?_
  refine zr_iast X 31 (zu_eq _ _ _ _) (by omega) dX8_became_30 rfl ?_
  refine zr_view (zu_zu _ _ _ _ _ _) ?_
  refine zr_view zv5_n ?_
  show zG C (zu V q4 (70 + i.toNat) (za Γ.2.1 0 5 (zr5 st cp li po mk))) (1 - 1) (5 - (5 : Int).toNat) 31 [(0, .ref (c 60)), (1, .int (zI (i))), (2, .int (zI (st))), (3, .int (zI (cp))), (4, .int (zI (li))), (5, .int (zI (po))), (6, .int (zI (mk)))] [.ref q4, .int (zI (i)), .ref (c 62)]
  refine zr_aastI X 32 ((zu_ne (zne_new c83 hq5)).trans c83) (zu_eq _ _ _ _) (by omega) dX8_became_31 rfl ?_
  have hb1 := hM.kept (zag.rf.new (P := zal) (t := (70 + i.toNat)) (e := za Γ.2.1 0 5 (zr5 st cp li po mk)) hq5) (fun _ _ _ => trivial)
  have hb2 := hb1.newW (i := i.toNat) (q := q4) (by omega) (cp := cp) (l := li) (p := po) (m := m) (st := st) (mk := mk) ⟨zu_eq _ _ _ _, by omega, by omega, by omega, by omega, by omega, by omega, by omega, by omega⟩
  have hb3 : zag (fun x => x ≠ 62) V (zu V q4 (70 + i.toNat) (za Γ.2.1 0 5 (zr5 st cp li po mk))) := zag.rf.new hq5
  show zG C (zu (zu V q4 (70 + i.toNat) (za Γ.2.1 0 5 (zr5 st cp li po mk))) (c 62) 62 (zq Γ.2.1 4 6 (zg (fun j => some (md (70 + j))) i.toNat q4))) (1 - 1) (5 - (5 : Int).toNat) 32 [(0, .ref (c 60)), (1, .int (zI (i))), (2, .int (zI (st))), (3, .int (zI (cp))), (4, .int (zI (li))), (5, .int (zI (po))), (6, .int (zI (mk)))] []
  obtain ⟨cm6h, cm6f⟩ := (⟨hb2.1, hb3.tr hb2.2⟩ : _ ∧ _)
  obtain ⟨cm6V, cm6e⟩ : ∃ zz9 : zV, zz9 = (zu (zu V q4 (70 + i.toNat) (za Γ.2.1 0 5 (zr5 st cp li po mk))) (c 62) 62 (zq Γ.2.1 4 6 (zg (fun j => some (md (70 + j))) i.toNat q4))) := ⟨_, rfl⟩
  obtain ⟨md7, md7e⟩ : ∃ zz9 : Nat → Nat, zz9 = zmu md (70 + i.toNat) q4 := ⟨_, rfl⟩
  obtain ⟨κ8, κ8e⟩ : ∃ zz9 : Nat → Int, zz9 = zf (zf κ (10 + i.toNat) st) (20 + i.toNat) mk := ⟨_, rfl⟩
  have cm6m : zMo Γ cm6V c md7 (zf (zw4 τ i.toNat cp li po m) (40 + i.toNat) st) κ8 E := by
    rw [md7e, κ8e, cm6e]
    exact cm6h
  have cm6g : zag (fun x => x ≠ 62) V cm6V := by
    rw [cm6e]
    exact cm6f
  refine zr_view (cm6e).symm ?_
  have fx9 : zfm V cm6V := (cm6g.mono (fun t ht => by omega))
  obtain ⟨τ10, τ10e⟩ : ∃ zz9 : Nat → Int, zz9 = zf (zw4 τ i.toNat cp li po m) (40 + i.toNat) st := ⟨_, rfl⟩
  rw [← τ10e] at cm6m
  show zG C cm6V (1 - 1) (5 - (5 : Int).toNat) 32 [(0, .ref (c 60)), (1, .int (zI (i))), (2, .int (zI (st))), (3, .int (zI (cp))), (4, .int (zI (li))), (5, .int (zI (po))), (6, .int (zI (mk)))] []
  refine zr_aload_n X 33 0 dX8_became_32 rfl rfl ?_
  refine zr_iload X 35 4 dX8_became_33 rfl rfl ?_
  refine zr_iload X 37 5 dX8_became_35 rfl rfl ?_
  refine zr_isub X 38 dX8_became_37 rfl ?_
  refine zr_callVe (kc' := (1 - 1)) (ks' := (5 - (5 : Int).toNat)) X 41 1 (m_X8_done l Γ cm6m) gX8_became_X8_done rfl (by decide +kernel) rfl (by decide) ⟨_, _, cm6m.1⟩ rfl rfl (Nat.le_of_ble_eq_true rfl) dX8_became_38 rfl (by omega) (by omega) (fun rv11 V12 hp13 => ?_)
  obtain ⟨hp13e, hp13m, hp13g⟩ := hp13
  rw [hp13e]
  have fx14 : zfm V V12 := zag.tr fx9 (hp13g.mono (fun t ht => by omega))
  obtain ⟨τ15, τ15e⟩ : ∃ zz9 : Nat → Int, zz9 = zdn τ10 := ⟨_, rfl⟩
  rw [← τ15e] at hp13m
  show zG C V12 (1 - 1) (5 - (5 : Int).toNat) 41 [(0, .ref (c 60)), (1, .int (zI (i))), (2, .int (zI (st))), (3, .int (zI (cp))), (4, .int (zI (li))), (5, .int (zI (po))), (6, .int (zI (mk)))] [.int (zI (li - po))]
  exact zr_iret X rfl ⟨md7, κ8, rfl, by rw [← τ10e, ← τ15e]; exact hp13m, fx14⟩ dX8_became_41
set_option maxRecDepth 100000 in
set_option maxHeartbeats 4000000 in
theorem m_X8_allocate (l : Launch) (Γ : zGam) {V : zV} {c md : Nat → Nat} {τ κ : Nat → Int} {E : Int} {q z : Int} (hM : zMo Γ V c md τ κ E) (hq : -2147483648 ≤ q ∧ q ≤ 2147483647) (hz : -2147483648 ≤ z ∧ z ≤ 2147483647) (hE : E ≤ 3000) : zM l Γ 4 yX8_allocate wsX8_allocate 2 6085 V [.ref (c 60), .int (zI (q)), .int (zI (z))] (fun rv V' => ∃ (y : Int) (md' : Nat → Nat) (τ' κ' : Nat → Int), rv = some (.int (zI y)) ∧ zMo Γ V' c md' τ' κ' (E + 40) ∧ zfm V V' ∧ ((¬ (0 ≤ q ∧ q ≤ 5) ∧ y = 0 ∧ τ' = zf τ 36 1) ∨ ((0 ≤ q ∧ q ≤ 5) ∧ ¬ (0 ≤ z ∧ z ≤ 40) ∧ y = 0 ∧ τ' = zf τ 36 2) ∨ ((0 ≤ q ∧ q ≤ 5) ∧ (0 ≤ z ∧ z ≤ 40) ∧ (y = z ∧ τ' = zdn (zf (zf (zw4 (zf τ 36 0) q.toNat z z 0 (-9)) (40 + q.toNat) ((zf τ 36 0) 46)) 46 ((zf τ 36 0) 46 + z)))))) := by
  have w0 : Cond.fieldLink RX8 14 "SashwordsModel" "windows" "[[I" ∈ wsX8_allocate := by decide +kernel
  have iX8 : ∀ w ∈ u_ws RX8 TX8 11, w ∈ wsX8_allocate := by decide +kernel
  refine zM_of (cc := cX8_allocate) (nL := 3) (ret := (some .int)) (own := RX8) (by decide +kernel) rfl rfl (Nat.le_of_ble_eq_true rfl) (fun C X hi0 => ?_)
  have nn1 : 0 ≤ κ 0 ∧ κ 0 ≤ κ 1 ∧ κ 0 ≤ E ∧ κ 1 ≤ 7000 := hM.n.1
  show zG C V 2 6085 0 [(0, .ref (c 60)), (1, .int (zI (q))), (2, .int (zI (z)))] []
  refine zr_aload_n X 1 0 dX8_allocate_0 rfl rfl ?_
  refine zr_iload_n X 2 1 dX8_allocate_1 rfl rfl ?_
  refine zr_callS (kc' := 2) (ks' := 6085) X 5 1 (m_X8_isNoWindow l Γ (V := V) (x := q) (by omega)) gX8_allocate_X8_isNoWindow rfl (by decide +kernel) rfl (by decide) rfl (Nat.le_of_ble_eq_true rfl) dX8_allocate_2 rfl (by omega) (by omega) (fun rv2 V3 hp4 => ?_)
  obtain ⟨⟨no5, no5e, no5a⟩, no5v⟩ := hp4
  rw [no5e, no5v]
  show zG C V 2 6085 5 [(0, .ref (c 60)), (1, .int (zI (q))), (2, .int (zI (z)))] [.int (zI (no5)), .ref (c 60)]
  refine zr_iload_n X 6 2 dX8_allocate_5 rfl rfl ?_
  refine zr_iconst X 7 dX8_allocate_6 rfl ?_
  refine zr_bipush X 9 (40) dX8_allocate_7 rfl (by decide) ?_
  refine zr_callS (kc' := 2) (ks' := 6085) X 12 3 (m_X8_isNo l Γ (V := V) (x := z) (a := 0) (b := 40) (by omega) (by omega) (by omega)) gX8_allocate_X8_isNo rfl (by decide +kernel) rfl (by decide) rfl (Nat.le_of_ble_eq_true rfl) dX8_allocate_9 rfl (by omega) (by omega) (fun rv6 V7 hp8 => ?_)
  obtain ⟨⟨no9, no9e, no9a⟩, no9v⟩ := hp8
  rw [no9e, no9v]
  show zG C V 2 6085 12 [(0, .ref (c 60)), (1, .int (zI (q))), (2, .int (zI (z)))] [.int (zI (no9)), .int (zI (no5)), .ref (c 60)]
  refine zr_callVe (kc' := 2) (ks' := 6085) X 15 2 (m_X8_isThrown l Γ hM (a := no5) (b := no9) (by omega) (by omega)) gX8_allocate_X8_isThrown rfl (by decide +kernel) rfl (by decide) ⟨_, _, hM.1⟩ rfl rfl (Nat.le_of_ble_eq_true rfl) dX8_allocate_12 rfl (by omega) (by omega) (fun rv10 V11 hp12 => ?_)
  obtain ⟨⟨hp12x, hp12k, hp12e, hp12c, hp12m⟩, hp12g⟩ := hp12
  rw [hp12e]
  rcases hp12c with ⟨tc13a, tc13k, tc13x⟩ | ⟨tc13a, tc13b, tc13k, tc13x⟩ | ⟨tc13a, tc13b, tc13k, tc13x⟩
  · skip
    subst tc13k tc13x
    have fx14 : zfm V V11 := (hp12g.mono (fun t ht => by omega))
    obtain ⟨τ15, τ15e⟩ : ∃ zz9 : Nat → Int, zz9 = zf τ 36 1 := ⟨_, rfl⟩
    rw [← τ15e] at hp12m
    show zG C V11 2 6085 15 [(0, .ref (c 60)), (1, .int (zI (q))), (2, .int (zI (z)))] [.int (zI (1))]
    refine zr_if_eq X 20 18 dX8_allocate_15 rfl rfl (by omega) (fun bq16 => absurd bq16 (by omega)) (fun bq16 => ?_)
    refine zr_iconst X 19 dX8_allocate_18 rfl ?_
    exact zr_iret X rfl ⟨0, md, τ15, κ, rfl, hp12m.le (by omega), fx14, Or.inl ⟨by omega, rfl, by rw [τ15e]⟩⟩ dX8_allocate_19
  · skip
    subst tc13k tc13x
    have fx17 : zfm V V11 := (hp12g.mono (fun t ht => by omega))
    obtain ⟨τ18, τ18e⟩ : ∃ zz9 : Nat → Int, zz9 = zf τ 36 2 := ⟨_, rfl⟩
    rw [← τ18e] at hp12m
    show zG C V11 2 6085 15 [(0, .ref (c 60)), (1, .int (zI (q))), (2, .int (zI (z)))] [.int (zI (1))]
    refine zr_if_eq X 20 18 dX8_allocate_15 rfl rfl (by omega) (fun bq19 => absurd bq19 (by omega)) (fun bq19 => ?_)
    refine zr_iconst X 19 dX8_allocate_18 rfl ?_
    exact zr_iret X rfl ⟨0, md, τ18, κ, rfl, hp12m.le (by omega), fx17, Or.inr (Or.inl ⟨by omega, by omega, rfl, by rw [τ18e]⟩)⟩ dX8_allocate_19
  · skip
    subst tc13k tc13x
    have fx20 : zfm V V11 := (hp12g.mono (fun t ht => by omega))
    obtain ⟨τ21, τ21e⟩ : ∃ zz9 : Nat → Int, zz9 = zf τ 36 0 := ⟨_, rfl⟩
    rw [← τ21e] at hp12m
    show zG C V11 2 6085 15 [(0, .ref (c 60)), (1, .int (zI (q))), (2, .int (zI (z)))] [.int (zI (0))]
    refine zr_if_eq X 20 18 dX8_allocate_15 rfl rfl (by omega) (fun bq22 => ?_) (fun bq22 => absurd bq22 (by omega))
    refine zr_aload_n X 21 0 dX8_allocate_20 rfl rfl ?_
    have c823 : V11 (c 60) = some (60, .inr (9, [.ref (md 61), .int (zI (κ 0)), .ref (c 62), .ref (md 63), .ref (md 64), .ref (c 65), .int (zI (τ21 26)), .int (zI (τ21 28)), .int (zI (τ21 29)), .ref (c 66), .int (zI (τ21 36))])) := hp12m.1
    refine zr_get X 24 9 2 c823 rfl iX8 (by decide) w0 rfl rfl dX8_allocate_21 rfl ?_
    refine zr_iload_n X 25 1 dX8_allocate_24 rfl rfl ?_
    refine zr_aload_n X 26 0 dX8_allocate_25 rfl rfl ?_
    refine zr_iload_n X 27 2 dX8_allocate_26 rfl rfl ?_
    refine zr_callVe (kc' := (2 - 2)) (ks' := (6085 - 6085)) X 30 1 (m_X8_fresh l Γ (n := z) (tg := 70 + q.toNat) hp12m (by omega) (by omega)) gX8_allocate_X8_fresh rfl (by decide +kernel) rfl (by decide) ⟨_, _, hp12m.1⟩ rfl rfl (Nat.le_of_ble_eq_true rfl) dX8_allocate_27 rfl (by omega) (by omega) (fun rv24 V25 hp26 => ?_)
    obtain ⟨hp26q, hp26M, hp26K, hp26t, hp26e, hp26m, hp26w, hp26g, hp26u⟩ := hp26
    rw [hp26e]
    have fx27 : zfm V V25 := zag.tr fx20 (hp26g.mono (fun t ht => by omega))
    obtain ⟨τ28, τ28e⟩ : ∃ zz9 : Nat → Int, zz9 = zf τ21 46 (τ21 46 + z) := ⟨_, rfl⟩
    rw [← τ28e] at hp26m
    show zG C V25 (2 - 2) (6085 - 6085) 30 [(0, .ref (c 60)), (1, .int (zI (q))), (2, .int (zI (z)))] [.ref hp26q, .int (zI (q)), .ref (c 62)]
    have c829 : V25 (c 62) = some (62, zq Γ.2.1 4 6 (fun i => some (hp26M (70 + i)))) := hp26m.2.2.1
    refine zr_aastI X 31 c829 hp26w.1 (by omega) dX8_allocate_30 rfl ?_
    show zG C (zu V25 (c 62) 62 (zq Γ.2.1 4 6 (zg (fun j => some (hp26M (70 + j))) q.toNat hp26q))) (2 - 2) (6085 - 6085) 31 [(0, .ref (c 60)), (1, .int (zI (q))), (2, .int (zI (z)))] []
    obtain ⟨cm30h, cm30f⟩ := hp26m.newW (i := q.toNat) (q := hp26q) (by omega) hp26w
    obtain ⟨cm30V, cm30e⟩ : ∃ zz9 : zV, zz9 = (zu V25 (c 62) 62 (zq Γ.2.1 4 6 (zg (fun j => some (hp26M (70 + j))) q.toNat hp26q))) := ⟨_, rfl⟩
    obtain ⟨md31, md31e⟩ : ∃ zz9 : Nat → Nat, zz9 = zmu hp26M (70 + q.toNat) hp26q := ⟨_, rfl⟩
    obtain ⟨κ32, κ32e⟩ : ∃ zz9 : Nat → Int, zz9 = zf (zf hp26K (10 + q.toNat) hp26t) (20 + q.toNat) (-1) := ⟨_, rfl⟩
    have cm30m : zMo Γ cm30V c md31 (zf (zw4 τ28 q.toNat z z 0 (-9)) (40 + q.toNat) hp26t) κ32 (E + z) := by
      rw [md31e, κ32e, cm30e]
      exact cm30h
    have cm30g : zag (fun x => x ≠ 62) V25 cm30V := by
      rw [cm30e]
      exact cm30f
    refine zr_view (cm30e).symm ?_
    have fx33 : zfm V cm30V := zag.tr fx27 (cm30g.mono (fun t ht => by omega))
    obtain ⟨τ34, τ34e⟩ : ∃ zz9 : Nat → Int, zz9 = zf (zw4 τ28 q.toNat z z 0 (-9)) (40 + q.toNat) hp26t := ⟨_, rfl⟩
    rw [← τ34e] at cm30m
    show zG C cm30V (2 - 2) (6085 - 6085) 31 [(0, .ref (c 60)), (1, .int (zI (q))), (2, .int (zI (z)))] []
    refine zr_aload_n X 32 0 dX8_allocate_31 rfl rfl ?_
    refine zr_iload_n X 33 2 dX8_allocate_32 rfl rfl ?_
    refine zr_callVe (kc' := (2 - 2)) (ks' := (6085 - 6085)) X 36 1 (m_X8_done l Γ cm30m) gX8_allocate_X8_done rfl (by decide +kernel) rfl (by decide) ⟨_, _, cm30m.1⟩ rfl rfl (Nat.le_of_ble_eq_true rfl) dX8_allocate_33 rfl (by omega) (by omega) (fun rv35 V36 hp37 => ?_)
    obtain ⟨hp37e, hp37m, hp37g⟩ := hp37
    rw [hp37e]
    have fx38 : zfm V V36 := zag.tr fx33 (hp37g.mono (fun t ht => by omega))
    obtain ⟨τ39, τ39e⟩ : ∃ zz9 : Nat → Int, zz9 = zdn τ34 := ⟨_, rfl⟩
    rw [← τ39e] at hp37m
    show zG C V36 (2 - 2) (6085 - 6085) 36 [(0, .ref (c 60)), (1, .int (zI (q))), (2, .int (zI (z)))] [.int (zI (z))]
    exact zr_iret X rfl ⟨z, md31, τ39, κ32, rfl, hp37m.le (by omega), fx38, Or.inr (Or.inr ⟨by omega, by omega, ⟨rfl, by rw [τ39e, τ34e, hp26u, τ28e, zal_comm (by omega), τ21e]⟩⟩)⟩ dX8_allocate_36
