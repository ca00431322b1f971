/-! the model: builder, kept text, pipe -/
theorem zf_zf {f : Nat → Int} {i : Nat} {x y : Int} : zf (zf f i x) i y = zf f i y := by
  funext j
  unfold zf
  by_cases h : j = i
  · rw [if_pos h, if_pos h]
  · rw [if_neg h, if_neg h, if_neg h]
theorem zly_two {τ : Nat → Int} {a b : Nat} {x : Int} {h : Nat → Int} : zly (zf τ 24 x) 100 (a + b) (fun k => if k < a then τ (100 + k) else h (k - a)) = zly (zf τ 24 x) (100 + a) b h := by
  funext j
  unfold zly
  by_cases c1 : 100 + a ≤ j ∧ j < 100 + a + b
  · rw [if_pos (c := 100 ≤ j ∧ j < 100 + (a + b)) (by omega), if_pos c1]
    dsimp only
    rw [if_neg (by omega)]
    exact congrArg h (by omega)
  · rw [if_neg c1]
    by_cases c2 : 100 ≤ j ∧ j < 100 + (a + b)
    · rw [if_pos c2]
      dsimp only
      rw [if_pos (by omega), zf_ne (by omega)]
      exact congrArg τ (by omega)
    · rw [if_neg c2]
theorem zly_rt {τ : Nat → Int} {n : Nat} : zly τ 100 n (fun k => τ (100 + (n - 1 - k))) = zrt τ n := rfl
/-- a row turned round as far as k -/
def zrw (f : Nat → Int) (n : Nat) (k : Int) : Nat → Int := fun j => if (j : Int) < k then f (n - 1 - j) else 0
theorem zrw_0 {f : Nat → Int} {n : Nat} : zrw f n 0 = fun _ => 0 := by
  funext j
  unfold zrw
  rw [if_neg (by omega)]
theorem zrw_in {f : Nat → Int} {n : Nat} {k : Int} {j : Nat} (h : (j : Int) < k) : zrw f n k j = f (n - 1 - j) := if_pos h
theorem zrw_step {f : Nat → Int} {n : Nat} {k v : Int} (hk : 0 ≤ k) (hv : v = f (n - 1 - k.toNat)) : zf (zrw f n k) k.toNat v = zrw f n (k + 1) := by
  funext j
  unfold zf zrw
  by_cases e : j = k.toNat
  · rw [if_pos e, if_pos (by omega), hv, e]
  · rw [if_neg e]
    by_cases c : (j : Int) < k
    · rw [if_pos c, if_pos (by omega)]
    · rw [if_neg c, if_neg (by omega)]
theorem zrw_zc {f : Nat → Int} {n : Nat} {k : Int} (h : zc f) : zc (zrw f n k) := fun j => by
  unfold zrw
  split
  · exact h _
  · exact zc_zero j
set_option maxRecDepth 100000 in
set_option maxHeartbeats 4000000 in
theorem m_X8_keep (l : Launch) (Γ : zGam) {V : zV} {c md : Nat → Nat} {τ κ : Nat → Int} {E : Int} {q : Int} (hM : zMo Γ V c md τ κ E) (hq : -2147483648 ≤ q ∧ q ≤ 2147483647) : zM l Γ 5 yX8_keep wsX8_keep 3 240 V [.ref (c 60), .int (zI (q))] (fun rv V' => ∃ (y : Int) (md' : Nat → Nat) (τ' κ' : Nat → Int), rv = some (.int (zI y)) ∧ zMo Γ V' c md' τ' κ' (E + 40) ∧ zfm V V' ∧ ((¬ (0 ≤ q ∧ q ≤ 7) ∧ y = 0 ∧ τ' = zf τ 36 1) ∨ ((0 ≤ q ∧ q ≤ 7) ∧ ¬ (True) ∧ y = 0 ∧ τ' = zf τ 36 2) ∨ ((0 ≤ q ∧ q ≤ 7) ∧ (True) ∧ (y = zsz (zf τ 36 0) q ∧ τ' = zdn (zly (zf (zf τ 36 0) 25 (zsz (zf τ 36 0) q)) 200 (zsz (zf τ 36 0) q).toNat (zsg (zf τ 36 0) q)))))) := by
  have w0 : Cond.arrayClass .int ∈ wsX8_keep := by decide +kernel
  have w1 : Cond.fieldLink RX8 21 "SashwordsModel" "kept" "[I" ∈ wsX8_keep := by decide +kernel
  have iX8 : ∀ w ∈ u_ws RX8 TX8 11, w ∈ wsX8_keep := by decide +kernel
  refine zM_of (cc := cX8_keep) (nL := 2) (ret := (some .int)) (own := RX8) (by decide +kernel) rfl rfl (Nat.le_of_ble_eq_true rfl) (fun C X hi0 => ?_)
  have nn1 : (0 ≤ κ 0 ∧ κ 0 ≤ κ 1 ∧ κ 0 ≤ E ∧ κ 1 ≤ 7000) ∧ (0 ≤ τ 24 ∧ τ 24 ≤ 80 ∧ 0 ≤ τ 25 ∧ τ 25 ≤ 80) ∧ 1 ≤ τ 26 ∧ τ 26 ≤ 8 ∧ 0 ≤ τ 29 ∧ τ 29 ≤ τ 28 ∧ τ 28 ≤ 160 ∧ τ 27 ≤ τ 26 ∧ τ 27 = τ 28 - τ 29 := hM.n
  show zG C V 3 240 0 [(0, .ref (c 60)), (1, .int (zI (q)))] []
  refine zr_aload_n X 1 0 dX8_keep_0 rfl rfl ?_
  refine zr_iload_n X 2 1 dX8_keep_1 rfl rfl ?_
  refine zr_callS (kc' := 3) (ks' := 240) X 5 1 (m_X8_isNoSource l Γ (V := V) (x := q) (by omega)) gX8_keep_X8_isNoSource rfl (by decide +kernel) rfl (by decide) rfl (Nat.le_of_ble_eq_true rfl) dX8_keep_2 rfl (by omega) (by omega) (fun rv2 V3 hp4 => ?_)
  obtain ⟨⟨no5, no5e, no5a⟩, no5v⟩ := hp4
  rw [no5e, no5v]
  show zG C V 3 240 5 [(0, .ref (c 60)), (1, .int (zI (q)))] [.int (zI (no5)), .ref (c 60)]
  refine zr_iconst X 6 dX8_keep_5 rfl ?_
  refine zr_callVe (kc' := 3) (ks' := 240) X 9 2 (m_X8_isThrown l Γ hM (a := no5) (b := 0) (by omega) (by omega)) gX8_keep_X8_isThrown rfl (by decide +kernel) rfl (by decide) ⟨_, _, hM.1⟩ rfl rfl (Nat.le_of_ble_eq_true rfl) dX8_keep_6 rfl (by omega) (by omega) (fun rv6 V7 hp8 => ?_)
  obtain ⟨⟨hp8x, hp8k, hp8e, hp8c, hp8m⟩, hp8g⟩ := hp8
  rw [hp8e]
  rcases hp8c with ⟨tc9a, tc9k, tc9x⟩ | ⟨tc9a, tc9b, tc9k, tc9x⟩ | ⟨tc9a, tc9b, tc9k, tc9x⟩
  · skip
    subst tc9k tc9x
    have fx10 : zfm V V7 := (hp8g.mono (fun t ht => by omega))
    obtain ⟨τ11, τ11e⟩ : ∃ zz9 : Nat → Int, zz9 = zf τ 36 1 := ⟨_, rfl⟩
    rw [← τ11e] at hp8m
    have τ11_24 : τ11 24 = τ 24 := by rw [τ11e]; exact rfl
    have τ11_25 : τ11 25 = τ 25 := by rw [τ11e]; exact rfl
    have τ11_26 : τ11 26 = τ 26 := by rw [τ11e]; exact rfl
    have τ11_27 : τ11 27 = τ 27 := by rw [τ11e]; exact rfl
    have τ11_28 : τ11 28 = τ 28 := by rw [τ11e]; exact rfl
    have τ11_29 : τ11 29 = τ 29 := by rw [τ11e]; exact rfl
    have τ11_30 : τ11 30 = τ 30 := by rw [τ11e]; exact rfl
    have τ11_31 : τ11 31 = τ 31 := by rw [τ11e]; exact rfl
    have τ11_32 : τ11 32 = τ 32 := by rw [τ11e]; exact rfl
    have τ11_33 : τ11 33 = τ 33 := by rw [τ11e]; exact rfl
    have τ11_36 : τ11 36 = 1 := by rw [τ11e]; exact rfl
    show zG C V7 3 240 9 [(0, .ref (c 60)), (1, .int (zI (q)))] [.int (zI (1))]
    refine zr_if_eq X 14 12 dX8_keep_9 rfl rfl (by omega) (fun bq12 => absurd bq12 (by omega)) (fun bq12 => ?_)
    refine zr_iconst X 13 dX8_keep_12 rfl ?_
    exact zr_iret X rfl ⟨0, md, τ11, κ, rfl, hp8m.le (by omega), fx10, Or.inl ⟨by omega, rfl, by rw [τ11e]⟩⟩ dX8_keep_13
  · exact absurd tc9b (by decide)
  · skip
    subst tc9k tc9x
    have fx13 : zfm V V7 := (hp8g.mono (fun t ht => by omega))
    obtain ⟨τ14, τ14e⟩ : ∃ zz9 : Nat → Int, zz9 = zf τ 36 0 := ⟨_, rfl⟩
    rw [← τ14e] at hp8m
    have τ14_24 : τ14 24 = τ 24 := by rw [τ14e]; exact rfl
    have τ14_25 : τ14 25 = τ 25 := by rw [τ14e]; exact rfl
    have τ14_26 : τ14 26 = τ 26 := by rw [τ14e]; exact rfl
    have τ14_27 : τ14 27 = τ 27 := by rw [τ14e]; exact rfl
    have τ14_28 : τ14 28 = τ 28 := by rw [τ14e]; exact rfl
    have τ14_29 : τ14 29 = τ 29 := by rw [τ14e]; exact rfl
    have τ14_30 : τ14 30 = τ 30 := by rw [τ14e]; exact rfl
    have τ14_31 : τ14 31 = τ 31 := by rw [τ14e]; exact rfl
    have τ14_32 : τ14 32 = τ 32 := by rw [τ14e]; exact rfl
    have τ14_33 : τ14 33 = τ 33 := by rw [τ14e]; exact rfl
    have τ14_36 : τ14 36 = 0 := by rw [τ14e]; exact rfl
    show zG C V7 3 240 9 [(0, .ref (c 60)), (1, .int (zI (q)))] [.int (zI (0))]
    refine zr_if_eq X 14 12 dX8_keep_9 rfl rfl (by omega) (fun bq15 => ?_) (fun bq15 => absurd bq15 (by omega))
    refine zr_aload_n X 15 0 dX8_keep_14 rfl rfl ?_
    refine zr_aload_n X 16 0 dX8_keep_15 rfl rfl ?_
    refine zr_iload_n X 17 1 dX8_keep_16 rfl rfl ?_
    refine zr_callVe (kc' := (3 - 1)) (ks' := (240 - 40)) X 20 1 (m_X8_textOf l Γ (tg := 76) (q := q) hp8m (by omega)) gX8_keep_X8_textOf rfl (by decide +kernel) rfl (by decide) ⟨_, _, hp8m.1⟩ rfl rfl (Nat.le_of_ble_eq_true rfl) dX8_keep_17 rfl (by omega) (by omega) (fun rv16 V17 hp18 => ?_)
    obtain ⟨hp18q, hp18t, hp18f, hp18e, hp18h, hp18c, hp18a, hp18n1, hp18n2, hp18g, hp18z⟩ := hp18
    rw [hp18e]
    have hp18m := hp8m.kept hp18g (fun _ _ _ => trivial)
    have fx19 : zfm V V17 := zag.tr fx13 (hp18g.mono (fun _ _ => trivial))
    show zG C V17 (3 - 1) (240 - 40) 20 [(0, .ref (c 60)), (1, .int (zI (q)))] [.ref hp18q, .ref (c 60)]
    refine zr_iconst X 21 dX8_keep_20 rfl ?_
    refine zr_newai (kc' := ((3 - 1) - 1)) (ks' := ((240 - 40) - (0 : Int).toNat)) X 23 80 w0 (by omega) dX8_keep_21 rfl (by omega) (by omega) (fun q20 hq21 => ?_)
    have nz22 := zag.rf.new (P := zal) (t := 80) (e := za Γ.2.1 0 ((0 : Int).toNat) (fun _ => 0)) hq21
    obtain ⟨cm23h, cm23f⟩ := (⟨hp18m.kept nz22 (fun _ _ _ => trivial), nz22⟩ : _ ∧ _)
    obtain ⟨cm23V, cm23e⟩ : ∃ zz9 : zV, zz9 = (zu V17 q20 80 (za Γ.2.1 0 ((0 : Int).toNat) (fun _ => 0))) := ⟨_, rfl⟩
    have cm23m : zMo Γ cm23V c md (τ14) κ E := by
      rw [cm23e]
      exact cm23h
    have cm23g : zag zal V17 cm23V := by
      rw [cm23e]
      exact cm23f
    have cm23s : cm23V q20 = some (80, za Γ.2.1 0 ((0 : Int).toNat) (fun _ => 0)) := by
      rw [cm23e]
      exact zu_eq _ _ _ _
    refine zr_view (cm23e).symm ?_
    have lc24 := cm23g _ _ _ hp18h trivial
    have fx25 : zfm V cm23V := zag.tr fx19 (cm23g.mono (fun _ _ => trivial))
    show zG C cm23V ((3 - 1) - 1) ((240 - 40) - (0 : Int).toNat) 23 [(0, .ref (c 60)), (1, .int (zI (q)))] [.ref q20, .ref hp18q, .ref (c 60)]
    refine zr_callS (kc' := ((3 - 1) - 1) - 1) (ks' := ((240 - 40) - (0 : Int).toNat) - ((zsz τ14 q).toNat + (0 : Int).toNat)) X 26 2 (m_X8_joined l Γ (tg := 64) lc24 hp18c (by omega) cm23s z0c (by omega)) gX8_keep_X8_joined rfl (by decide +kernel) rfl (by decide) rfl (Nat.le_of_ble_eq_true rfl) dX8_keep_23 rfl (by omega) (by omega) (fun rv26 V27 hp28 => ?_)
    obtain ⟨hp28q, hp28f, hp28e, hp28h, hp28c, hp28g, hp28z⟩ := hp28
    rw [hp28e]
    have hp28m := cm23m.kept hp28g (fun _ _ _ => trivial)
    have lc29 := hp28g _ _ _ lc24 trivial
    have lc30 := hp28g _ _ _ cm23s trivial
    have fx31 : zfm V V27 := zag.tr fx25 (hp28g.mono (fun _ _ => trivial))
    show zG C V27 (((3 - 1) - 1) - 1) (((240 - 40) - (0 : Int).toNat) - ((zsz τ14 q).toNat + (0 : Int).toNat)) 26 [(0, .ref (c 60)), (1, .int (zI (q)))] [.ref hp28q, .ref (c 60)]
    have hzs : zsz (zf τ 36 0) q = zsz τ14 q := by rw [τ14e]
    have c832 : V27 (c 60) = some (60, .inr (9, [.ref (md 61), .int (zI (κ 0)), .ref (c 62), .ref (md 63), .ref (md 64), .ref (c 65), .int (zI (τ14 26)), .int (zI (τ14 28)), .int (zI (τ14 29)), .ref (c 66), .int (zI (τ14 36))])) := hp28m.1
    refine zr_put X 29 9 4 [.ref (md 61), .int (zI (κ 0)), .ref (c 62), .ref (md 63), .ref hp28q, .ref (c 65), .int (zI (τ14 26)), .int (zI (τ14 28)), .int (zI (τ14 29)), .ref (c 66), .int (zI (τ14 36))] tyX8 c832 rfl iX8 tyX8_ok nmX8 (by decide) w1 rfl rfl rfl rfl (Nat.le_of_ble_eq_true rfl) rfl dX8_keep_26 rfl ?_
    obtain ⟨cm33h, cm33f⟩ := hp28m.newK hp28h hp28c (by omega) (g := zsg τ14 q) (fun k hk => by rw [hp28z k (by omega), if_pos (by omega)]; exact hp18z k (by omega))
    obtain ⟨cm33V, cm33e⟩ : ∃ zz9 : zV, zz9 = (zu V27 (c 60) 60 (.inr (9, [.ref (md 61), .int (zI (κ 0)), .ref (c 62), .ref (md 63), .ref hp28q, .ref (c 65), .int (zI (τ14 26)), .int (zI (τ14 28)), .int (zI (τ14 29)), .ref (c 66), .int (zI (τ14 36))]))) := ⟨_, rfl⟩
    obtain ⟨md34, md34e⟩ : ∃ zz9 : Nat → Nat, zz9 = zmu md 64 hp28q := ⟨_, rfl⟩
    have cm33m : zMo Γ cm33V c md34 (zly (zf τ14 25 (((zsz τ14 q).toNat + (0 : Int).toNat) : Nat)) 200 (((zsz τ14 q).toNat + (0 : Int).toNat)) (zsg τ14 q)) κ E := by
      rw [md34e, cm33e]
      exact cm33h
    have cm33g : zag (fun x => x ≠ 60) V27 cm33V := by
      rw [cm33e]
      exact cm33f
    refine zr_view (cm33e).symm ?_
    have lc35 := cm33g _ _ _ lc29 (by omega)
    have lc36 := cm33g _ _ _ lc30 (by omega)
    have lc37 := cm33g _ _ _ hp28h (by omega)
    have fx38 : zfm V cm33V := zag.tr fx31 (cm33g.mono (fun t ht => by omega))
    obtain ⟨τ39, τ39e⟩ : ∃ zz9 : Nat → Int, zz9 = zly (zf τ14 25 (((zsz τ14 q).toNat + (0 : Int).toNat) : Nat)) 200 (((zsz τ14 q).toNat + (0 : Int).toNat)) (zsg τ14 q) := ⟨_, rfl⟩
    rw [← τ39e] at cm33m
    have τ39_24 : τ39 24 = τ14 24 := by rw [τ39e]; exact (zly_ne (by omega)).trans rfl
    have τ39_25 : τ39 25 = (((zsz τ14 q).toNat + (0 : Int).toNat) : Nat) := by rw [τ39e]; exact (zly_ne (by omega)).trans rfl
    have τ39_26 : τ39 26 = τ14 26 := by rw [τ39e]; exact (zly_ne (by omega)).trans rfl
    have τ39_27 : τ39 27 = τ14 27 := by rw [τ39e]; exact (zly_ne (by omega)).trans rfl
    have τ39_28 : τ39 28 = τ14 28 := by rw [τ39e]; exact (zly_ne (by omega)).trans rfl
    have τ39_29 : τ39 29 = τ14 29 := by rw [τ39e]; exact (zly_ne (by omega)).trans rfl
    have τ39_30 : τ39 30 = τ14 30 := by rw [τ39e]; exact (zly_ne (by omega)).trans rfl
    have τ39_31 : τ39 31 = τ14 31 := by rw [τ39e]; exact (zly_ne (by omega)).trans rfl
    have τ39_32 : τ39 32 = τ14 32 := by rw [τ39e]; exact (zly_ne (by omega)).trans rfl
    have τ39_33 : τ39 33 = τ14 33 := by rw [τ39e]; exact (zly_ne (by omega)).trans rfl
    have τ39_36 : τ39 36 = τ14 36 := by rw [τ39e]; exact (zly_ne (by omega)).trans rfl
    show zG C cm33V (((3 - 1) - 1) - 1) (((240 - 40) - (0 : Int).toNat) - ((zsz τ14 q).toNat + (0 : Int).toNat)) 29 [(0, .ref (c 60)), (1, .int (zI (q)))] []
    refine zr_aload_n X 30 0 dX8_keep_29 rfl rfl ?_
    refine zr_aload_n X 31 0 dX8_keep_30 rfl rfl ?_
    have c840 : cm33V (c 60) = some (60, .inr (9, [.ref (md34 61), .int (zI (κ 0)), .ref (c 62), .ref (md34 63), .ref (md34 64), .ref (c 65), .int (zI (τ39 26)), .int (zI (τ39 28)), .int (zI (τ39 29)), .ref (c 66), .int (zI (τ39 36))])) := cm33m.1
    refine zr_get X 34 9 4 c840 rfl iX8 (by decide) w1 rfl rfl dX8_keep_31 rfl ?_
    obtain ⟨c841f, c841, c841c, c841v⟩ := cm33m.ct.2.2.2.2
    refine zr_alen X 35 0 c841 (by decide) dX8_keep_34 rfl ?_
    refine zr_callVe (kc' := (((3 - 1) - 1) - 1)) (ks' := (((240 - 40) - (0 : Int).toNat) - ((zsz τ14 q).toNat + (0 : Int).toNat))) X 38 1 (m_X8_done l Γ cm33m) gX8_keep_X8_done rfl (by decide +kernel) rfl (by decide) ⟨_, _, cm33m.1⟩ rfl rfl (Nat.le_of_ble_eq_true rfl) dX8_keep_35 rfl (by omega) (by omega) (fun rv42 V43 hp44 => ?_)
    obtain ⟨hp44e, hp44m, hp44g⟩ := hp44
    rw [hp44e]
    have lc45 := hp44g _ _ _ lc35 (by omega)
    have lc46 := hp44g _ _ _ lc36 (by omega)
    have lc47 := hp44g _ _ _ lc37 (by omega)
    have fx48 : zfm V V43 := zag.tr fx38 (hp44g.mono (fun t ht => by omega))
    obtain ⟨τ49, τ49e⟩ : ∃ zz9 : Nat → Int, zz9 = zdn τ39 := ⟨_, rfl⟩
    rw [← τ49e] at hp44m
    have τ49_24 : τ49 24 = τ39 24 := by rw [τ49e]; exact rfl
    have τ49_25 : τ49 25 = τ39 25 := by rw [τ49e]; exact rfl
    have τ49_26 : τ49 26 = τ39 26 := by rw [τ49e]; exact rfl
    have τ49_27 : τ49 27 = τ39 27 := by rw [τ49e]; exact rfl
    have τ49_28 : τ49 28 = τ39 28 := by rw [τ49e]; exact rfl
    have τ49_29 : τ49 29 = τ39 29 := by rw [τ49e]; exact rfl
    have τ49_30 : τ49 30 = τ39 30 + 1 := by rw [τ49e]; exact rfl
    have τ49_31 : τ49 31 = τ39 31 := by rw [τ49e]; exact rfl
    have τ49_32 : τ49 32 = τ39 32 := by rw [τ49e]; exact rfl
    have τ49_33 : τ49 33 = τ39 33 := by rw [τ49e]; exact rfl
    have τ49_36 : τ49 36 = τ39 36 := by rw [τ49e]; exact rfl
    show zG C V43 (((3 - 1) - 1) - 1) (((240 - 40) - (0 : Int).toNat) - ((zsz τ14 q).toNat + (0 : Int).toNat)) 38 [(0, .ref (c 60)), (1, .int (zI (q)))] [.int (zI (((τ39 25).toNat : Nat)))]
    exact zr_iret X rfl ⟨((τ39 25).toNat : Nat), md34, τ49, κ, rfl, hp44m.le (by omega), fx48, Or.inr (Or.inr ⟨by omega, trivial, ⟨by omega, by rw [τ49e, τ39e, show ((zsz τ14 q).toNat + (0 : Int).toNat) = (zsz τ14 q).toNat by omega, show (((zsz τ14 q).toNat : Nat) : Int) = zsz τ14 q by omega, τ14e]⟩⟩)⟩ dX8_keep_38
set_option maxRecDepth 100000 in
set_option maxHeartbeats 4000000 in
theorem m_X8_load (l : Launch) (Γ : zGam) {V : zV} {c md : Nat → Nat} {τ κ : Nat → Int} {E : Int} {q : Int} (hM : zMo Γ V c md τ κ E) (hq : -2147483648 ≤ q ∧ q ≤ 2147483647) : zM l Γ 5 yX8_load wsX8_load 3 240 V [.ref (c 60), .int (zI (q))] (fun rv V' => ∃ (y : Int) (md' : Nat → Nat) (τ' κ' : Nat → Int), rv = some (.int (zI y)) ∧ zMo Γ V' c md' τ' κ' (E + 40) ∧ zfm V V' ∧ ((¬ (0 ≤ q ∧ q ≤ 7) ∧ y = 0 ∧ τ' = zf τ 36 1) ∨ ((0 ≤ q ∧ q ≤ 7) ∧ ¬ (True) ∧ y = 0 ∧ τ' = zf τ 36 2) ∨ ((0 ≤ q ∧ q ≤ 7) ∧ (True) ∧ (y = zsz (zf τ 36 0) q ∧ τ' = zdn (zly (zf (zf τ 36 0) 24 (zsz (zf τ 36 0) q)) 100 (zsz (zf τ 36 0) q).toNat (zsg (zf τ 36 0) q)))))) := by
  have w0 : Cond.arrayClass .int ∈ wsX8_load := by decide +kernel
  have w1 : Cond.fieldLink RX8 18 "SashwordsModel" "built" "[I" ∈ wsX8_load := by decide +kernel
  have iX8 : ∀ w ∈ u_ws RX8 TX8 11, w ∈ wsX8_load := by decide +kernel
  refine zM_of (cc := cX8_load) (nL := 2) (ret := (some .int)) (own := RX8) (by decide +kernel) rfl rfl (Nat.le_of_ble_eq_true rfl) (fun C X hi0 => ?_)
  have nn1 : (0 ≤ κ 0 ∧ κ 0 ≤ κ 1 ∧ κ 0 ≤ E ∧ κ 1 ≤ 7000) ∧ (0 ≤ τ 24 ∧ τ 24 ≤ 80 ∧ 0 ≤ τ 25 ∧ τ 25 ≤ 80) ∧ 1 ≤ τ 26 ∧ τ 26 ≤ 8 ∧ 0 ≤ τ 29 ∧ τ 29 ≤ τ 28 ∧ τ 28 ≤ 160 ∧ τ 27 ≤ τ 26 ∧ τ 27 = τ 28 - τ 29 := hM.n
  show zG C V 3 240 0 [(0, .ref (c 60)), (1, .int (zI (q)))] []
  refine zr_aload_n X 1 0 dX8_load_0 rfl rfl ?_
  refine zr_iload_n X 2 1 dX8_load_1 rfl rfl ?_
  refine zr_callS (kc' := 3) (ks' := 240) X 5 1 (m_X8_isNoSource l Γ (V := V) (x := q) (by omega)) gX8_load_X8_isNoSource rfl (by decide +kernel) rfl (by decide) rfl (Nat.le_of_ble_eq_true rfl) dX8_load_2 rfl (by omega) (by omega) (fun rv2 V3 hp4 => ?_)
  obtain ⟨⟨no5, no5e, no5a⟩, no5v⟩ := hp4
  rw [no5e, no5v]
  show zG C V 3 240 5 [(0, .ref (c 60)), (1, .int (zI (q)))] [.int (zI (no5)), .ref (c 60)]
  refine zr_iconst X 6 dX8_load_5 rfl ?_
  refine zr_callVe (kc' := 3) (ks' := 240) X 9 2 (m_X8_isThrown l Γ hM (a := no5) (b := 0) (by omega) (by omega)) gX8_load_X8_isThrown rfl (by decide +kernel) rfl (by decide) ⟨_, _, hM.1⟩ rfl rfl (Nat.le_of_ble_eq_true rfl) dX8_load_6 rfl (by omega) (by omega) (fun rv6 V7 hp8 => ?_)
  obtain ⟨⟨hp8x, hp8k, hp8e, hp8c, hp8m⟩, hp8g⟩ := hp8
  rw [hp8e]
  rcases hp8c with ⟨tc9a, tc9k, tc9x⟩ | ⟨tc9a, tc9b, tc9k, tc9x⟩ | ⟨tc9a, tc9b, tc9k, tc9x⟩
  · skip
    subst tc9k tc9x
    have fx10 : zfm V V7 := (hp8g.mono (fun t ht => by omega))
    obtain ⟨τ11, τ11e⟩ : ∃ zz9 : Nat → Int, zz9 = zf τ 36 1 := ⟨_, rfl⟩
    rw [← τ11e] at hp8m
    have τ11_24 : τ11 24 = τ 24 := by rw [τ11e]; exact rfl
    have τ11_25 : τ11 25 = τ 25 := by rw [τ11e]; exact rfl
    have τ11_26 : τ11 26 = τ 26 := by rw [τ11e]; exact rfl
    have τ11_27 : τ11 27 = τ 27 := by rw [τ11e]; exact rfl
    have τ11_28 : τ11 28 = τ 28 := by rw [τ11e]; exact rfl
    have τ11_29 : τ11 29 = τ 29 := by rw [τ11e]; exact rfl
    have τ11_30 : τ11 30 = τ 30 := by rw [τ11e]; exact rfl
    have τ11_31 : τ11 31 = τ 31 := by rw [τ11e]; exact rfl
    have τ11_32 : τ11 32 = τ 32 := by rw [τ11e]; exact rfl
    have τ11_33 : τ11 33 = τ 33 := by rw [τ11e]; exact rfl
    have τ11_36 : τ11 36 = 1 := by rw [τ11e]; exact rfl
    show zG C V7 3 240 9 [(0, .ref (c 60)), (1, .int (zI (q)))] [.int (zI (1))]
    refine zr_if_eq X 14 12 dX8_load_9 rfl rfl (by omega) (fun bq12 => absurd bq12 (by omega)) (fun bq12 => ?_)
    refine zr_iconst X 13 dX8_load_12 rfl ?_
    exact zr_iret X rfl ⟨0, md, τ11, κ, rfl, hp8m.le (by omega), fx10, Or.inl ⟨by omega, rfl, by rw [τ11e]⟩⟩ dX8_load_13
  · exact absurd tc9b (by decide)
  · skip
    subst tc9k tc9x
    have fx13 : zfm V V7 := (hp8g.mono (fun t ht => by omega))
    obtain ⟨τ14, τ14e⟩ : ∃ zz9 : Nat → Int, zz9 = zf τ 36 0 := ⟨_, rfl⟩
    rw [← τ14e] at hp8m
    have τ14_24 : τ14 24 = τ 24 := by rw [τ14e]; exact rfl
    have τ14_25 : τ14 25 = τ 25 := by rw [τ14e]; exact rfl
    have τ14_26 : τ14 26 = τ 26 := by rw [τ14e]; exact rfl
    have τ14_27 : τ14 27 = τ 27 := by rw [τ14e]; exact rfl
    have τ14_28 : τ14 28 = τ 28 := by rw [τ14e]; exact rfl
    have τ14_29 : τ14 29 = τ 29 := by rw [τ14e]; exact rfl
    have τ14_30 : τ14 30 = τ 30 := by rw [τ14e]; exact rfl
    have τ14_31 : τ14 31 = τ 31 := by rw [τ14e]; exact rfl
    have τ14_32 : τ14 32 = τ 32 := by rw [τ14e]; exact rfl
    have τ14_33 : τ14 33 = τ 33 := by rw [τ14e]; exact rfl
    have τ14_36 : τ14 36 = 0 := by rw [τ14e]; exact rfl
    show zG C V7 3 240 9 [(0, .ref (c 60)), (1, .int (zI (q)))] [.int (zI (0))]
    refine zr_if_eq X 14 12 dX8_load_9 rfl rfl (by omega) (fun bq15 => ?_) (fun bq15 => absurd bq15 (by omega))
    refine zr_aload_n X 15 0 dX8_load_14 rfl rfl ?_
    refine zr_aload_n X 16 0 dX8_load_15 rfl rfl ?_
    refine zr_iload_n X 17 1 dX8_load_16 rfl rfl ?_
    refine zr_callVe (kc' := (3 - 1)) (ks' := (240 - 40)) X 20 1 (m_X8_textOf l Γ (tg := 76) (q := q) hp8m (by omega)) gX8_load_X8_textOf rfl (by decide +kernel) rfl (by decide) ⟨_, _, hp8m.1⟩ rfl rfl (Nat.le_of_ble_eq_true rfl) dX8_load_17 rfl (by omega) (by omega) (fun rv16 V17 hp18 => ?_)
    obtain ⟨hp18q, hp18t, hp18f, hp18e, hp18h, hp18c, hp18a, hp18n1, hp18n2, hp18g, hp18z⟩ := hp18
    rw [hp18e]
    have hp18m := hp8m.kept hp18g (fun _ _ _ => trivial)
    have fx19 : zfm V V17 := zag.tr fx13 (hp18g.mono (fun _ _ => trivial))
    show zG C V17 (3 - 1) (240 - 40) 20 [(0, .ref (c 60)), (1, .int (zI (q)))] [.ref hp18q, .ref (c 60)]
    refine zr_iconst X 21 dX8_load_20 rfl ?_
    refine zr_newai (kc' := ((3 - 1) - 1)) (ks' := ((240 - 40) - (0 : Int).toNat)) X 23 80 w0 (by omega) dX8_load_21 rfl (by omega) (by omega) (fun q20 hq21 => ?_)
    have nz22 := zag.rf.new (P := zal) (t := 80) (e := za Γ.2.1 0 ((0 : Int).toNat) (fun _ => 0)) hq21
    obtain ⟨cm23h, cm23f⟩ := (⟨hp18m.kept nz22 (fun _ _ _ => trivial), nz22⟩ : _ ∧ _)
    obtain ⟨cm23V, cm23e⟩ : ∃ zz9 : zV, zz9 = (zu V17 q20 80 (za Γ.2.1 0 ((0 : Int).toNat) (fun _ => 0))) := ⟨_, rfl⟩
    have cm23m : zMo Γ cm23V c md (τ14) κ E := by
      rw [cm23e]
      exact cm23h
    have cm23g : zag zal V17 cm23V := by
      rw [cm23e]
      exact cm23f
    have cm23s : cm23V q20 = some (80, za Γ.2.1 0 ((0 : Int).toNat) (fun _ => 0)) := by
      rw [cm23e]
      exact zu_eq _ _ _ _
    refine zr_view (cm23e).symm ?_
    have lc24 := cm23g _ _ _ hp18h trivial
    have fx25 : zfm V cm23V := zag.tr fx19 (cm23g.mono (fun _ _ => trivial))
    show zG C cm23V ((3 - 1) - 1) ((240 - 40) - (0 : Int).toNat) 23 [(0, .ref (c 60)), (1, .int (zI (q)))] [.ref q20, .ref hp18q, .ref (c 60)]
    refine zr_callS (kc' := ((3 - 1) - 1) - 1) (ks' := ((240 - 40) - (0 : Int).toNat) - ((zsz τ14 q).toNat + (0 : Int).toNat)) X 26 2 (m_X8_joined l Γ (tg := 63) lc24 hp18c (by omega) cm23s z0c (by omega)) gX8_load_X8_joined rfl (by decide +kernel) rfl (by decide) rfl (Nat.le_of_ble_eq_true rfl) dX8_load_23 rfl (by omega) (by omega) (fun rv26 V27 hp28 => ?_)
    obtain ⟨hp28q, hp28f, hp28e, hp28h, hp28c, hp28g, hp28z⟩ := hp28
    rw [hp28e]
    have hp28m := cm23m.kept hp28g (fun _ _ _ => trivial)
    have lc29 := hp28g _ _ _ lc24 trivial
    have lc30 := hp28g _ _ _ cm23s trivial
    have fx31 : zfm V V27 := zag.tr fx25 (hp28g.mono (fun _ _ => trivial))
    show zG C V27 (((3 - 1) - 1) - 1) (((240 - 40) - (0 : Int).toNat) - ((zsz τ14 q).toNat + (0 : Int).toNat)) 26 [(0, .ref (c 60)), (1, .int (zI (q)))] [.ref hp28q, .ref (c 60)]
    have hzs : zsz (zf τ 36 0) q = zsz τ14 q := by rw [τ14e]
    have c832 : V27 (c 60) = some (60, .inr (9, [.ref (md 61), .int (zI (κ 0)), .ref (c 62), .ref (md 63), .ref (md 64), .ref (c 65), .int (zI (τ14 26)), .int (zI (τ14 28)), .int (zI (τ14 29)), .ref (c 66), .int (zI (τ14 36))])) := hp28m.1
    refine zr_put X 29 9 3 [.ref (md 61), .int (zI (κ 0)), .ref (c 62), .ref hp28q, .ref (md 64), .ref (c 65), .int (zI (τ14 26)), .int (zI (τ14 28)), .int (zI (τ14 29)), .ref (c 66), .int (zI (τ14 36))] tyX8 c832 rfl iX8 tyX8_ok nmX8 (by decide) w1 rfl rfl rfl rfl (Nat.le_of_ble_eq_true rfl) rfl dX8_load_26 rfl ?_
    obtain ⟨cm33h, cm33f⟩ := hp28m.newB hp28h hp28c (by omega) (g := zsg τ14 q) (fun k hk => by rw [hp28z k (by omega), if_pos (by omega)]; exact hp18z k (by omega))
    obtain ⟨cm33V, cm33e⟩ : ∃ zz9 : zV, zz9 = (zu V27 (c 60) 60 (.inr (9, [.ref (md 61), .int (zI (κ 0)), .ref (c 62), .ref hp28q, .ref (md 64), .ref (c 65), .int (zI (τ14 26)), .int (zI (τ14 28)), .int (zI (τ14 29)), .ref (c 66), .int (zI (τ14 36))]))) := ⟨_, rfl⟩
    obtain ⟨md34, md34e⟩ : ∃ zz9 : Nat → Nat, zz9 = zmu md 63 hp28q := ⟨_, rfl⟩
    have cm33m : zMo Γ cm33V c md34 (zly (zf τ14 24 (((zsz τ14 q).toNat + (0 : Int).toNat) : Nat)) 100 (((zsz τ14 q).toNat + (0 : Int).toNat)) (zsg τ14 q)) κ E := by
      rw [md34e, cm33e]
      exact cm33h
    have cm33g : zag (fun x => x ≠ 60) V27 cm33V := by
      rw [cm33e]
      exact cm33f
    refine zr_view (cm33e).symm ?_
    have lc35 := cm33g _ _ _ lc29 (by omega)
    have lc36 := cm33g _ _ _ lc30 (by omega)
    have lc37 := cm33g _ _ _ hp28h (by omega)
    have fx38 : zfm V cm33V := zag.tr fx31 (cm33g.mono (fun t ht => by omega))
    obtain ⟨τ39, τ39e⟩ : ∃ zz9 : Nat → Int, zz9 = zly (zf τ14 24 (((zsz τ14 q).toNat + (0 : Int).toNat) : Nat)) 100 (((zsz τ14 q).toNat + (0 : Int).toNat)) (zsg τ14 q) := ⟨_, rfl⟩
    rw [← τ39e] at cm33m
    have τ39_24 : τ39 24 = (((zsz τ14 q).toNat + (0 : Int).toNat) : Nat) := by rw [τ39e]; exact (zly_ne (by omega)).trans rfl
    have τ39_25 : τ39 25 = τ14 25 := by rw [τ39e]; exact (zly_ne (by omega)).trans rfl
    have τ39_26 : τ39 26 = τ14 26 := by rw [τ39e]; exact (zly_ne (by omega)).trans rfl
    have τ39_27 : τ39 27 = τ14 27 := by rw [τ39e]; exact (zly_ne (by omega)).trans rfl
    have τ39_28 : τ39 28 = τ14 28 := by rw [τ39e]; exact (zly_ne (by omega)).trans rfl
    have τ39_29 : τ39 29 = τ14 29 := by rw [τ39e]; exact (zly_ne (by omega)).trans rfl
    have τ39_30 : τ39 30 = τ14 30 := by rw [τ39e]; exact (zly_ne (by omega)).trans rfl
    have τ39_31 : τ39 31 = τ14 31 := by rw [τ39e]; exact (zly_ne (by omega)).trans rfl
    have τ39_32 : τ39 32 = τ14 32 := by rw [τ39e]; exact (zly_ne (by omega)).trans rfl
    have τ39_33 : τ39 33 = τ14 33 := by rw [τ39e]; exact (zly_ne (by omega)).trans rfl
    have τ39_36 : τ39 36 = τ14 36 := by rw [τ39e]; exact (zly_ne (by omega)).trans rfl
    show zG C cm33V (((3 - 1) - 1) - 1) (((240 - 40) - (0 : Int).toNat) - ((zsz τ14 q).toNat + (0 : Int).toNat)) 29 [(0, .ref (c 60)), (1, .int (zI (q)))] []
    refine zr_aload_n X 30 0 dX8_load_29 rfl rfl ?_
    refine zr_aload_n X 31 0 dX8_load_30 rfl rfl ?_
    have c840 : cm33V (c 60) = some (60, .inr (9, [.ref (md34 61), .int (zI (κ 0)), .ref (c 62), .ref (md34 63), .ref (md34 64), .ref (c 65), .int (zI (τ39 26)), .int (zI (τ39 28)), .int (zI (τ39 29)), .ref (c 66), .int (zI (τ39 36))])) := cm33m.1
    refine zr_get X 34 9 3 c840 rfl iX8 (by decide) w1 rfl rfl dX8_load_31 rfl ?_
    obtain ⟨c841f, c841, c841c, c841v⟩ := cm33m.ct.2.2.2.1
    refine zr_alen X 35 0 c841 (by decide) dX8_load_34 rfl ?_
    refine zr_callVe (kc' := (((3 - 1) - 1) - 1)) (ks' := (((240 - 40) - (0 : Int).toNat) - ((zsz τ14 q).toNat + (0 : Int).toNat))) X 38 1 (m_X8_done l Γ cm33m) gX8_load_X8_done rfl (by decide +kernel) rfl (by decide) ⟨_, _, cm33m.1⟩ rfl rfl (Nat.le_of_ble_eq_true rfl) dX8_load_35 rfl (by omega) (by omega) (fun rv42 V43 hp44 => ?_)
    obtain ⟨hp44e, hp44m, hp44g⟩ := hp44
    rw [hp44e]
    have lc45 := hp44g _ _ _ lc35 (by omega)
    have lc46 := hp44g _ _ _ lc36 (by omega)
    have lc47 := hp44g _ _ _ lc37 (by omega)
    have fx48 : zfm V V43 := zag.tr fx38 (hp44g.mono (fun t ht => by omega))
    obtain ⟨τ49, τ49e⟩ : ∃ zz9 : Nat → Int, zz9 = zdn τ39 := ⟨_, rfl⟩
    rw [← τ49e] at hp44m
    have τ49_24 : τ49 24 = τ39 24 := by rw [τ49e]; exact rfl
    have τ49_25 : τ49 25 = τ39 25 := by rw [τ49e]; exact rfl
    have τ49_26 : τ49 26 = τ39 26 := by rw [τ49e]; exact rfl
    have τ49_27 : τ49 27 = τ39 27 := by rw [τ49e]; exact rfl
    have τ49_28 : τ49 28 = τ39 28 := by rw [τ49e]; exact rfl
    have τ49_29 : τ49 29 = τ39 29 := by rw [τ49e]; exact rfl
    have τ49_30 : τ49 30 = τ39 30 + 1 := by rw [τ49e]; exact rfl
    have τ49_31 : τ49 31 = τ39 31 := by rw [τ49e]; exact rfl
    have τ49_32 : τ49 32 = τ39 32 := by rw [τ49e]; exact rfl
    have τ49_33 : τ49 33 = τ39 33 := by rw [τ49e]; exact rfl
    have τ49_36 : τ49 36 = τ39 36 := by rw [τ49e]; exact rfl
    show zG C V43 (((3 - 1) - 1) - 1) (((240 - 40) - (0 : Int).toNat) - ((zsz τ14 q).toNat + (0 : Int).toNat)) 38 [(0, .ref (c 60)), (1, .int (zI (q)))] [.int (zI (((τ39 24).toNat : Nat)))]
    exact zr_iret X rfl ⟨((τ39 24).toNat : Nat), md34, τ49, κ, rfl, hp44m.le (by omega), fx48, Or.inr (Or.inr ⟨by omega, trivial, ⟨by omega, by rw [τ49e, τ39e, show ((zsz τ14 q).toNat + (0 : Int).toNat) = (zsz τ14 q).toNat by omega, show (((zsz τ14 q).toNat : Nat) : Int) = zsz τ14 q by omega, τ14e]⟩⟩)⟩ dX8_load_38
set_option maxRecDepth 100000 in
set_option maxHeartbeats 4000000 in
theorem m_X8_build (l : Launch) (Γ : zGam) {V : zV} {c md : Nat → Nat} {τ κ : Nat → Int} {E : Int} {q : Int} (hM : zMo Γ V c md τ κ E) (hq : -2147483648 ≤ q ∧ q ≤ 2147483647) : zM l Γ 5 yX8_build wsX8_build 3 240 V [.ref (c 60), .int (zI (q))] (fun rv V' => ∃ (y : Int) (md' : Nat → Nat) (τ' κ' : Nat → Int), rv = some (.int (zI y)) ∧ zMo Γ V' c md' τ' κ' (E + 40) ∧ zfm V V' ∧ ((¬ (0 ≤ q ∧ q ≤ 7) ∧ y = 0 ∧ τ' = zf τ 36 1) ∨ ((0 ≤ q ∧ q ≤ 7) ∧ ¬ (zf τ 36 0) 24 + zsz (zf τ 36 0) q ≤ 80 ∧ y = 0 ∧ τ' = zf τ 36 2) ∨ ((0 ≤ q ∧ q ≤ 7) ∧ (zf τ 36 0) 24 + zsz (zf τ 36 0) q ≤ 80 ∧ y = (zf τ 36 0) 24 + zsz (zf τ 36 0) q ∧ τ' = zdn (zly (zf (zf τ 36 0) 24 ((zf τ 36 0) 24 + zsz (zf τ 36 0) q)) (100 + ((zf τ 36 0) 24).toNat) (zsz (zf τ 36 0) q).toNat (zsg (zf τ 36 0) q))))) := by
  have w0 : Cond.fieldLink RX8 18 "SashwordsModel" "built" "[I" ∈ wsX8_build := by decide +kernel
  have iX8 : ∀ w ∈ u_ws RX8 TX8 11, w ∈ wsX8_build := by decide +kernel
  refine zM_of (cc := cX8_build) (nL := 3) (ret := (some .int)) (own := RX8) (by decide +kernel) rfl rfl (Nat.le_of_ble_eq_true rfl) (fun C X hi0 => ?_)
  have nn1 : (0 ≤ κ 0 ∧ κ 0 ≤ κ 1 ∧ κ 0 ≤ E ∧ κ 1 ≤ 7000) ∧ (0 ≤ τ 24 ∧ τ 24 ≤ 80 ∧ 0 ≤ τ 25 ∧ τ 25 ≤ 80) ∧ 1 ≤ τ 26 ∧ τ 26 ≤ 8 ∧ 0 ≤ τ 29 ∧ τ 29 ≤ τ 28 ∧ τ 28 ≤ 160 ∧ τ 27 ≤ τ 26 ∧ τ 27 = τ 28 - τ 29 := hM.n
  show zG C V 3 240 0 [(0, .ref (c 60)), (1, .int (zI (q)))] []
  refine zr_aload_n X 1 0 dX8_build_0 rfl rfl ?_
  refine zr_iload_n X 2 1 dX8_build_1 rfl rfl ?_
  refine zr_callS (kc' := 3) (ks' := 240) X 5 1 (m_X8_isNoSource l Γ (V := V) (x := q) (by omega)) gX8_build_X8_isNoSource rfl (by decide +kernel) rfl (by decide) rfl (Nat.le_of_ble_eq_true rfl) dX8_build_2 rfl (by omega) (by omega) (fun rv2 V3 hp4 => ?_)
  obtain ⟨⟨no5, no5e, no5a⟩, no5v⟩ := hp4
  rw [no5e, no5v]
  show zG C V 3 240 5 [(0, .ref (c 60)), (1, .int (zI (q)))] [.int (zI (no5)), .ref (c 60)]
  refine zr_iconst X 6 dX8_build_5 rfl ?_
  refine zr_callVe (kc' := 3) (ks' := 240) X 9 2 (m_X8_isThrown l Γ hM (a := no5) (b := 0) (by omega) (by omega)) gX8_build_X8_isThrown rfl (by decide +kernel) rfl (by decide) ⟨_, _, hM.1⟩ rfl rfl (Nat.le_of_ble_eq_true rfl) dX8_build_6 rfl (by omega) (by omega) (fun rv6 V7 hp8 => ?_)
  obtain ⟨⟨hp8x, hp8k, hp8e, hp8c, hp8m⟩, hp8g⟩ := hp8
  rw [hp8e]
  rcases hp8c with ⟨tc9a, tc9k, tc9x⟩ | ⟨tc9a, tc9b, tc9k, tc9x⟩ | ⟨tc9a, tc9b, tc9k, tc9x⟩
  · skip
    subst tc9k tc9x
    have fx10 : zfm V V7 := (hp8g.mono (fun t ht => by omega))
    obtain ⟨τ11, τ11e⟩ : ∃ zz9 : Nat → Int, zz9 = zf τ 36 1 := ⟨_, rfl⟩
    rw [← τ11e] at hp8m
    have τ11_24 : τ11 24 = τ 24 := by rw [τ11e]; exact rfl
    have τ11_25 : τ11 25 = τ 25 := by rw [τ11e]; exact rfl
    have τ11_26 : τ11 26 = τ 26 := by rw [τ11e]; exact rfl
    have τ11_27 : τ11 27 = τ 27 := by rw [τ11e]; exact rfl
    have τ11_28 : τ11 28 = τ 28 := by rw [τ11e]; exact rfl
    have τ11_29 : τ11 29 = τ 29 := by rw [τ11e]; exact rfl
    have τ11_30 : τ11 30 = τ 30 := by rw [τ11e]; exact rfl
    have τ11_31 : τ11 31 = τ 31 := by rw [τ11e]; exact rfl
    have τ11_32 : τ11 32 = τ 32 := by rw [τ11e]; exact rfl
    have τ11_33 : τ11 33 = τ 33 := by rw [τ11e]; exact rfl
    have τ11_36 : τ11 36 = 1 := by rw [τ11e]; exact rfl
    show zG C V7 3 240 9 [(0, .ref (c 60)), (1, .int (zI (q)))] [.int (zI (1))]
    refine zr_if_eq X 14 12 dX8_build_9 rfl rfl (by omega) (fun bq12 => absurd bq12 (by omega)) (fun bq12 => ?_)
    refine zr_iconst X 13 dX8_build_12 rfl ?_
    exact zr_iret X rfl ⟨0, md, τ11, κ, rfl, hp8m.le (by omega), fx10, Or.inl ⟨by omega, rfl, by rw [τ11e]⟩⟩ dX8_build_13
  · exact absurd tc9b (by decide)
  · skip
    subst tc9k tc9x
    have fx13 : zfm V V7 := (hp8g.mono (fun t ht => by omega))
    obtain ⟨τ14, τ14e⟩ : ∃ zz9 : Nat → Int, zz9 = zf τ 36 0 := ⟨_, rfl⟩
    rw [← τ14e] at hp8m
    have τ14_24 : τ14 24 = τ 24 := by rw [τ14e]; exact rfl
    have τ14_25 : τ14 25 = τ 25 := by rw [τ14e]; exact rfl
    have τ14_26 : τ14 26 = τ 26 := by rw [τ14e]; exact rfl
    have τ14_27 : τ14 27 = τ 27 := by rw [τ14e]; exact rfl
    have τ14_28 : τ14 28 = τ 28 := by rw [τ14e]; exact rfl
    have τ14_29 : τ14 29 = τ 29 := by rw [τ14e]; exact rfl
    have τ14_30 : τ14 30 = τ 30 := by rw [τ14e]; exact rfl
    have τ14_31 : τ14 31 = τ 31 := by rw [τ14e]; exact rfl
    have τ14_32 : τ14 32 = τ 32 := by rw [τ14e]; exact rfl
    have τ14_33 : τ14 33 = τ 33 := by rw [τ14e]; exact rfl
    have τ14_36 : τ14 36 = 0 := by rw [τ14e]; exact rfl
    show zG C V7 3 240 9 [(0, .ref (c 60)), (1, .int (zI (q)))] [.int (zI (0))]
    refine zr_if_eq X 14 12 dX8_build_9 rfl rfl (by omega) (fun bq15 => ?_) (fun bq15 => absurd bq15 (by omega))
    refine zr_aload_n X 15 0 dX8_build_14 rfl rfl ?_
    refine zr_iload_n X 16 1 dX8_build_15 rfl rfl ?_
    refine zr_callVe (kc' := (3 - 1)) (ks' := (240 - 40)) X 19 1 (m_X8_textOf l Γ (tg := 76) (q := q) hp8m (by omega)) gX8_build_X8_textOf rfl (by decide +kernel) rfl (by decide) ⟨_, _, hp8m.1⟩ rfl rfl (Nat.le_of_ble_eq_true rfl) dX8_build_16 rfl (by omega) (by omega) (fun rv16 V17 hp18 => ?_)
    obtain ⟨hp18q, hp18t, hp18f, hp18e, hp18h, hp18c, hp18a, hp18n1, hp18n2, hp18g, hp18z⟩ := hp18
    rw [hp18e]
    have hp18m := hp8m.kept hp18g (fun _ _ _ => trivial)
    have fx19 : zfm V V17 := zag.tr fx13 (hp18g.mono (fun _ _ => trivial))
    show zG C V17 (3 - 1) (240 - 40) 19 [(0, .ref (c 60)), (1, .int (zI (q)))] [.ref hp18q]
    refine zr_astore_n X 20 [(2, .ref hp18q), (0, .ref (c 60)), (1, .int (zI (q)))] dX8_build_19 rfl (by decide) rfl ?_
    have hzs : zsz (zf τ 36 0) q = zsz τ14 q := by rw [τ14e]
    have hz24 : (zf τ 36 0) 24 = τ14 24 := by rw [τ14e]
    refine zr_aload_n X 21 1 dX8_build_20 rfl rfl ?_
    refine zr_iconst X 22 dX8_build_21 rfl ?_
    refine zr_aload_n X 23 1 dX8_build_22 rfl rfl ?_
    have c820 : V17 (c 60) = some (60, .inr (9, [.ref (md 61), .int (zI (κ 0)), .ref (c 62), .ref (md 63), .ref (md 64), .ref (c 65), .int (zI (τ14 26)), .int (zI (τ14 28)), .int (zI (τ14 29)), .ref (c 66), .int (zI (τ14 36))])) := hp18m.1
    refine zr_get X 26 9 3 c820 rfl iX8 (by decide) w0 rfl rfl dX8_build_23 rfl ?_
    obtain ⟨c821f, c821, c821c, c821v⟩ := hp18m.ct.2.2.2.1
    refine zr_alen X 27 0 c821 (by decide) dX8_build_26 rfl ?_
    refine zr_aload_n X 28 0 dX8_build_27 rfl rfl ?_
    refine zr_alen X 29 0 hp18h (by decide) dX8_build_28 rfl ?_
    refine zr_iadd X 30 dX8_build_29 rfl ?_
    refine zr_bipush X 32 (80) dX8_build_30 rfl (by decide) ?_
    refine zr_icmp_le X 39 35 dX8_build_32 rfl rfl (by omega) (by omega) (fun bq22 => ?_) (fun bq22 => ?_)
    · refine zr_iconst X 40 dX8_build_39 rfl ?_
      refine zr_callVe (kc' := (3 - 1)) (ks' := (240 - 40)) X 43 2 (m_X8_isThrown l Γ hp18m (a := 0) (b := 0) (by omega) (by omega)) gX8_build_X8_isThrown rfl (by decide +kernel) rfl (by decide) ⟨_, _, hp18m.1⟩ rfl rfl (Nat.le_of_ble_eq_true rfl) dX8_build_40 rfl (by omega) (by omega) (fun rv23 V24 hp25 => ?_)
      obtain ⟨⟨hp25x, hp25k, hp25e, hp25c, hp25m⟩, hp25g⟩ := hp25
      rw [hp25e]
      rcases hp25c with ⟨tc26a, tc26k, tc26x⟩ | ⟨tc26a, tc26b, tc26k, tc26x⟩ | ⟨tc26a, tc26b, tc26k, tc26x⟩
      · exact absurd tc26a (by decide)
      · exact absurd tc26b (by decide)
      · skip
        subst tc26k tc26x
        have lc27 := hp25g _ _ _ hp18h (by omega)
        have fx28 : zfm V V24 := zag.tr fx19 (hp25g.mono (fun t ht => by omega))
        obtain ⟨τ29, τ29e⟩ : ∃ zz9 : Nat → Int, zz9 = zf τ14 36 0 := ⟨_, rfl⟩
        rw [← τ29e] at hp25m
        have τ29_24 : τ29 24 = τ14 24 := by rw [τ29e]; exact rfl
        have τ29_25 : τ29 25 = τ14 25 := by rw [τ29e]; exact rfl
        have τ29_26 : τ29 26 = τ14 26 := by rw [τ29e]; exact rfl
        have τ29_27 : τ29 27 = τ14 27 := by rw [τ29e]; exact rfl
        have τ29_28 : τ29 28 = τ14 28 := by rw [τ29e]; exact rfl
        have τ29_29 : τ29 29 = τ14 29 := by rw [τ29e]; exact rfl
        have τ29_30 : τ29 30 = τ14 30 := by rw [τ29e]; exact rfl
        have τ29_31 : τ29 31 = τ14 31 := by rw [τ29e]; exact rfl
        have τ29_32 : τ29 32 = τ14 32 := by rw [τ29e]; exact rfl
        have τ29_33 : τ29 33 = τ14 33 := by rw [τ29e]; exact rfl
        have τ29_36 : τ29 36 = 0 := by rw [τ29e]; exact rfl
        show zG C V24 (3 - 1) (240 - 40) 43 [(2, .ref hp18q), (0, .ref (c 60)), (1, .int (zI (q)))] [.int (zI (0))]
        refine zr_if_eq X 48 46 dX8_build_43 rfl rfl (by omega) (fun bq30 => ?_) (fun bq30 => absurd bq30 (by omega))
        refine zr_aload_n X 49 1 dX8_build_48 rfl rfl ?_
        refine zr_aload_n X 50 1 dX8_build_49 rfl rfl ?_
        have c831 : V24 (c 60) = some (60, .inr (9, [.ref (md 61), .int (zI (κ 0)), .ref (c 62), .ref (md 63), .ref (md 64), .ref (c 65), .int (zI (τ29 26)), .int (zI (τ29 28)), .int (zI (τ29 29)), .ref (c 66), .int (zI (τ29 36))])) := hp25m.1
        refine zr_get X 53 9 3 c831 rfl iX8 (by decide) w0 rfl rfl dX8_build_50 rfl ?_
        refine zr_aload_n X 54 0 dX8_build_53 rfl rfl ?_
        obtain ⟨c832f, c832, c832c, c832v⟩ := hp25m.ct.2.2.2.1
        refine zr_callS (kc' := (3 - 1) - 1) (ks' := (240 - 40) - ((τ29 24).toNat + (zsz τ14 q).toNat)) X 57 2 (m_X8_joined l Γ (tg := 63) c832 c832c (by omega) lc27 hp18c (by omega)) gX8_build_X8_joined rfl (by decide +kernel) rfl (by decide) rfl (Nat.le_of_ble_eq_true rfl) dX8_build_54 rfl (by omega) (by omega) (fun rv33 V34 hp35 => ?_)
        obtain ⟨hp35q, hp35f, hp35e, hp35h, hp35c, hp35g, hp35z⟩ := hp35
        rw [hp35e]
        have hp35m := hp25m.kept hp35g (fun _ _ _ => trivial)
        have lc36 := hp35g _ _ _ lc27 trivial
        have fx37 : zfm V V34 := zag.tr fx28 (hp35g.mono (fun _ _ => trivial))
        show zG C V34 ((3 - 1) - 1) ((240 - 40) - ((τ29 24).toNat + (zsz τ14 q).toNat)) 57 [(2, .ref hp18q), (0, .ref (c 60)), (1, .int (zI (q)))] [.ref hp35q, .ref (c 60)]
        have c838 : V34 (c 60) = some (60, .inr (9, [.ref (md 61), .int (zI (κ 0)), .ref (c 62), .ref (md 63), .ref (md 64), .ref (c 65), .int (zI (τ29 26)), .int (zI (τ29 28)), .int (zI (τ29 29)), .ref (c 66), .int (zI (τ29 36))])) := hp35m.1
        refine zr_put X 60 9 3 [.ref (md 61), .int (zI (κ 0)), .ref (c 62), .ref hp35q, .ref (md 64), .ref (c 65), .int (zI (τ29 26)), .int (zI (τ29 28)), .int (zI (τ29 29)), .ref (c 66), .int (zI (τ29 36))] tyX8 c838 rfl iX8 tyX8_ok nmX8 (by decide) w0 rfl rfl rfl rfl (Nat.le_of_ble_eq_true rfl) rfl dX8_build_57 rfl ?_
        obtain ⟨cm39h, cm39f⟩ := hp35m.newB hp35h hp35c (by omega) (g := fun k => if k < (τ29 24).toNat then τ29 (100 + k) else zsg τ14 q (k - (τ29 24).toNat)) (fun k hk => by rw [hp35z k (by omega)]; rcases Nat.lt_or_ge k (τ29 24).toNat with h9 | h9 <;> first | (rw [if_pos h9, if_pos h9]; exact c832v k (by omega) (by omega)) | (rw [if_neg (by omega), if_neg (by omega)]; exact hp18z _ (by omega)))
        obtain ⟨cm39V, cm39e⟩ : ∃ zz9 : zV, zz9 = (zu V34 (c 60) 60 (.inr (9, [.ref (md 61), .int (zI (κ 0)), .ref (c 62), .ref hp35q, .ref (md 64), .ref (c 65), .int (zI (τ29 26)), .int (zI (τ29 28)), .int (zI (τ29 29)), .ref (c 66), .int (zI (τ29 36))]))) := ⟨_, rfl⟩
        obtain ⟨md40, md40e⟩ : ∃ zz9 : Nat → Nat, zz9 = zmu md 63 hp35q := ⟨_, rfl⟩
        have cm39m : zMo Γ cm39V c md40 (zly (zf τ29 24 (((τ29 24).toNat + (zsz τ14 q).toNat) : Nat)) 100 (((τ29 24).toNat + (zsz τ14 q).toNat)) (fun k => if k < (τ29 24).toNat then τ29 (100 + k) else zsg τ14 q (k - (τ29 24).toNat))) κ E := by
          rw [md40e, cm39e]
          exact cm39h
        have cm39g : zag (fun x => x ≠ 60) V34 cm39V := by
          rw [cm39e]
          exact cm39f
        refine zr_view (cm39e).symm ?_
        have lc41 := cm39g _ _ _ lc36 (by omega)
        have lc42 := cm39g _ _ _ hp35h (by omega)
        have fx43 : zfm V cm39V := zag.tr fx37 (cm39g.mono (fun t ht => by omega))
        obtain ⟨τ44, τ44e⟩ : ∃ zz9 : Nat → Int, zz9 = zly (zf τ29 24 (((τ29 24).toNat + (zsz τ14 q).toNat) : Nat)) 100 (((τ29 24).toNat + (zsz τ14 q).toNat)) (fun k => if k < (τ29 24).toNat then τ29 (100 + k) else zsg τ14 q (k - (τ29 24).toNat)) := ⟨_, rfl⟩
        rw [← τ44e] at cm39m
        have τ44_24 : τ44 24 = (((τ29 24).toNat + (zsz τ14 q).toNat) : Nat) := by rw [τ44e]; exact (zly_ne (by omega)).trans rfl
        have τ44_25 : τ44 25 = τ29 25 := by rw [τ44e]; exact (zly_ne (by omega)).trans rfl
        have τ44_26 : τ44 26 = τ29 26 := by rw [τ44e]; exact (zly_ne (by omega)).trans rfl
        have τ44_27 : τ44 27 = τ29 27 := by rw [τ44e]; exact (zly_ne (by omega)).trans rfl
        have τ44_28 : τ44 28 = τ29 28 := by rw [τ44e]; exact (zly_ne (by omega)).trans rfl
        have τ44_29 : τ44 29 = τ29 29 := by rw [τ44e]; exact (zly_ne (by omega)).trans rfl
        have τ44_30 : τ44 30 = τ29 30 := by rw [τ44e]; exact (zly_ne (by omega)).trans rfl
        have τ44_31 : τ44 31 = τ29 31 := by rw [τ44e]; exact (zly_ne (by omega)).trans rfl
        have τ44_32 : τ44 32 = τ29 32 := by rw [τ44e]; exact (zly_ne (by omega)).trans rfl
        have τ44_33 : τ44 33 = τ29 33 := by rw [τ44e]; exact (zly_ne (by omega)).trans rfl
        have τ44_36 : τ44 36 = τ29 36 := by rw [τ44e]; exact (zly_ne (by omega)).trans rfl
        show zG C cm39V ((3 - 1) - 1) ((240 - 40) - ((τ29 24).toNat + (zsz τ14 q).toNat)) 60 [(2, .ref hp18q), (0, .ref (c 60)), (1, .int (zI (q)))] []
        refine zr_aload_n X 61 1 dX8_build_60 rfl rfl ?_
        refine zr_aload_n X 62 1 dX8_build_61 rfl rfl ?_
        have c845 : cm39V (c 60) = some (60, .inr (9, [.ref (md40 61), .int (zI (κ 0)), .ref (c 62), .ref (md40 63), .ref (md40 64), .ref (c 65), .int (zI (τ44 26)), .int (zI (τ44 28)), .int (zI (τ44 29)), .ref (c 66), .int (zI (τ44 36))])) := cm39m.1
        refine zr_get X 65 9 3 c845 rfl iX8 (by decide) w0 rfl rfl dX8_build_62 rfl ?_
        obtain ⟨c846f, c846, c846c, c846v⟩ := cm39m.ct.2.2.2.1
        refine zr_alen X 66 0 c846 (by decide) dX8_build_65 rfl ?_
        refine zr_callVe (kc' := ((3 - 1) - 1)) (ks' := ((240 - 40) - ((τ29 24).toNat + (zsz τ14 q).toNat))) X 69 1 (m_X8_done l Γ cm39m) gX8_build_X8_done rfl (by decide +kernel) rfl (by decide) ⟨_, _, cm39m.1⟩ rfl rfl (Nat.le_of_ble_eq_true rfl) dX8_build_66 rfl (by omega) (by omega) (fun rv47 V48 hp49 => ?_)
        obtain ⟨hp49e, hp49m, hp49g⟩ := hp49
        rw [hp49e]
        have lc50 := hp49g _ _ _ lc41 (by omega)
        have lc51 := hp49g _ _ _ lc42 (by omega)
        have fx52 : zfm V V48 := zag.tr fx43 (hp49g.mono (fun t ht => by omega))
        obtain ⟨τ53, τ53e⟩ : ∃ zz9 : Nat → Int, zz9 = zdn τ44 := ⟨_, rfl⟩
        rw [← τ53e] at hp49m
        have τ53_24 : τ53 24 = τ44 24 := by rw [τ53e]; exact rfl
        have τ53_25 : τ53 25 = τ44 25 := by rw [τ53e]; exact rfl
        have τ53_26 : τ53 26 = τ44 26 := by rw [τ53e]; exact rfl
        have τ53_27 : τ53 27 = τ44 27 := by rw [τ53e]; exact rfl
        have τ53_28 : τ53 28 = τ44 28 := by rw [τ53e]; exact rfl
        have τ53_29 : τ53 29 = τ44 29 := by rw [τ53e]; exact rfl
        have τ53_30 : τ53 30 = τ44 30 + 1 := by rw [τ53e]; exact rfl
        have τ53_31 : τ53 31 = τ44 31 := by rw [τ53e]; exact rfl
        have τ53_32 : τ53 32 = τ44 32 := by rw [τ53e]; exact rfl
        have τ53_33 : τ53 33 = τ44 33 := by rw [τ53e]; exact rfl
        have τ53_36 : τ53 36 = τ44 36 := by rw [τ53e]; exact rfl
        show zG C V48 ((3 - 1) - 1) ((240 - 40) - ((τ29 24).toNat + (zsz τ14 q).toNat)) 69 [(2, .ref hp18q), (0, .ref (c 60)), (1, .int (zI (q)))] [.int (zI (((τ44 24).toNat : Nat)))]
        exact zr_iret X rfl ⟨((τ44 24).toNat : Nat), md40, τ53, κ, rfl, hp49m.le (by omega), fx52, Or.inr (Or.inr ⟨by omega, ⟨by omega, by omega, by rw [τ53e, τ44e, zly_two (h := zsg τ14 q), show ((((τ29 24).toNat + (zsz τ14 q).toNat) : Nat) : Int) = τ14 24 + zsz τ14 q by omega, τ29e, τ14e, zf_zf]⟩⟩)⟩ dX8_build_69
    · refine zr_iconst X 36 dX8_build_35 rfl ?_
      refine zr_goto X 40 dX8_build_36 rfl ?_
      refine zr_callVe (kc' := (3 - 1)) (ks' := (240 - 40)) X 43 2 (m_X8_isThrown l Γ hp18m (a := 0) (b := 1) (by omega) (by omega)) gX8_build_X8_isThrown rfl (by decide +kernel) rfl (by decide) ⟨_, _, hp18m.1⟩ rfl rfl (Nat.le_of_ble_eq_true rfl) dX8_build_40 rfl (by omega) (by omega) (fun rv54 V55 hp56 => ?_)
      obtain ⟨⟨hp56x, hp56k, hp56e, hp56c, hp56m⟩, hp56g⟩ := hp56
      rw [hp56e]
      rcases hp56c with ⟨tc57a, tc57k, tc57x⟩ | ⟨tc57a, tc57b, tc57k, tc57x⟩ | ⟨tc57a, tc57b, tc57k, tc57x⟩
      · exact absurd tc57a (by decide)
      · skip
        subst tc57k tc57x
        have lc58 := hp56g _ _ _ hp18h (by omega)
        have fx59 : zfm V V55 := zag.tr fx19 (hp56g.mono (fun t ht => by omega))
        obtain ⟨τ60, τ60e⟩ : ∃ zz9 : Nat → Int, zz9 = zf τ14 36 2 := ⟨_, rfl⟩
        rw [← τ60e] at hp56m
        have τ60_24 : τ60 24 = τ14 24 := by rw [τ60e]; exact rfl
        have τ60_25 : τ60 25 = τ14 25 := by rw [τ60e]; exact rfl
        have τ60_26 : τ60 26 = τ14 26 := by rw [τ60e]; exact rfl
        have τ60_27 : τ60 27 = τ14 27 := by rw [τ60e]; exact rfl
        have τ60_28 : τ60 28 = τ14 28 := by rw [τ60e]; exact rfl
        have τ60_29 : τ60 29 = τ14 29 := by rw [τ60e]; exact rfl
        have τ60_30 : τ60 30 = τ14 30 := by rw [τ60e]; exact rfl
        have τ60_31 : τ60 31 = τ14 31 := by rw [τ60e]; exact rfl
        have τ60_32 : τ60 32 = τ14 32 := by rw [τ60e]; exact rfl
        have τ60_33 : τ60 33 = τ14 33 := by rw [τ60e]; exact rfl
        have τ60_36 : τ60 36 = 2 := by rw [τ60e]; exact rfl
        show zG C V55 (3 - 1) (240 - 40) 43 [(2, .ref hp18q), (0, .ref (c 60)), (1, .int (zI (q)))] [.int (zI (1))]
        refine zr_if_eq X 48 46 dX8_build_43 rfl rfl (by omega) (fun bq61 => absurd bq61 (by omega)) (fun bq61 => ?_)
        refine zr_iconst X 47 dX8_build_46 rfl ?_
        exact zr_iret X rfl ⟨0, md, τ60, κ, rfl, hp56m.le (by omega), fx59, Or.inr (Or.inl ⟨by omega, by omega, rfl, by rw [τ60e, τ14e, zf_zf]⟩)⟩ dX8_build_47
      · exact absurd tc57b (by decide)
set_option maxRecDepth 100000 in
set_option maxHeartbeats 4000000 in
theorem m_X8_turn (l : Launch) (Γ : zGam) {V : zV} {c md : Nat → Nat} {τ κ : Nat → Int} {E : Int} (hM : zMo Γ V c md τ κ E) : zM l Γ 4 yX8_turn wsX8_turn 1 80 V [.ref (c 60)] (fun rv V' => ∃ (y : Int) (md' : Nat → Nat) (τ' κ' : Nat → Int), rv = some (.int (zI y)) ∧ zMo Γ V' c md' τ' κ' (E + 40) ∧ zfm V V' ∧ (y = τ 24 ∧ τ' = zdn (zrt (zf τ 36 0) (τ 24).toNat))) := by
  have w0 : Cond.fieldLink RX8 18 "SashwordsModel" "built" "[I" ∈ wsX8_turn := by decide +kernel
  have iX8 : ∀ w ∈ u_ws RX8 TX8 11, w ∈ wsX8_turn := by decide +kernel
  have w2 : Cond.arrayClass .int ∈ wsX8_turn := by decide +kernel
  refine zM_of (cc := cX8_turn) (nL := 3) (ret := (some .int)) (own := RX8) (by decide +kernel) rfl rfl (Nat.le_of_ble_eq_true rfl) (fun C X hi0 => ?_)
  have nn1 : (0 ≤ κ 0 ∧ κ 0 ≤ κ 1 ∧ κ 0 ≤ E ∧ κ 1 ≤ 7000) ∧ (0 ≤ τ 24 ∧ τ 24 ≤ 80 ∧ 0 ≤ τ 25 ∧ τ 25 ≤ 80) ∧ 1 ≤ τ 26 ∧ τ 26 ≤ 8 ∧ 0 ≤ τ 29 ∧ τ 29 ≤ τ 28 ∧ τ 28 ≤ 160 ∧ τ 27 ≤ τ 26 ∧ τ 27 = τ 28 - τ 29 := hM.n
  show zG C V 1 80 0 [(0, .ref (c 60))] []
  refine zr_aload_n X 1 0 dX8_turn_0 rfl rfl ?_
  refine zr_iconst X 2 dX8_turn_1 rfl ?_
  refine zr_iconst X 3 dX8_turn_2 rfl ?_
  refine zr_callVe (kc' := 1) (ks' := 80) X 6 2 (m_X8_isThrown l Γ hM (a := 0) (b := 0) (by omega) (by omega)) gX8_turn_X8_isThrown rfl (by decide +kernel) rfl (by decide) ⟨_, _, hM.1⟩ rfl rfl (Nat.le_of_ble_eq_true rfl) dX8_turn_3 rfl (by omega) (by omega) (fun rv2 V3 hp4 => ?_)
  obtain ⟨⟨hp4x, hp4k, hp4e, hp4c, hp4m⟩, hp4g⟩ := hp4
  rw [hp4e]
  rcases hp4c with ⟨tc5a, tc5k, tc5x⟩ | ⟨tc5a, tc5b, tc5k, tc5x⟩ | ⟨tc5a, tc5b, tc5k, tc5x⟩
  · exact absurd tc5a (by decide)
  · exact absurd tc5b (by decide)
  · skip
    subst tc5k tc5x
    have fx6 : zfm V V3 := (hp4g.mono (fun t ht => by omega))
    obtain ⟨τ7, τ7e⟩ : ∃ zz9 : Nat → Int, zz9 = zf τ 36 0 := ⟨_, rfl⟩
    rw [← τ7e] at hp4m
    have τ7_24 : τ7 24 = τ 24 := by rw [τ7e]; exact rfl
    have τ7_25 : τ7 25 = τ 25 := by rw [τ7e]; exact rfl
    have τ7_26 : τ7 26 = τ 26 := by rw [τ7e]; exact rfl
    have τ7_27 : τ7 27 = τ 27 := by rw [τ7e]; exact rfl
    have τ7_28 : τ7 28 = τ 28 := by rw [τ7e]; exact rfl
    have τ7_29 : τ7 29 = τ 29 := by rw [τ7e]; exact rfl
    have τ7_30 : τ7 30 = τ 30 := by rw [τ7e]; exact rfl
    have τ7_31 : τ7 31 = τ 31 := by rw [τ7e]; exact rfl
    have τ7_32 : τ7 32 = τ 32 := by rw [τ7e]; exact rfl
    have τ7_33 : τ7 33 = τ 33 := by rw [τ7e]; exact rfl
    have τ7_36 : τ7 36 = 0 := by rw [τ7e]; exact rfl
    show zG C V3 1 80 6 [(0, .ref (c 60))] [.int (zI (0))]
    refine zr_pop X 7 dX8_turn_6 rfl rfl ?_
    refine zr_aload_n X 8 0 dX8_turn_7 rfl rfl ?_
    have c88 : V3 (c 60) = some (60, .inr (9, [.ref (md 61), .int (zI (κ 0)), .ref (c 62), .ref (md 63), .ref (md 64), .ref (c 65), .int (zI (τ7 26)), .int (zI (τ7 28)), .int (zI (τ7 29)), .ref (c 66), .int (zI (τ7 36))])) := hp4m.1
    refine zr_get X 11 9 3 c88 rfl iX8 (by decide) w0 rfl rfl dX8_turn_8 rfl ?_
    obtain ⟨c89f, c89, c89c, c89v⟩ := hp4m.ct.2.2.2.1
    refine zr_alen X 12 0 c89 (by decide) dX8_turn_11 rfl ?_
    have c810 : V3 (c 60) = some (60, .inr (9, [.ref (md 61), .int (zI (κ 0)), .ref (c 62), .ref (md 63), .ref (md 64), .ref (c 65), .int (zI (τ7 26)), .int (zI (τ7 28)), .int (zI (τ7 29)), .ref (c 66), .int (zI (τ7 36))])) := hp4m.1
    refine zr_newai (kc' := (1 - 1)) (ks' := (80 - (((τ7 24).toNat : Nat) : Int).toNat)) X 14 63 w2 (by omega) dX8_turn_12 rfl (by omega) (by omega) (fun q11 hq12 => ?_)
    refine zr_astore_n X 15 [(1, .ref q11), (0, .ref (c 60))] dX8_turn_14 rfl (by decide) rfl ?_
    refine zr_iconst X 16 dX8_turn_15 rfl ?_
    refine zr_istore_n X 17 [(2, .int (zI (0))), (1, .ref q11), (0, .ref (c 60))] dX8_turn_16 rfl (by decide) rfl ?_
    refine zr_view (V' := zu V3 q11 63 (za Γ.2.1 0 (τ7 24).toNat (zrw c89f (τ7 24).toNat 0))) (by rw [zrw_0, show ((((τ7 24).toNat) : Nat) : Int).toNat = (τ7 24).toNat from Int.toNat_natCast _]) ?_
    have loop : ∀ (N : Nat) (k : Int), 0 ≤ k ∧ k ≤ τ7 24 → (τ7 24 - k).toNat = N → zG C (zu V3 q11 63 (za Γ.2.1 0 (τ7 24).toNat (zrw c89f (τ7 24).toNat k))) (1 - 1) (80 - (((τ7 24).toNat : Nat) : Int).toNat) 17 [(2, .int (zI (k))), (1, .ref q11), (0, .ref (c 60))] [] := by
      intro N
      induction N using Nat.strongRecOn with
      | _ N ih =>
      intro k hI hN
      obtain ⟨hI2, hI3⟩ := id hI
      refine zr_iload_n X 18 0 dX8_turn_17 rfl rfl ?_
      refine zr_aload_n X 19 1 dX8_turn_18 rfl rfl ?_
      refine zr_alen X 20 0 (zu_eq _ _ _ _) (by decide) dX8_turn_19 rfl ?_
      refine zr_icmp_ge X 43 23 dX8_turn_20 rfl rfl (by omega) (by omega) (fun bq13 => ?_) (fun bq13 => ?_)
      · have nz14 := zag.rf.new (P := zal) (t := 63) (e := za Γ.2.1 0 ((τ7 24).toNat) (zrw c89f (τ7 24).toNat k)) hq12
        have nz14zc := zrw_zc (n := (τ7 24).toNat) (k := k) c89c
        obtain ⟨cm15h, cm15f⟩ := (⟨hp4m.kept nz14 (fun _ _ _ => trivial), nz14⟩ : _ ∧ _)
        obtain ⟨cm15V, cm15e⟩ : ∃ zz9 : zV, zz9 = (zu V3 q11 63 (za Γ.2.1 0 (τ7 24).toNat (zrw c89f (τ7 24).toNat k))) := ⟨_, rfl⟩
        have cm15m : zMo Γ cm15V c md (τ7) κ E := by
          rw [cm15e]
          exact cm15h
        have cm15g : zag zal V3 cm15V := by
          rw [cm15e]
          exact cm15f
        have cm15s : cm15V q11 = some (63, za Γ.2.1 0 ((τ7 24).toNat) (zrw c89f (τ7 24).toNat k)) := by
          rw [cm15e]
          exact zu_eq _ _ _ _
        refine zr_view (cm15e).symm ?_
        have fx16 : zfm V cm15V := zag.tr fx6 (cm15g.mono (fun _ _ => trivial))
        show zG C cm15V (1 - 1) (80 - (((τ7 24).toNat : Nat) : Int).toNat) 43 [(2, .int (zI (k))), (1, .ref q11), (0, .ref (c 60))] []
        refine zr_aload_n X 44 2 dX8_turn_43 rfl rfl ?_
        refine zr_aload_n X 45 1 dX8_turn_44 rfl rfl ?_
        have c817 : cm15V (c 60) = some (60, .inr (9, [.ref (md 61), .int (zI (κ 0)), .ref (c 62), .ref (md 63), .ref (md 64), .ref (c 65), .int (zI (τ7 26)), .int (zI (τ7 28)), .int (zI (τ7 29)), .ref (c 66), .int (zI (τ7 36))])) := cm15m.1
        refine zr_put X 48 9 3 [.ref (md 61), .int (zI (κ 0)), .ref (c 62), .ref q11, .ref (md 64), .ref (c 65), .int (zI (τ7 26)), .int (zI (τ7 28)), .int (zI (τ7 29)), .ref (c 66), .int (zI (τ7 36))] tyX8 c817 rfl iX8 tyX8_ok nmX8 (by decide) w0 rfl rfl rfl rfl (Nat.le_of_ble_eq_true rfl) rfl dX8_turn_45 rfl ?_
        obtain ⟨cm18h, cm18f⟩ := cm15m.newB cm15s nz14zc (by omega) (g := fun k => τ7 (100 + ((τ7 24).toNat - 1 - k))) (fun y hy => by rw [zrw_in (by omega)]; exact c89v _ (by omega) (by omega))
        obtain ⟨cm18V, cm18e⟩ : ∃ zz9 : zV, zz9 = (zu cm15V (c 60) 60 (.inr (9, [.ref (md 61), .int (zI (κ 0)), .ref (c 62), .ref q11, .ref (md 64), .ref (c 65), .int (zI (τ7 26)), .int (zI (τ7 28)), .int (zI (τ7 29)), .ref (c 66), .int (zI (τ7 36))]))) := ⟨_, rfl⟩
        obtain ⟨md19, md19e⟩ : ∃ zz9 : Nat → Nat, zz9 = zmu md 63 q11 := ⟨_, rfl⟩
        have cm18m : zMo Γ cm18V c md19 (zly (zf τ7 24 (((τ7 24).toNat) : Nat)) 100 (((τ7 24).toNat)) (fun k => τ7 (100 + ((τ7 24).toNat - 1 - k)))) κ E := by
          rw [md19e, cm18e]
          exact cm18h
        have cm18g : zag (fun x => x ≠ 60) cm15V cm18V := by
          rw [cm18e]
          exact cm18f
        refine zr_view (cm18e).symm ?_
        have lc20 := cm18g _ _ _ cm15s (by omega)
        have fx21 : zfm V cm18V := zag.tr fx16 (cm18g.mono (fun t ht => by omega))
        obtain ⟨τ22, τ22e⟩ : ∃ zz9 : Nat → Int, zz9 = zly (zf τ7 24 (((τ7 24).toNat) : Nat)) 100 (((τ7 24).toNat)) (fun k => τ7 (100 + ((τ7 24).toNat - 1 - k))) := ⟨_, rfl⟩
        rw [← τ22e] at cm18m
        have τ22_24 : τ22 24 = (((τ7 24).toNat) : Nat) := by rw [τ22e]; exact (zly_ne (by omega)).trans rfl
        have τ22_25 : τ22 25 = τ7 25 := by rw [τ22e]; exact (zly_ne (by omega)).trans rfl
        have τ22_26 : τ22 26 = τ7 26 := by rw [τ22e]; exact (zly_ne (by omega)).trans rfl
        have τ22_27 : τ22 27 = τ7 27 := by rw [τ22e]; exact (zly_ne (by omega)).trans rfl
        have τ22_28 : τ22 28 = τ7 28 := by rw [τ22e]; exact (zly_ne (by omega)).trans rfl
        have τ22_29 : τ22 29 = τ7 29 := by rw [τ22e]; exact (zly_ne (by omega)).trans rfl
        have τ22_30 : τ22 30 = τ7 30 := by rw [τ22e]; exact (zly_ne (by omega)).trans rfl
        have τ22_31 : τ22 31 = τ7 31 := by rw [τ22e]; exact (zly_ne (by omega)).trans rfl
        have τ22_32 : τ22 32 = τ7 32 := by rw [τ22e]; exact (zly_ne (by omega)).trans rfl
        have τ22_33 : τ22 33 = τ7 33 := by rw [τ22e]; exact (zly_ne (by omega)).trans rfl
        have τ22_36 : τ22 36 = τ7 36 := by rw [τ22e]; exact (zly_ne (by omega)).trans rfl
        show zG C cm18V (1 - 1) (80 - (((τ7 24).toNat : Nat) : Int).toNat) 48 [(2, .int (zI (k))), (1, .ref q11), (0, .ref (c 60))] []
        refine zr_aload_n X 49 2 dX8_turn_48 rfl rfl ?_
        refine zr_aload_n X 50 1 dX8_turn_49 rfl rfl ?_
        refine zr_alen X 51 0 lc20 (by decide) dX8_turn_50 rfl ?_
        refine zr_callVe (kc' := (1 - 1)) (ks' := (80 - (((τ7 24).toNat : Nat) : Int).toNat)) X 54 1 (m_X8_done l Γ cm18m) gX8_turn_X8_done rfl (by decide +kernel) rfl (by decide) ⟨_, _, cm18m.1⟩ rfl rfl (Nat.le_of_ble_eq_true rfl) dX8_turn_51 rfl (by omega) (by omega) (fun rv23 V24 hp25 => ?_)
        obtain ⟨hp25e, hp25m, hp25g⟩ := hp25
        rw [hp25e]
        have lc26 := hp25g _ _ _ lc20 (by omega)
        have fx27 : zfm V V24 := zag.tr fx21 (hp25g.mono (fun t ht => by omega))
        obtain ⟨τ28, τ28e⟩ : ∃ zz9 : Nat → Int, zz9 = zdn τ22 := ⟨_, rfl⟩
        rw [← τ28e] at hp25m
        have τ28_24 : τ28 24 = τ22 24 := by rw [τ28e]; exact rfl
        have τ28_25 : τ28 25 = τ22 25 := by rw [τ28e]; exact rfl
        have τ28_26 : τ28 26 = τ22 26 := by rw [τ28e]; exact rfl
        have τ28_27 : τ28 27 = τ22 27 := by rw [τ28e]; exact rfl
        have τ28_28 : τ28 28 = τ22 28 := by rw [τ28e]; exact rfl
        have τ28_29 : τ28 29 = τ22 29 := by rw [τ28e]; exact rfl
        have τ28_30 : τ28 30 = τ22 30 + 1 := by rw [τ28e]; exact rfl
        have τ28_31 : τ28 31 = τ22 31 := by rw [τ28e]; exact rfl
        have τ28_32 : τ28 32 = τ22 32 := by rw [τ28e]; exact rfl
        have τ28_33 : τ28 33 = τ22 33 := by rw [τ28e]; exact rfl
        have τ28_36 : τ28 36 = τ22 36 := by rw [τ28e]; exact rfl
        show zG C V24 (1 - 1) (80 - (((τ7 24).toNat : Nat) : Int).toNat) 54 [(2, .int (zI (k))), (1, .ref q11), (0, .ref (c 60))] [.int (zI (((τ7 24).toNat : Nat)))]
        exact zr_iret X rfl ⟨((τ7 24).toNat : Nat), md19, τ28, κ, rfl, hp25m.le (by omega), fx27, ⟨by omega, by rw [τ28e, τ22e, show (((τ7 24).toNat : Nat) : Int) = τ7 24 by omega, zf_id, zly_rt, τ7e]; rfl⟩⟩ dX8_turn_54
      · refine zr_aload_n X 24 1 dX8_turn_23 rfl rfl ?_
        refine zr_iload_n X 25 0 dX8_turn_24 rfl rfl ?_
        refine zr_aload_n X 26 2 dX8_turn_25 rfl rfl ?_
        refine zr_get X 29 9 3 ((zu_ne (zne_new c810 hq12)).trans c810) rfl iX8 (by decide) w0 rfl rfl dX8_turn_26 rfl ?_
        refine zr_aload_n X 30 1 dX8_turn_29 rfl rfl ?_
        refine zr_alen X 31 0 (zu_eq _ _ _ _) (by decide) dX8_turn_30 rfl ?_
        refine zr_iconst X 32 dX8_turn_31 rfl ?_
        refine zr_isub X 33 dX8_turn_32 rfl ?_
        refine zr_iload_n X 34 0 dX8_turn_33 rfl rfl ?_
        refine zr_isub X 35 dX8_turn_34 rfl ?_
        refine zr_iald X 36 ((zu_ne (zne_new c89 hq12)).trans c89) (by omega) dX8_turn_35 rfl ?_
        have zb29 := zc.b c89c ((((τ7 24).toNat : Nat) - 1) - k).toNat
        refine zr_iast X 37 (zu_eq _ _ _ _) (by omega) dX8_turn_36 rfl ?_
        refine zr_view (zu_zu _ _ _ _ _ _) ?_
        refine zr_iinc X 40 0 [(2, .int (zI (k + 1))), (1, .ref q11), (0, .ref (c 60))] dX8_turn_37 rfl rfl (by decide) rfl ?_
        refine zr_goto X 17 dX8_turn_40 rfl ?_
        rw [zrw_step (by omega) (congrArg c89f (by omega))]
        exact ih _ (by omega) (k + 1) ⟨by omega, by omega⟩ rfl
    exact loop _ 0 ⟨by omega, by omega⟩ rfl
set_option maxRecDepth 100000 in
set_option maxHeartbeats 4000000 in
theorem m_X8_change (l : Launch) (Γ : zGam) {V : zV} {c md : Nat → Nat} {τ κ : Nat → Int} {E : Int} {q x : Int} (hM : zMo Γ V c md τ κ E) (hq : -2147483648 ≤ q ∧ q ≤ 2147483647) (hx : -2147483648 ≤ x ∧ x ≤ 2147483647) : zM l Γ 4 yX8_change wsX8_change 0 0 V [.ref (c 60), .int (zI (q)), .int (zI (x))] (fun rv V' => ∃ (y : Int) (md' : Nat → Nat) (τ' κ' : Nat → Int), rv = some (.int (zI y)) ∧ zMo Γ V' c md' τ' κ' (E + 40) ∧ zfm V V' ∧ ((¬ (0 ≤ q ∧ q ≤ τ 24 - 1) ∧ y = 0 ∧ τ' = zf τ 36 1) ∨ ((0 ≤ q ∧ q ≤ τ 24 - 1) ∧ ¬ (0 ≤ x ∧ x ≤ 255) ∧ y = 0 ∧ τ' = zf τ 36 2) ∨ ((0 ≤ q ∧ q ≤ τ 24 - 1) ∧ (0 ≤ x ∧ x ≤ 255) ∧ (y = (zf τ 36 0) (100 + q.toNat) ∧ τ' = zdn (zf (zf τ 36 0) (100 + q.toNat) x))))) := by
  have w0 : Cond.fieldLink RX8 18 "SashwordsModel" "built" "[I" ∈ wsX8_change := by decide +kernel
  have iX8 : ∀ w ∈ u_ws RX8 TX8 11, w ∈ wsX8_change := by decide +kernel
  refine zM_of (cc := cX8_change) (nL := 4) (ret := (some .int)) (own := RX8) (by decide +kernel) rfl rfl (Nat.le_of_ble_eq_true rfl) (fun C X hi0 => ?_)
  have nn1 : (0 ≤ κ 0 ∧ κ 0 ≤ κ 1 ∧ κ 0 ≤ E ∧ κ 1 ≤ 7000) ∧ (0 ≤ τ 24 ∧ τ 24 ≤ 80 ∧ 0 ≤ τ 25 ∧ τ 25 ≤ 80) ∧ 1 ≤ τ 26 ∧ τ 26 ≤ 8 ∧ 0 ≤ τ 29 ∧ τ 29 ≤ τ 28 ∧ τ 28 ≤ 160 ∧ τ 27 ≤ τ 26 ∧ τ 27 = τ 28 - τ 29 := hM.n
  show zG C V 0 0 0 [(0, .ref (c 60)), (1, .int (zI (q))), (2, .int (zI (x)))] []
  refine zr_aload_n X 1 0 dX8_change_0 rfl rfl ?_
  refine zr_iload_n X 2 1 dX8_change_1 rfl rfl ?_
  refine zr_iconst X 3 dX8_change_2 rfl ?_
  refine zr_aload_n X 4 0 dX8_change_3 rfl rfl ?_
  have c82 : V (c 60) = some (60, .inr (9, [.ref (md 61), .int (zI (κ 0)), .ref (c 62), .ref (md 63), .ref (md 64), .ref (c 65), .int (zI (τ 26)), .int (zI (τ 28)), .int (zI (τ 29)), .ref (c 66), .int (zI (τ 36))])) := hM.1
  refine zr_get X 7 9 3 c82 rfl iX8 (by decide) w0 rfl rfl dX8_change_4 rfl ?_
  obtain ⟨c83f, c83, c83c, c83v⟩ := hM.ct.2.2.2.1
  refine zr_alen X 8 0 c83 (by decide) dX8_change_7 rfl ?_
  refine zr_iconst X 9 dX8_change_8 rfl ?_
  refine zr_isub X 10 dX8_change_9 rfl ?_
  refine zr_callS (kc' := 0) (ks' := 0) X 13 3 (m_X8_isNo l Γ (V := V) (x := q) (a := 0) (b := ((τ 24).toNat : Nat) - 1) (by omega) (by omega) (by omega)) gX8_change_X8_isNo rfl (by decide +kernel) rfl (by decide) rfl (Nat.le_of_ble_eq_true rfl) dX8_change_10 rfl (by omega) (by omega) (fun rv4 V5 hp6 => ?_)
  obtain ⟨⟨no7, no7e, no7a⟩, no7v⟩ := hp6
  rw [no7e, no7v]
  show zG C V 0 0 13 [(0, .ref (c 60)), (1, .int (zI (q))), (2, .int (zI (x)))] [.int (zI (no7)), .ref (c 60)]
  refine zr_iload_n X 14 2 dX8_change_13 rfl rfl ?_
  refine zr_iconst X 15 dX8_change_14 rfl ?_
  refine zr_sipush X 18 (255) dX8_change_15 rfl (by decide) ?_
  refine zr_callS (kc' := 0) (ks' := 0) X 21 3 (m_X8_isNo l Γ (V := V) (x := x) (a := 0) (b := 255) (by omega) (by omega) (by omega)) gX8_change_X8_isNo rfl (by decide +kernel) rfl (by decide) rfl (Nat.le_of_ble_eq_true rfl) dX8_change_18 rfl (by omega) (by omega) (fun rv8 V9 hp10 => ?_)
  obtain ⟨⟨no11, no11e, no11a⟩, no11v⟩ := hp10
  rw [no11e, no11v]
  show zG C V 0 0 21 [(0, .ref (c 60)), (1, .int (zI (q))), (2, .int (zI (x)))] [.int (zI (no11)), .int (zI (no7)), .ref (c 60)]
  refine zr_callVe (kc' := 0) (ks' := 0) X 24 2 (m_X8_isThrown l Γ hM (a := no7) (b := no11) (by omega) (by omega)) gX8_change_X8_isThrown rfl (by decide +kernel) rfl (by decide) ⟨_, _, hM.1⟩ rfl rfl (Nat.le_of_ble_eq_true rfl) dX8_change_21 rfl (by omega) (by omega) (fun rv12 V13 hp14 => ?_)
  obtain ⟨⟨hp14x, hp14k, hp14e, hp14c, hp14m⟩, hp14g⟩ := hp14
  rw [hp14e]
  rcases hp14c with ⟨tc15a, tc15k, tc15x⟩ | ⟨tc15a, tc15b, tc15k, tc15x⟩ | ⟨tc15a, tc15b, tc15k, tc15x⟩
  · skip
    subst tc15k tc15x
    have fx16 : zfm V V13 := (hp14g.mono (fun t ht => by omega))
    obtain ⟨τ17, τ17e⟩ : ∃ zz9 : Nat → Int, zz9 = zf τ 36 1 := ⟨_, rfl⟩
    rw [← τ17e] at hp14m
    have τ17_24 : τ17 24 = τ 24 := by rw [τ17e]; exact rfl
    have τ17_25 : τ17 25 = τ 25 := by rw [τ17e]; exact rfl
    have τ17_26 : τ17 26 = τ 26 := by rw [τ17e]; exact rfl
    have τ17_27 : τ17 27 = τ 27 := by rw [τ17e]; exact rfl
    have τ17_28 : τ17 28 = τ 28 := by rw [τ17e]; exact rfl
    have τ17_29 : τ17 29 = τ 29 := by rw [τ17e]; exact rfl
    have τ17_30 : τ17 30 = τ 30 := by rw [τ17e]; exact rfl
    have τ17_31 : τ17 31 = τ 31 := by rw [τ17e]; exact rfl
    have τ17_32 : τ17 32 = τ 32 := by rw [τ17e]; exact rfl
    have τ17_33 : τ17 33 = τ 33 := by rw [τ17e]; exact rfl
    have τ17_36 : τ17 36 = 1 := by rw [τ17e]; exact rfl
    show zG C V13 0 0 24 [(0, .ref (c 60)), (1, .int (zI (q))), (2, .int (zI (x)))] [.int (zI (1))]
    refine zr_if_eq X 29 27 dX8_change_24 rfl rfl (by omega) (fun bq18 => absurd bq18 (by omega)) (fun bq18 => ?_)
    refine zr_iconst X 28 dX8_change_27 rfl ?_
    exact zr_iret X rfl ⟨0, md, τ17, κ, rfl, hp14m.le (by omega), fx16, Or.inl ⟨by omega, rfl, by rw [τ17e]⟩⟩ dX8_change_28
  · skip
    subst tc15k tc15x
    have fx19 : zfm V V13 := (hp14g.mono (fun t ht => by omega))
    obtain ⟨τ20, τ20e⟩ : ∃ zz9 : Nat → Int, zz9 = zf τ 36 2 := ⟨_, rfl⟩
    rw [← τ20e] at hp14m
    have τ20_24 : τ20 24 = τ 24 := by rw [τ20e]; exact rfl
    have τ20_25 : τ20 25 = τ 25 := by rw [τ20e]; exact rfl
    have τ20_26 : τ20 26 = τ 26 := by rw [τ20e]; exact rfl
    have τ20_27 : τ20 27 = τ 27 := by rw [τ20e]; exact rfl
    have τ20_28 : τ20 28 = τ 28 := by rw [τ20e]; exact rfl
    have τ20_29 : τ20 29 = τ 29 := by rw [τ20e]; exact rfl
    have τ20_30 : τ20 30 = τ 30 := by rw [τ20e]; exact rfl
    have τ20_31 : τ20 31 = τ 31 := by rw [τ20e]; exact rfl
    have τ20_32 : τ20 32 = τ 32 := by rw [τ20e]; exact rfl
    have τ20_33 : τ20 33 = τ 33 := by rw [τ20e]; exact rfl
    have τ20_36 : τ20 36 = 2 := by rw [τ20e]; exact rfl
    show zG C V13 0 0 24 [(0, .ref (c 60)), (1, .int (zI (q))), (2, .int (zI (x)))] [.int (zI (1))]
    refine zr_if_eq X 29 27 dX8_change_24 rfl rfl (by omega) (fun bq21 => absurd bq21 (by omega)) (fun bq21 => ?_)
    refine zr_iconst X 28 dX8_change_27 rfl ?_
    exact zr_iret X rfl ⟨0, md, τ20, κ, rfl, hp14m.le (by omega), fx19, Or.inr (Or.inl ⟨by omega, by omega, rfl, by rw [τ20e]⟩)⟩ dX8_change_28
  · skip
    subst tc15k tc15x
    have fx22 : zfm V V13 := (hp14g.mono (fun t ht => by omega))
    obtain ⟨τ23, τ23e⟩ : ∃ zz9 : Nat → Int, zz9 = zf τ 36 0 := ⟨_, rfl⟩
    rw [← τ23e] at hp14m
    have τ23_24 : τ23 24 = τ 24 := by rw [τ23e]; exact rfl
    have τ23_25 : τ23 25 = τ 25 := by rw [τ23e]; exact rfl
    have τ23_26 : τ23 26 = τ 26 := by rw [τ23e]; exact rfl
    have τ23_27 : τ23 27 = τ 27 := by rw [τ23e]; exact rfl
    have τ23_28 : τ23 28 = τ 28 := by rw [τ23e]; exact rfl
    have τ23_29 : τ23 29 = τ 29 := by rw [τ23e]; exact rfl
    have τ23_30 : τ23 30 = τ 30 := by rw [τ23e]; exact rfl
    have τ23_31 : τ23 31 = τ 31 := by rw [τ23e]; exact rfl
    have τ23_32 : τ23 32 = τ 32 := by rw [τ23e]; exact rfl
    have τ23_33 : τ23 33 = τ 33 := by rw [τ23e]; exact rfl
    have τ23_36 : τ23 36 = 0 := by rw [τ23e]; exact rfl
    show zG C V13 0 0 24 [(0, .ref (c 60)), (1, .int (zI (q))), (2, .int (zI (x)))] [.int (zI (0))]
    refine zr_if_eq X 29 27 dX8_change_24 rfl rfl (by omega) (fun bq24 => ?_) (fun bq24 => absurd bq24 (by omega))
    refine zr_aload_n X 30 0 dX8_change_29 rfl rfl ?_
    have c825 : V13 (c 60) = some (60, .inr (9, [.ref (md 61), .int (zI (κ 0)), .ref (c 62), .ref (md 63), .ref (md 64), .ref (c 65), .int (zI (τ23 26)), .int (zI (τ23 28)), .int (zI (τ23 29)), .ref (c 66), .int (zI (τ23 36))])) := hp14m.1
    refine zr_get X 33 9 3 c825 rfl iX8 (by decide) w0 rfl rfl dX8_change_30 rfl ?_
    refine zr_iload_n X 34 1 dX8_change_33 rfl rfl ?_
    obtain ⟨c826f, c826, c826c, c826v⟩ := hp14m.ct.2.2.2.1
    refine zr_iald X 35 c826 (by omega) dX8_change_34 rfl ?_
    have zb27 := zc.b c826c (q).toNat
    refine zr_istore_n X 36 [(3, .int (zI (c826f (q).toNat))), (0, .ref (c 60)), (1, .int (zI (q))), (2, .int (zI (x)))] dX8_change_35 rfl (by decide) rfl ?_
    refine zr_aload_n X 37 1 dX8_change_36 rfl rfl ?_
    refine zr_get X 40 9 3 c825 rfl iX8 (by decide) w0 rfl rfl dX8_change_37 rfl ?_
    refine zr_iload_n X 41 2 dX8_change_40 rfl rfl ?_
    refine zr_iload_n X 42 3 dX8_change_41 rfl rfl ?_
    refine zr_iast X 43 c826 (by omega) dX8_change_42 rfl ?_
    obtain ⟨cm28h, cm28f⟩ := hp14m.setBuilt (f := c826f) c826 c826c (p := q) (x := x) (by omega) (by omega) c826v
    obtain ⟨cm28V, cm28e⟩ : ∃ zz9 : zV, zz9 = (zu V13 (md 63) 63 (za Γ.2.1 0 ((τ23 24).toNat) (zf c826f (q).toNat x))) := ⟨_, rfl⟩
    have cm28m : zMo Γ cm28V c md (zf τ23 (100 + (q).toNat) (x)) κ E := by
      rw [cm28e]
      exact cm28h
    have cm28g : zag (fun x => x ≠ 63) V13 cm28V := by
      rw [cm28e]
      exact cm28f
    refine zr_view (cm28e).symm ?_
    have fx29 : zfm V cm28V := zag.tr fx22 (cm28g.mono (fun t ht => by omega))
    obtain ⟨τ30, τ30e⟩ : ∃ zz9 : Nat → Int, zz9 = zf τ23 (100 + (q).toNat) (x) := ⟨_, rfl⟩
    rw [← τ30e] at cm28m
    have τ30_24 : τ30 24 = τ23 24 := by rw [τ30e]; exact zf_ne (by omega)
    have τ30_25 : τ30 25 = τ23 25 := by rw [τ30e]; exact zf_ne (by omega)
    have τ30_26 : τ30 26 = τ23 26 := by rw [τ30e]; exact zf_ne (by omega)
    have τ30_27 : τ30 27 = τ23 27 := by rw [τ30e]; exact zf_ne (by omega)
    have τ30_28 : τ30 28 = τ23 28 := by rw [τ30e]; exact zf_ne (by omega)
    have τ30_29 : τ30 29 = τ23 29 := by rw [τ30e]; exact zf_ne (by omega)
    have τ30_30 : τ30 30 = τ23 30 := by rw [τ30e]; exact zf_ne (by omega)
    have τ30_31 : τ30 31 = τ23 31 := by rw [τ30e]; exact zf_ne (by omega)
    have τ30_32 : τ30 32 = τ23 32 := by rw [τ30e]; exact zf_ne (by omega)
    have τ30_33 : τ30 33 = τ23 33 := by rw [τ30e]; exact zf_ne (by omega)
    have τ30_36 : τ30 36 = τ23 36 := by rw [τ30e]; exact zf_ne (by omega)
    show zG C cm28V 0 0 43 [(3, .int (zI (c826f (q).toNat))), (0, .ref (c 60)), (1, .int (zI (q))), (2, .int (zI (x)))] []
    refine zr_aload_n X 44 1 dX8_change_43 rfl rfl ?_
    refine zr_iload_n X 45 0 dX8_change_44 rfl rfl ?_
    refine zr_callVe (kc' := 0) (ks' := 0) X 48 1 (m_X8_done l Γ cm28m) gX8_change_X8_done rfl (by decide +kernel) rfl (by decide) ⟨_, _, cm28m.1⟩ rfl rfl (Nat.le_of_ble_eq_true rfl) dX8_change_45 rfl (by omega) (by omega) (fun rv31 V32 hp33 => ?_)
    obtain ⟨hp33e, hp33m, hp33g⟩ := hp33
    rw [hp33e]
    have fx34 : zfm V V32 := zag.tr fx29 (hp33g.mono (fun t ht => by omega))
    obtain ⟨τ35, τ35e⟩ : ∃ zz9 : Nat → Int, zz9 = zdn τ30 := ⟨_, rfl⟩
    rw [← τ35e] at hp33m
    have τ35_24 : τ35 24 = τ30 24 := by rw [τ35e]; exact rfl
    have τ35_25 : τ35 25 = τ30 25 := by rw [τ35e]; exact rfl
    have τ35_26 : τ35 26 = τ30 26 := by rw [τ35e]; exact rfl
    have τ35_27 : τ35 27 = τ30 27 := by rw [τ35e]; exact rfl
    have τ35_28 : τ35 28 = τ30 28 := by rw [τ35e]; exact rfl
    have τ35_29 : τ35 29 = τ30 29 := by rw [τ35e]; exact rfl
    have τ35_30 : τ35 30 = τ30 30 + 1 := by rw [τ35e]; exact rfl
    have τ35_31 : τ35 31 = τ30 31 := by rw [τ35e]; exact rfl
    have τ35_32 : τ35 32 = τ30 32 := by rw [τ35e]; exact rfl
    have τ35_33 : τ35 33 = τ30 33 := by rw [τ35e]; exact rfl
    have τ35_36 : τ35 36 = τ30 36 := by rw [τ35e]; exact rfl
    show zG C V32 0 0 48 [(3, .int (zI (c826f (q).toNat))), (0, .ref (c 60)), (1, .int (zI (q))), (2, .int (zI (x)))] [.int (zI (c826f (q).toNat))]
    exact zr_iret X rfl ⟨c826f (q).toNat, md, τ35, κ, rfl, hp33m.le (by omega), fx34, Or.inr (Or.inr ⟨by omega, by omega, ⟨(c826v _ (by omega) (by omega)).trans (by rw [τ23e]), by rw [τ35e, τ30e, τ23e]⟩⟩)⟩ dX8_change_48
set_option maxRecDepth 100000 in
set_option maxHeartbeats 4000000 in
theorem m_X8_pipe (l : Launch) (Γ : zGam) {V : zV} {c md : Nat → Nat} {τ κ : Nat → Int} {E : Int} {q : Int} (hM : zMo Γ V c md τ κ E) (hq : -2147483648 ≤ q ∧ q ≤ 2147483647) : zM l Γ 4 yX8_pipe wsX8_pipe 0 0 V [.ref (c 60), .int (zI (q))] (fun rv V' => ∃ (y : Int) (md' : Nat → Nat) (τ' κ' : Nat → Int), rv = some (.int (zI y)) ∧ zMo Γ V' c md' τ' κ' (E + 40) ∧ zfm V V' ∧ ((¬ (1 ≤ q ∧ q ≤ 8) ∧ y = 0 ∧ τ' = zf τ 36 1) ∨ ((1 ≤ q ∧ q ≤ 8) ∧ ¬ (True) ∧ y = 0 ∧ τ' = zf τ 36 2) ∨ ((1 ≤ q ∧ q ≤ 8) ∧ (True) ∧ (y = τ 27 ∧ τ' = zdn (zmf (zf τ 36 0) q 0 0 0))))) := by
  have w0 : Cond.fieldLink RX8 129 "SashwordsModel" "in" "I" ∈ wsX8_pipe := by decide +kernel
  have iX8 : ∀ w ∈ u_ws RX8 TX8 11, w ∈ wsX8_pipe := by decide +kernel
  have w2 : Cond.fieldLink RX8 132 "SashwordsModel" "out" "I" ∈ wsX8_pipe := by decide +kernel
  have w3 : Cond.fieldLink RX8 27 "SashwordsModel" "size" "I" ∈ wsX8_pipe := by decide +kernel
  refine zM_of (cc := cX8_pipe) (nL := 3) (ret := (some .int)) (own := RX8) (by decide +kernel) rfl rfl (Nat.le_of_ble_eq_true rfl) (fun C X hi0 => ?_)
  have nn1 : (0 ≤ κ 0 ∧ κ 0 ≤ κ 1 ∧ κ 0 ≤ E ∧ κ 1 ≤ 7000) ∧ (0 ≤ τ 24 ∧ τ 24 ≤ 80 ∧ 0 ≤ τ 25 ∧ τ 25 ≤ 80) ∧ 1 ≤ τ 26 ∧ τ 26 ≤ 8 ∧ 0 ≤ τ 29 ∧ τ 29 ≤ τ 28 ∧ τ 28 ≤ 160 ∧ τ 27 ≤ τ 26 ∧ τ 27 = τ 28 - τ 29 := hM.n
  show zG C V 0 0 0 [(0, .ref (c 60)), (1, .int (zI (q)))] []
  refine zr_aload_n X 1 0 dX8_pipe_0 rfl rfl ?_
  refine zr_iload_n X 2 1 dX8_pipe_1 rfl rfl ?_
  refine zr_iconst X 3 dX8_pipe_2 rfl ?_
  refine zr_bipush X 5 (8) dX8_pipe_3 rfl (by decide) ?_
  refine zr_callS (kc' := 0) (ks' := 0) X 8 3 (m_X8_isNo l Γ (V := V) (x := q) (a := 1) (b := 8) (by omega) (by omega) (by omega)) gX8_pipe_X8_isNo rfl (by decide +kernel) rfl (by decide) rfl (Nat.le_of_ble_eq_true rfl) dX8_pipe_5 rfl (by omega) (by omega) (fun rv2 V3 hp4 => ?_)
  obtain ⟨⟨no5, no5e, no5a⟩, no5v⟩ := hp4
  rw [no5e, no5v]
  show zG C V 0 0 8 [(0, .ref (c 60)), (1, .int (zI (q)))] [.int (zI (no5)), .ref (c 60)]
  refine zr_iconst X 9 dX8_pipe_8 rfl ?_
  refine zr_callVe (kc' := 0) (ks' := 0) X 12 2 (m_X8_isThrown l Γ hM (a := no5) (b := 0) (by omega) (by omega)) gX8_pipe_X8_isThrown rfl (by decide +kernel) rfl (by decide) ⟨_, _, hM.1⟩ rfl rfl (Nat.le_of_ble_eq_true rfl) dX8_pipe_9 rfl (by omega) (by omega) (fun rv6 V7 hp8 => ?_)
  obtain ⟨⟨hp8x, hp8k, hp8e, hp8c, hp8m⟩, hp8g⟩ := hp8
  rw [hp8e]
  rcases hp8c with ⟨tc9a, tc9k, tc9x⟩ | ⟨tc9a, tc9b, tc9k, tc9x⟩ | ⟨tc9a, tc9b, tc9k, tc9x⟩
  · skip
    subst tc9k tc9x
    have fx10 : zfm V V7 := (hp8g.mono (fun t ht => by omega))
    obtain ⟨τ11, τ11e⟩ : ∃ zz9 : Nat → Int, zz9 = zf τ 36 1 := ⟨_, rfl⟩
    rw [← τ11e] at hp8m
    have τ11_24 : τ11 24 = τ 24 := by rw [τ11e]; exact rfl
    have τ11_25 : τ11 25 = τ 25 := by rw [τ11e]; exact rfl
    have τ11_26 : τ11 26 = τ 26 := by rw [τ11e]; exact rfl
    have τ11_27 : τ11 27 = τ 27 := by rw [τ11e]; exact rfl
    have τ11_28 : τ11 28 = τ 28 := by rw [τ11e]; exact rfl
    have τ11_29 : τ11 29 = τ 29 := by rw [τ11e]; exact rfl
    have τ11_30 : τ11 30 = τ 30 := by rw [τ11e]; exact rfl
    have τ11_31 : τ11 31 = τ 31 := by rw [τ11e]; exact rfl
    have τ11_32 : τ11 32 = τ 32 := by rw [τ11e]; exact rfl
    have τ11_33 : τ11 33 = τ 33 := by rw [τ11e]; exact rfl
    have τ11_36 : τ11 36 = 1 := by rw [τ11e]; exact rfl
    show zG C V7 0 0 12 [(0, .ref (c 60)), (1, .int (zI (q)))] [.int (zI (1))]
    refine zr_if_eq X 17 15 dX8_pipe_12 rfl rfl (by omega) (fun bq12 => absurd bq12 (by omega)) (fun bq12 => ?_)
    refine zr_iconst X 16 dX8_pipe_15 rfl ?_
    exact zr_iret X rfl ⟨0, md, τ11, κ, rfl, hp8m.le (by omega), fx10, Or.inl ⟨by omega, rfl, by rw [τ11e]⟩⟩ dX8_pipe_16
  · exact absurd tc9b (by decide)
  · skip
    subst tc9k tc9x
    have fx13 : zfm V V7 := (hp8g.mono (fun t ht => by omega))
    obtain ⟨τ14, τ14e⟩ : ∃ zz9 : Nat → Int, zz9 = zf τ 36 0 := ⟨_, rfl⟩
    rw [← τ14e] at hp8m
    have τ14_24 : τ14 24 = τ 24 := by rw [τ14e]; exact rfl
    have τ14_25 : τ14 25 = τ 25 := by rw [τ14e]; exact rfl
    have τ14_26 : τ14 26 = τ 26 := by rw [τ14e]; exact rfl
    have τ14_27 : τ14 27 = τ 27 := by rw [τ14e]; exact rfl
    have τ14_28 : τ14 28 = τ 28 := by rw [τ14e]; exact rfl
    have τ14_29 : τ14 29 = τ 29 := by rw [τ14e]; exact rfl
    have τ14_30 : τ14 30 = τ 30 := by rw [τ14e]; exact rfl
    have τ14_31 : τ14 31 = τ 31 := by rw [τ14e]; exact rfl
    have τ14_32 : τ14 32 = τ 32 := by rw [τ14e]; exact rfl
    have τ14_33 : τ14 33 = τ 33 := by rw [τ14e]; exact rfl
    have τ14_36 : τ14 36 = 0 := by rw [τ14e]; exact rfl
    show zG C V7 0 0 12 [(0, .ref (c 60)), (1, .int (zI (q)))] [.int (zI (0))]
    refine zr_if_eq X 17 15 dX8_pipe_12 rfl rfl (by omega) (fun bq15 => ?_) (fun bq15 => absurd bq15 (by omega))
    refine zr_aload_n X 18 0 dX8_pipe_17 rfl rfl ?_
    have c816 : V7 (c 60) = some (60, .inr (9, [.ref (md 61), .int (zI (κ 0)), .ref (c 62), .ref (md 63), .ref (md 64), .ref (c 65), .int (zI (τ14 26)), .int (zI (τ14 28)), .int (zI (τ14 29)), .ref (c 66), .int (zI (τ14 36))])) := hp8m.1
    refine zr_get X 21 9 7 c816 rfl iX8 (by decide) w0 rfl rfl dX8_pipe_18 rfl ?_
    refine zr_aload_n X 22 0 dX8_pipe_21 rfl rfl ?_
    refine zr_get X 25 9 8 c816 rfl iX8 (by decide) w2 rfl rfl dX8_pipe_22 rfl ?_
    refine zr_isub X 26 dX8_pipe_25 rfl ?_
    refine zr_istore_n X 27 [(2, .int (zI ((τ14 28) - (τ14 29)))), (0, .ref (c 60)), (1, .int (zI (q)))] dX8_pipe_26 rfl (by decide) rfl ?_
    refine zr_aload_n X 28 1 dX8_pipe_27 rfl rfl ?_
    refine zr_iload_n X 29 2 dX8_pipe_28 rfl rfl ?_
    refine zr_put X 32 9 6 [.ref (md 61), .int (zI (κ 0)), .ref (c 62), .ref (md 63), .ref (md 64), .ref (c 65), .int (zI (q)), .int (zI (τ14 28)), .int (zI (τ14 29)), .ref (c 66), .int (zI (τ14 36))] tyX8 c816 rfl iX8 tyX8_ok nmX8 (by decide) w3 rfl rfl rfl rfl (Nat.le_of_ble_eq_true rfl) rfl dX8_pipe_29 rfl ?_
    refine zr_aload_n X 33 1 dX8_pipe_32 rfl rfl ?_
    refine zr_iconst X 34 dX8_pipe_33 rfl ?_
    refine zr_put X 37 9 7 [.ref (md 61), .int (zI (κ 0)), .ref (c 62), .ref (md 63), .ref (md 64), .ref (c 65), .int (zI (q)), .int (zI (0)), .int (zI (τ14 29)), .ref (c 66), .int (zI (τ14 36))] tyX8 (zu_eq _ _ _ _) rfl iX8 tyX8_ok nmX8 (by decide) w0 rfl rfl rfl rfl (Nat.le_of_ble_eq_true rfl) rfl dX8_pipe_34 rfl ?_
    refine zr_view (zu_zu _ _ _ _ _ _) ?_
    refine zr_aload_n X 38 1 dX8_pipe_37 rfl rfl ?_
    refine zr_iconst X 39 dX8_pipe_38 rfl ?_
    refine zr_put X 42 9 8 [.ref (md 61), .int (zI (κ 0)), .ref (c 62), .ref (md 63), .ref (md 64), .ref (c 65), .int (zI (q)), .int (zI (0)), .int (zI (0)), .ref (c 66), .int (zI (τ14 36))] tyX8 (zu_eq _ _ _ _) rfl iX8 tyX8_ok nmX8 (by decide) w2 rfl rfl rfl rfl (Nat.le_of_ble_eq_true rfl) rfl dX8_pipe_39 rfl ?_
    refine zr_view (zu_zu _ _ _ _ _ _) ?_
    obtain ⟨cm17h, cm17f⟩ := hp8m.setM (q) (0) (0) (τ14 36) (by omega)
    obtain ⟨cm17V, cm17e⟩ : ∃ zz9 : zV, zz9 = (zu V7 (c 60) 60 (.inr (9, [.ref (md 61), .int (zI (κ 0)), .ref (c 62), .ref (md 63), .ref (md 64), .ref (c 65), .int (zI (q)), .int (zI (0)), .int (zI (0)), .ref (c 66), .int (zI (τ14 36))]))) := ⟨_, rfl⟩
    have cm17m : zMo Γ cm17V c md (zmf τ14 (q) (0) (0) (τ14 36)) κ E := by
      rw [cm17e]
      exact cm17h
    have cm17g : zag (fun x => x ≠ 60) V7 cm17V := by
      rw [cm17e]
      exact cm17f
    refine zr_view (cm17e).symm ?_
    have fx18 : zfm V cm17V := zag.tr fx13 (cm17g.mono (fun t ht => by omega))
    obtain ⟨τ19, τ19e⟩ : ∃ zz9 : Nat → Int, zz9 = zmf τ14 (q) (0) (0) (τ14 36) := ⟨_, rfl⟩
    rw [← τ19e] at cm17m
    have τ19_24 : τ19 24 = τ14 24 := by rw [τ19e]; exact rfl
    have τ19_25 : τ19 25 = τ14 25 := by rw [τ19e]; exact rfl
    have τ19_26 : τ19 26 = q := by rw [τ19e]; exact rfl
    have τ19_27 : τ19 27 = 0 - 0 := by rw [τ19e]; exact rfl
    have τ19_28 : τ19 28 = 0 := by rw [τ19e]; exact rfl
    have τ19_29 : τ19 29 = 0 := by rw [τ19e]; exact rfl
    have τ19_30 : τ19 30 = τ14 30 := by rw [τ19e]; exact rfl
    have τ19_31 : τ19 31 = τ14 31 := by rw [τ19e]; exact rfl
    have τ19_32 : τ19 32 = τ14 32 := by rw [τ19e]; exact rfl
    have τ19_33 : τ19 33 = τ14 33 := by rw [τ19e]; exact rfl
    have τ19_36 : τ19 36 = τ14 36 := by rw [τ19e]; exact rfl
    show zG C cm17V 0 0 42 [(2, .int (zI ((τ14 28) - (τ14 29)))), (0, .ref (c 60)), (1, .int (zI (q)))] []
    refine zr_aload_n X 43 1 dX8_pipe_42 rfl rfl ?_
    refine zr_iload_n X 44 0 dX8_pipe_43 rfl rfl ?_
    refine zr_callVe (kc' := 0) (ks' := 0) X 47 1 (m_X8_done l Γ cm17m) gX8_pipe_X8_done rfl (by decide +kernel) rfl (by decide) ⟨_, _, cm17m.1⟩ rfl rfl (Nat.le_of_ble_eq_true rfl) dX8_pipe_44 rfl (by omega) (by omega) (fun rv20 V21 hp22 => ?_)
    obtain ⟨hp22e, hp22m, hp22g⟩ := hp22
    rw [hp22e]
    have fx23 : zfm V V21 := zag.tr fx18 (hp22g.mono (fun t ht => by omega))
    obtain ⟨τ24, τ24e⟩ : ∃ zz9 : Nat → Int, zz9 = zdn τ19 := ⟨_, rfl⟩
    rw [← τ24e] at hp22m
    have τ24_24 : τ24 24 = τ19 24 := by rw [τ24e]; exact rfl
    have τ24_25 : τ24 25 = τ19 25 := by rw [τ24e]; exact rfl
    have τ24_26 : τ24 26 = τ19 26 := by rw [τ24e]; exact rfl
    have τ24_27 : τ24 27 = τ19 27 := by rw [τ24e]; exact rfl
    have τ24_28 : τ24 28 = τ19 28 := by rw [τ24e]; exact rfl
    have τ24_29 : τ24 29 = τ19 29 := by rw [τ24e]; exact rfl
    have τ24_30 : τ24 30 = τ19 30 + 1 := by rw [τ24e]; exact rfl
    have τ24_31 : τ24 31 = τ19 31 := by rw [τ24e]; exact rfl
    have τ24_32 : τ24 32 = τ19 32 := by rw [τ24e]; exact rfl
    have τ24_33 : τ24 33 = τ19 33 := by rw [τ24e]; exact rfl
    have τ24_36 : τ24 36 = τ19 36 := by rw [τ24e]; exact rfl
    show zG C V21 0 0 47 [(2, .int (zI ((τ14 28) - (τ14 29)))), (0, .ref (c 60)), (1, .int (zI (q)))] [.int (zI ((τ14 28) - (τ14 29)))]
    exact zr_iret X rfl ⟨(τ14 28) - (τ14 29), md, τ24, κ, rfl, hp22m.le (by omega), fx23, Or.inr (Or.inr ⟨by omega, trivial, ⟨by omega, by rw [τ24e, τ19e, show τ14 36 = 0 by omega, τ14e]⟩⟩)⟩ dX8_pipe_47
theorem zmf_id {τ : Nat → Int} (h : τ 27 = τ 28 - τ 29) : zmf τ (τ 26) (τ 28) (τ 29) (τ 36) = τ := by
  rw [zmf_36 h, zf_id]
theorem zmf_zmf {τ : Nat → Int} {a b d e a' b' d' e' : Int} : zmf (zmf τ a b d e) a' b' d' e' = zmf τ a' b' d' e' := by
  funext j
  unfold zmf
  by_cases h1 : j = 26
  · simp [h1]
  · by_cases h2 : j = 27
    · simp [h2]
    · by_cases h3 : j = 28
      · simp [h3]
      · by_cases h4 : j = 29
        · simp [h4]
        · by_cases h5 : j = 36
          · simp [h5]
          · simp [h1, h2, h3, h4, h5]
set_option maxRecDepth 100000 in
set_option maxHeartbeats 4000000 in
theorem m_X8_feed (l : Launch) (Γ : zGam) {V : zV} {c md : Nat → Nat} {τ κ : Nat → Int} {E : Int} {x n : Int} (hM : zMo Γ V c md τ κ E) (hx : -2147483648 ≤ x ∧ x ≤ 2147483647) (hn : -2147483648 ≤ n ∧ n ≤ 2147483647) : zM l Γ 4 yX8_feed wsX8_feed 0 0 V [.ref (c 60), .int (zI (x)), .int (zI (n))] (fun rv V' => ∃ (y : Int) (md' : Nat → Nat) (τ' κ' : Nat → Int), rv = some (.int (zI y)) ∧ zMo Γ V' c md' τ' κ' (E + 40) ∧ zfm V V' ∧ ((¬ (0 ≤ x ∧ 0 ≤ n ∧ n ≤ 20) ∧ y = 0 ∧ τ' = zf τ 36 1) ∨ ((0 ≤ x ∧ 0 ≤ n ∧ n ≤ 20) ∧ ¬ (True) ∧ y = 0 ∧ τ' = zf τ 36 2) ∨ ((0 ≤ x ∧ 0 ≤ n ∧ n ≤ 20) ∧ (True) ∧ (0 ≤ y ∧ y ≤ n ∧ (y = n ∨ τ 27 + y = τ 26 ∨ τ 28 + y = 160) ∧ τ' = zdn (zmf (zf τ 36 0) (τ 26) (τ 28 + y) (τ 29) 0))))) := by
  have w0 : Cond.fieldLink RX8 27 "SashwordsModel" "size" "I" ∈ wsX8_feed := by decide +kernel
  have iX8 : ∀ w ∈ u_ws RX8 TX8 11, w ∈ wsX8_feed := by decide +kernel
  have w2 : Cond.fieldLink RX8 129 "SashwordsModel" "in" "I" ∈ wsX8_feed := by decide +kernel
  have w3 : Cond.fieldLink RX8 132 "SashwordsModel" "out" "I" ∈ wsX8_feed := by decide +kernel
  have w4 : Cond.methodLink RX8 97 Lib.Math.min.name ∈ wsX8_feed := by decide +kernel
  have w5 : Cond.static Lib.Math.min.name ∈ wsX8_feed := by decide +kernel
  have w6 : Cond.initialized "java/lang/Math" ∈ wsX8_feed := by decide +kernel
  have w7 : Cond.code Lib.Math.min.name Lib.Math.min.code 2 (some .int) ∈ wsX8_feed := by decide +kernel
  have w8 : Cond.fieldLink RX8 24 "SashwordsModel" "sent" "[I" ∈ wsX8_feed := by decide +kernel
  refine zM_of (cc := cX8_feed) (nL := 5) (ret := (some .int)) (own := RX8) (by decide +kernel) rfl rfl (Nat.le_of_ble_eq_true rfl) (fun C X hi0 => ?_)
  have nn1 : (0 ≤ κ 0 ∧ κ 0 ≤ κ 1 ∧ κ 0 ≤ E ∧ κ 1 ≤ 7000) ∧ (0 ≤ τ 24 ∧ τ 24 ≤ 80 ∧ 0 ≤ τ 25 ∧ τ 25 ≤ 80) ∧ 1 ≤ τ 26 ∧ τ 26 ≤ 8 ∧ 0 ≤ τ 29 ∧ τ 29 ≤ τ 28 ∧ τ 28 ≤ 160 ∧ τ 27 ≤ τ 26 ∧ τ 27 = τ 28 - τ 29 := hM.n
  show zG C V 0 0 0 [(0, .ref (c 60)), (1, .int (zI (x))), (2, .int (zI (n)))] []
  refine zr_aload_n X 1 0 dX8_feed_0 rfl rfl ?_
  refine zr_iload_n X 2 1 dX8_feed_1 rfl rfl ?_
  refine zr_if_lt X 15 5 dX8_feed_2 rfl rfl (by omega) (fun bq2 => ?_) (fun bq2 => ?_)
  · refine zr_iconst X 16 dX8_feed_15 rfl ?_
    refine zr_goto X 20 dX8_feed_16 rfl ?_
    refine zr_iconst X 21 dX8_feed_20 rfl ?_
    refine zr_callVe (kc' := 0) (ks' := 0) X 24 2 (m_X8_isThrown l Γ hM (a := 1) (b := 0) (by omega) (by omega)) gX8_feed_X8_isThrown rfl (by decide +kernel) rfl (by decide) ⟨_, _, hM.1⟩ rfl rfl (Nat.le_of_ble_eq_true rfl) dX8_feed_21 rfl (by omega) (by omega) (fun rv3 V4 hp5 => ?_)
    obtain ⟨⟨hp5x, hp5k, hp5e, hp5c, hp5m⟩, hp5g⟩ := hp5
    rw [hp5e]
    rcases hp5c with ⟨tc6a, tc6k, tc6x⟩ | ⟨tc6a, tc6b, tc6k, tc6x⟩ | ⟨tc6a, tc6b, tc6k, tc6x⟩
    · skip
      subst tc6k tc6x
      have fx7 : zfm V V4 := (hp5g.mono (fun t ht => by omega))
      obtain ⟨τ8, τ8e⟩ : ∃ zz9 : Nat → Int, zz9 = zf τ 36 1 := ⟨_, rfl⟩
      rw [← τ8e] at hp5m
      have τ8_24 : τ8 24 = τ 24 := by rw [τ8e]; exact rfl
      have τ8_25 : τ8 25 = τ 25 := by rw [τ8e]; exact rfl
      have τ8_26 : τ8 26 = τ 26 := by rw [τ8e]; exact rfl
      have τ8_27 : τ8 27 = τ 27 := by rw [τ8e]; exact rfl
      have τ8_28 : τ8 28 = τ 28 := by rw [τ8e]; exact rfl
      have τ8_29 : τ8 29 = τ 29 := by rw [τ8e]; exact rfl
      have τ8_30 : τ8 30 = τ 30 := by rw [τ8e]; exact rfl
      have τ8_31 : τ8 31 = τ 31 := by rw [τ8e]; exact rfl
      have τ8_32 : τ8 32 = τ 32 := by rw [τ8e]; exact rfl
      have τ8_33 : τ8 33 = τ 33 := by rw [τ8e]; exact rfl
      have τ8_36 : τ8 36 = 1 := by rw [τ8e]; exact rfl
      show zG C V4 0 0 24 [(0, .ref (c 60)), (1, .int (zI (x))), (2, .int (zI (n)))] [.int (zI (1))]
      refine zr_if_eq X 29 27 dX8_feed_24 rfl rfl (by omega) (fun bq9 => absurd bq9 (by omega)) (fun bq9 => ?_)
      refine zr_iconst X 28 dX8_feed_27 rfl ?_
      exact zr_iret X rfl ⟨0, md, τ8, κ, rfl, hp5m.le (by omega), fx7, Or.inl ⟨by omega, rfl, by rw [τ8e]⟩⟩ dX8_feed_28
    · exact absurd tc6a (by decide)
    · exact absurd tc6a (by decide)
  · refine zr_iload_n X 6 2 dX8_feed_5 rfl rfl ?_
    refine zr_iconst X 7 dX8_feed_6 rfl ?_
    refine zr_bipush X 9 (20) dX8_feed_7 rfl (by decide) ?_
    refine zr_callS (kc' := 0) (ks' := 0) X 12 3 (m_X8_isNo l Γ (V := V) (x := n) (a := 0) (b := 20) (by omega) (by omega) (by omega)) gX8_feed_X8_isNo rfl (by decide +kernel) rfl (by decide) rfl (Nat.le_of_ble_eq_true rfl) dX8_feed_9 rfl (by omega) (by omega) (fun rv10 V11 hp12 => ?_)
    obtain ⟨⟨no13, no13e, no13a⟩, no13v⟩ := hp12
    rw [no13e, no13v]
    show zG C V 0 0 12 [(0, .ref (c 60)), (1, .int (zI (x))), (2, .int (zI (n)))] [.int (zI (no13)), .ref (c 60)]
    refine zr_if_eq X 19 15 dX8_feed_12 rfl rfl (by omega) (fun bq14 => ?_) (fun bq14 => ?_)
    · refine zr_iconst X 20 dX8_feed_19 rfl ?_
      refine zr_iconst X 21 dX8_feed_20 rfl ?_
      refine zr_callVe (kc' := 0) (ks' := 0) X 24 2 (m_X8_isThrown l Γ hM (a := 0) (b := 0) (by omega) (by omega)) gX8_feed_X8_isThrown rfl (by decide +kernel) rfl (by decide) ⟨_, _, hM.1⟩ rfl rfl (Nat.le_of_ble_eq_true rfl) dX8_feed_21 rfl (by omega) (by omega) (fun rv15 V16 hp17 => ?_)
      obtain ⟨⟨hp17x, hp17k, hp17e, hp17c, hp17m⟩, hp17g⟩ := hp17
      rw [hp17e]
      rcases hp17c with ⟨tc18a, tc18k, tc18x⟩ | ⟨tc18a, tc18b, tc18k, tc18x⟩ | ⟨tc18a, tc18b, tc18k, tc18x⟩
      · exact absurd tc18a (by decide)
      · exact absurd tc18b (by decide)
      · skip
        subst tc18k tc18x
        have fx19 : zfm V V16 := (hp17g.mono (fun t ht => by omega))
        obtain ⟨τ20, τ20e⟩ : ∃ zz9 : Nat → Int, zz9 = zf τ 36 0 := ⟨_, rfl⟩
        rw [← τ20e] at hp17m
        have τ20_24 : τ20 24 = τ 24 := by rw [τ20e]; exact rfl
        have τ20_25 : τ20 25 = τ 25 := by rw [τ20e]; exact rfl
        have τ20_26 : τ20 26 = τ 26 := by rw [τ20e]; exact rfl
        have τ20_27 : τ20 27 = τ 27 := by rw [τ20e]; exact rfl
        have τ20_28 : τ20 28 = τ 28 := by rw [τ20e]; exact rfl
        have τ20_29 : τ20 29 = τ 29 := by rw [τ20e]; exact rfl
        have τ20_30 : τ20 30 = τ 30 := by rw [τ20e]; exact rfl
        have τ20_31 : τ20 31 = τ 31 := by rw [τ20e]; exact rfl
        have τ20_32 : τ20 32 = τ 32 := by rw [τ20e]; exact rfl
        have τ20_33 : τ20 33 = τ 33 := by rw [τ20e]; exact rfl
        have τ20_36 : τ20 36 = 0 := by rw [τ20e]; exact rfl
        show zG C V16 0 0 24 [(0, .ref (c 60)), (1, .int (zI (x))), (2, .int (zI (n)))] [.int (zI (0))]
        refine zr_if_eq X 29 27 dX8_feed_24 rfl rfl (by omega) (fun bq21 => ?_) (fun bq21 => absurd bq21 (by omega))
        refine zr_iload_n X 30 2 dX8_feed_29 rfl rfl ?_
        refine zr_aload_n X 31 0 dX8_feed_30 rfl rfl ?_
        have c822 : V16 (c 60) = some (60, .inr (9, [.ref (md 61), .int (zI (κ 0)), .ref (c 62), .ref (md 63), .ref (md 64), .ref (c 65), .int (zI (τ20 26)), .int (zI (τ20 28)), .int (zI (τ20 29)), .ref (c 66), .int (zI (τ20 36))])) := hp17m.1
        refine zr_get X 34 9 6 c822 rfl iX8 (by decide) w0 rfl rfl dX8_feed_31 rfl ?_
        refine zr_aload_n X 35 0 dX8_feed_34 rfl rfl ?_
        refine zr_get X 38 9 7 c822 rfl iX8 (by decide) w2 rfl rfl dX8_feed_35 rfl ?_
        refine zr_aload_n X 39 0 dX8_feed_38 rfl rfl ?_
        refine zr_get X 42 9 8 c822 rfl iX8 (by decide) w3 rfl rfl dX8_feed_39 rfl ?_
        refine zr_isub X 43 dX8_feed_42 rfl ?_
        refine zr_isub X 44 dX8_feed_43 rfl ?_
        refine zr_sipush X 47 (160) dX8_feed_44 rfl (by decide) ?_
        refine zr_aload_n X 48 0 dX8_feed_47 rfl rfl ?_
        refine zr_get X 51 9 7 c822 rfl iX8 (by decide) w2 rfl rfl dX8_feed_48 rfl ?_
        refine zr_isub X 52 dX8_feed_51 rfl ?_
        obtain ⟨mz23, mz23e, mz23a⟩ : ∃ z9 : Int, z9 = (if 160 - (τ20 28) < (τ20 26) - ((τ20 28) - (τ20 29)) then 160 - (τ20 28) else (τ20 26) - ((τ20 28) - (τ20 29))) ∧ ((160 - (τ20 28) < (τ20 26) - ((τ20 28) - (τ20 29)) ∧ z9 = 160 - (τ20 28)) ∨ (¬ 160 - (τ20 28) < (τ20 26) - ((τ20 28) - (τ20 29)) ∧ z9 = (τ20 26) - ((τ20 28) - (τ20 29)))) := zmine _ _
        refine zr_mmin X 55 (mz23) w4 w5 w6 w7 (by decide) (Nat.le_of_ble_eq_true rfl) (by omega) (by omega) mz23e dX8_feed_52 rfl ?_
        clear mz23e
        obtain ⟨mz24, mz24e, mz24a⟩ : ∃ z9 : Int, z9 = (if mz23 < n then mz23 else n) ∧ ((mz23 < n ∧ z9 = mz23) ∨ (¬ mz23 < n ∧ z9 = n)) := zmine _ _
        refine zr_mmin X 58 (mz24) w4 w5 w6 w7 (by decide) (Nat.le_of_ble_eq_true rfl) (by omega) (by omega) mz24e dX8_feed_55 rfl ?_
        clear mz24e
        refine zr_istore_n X 59 [(3, .int (zI (mz24))), (0, .ref (c 60)), (1, .int (zI (x))), (2, .int (zI (n)))] dX8_feed_58 rfl (by decide) rfl ?_
        refine zr_iconst X 60 dX8_feed_59 rfl ?_
        refine zr_istore X 62 [(4, .int (zI (0))), (3, .int (zI (mz24))), (0, .ref (c 60)), (1, .int (zI (x))), (2, .int (zI (n)))] dX8_feed_60 rfl (by decide) rfl ?_
        refine zr_sub [0, 1, 4, 3, 2] [(4, .int (zI (0))), (3, .int (zI (mz24))), (2, .int (zI (n))), (1, .int (zI (x))), (0, .ref (c 60))] rfl ?_
        have loop : ∀ (N : Nat) (V1 : zV) (τ1 : Nat → Int) (k : Int), zMo Γ V1 c md τ1 κ E ∧ zfm V V1 ∧ τ1 = zmf τ20 (τ20 26) (τ20 28 + k) (τ20 29) (τ20 36) ∧ 0 ≤ k ∧ (k ≤ mz24 ∨ k = 0) → (mz24 - k).toNat = N → zG C V1 0 0 62 [(4, .int (zI (k))), (3, .int (zI (mz24))), (2, .int (zI (n))), (1, .int (zI (x))), (0, .ref (c 60))] [] := by
          intro N
          induction N using Nat.strongRecOn with
          | _ N ih =>
          intro V1 τ1 k hI hN
          obtain ⟨hI1, hI2, hI3, hI4, hI5⟩ := id hI
          have f26 : τ1 26 = τ20 26 := by rw [hI3]; rfl
          have f28 : τ1 28 = τ20 28 + k := by rw [hI3]; rfl
          have f29 : τ1 29 = τ20 29 := by rw [hI3]; rfl
          have f36 : τ1 36 = τ20 36 := by rw [hI3]; rfl
          have nn25 : (0 ≤ κ 0 ∧ κ 0 ≤ κ 1 ∧ κ 0 ≤ E ∧ κ 1 ≤ 7000) ∧ (0 ≤ τ1 24 ∧ τ1 24 ≤ 80 ∧ 0 ≤ τ1 25 ∧ τ1 25 ≤ 80) ∧ 1 ≤ τ1 26 ∧ τ1 26 ≤ 8 ∧ 0 ≤ τ1 29 ∧ τ1 29 ≤ τ1 28 ∧ τ1 28 ≤ 160 ∧ τ1 27 ≤ τ1 26 ∧ τ1 27 = τ1 28 - τ1 29 := hI1.n
          refine zr_iload X 64 0 dX8_feed_62 rfl rfl ?_
          refine zr_iload_n X 65 1 dX8_feed_64 rfl rfl ?_
          refine zr_icmp_ge X 96 68 dX8_feed_65 rfl rfl (by omega) (by omega) (fun bq26 => ?_) (fun bq26 => ?_)
          · refine zr_aload_n X 97 4 dX8_feed_96 rfl rfl ?_
            refine zr_iload_n X 98 1 dX8_feed_97 rfl rfl ?_
            refine zr_callVe (kc' := 0) (ks' := 0) X 101 1 (m_X8_done l Γ hI1) gX8_feed_X8_done rfl (by decide +kernel) rfl (by decide) ⟨_, _, hI1.1⟩ rfl rfl (Nat.le_of_ble_eq_true rfl) dX8_feed_98 rfl (by omega) (by omega) (fun rv27 V28 hp29 => ?_)
            obtain ⟨hp29e, hp29m, hp29g⟩ := hp29
            rw [hp29e]
            have fx30 : zfm V V28 := zag.tr hI2 (hp29g.mono (fun t ht => by omega))
            obtain ⟨τ31, τ31e⟩ : ∃ zz9 : Nat → Int, zz9 = zdn τ1 := ⟨_, rfl⟩
            rw [← τ31e] at hp29m
            have τ31_24 : τ31 24 = τ1 24 := by rw [τ31e]; exact rfl
            have τ31_25 : τ31 25 = τ1 25 := by rw [τ31e]; exact rfl
            have τ31_26 : τ31 26 = τ1 26 := by rw [τ31e]; exact rfl
            have τ31_27 : τ31 27 = τ1 27 := by rw [τ31e]; exact rfl
            have τ31_28 : τ31 28 = τ1 28 := by rw [τ31e]; exact rfl
            have τ31_29 : τ31 29 = τ1 29 := by rw [τ31e]; exact rfl
            have τ31_30 : τ31 30 = τ1 30 + 1 := by rw [τ31e]; exact rfl
            have τ31_31 : τ31 31 = τ1 31 := by rw [τ31e]; exact rfl
            have τ31_32 : τ31 32 = τ1 32 := by rw [τ31e]; exact rfl
            have τ31_33 : τ31 33 = τ1 33 := by rw [τ31e]; exact rfl
            have τ31_36 : τ31 36 = τ1 36 := by rw [τ31e]; exact rfl
            show zG C V28 0 0 101 [(4, .int (zI (k))), (3, .int (zI (mz24))), (2, .int (zI (n))), (1, .int (zI (x))), (0, .ref (c 60))] [.int (zI (mz24))]
            exact zr_iret X rfl ⟨mz24, md, τ31, κ, rfl, hp29m.le (by omega), fx30, Or.inr (Or.inr ⟨by omega, trivial, ⟨by omega, by omega, by omega, by rw [show mz24 = k by omega, τ31e, hI3, show τ20 36 = 0 by omega, show τ20 26 = τ 26 by omega, show τ20 28 = τ 28 by omega, show τ20 29 = τ 29 by omega, τ20e]⟩⟩)⟩ dX8_feed_101
          · refine zr_aload_n X 69 4 dX8_feed_68 rfl rfl ?_
            have c832 : V1 (c 60) = some (60, .inr (9, [.ref (md 61), .int (zI (κ 0)), .ref (c 62), .ref (md 63), .ref (md 64), .ref (c 65), .int (zI (τ1 26)), .int (zI (τ1 28)), .int (zI (τ1 29)), .ref (c 66), .int (zI (τ1 36))])) := hI1.1
            refine zr_get X 72 9 5 c832 rfl iX8 (by decide) w8 rfl rfl dX8_feed_69 rfl ?_
            refine zr_aload_n X 73 4 dX8_feed_72 rfl rfl ?_
            refine zr_dup X 74 dX8_feed_73 rfl rfl ?_
            refine zr_get X 77 9 7 c832 rfl iX8 (by decide) w2 rfl rfl dX8_feed_74 rfl ?_
            refine zr_dup_x1 X 78 dX8_feed_77 rfl rfl rfl ?_
            refine zr_iconst X 79 dX8_feed_78 rfl ?_
            refine zr_iadd X 80 dX8_feed_79 rfl ?_
            refine zr_put X 83 9 7 [.ref (md 61), .int (zI (κ 0)), .ref (c 62), .ref (md 63), .ref (md 64), .ref (c 65), .int (zI (τ1 26)), .int (zI ((τ1 28) + 1)), .int (zI (τ1 29)), .ref (c 66), .int (zI (τ1 36))] tyX8 c832 rfl iX8 tyX8_ok nmX8 (by decide) w2 rfl rfl rfl rfl (Nat.le_of_ble_eq_true rfl) rfl dX8_feed_80 rfl ?_
            obtain ⟨cm33h, cm33f⟩ := hI1.setM (τ1 26) ((τ1 28) + 1) (τ1 29) (τ1 36) (by omega)
            obtain ⟨cm33V, cm33e⟩ : ∃ zz9 : zV, zz9 = (zu V1 (c 60) 60 (.inr (9, [.ref (md 61), .int (zI (κ 0)), .ref (c 62), .ref (md 63), .ref (md 64), .ref (c 65), .int (zI (τ1 26)), .int (zI ((τ1 28) + 1)), .int (zI (τ1 29)), .ref (c 66), .int (zI (τ1 36))]))) := ⟨_, rfl⟩
            have cm33m : zMo Γ cm33V c md (zmf τ1 (τ1 26) ((τ1 28) + 1) (τ1 29) (τ1 36)) κ E := by
              rw [cm33e]
              exact cm33h
            have cm33g : zag (fun x => x ≠ 60) V1 cm33V := by
              rw [cm33e]
              exact cm33f
            refine zr_view (cm33e).symm ?_
            have fx34 : zfm V cm33V := zag.tr hI2 (cm33g.mono (fun t ht => by omega))
            obtain ⟨τ35, τ35e⟩ : ∃ zz9 : Nat → Int, zz9 = zmf τ1 (τ1 26) ((τ1 28) + 1) (τ1 29) (τ1 36) := ⟨_, rfl⟩
            rw [← τ35e] at cm33m
            have τ35_24 : τ35 24 = τ1 24 := by rw [τ35e]; exact rfl
            have τ35_25 : τ35 25 = τ1 25 := by rw [τ35e]; exact rfl
            have τ35_26 : τ35 26 = τ1 26 := by rw [τ35e]; exact rfl
            have τ35_27 : τ35 27 = ((τ1 28) + 1) - (τ1 29) := by rw [τ35e]; exact rfl
            have τ35_28 : τ35 28 = (τ1 28) + 1 := by rw [τ35e]; exact rfl
            have τ35_29 : τ35 29 = τ1 29 := by rw [τ35e]; exact rfl
            have τ35_30 : τ35 30 = τ1 30 := by rw [τ35e]; exact rfl
            have τ35_31 : τ35 31 = τ1 31 := by rw [τ35e]; exact rfl
            have τ35_32 : τ35 32 = τ1 32 := by rw [τ35e]; exact rfl
            have τ35_33 : τ35 33 = τ1 33 := by rw [τ35e]; exact rfl
            have τ35_36 : τ35 36 = τ1 36 := by rw [τ35e]; exact rfl
            show zG C cm33V 0 0 83 [(4, .int (zI (k))), (3, .int (zI (mz24))), (2, .int (zI (n))), (1, .int (zI (x))), (0, .ref (c 60))] [.int (zI (τ1 28)), .ref (c 65)]
            refine zr_iload_n X 84 3 dX8_feed_83 rfl rfl ?_
            refine zr_iload X 86 0 dX8_feed_84 rfl rfl ?_
            refine zr_callS (kc' := 0) (ks' := 0) X 89 2 (m_X8_letter l Γ (V := cm33V) (x := x) (k := k) (by omega) (by omega)) gX8_feed_X8_letter rfl (by decide +kernel) rfl (by decide) rfl (Nat.le_of_ble_eq_true rfl) dX8_feed_86 rfl (by omega) (by omega) (fun rv36 V37 hp38 => ?_)
            obtain ⟨⟨y39, y39e, y39a, y39b, y39c⟩, y39v⟩ := hp38
            rw [y39e, y39v]
            show zG C cm33V 0 0 89 [(4, .int (zI (k))), (3, .int (zI (mz24))), (2, .int (zI (n))), (1, .int (zI (x))), (0, .ref (c 60))] [.int (zI (y39)), .int (zI (τ1 28)), .ref (c 65)]
            obtain ⟨c840f, c840, c840c⟩ := cm33m.2.2.2.2.2.2.1
            refine zr_iast X 90 c840 (by omega) dX8_feed_89 rfl ?_
            obtain ⟨cm41h, cm41f⟩ := cm33m.setSent (f := zf c840f (τ1 28).toNat y39) (zc_zf c840c (by omega))
            obtain ⟨cm41V, cm41e⟩ : ∃ zz9 : zV, zz9 = (zu cm33V (c 65) 65 (za Γ.2.1 0 160 (zf c840f (τ1 28).toNat y39))) := ⟨_, rfl⟩
            have cm41m : zMo Γ cm41V c md (τ35) κ E := by
              rw [cm41e]
              exact cm41h
            have cm41g : zag (fun x => x ≠ 65) cm33V cm41V := by
              rw [cm41e]
              exact cm41f
            refine zr_view (cm41e).symm ?_
            have fx42 : zfm V cm41V := zag.tr fx34 (cm41g.mono (fun t ht => by omega))
            show zG C cm41V 0 0 90 [(4, .int (zI (k))), (3, .int (zI (mz24))), (2, .int (zI (n))), (1, .int (zI (x))), (0, .ref (c 60))] []
            refine zr_iinc X 93 0 [(4, .int (zI (k + 1))), (3, .int (zI (mz24))), (2, .int (zI (n))), (1, .int (zI (x))), (0, .ref (c 60))] dX8_feed_90 rfl rfl (by decide) rfl ?_
            refine zr_goto X 62 dX8_feed_93 rfl ?_
            exact ih _ (by omega) cm41V τ35 (k + 1) ⟨cm41m, fx42, by rw [τ35e, f26, f28, f29, f36, hI3, zmf_zmf, Int.add_assoc], by omega, by omega⟩ rfl
        exact loop _ V16 τ20 0 ⟨hp17m, fx19, by rw [Int.add_zero, zmf_id (by omega)], by omega, by omega⟩ rfl
    · refine zr_iconst X 16 dX8_feed_15 rfl ?_
      refine zr_goto X 20 dX8_feed_16 rfl ?_
      refine zr_iconst X 21 dX8_feed_20 rfl ?_
      refine zr_callVe (kc' := 0) (ks' := 0) X 24 2 (m_X8_isThrown l Γ hM (a := 1) (b := 0) (by omega) (by omega)) gX8_feed_X8_isThrown rfl (by decide +kernel) rfl (by decide) ⟨_, _, hM.1⟩ rfl rfl (Nat.le_of_ble_eq_true rfl) dX8_feed_21 rfl (by omega) (by omega) (fun rv43 V44 hp45 => ?_)
      obtain ⟨⟨hp45x, hp45k, hp45e, hp45c, hp45m⟩, hp45g⟩ := hp45
      rw [hp45e]
      rcases hp45c with ⟨tc46a, tc46k, tc46x⟩ | ⟨tc46a, tc46b, tc46k, tc46x⟩ | ⟨tc46a, tc46b, tc46k, tc46x⟩
      · skip
        subst tc46k tc46x
        have fx47 : zfm V V44 := (hp45g.mono (fun t ht => by omega))
        obtain ⟨τ48, τ48e⟩ : ∃ zz9 : Nat → Int, zz9 = zf τ 36 1 := ⟨_, rfl⟩
        rw [← τ48e] at hp45m
        have τ48_24 : τ48 24 = τ 24 := by rw [τ48e]; exact rfl
        have τ48_25 : τ48 25 = τ 25 := by rw [τ48e]; exact rfl
        have τ48_26 : τ48 26 = τ 26 := by rw [τ48e]; exact rfl
        have τ48_27 : τ48 27 = τ 27 := by rw [τ48e]; exact rfl
        have τ48_28 : τ48 28 = τ 28 := by rw [τ48e]; exact rfl
        have τ48_29 : τ48 29 = τ 29 := by rw [τ48e]; exact rfl
        have τ48_30 : τ48 30 = τ 30 := by rw [τ48e]; exact rfl
        have τ48_31 : τ48 31 = τ 31 := by rw [τ48e]; exact rfl
        have τ48_32 : τ48 32 = τ 32 := by rw [τ48e]; exact rfl
        have τ48_33 : τ48 33 = τ 33 := by rw [τ48e]; exact rfl
        have τ48_36 : τ48 36 = 1 := by rw [τ48e]; exact rfl
        show zG C V44 0 0 24 [(0, .ref (c 60)), (1, .int (zI (x))), (2, .int (zI (n)))] [.int (zI (1))]
        refine zr_if_eq X 29 27 dX8_feed_24 rfl rfl (by omega) (fun bq49 => absurd bq49 (by omega)) (fun bq49 => ?_)
        refine zr_iconst X 28 dX8_feed_27 rfl ?_
        exact zr_iret X rfl ⟨0, md, τ48, κ, rfl, hp45m.le (by omega), fx47, Or.inl ⟨by omega, rfl, by rw [τ48e]⟩⟩ dX8_feed_28
      · exact absurd tc46a (by decide)
      · exact absurd tc46a (by decide)
set_option maxRecDepth 100000 in
set_option maxHeartbeats 4000000 in
theorem m_X8_drain (l : Launch) (Γ : zGam) {V : zV} {c md : Nat → Nat} {τ κ : Nat → Int} {E : Int} {q : Int} (hM : zMo Γ V c md τ κ E) (hq : -2147483648 ≤ q ∧ q ≤ 2147483647) : zM l Γ 10 yX8_drain wsX8_drain 3010 6300 V [.ref (c 60), .int (zI (q))] (fun rv V' => ∃ (zr : Nat) (md' : Nat → Nat) (τ' κ' : Nat → Int), rv = some (.ref zr) ∧ zMo Γ V' c md' τ' κ' (E + 40) ∧ zfm V V' ∧ ((¬ (0 ≤ q ∧ q ≤ 8) ∧ τ' = zf τ 36 1) ∨ ((0 ≤ q ∧ q ≤ 8) ∧ ¬ (True) ∧ τ' = zf τ 36 2) ∨ ((0 ≤ q ∧ q ≤ 8) ∧ (True) ∧ (∃ k : Int, 0 ≤ k ∧ k ≤ q ∧ (k = q ∨ k = τ 27) ∧ τ' = zdn (zmf (zf τ 36 0) (τ 26) (τ 28) (τ 29 + k) 0))))) := by
  have w0 : Cond.fieldLink RX8 132 "SashwordsModel" "out" "I" ∈ wsX8_drain := by decide +kernel
  have iX8 : ∀ w ∈ u_ws RX8 TX8 11, w ∈ wsX8_drain := by decide +kernel
  have w2 : Cond.fieldLink RX8 129 "SashwordsModel" "in" "I" ∈ wsX8_drain := by decide +kernel
  have w3 : Cond.methodLink RX8 97 Lib.Math.min.name ∈ wsX8_drain := by decide +kernel
  have w4 : Cond.static Lib.Math.min.name ∈ wsX8_drain := by decide +kernel
  have w5 : Cond.initialized "java/lang/Math" ∈ wsX8_drain := by decide +kernel
  have w6 : Cond.code Lib.Math.min.name Lib.Math.min.code 2 (some .int) ∈ wsX8_drain := by decide +kernel
  have w7 : Cond.fieldLink RX8 24 "SashwordsModel" "sent" "[I" ∈ wsX8_drain := by decide +kernel
  refine zM_of (cc := cX8_drain) (nL := 3) (ret := (some (.object "java/lang/String"))) (own := RX8) (by decide +kernel) rfl rfl (Nat.le_of_ble_eq_true rfl) (fun C X hi0 => ?_)
  have nn1 : (0 ≤ κ 0 ∧ κ 0 ≤ κ 1 ∧ κ 0 ≤ E ∧ κ 1 ≤ 7000) ∧ (0 ≤ τ 24 ∧ τ 24 ≤ 80 ∧ 0 ≤ τ 25 ∧ τ 25 ≤ 80) ∧ 1 ≤ τ 26 ∧ τ 26 ≤ 8 ∧ 0 ≤ τ 29 ∧ τ 29 ≤ τ 28 ∧ τ 28 ≤ 160 ∧ τ 27 ≤ τ 26 ∧ τ 27 = τ 28 - τ 29 := hM.n
  show zG C V 3010 6300 0 [(0, .ref (c 60)), (1, .int (zI (q)))] []
  refine zr_aload_n X 1 0 dX8_drain_0 rfl rfl ?_
  refine zr_iload_n X 2 1 dX8_drain_1 rfl rfl ?_
  refine zr_iconst X 3 dX8_drain_2 rfl ?_
  refine zr_bipush X 5 (8) dX8_drain_3 rfl (by decide) ?_
  refine zr_callS (kc' := 3010) (ks' := 6300) X 8 3 (m_X8_isNo l Γ (V := V) (x := q) (a := 0) (b := 8) (by omega) (by omega) (by omega)) gX8_drain_X8_isNo rfl (by decide +kernel) rfl (by decide) rfl (Nat.le_of_ble_eq_true rfl) dX8_drain_5 rfl (by omega) (by omega) (fun rv2 V3 hp4 => ?_)
  obtain ⟨⟨no5, no5e, no5a⟩, no5v⟩ := hp4
  rw [no5e, no5v]
  show zG C V 3010 6300 8 [(0, .ref (c 60)), (1, .int (zI (q)))] [.int (zI (no5)), .ref (c 60)]
  refine zr_iconst X 9 dX8_drain_8 rfl ?_
  refine zr_callVe (kc' := 3010) (ks' := 6300) X 12 2 (m_X8_isThrown l Γ hM (a := no5) (b := 0) (by omega) (by omega)) gX8_drain_X8_isThrown rfl (by decide +kernel) rfl (by decide) ⟨_, _, hM.1⟩ rfl rfl (Nat.le_of_ble_eq_true rfl) dX8_drain_9 rfl (by omega) (by omega) (fun rv6 V7 hp8 => ?_)
  obtain ⟨⟨hp8x, hp8k, hp8e, hp8c, hp8m⟩, hp8g⟩ := hp8
  rw [hp8e]
  rcases hp8c with ⟨tc9a, tc9k, tc9x⟩ | ⟨tc9a, tc9b, tc9k, tc9x⟩ | ⟨tc9a, tc9b, tc9k, tc9x⟩
  · skip
    subst tc9k tc9x
    have fx10 : zfm V V7 := (hp8g.mono (fun t ht => by omega))
    obtain ⟨τ11, τ11e⟩ : ∃ zz9 : Nat → Int, zz9 = zf τ 36 1 := ⟨_, rfl⟩
    rw [← τ11e] at hp8m
    have τ11_24 : τ11 24 = τ 24 := by rw [τ11e]; exact rfl
    have τ11_25 : τ11 25 = τ 25 := by rw [τ11e]; exact rfl
    have τ11_26 : τ11 26 = τ 26 := by rw [τ11e]; exact rfl
    have τ11_27 : τ11 27 = τ 27 := by rw [τ11e]; exact rfl
    have τ11_28 : τ11 28 = τ 28 := by rw [τ11e]; exact rfl
    have τ11_29 : τ11 29 = τ 29 := by rw [τ11e]; exact rfl
    have τ11_30 : τ11 30 = τ 30 := by rw [τ11e]; exact rfl
    have τ11_31 : τ11 31 = τ 31 := by rw [τ11e]; exact rfl
    have τ11_32 : τ11 32 = τ 32 := by rw [τ11e]; exact rfl
    have τ11_33 : τ11 33 = τ 33 := by rw [τ11e]; exact rfl
    have τ11_36 : τ11 36 = 1 := by rw [τ11e]; exact rfl
    show zG C V7 3010 6300 12 [(0, .ref (c 60)), (1, .int (zI (q)))] [.int (zI (1))]
    refine zr_if_eq X 18 15 dX8_drain_12 rfl rfl (by omega) (fun bq12 => absurd bq12 (by omega)) (fun bq12 => ?_)
    refine zr_ldcS X 17 6 rfl dX8_drain_15 rfl ?_
    exact zr_aret X rfl (Or.inl ⟨_, rfl⟩) ⟨Γ.2.2.1 6, md, τ11, κ, rfl, hp8m.le (by omega), fx10, Or.inl ⟨by omega, by rw [τ11e]⟩⟩ dX8_drain_17
  · exact absurd tc9b (by decide)
  · skip
    subst tc9k tc9x
    have fx13 : zfm V V7 := (hp8g.mono (fun t ht => by omega))
    obtain ⟨τ14, τ14e⟩ : ∃ zz9 : Nat → Int, zz9 = zf τ 36 0 := ⟨_, rfl⟩
    rw [← τ14e] at hp8m
    have τ14_24 : τ14 24 = τ 24 := by rw [τ14e]; exact rfl
    have τ14_25 : τ14 25 = τ 25 := by rw [τ14e]; exact rfl
    have τ14_26 : τ14 26 = τ 26 := by rw [τ14e]; exact rfl
    have τ14_27 : τ14 27 = τ 27 := by rw [τ14e]; exact rfl
    have τ14_28 : τ14 28 = τ 28 := by rw [τ14e]; exact rfl
    have τ14_29 : τ14 29 = τ 29 := by rw [τ14e]; exact rfl
    have τ14_30 : τ14 30 = τ 30 := by rw [τ14e]; exact rfl
    have τ14_31 : τ14 31 = τ 31 := by rw [τ14e]; exact rfl
    have τ14_32 : τ14 32 = τ 32 := by rw [τ14e]; exact rfl
    have τ14_33 : τ14 33 = τ 33 := by rw [τ14e]; exact rfl
    have τ14_36 : τ14 36 = 0 := by rw [τ14e]; exact rfl
    show zG C V7 3010 6300 12 [(0, .ref (c 60)), (1, .int (zI (q)))] [.int (zI (0))]
    refine zr_if_eq X 18 15 dX8_drain_12 rfl rfl (by omega) (fun bq15 => ?_) (fun bq15 => absurd bq15 (by omega))
    refine zr_aload_n X 19 0 dX8_drain_18 rfl rfl ?_
    have c816 : V7 (c 60) = some (60, .inr (9, [.ref (md 61), .int (zI (κ 0)), .ref (c 62), .ref (md 63), .ref (md 64), .ref (c 65), .int (zI (τ14 26)), .int (zI (τ14 28)), .int (zI (τ14 29)), .ref (c 66), .int (zI (τ14 36))])) := hp8m.1
    refine zr_get X 22 9 8 c816 rfl iX8 (by decide) w0 rfl rfl dX8_drain_19 rfl ?_
    refine zr_istore_n X 23 [(2, .int (zI (τ14 29))), (0, .ref (c 60)), (1, .int (zI (q)))] dX8_drain_22 rfl (by decide) rfl ?_
    refine zr_aload_n X 24 1 dX8_drain_23 rfl rfl ?_
    refine zr_dup X 25 dX8_drain_24 rfl rfl ?_
    refine zr_get X 28 9 8 c816 rfl iX8 (by decide) w0 rfl rfl dX8_drain_25 rfl ?_
    refine zr_iload_n X 29 2 dX8_drain_28 rfl rfl ?_
    refine zr_aload_n X 30 1 dX8_drain_29 rfl rfl ?_
    refine zr_get X 33 9 7 c816 rfl iX8 (by decide) w2 rfl rfl dX8_drain_30 rfl ?_
    refine zr_aload_n X 34 1 dX8_drain_33 rfl rfl ?_
    refine zr_get X 37 9 8 c816 rfl iX8 (by decide) w0 rfl rfl dX8_drain_34 rfl ?_
    refine zr_isub X 38 dX8_drain_37 rfl ?_
    obtain ⟨mz17, mz17e, mz17a⟩ : ∃ z9 : Int, z9 = (if (τ14 28) - (τ14 29) < q then (τ14 28) - (τ14 29) else q) ∧ (((τ14 28) - (τ14 29) < q ∧ z9 = (τ14 28) - (τ14 29)) ∨ (¬ (τ14 28) - (τ14 29) < q ∧ z9 = q)) := zmine _ _
    refine zr_mmin X 41 (mz17) w3 w4 w5 w6 (by decide) (Nat.le_of_ble_eq_true rfl) (by omega) (by omega) mz17e dX8_drain_38 rfl ?_
    clear mz17e
    refine zr_iadd X 42 dX8_drain_41 rfl ?_
    refine zr_put X 45 9 8 [.ref (md 61), .int (zI (κ 0)), .ref (c 62), .ref (md 63), .ref (md 64), .ref (c 65), .int (zI (τ14 26)), .int (zI (τ14 28)), .int (zI ((τ14 29) + mz17)), .ref (c 66), .int (zI (τ14 36))] tyX8 c816 rfl iX8 tyX8_ok nmX8 (by decide) w0 rfl rfl rfl rfl (Nat.le_of_ble_eq_true rfl) rfl dX8_drain_42 rfl ?_
    obtain ⟨cm18h, cm18f⟩ := hp8m.setM (τ14 26) (τ14 28) ((τ14 29) + mz17) (τ14 36) (by omega)
    obtain ⟨cm18V, cm18e⟩ : ∃ zz9 : zV, zz9 = (zu V7 (c 60) 60 (.inr (9, [.ref (md 61), .int (zI (κ 0)), .ref (c 62), .ref (md 63), .ref (md 64), .ref (c 65), .int (zI (τ14 26)), .int (zI (τ14 28)), .int (zI ((τ14 29) + mz17)), .ref (c 66), .int (zI (τ14 36))]))) := ⟨_, rfl⟩
    have cm18m : zMo Γ cm18V c md (zmf τ14 (τ14 26) (τ14 28) ((τ14 29) + mz17) (τ14 36)) κ E := by
      rw [cm18e]
      exact cm18h
    have cm18g : zag (fun x => x ≠ 60) V7 cm18V := by
      rw [cm18e]
      exact cm18f
    refine zr_view (cm18e).symm ?_
    have fx19 : zfm V cm18V := zag.tr fx13 (cm18g.mono (fun t ht => by omega))
    obtain ⟨τ20, τ20e⟩ : ∃ zz9 : Nat → Int, zz9 = zmf τ14 (τ14 26) (τ14 28) ((τ14 29) + mz17) (τ14 36) := ⟨_, rfl⟩
    rw [← τ20e] at cm18m
    have τ20_24 : τ20 24 = τ14 24 := by rw [τ20e]; exact rfl
    have τ20_25 : τ20 25 = τ14 25 := by rw [τ20e]; exact rfl
    have τ20_26 : τ20 26 = τ14 26 := by rw [τ20e]; exact rfl
    have τ20_27 : τ20 27 = (τ14 28) - ((τ14 29) + mz17) := by rw [τ20e]; exact rfl
    have τ20_28 : τ20 28 = τ14 28 := by rw [τ20e]; exact rfl
    have τ20_29 : τ20 29 = (τ14 29) + mz17 := by rw [τ20e]; exact rfl
    have τ20_30 : τ20 30 = τ14 30 := by rw [τ20e]; exact rfl
    have τ20_31 : τ20 31 = τ14 31 := by rw [τ20e]; exact rfl
    have τ20_32 : τ20 32 = τ14 32 := by rw [τ20e]; exact rfl
    have τ20_33 : τ20 33 = τ14 33 := by rw [τ20e]; exact rfl
    have τ20_36 : τ20 36 = τ14 36 := by rw [τ20e]; exact rfl
    show zG C cm18V 3010 6300 45 [(2, .int (zI (τ14 29))), (0, .ref (c 60)), (1, .int (zI (q)))] []
    refine zr_aload_n X 46 1 dX8_drain_45 rfl rfl ?_
    refine zr_iconst X 47 dX8_drain_46 rfl ?_
    refine zr_callVe (kc' := 3010) (ks' := 6300) X 50 1 (m_X8_done l Γ cm18m) gX8_drain_X8_done rfl (by decide +kernel) rfl (by decide) ⟨_, _, cm18m.1⟩ rfl rfl (Nat.le_of_ble_eq_true rfl) dX8_drain_47 rfl (by omega) (by omega) (fun rv21 V22 hp23 => ?_)
    obtain ⟨hp23e, hp23m, hp23g⟩ := hp23
    rw [hp23e]
    have fx24 : zfm V V22 := zag.tr fx19 (hp23g.mono (fun t ht => by omega))
    obtain ⟨τ25, τ25e⟩ : ∃ zz9 : Nat → Int, zz9 = zdn τ20 := ⟨_, rfl⟩
    rw [← τ25e] at hp23m
    have τ25_24 : τ25 24 = τ20 24 := by rw [τ25e]; exact rfl
    have τ25_25 : τ25 25 = τ20 25 := by rw [τ25e]; exact rfl
    have τ25_26 : τ25 26 = τ20 26 := by rw [τ25e]; exact rfl
    have τ25_27 : τ25 27 = τ20 27 := by rw [τ25e]; exact rfl
    have τ25_28 : τ25 28 = τ20 28 := by rw [τ25e]; exact rfl
    have τ25_29 : τ25 29 = τ20 29 := by rw [τ25e]; exact rfl
    have τ25_30 : τ25 30 = τ20 30 + 1 := by rw [τ25e]; exact rfl
    have τ25_31 : τ25 31 = τ20 31 := by rw [τ25e]; exact rfl
    have τ25_32 : τ25 32 = τ20 32 := by rw [τ25e]; exact rfl
    have τ25_33 : τ25 33 = τ20 33 := by rw [τ25e]; exact rfl
    have τ25_36 : τ25 36 = τ20 36 := by rw [τ25e]; exact rfl
    show zG C V22 3010 6300 50 [(2, .int (zI (τ14 29))), (0, .ref (c 60)), (1, .int (zI (q)))] [.int (zI (0))]
    refine zr_pop X 51 dX8_drain_50 rfl rfl ?_
    refine zr_aload_n X 52 1 dX8_drain_51 rfl rfl ?_
    have c826 : V22 (c 60) = some (60, .inr (9, [.ref (md 61), .int (zI (κ 0)), .ref (c 62), .ref (md 63), .ref (md 64), .ref (c 65), .int (zI (τ25 26)), .int (zI (τ25 28)), .int (zI (τ25 29)), .ref (c 66), .int (zI (τ25 36))])) := hp23m.1
    refine zr_get X 55 9 5 c826 rfl iX8 (by decide) w7 rfl rfl dX8_drain_52 rfl ?_
    refine zr_iload_n X 56 0 dX8_drain_55 rfl rfl ?_
    refine zr_aload_n X 57 1 dX8_drain_56 rfl rfl ?_
    refine zr_get X 60 9 8 c826 rfl iX8 (by decide) w0 rfl rfl dX8_drain_57 rfl ?_
    obtain ⟨c827f, c827, c827c⟩ := hp23m.2.2.2.2.2.2.1
    refine zr_callS (kc' := 3010 - 3010) (ks' := 6300 - 6300) X 63 3 (m_X8_told l Γ (fr := τ14 29) (to := τ25 29) c827 c827c (by omega) (by omega) (by omega)) gX8_drain_X8_told rfl (by decide +kernel) rfl (by decide) rfl (Nat.le_of_ble_eq_true rfl) dX8_drain_60 rfl (by omega) (by omega) (fun rv28 V29 hp30 => ?_)
    obtain ⟨hp30z, hp30e, hp30f⟩ := hp30
    rw [hp30e]
    have hp30g : zag (fun x => x ≠ 7) V22 V29 := hp30f
    have hp30m := hp23m.kept hp30g (fun t h1 h2 => by omega)
    have fx31 : zfm V V29 := zag.tr fx24 (hp30g.mono (fun t ht => by omega))
    show zG C V29 (3010 - 3010) (6300 - 6300) 63 [(2, .int (zI (τ14 29))), (0, .ref (c 60)), (1, .int (zI (q)))] [.ref hp30z]
    exact zr_aret X rfl (Or.inl ⟨_, rfl⟩) ⟨hp30z, md, τ25, κ, rfl, hp30m.le (by omega), fx31, Or.inr (Or.inr ⟨by omega, trivial, ⟨mz17, by omega, by omega, by omega, by rw [τ25e, τ20e, show τ14 36 = 0 by omega, show τ14 26 = τ 26 by omega, show τ14 28 = τ 28 by omega, show τ14 29 = τ 29 by omega, τ14e]⟩⟩)⟩ dX8_drain_63
set_option maxRecDepth 100000 in
set_option maxHeartbeats 4000000 in
theorem m_X8_held (l : Launch) (Γ : zGam) {V : zV} {c md : Nat → Nat} {τ κ : Nat → Int} {E : Int} (hM : zMo Γ V c md τ κ E) : zM l Γ 10 yX8_held wsX8_held 3010 6300 V [.ref (c 60)] (fun rv V' => ∃ (zr : Nat) (md' : Nat → Nat) (τ' κ' : Nat → Int), rv = some (.ref zr) ∧ zMo Γ V' c md' τ' κ' (E + 40) ∧ zfm V V' ∧ (τ' = (zf τ 36 0))) := by
  have w0 : Cond.fieldLink RX8 24 "SashwordsModel" "sent" "[I" ∈ wsX8_held := by decide +kernel
  have iX8 : ∀ w ∈ u_ws RX8 TX8 11, w ∈ wsX8_held := by decide +kernel
  have w2 : Cond.fieldLink RX8 132 "SashwordsModel" "out" "I" ∈ wsX8_held := by decide +kernel
  have w3 : Cond.fieldLink RX8 129 "SashwordsModel" "in" "I" ∈ wsX8_held := by decide +kernel
  refine zM_of (cc := cX8_held) (nL := 1) (ret := (some (.object "java/lang/String"))) (own := RX8) (by decide +kernel) rfl rfl (Nat.le_of_ble_eq_true rfl) (fun C X hi0 => ?_)
  have nn1 : (0 ≤ κ 0 ∧ κ 0 ≤ κ 1 ∧ κ 0 ≤ E ∧ κ 1 ≤ 7000) ∧ (0 ≤ τ 24 ∧ τ 24 ≤ 80 ∧ 0 ≤ τ 25 ∧ τ 25 ≤ 80) ∧ 1 ≤ τ 26 ∧ τ 26 ≤ 8 ∧ 0 ≤ τ 29 ∧ τ 29 ≤ τ 28 ∧ τ 28 ≤ 160 ∧ τ 27 ≤ τ 26 ∧ τ 27 = τ 28 - τ 29 := hM.n
  show zG C V 3010 6300 0 [(0, .ref (c 60))] []
  refine zr_aload_n X 1 0 dX8_held_0 rfl rfl ?_
  refine zr_iconst X 2 dX8_held_1 rfl ?_
  refine zr_iconst X 3 dX8_held_2 rfl ?_
  refine zr_callVe (kc' := 3010) (ks' := 6300) X 6 2 (m_X8_isThrown l Γ hM (a := 0) (b := 0) (by omega) (by omega)) gX8_held_X8_isThrown rfl (by decide +kernel) rfl (by decide) ⟨_, _, hM.1⟩ rfl rfl (Nat.le_of_ble_eq_true rfl) dX8_held_3 rfl (by omega) (by omega) (fun rv2 V3 hp4 => ?_)
  obtain ⟨⟨hp4x, hp4k, hp4e, hp4c, hp4m⟩, hp4g⟩ := hp4
  rw [hp4e]
  rcases hp4c with ⟨tc5a, tc5k, tc5x⟩ | ⟨tc5a, tc5b, tc5k, tc5x⟩ | ⟨tc5a, tc5b, tc5k, tc5x⟩
  · exact absurd tc5a (by decide)
  · exact absurd tc5b (by decide)
  · skip
    subst tc5k tc5x
    have fx6 : zfm V V3 := (hp4g.mono (fun t ht => by omega))
    obtain ⟨τ7, τ7e⟩ : ∃ zz9 : Nat → Int, zz9 = zf τ 36 0 := ⟨_, rfl⟩
    rw [← τ7e] at hp4m
    have τ7_24 : τ7 24 = τ 24 := by rw [τ7e]; exact rfl
    have τ7_25 : τ7 25 = τ 25 := by rw [τ7e]; exact rfl
    have τ7_26 : τ7 26 = τ 26 := by rw [τ7e]; exact rfl
    have τ7_27 : τ7 27 = τ 27 := by rw [τ7e]; exact rfl
    have τ7_28 : τ7 28 = τ 28 := by rw [τ7e]; exact rfl
    have τ7_29 : τ7 29 = τ 29 := by rw [τ7e]; exact rfl
    have τ7_30 : τ7 30 = τ 30 := by rw [τ7e]; exact rfl
    have τ7_31 : τ7 31 = τ 31 := by rw [τ7e]; exact rfl
    have τ7_32 : τ7 32 = τ 32 := by rw [τ7e]; exact rfl
    have τ7_33 : τ7 33 = τ 33 := by rw [τ7e]; exact rfl
    have τ7_36 : τ7 36 = 0 := by rw [τ7e]; exact rfl
    show zG C V3 3010 6300 6 [(0, .ref (c 60))] [.int (zI (0))]
    refine zr_pop X 7 dX8_held_6 rfl rfl ?_
    refine zr_aload_n X 8 0 dX8_held_7 rfl rfl ?_
    have c88 : V3 (c 60) = some (60, .inr (9, [.ref (md 61), .int (zI (κ 0)), .ref (c 62), .ref (md 63), .ref (md 64), .ref (c 65), .int (zI (τ7 26)), .int (zI (τ7 28)), .int (zI (τ7 29)), .ref (c 66), .int (zI (τ7 36))])) := hp4m.1
    refine zr_get X 11 9 5 c88 rfl iX8 (by decide) w0 rfl rfl dX8_held_8 rfl ?_
    refine zr_aload_n X 12 0 dX8_held_11 rfl rfl ?_
    refine zr_get X 15 9 8 c88 rfl iX8 (by decide) w2 rfl rfl dX8_held_12 rfl ?_
    refine zr_aload_n X 16 0 dX8_held_15 rfl rfl ?_
    refine zr_get X 19 9 7 c88 rfl iX8 (by decide) w3 rfl rfl dX8_held_16 rfl ?_
    obtain ⟨c89f, c89, c89c⟩ := hp4m.2.2.2.2.2.2.1
    refine zr_callS (kc' := 3010 - 3010) (ks' := 6300 - 6300) X 22 3 (m_X8_told l Γ (fr := τ7 29) (to := τ7 28) c89 c89c (by omega) (by omega) (by omega)) gX8_held_X8_told rfl (by decide +kernel) rfl (by decide) rfl (Nat.le_of_ble_eq_true rfl) dX8_held_19 rfl (by omega) (by omega) (fun rv10 V11 hp12 => ?_)
    obtain ⟨hp12z, hp12e, hp12f⟩ := hp12
    rw [hp12e]
    have hp12g : zag (fun x => x ≠ 7) V3 V11 := hp12f
    have hp12m := hp4m.kept hp12g (fun t h1 h2 => by omega)
    have fx13 : zfm V V11 := zag.tr fx6 (hp12g.mono (fun t ht => by omega))
    show zG C V11 (3010 - 3010) (6300 - 6300) 22 [(0, .ref (c 60))] [.ref hp12z]
    exact zr_aret X rfl (Or.inl ⟨_, rfl⟩) ⟨hp12z, md, τ7, κ, rfl, hp12m.le (by omega), fx13, by rw [τ7e]⟩ dX8_held_22
set_option maxRecDepth 100000 in
set_option maxHeartbeats 4000000 in
theorem m_X8_travelled (l : Launch) (Γ : zGam) {V : zV} {c md : Nat → Nat} {τ κ : Nat → Int} {E : Int} {q : Int} (hM : zMo Γ V c md τ κ E) (hq : -2147483648 ≤ q ∧ q ≤ 2147483647) : zM l Γ 10 yX8_travelled wsX8_travelled 3010 6300 V [.ref (c 60), .int (zI (q))] (fun rv V' => ∃ (zr : Nat) (md' : Nat → Nat) (τ' κ' : Nat → Int), rv = some (.ref zr) ∧ zMo Γ V' c md' τ' κ' (E + 40) ∧ zfm V V' ∧ ((¬ (0 ≤ q ∧ q ≤ 1) ∧ τ' = zf τ 36 1) ∨ ((0 ≤ q ∧ q ≤ 1) ∧ ¬ (True) ∧ τ' = zf τ 36 2) ∨ ((0 ≤ q ∧ q ≤ 1) ∧ (True) ∧ (τ' = (zf τ 36 0))))) := by
  have w0 : Cond.fieldLink RX8 24 "SashwordsModel" "sent" "[I" ∈ wsX8_travelled := by decide +kernel
  have iX8 : ∀ w ∈ u_ws RX8 TX8 11, w ∈ wsX8_travelled := by decide +kernel
  have w2 : Cond.fieldLink RX8 132 "SashwordsModel" "out" "I" ∈ wsX8_travelled := by decide +kernel
  have w3 : Cond.fieldLink RX8 129 "SashwordsModel" "in" "I" ∈ wsX8_travelled := by decide +kernel
  refine zM_of (cc := cX8_travelled) (nL := 2) (ret := (some (.object "java/lang/String"))) (own := RX8) (by decide +kernel) rfl rfl (Nat.le_of_ble_eq_true rfl) (fun C X hi0 => ?_)
  have nn1 : (0 ≤ κ 0 ∧ κ 0 ≤ κ 1 ∧ κ 0 ≤ E ∧ κ 1 ≤ 7000) ∧ (0 ≤ τ 24 ∧ τ 24 ≤ 80 ∧ 0 ≤ τ 25 ∧ τ 25 ≤ 80) ∧ 1 ≤ τ 26 ∧ τ 26 ≤ 8 ∧ 0 ≤ τ 29 ∧ τ 29 ≤ τ 28 ∧ τ 28 ≤ 160 ∧ τ 27 ≤ τ 26 ∧ τ 27 = τ 28 - τ 29 := hM.n
  show zG C V 3010 6300 0 [(0, .ref (c 60)), (1, .int (zI (q)))] []
  refine zr_aload_n X 1 0 dX8_travelled_0 rfl rfl ?_
  refine zr_iload_n X 2 1 dX8_travelled_1 rfl rfl ?_
  refine zr_iconst X 3 dX8_travelled_2 rfl ?_
  refine zr_iconst X 4 dX8_travelled_3 rfl ?_
  refine zr_callS (kc' := 3010) (ks' := 6300) X 7 3 (m_X8_isNo l Γ (V := V) (x := q) (a := 0) (b := 1) (by omega) (by omega) (by omega)) gX8_travelled_X8_isNo rfl (by decide +kernel) rfl (by decide) rfl (Nat.le_of_ble_eq_true rfl) dX8_travelled_4 rfl (by omega) (by omega) (fun rv2 V3 hp4 => ?_)
  obtain ⟨⟨no5, no5e, no5a⟩, no5v⟩ := hp4
  rw [no5e, no5v]
  show zG C V 3010 6300 7 [(0, .ref (c 60)), (1, .int (zI (q)))] [.int (zI (no5)), .ref (c 60)]
  refine zr_iconst X 8 dX8_travelled_7 rfl ?_
  refine zr_callVe (kc' := 3010) (ks' := 6300) X 11 2 (m_X8_isThrown l Γ hM (a := no5) (b := 0) (by omega) (by omega)) gX8_travelled_X8_isThrown rfl (by decide +kernel) rfl (by decide) ⟨_, _, hM.1⟩ rfl rfl (Nat.le_of_ble_eq_true rfl) dX8_travelled_8 rfl (by omega) (by omega) (fun rv6 V7 hp8 => ?_)
  obtain ⟨⟨hp8x, hp8k, hp8e, hp8c, hp8m⟩, hp8g⟩ := hp8
  rw [hp8e]
  rcases hp8c with ⟨tc9a, tc9k, tc9x⟩ | ⟨tc9a, tc9b, tc9k, tc9x⟩ | ⟨tc9a, tc9b, tc9k, tc9x⟩
  · skip
    subst tc9k tc9x
    have fx10 : zfm V V7 := (hp8g.mono (fun t ht => by omega))
    obtain ⟨τ11, τ11e⟩ : ∃ zz9 : Nat → Int, zz9 = zf τ 36 1 := ⟨_, rfl⟩
    rw [← τ11e] at hp8m
    have τ11_24 : τ11 24 = τ 24 := by rw [τ11e]; exact rfl
    have τ11_25 : τ11 25 = τ 25 := by rw [τ11e]; exact rfl
    have τ11_26 : τ11 26 = τ 26 := by rw [τ11e]; exact rfl
    have τ11_27 : τ11 27 = τ 27 := by rw [τ11e]; exact rfl
    have τ11_28 : τ11 28 = τ 28 := by rw [τ11e]; exact rfl
    have τ11_29 : τ11 29 = τ 29 := by rw [τ11e]; exact rfl
    have τ11_30 : τ11 30 = τ 30 := by rw [τ11e]; exact rfl
    have τ11_31 : τ11 31 = τ 31 := by rw [τ11e]; exact rfl
    have τ11_32 : τ11 32 = τ 32 := by rw [τ11e]; exact rfl
    have τ11_33 : τ11 33 = τ 33 := by rw [τ11e]; exact rfl
    have τ11_36 : τ11 36 = 1 := by rw [τ11e]; exact rfl
    show zG C V7 3010 6300 11 [(0, .ref (c 60)), (1, .int (zI (q)))] [.int (zI (1))]
    refine zr_if_eq X 19 14 dX8_travelled_11 rfl rfl (by omega) (fun bq12 => absurd bq12 (by omega)) (fun bq12 => ?_)
    refine zr_ldcS X 16 6 rfl dX8_travelled_14 rfl ?_
    refine zr_goto X 42 dX8_travelled_16 rfl ?_
    exact zr_aret X rfl (Or.inl ⟨_, rfl⟩) ⟨Γ.2.2.1 6, md, τ11, κ, rfl, hp8m.le (by omega), fx10, Or.inl ⟨by omega, by rw [τ11e]⟩⟩ dX8_travelled_42
  · exact absurd tc9b (by decide)
  · skip
    subst tc9k tc9x
    have fx13 : zfm V V7 := (hp8g.mono (fun t ht => by omega))
    obtain ⟨τ14, τ14e⟩ : ∃ zz9 : Nat → Int, zz9 = zf τ 36 0 := ⟨_, rfl⟩
    rw [← τ14e] at hp8m
    have τ14_24 : τ14 24 = τ 24 := by rw [τ14e]; exact rfl
    have τ14_25 : τ14 25 = τ 25 := by rw [τ14e]; exact rfl
    have τ14_26 : τ14 26 = τ 26 := by rw [τ14e]; exact rfl
    have τ14_27 : τ14 27 = τ 27 := by rw [τ14e]; exact rfl
    have τ14_28 : τ14 28 = τ 28 := by rw [τ14e]; exact rfl
    have τ14_29 : τ14 29 = τ 29 := by rw [τ14e]; exact rfl
    have τ14_30 : τ14 30 = τ 30 := by rw [τ14e]; exact rfl
    have τ14_31 : τ14 31 = τ 31 := by rw [τ14e]; exact rfl
    have τ14_32 : τ14 32 = τ 32 := by rw [τ14e]; exact rfl
    have τ14_33 : τ14 33 = τ 33 := by rw [τ14e]; exact rfl
    have τ14_36 : τ14 36 = 0 := by rw [τ14e]; exact rfl
    show zG C V7 3010 6300 11 [(0, .ref (c 60)), (1, .int (zI (q)))] [.int (zI (0))]
    refine zr_if_eq X 19 14 dX8_travelled_11 rfl rfl (by omega) (fun bq15 => ?_) (fun bq15 => absurd bq15 (by omega))
    refine zr_aload_n X 20 0 dX8_travelled_19 rfl rfl ?_
    have c816 : V7 (c 60) = some (60, .inr (9, [.ref (md 61), .int (zI (κ 0)), .ref (c 62), .ref (md 63), .ref (md 64), .ref (c 65), .int (zI (τ14 26)), .int (zI (τ14 28)), .int (zI (τ14 29)), .ref (c 66), .int (zI (τ14 36))])) := hp8m.1
    refine zr_get X 23 9 5 c816 rfl iX8 (by decide) w0 rfl rfl dX8_travelled_20 rfl ?_
    refine zr_iconst X 24 dX8_travelled_23 rfl ?_
    refine zr_iload_n X 25 1 dX8_travelled_24 rfl rfl ?_
    refine zr_if_ne X 35 28 dX8_travelled_25 rfl rfl (by omega) (fun bq17 => ?_) (fun bq17 => ?_)
    · refine zr_aload_n X 36 0 dX8_travelled_35 rfl rfl ?_
      refine zr_get X 39 9 8 c816 rfl iX8 (by decide) w2 rfl rfl dX8_travelled_36 rfl ?_
      obtain ⟨c818f, c818, c818c⟩ := hp8m.2.2.2.2.2.2.1
      refine zr_callS (kc' := 3010 - 3010) (ks' := 6300 - 6300) X 42 3 (m_X8_told l Γ (fr := 0) (to := τ14 29) c818 c818c (by omega) (by omega) (by omega)) gX8_travelled_X8_told rfl (by decide +kernel) rfl (by decide) rfl (Nat.le_of_ble_eq_true rfl) dX8_travelled_39 rfl (by omega) (by omega) (fun rv19 V20 hp21 => ?_)
      obtain ⟨hp21z, hp21e, hp21f⟩ := hp21
      rw [hp21e]
      have hp21g : zag (fun x => x ≠ 7) V7 V20 := hp21f
      have hp21m := hp8m.kept hp21g (fun t h1 h2 => by omega)
      have fx22 : zfm V V20 := zag.tr fx13 (hp21g.mono (fun t ht => by omega))
      show zG C V20 (3010 - 3010) (6300 - 6300) 42 [(0, .ref (c 60)), (1, .int (zI (q)))] [.ref hp21z]
      exact zr_aret X rfl (Or.inl ⟨_, rfl⟩) ⟨hp21z, md, τ14, κ, rfl, hp21m.le (by omega), fx22, Or.inr (Or.inr ⟨by omega, trivial, by rw [τ14e]⟩)⟩ dX8_travelled_42
    · refine zr_aload_n X 29 0 dX8_travelled_28 rfl rfl ?_
      refine zr_get X 32 9 7 c816 rfl iX8 (by decide) w3 rfl rfl dX8_travelled_29 rfl ?_
      refine zr_goto X 39 dX8_travelled_32 rfl ?_
      obtain ⟨c823f, c823, c823c⟩ := hp8m.2.2.2.2.2.2.1
      refine zr_callS (kc' := 3010 - 3010) (ks' := 6300 - 6300) X 42 3 (m_X8_told l Γ (fr := 0) (to := τ14 28) c823 c823c (by omega) (by omega) (by omega)) gX8_travelled_X8_told rfl (by decide +kernel) rfl (by decide) rfl (Nat.le_of_ble_eq_true rfl) dX8_travelled_39 rfl (by omega) (by omega) (fun rv24 V25 hp26 => ?_)
      obtain ⟨hp26z, hp26e, hp26f⟩ := hp26
      rw [hp26e]
      have hp26g : zag (fun x => x ≠ 7) V7 V25 := hp26f
      have hp26m := hp8m.kept hp26g (fun t h1 h2 => by omega)
      have fx27 : zfm V V25 := zag.tr fx13 (hp26g.mono (fun t ht => by omega))
      show zG C V25 (3010 - 3010) (6300 - 6300) 42 [(0, .ref (c 60)), (1, .int (zI (q)))] [.ref hp26z]
      exact zr_aret X rfl (Or.inl ⟨_, rfl⟩) ⟨hp26z, md, τ14, κ, rfl, hp26m.le (by omega), fx27, Or.inr (Or.inr ⟨by omega, trivial, by rw [τ14e]⟩)⟩ dX8_travelled_42
set_option maxRecDepth 100000 in
set_option maxHeartbeats 4000000 in
theorem m_X8_house (l : Launch) (Γ : zGam) {V : zV} {c md : Nat → Nat} {τ κ : Nat → Int} {E : Int} {q : Int} (hM : zMo Γ V c md τ κ E) (hq : -2147483648 ≤ q ∧ q ≤ 2147483647) : zM l Γ 4 yX8_house wsX8_house 0 0 V [.ref (c 60), .int (zI (q))] (fun rv V' => ∃ (y : Int) (md' : Nat → Nat) (τ' κ' : Nat → Int), rv = some (.int (zI y)) ∧ zMo Γ V' c md' τ' κ' (E + 40) ∧ zfm V V' ∧ ((¬ (0 ≤ q ∧ q ≤ 3) ∧ y = 0 ∧ τ' = zf τ 36 1) ∨ ((0 ≤ q ∧ q ≤ 3) ∧ ¬ (True) ∧ y = 0 ∧ τ' = zf τ 36 2) ∨ ((0 ≤ q ∧ q ≤ 3) ∧ (True) ∧ (((q = 0 ∧ y = τ 30) ∨ (q = 1 ∧ y = τ 31) ∨ (q = 2 ∧ y = τ 32) ∨ (q = 3 ∧ y = τ 33)) ∧ τ' = (zf τ 36 0))))) := by
  have w0 : Cond.fieldLink RX8 31 "SashwordsModel" "tallies" "[I" ∈ wsX8_house := by decide +kernel
  have iX8 : ∀ w ∈ u_ws RX8 TX8 11, w ∈ wsX8_house := by decide +kernel
  refine zM_of (cc := cX8_house) (nL := 2) (ret := (some .int)) (own := RX8) (by decide +kernel) rfl rfl (Nat.le_of_ble_eq_true rfl) (fun C X hi0 => ?_)
  have nn1 : (0 ≤ κ 0 ∧ κ 0 ≤ κ 1 ∧ κ 0 ≤ E ∧ κ 1 ≤ 7000) ∧ (0 ≤ τ 24 ∧ τ 24 ≤ 80 ∧ 0 ≤ τ 25 ∧ τ 25 ≤ 80) ∧ 1 ≤ τ 26 ∧ τ 26 ≤ 8 ∧ 0 ≤ τ 29 ∧ τ 29 ≤ τ 28 ∧ τ 28 ≤ 160 ∧ τ 27 ≤ τ 26 ∧ τ 27 = τ 28 - τ 29 := hM.n
  show zG C V 0 0 0 [(0, .ref (c 60)), (1, .int (zI (q)))] []
  refine zr_aload_n X 1 0 dX8_house_0 rfl rfl ?_
  refine zr_iload_n X 2 1 dX8_house_1 rfl rfl ?_
  refine zr_iconst X 3 dX8_house_2 rfl ?_
  refine zr_iconst X 4 dX8_house_3 rfl ?_
  refine zr_callS (kc' := 0) (ks' := 0) X 7 3 (m_X8_isNo l Γ (V := V) (x := q) (a := 0) (b := 3) (by omega) (by omega) (by omega)) gX8_house_X8_isNo rfl (by decide +kernel) rfl (by decide) rfl (Nat.le_of_ble_eq_true rfl) dX8_house_4 rfl (by omega) (by omega) (fun rv2 V3 hp4 => ?_)
  obtain ⟨⟨no5, no5e, no5a⟩, no5v⟩ := hp4
  rw [no5e, no5v]
  show zG C V 0 0 7 [(0, .ref (c 60)), (1, .int (zI (q)))] [.int (zI (no5)), .ref (c 60)]
  refine zr_iconst X 8 dX8_house_7 rfl ?_
  refine zr_callVe (kc' := 0) (ks' := 0) X 11 2 (m_X8_isThrown l Γ hM (a := no5) (b := 0) (by omega) (by omega)) gX8_house_X8_isThrown rfl (by decide +kernel) rfl (by decide) ⟨_, _, hM.1⟩ rfl rfl (Nat.le_of_ble_eq_true rfl) dX8_house_8 rfl (by omega) (by omega) (fun rv6 V7 hp8 => ?_)
  obtain ⟨⟨hp8x, hp8k, hp8e, hp8c, hp8m⟩, hp8g⟩ := hp8
  rw [hp8e]
  rcases hp8c with ⟨tc9a, tc9k, tc9x⟩ | ⟨tc9a, tc9b, tc9k, tc9x⟩ | ⟨tc9a, tc9b, tc9k, tc9x⟩
  · skip
    subst tc9k tc9x
    have fx10 : zfm V V7 := (hp8g.mono (fun t ht => by omega))
    obtain ⟨τ11, τ11e⟩ : ∃ zz9 : Nat → Int, zz9 = zf τ 36 1 := ⟨_, rfl⟩
    rw [← τ11e] at hp8m
    have τ11_24 : τ11 24 = τ 24 := by rw [τ11e]; exact rfl
    have τ11_25 : τ11 25 = τ 25 := by rw [τ11e]; exact rfl
    have τ11_26 : τ11 26 = τ 26 := by rw [τ11e]; exact rfl
    have τ11_27 : τ11 27 = τ 27 := by rw [τ11e]; exact rfl
    have τ11_28 : τ11 28 = τ 28 := by rw [τ11e]; exact rfl
    have τ11_29 : τ11 29 = τ 29 := by rw [τ11e]; exact rfl
    have τ11_30 : τ11 30 = τ 30 := by rw [τ11e]; exact rfl
    have τ11_31 : τ11 31 = τ 31 := by rw [τ11e]; exact rfl
    have τ11_32 : τ11 32 = τ 32 := by rw [τ11e]; exact rfl
    have τ11_33 : τ11 33 = τ 33 := by rw [τ11e]; exact rfl
    have τ11_36 : τ11 36 = 1 := by rw [τ11e]; exact rfl
    show zG C V7 0 0 11 [(0, .ref (c 60)), (1, .int (zI (q)))] [.int (zI (1))]
    refine zr_if_eq X 18 14 dX8_house_11 rfl rfl (by omega) (fun bq12 => absurd bq12 (by omega)) (fun bq12 => ?_)
    refine zr_iconst X 15 dX8_house_14 rfl ?_
    refine zr_goto X 24 dX8_house_15 rfl ?_
    exact zr_iret X rfl ⟨0, md, τ11, κ, rfl, hp8m.le (by omega), fx10, Or.inl ⟨by omega, rfl, by rw [τ11e]⟩⟩ dX8_house_24
  · exact absurd tc9b (by decide)
  · skip
    subst tc9k tc9x
    have fx13 : zfm V V7 := (hp8g.mono (fun t ht => by omega))
    obtain ⟨τ14, τ14e⟩ : ∃ zz9 : Nat → Int, zz9 = zf τ 36 0 := ⟨_, rfl⟩
    rw [← τ14e] at hp8m
    have τ14_24 : τ14 24 = τ 24 := by rw [τ14e]; exact rfl
    have τ14_25 : τ14 25 = τ 25 := by rw [τ14e]; exact rfl
    have τ14_26 : τ14 26 = τ 26 := by rw [τ14e]; exact rfl
    have τ14_27 : τ14 27 = τ 27 := by rw [τ14e]; exact rfl
    have τ14_28 : τ14 28 = τ 28 := by rw [τ14e]; exact rfl
    have τ14_29 : τ14 29 = τ 29 := by rw [τ14e]; exact rfl
    have τ14_30 : τ14 30 = τ 30 := by rw [τ14e]; exact rfl
    have τ14_31 : τ14 31 = τ 31 := by rw [τ14e]; exact rfl
    have τ14_32 : τ14 32 = τ 32 := by rw [τ14e]; exact rfl
    have τ14_33 : τ14 33 = τ 33 := by rw [τ14e]; exact rfl
    have τ14_36 : τ14 36 = 0 := by rw [τ14e]; exact rfl
    show zG C V7 0 0 11 [(0, .ref (c 60)), (1, .int (zI (q)))] [.int (zI (0))]
    refine zr_if_eq X 18 14 dX8_house_11 rfl rfl (by omega) (fun bq15 => ?_) (fun bq15 => absurd bq15 (by omega))
    refine zr_aload_n X 19 0 dX8_house_18 rfl rfl ?_
    have c816 : V7 (c 60) = some (60, .inr (9, [.ref (md 61), .int (zI (κ 0)), .ref (c 62), .ref (md 63), .ref (md 64), .ref (c 65), .int (zI (τ14 26)), .int (zI (τ14 28)), .int (zI (τ14 29)), .ref (c 66), .int (zI (τ14 36))])) := hp8m.1
    refine zr_get X 22 9 9 c816 rfl iX8 (by decide) w0 rfl rfl dX8_house_19 rfl ?_
    refine zr_iload_n X 23 1 dX8_house_22 rfl rfl ?_
    obtain ⟨c817f, c817, c8170, c8171, c8172, c8173⟩ := hp8m.2.2.2.2.2.2.2.1
    refine zr_iald X 24 c817 (by omega) dX8_house_23 rfl ?_
    have hct : (q = 0 ∧ c817f (q).toNat = τ 30) ∨ (q = 1 ∧ c817f (q).toNat = τ 31) ∨ (q = 2 ∧ c817f (q).toNat = τ 32) ∨ (q = 3 ∧ c817f (q).toNat = τ 33) := by
      rcases (by omega : q = 0 ∨ q = 1 ∨ q = 2 ∨ q = 3) with h | h | h | h
      · exact Or.inl ⟨h, by rw [h]; exact c8170.trans τ14_30⟩
      · exact Or.inr (Or.inl ⟨h, by rw [h]; exact c8171.trans τ14_31⟩)
      · exact Or.inr (Or.inr (Or.inl ⟨h, by rw [h]; exact c8172.trans τ14_32⟩))
      · exact Or.inr (Or.inr (Or.inr ⟨h, by rw [h]; exact c8173.trans τ14_33⟩))
    exact zr_iret X rfl ⟨c817f (q).toNat, md, τ14, κ, rfl, hp8m.le (by omega), fx13, Or.inr (Or.inr ⟨by omega, trivial, ⟨hct, by rw [τ14e]⟩⟩)⟩ dX8_house_24
set_option maxRecDepth 100000 in
set_option maxHeartbeats 4000000 in
theorem m_X8_knock (l : Launch) (Γ : zGam) {V : zV} {c md : Nat → Nat} {τ κ : Nat → Int} {E : Int} (hM : zMo Γ V c md τ κ E) : zM l Γ 4 yX8_knock wsX8_knock 0 0 V [.ref (c 60)] (fun rv V' => ∃ (y : Int) (md' : Nat → Nat) (τ' κ' : Nat → Int), rv = some (.int (zI y)) ∧ zMo Γ V' c md' τ' κ' (E + 40) ∧ zfm V V' ∧ (y = τ 32 + 1 ∧ τ' = zf (zf τ 36 0) 32 ((zf τ 36 0) 32 + 1))) := by
  have w0 : Cond.fieldLink RX8 31 "SashwordsModel" "tallies" "[I" ∈ wsX8_knock := by decide +kernel
  have iX8 : ∀ w ∈ u_ws RX8 TX8 11, w ∈ wsX8_knock := by decide +kernel
  refine zM_of (cc := cX8_knock) (nL := 1) (ret := (some .int)) (own := RX8) (by decide +kernel) rfl rfl (Nat.le_of_ble_eq_true rfl) (fun C X hi0 => ?_)
  have nn1 : (0 ≤ κ 0 ∧ κ 0 ≤ κ 1 ∧ κ 0 ≤ E ∧ κ 1 ≤ 7000) ∧ (0 ≤ τ 24 ∧ τ 24 ≤ 80 ∧ 0 ≤ τ 25 ∧ τ 25 ≤ 80) ∧ 1 ≤ τ 26 ∧ τ 26 ≤ 8 ∧ 0 ≤ τ 29 ∧ τ 29 ≤ τ 28 ∧ τ 28 ≤ 160 ∧ τ 27 ≤ τ 26 ∧ τ 27 = τ 28 - τ 29 := hM.n
  show zG C V 0 0 0 [(0, .ref (c 60))] []
  refine zr_aload_n X 1 0 dX8_knock_0 rfl rfl ?_
  refine zr_iconst X 2 dX8_knock_1 rfl ?_
  refine zr_iconst X 3 dX8_knock_2 rfl ?_
  refine zr_callVe (kc' := 0) (ks' := 0) X 6 2 (m_X8_isThrown l Γ hM (a := 0) (b := 0) (by omega) (by omega)) gX8_knock_X8_isThrown rfl (by decide +kernel) rfl (by decide) ⟨_, _, hM.1⟩ rfl rfl (Nat.le_of_ble_eq_true rfl) dX8_knock_3 rfl (by omega) (by omega) (fun rv2 V3 hp4 => ?_)
  obtain ⟨⟨hp4x, hp4k, hp4e, hp4c, hp4m⟩, hp4g⟩ := hp4
  rw [hp4e]
  rcases hp4c with ⟨tc5a, tc5k, tc5x⟩ | ⟨tc5a, tc5b, tc5k, tc5x⟩ | ⟨tc5a, tc5b, tc5k, tc5x⟩
  · exact absurd tc5a (by decide)
  · exact absurd tc5b (by decide)
  · skip
    subst tc5k tc5x
    have fx6 : zfm V V3 := (hp4g.mono (fun t ht => by omega))
    obtain ⟨τ7, τ7e⟩ : ∃ zz9 : Nat → Int, zz9 = zf τ 36 0 := ⟨_, rfl⟩
    rw [← τ7e] at hp4m
    have τ7_24 : τ7 24 = τ 24 := by rw [τ7e]; exact rfl
    have τ7_25 : τ7 25 = τ 25 := by rw [τ7e]; exact rfl
    have τ7_26 : τ7 26 = τ 26 := by rw [τ7e]; exact rfl
    have τ7_27 : τ7 27 = τ 27 := by rw [τ7e]; exact rfl
    have τ7_28 : τ7 28 = τ 28 := by rw [τ7e]; exact rfl
    have τ7_29 : τ7 29 = τ 29 := by rw [τ7e]; exact rfl
    have τ7_30 : τ7 30 = τ 30 := by rw [τ7e]; exact rfl
    have τ7_31 : τ7 31 = τ 31 := by rw [τ7e]; exact rfl
    have τ7_32 : τ7 32 = τ 32 := by rw [τ7e]; exact rfl
    have τ7_33 : τ7 33 = τ 33 := by rw [τ7e]; exact rfl
    have τ7_36 : τ7 36 = 0 := by rw [τ7e]; exact rfl
    show zG C V3 0 0 6 [(0, .ref (c 60))] [.int (zI (0))]
    refine zr_pop X 7 dX8_knock_6 rfl rfl ?_
    refine zr_aload_n X 8 0 dX8_knock_7 rfl rfl ?_
    have c88 : V3 (c 60) = some (60, .inr (9, [.ref (md 61), .int (zI (κ 0)), .ref (c 62), .ref (md 63), .ref (md 64), .ref (c 65), .int (zI (τ7 26)), .int (zI (τ7 28)), .int (zI (τ7 29)), .ref (c 66), .int (zI (τ7 36))])) := hp4m.1
    refine zr_get X 11 9 9 c88 rfl iX8 (by decide) w0 rfl rfl dX8_knock_8 rfl ?_
    refine zr_iconst X 12 dX8_knock_11 rfl ?_
    refine zr_dup2 X 13 dX8_knock_12 rfl rfl rfl ?_
    obtain ⟨c89f, c89, c890, c891, c892, c893⟩ := hp4m.2.2.2.2.2.2.2.1
    refine zr_iald X 14 c89 (by omega) dX8_knock_13 rfl ?_
    show zG C V3 0 0 14 [(0, .ref (c 60))] [.int (zI (c89f (2 : Int).toNat)), .int (zI (2)), .ref (c 66)]
    refine zr_iconst X 15 dX8_knock_14 rfl ?_
    refine zr_iadd X 16 dX8_knock_15 rfl ?_
    refine zr_dup_x2 X 17 dX8_knock_16 rfl rfl rfl rfl ?_
    refine zr_iast X 18 c89 (by omega) dX8_knock_17 rfl ?_
    have c89x : c89f (2 : Int).toNat + 1 = τ7 32 + 1 := by
      show c89f 2 + 1 = τ7 32 + 1
      rw [c892]
    have c89y := hp4m.setTal c89 ⟨c890, c891, c892, c893⟩ 2 (by decide) (c89f (2 : Int).toNat + 1)
    rw [show zf τ7 (30 + 2) (c89f (2 : Int).toNat + 1) = zf τ7 (30 + 2) (τ7 32 + 1) by rw [c89x]] at c89y
    obtain ⟨cm10h, cm10f⟩ := c89y
    obtain ⟨cm10V, cm10e⟩ : ∃ zz9 : zV, zz9 = (zu V3 (c 66) 66 (za Γ.2.1 0 4 (zf c89f (2 : Int).toNat ((c89f (2 : Int).toNat) + 1)))) := ⟨_, rfl⟩
    have cm10m : zMo Γ cm10V c md (zf τ7 32 (τ7 32 + 1)) κ E := by
      rw [cm10e]
      exact cm10h
    have cm10g : zag (fun x => x ≠ 66) V3 cm10V := by
      rw [cm10e]
      exact cm10f
    refine zr_view (cm10e).symm ?_
    have fx11 : zfm V cm10V := zag.tr fx6 (cm10g.mono (fun t ht => by omega))
    obtain ⟨τ12, τ12e⟩ : ∃ zz9 : Nat → Int, zz9 = zf τ7 32 (τ7 32 + 1) := ⟨_, rfl⟩
    rw [← τ12e] at cm10m
    have τ12_24 : τ12 24 = τ7 24 := by rw [τ12e]; exact rfl
    have τ12_25 : τ12 25 = τ7 25 := by rw [τ12e]; exact rfl
    have τ12_26 : τ12 26 = τ7 26 := by rw [τ12e]; exact rfl
    have τ12_27 : τ12 27 = τ7 27 := by rw [τ12e]; exact rfl
    have τ12_28 : τ12 28 = τ7 28 := by rw [τ12e]; exact rfl
    have τ12_29 : τ12 29 = τ7 29 := by rw [τ12e]; exact rfl
    have τ12_30 : τ12 30 = τ7 30 := by rw [τ12e]; exact rfl
    have τ12_31 : τ12 31 = τ7 31 := by rw [τ12e]; exact rfl
    have τ12_32 : τ12 32 = τ7 32 + 1 := by rw [τ12e]; exact rfl
    have τ12_33 : τ12 33 = τ7 33 := by rw [τ12e]; exact rfl
    have τ12_36 : τ12 36 = τ7 36 := by rw [τ12e]; exact rfl
    show zG C cm10V 0 0 18 [(0, .ref (c 60))] [.int (zI ((c89f (2 : Int).toNat) + 1))]
    exact zr_iret X rfl ⟨(c89f (2 : Int).toNat) + 1, md, τ12, κ, rfl, cm10m.le (by omega), fx11, ⟨congrArg (fun z9 : Int => z9 + 1) (c892.trans τ7_32), by rw [τ12e, τ7e]⟩⟩ dX8_knock_18
