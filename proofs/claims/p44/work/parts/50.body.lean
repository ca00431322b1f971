/-! the law's body -/
theorem zand63 (x : Int32) : ∃ v : Int, x &&& zI 63 = zI v ∧ 0 ≤ v ∧ v ≤ 63 := by
  have h : (x &&& zI 63).toBitVec.toNat ≤ 63 := by
    rw [Int32.toBitVec_and, BitVec.toNat_and]
    exact Nat.le_trans Nat.and_le_right (by decide)
  have e : (x &&& zI 63).toInt = ((x &&& zI 63).toBitVec.toNat : Int) := by
    show (x &&& zI 63).toBitVec.toInt = _
    exact BitVec.toInt_eq_toNat_of_lt (by omega)
  exact ⟨_, (Int32.ofInt_toInt _).symm, by omega, by omega⟩
set_option maxRecDepth 100000 in
set_option maxHeartbeats 4000000 in
theorem m_X7_init (l : Launch) (Γ : zGam) {V : zV} {b tb : Nat} (hb : V b = some (tb, .inr (8, [.long 0, .null]))) : zM l Γ 2 yX7_init wsX7_init 0 0 V [.ref b] (fun rv V' => rv = none ∧ V' = V) := by
  have w0 : Cond.methodLink RX7 1 objectInit ∈ wsX7_init := by decide +kernel
  have w1 : Cond.instanceMethod objectInit ∈ wsX7_init := by decide +kernel
  have w2 : Cond.code objectInit ⟨#[0xb1]⟩ 1 none ∈ wsX7_init := by decide +kernel
  refine zM_of (cc := cX7_init) (nL := 1) (ret := none) (own := RX7) (by decide +kernel) rfl rfl (Nat.le_of_ble_eq_true rfl) (fun C X hi0 => ?_)
  have hi0 := hi0 rfl
  show zG C V 0 0 0 [(0, .ref b)] []
  refine zr_aload_n X 1 0 dX7_init_0 rfl rfl ?_
  refine zr_objInit X 4 hb rfl w0 w1 w2 (by decide) (Nat.le_of_ble_eq_true rfl) dX7_init_1 rfl ?_
  exact zr_vret X rfl ⟨rfl, rfl⟩ dX7_init_4
set_option maxRecDepth 100000 in
set_option maxHeartbeats 8000000 in
theorem law_body {C : zC} {l : Launch} (hlt : l.stackTraces = false) {Γ : zGam} {Post : Option Value → zV → Prop} (X : zK C l Γ 7 RL cL_law wsL_law 20 (some .boolean) Post) {V : zV} {b L : Nat} {xs : Nat → Int32} (hX : va_X b L xs C.1.2.2.2.2.1 C.1.2.2.2.2.1.heap) (hbl : b < C.1.2.2.2.2.1.heap.size) (hB : Γ.2.2.2 = C.1.2.2.2.2.1.heap.size) (hL : L ≤ 448)
    (fin : ∀ (V' : zV) (kc ks : Nat) (lv : List (Nat × Value)), zG C V' kc ks 2011 lv [.int (zI 1)]) : zG C V 600128 7301098 0 [(0, .ref b)] [] := by
  have w3 : Cond.classLink RL 8 RX6 ∈ wsL_law := by decide +kernel
  have w4 : Cond.instantiable RX6 14 ∈ wsL_law := by decide +kernel
  have w5 : Cond.initialized RX6 ∈ wsL_law := by decide +kernel
  have w6 : Cond.initialized yX6_init.cls ∈ wsL_law := by decide +kernel
  have w7 : Cond.instanceMethod yX6_init ∈ wsL_law := by decide +kernel
  have w8 : Cond.methodLink RL 165 yX6_init ∈ wsL_law := by decide +kernel
  have w9 : Cond.classLink RL 166 RX8 ∈ wsL_law := by decide +kernel
  have w10 : Cond.instantiable RX8 11 ∈ wsL_law := by decide +kernel
  have w11 : Cond.initialized RX8 ∈ wsL_law := by decide +kernel
  have w12 : Cond.initialized yX8_init.cls ∈ wsL_law := by decide +kernel
  have w13 : Cond.instanceMethod yX8_init ∈ wsL_law := by decide +kernel
  have w14 : Cond.methodLink RL 168 yX8_init ∈ wsL_law := by decide +kernel
  have w15 : Cond.classLink RL 14 RX7 ∈ wsL_law := by decide +kernel
  have w16 : Cond.instantiable RX7 2 ∈ wsL_law := by decide +kernel
  have w17 : Cond.initialized RX7 ∈ wsL_law := by decide +kernel
  have w18 : Cond.initialized yX7_init.cls ∈ wsL_law := by decide +kernel
  have w19 : Cond.instanceMethod yX7_init ∈ wsL_law := by decide +kernel
  show zG C V 600128 7301098 0 [(0, .ref b)] []
  refine zr_new (kc' := (600128 - 1)) (ks' := (7301098 - 14)) X 3 7 1 [.null, .null, .null, .null, .null, .null, .null, .null, .null, .null, .int (zI (0)), .int (zI (0)), .int (zI (0)), .int (zI (0))] tyX6 rfl inlX6 tyX6_ok w3 w4 w5 (zdf_X6) dL_law_0 rfl (by omega) (by omega) (fun q1 hq2 => ?_)
  refine zr_dup X 4 dL_law_3 rfl rfl ?_
  refine zr_callI (kc' := ((600128 - 1) - 60)) (ks' := ((7301098 - 14) - 1600)) X 7 0 (m_X6_init l Γ (x := q1) (zu_eq _ _ _ _)) gL_law_X6_init rfl w6 w8 w7 rfl (by decide +kernel) rfl (by decide) rfl (Nat.le_of_ble_eq_true rfl) dL_law_4 rfl (by omega) (by omega) (fun rv V1 hp1 => ?_)
  obtain ⟨he1, ad, had, hS1, hf1⟩ := hp1
  rw [he1]
  subst had
  show zG C V1 ((600128 - 1) - 60) ((7301098 - 14) - 1600) 7 [(0, .ref b)] [.ref (ad 1)]
  refine zr_astore_n X 8 [(1, .ref (ad 1)), (0, .ref b)] dL_law_7 rfl (by decide) rfl ?_
  refine zr_new (kc' := (((600128 - 1) - 60) - 1)) (ks' := (((7301098 - 14) - 1600) - 11)) X 11 9 60 [.null, .int (zI (0)), .null, .null, .null, .null, .int (zI (0)), .int (zI (0)), .int (zI (0)), .null, .int (zI (0))] tyX8 rfl inlX8 tyX8_ok w9 w10 w11 (zdf_X8) dL_law_8 rfl (by omega) (by omega) (fun q3 hq4 => ?_)
  refine zr_dup X 12 dL_law_11 rfl rfl ?_
  have hS1b := hS1.kept (zag.rf.new (P := zal) (t := 60) (e := .inr (9, [.null, .int (zI (0)), .null, .null, .null, .null, .int (zI (0)), .int (zI (0)), .int (zI (0)), .null, .int (zI (0))])) hq4) (fun _ _ _ _ => trivial)
  refine zr_callI (kc' := ((((600128 - 1) - 60) - 1) - 12)) (ks' := ((((7301098 - 14) - 1600) - 11) - 410)) X 15 0 (m_X8_init l Γ (x := q3) (zu_eq _ _ _ _)) gL_law_X8_init rfl w12 w14 w13 rfl (by decide +kernel) rfl (by decide) rfl (Nat.le_of_ble_eq_true rfl) dL_law_12 rfl (by omega) (by omega) (fun rv V2 hp2 => ?_)
  obtain ⟨he2, cc, md0, κ0, hcc, hM2, hf2⟩ := hp2
  rw [he2]
  have hS2 := hS1b.kept hf2 (fun t a1 a2 a3 => ⟨by omega, a3⟩)
  subst hcc
  show zG C V2 ((((600128 - 1) - 60) - 1) - 12) ((((7301098 - 14) - 1600) - 11) - 410) 15 [(1, .ref (ad 1)), (0, .ref b)] [.ref (cc 60)]
  refine zr_astore_n X 16 [(2, .ref (cc 60)), (1, .ref (ad 1)), (0, .ref b)] dL_law_15 rfl (by decide) rfl ?_
  refine zr_new (kc' := (((((600128 - 1) - 60) - 1) - 12) - 1)) (ks' := (((((7301098 - 14) - 1600) - 11) - 410) - 2)) X 19 8 5 [.long 0, .null] tyX7 rfl inlX7 tyX7_ok w15 w16 w17 (zdf_X7) dL_law_16 rfl (by omega) (by omega) (fun q5 hq6 => ?_)
  refine zr_dup X 20 dL_law_19 rfl rfl ?_
  have hS3 := hS2.kept (zag.rf.new (P := zal) (t := 5) (e := .inr (8, [.long 0, .null])) hq6) (fun _ _ _ _ => trivial)
  have hM3 := hM2.kept (zag.rf.new (P := zal) (t := 5) (e := .inr (8, [.long 0, .null])) hq6) (fun _ _ _ => trivial)
  have hO3 : zOut (zu V2 q5 5 (.inr (8, [.long 0, .null]))) q5 := ⟨0, .null, zu_eq _ _ _ _, Or.inl rfl⟩
  refine zr_callIN (kc' := ((((((600128 - 1) - 60) - 1) - 12) - 1) - 0)) (ks' := ((((((7301098 - 14) - 1600) - 11) - 410) - 2) - 0)) X 23 0 7 (m_X7_init l Γ (b := q5) (zu_eq _ _ _ _)) gL_law_X7_init_n169 rfl w18 rfl w19 rfl (by decide +kernel) rfl (by decide) rfl (Nat.le_of_ble_eq_true rfl) dL_law_20 rfl (by omega) (by omega) (fun rv V3 hp3 => ?_)
  obtain ⟨he3, hv3⟩ := hp3
  rw [he3, hv3]
  obtain ⟨V4, hV4⟩ : ∃ z9 : zV, z9 = (zu V2 q5 5 (.inr (8, [.long 0, .null]))) := ⟨_, rfl⟩
  rw [← hV4] at hS3 hM3 hO3
  rw [← hV4]
  show zG C V4 ((((((600128 - 1) - 60) - 1) - 12) - 1) - 0) ((((((7301098 - 14) - 1600) - 11) - 410) - 2) - 0) 23 [(2, .ref (cc 60)), (1, .ref (ad 1)), (0, .ref b)] [.ref q5]
  refine zr_astore_n X 24 [(3, .ref q5), (2, .ref (cc 60)), (1, .ref (ad 1)), (0, .ref b)] dL_law_23 rfl (by decide) rfl ?_
  refine zr_iconst X 25 dL_law_24 rfl ?_
  refine zr_istore X 27 [(4, .int (zI (0))), (3, .ref q5), (2, .ref (cc 60)), (1, .ref (ad 1)), (0, .ref b)] dL_law_25 rfl (by decide) rfl ?_
  refine zr_room (6200 * 65) (12800 * 65) (by omega) (by omega) ?_
  have loop : ∀ (N : Nat) (V5 : zV) (σ τ κ : Nat → Int) (md : Nat → Nat) (t : Nat), zLw Γ V5 ad cc md σ τ κ (72 + 40 * (t : Int)) q5 ∧ 0 ≤ σ 32 ∧ σ 32 ≤ (t : Int) ∧ 7 * t ≤ L → 65 - t = N → zG C V5 (6200 * (65 - t)) (12800 * (65 - t)) 27 [(4, .int (zI (7 * (t : Int)))), (3, .ref q5), (2, .ref (cc 60)), (1, .ref (ad 1)), (0, .ref b)] [] := by
    intro N
    induction N using Nat.strongRecOn with
    | _ N ih =>
    intro V5 σ τ κ md t hI hN
    obtain ⟨⟨hS, hM, hO, hA⟩, hk0, hk1, ht⟩ := hI
    refine zr_iload X 29 0 dL_law_27 rfl rfl ?_
    refine zr_aload_n X 30 4 dL_law_29 rfl rfl ?_
    refine zr_slen X 31 hX hbl hB dL_law_30 rfl ?_
    refine zr_bipush X 33 (7) dL_law_31 rfl (by decide) ?_
    refine zr_isub X 34 dL_law_33 rfl ?_
    refine zr_icmp_gt X 2010 37 dL_law_34 rfl rfl (by omega) (by omega) (fun hq => ?_) (fun hq => ?_)
    · refine zr_iconst X 2011 dL_law_2010 rfl ?_
      exact fin _ _ _ _
    · refine zr_aload_n X 38 4 dL_law_37 rfl rfl ?_
      refine zr_iload X 40 0 dL_law_38 rfl rfl ?_
      refine zr_sld X 41 hX hbl hB (by omega) dL_law_40 rfl ?_
      refine zr_bipush X 43 (63) dL_law_41 rfl (by decide) ?_
      refine zr_iand X 44 dL_law_43 rfl ?_
      obtain ⟨v, hv, hv0⟩ := zand63 (xs (7 * (t : Int)).toNat)
      rw [hv]
      have next : ∀ (V6 : zV) (σ2 : Nat → Int) (md2 : Nat → Nat) (τ2 κ2 : Nat → Int), zLw Γ V6 ad cc md2 σ2 τ2 κ2 (72 + 40 * (t : Int) + 40) q5 → (σ2 32 = σ 32 ∨ σ2 32 = σ 32 + 1) → zG C V6 (6200 * (65 - (t + 1))) (12800 * (65 - (t + 1))) 2004 [(4, .int (zI (7 * (t : Int)))), (3, .ref q5), (2, .ref (cc 60)), (1, .ref (ad 1)), (0, .ref b)] [] := by
        intro V6 σ2 md2 τ2 κ2 h6 h7
        refine zr_iinc X 2007 0 [(4, .int (zI (7 * (t : Int) + 7))), (3, .ref q5), (2, .ref (cc 60)), (1, .ref (ad 1)), (0, .ref b)] dL_law_2004 rfl rfl (by decide) rfl ?_
        refine zr_goto X 27 dL_law_2007 rfl ?_
        have e8 : (7 * (t : Int) + 7) = 7 * ((t + 1 : Nat) : Int) := by omega
        have e9 : (72 + 40 * (t : Int) + 40) = 72 + 40 * ((t + 1 : Nat) : Int) := by omega
        rw [e8]
        rw [e9] at h6
        exact ih _ (by omega) V6 σ2 τ2 κ2 md2 (t + 1) ⟨h6, by omega, by omega, by omega⟩ rfl
      rcases (by omega : v = 0 ∨ v = 1 ∨ v = 2 ∨ v = 3 ∨ v = 4 ∨ v = 5 ∨ v = 6 ∨ v = 7 ∨ v = 8 ∨ v = 9 ∨ v = 10 ∨ v = 11 ∨ v = 12 ∨ v = 13 ∨ v = 14 ∨ v = 15 ∨ v = 16 ∨ v = 17 ∨ v = 18 ∨ v = 19 ∨ v = 20 ∨ v = 21 ∨ v = 22 ∨ v = 23 ∨ v = 24 ∨ v = 25 ∨ v = 26 ∨ v = 27 ∨ v = 28 ∨ v = 29 ∨ v = 30 ∨ v = 31 ∨ v = 32 ∨ v = 33 ∨ v = 34 ∨ v = 35 ∨ v = 36 ∨ v = 37 ∨ v = 38 ∨ v = 39 ∨ v = 40 ∨ v = 41 ∨ v = 42 ∨ v = 43 ∨ v = 44 ∨ v = 45 ∨ v = 46 ∨ v = 47 ∨ v = 48 ∨ ¬ (0 ≤ v ∧ v < 49)) with hw | hw | hw | hw | hw | hw | hw | hw | hw | hw | hw | hw | hw | hw | hw | hw | hw | hw | hw | hw | hw | hw | hw | hw | hw | hw | hw | hw | hw | hw | hw | hw | hw | hw | hw | hw | hw | hw | hw | hw | hw | hw | hw | hw | hw | hw | hw | hw | hw | hw
      · refine zr_tsIn X 256 0 hw (by decide) dL_law_44 (by decide) (by decide) rfl rfl ?_
        exact lc_allocate hlt X hX hbl hB ⟨by omega, by omega, hL⟩ hS hM hO hA (by omega) ⟨hk0, by omega⟩ (by omega) (by omega) next
      · refine zr_tsIn X 296 1 hw (by decide) dL_law_44 (by decide) (by decide) rfl rfl ?_
        exact lc_slice hlt X hX hbl hB ⟨by omega, by omega, hL⟩ hS hM hO hA (by omega) ⟨hk0, by omega⟩ (by omega) (by omega) next
      · refine zr_tsIn X 336 2 hw (by decide) dL_law_44 (by decide) (by decide) rfl rfl ?_
        exact lc_duplicate hlt X hX hbl hB ⟨by omega, by omega, hL⟩ hS hM hO hA (by omega) ⟨hk0, by omega⟩ (by omega) (by omega) next
      · refine zr_tsIn X 376 3 hw (by decide) dL_law_44 (by decide) (by decide) rfl rfl ?_
        exact lc_part hlt X hX hbl hB ⟨by omega, by omega, hL⟩ hS hM hO hA (by omega) ⟨hk0, by omega⟩ (by omega) (by omega) next
      · refine zr_tsIn X 440 4 hw (by decide) dL_law_44 (by decide) (by decide) rfl rfl ?_
        exact lc_put hlt X hX hbl hB ⟨by omega, by omega, hL⟩ hS hM hO hA (by omega) ⟨hk0, by omega⟩ (by omega) (by omega) next
      · refine zr_tsIn X 480 5 hw (by decide) dL_law_44 (by decide) (by decide) rfl rfl ?_
        exact lc_run hlt X hX hbl hB ⟨by omega, by omega, hL⟩ hS hM hO hA (by omega) ⟨hk0, by omega⟩ (by omega) (by omega) next
      · refine zr_tsIn X 544 6 hw (by decide) dL_law_44 (by decide) (by decide) rfl rfl ?_
        exact lc_write hlt X hX hbl hB ⟨by omega, by omega, hL⟩ hS hM hO hA (by omega) ⟨hk0, by omega⟩ (by omega) (by omega) next
      · refine zr_tsIn X 596 7 hw (by decide) dL_law_44 (by decide) (by decide) rfl rfl ?_
        exact lc_get hlt X hX hbl hB ⟨by omega, by omega, hL⟩ hS hM hO hA (by omega) ⟨hk0, by omega⟩ (by omega) (by omega) next
      · refine zr_tsIn X 624 8 hw (by decide) dL_law_44 (by decide) (by decide) rfl rfl ?_
        exact lc_read hlt X hX hbl hB ⟨by omega, by omega, hL⟩ hS hM hO hA (by omega) ⟨hk0, by omega⟩ (by omega) (by omega) next
      · refine zr_tsIn X 664 9 hw (by decide) dL_law_44 (by decide) (by decide) rfl rfl ?_
        exact lc_pour hlt X hX hbl hB ⟨by omega, by omega, hL⟩ hS hM hO hA (by omega) ⟨hk0, by omega⟩ (by omega) (by omega) next
      · refine zr_tsIn X 716 10 hw (by decide) dL_law_44 (by decide) (by decide) rfl rfl ?_
        exact lc_mark hlt X hX hbl hB ⟨by omega, by omega, hL⟩ hS hM hO hA (by omega) ⟨hk0, by omega⟩ (by omega) (by omega) next
      · refine zr_tsIn X 744 11 hw (by decide) dL_law_44 (by decide) (by decide) rfl rfl ?_
        exact lc_reset hlt X hX hbl hB ⟨by omega, by omega, hL⟩ hS hM hO hA (by omega) ⟨hk0, by omega⟩ (by omega) (by omega) next
      · refine zr_tsIn X 772 12 hw (by decide) dL_law_44 (by decide) (by decide) rfl rfl ?_
        exact lc_rewind hlt X hX hbl hB ⟨by omega, by omega, hL⟩ hS hM hO hA (by omega) ⟨hk0, by omega⟩ (by omega) (by omega) next
      · refine zr_tsIn X 800 13 hw (by decide) dL_law_44 (by decide) (by decide) rfl rfl ?_
        exact lc_flip hlt X hX hbl hB ⟨by omega, by omega, hL⟩ hS hM hO hA (by omega) ⟨hk0, by omega⟩ (by omega) (by omega) next
      · refine zr_tsIn X 828 14 hw (by decide) dL_law_44 (by decide) (by decide) rfl rfl ?_
        exact lc_compact hlt X hX hbl hB ⟨by omega, by omega, hL⟩ hS hM hO hA (by omega) ⟨hk0, by omega⟩ (by omega) (by omega) next
      · refine zr_tsIn X 856 15 hw (by decide) dL_law_44 (by decide) (by decide) rfl rfl ?_
        exact lc_open hlt X hX hbl hB ⟨by omega, by omega, hL⟩ hS hM hO hA (by omega) ⟨hk0, by omega⟩ (by omega) (by omega) next
      · refine zr_tsIn X 884 16 hw (by decide) dL_law_44 (by decide) (by decide) rfl rfl ?_
        exact lc_keep hlt X hX hbl hB ⟨by omega, by omega, hL⟩ hS hM hO hA (by omega) ⟨hk0, by omega⟩ (by omega) (by omega) next
      · refine zr_tsIn X 912 17 hw (by decide) dL_law_44 (by decide) (by decide) rfl rfl ?_
        exact lc_load hlt X hX hbl hB ⟨by omega, by omega, hL⟩ hS hM hO hA (by omega) ⟨hk0, by omega⟩ (by omega) (by omega) next
      · refine zr_tsIn X 940 18 hw (by decide) dL_law_44 (by decide) (by decide) rfl rfl ?_
        exact lc_build hlt X hX hbl hB ⟨by omega, by omega, hL⟩ hS hM hO hA (by omega) ⟨hk0, by omega⟩ (by omega) (by omega) next
      · refine zr_tsIn X 968 19 hw (by decide) dL_law_44 (by decide) (by decide) rfl rfl ?_
        exact lc_turn hlt X hX hbl hB ⟨by omega, by omega, hL⟩ hS hM hO hA (by omega) ⟨hk0, by omega⟩ (by omega) (by omega) next
      · refine zr_tsIn X 981 20 hw (by decide) dL_law_44 (by decide) (by decide) rfl rfl ?_
        exact lc_change hlt X hX hbl hB ⟨by omega, by omega, hL⟩ hS hM hO hA (by omega) ⟨hk0, by omega⟩ (by omega) (by omega) next
      · refine zr_tsIn X 1021 21 hw (by decide) dL_law_44 (by decide) (by decide) rfl rfl ?_
        exact lc_pipe hlt X hX hbl hB ⟨by omega, by omega, hL⟩ hS hM hO hA (by omega) ⟨hk0, by omega⟩ (by omega) (by omega) next
      · refine zr_tsIn X 1049 22 hw (by decide) dL_law_44 (by decide) (by decide) rfl rfl ?_
        exact lc_feed hlt X hX hbl hB ⟨by omega, by omega, hL⟩ hS hM hO hA (by omega) ⟨hk0, by omega⟩ (by omega) (by omega) next
      · refine zr_tsIn X 1089 23 hw (by decide) dL_law_44 (by decide) (by decide) rfl rfl ?_
        exact lc_drain hlt X hX hbl hB ⟨by omega, by omega, hL⟩ hS hM hO hA (by omega) ⟨hk0, by omega⟩ (by omega) (by omega) next
      · refine zr_tsIn X 1117 24 hw (by decide) dL_law_44 (by decide) (by decide) rfl rfl ?_
        exact lc_pump hlt X hX hbl hB ⟨by omega, by omega, hL⟩ hS hM hO hA (by omega) ⟨hk0, by omega⟩ (by omega) (by omega) next
      · refine zr_tsIn X 1169 25 hw (by decide) dL_law_44 (by decide) (by decide) rfl rfl ?_
        exact lc_left hlt X hX hbl hB ⟨by omega, by omega, hL⟩ hS hM hO hA (by omega) ⟨hk0, by omega⟩ (by omega) (by omega) next
      · refine zr_tsIn X 1209 26 hw (by decide) dL_law_44 (by decide) (by decide) rfl rfl ?_
        exact lc_position hlt X hX hbl hB ⟨by omega, by omega, hL⟩ hS hM hO hA (by omega) ⟨hk0, by omega⟩ (by omega) (by omega) next
      · refine zr_tsIn X 1237 27 hw (by decide) dL_law_44 (by decide) (by decide) rfl rfl ?_
        exact lc_limit hlt X hX hbl hB ⟨by omega, by omega, hL⟩ hS hM hO hA (by omega) ⟨hk0, by omega⟩ (by omega) (by omega) next
      · refine zr_tsIn X 1265 28 hw (by decide) dL_law_44 (by decide) (by decide) rfl rfl ?_
        exact lc_capacity hlt X hX hbl hB ⟨by omega, by omega, hL⟩ hS hM hO hA (by omega) ⟨hk0, by omega⟩ (by omega) (by omega) next
      · refine zr_tsIn X 1293 29 hw (by decide) dL_law_44 (by decide) (by decide) rfl rfl ?_
        exact lc_marked hlt X hX hbl hB ⟨by omega, by omega, hL⟩ hS hM hO hA (by omega) ⟨hk0, by omega⟩ (by omega) (by omega) next
      · refine zr_tsIn X 1321 30 hw (by decide) dL_law_44 (by decide) (by decide) rfl rfl ?_
        exact lc_sign hlt X hX hbl hB ⟨by omega, by omega, hL⟩ hS hM hO hA (by omega) ⟨hk0, by omega⟩ (by omega) (by omega) next
      · refine zr_tsIn X 1361 31 hw (by decide) dL_law_44 (by decide) (by decide) rfl rfl ?_
        exact lc_look hlt X hX hbl hB ⟨by omega, by omega, hL⟩ hS hM hO hA (by omega) ⟨hk0, by omega⟩ (by omega) (by omega) next
      · refine zr_tsIn X 1401 32 hw (by decide) dL_law_44 (by decide) (by decide) rfl rfl ?_
        exact lc_text hlt X hX hbl hB ⟨by omega, by omega, hL⟩ hS hM hO hA (by omega) ⟨hk0, by omega⟩ (by omega) (by omega) next
      · refine zr_tsIn X 1441 33 hw (by decide) dL_law_44 (by decide) (by decide) rfl rfl ?_
        exact lc_inner hlt X hX hbl hB ⟨by omega, by omega, hL⟩ hS hM hO hA (by omega) ⟨hk0, by omega⟩ (by omega) (by omega) next
      · refine zr_tsIn X 1531 34 hw (by decide) dL_law_44 (by decide) (by decide) rfl rfl ?_
        exact lc_first hlt X hX hbl hB ⟨by omega, by omega, hL⟩ hS hM hO hA (by omega) ⟨hk0, by omega⟩ (by omega) (by omega) next
      · refine zr_tsIn X 1571 35 hw (by decide) dL_law_44 (by decide) (by decide) rfl rfl ?_
        exact lc_last hlt X hX hbl hB ⟨by omega, by omega, hL⟩ hS hM hO hA (by omega) ⟨hk0, by omega⟩ (by omega) (by omega) next
      · refine zr_tsIn X 1611 36 hw (by decide) dL_law_44 (by decide) (by decide) rfl rfl ?_
        exact lc_count hlt X hX hbl hB ⟨by omega, by omega, hL⟩ hS hM hO hA (by omega) ⟨hk0, by omega⟩ (by omega) (by omega) next
      · refine zr_tsIn X 1651 37 hw (by decide) dL_law_44 (by decide) (by decide) rfl rfl ?_
        exact lc_place hlt X hX hbl hB ⟨by omega, by omega, hL⟩ hS hM hO hA (by omega) ⟨hk0, by omega⟩ (by omega) (by omega) next
      · refine zr_tsIn X 1703 38 hw (by decide) dL_law_44 (by decide) (by decide) rfl rfl ?_
        exact lc_border hlt X hX hbl hB ⟨by omega, by omega, hL⟩ hS hM hO hA (by omega) ⟨hk0, by omega⟩ (by omega) (by omega) next
      · refine zr_tsIn X 1731 39 hw (by decide) dL_law_44 (by decide) (by decide) rfl rfl ?_
        exact lc_borders hlt X hX hbl hB ⟨by omega, by omega, hL⟩ hS hM hO hA (by omega) ⟨hk0, by omega⟩ (by omega) (by omega) next
      · refine zr_tsIn X 1759 40 hw (by decide) dL_law_44 (by decide) (by decide) rfl rfl ?_
        exact lc_chain hlt X hX hbl hB ⟨by omega, by omega, hL⟩ hS hM hO hA (by omega) ⟨hk0, by omega⟩ (by omega) (by omega) next
      · refine zr_tsIn X 1787 41 hw (by decide) dL_law_44 (by decide) (by decide) rfl rfl ?_
        exact lc_differ hlt X hX hbl hB ⟨by omega, by omega, hL⟩ hS hM hO hA (by omega) ⟨hk0, by omega⟩ (by omega) (by omega) next
      · refine zr_tsIn X 1827 42 hw (by decide) dL_law_44 (by decide) (by decide) rfl rfl ?_
        exact lc_known hlt X hX hbl hB ⟨by omega, by omega, hL⟩ hS hM hO hA (by omega) ⟨hk0, by omega⟩ (by omega) (by omega) next
      · refine zr_tsIn X 1896 43 hw (by decide) dL_law_44 (by decide) (by decide) rfl rfl ?_
        exact lc_held hlt X hX hbl hB ⟨by omega, by omega, hL⟩ hS hM hO hA (by omega) ⟨hk0, by omega⟩ (by omega) (by omega) next
      · refine zr_tsIn X 1909 44 hw (by decide) dL_law_44 (by decide) (by decide) rfl rfl ?_
        exact lc_travelled hlt X hX hbl hB ⟨by omega, by omega, hL⟩ hS hM hO hA (by omega) ⟨hk0, by omega⟩ (by omega) (by omega) next
      · refine zr_tsIn X 1937 45 hw (by decide) dL_law_44 (by decide) (by decide) rfl rfl ?_
        exact lc_house hlt X hX hbl hB ⟨by omega, by omega, hL⟩ hS hM hO hA (by omega) ⟨hk0, by omega⟩ (by omega) (by omega) next
      · refine zr_tsIn X 1965 46 hw (by decide) dL_law_44 (by decide) (by decide) rfl rfl ?_
        exact lc_knock hlt X hX hbl hB ⟨by omega, by omega, hL⟩ hS hM hO hA (by omega) ⟨hk0, by omega⟩ (by omega) (by omega) next
      · refine zr_tsIn X 1978 47 hw (by decide) dL_law_44 (by decide) (by decide) rfl rfl ?_
        exact lc_isSound hlt X hX hbl hB ⟨by omega, by omega, hL⟩ hS hM hO hA (by omega) ⟨hk0, by omega⟩ (by omega) (by omega) next
      · refine zr_tsIn X 1991 48 hw (by decide) dL_law_44 (by decide) (by decide) rfl rfl ?_
        exact lc_digest hlt X hX hbl hB ⟨by omega, by omega, hL⟩ hS hM hO hA (by omega) ⟨hk0, by omega⟩ (by omega) (by omega) next
      · refine zr_tsOut X 2004 (by omega) dL_law_44 (by omega) rfl ?_
        refine zr_room (6200 * (65 - (t + 1))) (12800 * (65 - (t + 1))) (by omega) (by omega) ?_
        exact next V5 σ md τ κ ⟨hS, hM.le (by omega), hO, hA⟩ (Or.inl rfl)
  exact loop _ V4 zs0 zs0 κ0 md0 0 ⟨⟨hS3, hM3, hO3, zA6.of rfl rfl⟩, by decide, by decide, by omega⟩ rfl
