/-! Sashwords: builder, kept text, searches -/
theorem zr_tsIn {C : zC} {l0 : Launch} {Γ0 : zGam} {n0 : Nat} {own : String} {cc : ByteArray} {ws : List Cond} {d : Nat} {ret : Option FieldType} {Post : Option Value → zV → Prop} {V : zV} {kc ks pc : Nat} {lv : List (Nat × Value)} {rest : List Value} (X : zK C l0 Γ0 n0 own cc ws d ret Post) (n' : Nat) (v : Int) {x dflt lo hi off : Int} {offs : Array Int} {len : Nat} (hv : x = v) (hr : -2147483648 ≤ v ∧ v ≤ 2147483647) (hdg : decode cc pc = .ok (.tableswitch dflt lo hi offs, len)) (h1 : lo ≤ v) (h2 : v ≤ hi) (ho : offs[(v - lo).toNat]? = some off) (ht : (pc : Int) + off = (n' : Int)) (kk : zG C V kc ks n' lv rest) : zG C V kc ks pc lv (.int (zI x) :: rest) := by
  obtain ⟨⟨p, l, e, R, s, m, args, below, meth, c⟩, Γ, ⟨nL, mc, ms⟩, Q⟩ := C
  obtain ⟨hx, hb, hml, hown, hts, hO, hB0, hlk, hret, hmc, hms, hdf, hdl, hQ, rfl, rfl, rfl⟩ := X
  subst hv
  intro H locs cells slots ls hV hS hl hcc hs
  have e : (zI x).toInt = x := zI_toInt x hr
  exact lv_tableIn hx hb hdg (by rw [e]; omega) (by rw [e]; omega) (by rw [e]; exact ho) ht (kk H locs cells slots ls hV hS hl hcc hs)
theorem zr_tsOut {C : zC} {l0 : Launch} {Γ0 : zGam} {n0 : Nat} {own : String} {cc : ByteArray} {ws : List Cond} {d : Nat} {ret : Option FieldType} {Post : Option Value → zV → Prop} {V : zV} {kc ks pc : Nat} {lv : List (Nat × Value)} {rest : List Value} (X : zK C l0 Γ0 n0 own cc ws d ret Post) (n' : Nat) {x dflt lo hi : Int} {offs : Array Int} {len : Nat} (hr : -2147483648 ≤ x ∧ x ≤ 2147483647) (hdg : decode cc pc = .ok (.tableswitch dflt lo hi offs, len)) (h1 : x < lo ∨ hi < x) (ht : (pc : Int) + dflt = (n' : Int)) (kk : zG C V kc ks n' lv rest) : zG C V kc ks pc lv (.int (zI x) :: rest) := by
  obtain ⟨⟨p, l, e, R, s, m, args, below, meth, c⟩, Γ, ⟨nL, mc, ms⟩, Q⟩ := C
  obtain ⟨hx, hb, hml, hown, hts, hO, hB0, hlk, hret, hmc, hms, hdf, hdl, hQ, rfl, rfl, rfl⟩ := X
  intro H locs cells slots ls hV hS hl hcc hs
  have e : (zI x).toInt = x := zI_toInt x hr
  exact lv_tableOut hx hb hdg (by rw [e]; exact h1) ht (kk H locs cells slots ls hV hS hl hcc hs)
theorem zso6 {ad : Nat → Nat} : zso ad 6 = ad 20 := by
  unfold zso
  rw [if_neg (by omega), if_pos rfl]
theorem zso7 {ad : Nat → Nat} : zso ad 7 = ad 22 := by
  unfold zso
  rw [if_neg (by omega), if_neg (by omega)]
theorem zsz6 {σ : Nat → Int} : zsz σ 6 = σ 24 := by
  unfold zsz
  rw [if_neg (by omega), if_pos rfl]
theorem zsz7 {σ : Nat → Int} : zsz σ 7 = σ 25 := by
  unfold zsz
  rw [if_neg (by omega), if_neg (by omega)]
theorem zr_getNs {C : zC} {l0 : Launch} {Γ0 : zGam} {n0 : Nat} {own : String} {cc : ByteArray} {ws : List Cond} {d : Nat} {ret : Option FieldType} {Post : Option Value → zV → Prop} {V : zV} {kc ks pc : Nat} {lv : List (Nat × Value)} {rest : List Value} (X : zK C l0 Γ0 n0 own cc ws d ret Post) (n' : Nat) {index tk k tp pl bo : Nat} (hw : zSk Γ0 V tk k tp pl bo) (hin : ∀ w ∈ u_ws RX3 TX3 3, w ∈ ws) (hz : zxf[8]? = some (own, index, "Sashwords$Seeker", (TX3 2).2.1, (TX3 2).2.2.1, "Sashwords")) (hdg : decode cc pc = .ok (.getfield index, 3)) (hn : pc + 3 = n') (kk : ∀ v : Int, 0 ≤ v ∧ v ≤ 81 → zG C V kc ks n' lv (.int (zI v) :: rest)) : zG C V kc ks pc lv (.ref k :: rest) := by
  obtain ⟨mn, pf, h1, h2, h3, h4, h5⟩ := hw
  exact zr_getN X n' 5 2 8 h1 rfl hin (by decide) hz rfl rfl hdg hn (kk mn ⟨h4, h5⟩)
theorem zr_getNb {C : zC} {l0 : Launch} {Γ0 : zGam} {n0 : Nat} {own : String} {cc : ByteArray} {ws : List Cond} {d : Nat} {ret : Option FieldType} {Post : Option Value → zV → Prop} {V : zV} {kc ks pc : Nat} {lv : List (Nat × Value)} {rest : List Value} (X : zK C l0 Γ0 n0 own cc ws d ret Post) (n' : Nat) {index tt t ta ga tc ca : Nat} (hw : zBo Γ0 V tt t ta ga tc ca) (hin : ∀ w ∈ u_ws RX0 TX0 3, w ∈ ws) (hz : zxf[7]? = some (own, index, "Sashwords$Borders", (TX0 2).2.1, (TX0 2).2.2.1, "Sashwords")) (hdg : decode cc pc = .ok (.getfield index, 3)) (hn : pc + 3 = n') (kk : ∀ v : Int, 0 ≤ v ∧ v ≤ 80 → zG C V kc ks n' lv (.int (zI v) :: rest)) : zG C V kc ks pc lv (.ref t :: rest) := by
  obtain ⟨lk, gf, cf, h1, h2, h3, h4, h5, h6, h7⟩ := hw
  exact zr_getN X n' 2 2 7 h1 rfl hin (by decide) hz rfl rfl hdg hn (kk lk ⟨h6, h7⟩)
set_option maxRecDepth 100000 in
set_option maxHeartbeats 4000000 in
theorem m_X6_firstUnlike (l : Launch) (Γ : zGam) {V : zV} {o1 r1 o2 r2 : Nat} {m1 m2 mx : Int} {h1 h2 : Int → Int} (hT1 : zTx Γ V o1 r1 m1 h1) (hT2 : zTx Γ V o2 r2 m2 h2) (hmx : mx = if m1 < m2 then m2 else m1) : zM l Γ 4 yX6_firstUnlike wsX6_firstUnlike 0 0 V [.ref o1, .ref o2] (fun rv V' => (∃ y : Int, rv = some (.int (zI y)) ∧ -1 ≤ y ∧ y ≤ 1000) ∧ V' = V) := by
  have hTr1 := hT1.rg
  have hTr2 := hT2.rg
  have hmr : 0 ≤ mx ∧ mx ≤ 1000 := by rw [hmx]; split <;> omega
  have w0 : Cond.methodLink RX6 344 Lib.Math.max.name ∈ wsX6_firstUnlike := by decide +kernel
  have w1 : Cond.static Lib.Math.max.name ∈ wsX6_firstUnlike := by decide +kernel
  have w2 : Cond.initialized "java/lang/Math" ∈ wsX6_firstUnlike := by decide +kernel
  have w3 : Cond.code Lib.Math.max.name Lib.Math.max.code 2 (some .int) ∈ wsX6_firstUnlike := by decide +kernel
  refine zM_of (cc := cX6_firstUnlike) (nL := 4) (ret := (some .int)) (own := RX6) (by decide +kernel) rfl rfl (Nat.le_of_ble_eq_true rfl) (fun C X hi0 => ?_)
  show zG C V 0 0 0 [(0, .ref o1), (1, .ref o2)] []
  refine zr_aload_n X 1 0 dX6_firstUnlike_0 rfl rfl ?_
  refine zr_txSize X 4 hT1 gX6_firstUnlike_X5_size_u165X5 gX6_firstUnlike_X2_size_u165X2 (by decide) (Nat.le_of_ble_eq_true rfl) dX6_firstUnlike_1 rfl ?_
  refine zr_aload_n X 5 1 dX6_firstUnlike_4 rfl rfl ?_
  refine zr_txSize X 8 hT2 gX6_firstUnlike_X5_size_u165X5 gX6_firstUnlike_X2_size_u165X2 (by decide) (Nat.le_of_ble_eq_true rfl) dX6_firstUnlike_5 rfl ?_
  refine zr_mmax X 11 (mx) w0 w1 w2 w3 (by decide) (Nat.le_of_ble_eq_true rfl) (by omega) (by omega) (by split <;> omega) dX6_firstUnlike_8 rfl ?_
  refine zr_istore_n X 12 [(2, .int (zI (mx))), (0, .ref o1), (1, .ref o2)] dX6_firstUnlike_11 rfl (by decide) rfl ?_
  refine zr_iconst X 13 dX6_firstUnlike_12 rfl ?_
  refine zr_istore_n X 14 [(3, .int (zI (0))), (2, .int (zI (mx))), (0, .ref o1), (1, .ref o2)] dX6_firstUnlike_13 rfl (by decide) rfl ?_
  refine zr_sub [0, 1, 3, 2] [(3, .int (zI (0))), (2, .int (zI (mx))), (1, .ref o2), (0, .ref o1)] rfl ?_
  have loop : ∀ (N : Nat) (k : Int), 0 ≤ k ∧ k ≤ mx → (mx - k).toNat = N → zG C V 0 0 14 [(3, .int (zI (k))), (2, .int (zI (mx))), (1, .ref o2), (0, .ref o1)] [] := by
    intro N
    induction N using Nat.strongRecOn with
    | _ N ih =>
    intro k hI hN
    obtain ⟨hI1, hI2⟩ := id hI
    refine zr_iload_n X 15 0 dX6_firstUnlike_14 rfl rfl ?_
    refine zr_iload_n X 16 1 dX6_firstUnlike_15 rfl rfl ?_
    refine zr_icmp_ge X 40 19 dX6_firstUnlike_16 rfl rfl (by omega) (by omega) (fun bq1 => ?_) (fun bq1 => ?_)
    · refine zr_iconst X 41 dX6_firstUnlike_40 rfl ?_
      exact zr_iret X rfl ⟨⟨-1, rfl, by omega, by omega⟩, rfl⟩ dX6_firstUnlike_41
    · refine zr_aload_n X 20 3 dX6_firstUnlike_19 rfl rfl ?_
      refine zr_iload_n X 21 0 dX6_firstUnlike_20 rfl rfl ?_
      refine zr_txAt X 24 hT1 (by omega) gX6_firstUnlike_X5_at_u334X5 gX6_firstUnlike_X2_at_u334X2 (by decide) (Nat.le_of_ble_eq_true rfl) dX6_firstUnlike_21 rfl ?_
      obtain ⟨x2, hx2, hx2a, hx2b, hx2c⟩ := zTx_if (m := m1) hTr1.2.2 k
      rw [hx2]
      show zG C V 0 0 24 [(3, .int (zI (k))), (2, .int (zI (mx))), (1, .ref o2), (0, .ref o1)] [.int (zI (x2))]
      refine zr_aload_n X 25 2 dX6_firstUnlike_24 rfl rfl ?_
      refine zr_iload_n X 26 0 dX6_firstUnlike_25 rfl rfl ?_
      refine zr_txAt X 29 hT2 (by omega) gX6_firstUnlike_X5_at_u334X5 gX6_firstUnlike_X2_at_u334X2 (by decide) (Nat.le_of_ble_eq_true rfl) dX6_firstUnlike_26 rfl ?_
      obtain ⟨x3, hx3, hx3a, hx3b, hx3c⟩ := zTx_if (m := m2) hTr2.2.2 k
      rw [hx3]
      show zG C V 0 0 29 [(3, .int (zI (k))), (2, .int (zI (mx))), (1, .ref o2), (0, .ref o1)] [.int (zI (x3)), .int (zI (x2))]
      refine zr_icmp_eq X 34 32 dX6_firstUnlike_29 rfl rfl (by omega) (by omega) (fun bq4 => ?_) (fun bq4 => ?_)
      · refine zr_iinc X 37 0 [(3, .int (zI (k + 1))), (2, .int (zI (mx))), (1, .ref o2), (0, .ref o1)] dX6_firstUnlike_34 rfl rfl (by decide) rfl ?_
        refine zr_goto X 14 dX6_firstUnlike_37 rfl ?_
        exact ih _ (by omega) (k + 1) ⟨by omega, by omega⟩ rfl
      · refine zr_iload_n X 33 0 dX6_firstUnlike_32 rfl rfl ?_
        exact zr_iret X rfl ⟨⟨k, rfl, by omega, by omega⟩, rfl⟩ dX6_firstUnlike_33
  exact loop _ 0 ⟨by omega, by omega⟩ rfl
set_option maxRecDepth 100000 in
set_option maxHeartbeats 4000000 in
theorem m_X6_keep (l : Launch) (hlt : l.stackTraces = false) (Γ : zGam) {V : zV} {ad : Nat → Nat} {σ : Nat → Int} {q : Int} (hS : zS Γ V ad σ) (hq : -2147483648 ≤ q ∧ q ≤ 2147483647) : zN l Γ 8 yX6_keep wsX6_keep 1 6 V [.ref (ad 1), .int (zI (q))] (fun rv V' => ∃ (y : Int) (σ' : Nat → Int), rv = some (.int (zI y)) ∧ zS Γ V' ad σ' ∧ zfx V V' ∧ ((0 ≤ q ∧ q ≤ 7) ∧ y = zsz σ q ∧ σ' = zdn (zf σ 25 (zsz σ q)))) (fun E V' => V' = V ∧ ((E = zIO ∧ ¬ (0 ≤ q ∧ q ≤ 7)) ∨ (E = zIA ∧ False))) := by
  have w0 : Cond.fieldLink RX6 24 "Sashwords" "kept" "LSashwords$Script;" ∈ wsX6_keep := by decide +kernel
  have iX6 : ∀ w ∈ u_ws RX6 TX6 14, w ∈ wsX6_keep := by decide +kernel
  refine zN_of (cc := cX6_keep) (nL := 2) (ret := (some .int)) (own := RX6) hlt (by decide +kernel) rfl rfl (Nat.le_of_ble_eq_true rfl) (fun C X Y => ?_)
  have hx1 : V (ad 1) = some (1, .inr (7, [.ref (ad 2), .ref (ad 20), .ref (ad 22), .ref (ad 24), .ref (ad 16), .ref (ad 31), .ref (ad 33), .ref (ad 35), .ref (ad 40), .ref (ad 45), .int (zI (σ 30)), .int (zI (σ 31)), .int (zI (σ 32)), .int (zI (σ 33))])) := hS.1
  show zG C V 1 6 0 [(0, .ref (ad 1)), (1, .int (zI (q)))] []
  refine zr_aload_n X 1 0 dX6_keep_0 rfl rfl ?_
  refine zr_get X 4 7 2 hx1 rfl iX6 (by decide) w0 rfl rfl dX6_keep_1 rfl ?_
  refine zr_aload_n X 5 0 dX6_keep_4 rfl rfl ?_
  refine zr_iload_n X 6 1 dX6_keep_5 rfl rfl ?_
  refine zr_callVN (kc' := 1 - 1) (ks' := 6 - 6) X Y 9 1 (m_X6_sourceOf l hlt Γ hS (q := q) (by omega)) gX6_keep_X6_sourceOf rfl (by decide +kernel) rfl (by decide) hx1 rfl rfl (Nat.le_of_ble_eq_true rfl) dX6_keep_6 rfl (by omega) (by omega) (fun E W hX => ⟨hX.2.2, Or.inl ⟨hX.1, by have := hX.2.1; omega⟩⟩) (fun rv2 V3 hp4 => ?_)
  obtain ⟨hp4a, hp4b, hp4c⟩ := hp4
  rw [hp4b, hp4c]
  obtain ⟨t5r, t5to, t5tr, t5e, t5e2, t5h, t5T, t5o, t5q, t5c, t5a, t5b⟩ := hS.txt (q := q) (by omega)
  have t5g := t5T.rg
  show zG C V (1 - 1) (6 - 6) 9 [(0, .ref (ad 1)), (1, .int (zI (q)))] [.ref (zso ad q), .ref (ad 22)]
  by_cases sq6 : q = 7
  · skip
    have sq6e : zso ad q = ad 22 := by rw [sq6]; exact zso7
    rw [sq6e]
    refine zr_callVe (kc' := (1 - 1)) (ks' := (6 - 6)) X 12 1 (f_becomeText_eq l Γ hS.2.2.2.2.1.2.1) gX6_keep_X2_becomeText rfl (by decide +kernel) rfl (by decide) hS.2.2.2.2.1.2.1.cl rfl rfl (Nat.le_of_ble_eq_true rfl) dX6_keep_9 rfl (by omega) (by omega) (fun rv7 V8 hp9 => ?_)
    rw [hp9.1, hp9.2]
    show zG C V (1 - 1) (6 - 6) 12 [(0, .ref (ad 1)), (1, .int (zI (q)))] []
    refine zr_aload_n X 13 0 dX6_keep_12 rfl rfl ?_
    refine zr_aload_n X 14 0 dX6_keep_13 rfl rfl ?_
    refine zr_get X 17 7 2 hx1 rfl iX6 (by decide) w0 rfl rfl dX6_keep_14 rfl ?_
    refine zr_callVe (kc' := (1 - 1)) (ks' := (6 - 6)) X 20 0 (f_size l Γ hS.2.2.2.2.1.2.1) gX6_keep_X2_size rfl (by decide +kernel) rfl (by decide) hS.2.2.2.2.1.2.1.cl rfl rfl (Nat.le_of_ble_eq_true rfl) dX6_keep_17 rfl (by omega) (by omega) (fun rv10 V11 hp12 => ?_)
    rw [hp12.1, hp12.2]
    have hp12r := hS.2.2.2.2.1.2.1.rg
    show zG C V (1 - 1) (6 - 6) 20 [(0, .ref (ad 1)), (1, .int (zI (q)))] [.int (zI (σ 25)), .ref (ad 1)]
    refine zr_callVe (kc' := (1 - 1)) (ks' := (6 - 6)) X 23 1 (m_X6_done l Γ hS) gX6_keep_X6_done rfl (by decide +kernel) rfl (by decide) hS.x rfl rfl (Nat.le_of_ble_eq_true rfl) dX6_keep_20 rfl (by omega) (by omega) (fun rv13 V14 hp15 => ?_)
    obtain ⟨hp15e, hS16, fx17⟩ := hp15
    rw [hp15e]
    obtain ⟨σ18, σ18e⟩ : ∃ zz9 : Nat → Int, zz9 = zdn σ := ⟨_, rfl⟩
    rw [← σ18e] at hS16
    have hx19 : V14 (ad 1) = some (1, .inr (7, [.ref (ad 2), .ref (ad 20), .ref (ad 22), .ref (ad 24), .ref (ad 16), .ref (ad 31), .ref (ad 33), .ref (ad 35), .ref (ad 40), .ref (ad 45), .int (zI (σ18 30)), .int (zI (σ18 31)), .int (zI (σ18 32)), .int (zI (σ18 33))])) := hS16.1
    show zG C V14 (1 - 1) (6 - 6) 23 [(0, .ref (ad 1)), (1, .int (zI (q)))] [.int (zI (σ 25))]
    exact zr_iret X rfl ⟨σ 25, σ18, rfl, hS16, fx17, ⟨by omega, by rw [sq6, zsz7], by rw [σ18e, sq6, zsz7, zf_id]⟩⟩ dX6_keep_23
  · skip
    refine zr_callVe (kc' := (1 - 1)) (ks' := (6 - 6)) X 12 1 (f_becomeTextT l Γ hS.2.2.2.2.1.2.1 (by decide) (by decide) t5T t5o t5q (by omega) (by omega)) gX6_keep_X2_becomeText rfl (by decide +kernel) rfl (by decide) hS.2.2.2.2.1.2.1.cl rfl rfl (Nat.le_of_ble_eq_true rfl) dX6_keep_9 rfl (by omega) (by omega) (fun rv20 V21 hp22 => ?_)
    obtain ⟨hp22e, hp22z⟩ := hp22
    rw [hp22e]
    obtain ⟨hS23, fx24⟩ := hS.setK hp22z
    obtain ⟨σ25, σ25e⟩ : ∃ zz9 : Nat → Int, zz9 = zf σ 25 (zsz σ q) := ⟨_, rfl⟩
    rw [← σ25e] at hS23
    have hx26 : V21 (ad 1) = some (1, .inr (7, [.ref (ad 2), .ref (ad 20), .ref (ad 22), .ref (ad 24), .ref (ad 16), .ref (ad 31), .ref (ad 33), .ref (ad 35), .ref (ad 40), .ref (ad 45), .int (zI (σ25 30)), .int (zI (σ25 31)), .int (zI (σ25 32)), .int (zI (σ25 33))])) := hS23.1
    show zG C V21 (1 - 1) (6 - 6) 12 [(0, .ref (ad 1)), (1, .int (zI (q)))] []
    refine zr_aload_n X 13 0 dX6_keep_12 rfl rfl ?_
    refine zr_aload_n X 14 0 dX6_keep_13 rfl rfl ?_
    refine zr_get X 17 7 2 hx26 rfl iX6 (by decide) w0 rfl rfl dX6_keep_14 rfl ?_
    refine zr_callVe (kc' := (1 - 1)) (ks' := (6 - 6)) X 20 0 (f_size l Γ hS23.2.2.2.2.1.2.1) gX6_keep_X2_size rfl (by decide +kernel) rfl (by decide) hS23.2.2.2.2.1.2.1.cl rfl rfl (Nat.le_of_ble_eq_true rfl) dX6_keep_17 rfl (by omega) (by omega) (fun rv27 V28 hp29 => ?_)
    rw [hp29.1, hp29.2]
    have hp29r := hS23.2.2.2.2.1.2.1.rg
    show zG C V21 (1 - 1) (6 - 6) 20 [(0, .ref (ad 1)), (1, .int (zI (q)))] [.int (zI (σ25 25)), .ref (ad 1)]
    refine zr_callVe (kc' := (1 - 1)) (ks' := (6 - 6)) X 23 1 (m_X6_done l Γ hS23) gX6_keep_X6_done rfl (by decide +kernel) rfl (by decide) hS23.x rfl rfl (Nat.le_of_ble_eq_true rfl) dX6_keep_20 rfl (by omega) (by omega) (fun rv30 V31 hp32 => ?_)
    obtain ⟨hp32e, hS33, fx34⟩ := hp32
    rw [hp32e]
    obtain ⟨σ35, σ35e⟩ : ∃ zz9 : Nat → Int, zz9 = zdn σ25 := ⟨_, rfl⟩
    rw [← σ35e] at hS33
    have fx36 := zag.tr fx24 fx34
    have hx37 : V31 (ad 1) = some (1, .inr (7, [.ref (ad 2), .ref (ad 20), .ref (ad 22), .ref (ad 24), .ref (ad 16), .ref (ad 31), .ref (ad 33), .ref (ad 35), .ref (ad 40), .ref (ad 45), .int (zI (σ35 30)), .int (zI (σ35 31)), .int (zI (σ35 32)), .int (zI (σ35 33))])) := hS33.1
    show zG C V31 (1 - 1) (6 - 6) 23 [(0, .ref (ad 1)), (1, .int (zI (q)))] [.int (zI (σ25 25))]
    exact zr_iret X rfl ⟨σ25 25, σ35, rfl, hS33, fx36, ⟨by omega, by rw [σ25e, zf_eq], by rw [σ35e, σ25e]⟩⟩ dX6_keep_23
set_option maxRecDepth 100000 in
set_option maxHeartbeats 4000000 in
theorem m_X6_load (l : Launch) (hlt : l.stackTraces = false) (Γ : zGam) {V : zV} {ad : Nat → Nat} {σ : Nat → Int} {q : Int} (hS : zS Γ V ad σ) (hq : -2147483648 ≤ q ∧ q ≤ 2147483647) : zN l Γ 8 yX6_load wsX6_load 1 6 V [.ref (ad 1), .int (zI (q))] (fun rv V' => ∃ (y : Int) (σ' : Nat → Int), rv = some (.int (zI y)) ∧ zS Γ V' ad σ' ∧ zfx V V' ∧ ((0 ≤ q ∧ q ≤ 7) ∧ y = zsz σ q ∧ σ' = zdn (zf σ 24 (zsz σ q)))) (fun E V' => V' = V ∧ ((E = zIO ∧ ¬ (0 ≤ q ∧ q ≤ 7)) ∨ (E = zIA ∧ False))) := by
  have w0 : Cond.fieldLink RX6 20 "Sashwords" "builder" "LSashwords$Script;" ∈ wsX6_load := by decide +kernel
  have iX6 : ∀ w ∈ u_ws RX6 TX6 14, w ∈ wsX6_load := by decide +kernel
  refine zN_of (cc := cX6_load) (nL := 2) (ret := (some .int)) (own := RX6) hlt (by decide +kernel) rfl rfl (Nat.le_of_ble_eq_true rfl) (fun C X Y => ?_)
  have hx1 : V (ad 1) = some (1, .inr (7, [.ref (ad 2), .ref (ad 20), .ref (ad 22), .ref (ad 24), .ref (ad 16), .ref (ad 31), .ref (ad 33), .ref (ad 35), .ref (ad 40), .ref (ad 45), .int (zI (σ 30)), .int (zI (σ 31)), .int (zI (σ 32)), .int (zI (σ 33))])) := hS.1
  show zG C V 1 6 0 [(0, .ref (ad 1)), (1, .int (zI (q)))] []
  refine zr_aload_n X 1 0 dX6_load_0 rfl rfl ?_
  refine zr_get X 4 7 1 hx1 rfl iX6 (by decide) w0 rfl rfl dX6_load_1 rfl ?_
  refine zr_aload_n X 5 0 dX6_load_4 rfl rfl ?_
  refine zr_iload_n X 6 1 dX6_load_5 rfl rfl ?_
  refine zr_callVN (kc' := 1 - 1) (ks' := 6 - 6) X Y 9 1 (m_X6_sourceOf l hlt Γ hS (q := q) (by omega)) gX6_load_X6_sourceOf rfl (by decide +kernel) rfl (by decide) hx1 rfl rfl (Nat.le_of_ble_eq_true rfl) dX6_load_6 rfl (by omega) (by omega) (fun E W hX => ⟨hX.2.2, Or.inl ⟨hX.1, by have := hX.2.1; omega⟩⟩) (fun rv2 V3 hp4 => ?_)
  obtain ⟨hp4a, hp4b, hp4c⟩ := hp4
  rw [hp4b, hp4c]
  obtain ⟨t5r, t5to, t5tr, t5e, t5e2, t5h, t5T, t5o, t5q, t5c, t5a, t5b⟩ := hS.txt (q := q) (by omega)
  have t5g := t5T.rg
  show zG C V (1 - 1) (6 - 6) 9 [(0, .ref (ad 1)), (1, .int (zI (q)))] [.ref (zso ad q), .ref (ad 20)]
  by_cases sq6 : q = 6
  · skip
    have sq6e : zso ad q = ad 20 := by rw [sq6]; exact zso6
    rw [sq6e]
    refine zr_callVe (kc' := (1 - 1)) (ks' := (6 - 6)) X 12 1 (f_becomeText_eq l Γ hS.2.2.2.2.1.1) gX6_load_X2_becomeText rfl (by decide +kernel) rfl (by decide) hS.2.2.2.2.1.1.cl rfl rfl (Nat.le_of_ble_eq_true rfl) dX6_load_9 rfl (by omega) (by omega) (fun rv7 V8 hp9 => ?_)
    rw [hp9.1, hp9.2]
    show zG C V (1 - 1) (6 - 6) 12 [(0, .ref (ad 1)), (1, .int (zI (q)))] []
    refine zr_aload_n X 13 0 dX6_load_12 rfl rfl ?_
    refine zr_aload_n X 14 0 dX6_load_13 rfl rfl ?_
    refine zr_get X 17 7 1 hx1 rfl iX6 (by decide) w0 rfl rfl dX6_load_14 rfl ?_
    refine zr_callVe (kc' := (1 - 1)) (ks' := (6 - 6)) X 20 0 (f_size l Γ hS.2.2.2.2.1.1) gX6_load_X2_size rfl (by decide +kernel) rfl (by decide) hS.2.2.2.2.1.1.cl rfl rfl (Nat.le_of_ble_eq_true rfl) dX6_load_17 rfl (by omega) (by omega) (fun rv10 V11 hp12 => ?_)
    rw [hp12.1, hp12.2]
    have hp12r := hS.2.2.2.2.1.1.rg
    show zG C V (1 - 1) (6 - 6) 20 [(0, .ref (ad 1)), (1, .int (zI (q)))] [.int (zI (σ 24)), .ref (ad 1)]
    refine zr_callVe (kc' := (1 - 1)) (ks' := (6 - 6)) X 23 1 (m_X6_done l Γ hS) gX6_load_X6_done rfl (by decide +kernel) rfl (by decide) hS.x rfl rfl (Nat.le_of_ble_eq_true rfl) dX6_load_20 rfl (by omega) (by omega) (fun rv13 V14 hp15 => ?_)
    obtain ⟨hp15e, hS16, fx17⟩ := hp15
    rw [hp15e]
    obtain ⟨σ18, σ18e⟩ : ∃ zz9 : Nat → Int, zz9 = zdn σ := ⟨_, rfl⟩
    rw [← σ18e] at hS16
    have hx19 : V14 (ad 1) = some (1, .inr (7, [.ref (ad 2), .ref (ad 20), .ref (ad 22), .ref (ad 24), .ref (ad 16), .ref (ad 31), .ref (ad 33), .ref (ad 35), .ref (ad 40), .ref (ad 45), .int (zI (σ18 30)), .int (zI (σ18 31)), .int (zI (σ18 32)), .int (zI (σ18 33))])) := hS16.1
    show zG C V14 (1 - 1) (6 - 6) 23 [(0, .ref (ad 1)), (1, .int (zI (q)))] [.int (zI (σ 24))]
    exact zr_iret X rfl ⟨σ 24, σ18, rfl, hS16, fx17, ⟨by omega, by rw [sq6, zsz6], by rw [σ18e, sq6, zsz6, zf_id]⟩⟩ dX6_load_23
  · skip
    refine zr_callVe (kc' := (1 - 1)) (ks' := (6 - 6)) X 12 1 (f_becomeTextT l Γ hS.2.2.2.2.1.1 (by decide) (by decide) t5T t5o t5q (by omega) (by omega)) gX6_load_X2_becomeText rfl (by decide +kernel) rfl (by decide) hS.2.2.2.2.1.1.cl rfl rfl (Nat.le_of_ble_eq_true rfl) dX6_load_9 rfl (by omega) (by omega) (fun rv20 V21 hp22 => ?_)
    obtain ⟨hp22e, hp22z⟩ := hp22
    rw [hp22e]
    obtain ⟨hS23, fx24⟩ := hS.setB hp22z
    obtain ⟨σ25, σ25e⟩ : ∃ zz9 : Nat → Int, zz9 = zf σ 24 (zsz σ q) := ⟨_, rfl⟩
    rw [← σ25e] at hS23
    have hx26 : V21 (ad 1) = some (1, .inr (7, [.ref (ad 2), .ref (ad 20), .ref (ad 22), .ref (ad 24), .ref (ad 16), .ref (ad 31), .ref (ad 33), .ref (ad 35), .ref (ad 40), .ref (ad 45), .int (zI (σ25 30)), .int (zI (σ25 31)), .int (zI (σ25 32)), .int (zI (σ25 33))])) := hS23.1
    show zG C V21 (1 - 1) (6 - 6) 12 [(0, .ref (ad 1)), (1, .int (zI (q)))] []
    refine zr_aload_n X 13 0 dX6_load_12 rfl rfl ?_
    refine zr_aload_n X 14 0 dX6_load_13 rfl rfl ?_
    refine zr_get X 17 7 1 hx26 rfl iX6 (by decide) w0 rfl rfl dX6_load_14 rfl ?_
    refine zr_callVe (kc' := (1 - 1)) (ks' := (6 - 6)) X 20 0 (f_size l Γ hS23.2.2.2.2.1.1) gX6_load_X2_size rfl (by decide +kernel) rfl (by decide) hS23.2.2.2.2.1.1.cl rfl rfl (Nat.le_of_ble_eq_true rfl) dX6_load_17 rfl (by omega) (by omega) (fun rv27 V28 hp29 => ?_)
    rw [hp29.1, hp29.2]
    have hp29r := hS23.2.2.2.2.1.1.rg
    show zG C V21 (1 - 1) (6 - 6) 20 [(0, .ref (ad 1)), (1, .int (zI (q)))] [.int (zI (σ25 24)), .ref (ad 1)]
    refine zr_callVe (kc' := (1 - 1)) (ks' := (6 - 6)) X 23 1 (m_X6_done l Γ hS23) gX6_load_X6_done rfl (by decide +kernel) rfl (by decide) hS23.x rfl rfl (Nat.le_of_ble_eq_true rfl) dX6_load_20 rfl (by omega) (by omega) (fun rv30 V31 hp32 => ?_)
    obtain ⟨hp32e, hS33, fx34⟩ := hp32
    rw [hp32e]
    obtain ⟨σ35, σ35e⟩ : ∃ zz9 : Nat → Int, zz9 = zdn σ25 := ⟨_, rfl⟩
    rw [← σ35e] at hS33
    have fx36 := zag.tr fx24 fx34
    have hx37 : V31 (ad 1) = some (1, .inr (7, [.ref (ad 2), .ref (ad 20), .ref (ad 22), .ref (ad 24), .ref (ad 16), .ref (ad 31), .ref (ad 33), .ref (ad 35), .ref (ad 40), .ref (ad 45), .int (zI (σ35 30)), .int (zI (σ35 31)), .int (zI (σ35 32)), .int (zI (σ35 33))])) := hS33.1
    show zG C V31 (1 - 1) (6 - 6) 23 [(0, .ref (ad 1)), (1, .int (zI (q)))] [.int (zI (σ25 24))]
    exact zr_iret X rfl ⟨σ25 24, σ35, rfl, hS33, fx36, ⟨by omega, by rw [σ25e, zf_eq], by rw [σ35e, σ25e]⟩⟩ dX6_load_23
