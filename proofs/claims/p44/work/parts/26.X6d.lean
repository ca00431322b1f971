/-! contents: builder and kept text, by tags -/
section ZGT
variable (l0 : Launch) (Γ : zGam) {V : zV} {ad : Nat → Nat} {σ : Nat → Int}
theorem gB_textT (hS : zS Γ V ad σ) {o r to tr : Nat} {m : Int} {h' : Int → Int} {e e' : va_E} {q : Int} (hT : zTx Γ V o r m h') (ho : V o = some (to, e)) (hr : V r = some (tr, e')) (hne : to ≠ 20 ∧ to ≠ 21 ∧ tr ≠ 20 ∧ tr ≠ 21) (hm : m ≤ 80) (hg : ∀ k : Nat, (k : Int) < m → h' (k : Int) = zsg σ q k) : zM l0 Γ 5 yX2_becomeText wsX2_becomeText 0 0 V [.ref (ad 20), .ref o] (fun rv V' => rv = none ∧ zS Γ V' ad (zly (zf σ 24 m) 100 m.toNat (zsg σ q)) ∧ zfx V V') := by
  obtain ⟨f, h1, h2, h3⟩ := hS.2.2.2.2.1.1
  exact gB_text l0 Γ hS hT (zne_tag ho h1 hne.1) (zne_tag ho h2 hne.2.1) (zne_tag hr h1 hne.2.2.1) (zne_tag hr h2 hne.2.2.2) hm hg
theorem gK_textT (hS : zS Γ V ad σ) {o r to tr : Nat} {m : Int} {h' : Int → Int} {e e' : va_E} {q : Int} (hT : zTx Γ V o r m h') (ho : V o = some (to, e)) (hr : V r = some (tr, e')) (hne : to ≠ 22 ∧ to ≠ 23 ∧ tr ≠ 22 ∧ tr ≠ 23) (hm : m ≤ 80) (hg : ∀ k : Nat, (k : Int) < m → h' (k : Int) = zsg σ q k) : zM l0 Γ 5 yX2_becomeText wsX2_becomeText 0 0 V [.ref (ad 22), .ref o] (fun rv V' => rv = none ∧ zS Γ V' ad (zly (zf σ 25 m) 200 m.toNat (zsg σ q)) ∧ zfx V V') := by
  obtain ⟨f, h1, h2, h3⟩ := hS.2.2.2.2.1.2.1
  exact gK_text l0 Γ hS hT (zne_tag ho h1 hne.1) (zne_tag ho h2 hne.2.1) (zne_tag hr h1 hne.2.2.1) (zne_tag hr h2 hne.2.2.2) hm hg
theorem gB_appendT (hS : zS Γ V ad σ) {o r to tr : Nat} {m : Int} {h' : Int → Int} {e e' : va_E} {q : Int} (hT : zTx Γ V o r m h') (ho : V o = some (to, e)) (hr : V r = some (tr, e')) (hne : to ≠ 20 ∧ to ≠ 21 ∧ tr ≠ 20 ∧ tr ≠ 21) (hm : σ 24 + m ≤ 80) (hg : ∀ k : Nat, (k : Int) < m → h' (k : Int) = zsg σ q k) : zM l0 Γ 4 yX2_append wsX2_append 0 0 V [.ref (ad 20), .ref o] (fun rv V' => rv = none ∧ zS Γ V' ad (zly (zf σ 24 (σ 24 + m)) (100 + (σ 24).toNat) m.toNat (zsg σ q)) ∧ zfx V V') := by
  obtain ⟨f, h1, h2, h3⟩ := hS.2.2.2.2.1.1
  exact gB_append l0 Γ hS hT (zne_tag ho h1 hne.1) (zne_tag ho h2 hne.2.1) (zne_tag hr h1 hne.2.2.1) (zne_tag hr h2 hne.2.2.2) hm hg
end ZGT
theorem zrt_lo {σ : Nat → Int} {n j : Nat} (h : j < 100) : zrt σ n j = σ j := by
  unfold zrt
  rw [if_neg (by omega)]
theorem zly_id6 {σ : Nat → Int} : zly σ 100 (σ 24).toNat (zsg σ 6) = σ := by
  funext j
  unfold zly zsg
  by_cases h : 100 ≤ j ∧ j < 100 + (σ 24).toNat
  · rw [if_pos h, if_neg (by decide), if_pos rfl]
    exact congrArg σ (by omega)
  · rw [if_neg h]
theorem zly_id7 {σ : Nat → Int} : zly σ 200 (σ 25).toNat (zsg σ 7) = σ := by
  funext j
  unfold zly zsg
  by_cases h : 200 ≤ j ∧ j < 200 + (σ 25).toNat
  · rw [if_pos h, if_neg (by decide), if_neg (by decide)]
    exact congrArg σ (by omega)
  · rw [if_neg h]
/-! Sashwords: builder, kept text, searches -/
theorem zr_tsIn {C : zC} {l0 : Launch} {Γ0 : zGam} {n0 : Nat} {own : String} {cc : ByteArray} {ws : List Cond} {d : Nat} {ret : Option FieldType} {Post : Option Value → zV → Prop} {V : zV} {kc ks pc : Nat} {lv : List (Nat × Value)} {rest : List Value} (X : zK C l0 Γ0 n0 own cc ws d ret Post) (n' : Nat) (v : Int) {x dflt lo hi off : Int} {offs : Array Int} {len : Nat} (hv : x = v) (hr : -2147483648 ≤ v ∧ v ≤ 2147483647) (hdg : decode cc pc = .ok (.tableswitch dflt lo hi offs, len)) (h1 : lo ≤ v) (h2 : v ≤ hi) (ho : offs[(v - lo).toNat]? = some off) (ht : (pc : Int) + off = (n' : Int)) (kk : zG C V kc ks n' lv rest) : zG C V kc ks pc lv (.int (zI x) :: rest) := by
  obtain ⟨⟨p, l, e, R, s, m, args, below, meth, c⟩, Γ, ⟨nL, mc, ms⟩, Q⟩ := C
  obtain ⟨hx, hb, hml, hown, hts, hO, hB0, hlk, hret, hmc, hms, hdf, hdl, hQ, rfl, rfl, rfl⟩ := X
  subst hv
  intro H locs cells slots ls hV hS hl hcc hs
  have e : (zI x).toInt = x := zI_toInt x hr
  exact lv_tableIn hx hb hdg (by rw [e]; omega) (by rw [e]; omega) (by rw [e]; exact ho) ht (kk H locs cells slots ls hV hS hl hcc hs)
theorem zr_tsOut {C : zC} {l0 : Launch} {Γ0 : zGam} {n0 : Nat} {own : String} {cc : ByteArray} {ws : List Cond} {d : Nat} {ret : Option FieldType} {Post : Option Value → zV → Prop} {V : zV} {kc ks pc : Nat} {lv : List (Nat × Value)} {rest : List Value} (X : zK C l0 Γ0 n0 own cc ws d ret Post) (n' : Nat) {x dflt lo hi : Int} {offs : Array Int} {len : Nat} (hr : -2147483648 ≤ x ∧ x ≤ 2147483647) (hdg : decode cc pc = .ok (.tableswitch dflt lo hi offs, len)) (h1 : x < lo ∨ hi < x) (ht : (pc : Int) + dflt = (n' : Int)) (kk : zG C V kc ks n' lv rest) : zG C V kc ks pc lv (.int (zI x) :: rest) := by
  obtain ⟨⟨p, l, e, R, s, m, args, below, meth, c⟩, Γ, ⟨nL, mc, ms⟩, Q⟩ := C
  obtain ⟨hx, hb, hml, hown, hts, hO, hB0, hlk, hret, hmc, hms, hdf, hdl, hQ, rfl, rfl, rfl⟩ := X
  intro H locs cells slots ls hV hS hl hcc hs
  have e : (zI x).toInt = x := zI_toInt x hr
  exact lv_tableOut hx hb hdg (by rw [e]; exact h1) ht (kk H locs cells slots ls hV hS hl hcc hs)
theorem zso6 {ad : Nat → Nat} : zso ad 6 = ad 20 := by
  unfold zso
  rw [if_neg (by omega), if_pos rfl]
theorem zso7 {ad : Nat → Nat} : zso ad 7 = ad 22 := by
  unfold zso
  rw [if_neg (by omega), if_neg (by omega)]
theorem zsz6 {σ : Nat → Int} : zsz σ 6 = σ 24 := by
  unfold zsz
  rw [if_neg (by omega), if_pos rfl]
theorem zsz7 {σ : Nat → Int} : zsz σ 7 = σ 25 := by
  unfold zsz
  rw [if_neg (by omega), if_neg (by omega)]
theorem zr_getNs {C : zC} {l0 : Launch} {Γ0 : zGam} {n0 : Nat} {own : String} {cc : ByteArray} {ws : List Cond} {d : Nat} {ret : Option FieldType} {Post : Option Value → zV → Prop} {V : zV} {kc ks pc : Nat} {lv : List (Nat × Value)} {rest : List Value} (X : zK C l0 Γ0 n0 own cc ws d ret Post) (n' : Nat) {index tk k tp pl bo : Nat} (hw : zSk Γ0 V tk k tp pl bo) (hin : ∀ w ∈ u_ws RX3 TX3 3, w ∈ ws) (hz : zxf[8]? = some (own, index, "Sashwords$Seeker", (TX3 2).2.1, (TX3 2).2.2.1, "Sashwords")) (hdg : decode cc pc = .ok (.getfield index, 3)) (hn : pc + 3 = n') (kk : ∀ v : Int, 0 ≤ v ∧ v ≤ 81 → zG C V kc ks n' lv (.int (zI v) :: rest)) : zG C V kc ks pc lv (.ref k :: rest) := by
  obtain ⟨mn, pf, h1, h2, h3, h4, h5⟩ := hw
  exact zr_getN X n' 5 2 8 h1 rfl hin (by decide) hz rfl rfl hdg hn (kk mn ⟨h4, h5⟩)
theorem zr_getNsx {C : zC} {l0 : Launch} {Γ0 : zGam} {n0 : Nat} {own : String} {cc : ByteArray} {ws : List Cond} {d : Nat} {ret : Option FieldType} {Post : Option Value → zV → Prop} {V : zV} {kc ks pc : Nat} {lv : List (Nat × Value)} {rest : List Value} (X : zK C l0 Γ0 n0 own cc ws d ret Post) (n' : Nat) {index tk k tp pl bo : Nat} {mn : Int} {pf : Nat → Int} (hw : zSkx Γ0 V tk k tp pl bo mn pf) (hin : ∀ w ∈ u_ws RX3 TX3 3, w ∈ ws) (hz : zxf[8]? = some (own, index, "Sashwords$Seeker", (TX3 2).2.1, (TX3 2).2.2.1, "Sashwords")) (hdg : decode cc pc = .ok (.getfield index, 3)) (hn : pc + 3 = n') (kk : zG C V kc ks n' lv (.int (zI mn) :: rest)) : zG C V kc ks pc lv (.ref k :: rest) := by
  obtain ⟨h1, h2, h3, h4, h5⟩ := hw
  exact zr_getN X n' 5 2 8 h1 rfl hin (by decide) hz rfl rfl hdg hn kk
theorem zr_getNb {C : zC} {l0 : Launch} {Γ0 : zGam} {n0 : Nat} {own : String} {cc : ByteArray} {ws : List Cond} {d : Nat} {ret : Option FieldType} {Post : Option Value → zV → Prop} {V : zV} {kc ks pc : Nat} {lv : List (Nat × Value)} {rest : List Value} (X : zK C l0 Γ0 n0 own cc ws d ret Post) (n' : Nat) {index tt t ta ga tc ca : Nat} (hw : zBo Γ0 V tt t ta ga tc ca) (hin : ∀ w ∈ u_ws RX0 TX0 3, w ∈ ws) (hz : zxf[7]? = some (own, index, "Sashwords$Borders", (TX0 2).2.1, (TX0 2).2.2.1, "Sashwords")) (hdg : decode cc pc = .ok (.getfield index, 3)) (hn : pc + 3 = n') (kk : ∀ v : Int, 0 ≤ v ∧ v ≤ 80 → zG C V kc ks n' lv (.int (zI v) :: rest)) : zG C V kc ks pc lv (.ref t :: rest) := by
  obtain ⟨lk, gf, cf, h1, h2, h3, h4, h5, h6, h7⟩ := hw
  exact zr_getN X n' 2 2 7 h1 rfl hin (by decide) hz rfl rfl hdg hn (kk lk ⟨h6, h7.1⟩)
/-- the sign at a place, -9 where there is none -/
def zat (m : Int) (h : Int → Int) (j : Int) : Int := if 0 ≤ j ∧ j < m then h j else -9
/-- y is the first place at which two texts differ -/
def zfu (m1 : Int) (h1 : Int → Int) (m2 : Int) (h2 : Int → Int) (y : Int) : Prop := (y = -1 ∧ ∀ j : Int, zat m1 h1 j = zat m2 h2 j) ∨ (0 ≤ y ∧ zat m1 h1 y ≠ zat m2 h2 y ∧ ∀ j : Int, j < y → zat m1 h1 j = zat m2 h2 j)
theorem zfu.uni {m1 m2 y w : Int} {h1 h2 : Int → Int} (h : zfu m1 h1 m2 h2 y) (h' : zfu m1 h1 m2 h2 w) : y = w := by
  rcases h with ⟨e, h⟩ | ⟨e, n, h⟩
  · rcases h' with ⟨e', h'⟩ | ⟨e', n', h'⟩
    · omega
    · exact absurd (h w) n'
  · rcases h' with ⟨e', h'⟩ | ⟨e', n', h'⟩
    · exact absurd (h' y) n
    · rcases Int.lt_trichotomy y w with c | c | c
      · exact absurd (h' y c) n
      · exact c
      · exact absurd (h w c) n'
theorem zat_out {m : Int} {h : Int → Int} {j : Int} (c : ¬ (0 ≤ j ∧ j < m)) : zat m h j = -9 := if_neg c
theorem zat_cong {m : Int} {h h' : Int → Int} (e : ∀ k : Nat, (k : Int) < m → h (k : Int) = h' (k : Int)) (j : Int) : zat m h j = zat m h' j := by
  unfold zat
  by_cases c : 0 ≤ j ∧ j < m
  · rw [if_pos c, if_pos c]
    have := e j.toNat (by omega)
    rw [show ((j.toNat : Nat) : Int) = j by omega] at this
    exact this
  · rw [if_neg c, if_neg c]
theorem zfu.cong {m1 m2 y : Int} {h1 h2 g1 g2 : Int → Int} (h : zfu m1 h1 m2 h2 y) (e1 : ∀ k : Nat, (k : Int) < m1 → h1 (k : Int) = g1 (k : Int)) (e2 : ∀ k : Nat, (k : Int) < m2 → h2 (k : Int) = g2 (k : Int)) : zfu m1 g1 m2 g2 y := by
  rcases h with ⟨a, b⟩ | ⟨a, b, c⟩
  · exact Or.inl ⟨a, fun j => (zat_cong e1 j).symm.trans ((b j).trans (zat_cong e2 j))⟩
  · exact Or.inr ⟨a, fun q => b ((zat_cong e1 y).trans (q.trans (zat_cong e2 y).symm)), fun j hj => (zat_cong e1 j).symm.trans ((c j hj).trans (zat_cong e2 j))⟩
set_option maxRecDepth 100000 in
set_option maxHeartbeats 4000000 in
theorem m_X6_firstUnlike (l : Launch) (Γ : zGam) {V : zV} {o1 r1 o2 r2 : Nat} {m1 m2 mx : Int} {h1 h2 : Int → Int} (hT1 : zTx Γ V o1 r1 m1 h1) (hT2 : zTx Γ V o2 r2 m2 h2) (hmx : mx = if m1 < m2 then m2 else m1) : zM l Γ 4 yX6_firstUnlike wsX6_firstUnlike 0 0 V [.ref o1, .ref o2] (fun rv V' => (∃ y : Int, rv = some (.int (zI y)) ∧ -1 ≤ y ∧ y ≤ 1000 ∧ zfu m1 h1 m2 h2 y) ∧ V' = V) := by
  have hTr1 := hT1.rg
  have hTr2 := hT2.rg
  have hmr : 0 ≤ mx ∧ mx ≤ 1000 := by rw [hmx]; split <;> omega
  have hm1 : m1 ≤ mx ∧ m2 ≤ mx := by rw [hmx]; split <;> omega
  have w0 : Cond.methodLink RX6 344 Lib.Math.max.name ∈ wsX6_firstUnlike := by decide +kernel
  have w1 : Cond.static Lib.Math.max.name ∈ wsX6_firstUnlike := by decide +kernel
  have w2 : Cond.initialized "java/lang/Math" ∈ wsX6_firstUnlike := by decide +kernel
  have w3 : Cond.code Lib.Math.max.name Lib.Math.max.code 2 (some .int) ∈ wsX6_firstUnlike := by decide +kernel
  refine zM_of (cc := cX6_firstUnlike) (nL := 4) (ret := (some .int)) (own := RX6) (by decide +kernel) rfl rfl (Nat.le_of_ble_eq_true rfl) (fun C X hi0 => ?_)
  show zG C V 0 0 0 [(0, .ref o1), (1, .ref o2)] []
  refine zr_aload_n X 1 0 dX6_firstUnlike_0 rfl rfl ?_
  refine zr_txSize X 4 hT1 gX6_firstUnlike_X5_size_u165X5 gX6_firstUnlike_X2_size_u165X2 (by decide) (Nat.le_of_ble_eq_true rfl) dX6_firstUnlike_1 rfl ?_
  refine zr_aload_n X 5 1 dX6_firstUnlike_4 rfl rfl ?_
  refine zr_txSize X 8 hT2 gX6_firstUnlike_X5_size_u165X5 gX6_firstUnlike_X2_size_u165X2 (by decide) (Nat.le_of_ble_eq_true rfl) dX6_firstUnlike_5 rfl ?_
  refine zr_mmax X 11 (mx) w0 w1 w2 w3 (by decide) (Nat.le_of_ble_eq_true rfl) (by omega) (by omega) (by split <;> omega) dX6_firstUnlike_8 rfl ?_
  refine zr_istore_n X 12 [(2, .int (zI (mx))), (0, .ref o1), (1, .ref o2)] dX6_firstUnlike_11 rfl (by decide) rfl ?_
  refine zr_iconst X 13 dX6_firstUnlike_12 rfl ?_
  refine zr_istore_n X 14 [(3, .int (zI (0))), (2, .int (zI (mx))), (0, .ref o1), (1, .ref o2)] dX6_firstUnlike_13 rfl (by decide) rfl ?_
  refine zr_sub [0, 1, 3, 2] [(3, .int (zI (0))), (2, .int (zI (mx))), (1, .ref o2), (0, .ref o1)] rfl ?_
  have loop : ∀ (N : Nat) (k : Int), 0 ≤ k ∧ k ≤ mx ∧ (∀ j : Int, j < k → zat m1 h1 j = zat m2 h2 j) → (mx - k).toNat = N → zG C V 0 0 14 [(3, .int (zI (k))), (2, .int (zI (mx))), (1, .ref o2), (0, .ref o1)] [] := by
    intro N
    induction N using Nat.strongRecOn with
    | _ N ih =>
    intro k hI hN
    obtain ⟨hI1, hI2, hI3⟩ := id hI
    refine zr_iload_n X 15 0 dX6_firstUnlike_14 rfl rfl ?_
    refine zr_iload_n X 16 1 dX6_firstUnlike_15 rfl rfl ?_
    refine zr_icmp_ge X 40 19 dX6_firstUnlike_16 rfl rfl (by omega) (by omega) (fun bq1 => ?_) (fun bq1 => ?_)
    · refine zr_iconst X 41 dX6_firstUnlike_40 rfl ?_
      have hal : ∀ j : Int, zat m1 h1 j = zat m2 h2 j := fun j => by
        by_cases c : j < k
        · exact hI3 j c
        · rw [zat_out (by omega), zat_out (by omega)]
      exact zr_iret X rfl ⟨⟨-1, rfl, by omega, by omega, Or.inl ⟨rfl, hal⟩⟩, rfl⟩ dX6_firstUnlike_41
    · refine zr_aload_n X 20 3 dX6_firstUnlike_19 rfl rfl ?_
      refine zr_iload_n X 21 0 dX6_firstUnlike_20 rfl rfl ?_
      refine zr_txAt X 24 hT1 (by omega) gX6_firstUnlike_X5_at_u334X5 gX6_firstUnlike_X2_at_u334X2 (by decide) (Nat.le_of_ble_eq_true rfl) dX6_firstUnlike_21 rfl ?_
      obtain ⟨x2, hx2, hx2a, hx2b, hx2c⟩ := zTx_if (m := m1) hTr1.2.2 k
      rw [hx2]
      show zG C V 0 0 24 [(3, .int (zI (k))), (2, .int (zI (mx))), (1, .ref o2), (0, .ref o1)] [.int (zI (x2))]
      refine zr_aload_n X 25 2 dX6_firstUnlike_24 rfl rfl ?_
      refine zr_iload_n X 26 0 dX6_firstUnlike_25 rfl rfl ?_
      refine zr_txAt X 29 hT2 (by omega) gX6_firstUnlike_X5_at_u334X5 gX6_firstUnlike_X2_at_u334X2 (by decide) (Nat.le_of_ble_eq_true rfl) dX6_firstUnlike_26 rfl ?_
      obtain ⟨x3, hx3, hx3a, hx3b, hx3c⟩ := zTx_if (m := m2) hTr2.2.2 k
      rw [hx3]
      show zG C V 0 0 29 [(3, .int (zI (k))), (2, .int (zI (mx))), (1, .ref o2), (0, .ref o1)] [.int (zI (x3)), .int (zI (x2))]
      refine zr_icmp_eq X 34 32 dX6_firstUnlike_29 rfl rfl (by omega) (by omega) (fun bq4 => ?_) (fun bq4 => ?_)
      · refine zr_iinc X 37 0 [(3, .int (zI (k + 1))), (2, .int (zI (mx))), (1, .ref o2), (0, .ref o1)] dX6_firstUnlike_34 rfl rfl (by decide) rfl ?_
        refine zr_goto X 14 dX6_firstUnlike_37 rfl ?_
        have fb5 : ∀ j : Int, j < k + 1 → zat m1 h1 j = zat m2 h2 j := fun j hj => by
          by_cases c : j = k
          · rw [c]
            unfold zat
            rw [hx2, hx3]
            omega
          · exact hI3 j (by omega)
        exact ih _ (by omega) (k + 1) ⟨by omega, by omega, fb5⟩ rfl
      · refine zr_iload_n X 33 0 dX6_firstUnlike_32 rfl rfl ?_
        have hdf : zat m1 h1 k ≠ zat m2 h2 k := fun h9 => by
          unfold zat at h9
          rw [hx2, hx3] at h9
          omega
        exact zr_iret X rfl ⟨⟨k, rfl, by omega, by omega, Or.inr ⟨by omega, hdf, hI3⟩⟩, rfl⟩ dX6_firstUnlike_33
  exact loop _ 0 ⟨by omega, by omega, fun j hj => by rw [zat_out (by omega), zat_out (by omega)]⟩ rfl
set_option maxRecDepth 100000 in
set_option maxHeartbeats 4000000 in
theorem m_X6_keep (l : Launch) (hlt : l.stackTraces = false) (Γ : zGam) {V : zV} {ad : Nat → Nat} {σ : Nat → Int} {q : Int} (hS : zS Γ V ad σ) (hq : -2147483648 ≤ q ∧ q ≤ 2147483647) : zN l Γ 8 yX6_keep wsX6_keep 1 6 V [.ref (ad 1), .int (zI (q))] (fun rv V' => ∃ (y : Int) (σ' : Nat → Int), rv = some (.int (zI y)) ∧ zS Γ V' ad σ' ∧ zfx V V' ∧ ((0 ≤ q ∧ q ≤ 7) ∧ y = zsz σ q ∧ σ' = zdn (zly (zf σ 25 (zsz σ q)) 200 (zsz σ q).toNat (zsg σ q)))) (fun E V' => V' = V ∧ ((E = zIO ∧ ¬ (0 ≤ q ∧ q ≤ 7)) ∨ (E = zIA ∧ False))) := by
  have w0 : Cond.fieldLink RX6 24 "Sashwords" "kept" "LSashwords$Script;" ∈ wsX6_keep := by decide +kernel
  have iX6 : ∀ w ∈ u_ws RX6 TX6 14, w ∈ wsX6_keep := by decide +kernel
  refine zN_of (cc := cX6_keep) (nL := 2) (ret := (some .int)) (own := RX6) hlt (by decide +kernel) rfl rfl (Nat.le_of_ble_eq_true rfl) (fun C X Y => ?_)
  have hx1 : V (ad 1) = some (1, .inr (7, [.ref (ad 2), .ref (ad 20), .ref (ad 22), .ref (ad 24), .ref (ad 16), .ref (ad 31), .ref (ad 33), .ref (ad 35), .ref (ad 40), .ref (ad 45), .int (zI (σ 30)), .int (zI (σ 31)), .int (zI (σ 32)), .int (zI (σ 33))])) := hS.1
  show zG C V 1 6 0 [(0, .ref (ad 1)), (1, .int (zI (q)))] []
  refine zr_aload_n X 1 0 dX6_keep_0 rfl rfl ?_
  refine zr_get X 4 7 2 hx1 rfl iX6 (by decide) w0 rfl rfl dX6_keep_1 rfl ?_
  refine zr_aload_n X 5 0 dX6_keep_4 rfl rfl ?_
  refine zr_iload_n X 6 1 dX6_keep_5 rfl rfl ?_
  refine zr_callVN (kc' := 1 - 1) (ks' := 6 - 6) X Y 9 1 (m_X6_sourceOf l hlt Γ hS (q := q) (by omega)) gX6_keep_X6_sourceOf rfl (by decide +kernel) rfl (by decide) hx1 rfl rfl (Nat.le_of_ble_eq_true rfl) dX6_keep_6 rfl (by omega) (by omega) (fun E W hX => ⟨hX.2.2, Or.inl ⟨hX.1, by have := hX.2.1; omega⟩⟩) (fun rv2 V3 hp4 => ?_)
  obtain ⟨hp4a, hp4b, hp4c⟩ := hp4
  rw [hp4b, hp4c]
  obtain ⟨t5r, t5to, t5tr, t5e, t5e2, t5h, t5T, t5o, t5q, t5c, t5a, t5b, t5z⟩ := hS.txt (q := q) (by omega)
  have t5g := t5T.rg
  show zG C V (1 - 1) (6 - 6) 9 [(0, .ref (ad 1)), (1, .int (zI (q)))] [.ref (zso ad q), .ref (ad 22)]
  by_cases sq6 : q = 7
  · skip
    have sq6e : zso ad q = ad 22 := by rw [sq6]; exact zso7
    rw [sq6e]
    refine zr_callVe (kc' := (1 - 1)) (ks' := (6 - 6)) X 12 1 (f_becomeText_eq l Γ hS.2.2.2.2.1.2.1) gX6_keep_X2_becomeText rfl (by decide +kernel) rfl (by decide) hS.2.2.2.2.1.2.1.cl rfl rfl (Nat.le_of_ble_eq_true rfl) dX6_keep_9 rfl (by omega) (by omega) (fun rv7 V8 hp9 => ?_)
    rw [hp9.1, hp9.2]
    show zG C V (1 - 1) (6 - 6) 12 [(0, .ref (ad 1)), (1, .int (zI (q)))] []
    refine zr_aload_n X 13 0 dX6_keep_12 rfl rfl ?_
    refine zr_aload_n X 14 0 dX6_keep_13 rfl rfl ?_
    refine zr_get X 17 7 2 hx1 rfl iX6 (by decide) w0 rfl rfl dX6_keep_14 rfl ?_
    refine zr_callVe (kc' := (1 - 1)) (ks' := (6 - 6)) X 20 0 (f_size l Γ hS.2.2.2.2.1.2.1) gX6_keep_X2_size rfl (by decide +kernel) rfl (by decide) hS.2.2.2.2.1.2.1.cl rfl rfl (Nat.le_of_ble_eq_true rfl) dX6_keep_17 rfl (by omega) (by omega) (fun rv10 V11 hp12 => ?_)
    rw [hp12.1, hp12.2]
    have hp12r := hS.2.2.2.2.1.2.1.rg
    show zG C V (1 - 1) (6 - 6) 20 [(0, .ref (ad 1)), (1, .int (zI (q)))] [.int (zI (σ 25)), .ref (ad 1)]
    refine zr_callVe (kc' := (1 - 1)) (ks' := (6 - 6)) X 23 1 (m_X6_done l Γ hS) gX6_keep_X6_done rfl (by decide +kernel) rfl (by decide) hS.x rfl rfl (Nat.le_of_ble_eq_true rfl) dX6_keep_20 rfl (by omega) (by omega) (fun rv13 V14 hp15 => ?_)
    obtain ⟨hp15e, hS16, fx17⟩ := hp15
    rw [hp15e]
    obtain ⟨σ18, σ18e⟩ : ∃ zz9 : Nat → Int, zz9 = zdn σ := ⟨_, rfl⟩
    rw [← σ18e] at hS16
    have hx19 : V14 (ad 1) = some (1, .inr (7, [.ref (ad 2), .ref (ad 20), .ref (ad 22), .ref (ad 24), .ref (ad 16), .ref (ad 31), .ref (ad 33), .ref (ad 35), .ref (ad 40), .ref (ad 45), .int (zI (σ18 30)), .int (zI (σ18 31)), .int (zI (σ18 32)), .int (zI (σ18 33))])) := hS16.1
    show zG C V14 (1 - 1) (6 - 6) 23 [(0, .ref (ad 1)), (1, .int (zI (q)))] [.int (zI (σ 25))]
    exact zr_iret X rfl ⟨σ 25, σ18, rfl, hS16, fx17, ⟨by omega, by rw [sq6, zsz7], by rw [σ18e, sq6, zsz7, zf_id, zly_id7]⟩⟩ dX6_keep_23
  · skip
    refine zr_callVe (kc' := (1 - 1)) (ks' := (6 - 6)) X 12 1 (gK_textT l Γ hS t5T t5o t5q (by omega) (by omega) t5z) gX6_keep_X2_becomeText rfl (by decide +kernel) rfl (by decide) hS.2.2.2.2.1.2.1.cl rfl rfl (Nat.le_of_ble_eq_true rfl) dX6_keep_9 rfl (by omega) (by omega) (fun rv20 V21 hp22 => ?_)
    obtain ⟨hp22e, hS23, fx24⟩ := hp22
    rw [hp22e]
    obtain ⟨σ25, σ25e⟩ : ∃ zz9 : Nat → Int, zz9 = zly (zf σ 25 (zsz σ q)) 200 (zsz σ q).toNat (zsg σ q) := ⟨_, rfl⟩
    rw [← σ25e] at hS23
    have hx26 : V21 (ad 1) = some (1, .inr (7, [.ref (ad 2), .ref (ad 20), .ref (ad 22), .ref (ad 24), .ref (ad 16), .ref (ad 31), .ref (ad 33), .ref (ad 35), .ref (ad 40), .ref (ad 45), .int (zI (σ25 30)), .int (zI (σ25 31)), .int (zI (σ25 32)), .int (zI (σ25 33))])) := hS23.1
    show zG C V21 (1 - 1) (6 - 6) 12 [(0, .ref (ad 1)), (1, .int (zI (q)))] []
    refine zr_aload_n X 13 0 dX6_keep_12 rfl rfl ?_
    refine zr_aload_n X 14 0 dX6_keep_13 rfl rfl ?_
    refine zr_get X 17 7 2 hx26 rfl iX6 (by decide) w0 rfl rfl dX6_keep_14 rfl ?_
    refine zr_callVe (kc' := (1 - 1)) (ks' := (6 - 6)) X 20 0 (f_size l Γ hS23.2.2.2.2.1.2.1) gX6_keep_X2_size rfl (by decide +kernel) rfl (by decide) hS23.2.2.2.2.1.2.1.cl rfl rfl (Nat.le_of_ble_eq_true rfl) dX6_keep_17 rfl (by omega) (by omega) (fun rv27 V28 hp29 => ?_)
    rw [hp29.1, hp29.2]
    have hp29r := hS23.2.2.2.2.1.2.1.rg
    show zG C V21 (1 - 1) (6 - 6) 20 [(0, .ref (ad 1)), (1, .int (zI (q)))] [.int (zI (σ25 25)), .ref (ad 1)]
    refine zr_callVe (kc' := (1 - 1)) (ks' := (6 - 6)) X 23 1 (m_X6_done l Γ hS23) gX6_keep_X6_done rfl (by decide +kernel) rfl (by decide) hS23.x rfl rfl (Nat.le_of_ble_eq_true rfl) dX6_keep_20 rfl (by omega) (by omega) (fun rv30 V31 hp32 => ?_)
    obtain ⟨hp32e, hS33, fx34⟩ := hp32
    rw [hp32e]
    obtain ⟨σ35, σ35e⟩ : ∃ zz9 : Nat → Int, zz9 = zdn σ25 := ⟨_, rfl⟩
    rw [← σ35e] at hS33
    have fx36 := zag.tr fx24 fx34
    have hx37 : V31 (ad 1) = some (1, .inr (7, [.ref (ad 2), .ref (ad 20), .ref (ad 22), .ref (ad 24), .ref (ad 16), .ref (ad 31), .ref (ad 33), .ref (ad 35), .ref (ad 40), .ref (ad 45), .int (zI (σ35 30)), .int (zI (σ35 31)), .int (zI (σ35 32)), .int (zI (σ35 33))])) := hS33.1
    show zG C V31 (1 - 1) (6 - 6) 23 [(0, .ref (ad 1)), (1, .int (zI (q)))] [.int (zI (σ25 25))]
    exact zr_iret X rfl ⟨σ25 25, σ35, rfl, hS33, fx36, ⟨by omega, by rw [σ25e, zly_ne (by omega), zf_eq], by rw [σ35e, σ25e]⟩⟩ dX6_keep_23
set_option maxRecDepth 100000 in
set_option maxHeartbeats 4000000 in
theorem m_X6_load (l : Launch) (hlt : l.stackTraces = false) (Γ : zGam) {V : zV} {ad : Nat → Nat} {σ : Nat → Int} {q : Int} (hS : zS Γ V ad σ) (hq : -2147483648 ≤ q ∧ q ≤ 2147483647) : zN l Γ 8 yX6_load wsX6_load 1 6 V [.ref (ad 1), .int (zI (q))] (fun rv V' => ∃ (y : Int) (σ' : Nat → Int), rv = some (.int (zI y)) ∧ zS Γ V' ad σ' ∧ zfx V V' ∧ ((0 ≤ q ∧ q ≤ 7) ∧ y = zsz σ q ∧ σ' = zdn (zly (zf σ 24 (zsz σ q)) 100 (zsz σ q).toNat (zsg σ q)))) (fun E V' => V' = V ∧ ((E = zIO ∧ ¬ (0 ≤ q ∧ q ≤ 7)) ∨ (E = zIA ∧ False))) := by
  have w0 : Cond.fieldLink RX6 20 "Sashwords" "builder" "LSashwords$Script;" ∈ wsX6_load := by decide +kernel
  have iX6 : ∀ w ∈ u_ws RX6 TX6 14, w ∈ wsX6_load := by decide +kernel
  refine zN_of (cc := cX6_load) (nL := 2) (ret := (some .int)) (own := RX6) hlt (by decide +kernel) rfl rfl (Nat.le_of_ble_eq_true rfl) (fun C X Y => ?_)
  have hx1 : V (ad 1) = some (1, .inr (7, [.ref (ad 2), .ref (ad 20), .ref (ad 22), .ref (ad 24), .ref (ad 16), .ref (ad 31), .ref (ad 33), .ref (ad 35), .ref (ad 40), .ref (ad 45), .int (zI (σ 30)), .int (zI (σ 31)), .int (zI (σ 32)), .int (zI (σ 33))])) := hS.1
  show zG C V 1 6 0 [(0, .ref (ad 1)), (1, .int (zI (q)))] []
  refine zr_aload_n X 1 0 dX6_load_0 rfl rfl ?_
  refine zr_get X 4 7 1 hx1 rfl iX6 (by decide) w0 rfl rfl dX6_load_1 rfl ?_
  refine zr_aload_n X 5 0 dX6_load_4 rfl rfl ?_
  refine zr_iload_n X 6 1 dX6_load_5 rfl rfl ?_
  refine zr_callVN (kc' := 1 - 1) (ks' := 6 - 6) X Y 9 1 (m_X6_sourceOf l hlt Γ hS (q := q) (by omega)) gX6_load_X6_sourceOf rfl (by decide +kernel) rfl (by decide) hx1 rfl rfl (Nat.le_of_ble_eq_true rfl) dX6_load_6 rfl (by omega) (by omega) (fun E W hX => ⟨hX.2.2, Or.inl ⟨hX.1, by have := hX.2.1; omega⟩⟩) (fun rv2 V3 hp4 => ?_)
  obtain ⟨hp4a, hp4b, hp4c⟩ := hp4
  rw [hp4b, hp4c]
  obtain ⟨t5r, t5to, t5tr, t5e, t5e2, t5h, t5T, t5o, t5q, t5c, t5a, t5b, t5z⟩ := hS.txt (q := q) (by omega)
  have t5g := t5T.rg
  show zG C V (1 - 1) (6 - 6) 9 [(0, .ref (ad 1)), (1, .int (zI (q)))] [.ref (zso ad q), .ref (ad 20)]
  by_cases sq6 : q = 6
  · skip
    have sq6e : zso ad q = ad 20 := by rw [sq6]; exact zso6
    rw [sq6e]
    refine zr_callVe (kc' := (1 - 1)) (ks' := (6 - 6)) X 12 1 (f_becomeText_eq l Γ hS.2.2.2.2.1.1) gX6_load_X2_becomeText rfl (by decide +kernel) rfl (by decide) hS.2.2.2.2.1.1.cl rfl rfl (Nat.le_of_ble_eq_true rfl) dX6_load_9 rfl (by omega) (by omega) (fun rv7 V8 hp9 => ?_)
    rw [hp9.1, hp9.2]
    show zG C V (1 - 1) (6 - 6) 12 [(0, .ref (ad 1)), (1, .int (zI (q)))] []
    refine zr_aload_n X 13 0 dX6_load_12 rfl rfl ?_
    refine zr_aload_n X 14 0 dX6_load_13 rfl rfl ?_
    refine zr_get X 17 7 1 hx1 rfl iX6 (by decide) w0 rfl rfl dX6_load_14 rfl ?_
    refine zr_callVe (kc' := (1 - 1)) (ks' := (6 - 6)) X 20 0 (f_size l Γ hS.2.2.2.2.1.1) gX6_load_X2_size rfl (by decide +kernel) rfl (by decide) hS.2.2.2.2.1.1.cl rfl rfl (Nat.le_of_ble_eq_true rfl) dX6_load_17 rfl (by omega) (by omega) (fun rv10 V11 hp12 => ?_)
    rw [hp12.1, hp12.2]
    have hp12r := hS.2.2.2.2.1.1.rg
    show zG C V (1 - 1) (6 - 6) 20 [(0, .ref (ad 1)), (1, .int (zI (q)))] [.int (zI (σ 24)), .ref (ad 1)]
    refine zr_callVe (kc' := (1 - 1)) (ks' := (6 - 6)) X 23 1 (m_X6_done l Γ hS) gX6_load_X6_done rfl (by decide +kernel) rfl (by decide) hS.x rfl rfl (Nat.le_of_ble_eq_true rfl) dX6_load_20 rfl (by omega) (by omega) (fun rv13 V14 hp15 => ?_)
    obtain ⟨hp15e, hS16, fx17⟩ := hp15
    rw [hp15e]
    obtain ⟨σ18, σ18e⟩ : ∃ zz9 : Nat → Int, zz9 = zdn σ := ⟨_, rfl⟩
    rw [← σ18e] at hS16
    have hx19 : V14 (ad 1) = some (1, .inr (7, [.ref (ad 2), .ref (ad 20), .ref (ad 22), .ref (ad 24), .ref (ad 16), .ref (ad 31), .ref (ad 33), .ref (ad 35), .ref (ad 40), .ref (ad 45), .int (zI (σ18 30)), .int (zI (σ18 31)), .int (zI (σ18 32)), .int (zI (σ18 33))])) := hS16.1
    show zG C V14 (1 - 1) (6 - 6) 23 [(0, .ref (ad 1)), (1, .int (zI (q)))] [.int (zI (σ 24))]
    exact zr_iret X rfl ⟨σ 24, σ18, rfl, hS16, fx17, ⟨by omega, by rw [sq6, zsz6], by rw [σ18e, sq6, zsz6, zf_id, zly_id6]⟩⟩ dX6_load_23
  · skip
    refine zr_callVe (kc' := (1 - 1)) (ks' := (6 - 6)) X 12 1 (gB_textT l Γ hS t5T t5o t5q (by omega) (by omega) t5z) gX6_load_X2_becomeText rfl (by decide +kernel) rfl (by decide) hS.2.2.2.2.1.1.cl rfl rfl (Nat.le_of_ble_eq_true rfl) dX6_load_9 rfl (by omega) (by omega) (fun rv20 V21 hp22 => ?_)
    obtain ⟨hp22e, hS23, fx24⟩ := hp22
    rw [hp22e]
    obtain ⟨σ25, σ25e⟩ : ∃ zz9 : Nat → Int, zz9 = zly (zf σ 24 (zsz σ q)) 100 (zsz σ q).toNat (zsg σ q) := ⟨_, rfl⟩
    rw [← σ25e] at hS23
    have hx26 : V21 (ad 1) = some (1, .inr (7, [.ref (ad 2), .ref (ad 20), .ref (ad 22), .ref (ad 24), .ref (ad 16), .ref (ad 31), .ref (ad 33), .ref (ad 35), .ref (ad 40), .ref (ad 45), .int (zI (σ25 30)), .int (zI (σ25 31)), .int (zI (σ25 32)), .int (zI (σ25 33))])) := hS23.1
    show zG C V21 (1 - 1) (6 - 6) 12 [(0, .ref (ad 1)), (1, .int (zI (q)))] []
    refine zr_aload_n X 13 0 dX6_load_12 rfl rfl ?_
    refine zr_aload_n X 14 0 dX6_load_13 rfl rfl ?_
    refine zr_get X 17 7 1 hx26 rfl iX6 (by decide) w0 rfl rfl dX6_load_14 rfl ?_
    refine zr_callVe (kc' := (1 - 1)) (ks' := (6 - 6)) X 20 0 (f_size l Γ hS23.2.2.2.2.1.1) gX6_load_X2_size rfl (by decide +kernel) rfl (by decide) hS23.2.2.2.2.1.1.cl rfl rfl (Nat.le_of_ble_eq_true rfl) dX6_load_17 rfl (by omega) (by omega) (fun rv27 V28 hp29 => ?_)
    rw [hp29.1, hp29.2]
    have hp29r := hS23.2.2.2.2.1.1.rg
    show zG C V21 (1 - 1) (6 - 6) 20 [(0, .ref (ad 1)), (1, .int (zI (q)))] [.int (zI (σ25 24)), .ref (ad 1)]
    refine zr_callVe (kc' := (1 - 1)) (ks' := (6 - 6)) X 23 1 (m_X6_done l Γ hS23) gX6_load_X6_done rfl (by decide +kernel) rfl (by decide) hS23.x rfl rfl (Nat.le_of_ble_eq_true rfl) dX6_load_20 rfl (by omega) (by omega) (fun rv30 V31 hp32 => ?_)
    obtain ⟨hp32e, hS33, fx34⟩ := hp32
    rw [hp32e]
    obtain ⟨σ35, σ35e⟩ : ∃ zz9 : Nat → Int, zz9 = zdn σ25 := ⟨_, rfl⟩
    rw [← σ35e] at hS33
    have fx36 := zag.tr fx24 fx34
    have hx37 : V31 (ad 1) = some (1, .inr (7, [.ref (ad 2), .ref (ad 20), .ref (ad 22), .ref (ad 24), .ref (ad 16), .ref (ad 31), .ref (ad 33), .ref (ad 35), .ref (ad 40), .ref (ad 45), .int (zI (σ35 30)), .int (zI (σ35 31)), .int (zI (σ35 32)), .int (zI (σ35 33))])) := hS33.1
    show zG C V31 (1 - 1) (6 - 6) 23 [(0, .ref (ad 1)), (1, .int (zI (q)))] [.int (zI (σ25 24))]
    exact zr_iret X rfl ⟨σ25 24, σ35, rfl, hS33, fx36, ⟨by omega, by rw [σ25e, zly_ne (by omega), zf_eq], by rw [σ35e, σ25e]⟩⟩ dX6_load_23
set_option maxRecDepth 100000 in
set_option maxHeartbeats 4000000 in
theorem m_X6_build (l : Launch) (hlt : l.stackTraces = false) (Γ : zGam) {V : zV} {ad : Nat → Nat} {σ : Nat → Int} {q : Int} (hS : zS Γ V ad σ) (hq : -2147483648 ≤ q ∧ q ≤ 2147483647) : zN l Γ 8 yX6_build wsX6_build 2 12 V [.ref (ad 1), .int (zI (q))] (fun rv V' => ∃ (y : Int) (σ' : Nat → Int), rv = some (.int (zI y)) ∧ zS Γ V' ad σ' ∧ zfx V V' ∧ ((0 ≤ q ∧ q ≤ 7) ∧ σ 24 + zsz σ q ≤ 80 ∧ y = σ 24 + zsz σ q ∧ σ' = zdn (zly (zf σ 24 (σ 24 + zsz σ q)) (100 + (σ 24).toNat) (zsz σ q).toNat (zsg σ q)))) (fun E V' => V' = V ∧ ((E = zIO ∧ ¬ (0 ≤ q ∧ q ≤ 7)) ∨ (E = zIS ∧ (0 ≤ q ∧ q ≤ 7) ∧ ¬ (σ 24 + zsz σ q ≤ 80)))) := by
  have w0 : Cond.fieldLink RX6 20 "Sashwords" "builder" "LSashwords$Script;" ∈ wsX6_build := by decide +kernel
  have iX6 : ∀ w ∈ u_ws RX6 TX6 14, w ∈ wsX6_build := by decide +kernel
  refine zN_of (cc := cX6_build) (nL := 3) (ret := (some .int)) (own := RX6) hlt (by decide +kernel) rfl rfl (Nat.le_of_ble_eq_true rfl) (fun C X Y => ?_)
  have hx1 : V (ad 1) = some (1, .inr (7, [.ref (ad 2), .ref (ad 20), .ref (ad 22), .ref (ad 24), .ref (ad 16), .ref (ad 31), .ref (ad 33), .ref (ad 35), .ref (ad 40), .ref (ad 45), .int (zI (σ 30)), .int (zI (σ 31)), .int (zI (σ 32)), .int (zI (σ 33))])) := hS.1
  show zG C V 2 12 0 [(0, .ref (ad 1)), (1, .int (zI (q)))] []
  refine zr_aload_n X 1 0 dX6_build_0 rfl rfl ?_
  refine zr_iload_n X 2 1 dX6_build_1 rfl rfl ?_
  refine zr_callVN (kc' := 2 - 1) (ks' := 12 - 6) X Y 5 1 (m_X6_sourceOf l hlt Γ hS (q := q) (by omega)) gX6_build_X6_sourceOf rfl (by decide +kernel) rfl (by decide) hx1 rfl rfl (Nat.le_of_ble_eq_true rfl) dX6_build_2 rfl (by omega) (by omega) (fun E W hX => ⟨hX.2.2, Or.inl ⟨hX.1, by have := hX.2.1; omega⟩⟩) (fun rv2 V3 hp4 => ?_)
  obtain ⟨hp4a, hp4b, hp4c⟩ := hp4
  rw [hp4b, hp4c]
  obtain ⟨t5r, t5to, t5tr, t5e, t5e2, t5h, t5T, t5o, t5q, t5c, t5a, t5b, t5z⟩ := hS.txt (q := q) (by omega)
  have t5g := t5T.rg
  show zG C V (2 - 1) (12 - 6) 5 [(0, .ref (ad 1)), (1, .int (zI (q)))] [.ref (zso ad q)]
  refine zr_astore_n X 6 [(2, .ref (zso ad q)), (0, .ref (ad 1)), (1, .int (zI (q)))] dX6_build_5 rfl (by decide) rfl ?_
  refine zr_aload_n X 7 1 dX6_build_6 rfl rfl ?_
  refine zr_get X 10 7 1 hx1 rfl iX6 (by decide) w0 rfl rfl dX6_build_7 rfl ?_
  refine zr_callVe (kc' := (2 - 1)) (ks' := (12 - 6)) X 13 0 (f_size l Γ hS.2.2.2.2.1.1) gX6_build_X2_size rfl (by decide +kernel) rfl (by decide) hS.2.2.2.2.1.1.cl rfl rfl (Nat.le_of_ble_eq_true rfl) dX6_build_10 rfl (by omega) (by omega) (fun rv6 V7 hp8 => ?_)
  rw [hp8.1, hp8.2]
  have hp8r := hS.2.2.2.2.1.1.rg
  show zG C V (2 - 1) (12 - 6) 13 [(2, .ref (zso ad q)), (0, .ref (ad 1)), (1, .int (zI (q)))] [.int (zI (σ 24))]
  refine zr_aload_n X 14 0 dX6_build_13 rfl rfl ?_
  refine zr_txSize X 17 t5T gX6_build_X5_size_u165X5 gX6_build_X2_size_u165X2 (by decide) (Nat.le_of_ble_eq_true rfl) dX6_build_14 rfl ?_
  refine zr_iadd X 18 dX6_build_17 rfl ?_
  refine zr_bipush X 20 (80) dX6_build_18 rfl (by decide) ?_
  refine zr_callSN (kc' := (2 - 1) - 1) (ks' := (12 - 6) - 6) X Y 23 2 (m_X6_requireRoom l hlt Γ (V := V) (x := (σ 24) + (zsz σ q)) (b := 80) (by omega) (by omega)) gX6_build_X6_requireRoom rfl (by decide +kernel) rfl (by decide) rfl (Nat.le_of_ble_eq_true rfl) dX6_build_20 rfl (by omega) (by omega) (fun E W hX => ⟨hX.2.2, Or.inr ⟨hX.1, by have := hX.2.1; omega⟩⟩) (fun rv9 V10 hp11 => ?_)
  obtain ⟨hp11a, hp11b, hp11c⟩ := hp11
  rw [hp11b, hp11c]
  have hroom := hp11a
  show zG C V ((2 - 1) - 1) ((12 - 6) - 6) 23 [(2, .ref (zso ad q)), (0, .ref (ad 1)), (1, .int (zI (q)))] []
  refine zr_aload_n X 24 1 dX6_build_23 rfl rfl ?_
  refine zr_get X 27 7 1 hx1 rfl iX6 (by decide) w0 rfl rfl dX6_build_24 rfl ?_
  refine zr_aload_n X 28 0 dX6_build_27 rfl rfl ?_
  by_cases sq12 : q = 6
  · skip
    have sq12e : zso ad q = ad 20 := by rw [sq12]; exact zso6
    rw [sq12e]
    refine zr_callVe (kc' := ((2 - 1) - 1)) (ks' := ((12 - 6) - 6)) X 31 1 (gB_append_eq l Γ hS (by rw [sq12, zsz6] at hroom; omega)) gX6_build_X2_append rfl (by decide +kernel) rfl (by decide) hS.2.2.2.2.1.1.cl rfl rfl (Nat.le_of_ble_eq_true rfl) dX6_build_28 rfl (by omega) (by omega) (fun rv13 V14 hp15 => ?_)
    obtain ⟨hp15e, hS16, fx17⟩ := hp15
    rw [hp15e]
    obtain ⟨σ18, σ18e⟩ : ∃ zz9 : Nat → Int, zz9 = zly (zf σ 24 (σ 24 + σ 24)) (100 + (σ 24).toNat) (σ 24).toNat (zsg σ 6) := ⟨_, rfl⟩
    rw [← σ18e] at hS16
    have hx19 : V14 (ad 1) = some (1, .inr (7, [.ref (ad 2), .ref (ad 20), .ref (ad 22), .ref (ad 24), .ref (ad 16), .ref (ad 31), .ref (ad 33), .ref (ad 35), .ref (ad 40), .ref (ad 45), .int (zI (σ18 30)), .int (zI (σ18 31)), .int (zI (σ18 32)), .int (zI (σ18 33))])) := hS16.1
    show zG C V14 ((2 - 1) - 1) ((12 - 6) - 6) 31 [(2, .ref (ad 20)), (0, .ref (ad 1)), (1, .int (zI (q)))] []
    refine zr_aload_n X 32 1 dX6_build_31 rfl rfl ?_
    refine zr_aload_n X 33 1 dX6_build_32 rfl rfl ?_
    refine zr_get X 36 7 1 hx19 rfl iX6 (by decide) w0 rfl rfl dX6_build_33 rfl ?_
    refine zr_callVe (kc' := ((2 - 1) - 1)) (ks' := ((12 - 6) - 6)) X 39 0 (f_size l Γ hS16.2.2.2.2.1.1) gX6_build_X2_size rfl (by decide +kernel) rfl (by decide) hS16.2.2.2.2.1.1.cl rfl rfl (Nat.le_of_ble_eq_true rfl) dX6_build_36 rfl (by omega) (by omega) (fun rv20 V21 hp22 => ?_)
    rw [hp22.1, hp22.2]
    have hp22r := hS16.2.2.2.2.1.1.rg
    show zG C V14 ((2 - 1) - 1) ((12 - 6) - 6) 39 [(2, .ref (ad 20)), (0, .ref (ad 1)), (1, .int (zI (q)))] [.int (zI (σ18 24)), .ref (ad 1)]
    refine zr_callVe (kc' := ((2 - 1) - 1)) (ks' := ((12 - 6) - 6)) X 42 1 (m_X6_done l Γ hS16) gX6_build_X6_done rfl (by decide +kernel) rfl (by decide) hS16.x rfl rfl (Nat.le_of_ble_eq_true rfl) dX6_build_39 rfl (by omega) (by omega) (fun rv23 V24 hp25 => ?_)
    obtain ⟨hp25e, hS26, fx27⟩ := hp25
    rw [hp25e]
    obtain ⟨σ28, σ28e⟩ : ∃ zz9 : Nat → Int, zz9 = zdn σ18 := ⟨_, rfl⟩
    rw [← σ28e] at hS26
    have fx29 := zag.tr fx17 fx27
    have hx30 : V24 (ad 1) = some (1, .inr (7, [.ref (ad 2), .ref (ad 20), .ref (ad 22), .ref (ad 24), .ref (ad 16), .ref (ad 31), .ref (ad 33), .ref (ad 35), .ref (ad 40), .ref (ad 45), .int (zI (σ28 30)), .int (zI (σ28 31)), .int (zI (σ28 32)), .int (zI (σ28 33))])) := hS26.1
    show zG C V24 ((2 - 1) - 1) ((12 - 6) - 6) 42 [(2, .ref (ad 20)), (0, .ref (ad 1)), (1, .int (zI (q)))] [.int (zI (σ18 24))]
    exact zr_iret X rfl ⟨σ18 24, σ28, rfl, hS26, fx29, ⟨by omega, hroom, by rw [σ18e, zly_ne (by omega), zf_eq, sq12, zsz6], by rw [σ28e, σ18e, sq12, zsz6]⟩⟩ dX6_build_42
  · skip
    refine zr_callVe (kc' := ((2 - 1) - 1)) (ks' := ((12 - 6) - 6)) X 31 1 (gB_appendT l Γ hS t5T t5o t5q (by omega) (by omega) t5z) gX6_build_X2_append rfl (by decide +kernel) rfl (by decide) hS.2.2.2.2.1.1.cl rfl rfl (Nat.le_of_ble_eq_true rfl) dX6_build_28 rfl (by omega) (by omega) (fun rv31 V32 hp33 => ?_)
    obtain ⟨hp33e, hS34, fx35⟩ := hp33
    rw [hp33e]
    obtain ⟨σ36, σ36e⟩ : ∃ zz9 : Nat → Int, zz9 = zly (zf σ 24 (σ 24 + zsz σ q)) (100 + (σ 24).toNat) (zsz σ q).toNat (zsg σ q) := ⟨_, rfl⟩
    rw [← σ36e] at hS34
    have hx37 : V32 (ad 1) = some (1, .inr (7, [.ref (ad 2), .ref (ad 20), .ref (ad 22), .ref (ad 24), .ref (ad 16), .ref (ad 31), .ref (ad 33), .ref (ad 35), .ref (ad 40), .ref (ad 45), .int (zI (σ36 30)), .int (zI (σ36 31)), .int (zI (σ36 32)), .int (zI (σ36 33))])) := hS34.1
    show zG C V32 ((2 - 1) - 1) ((12 - 6) - 6) 31 [(2, .ref (zso ad q)), (0, .ref (ad 1)), (1, .int (zI (q)))] []
    refine zr_aload_n X 32 1 dX6_build_31 rfl rfl ?_
    refine zr_aload_n X 33 1 dX6_build_32 rfl rfl ?_
    refine zr_get X 36 7 1 hx37 rfl iX6 (by decide) w0 rfl rfl dX6_build_33 rfl ?_
    refine zr_callVe (kc' := ((2 - 1) - 1)) (ks' := ((12 - 6) - 6)) X 39 0 (f_size l Γ hS34.2.2.2.2.1.1) gX6_build_X2_size rfl (by decide +kernel) rfl (by decide) hS34.2.2.2.2.1.1.cl rfl rfl (Nat.le_of_ble_eq_true rfl) dX6_build_36 rfl (by omega) (by omega) (fun rv38 V39 hp40 => ?_)
    rw [hp40.1, hp40.2]
    have hp40r := hS34.2.2.2.2.1.1.rg
    show zG C V32 ((2 - 1) - 1) ((12 - 6) - 6) 39 [(2, .ref (zso ad q)), (0, .ref (ad 1)), (1, .int (zI (q)))] [.int (zI (σ36 24)), .ref (ad 1)]
    refine zr_callVe (kc' := ((2 - 1) - 1)) (ks' := ((12 - 6) - 6)) X 42 1 (m_X6_done l Γ hS34) gX6_build_X6_done rfl (by decide +kernel) rfl (by decide) hS34.x rfl rfl (Nat.le_of_ble_eq_true rfl) dX6_build_39 rfl (by omega) (by omega) (fun rv41 V42 hp43 => ?_)
    obtain ⟨hp43e, hS44, fx45⟩ := hp43
    rw [hp43e]
    obtain ⟨σ46, σ46e⟩ : ∃ zz9 : Nat → Int, zz9 = zdn σ36 := ⟨_, rfl⟩
    rw [← σ46e] at hS44
    have fx47 := zag.tr fx35 fx45
    have hx48 : V42 (ad 1) = some (1, .inr (7, [.ref (ad 2), .ref (ad 20), .ref (ad 22), .ref (ad 24), .ref (ad 16), .ref (ad 31), .ref (ad 33), .ref (ad 35), .ref (ad 40), .ref (ad 45), .int (zI (σ46 30)), .int (zI (σ46 31)), .int (zI (σ46 32)), .int (zI (σ46 33))])) := hS44.1
    show zG C V42 ((2 - 1) - 1) ((12 - 6) - 6) 42 [(2, .ref (zso ad q)), (0, .ref (ad 1)), (1, .int (zI (q)))] [.int (zI (σ36 24))]
    exact zr_iret X rfl ⟨σ36 24, σ46, rfl, hS44, fx47, ⟨by omega, hroom, by rw [σ36e, zly_ne (by omega), zf_eq], by rw [σ46e, σ36e]⟩⟩ dX6_build_42
set_option maxRecDepth 100000 in
set_option maxHeartbeats 4000000 in
theorem m_X6_turn (l : Launch) (Γ : zGam) {V : zV} {ad : Nat → Nat} {σ : Nat → Int} (hS : zS Γ V ad σ) : zM l Γ 8 yX6_turn wsX6_turn 0 0 V [.ref (ad 1)] (fun rv V' => ∃ (y : Int) (σ' : Nat → Int), rv = some (.int (zI y)) ∧ zS Γ V' ad σ' ∧ zfx V V' ∧ (y = σ 24 ∧ σ' = zdn (zrt σ (σ 24).toNat))) := by
  have w0 : Cond.fieldLink RX6 20 "Sashwords" "builder" "LSashwords$Script;" ∈ wsX6_turn := by decide +kernel
  have iX6 : ∀ w ∈ u_ws RX6 TX6 14, w ∈ wsX6_turn := by decide +kernel
  refine zM_of (cc := cX6_turn) (nL := 1) (ret := (some .int)) (own := RX6) (by decide +kernel) rfl rfl (Nat.le_of_ble_eq_true rfl) (fun C X hi0 => ?_)
  have hx1 : V (ad 1) = some (1, .inr (7, [.ref (ad 2), .ref (ad 20), .ref (ad 22), .ref (ad 24), .ref (ad 16), .ref (ad 31), .ref (ad 33), .ref (ad 35), .ref (ad 40), .ref (ad 45), .int (zI (σ 30)), .int (zI (σ 31)), .int (zI (σ 32)), .int (zI (σ 33))])) := hS.1
  show zG C V 0 0 0 [(0, .ref (ad 1))] []
  refine zr_aload_n X 1 0 dX6_turn_0 rfl rfl ?_
  refine zr_get X 4 7 1 hx1 rfl iX6 (by decide) w0 rfl rfl dX6_turn_1 rfl ?_
  refine zr_callVe (kc' := 0) (ks' := 0) X 7 0 (gB_turn l Γ hS) gX6_turn_X2_turnRound rfl (by decide +kernel) rfl (by decide) hS.2.2.2.2.1.1.cl rfl rfl (Nat.le_of_ble_eq_true rfl) dX6_turn_4 rfl (by omega) (by omega) (fun rv2 V3 hp4 => ?_)
  obtain ⟨hp4e, hS5, fx6⟩ := hp4
  rw [hp4e]
  obtain ⟨σ7, σ7e⟩ : ∃ zz9 : Nat → Int, zz9 = zrt σ (σ 24).toNat := ⟨_, rfl⟩
  rw [← σ7e] at hS5
  have hx8 : V3 (ad 1) = some (1, .inr (7, [.ref (ad 2), .ref (ad 20), .ref (ad 22), .ref (ad 24), .ref (ad 16), .ref (ad 31), .ref (ad 33), .ref (ad 35), .ref (ad 40), .ref (ad 45), .int (zI (σ7 30)), .int (zI (σ7 31)), .int (zI (σ7 32)), .int (zI (σ7 33))])) := hS5.1
  show zG C V3 0 0 7 [(0, .ref (ad 1))] []
  refine zr_aload_n X 8 0 dX6_turn_7 rfl rfl ?_
  refine zr_aload_n X 9 0 dX6_turn_8 rfl rfl ?_
  refine zr_get X 12 7 1 hx8 rfl iX6 (by decide) w0 rfl rfl dX6_turn_9 rfl ?_
  refine zr_callVe (kc' := 0) (ks' := 0) X 15 0 (f_size l Γ hS5.2.2.2.2.1.1) gX6_turn_X2_size rfl (by decide +kernel) rfl (by decide) hS5.2.2.2.2.1.1.cl rfl rfl (Nat.le_of_ble_eq_true rfl) dX6_turn_12 rfl (by omega) (by omega) (fun rv9 V10 hp11 => ?_)
  rw [hp11.1, hp11.2]
  have hp11r := hS5.2.2.2.2.1.1.rg
  show zG C V3 0 0 15 [(0, .ref (ad 1))] [.int (zI (σ7 24)), .ref (ad 1)]
  refine zr_callVe (kc' := 0) (ks' := 0) X 18 1 (m_X6_done l Γ hS5) gX6_turn_X6_done rfl (by decide +kernel) rfl (by decide) hS5.x rfl rfl (Nat.le_of_ble_eq_true rfl) dX6_turn_15 rfl (by omega) (by omega) (fun rv12 V13 hp14 => ?_)
  obtain ⟨hp14e, hS15, fx16⟩ := hp14
  rw [hp14e]
  obtain ⟨σ17, σ17e⟩ : ∃ zz9 : Nat → Int, zz9 = zdn σ7 := ⟨_, rfl⟩
  rw [← σ17e] at hS15
  have fx18 := zag.tr fx6 fx16
  have hx19 : V13 (ad 1) = some (1, .inr (7, [.ref (ad 2), .ref (ad 20), .ref (ad 22), .ref (ad 24), .ref (ad 16), .ref (ad 31), .ref (ad 33), .ref (ad 35), .ref (ad 40), .ref (ad 45), .int (zI (σ17 30)), .int (zI (σ17 31)), .int (zI (σ17 32)), .int (zI (σ17 33))])) := hS15.1
  show zG C V13 0 0 18 [(0, .ref (ad 1))] [.int (zI (σ7 24))]
  exact zr_iret X rfl ⟨σ7 24, σ17, rfl, hS15, fx18, ⟨by rw [σ7e]; exact zrt_lo (by decide), by rw [σ17e, σ7e]⟩⟩ dX6_turn_18
set_option maxRecDepth 100000 in
set_option maxHeartbeats 4000000 in
theorem m_X6_change (l : Launch) (hlt : l.stackTraces = false) (Γ : zGam) {V : zV} {ad : Nat → Nat} {σ : Nat → Int} {q x : Int} (hS : zS Γ V ad σ) (hq : -2147483648 ≤ q ∧ q ≤ 2147483647) (hx : -2147483648 ≤ x ∧ x ≤ 2147483647) : zN l Γ 8 yX6_change wsX6_change 2 12 V [.ref (ad 1), .int (zI (q)), .int (zI (x))] (fun rv V' => ∃ (y : Int) (σ' : Nat → Int), rv = some (.int (zI y)) ∧ zS Γ V' ad σ' ∧ zfx V V' ∧ ((0 ≤ q ∧ q < σ 24 ∧ 0 ≤ x ∧ x ≤ 255) ∧ y = σ (100 + q.toNat) ∧ σ' = zdn (zf σ (100 + q.toNat) x))) (fun E V' => V' = V ∧ ((E = zIO ∧ ¬ (0 ≤ q ∧ q < σ 24)) ∨ (E = zIA ∧ (0 ≤ q ∧ q < σ 24) ∧ ¬ (0 ≤ x ∧ x ≤ 255)))) := by
  have w0 : Cond.fieldLink RX6 20 "Sashwords" "builder" "LSashwords$Script;" ∈ wsX6_change := by decide +kernel
  have iX6 : ∀ w ∈ u_ws RX6 TX6 14, w ∈ wsX6_change := by decide +kernel
  refine zN_of (cc := cX6_change) (nL := 3) (ret := (some .int)) (own := RX6) hlt (by decide +kernel) rfl rfl (Nat.le_of_ble_eq_true rfl) (fun C X Y => ?_)
  have hx1 : V (ad 1) = some (1, .inr (7, [.ref (ad 2), .ref (ad 20), .ref (ad 22), .ref (ad 24), .ref (ad 16), .ref (ad 31), .ref (ad 33), .ref (ad 35), .ref (ad 40), .ref (ad 45), .int (zI (σ 30)), .int (zI (σ 31)), .int (zI (σ 32)), .int (zI (σ 33))])) := hS.1
  show zG C V 2 12 0 [(0, .ref (ad 1)), (1, .int (zI (q))), (2, .int (zI (x)))] []
  refine zr_iload_n X 1 1 dX6_change_0 rfl rfl ?_
  refine zr_aload_n X 2 0 dX6_change_1 rfl rfl ?_
  refine zr_get X 5 7 1 hx1 rfl iX6 (by decide) w0 rfl rfl dX6_change_2 rfl ?_
  refine zr_callVe (kc' := 2) (ks' := 12) X 8 0 (f_size l Γ hS.2.2.2.2.1.1) gX6_change_X2_size rfl (by decide +kernel) rfl (by decide) hS.2.2.2.2.1.1.cl rfl rfl (Nat.le_of_ble_eq_true rfl) dX6_change_5 rfl (by omega) (by omega) (fun rv2 V3 hp4 => ?_)
  rw [hp4.1, hp4.2]
  have hp4r := hS.2.2.2.2.1.1.rg
  show zG C V 2 12 8 [(0, .ref (ad 1)), (1, .int (zI (q))), (2, .int (zI (x)))] [.int (zI (σ 24)), .int (zI (q))]
  refine zr_callSN (kc' := 2 - 1) (ks' := 12 - 6) X Y 11 2 (m_X6_requirePlace l hlt Γ (V := V) (p := q) (n := σ 24) (by omega) (by omega)) gX6_change_X6_requirePlace rfl (by decide +kernel) rfl (by decide) rfl (Nat.le_of_ble_eq_true rfl) dX6_change_8 rfl (by omega) (by omega) (fun E W hX => ⟨hX.2.2, Or.inl ⟨hX.1, by have := hX.2.1; omega⟩⟩) (fun rv5 V6 hp7 => ?_)
  obtain ⟨hp7a, hp7b, hp7c⟩ := hp7
  rw [hp7b, hp7c]
  show zG C V (2 - 1) (12 - 6) 11 [(0, .ref (ad 1)), (1, .int (zI (q))), (2, .int (zI (x)))] []
  refine zr_iload_n X 12 2 dX6_change_11 rfl rfl ?_
  refine zr_iconst X 13 dX6_change_12 rfl ?_
  refine zr_sipush X 16 (255) dX6_change_13 rfl (by decide) ?_
  refine zr_callSN (kc' := (2 - 1) - 1) (ks' := (12 - 6) - 6) X Y 19 3 (m_X6_requireWithin l hlt Γ (V := V) (x := x) (a := 0) (b := 255) (by omega) (by omega) (by omega)) gX6_change_X6_requireWithin rfl (by decide +kernel) rfl (by decide) rfl (Nat.le_of_ble_eq_true rfl) dX6_change_16 rfl (by omega) (by omega) (fun E W hX => ⟨hX.2.2, Or.inr ⟨hX.1, by have := hX.2.1; omega⟩⟩) (fun rv8 V9 hp10 => ?_)
  obtain ⟨hp10a, hp10b, hp10c⟩ := hp10
  rw [hp10b, hp10c]
  show zG C V ((2 - 1) - 1) ((12 - 6) - 6) 19 [(0, .ref (ad 1)), (1, .int (zI (q))), (2, .int (zI (x)))] []
  refine zr_aload_n X 20 0 dX6_change_19 rfl rfl ?_
  refine zr_aload_n X 21 0 dX6_change_20 rfl rfl ?_
  refine zr_get X 24 7 1 hx1 rfl iX6 (by decide) w0 rfl rfl dX6_change_21 rfl ?_
  refine zr_iload_n X 25 1 dX6_change_24 rfl rfl ?_
  refine zr_iload_n X 26 2 dX6_change_25 rfl rfl ?_
  refine zr_callVe (kc' := ((2 - 1) - 1)) (ks' := ((12 - 6) - 6)) X 29 2 (gB_exch l Γ hS (p := q) (x := x) (by omega) (by omega)) gX6_change_X2_exchange rfl (by decide +kernel) rfl (by decide) hS.2.2.2.2.1.1.cl rfl rfl (Nat.le_of_ble_eq_true rfl) dX6_change_26 rfl (by omega) (by omega) (fun rv11 V12 hp13 => ?_)
  obtain ⟨hp13e, hS14, fx15⟩ := hp13
  rw [hp13e]
  obtain ⟨σ16, σ16e⟩ : ∃ zz9 : Nat → Int, zz9 = zf σ (100 + (q).toNat) (x) := ⟨_, rfl⟩
  rw [← σ16e] at hS14
  have hx17 : V12 (ad 1) = some (1, .inr (7, [.ref (ad 2), .ref (ad 20), .ref (ad 22), .ref (ad 24), .ref (ad 16), .ref (ad 31), .ref (ad 33), .ref (ad 35), .ref (ad 40), .ref (ad 45), .int (zI (σ16 30)), .int (zI (σ16 31)), .int (zI (σ16 32)), .int (zI (σ16 33))])) := hS14.1
  show zG C V12 ((2 - 1) - 1) ((12 - 6) - 6) 29 [(0, .ref (ad 1)), (1, .int (zI (q))), (2, .int (zI (x)))] [.int (zI (σ (100 + (q).toNat))), .ref (ad 1)]
  refine zr_callVe (kc' := ((2 - 1) - 1)) (ks' := ((12 - 6) - 6)) X 32 1 (m_X6_done l Γ hS14) gX6_change_X6_done rfl (by decide +kernel) rfl (by decide) hS14.x rfl rfl (Nat.le_of_ble_eq_true rfl) dX6_change_29 rfl (by omega) (by omega) (fun rv18 V19 hp20 => ?_)
  obtain ⟨hp20e, hS21, fx22⟩ := hp20
  rw [hp20e]
  obtain ⟨σ23, σ23e⟩ : ∃ zz9 : Nat → Int, zz9 = zdn σ16 := ⟨_, rfl⟩
  rw [← σ23e] at hS21
  have fx24 := zag.tr fx15 fx22
  have hx25 : V19 (ad 1) = some (1, .inr (7, [.ref (ad 2), .ref (ad 20), .ref (ad 22), .ref (ad 24), .ref (ad 16), .ref (ad 31), .ref (ad 33), .ref (ad 35), .ref (ad 40), .ref (ad 45), .int (zI (σ23 30)), .int (zI (σ23 31)), .int (zI (σ23 32)), .int (zI (σ23 33))])) := hS21.1
  show zG C V19 ((2 - 1) - 1) ((12 - 6) - 6) 32 [(0, .ref (ad 1)), (1, .int (zI (q))), (2, .int (zI (x)))] [.int (zI (σ (100 + (q).toNat)))]
  exact zr_iret X rfl ⟨σ (100 + (q).toNat), σ23, rfl, hS21, fx24, ⟨by omega, rfl, by rw [σ23e, σ16e]⟩⟩ dX6_change_32
set_option maxRecDepth 100000 in
set_option maxHeartbeats 4000000 in
theorem m_X6_greatestBorder (l : Launch) (Γ : zGam) {V : zV} {ad : Nat → Nat} {σ : Nat → Int} {o r tt tr : Nat} {m : Int} {h' : Int → Int} {e e' : va_E} (hS : zS Γ V ad σ) (tT : zTx Γ V o r m h') (to : V o = some (tt, e)) (tq : V r = some (tr, e')) (tc : tt < 35 ∧ (tr < 35 ∨ tr = 50)) (tm : m ≤ 80) : zM l Γ 8 yX6_greatestBorder wsX6_greatestBorder 0 0 V [.ref (ad 1), .ref o] (fun rv V' => ∃ (y : Int) (σ' : Nat → Int), rv = some (.int (zI y)) ∧ zS Γ V' ad σ' ∧ zfx V V' ∧ (0 ≤ y ∧ y ≤ 1000 ∧ σ' = σ ∧ zgb (zaw m h') m.toNat y.toNat)) := by
  have w0 : Cond.fieldLink RX6 58 "Sashwords" "table" "LSashwords$Borders;" ∈ wsX6_greatestBorder := by decide +kernel
  have iX6 : ∀ w ∈ u_ws RX6 TX6 14, w ∈ wsX6_greatestBorder := by decide +kernel
  refine zM_of (cc := cX6_greatestBorder) (nL := 2) (ret := (some .int)) (own := RX6) (by decide +kernel) rfl rfl (Nat.le_of_ble_eq_true rfl) (fun C X hi0 => ?_)
  have hx1 : V (ad 1) = some (1, .inr (7, [.ref (ad 2), .ref (ad 20), .ref (ad 22), .ref (ad 24), .ref (ad 16), .ref (ad 31), .ref (ad 33), .ref (ad 35), .ref (ad 40), .ref (ad 45), .int (zI (σ 30)), .int (zI (σ 31)), .int (zI (σ 32)), .int (zI (σ 33))])) := hS.1
  have tg := tT.rg
  show zG C V 0 0 0 [(0, .ref (ad 1)), (1, .ref o)] []
  refine zr_aload_n X 1 0 dX6_greatestBorder_0 rfl rfl ?_
  refine zr_get X 4 7 9 hx1 rfl iX6 (by decide) w0 rfl rfl dX6_greatestBorder_1 rfl ?_
  refine zr_aload_n X 5 1 dX6_greatestBorder_4 rfl rfl ?_
  refine zr_callVe (kc' := 0) (ks' := 0) X 8 1 (g_measure l Γ hS.2.2.2.2.2.2.2.2.2.2 tT to tq (by omega) (by omega)) gX6_greatestBorder_X0_measure rfl (by decide +kernel) rfl (by decide) hS.2.2.2.2.2.2.2.2.2.2.cl rfl rfl (Nat.le_of_ble_eq_true rfl) dX6_greatestBorder_5 rfl (by omega) (by omega) (fun rv2 V3 hp4 => ?_)
  obtain ⟨hp4e, hp4w, hp4g, hp4f, hp4x, hp4z⟩ := hp4
  rw [hp4e]
  obtain ⟨hS5, fx6⟩ := hS.table hp4w (hp4g.mono (fun t ht => by omega))
  have hx7 : V3 (ad 1) = some (1, .inr (7, [.ref (ad 2), .ref (ad 20), .ref (ad 22), .ref (ad 24), .ref (ad 16), .ref (ad 31), .ref (ad 33), .ref (ad 35), .ref (ad 40), .ref (ad 45), .int (zI (σ 30)), .int (zI (σ 31)), .int (zI (σ 32)), .int (zI (σ 33))])) := hS5.1
  have t8o := hp4g _ _ _ to (by omega)
  have t8q := hp4g _ _ _ tq (by omega)
  have t8T := tT.kept (t8o.trans to.symm) (t8q.trans tq.symm)
  have t8c := tc
  have t8g := t8T.rg
  show zG C V3 0 0 8 [(0, .ref (ad 1)), (1, .ref o)] []
  refine zr_aload_n X 9 0 dX6_greatestBorder_8 rfl rfl ?_
  refine zr_get X 12 7 9 hx7 rfl iX6 (by decide) w0 rfl rfl dX6_greatestBorder_9 rfl ?_
  refine zr_aload_n X 13 1 dX6_greatestBorder_12 rfl rfl ?_
  refine zr_txSize X 16 t8T gX6_greatestBorder_X5_size_u165X5 gX6_greatestBorder_X2_size_u165X2 (by decide) (Nat.le_of_ble_eq_true rfl) dX6_greatestBorder_13 rfl ?_
  refine zr_callVe (kc' := 0) (ks' := 0) X 19 1 (g_greatestOfx l Γ hp4x (k := m) (by omega)) gX6_greatestBorder_X0_greatestOf rfl (by decide +kernel) rfl (by decide) hS5.2.2.2.2.2.2.2.2.2.2.cl rfl rfl (Nat.le_of_ble_eq_true rfl) dX6_greatestBorder_16 rfl (by omega) (by omega) (fun rv9 V10 hp11 => ?_)
  obtain ⟨hp11e, hp11v, hp11a, hp11b⟩ := hp11
  rw [hp11e, hp11v]
  show zG C V3 0 0 19 [(0, .ref (ad 1)), (1, .ref o)] [.int (zI (hp4f (m).toNat))]
  exact zr_iret X rfl ⟨hp4f (m).toNat, σ, rfl, hS5, fx6, ⟨by omega, by omega, rfl, hp4z _ (by omega)⟩⟩ dX6_greatestBorder_19
set_option maxRecDepth 100000 in
set_option maxHeartbeats 4000000 in
theorem m_X6_differ (l : Launch) (hlt : l.stackTraces = false) (Γ : zGam) {V : zV} {ad : Nat → Nat} {σ : Nat → Int} {q q2 : Int} (hS : zS Γ V ad σ) (hq : -2147483648 ≤ q ∧ q ≤ 2147483647) (hq2 : -2147483648 ≤ q2 ∧ q2 ≤ 2147483647) : zN l Γ 9 yX6_differ wsX6_differ 2 12 V [.ref (ad 1), .int (zI (q)), .int (zI (q2))] (fun rv V' => ∃ (y : Int) (σ' : Nat → Int), rv = some (.int (zI y)) ∧ zS Γ V' ad σ' ∧ zfx V V' ∧ ((0 ≤ q ∧ q ≤ 7 ∧ 0 ≤ q2 ∧ q2 ≤ 7) ∧ zfu (zsz σ q) (fun j => zsg σ q j.toNat) (zsz σ q2) (fun j => zsg σ q2 j.toNat) y ∧ σ' = σ)) (fun E V' => V' = V ∧ ((E = zIO ∧ ¬ (0 ≤ q ∧ q ≤ 7 ∧ 0 ≤ q2 ∧ q2 ≤ 7)) ∨ (E = zIA ∧ False))) := by
  refine zN_of (cc := cX6_differ) (nL := 3) (ret := (some .int)) (own := RX6) hlt (by decide +kernel) rfl rfl (Nat.le_of_ble_eq_true rfl) (fun C X Y => ?_)
  have hx1 : V (ad 1) = some (1, .inr (7, [.ref (ad 2), .ref (ad 20), .ref (ad 22), .ref (ad 24), .ref (ad 16), .ref (ad 31), .ref (ad 33), .ref (ad 35), .ref (ad 40), .ref (ad 45), .int (zI (σ 30)), .int (zI (σ 31)), .int (zI (σ 32)), .int (zI (σ 33))])) := hS.1
  show zG C V 2 12 0 [(0, .ref (ad 1)), (1, .int (zI (q))), (2, .int (zI (q2)))] []
  refine zr_aload_n X 1 0 dX6_differ_0 rfl rfl ?_
  refine zr_iload_n X 2 1 dX6_differ_1 rfl rfl ?_
  refine zr_callVN (kc' := 2 - 1) (ks' := 12 - 6) X Y 5 1 (m_X6_sourceOf l hlt Γ hS (q := q) (by omega)) gX6_differ_X6_sourceOf rfl (by decide +kernel) rfl (by decide) hx1 rfl rfl (Nat.le_of_ble_eq_true rfl) dX6_differ_2 rfl (by omega) (by omega) (fun E W hX => ⟨hX.2.2, Or.inl ⟨hX.1, by have := hX.2.1; omega⟩⟩) (fun rv2 V3 hp4 => ?_)
  obtain ⟨hp4a, hp4b, hp4c⟩ := hp4
  rw [hp4b, hp4c]
  obtain ⟨t5r, t5to, t5tr, t5e, t5e2, t5h, t5T, t5o, t5q, t5c, t5a, t5b, t5z⟩ := hS.txt (q := q) (by omega)
  have t5g := t5T.rg
  show zG C V (2 - 1) (12 - 6) 5 [(0, .ref (ad 1)), (1, .int (zI (q))), (2, .int (zI (q2)))] [.ref (zso ad q)]
  refine zr_aload_n X 6 0 dX6_differ_5 rfl rfl ?_
  refine zr_iload_n X 7 2 dX6_differ_6 rfl rfl ?_
  refine zr_callVN (kc' := (2 - 1) - 1) (ks' := (12 - 6) - 6) X Y 10 1 (m_X6_sourceOf l hlt Γ hS (q := q2) (by omega)) gX6_differ_X6_sourceOf rfl (by decide +kernel) rfl (by decide) hx1 rfl rfl (Nat.le_of_ble_eq_true rfl) dX6_differ_7 rfl (by omega) (by omega) (fun E W hX => ⟨hX.2.2, Or.inl ⟨hX.1, by have := hX.2.1; omega⟩⟩) (fun rv6 V7 hp8 => ?_)
  obtain ⟨hp8a, hp8b, hp8c⟩ := hp8
  rw [hp8b, hp8c]
  obtain ⟨t9r, t9to, t9tr, t9e, t9e2, t9h, t9T, t9o, t9q, t9c, t9a, t9b, t9z⟩ := hS.txt (q := q2) (by omega)
  have t9g := t9T.rg
  show zG C V ((2 - 1) - 1) ((12 - 6) - 6) 10 [(0, .ref (ad 1)), (1, .int (zI (q))), (2, .int (zI (q2)))] [.ref (zso ad q2), .ref (zso ad q)]
  refine zr_callS (kc' := ((2 - 1) - 1)) (ks' := ((12 - 6) - 6)) X 13 2 (m_X6_firstUnlike l Γ (V := V) t5T t9T rfl) gX6_differ_X6_firstUnlike rfl (by decide +kernel) rfl (by decide) rfl (Nat.le_of_ble_eq_true rfl) dX6_differ_10 rfl (by omega) (by omega) (fun rv10 V11 hp12 => ?_)
  obtain ⟨⟨y13, y13e, y13a, y13b, y13c⟩, y13v⟩ := hp12
  rw [y13e, y13v]
  show zG C V ((2 - 1) - 1) ((12 - 6) - 6) 13 [(0, .ref (ad 1)), (1, .int (zI (q))), (2, .int (zI (q2)))] [.int (zI (y13))]
  exact zr_iret X rfl ⟨y13, σ, rfl, hS, zag.rf, ⟨by omega, y13c.cong t5z t9z, rfl⟩⟩ dX6_differ_13
set_option maxRecDepth 100000 in
set_option maxHeartbeats 4000000 in
theorem m_X6_first (l : Launch) (hlt : l.stackTraces = false) (Γ : zGam) {V : zV} {ad : Nat → Nat} {σ : Nat → Int} {q q2 : Int} (hS : zS Γ V ad σ) (hq : -2147483648 ≤ q ∧ q ≤ 2147483647) (hq2 : -2147483648 ≤ q2 ∧ q2 ≤ 2147483647) : zN l Γ 9 yX6_first wsX6_first 2 12 V [.ref (ad 1), .int (zI (q)), .int (zI (q2))] (fun rv V' => ∃ (y : Int) (σ' : Nat → Int), rv = some (.int (zI y)) ∧ zS Γ V' ad σ' ∧ zfx V V' ∧ ((0 ≤ q ∧ q ≤ 7 ∧ 0 ≤ q2 ∧ q2 ≤ 7) ∧ zsP σ q q2 0 y ∧ σ' = σ)) (fun E V' => V' = V ∧ ((E = zIO ∧ ¬ (0 ≤ q ∧ q ≤ 7 ∧ 0 ≤ q2 ∧ q2 ≤ 7)) ∨ (E = zIA ∧ False))) := by
  have w0 : Cond.fieldLink RX6 48 "Sashwords" "road" "LSashwords$Seeker;" ∈ wsX6_first := by decide +kernel
  have iX6 : ∀ w ∈ u_ws RX6 TX6 14, w ∈ wsX6_first := by decide +kernel
  refine zN_of (cc := cX6_first) (nL := 3) (ret := (some .int)) (own := RX6) hlt (by decide +kernel) rfl rfl (Nat.le_of_ble_eq_true rfl) (fun C X Y => ?_)
  have hx1 : V (ad 1) = some (1, .inr (7, [.ref (ad 2), .ref (ad 20), .ref (ad 22), .ref (ad 24), .ref (ad 16), .ref (ad 31), .ref (ad 33), .ref (ad 35), .ref (ad 40), .ref (ad 45), .int (zI (σ 30)), .int (zI (σ 31)), .int (zI (σ 32)), .int (zI (σ 33))])) := hS.1
  show zG C V 2 12 0 [(0, .ref (ad 1)), (1, .int (zI (q))), (2, .int (zI (q2)))] []
  refine zr_aload_n X 1 0 dX6_first_0 rfl rfl ?_
  refine zr_get X 4 7 7 hx1 rfl iX6 (by decide) w0 rfl rfl dX6_first_1 rfl ?_
  refine zr_aload_n X 5 0 dX6_first_4 rfl rfl ?_
  refine zr_iload_n X 6 1 dX6_first_5 rfl rfl ?_
  refine zr_callVN (kc' := 2 - 1) (ks' := 12 - 6) X Y 9 1 (m_X6_sourceOf l hlt Γ hS (q := q) (by omega)) gX6_first_X6_sourceOf rfl (by decide +kernel) rfl (by decide) hx1 rfl rfl (Nat.le_of_ble_eq_true rfl) dX6_first_6 rfl (by omega) (by omega) (fun E W hX => ⟨hX.2.2, Or.inl ⟨hX.1, by have := hX.2.1; omega⟩⟩) (fun rv2 V3 hp4 => ?_)
  obtain ⟨hp4a, hp4b, hp4c⟩ := hp4
  rw [hp4b, hp4c]
  obtain ⟨t5r, t5to, t5tr, t5e, t5e2, t5h, t5T, t5o, t5q, t5c, t5a, t5b, t5z⟩ := hS.txt (q := q) (by omega)
  have t5g := t5T.rg
  show zG C V (2 - 1) (12 - 6) 9 [(0, .ref (ad 1)), (1, .int (zI (q))), (2, .int (zI (q2)))] [.ref (zso ad q), .ref (ad 35)]
  refine zr_aload_n X 10 0 dX6_first_9 rfl rfl ?_
  refine zr_iload_n X 11 2 dX6_first_10 rfl rfl ?_
  refine zr_callVN (kc' := (2 - 1) - 1) (ks' := (12 - 6) - 6) X Y 14 1 (m_X6_sourceOf l hlt Γ hS (q := q2) (by omega)) gX6_first_X6_sourceOf rfl (by decide +kernel) rfl (by decide) hx1 rfl rfl (Nat.le_of_ble_eq_true rfl) dX6_first_11 rfl (by omega) (by omega) (fun E W hX => ⟨hX.2.2, Or.inl ⟨hX.1, by have := hX.2.1; omega⟩⟩) (fun rv6 V7 hp8 => ?_)
  obtain ⟨hp8a, hp8b, hp8c⟩ := hp8
  rw [hp8b, hp8c]
  obtain ⟨t9r, t9to, t9tr, t9e, t9e2, t9h, t9T, t9o, t9q, t9c, t9a, t9b, t9z⟩ := hS.txt (q := q2) (by omega)
  have t9g := t9T.rg
  show zG C V ((2 - 1) - 1) ((12 - 6) - 6) 14 [(0, .ref (ad 1)), (1, .int (zI (q))), (2, .int (zI (q2)))] [.ref (zso ad q2), .ref (zso ad q), .ref (ad 35)]
  refine zr_callVe (kc' := ((2 - 1) - 1)) (ks' := ((12 - 6) - 6)) X 17 2 (g_seek l Γ hS.2.2.2.2.2.2.1 hS.2.2.2.2.2.2.2.1 t5T t5o t5q t9T t9o t9q (by omega) (by omega) (by decide) (by omega) (by omega)) gX6_first_X3_seek rfl (by decide +kernel) rfl (by decide) hS.2.2.2.2.2.2.1.cl rfl rfl (Nat.le_of_ble_eq_true rfl) dX6_first_14 rfl (by omega) (by omega) (fun rv10 V11 hp12 => ?_)
  obtain ⟨hp12e, ⟨hp12m, hp12f, hp12x, hp12z⟩, hp12w, hp12g⟩ := hp12
  rw [hp12e]
  have hp12r := hp12x.2.2.2
  obtain ⟨hS13, fx14⟩ := hS.road hp12x.sk hp12w hp12g
  have hx15 : V11 (ad 1) = some (1, .inr (7, [.ref (ad 2), .ref (ad 20), .ref (ad 22), .ref (ad 24), .ref (ad 16), .ref (ad 31), .ref (ad 33), .ref (ad 35), .ref (ad 40), .ref (ad 45), .int (zI (σ 30)), .int (zI (σ 31)), .int (zI (σ 32)), .int (zI (σ 33))])) := hS13.1
  have t16o := hp12g _ _ _ t5o (by omega)
  have t16q := hp12g _ _ _ t5q (by omega)
  have t16T := t5T.kept (t16o.trans t5o.symm) (t16q.trans t5q.symm)
  have t16c := t5c
  have t16g := t16T.rg
  have t17o := hp12g _ _ _ t9o (by omega)
  have t17q := hp12g _ _ _ t9q (by omega)
  have t17T := t9T.kept (t17o.trans t9o.symm) (t17q.trans t9q.symm)
  have t17c := t9c
  have t17g := t17T.rg
  show zG C V11 ((2 - 1) - 1) ((12 - 6) - 6) 17 [(0, .ref (ad 1)), (1, .int (zI (q))), (2, .int (zI (q2)))] []
  refine zr_aload_n X 18 0 dX6_first_17 rfl rfl ?_
  refine zr_get X 21 7 7 hx15 rfl iX6 (by decide) w0 rfl rfl dX6_first_18 rfl ?_
  refine zr_iconst X 22 dX6_first_21 rfl ?_
  refine zr_callVe (kc' := ((2 - 1) - 1)) (ks' := ((12 - 6) - 6)) X 25 1 (g_foundAtx l Γ hp12x (q := 0) (by omega)) gX6_first_X3_foundAt rfl (by decide +kernel) rfl (by decide) hS13.2.2.2.2.2.2.1.cl rfl rfl (Nat.le_of_ble_eq_true rfl) dX6_first_22 rfl (by omega) (by omega) (fun rv18 V19 hp20 => ?_)
  obtain ⟨hp20x, hp20e, hp20v, hp20a, hp20b, hp20c⟩ := hp20
  rw [hp20e, hp20v]
  show zG C V11 ((2 - 1) - 1) ((12 - 6) - 6) 25 [(0, .ref (ad 1)), (1, .int (zI (q))), (2, .int (zI (q2)))] [.int (zI (hp20x))]
  exact zr_iret X rfl ⟨hp20x, σ, rfl, hS13, fx14, ⟨by omega, (zsP.of hp12z rfl rfl t5z t9z hp20c), rfl⟩⟩ dX6_first_25
set_option maxRecDepth 100000 in
set_option maxHeartbeats 4000000 in
theorem m_X6_last (l : Launch) (hlt : l.stackTraces = false) (Γ : zGam) {V : zV} {ad : Nat → Nat} {σ : Nat → Int} {q q2 : Int} (hS : zS Γ V ad σ) (hq : -2147483648 ≤ q ∧ q ≤ 2147483647) (hq2 : -2147483648 ≤ q2 ∧ q2 ≤ 2147483647) : zN l Γ 9 yX6_last wsX6_last 2 12 V [.ref (ad 1), .int (zI (q)), .int (zI (q2))] (fun rv V' => ∃ (y : Int) (σ' : Nat → Int), rv = some (.int (zI y)) ∧ zS Γ V' ad σ' ∧ zfx V V' ∧ ((0 ≤ q ∧ q ≤ 7 ∧ 0 ≤ q2 ∧ q2 ≤ 7) ∧ zsP σ q q2 (zsN σ q q2 - 1) y ∧ σ' = σ)) (fun E V' => V' = V ∧ ((E = zIO ∧ ¬ (0 ≤ q ∧ q ≤ 7 ∧ 0 ≤ q2 ∧ q2 ≤ 7)) ∨ (E = zIA ∧ False))) := by
  have w0 : Cond.fieldLink RX6 48 "Sashwords" "road" "LSashwords$Seeker;" ∈ wsX6_last := by decide +kernel
  have iX6 : ∀ w ∈ u_ws RX6 TX6 14, w ∈ wsX6_last := by decide +kernel
  have iX3 : ∀ w ∈ u_ws RX3 TX3 3, w ∈ wsX6_last := by decide +kernel
  refine zN_of (cc := cX6_last) (nL := 3) (ret := (some .int)) (own := RX6) hlt (by decide +kernel) rfl rfl (Nat.le_of_ble_eq_true rfl) (fun C X Y => ?_)
  have hx1 : V (ad 1) = some (1, .inr (7, [.ref (ad 2), .ref (ad 20), .ref (ad 22), .ref (ad 24), .ref (ad 16), .ref (ad 31), .ref (ad 33), .ref (ad 35), .ref (ad 40), .ref (ad 45), .int (zI (σ 30)), .int (zI (σ 31)), .int (zI (σ 32)), .int (zI (σ 33))])) := hS.1
  show zG C V 2 12 0 [(0, .ref (ad 1)), (1, .int (zI (q))), (2, .int (zI (q2)))] []
  refine zr_aload_n X 1 0 dX6_last_0 rfl rfl ?_
  refine zr_get X 4 7 7 hx1 rfl iX6 (by decide) w0 rfl rfl dX6_last_1 rfl ?_
  refine zr_aload_n X 5 0 dX6_last_4 rfl rfl ?_
  refine zr_iload_n X 6 1 dX6_last_5 rfl rfl ?_
  refine zr_callVN (kc' := 2 - 1) (ks' := 12 - 6) X Y 9 1 (m_X6_sourceOf l hlt Γ hS (q := q) (by omega)) gX6_last_X6_sourceOf rfl (by decide +kernel) rfl (by decide) hx1 rfl rfl (Nat.le_of_ble_eq_true rfl) dX6_last_6 rfl (by omega) (by omega) (fun E W hX => ⟨hX.2.2, Or.inl ⟨hX.1, by have := hX.2.1; omega⟩⟩) (fun rv2 V3 hp4 => ?_)
  obtain ⟨hp4a, hp4b, hp4c⟩ := hp4
  rw [hp4b, hp4c]
  obtain ⟨t5r, t5to, t5tr, t5e, t5e2, t5h, t5T, t5o, t5q, t5c, t5a, t5b, t5z⟩ := hS.txt (q := q) (by omega)
  have t5g := t5T.rg
  show zG C V (2 - 1) (12 - 6) 9 [(0, .ref (ad 1)), (1, .int (zI (q))), (2, .int (zI (q2)))] [.ref (zso ad q), .ref (ad 35)]
  refine zr_aload_n X 10 0 dX6_last_9 rfl rfl ?_
  refine zr_iload_n X 11 2 dX6_last_10 rfl rfl ?_
  refine zr_callVN (kc' := (2 - 1) - 1) (ks' := (12 - 6) - 6) X Y 14 1 (m_X6_sourceOf l hlt Γ hS (q := q2) (by omega)) gX6_last_X6_sourceOf rfl (by decide +kernel) rfl (by decide) hx1 rfl rfl (Nat.le_of_ble_eq_true rfl) dX6_last_11 rfl (by omega) (by omega) (fun E W hX => ⟨hX.2.2, Or.inl ⟨hX.1, by have := hX.2.1; omega⟩⟩) (fun rv6 V7 hp8 => ?_)
  obtain ⟨hp8a, hp8b, hp8c⟩ := hp8
  rw [hp8b, hp8c]
  obtain ⟨t9r, t9to, t9tr, t9e, t9e2, t9h, t9T, t9o, t9q, t9c, t9a, t9b, t9z⟩ := hS.txt (q := q2) (by omega)
  have t9g := t9T.rg
  show zG C V ((2 - 1) - 1) ((12 - 6) - 6) 14 [(0, .ref (ad 1)), (1, .int (zI (q))), (2, .int (zI (q2)))] [.ref (zso ad q2), .ref (zso ad q), .ref (ad 35)]
  refine zr_callVe (kc' := ((2 - 1) - 1)) (ks' := ((12 - 6) - 6)) X 17 2 (g_seek l Γ hS.2.2.2.2.2.2.1 hS.2.2.2.2.2.2.2.1 t5T t5o t5q t9T t9o t9q (by omega) (by omega) (by decide) (by omega) (by omega)) gX6_last_X3_seek rfl (by decide +kernel) rfl (by decide) hS.2.2.2.2.2.2.1.cl rfl rfl (Nat.le_of_ble_eq_true rfl) dX6_last_14 rfl (by omega) (by omega) (fun rv10 V11 hp12 => ?_)
  obtain ⟨hp12e, ⟨hp12m, hp12f, hp12x, hp12z⟩, hp12w, hp12g⟩ := hp12
  rw [hp12e]
  have hp12r := hp12x.2.2.2
  obtain ⟨hS13, fx14⟩ := hS.road hp12x.sk hp12w hp12g
  have hx15 : V11 (ad 1) = some (1, .inr (7, [.ref (ad 2), .ref (ad 20), .ref (ad 22), .ref (ad 24), .ref (ad 16), .ref (ad 31), .ref (ad 33), .ref (ad 35), .ref (ad 40), .ref (ad 45), .int (zI (σ 30)), .int (zI (σ 31)), .int (zI (σ 32)), .int (zI (σ 33))])) := hS13.1
  have t16o := hp12g _ _ _ t5o (by omega)
  have t16q := hp12g _ _ _ t5q (by omega)
  have t16T := t5T.kept (t16o.trans t5o.symm) (t16q.trans t5q.symm)
  have t16c := t5c
  have t16g := t16T.rg
  have t17o := hp12g _ _ _ t9o (by omega)
  have t17q := hp12g _ _ _ t9q (by omega)
  have t17T := t9T.kept (t17o.trans t9o.symm) (t17q.trans t9q.symm)
  have t17c := t9c
  have t17g := t17T.rg
  show zG C V11 ((2 - 1) - 1) ((12 - 6) - 6) 17 [(0, .ref (ad 1)), (1, .int (zI (q))), (2, .int (zI (q2)))] []
  refine zr_aload_n X 18 0 dX6_last_17 rfl rfl ?_
  refine zr_get X 21 7 7 hx15 rfl iX6 (by decide) w0 rfl rfl dX6_last_18 rfl ?_
  refine zr_aload_n X 22 0 dX6_last_21 rfl rfl ?_
  refine zr_get X 25 7 7 hx15 rfl iX6 (by decide) w0 rfl rfl dX6_last_22 rfl ?_
  refine zr_getNsx X 28 hp12x iX3 rfl dX6_last_25 rfl ?_
  refine zr_iconst X 29 dX6_last_28 rfl ?_
  refine zr_isub X 30 dX6_last_29 rfl ?_
  refine zr_callVe (kc' := ((2 - 1) - 1)) (ks' := ((12 - 6) - 6)) X 33 1 (g_foundAtx l Γ hp12x (q := hp12m - 1) (by omega)) gX6_last_X3_foundAt rfl (by decide +kernel) rfl (by decide) hS13.2.2.2.2.2.2.1.cl rfl rfl (Nat.le_of_ble_eq_true rfl) dX6_last_30 rfl (by omega) (by omega) (fun rv18 V19 hp20 => ?_)
  obtain ⟨hp20x, hp20e, hp20v, hp20a, hp20b, hp20c⟩ := hp20
  rw [hp20e, hp20v]
  show zG C V11 ((2 - 1) - 1) ((12 - 6) - 6) 33 [(0, .ref (ad 1)), (1, .int (zI (q))), (2, .int (zI (q2)))] [.int (zI (hp20x))]
  have hN := (zsN.of hp12z rfl rfl t5z t9z)
  have hP := (zsP.of hp12z rfl rfl t5z t9z hp20c)
  rw [hN] at hP
  exact zr_iret X rfl ⟨hp20x, σ, rfl, hS13, fx14, ⟨by omega, hP, rfl⟩⟩ dX6_last_33
set_option maxRecDepth 100000 in
set_option maxHeartbeats 4000000 in
theorem m_X6_count (l : Launch) (hlt : l.stackTraces = false) (Γ : zGam) {V : zV} {ad : Nat → Nat} {σ : Nat → Int} {q q2 : Int} (hS : zS Γ V ad σ) (hq : -2147483648 ≤ q ∧ q ≤ 2147483647) (hq2 : -2147483648 ≤ q2 ∧ q2 ≤ 2147483647) : zN l Γ 9 yX6_count wsX6_count 2 12 V [.ref (ad 1), .int (zI (q)), .int (zI (q2))] (fun rv V' => ∃ (y : Int) (σ' : Nat → Int), rv = some (.int (zI y)) ∧ zS Γ V' ad σ' ∧ zfx V V' ∧ ((0 ≤ q ∧ q ≤ 7 ∧ 0 ≤ q2 ∧ q2 ≤ 7) ∧ y = zsN σ q q2 ∧ σ' = σ)) (fun E V' => V' = V ∧ ((E = zIO ∧ ¬ (0 ≤ q ∧ q ≤ 7 ∧ 0 ≤ q2 ∧ q2 ≤ 7)) ∨ (E = zIA ∧ False))) := by
  have w0 : Cond.fieldLink RX6 48 "Sashwords" "road" "LSashwords$Seeker;" ∈ wsX6_count := by decide +kernel
  have iX6 : ∀ w ∈ u_ws RX6 TX6 14, w ∈ wsX6_count := by decide +kernel
  have iX3 : ∀ w ∈ u_ws RX3 TX3 3, w ∈ wsX6_count := by decide +kernel
  refine zN_of (cc := cX6_count) (nL := 3) (ret := (some .int)) (own := RX6) hlt (by decide +kernel) rfl rfl (Nat.le_of_ble_eq_true rfl) (fun C X Y => ?_)
  have hx1 : V (ad 1) = some (1, .inr (7, [.ref (ad 2), .ref (ad 20), .ref (ad 22), .ref (ad 24), .ref (ad 16), .ref (ad 31), .ref (ad 33), .ref (ad 35), .ref (ad 40), .ref (ad 45), .int (zI (σ 30)), .int (zI (σ 31)), .int (zI (σ 32)), .int (zI (σ 33))])) := hS.1
  show zG C V 2 12 0 [(0, .ref (ad 1)), (1, .int (zI (q))), (2, .int (zI (q2)))] []
  refine zr_aload_n X 1 0 dX6_count_0 rfl rfl ?_
  refine zr_get X 4 7 7 hx1 rfl iX6 (by decide) w0 rfl rfl dX6_count_1 rfl ?_
  refine zr_aload_n X 5 0 dX6_count_4 rfl rfl ?_
  refine zr_iload_n X 6 1 dX6_count_5 rfl rfl ?_
  refine zr_callVN (kc' := 2 - 1) (ks' := 12 - 6) X Y 9 1 (m_X6_sourceOf l hlt Γ hS (q := q) (by omega)) gX6_count_X6_sourceOf rfl (by decide +kernel) rfl (by decide) hx1 rfl rfl (Nat.le_of_ble_eq_true rfl) dX6_count_6 rfl (by omega) (by omega) (fun E W hX => ⟨hX.2.2, Or.inl ⟨hX.1, by have := hX.2.1; omega⟩⟩) (fun rv2 V3 hp4 => ?_)
  obtain ⟨hp4a, hp4b, hp4c⟩ := hp4
  rw [hp4b, hp4c]
  obtain ⟨t5r, t5to, t5tr, t5e, t5e2, t5h, t5T, t5o, t5q, t5c, t5a, t5b, t5z⟩ := hS.txt (q := q) (by omega)
  have t5g := t5T.rg
  show zG C V (2 - 1) (12 - 6) 9 [(0, .ref (ad 1)), (1, .int (zI (q))), (2, .int (zI (q2)))] [.ref (zso ad q), .ref (ad 35)]
  refine zr_aload_n X 10 0 dX6_count_9 rfl rfl ?_
  refine zr_iload_n X 11 2 dX6_count_10 rfl rfl ?_
  refine zr_callVN (kc' := (2 - 1) - 1) (ks' := (12 - 6) - 6) X Y 14 1 (m_X6_sourceOf l hlt Γ hS (q := q2) (by omega)) gX6_count_X6_sourceOf rfl (by decide +kernel) rfl (by decide) hx1 rfl rfl (Nat.le_of_ble_eq_true rfl) dX6_count_11 rfl (by omega) (by omega) (fun E W hX => ⟨hX.2.2, Or.inl ⟨hX.1, by have := hX.2.1; omega⟩⟩) (fun rv6 V7 hp8 => ?_)
  obtain ⟨hp8a, hp8b, hp8c⟩ := hp8
  rw [hp8b, hp8c]
  obtain ⟨t9r, t9to, t9tr, t9e, t9e2, t9h, t9T, t9o, t9q, t9c, t9a, t9b, t9z⟩ := hS.txt (q := q2) (by omega)
  have t9g := t9T.rg
  show zG C V ((2 - 1) - 1) ((12 - 6) - 6) 14 [(0, .ref (ad 1)), (1, .int (zI (q))), (2, .int (zI (q2)))] [.ref (zso ad q2), .ref (zso ad q), .ref (ad 35)]
  refine zr_callVe (kc' := ((2 - 1) - 1)) (ks' := ((12 - 6) - 6)) X 17 2 (g_seek l Γ hS.2.2.2.2.2.2.1 hS.2.2.2.2.2.2.2.1 t5T t5o t5q t9T t9o t9q (by omega) (by omega) (by decide) (by omega) (by omega)) gX6_count_X3_seek rfl (by decide +kernel) rfl (by decide) hS.2.2.2.2.2.2.1.cl rfl rfl (Nat.le_of_ble_eq_true rfl) dX6_count_14 rfl (by omega) (by omega) (fun rv10 V11 hp12 => ?_)
  obtain ⟨hp12e, ⟨hp12m, hp12f, hp12x, hp12z⟩, hp12w, hp12g⟩ := hp12
  rw [hp12e]
  have hp12r := hp12x.2.2.2
  obtain ⟨hS13, fx14⟩ := hS.road hp12x.sk hp12w hp12g
  have hx15 : V11 (ad 1) = some (1, .inr (7, [.ref (ad 2), .ref (ad 20), .ref (ad 22), .ref (ad 24), .ref (ad 16), .ref (ad 31), .ref (ad 33), .ref (ad 35), .ref (ad 40), .ref (ad 45), .int (zI (σ 30)), .int (zI (σ 31)), .int (zI (σ 32)), .int (zI (σ 33))])) := hS13.1
  have t16o := hp12g _ _ _ t5o (by omega)
  have t16q := hp12g _ _ _ t5q (by omega)
  have t16T := t5T.kept (t16o.trans t5o.symm) (t16q.trans t5q.symm)
  have t16c := t5c
  have t16g := t16T.rg
  have t17o := hp12g _ _ _ t9o (by omega)
  have t17q := hp12g _ _ _ t9q (by omega)
  have t17T := t9T.kept (t17o.trans t9o.symm) (t17q.trans t9q.symm)
  have t17c := t9c
  have t17g := t17T.rg
  show zG C V11 ((2 - 1) - 1) ((12 - 6) - 6) 17 [(0, .ref (ad 1)), (1, .int (zI (q))), (2, .int (zI (q2)))] []
  refine zr_aload_n X 18 0 dX6_count_17 rfl rfl ?_
  refine zr_get X 21 7 7 hx15 rfl iX6 (by decide) w0 rfl rfl dX6_count_18 rfl ?_
  refine zr_getNsx X 24 hp12x iX3 rfl dX6_count_21 rfl ?_
  exact zr_iret X rfl ⟨hp12m, σ, rfl, hS13, fx14, ⟨by omega, (zsN.of hp12z rfl rfl t5z t9z), rfl⟩⟩ dX6_count_24
set_option maxRecDepth 100000 in
set_option maxHeartbeats 4000000 in
theorem m_X6_place (l : Launch) (hlt : l.stackTraces = false) (Γ : zGam) {V : zV} {ad : Nat → Nat} {σ : Nat → Int} {q q2 z : Int} (hS : zS Γ V ad σ) (hq : -2147483648 ≤ q ∧ q ≤ 2147483647) (hq2 : -2147483648 ≤ q2 ∧ q2 ≤ 2147483647) (hz : -2147483648 ≤ z ∧ z ≤ 2147483647) : zN l Γ 9 yX6_place wsX6_place 3 18 V [.ref (ad 1), .int (zI (q)), .int (zI (q2)), .int (zI (z))] (fun rv V' => ∃ (y : Int) (σ' : Nat → Int), rv = some (.int (zI y)) ∧ zS Γ V' ad σ' ∧ zfx V V' ∧ (((0 ≤ q ∧ q ≤ 7 ∧ 0 ≤ q2 ∧ q2 ≤ 7) ∧ 0 ≤ z ∧ z ≤ 80) ∧ zsP σ q q2 z y ∧ σ' = σ)) (fun E V' => V' = V ∧ ((E = zIO ∧ ¬ (0 ≤ q ∧ q ≤ 7 ∧ 0 ≤ q2 ∧ q2 ≤ 7)) ∨ (E = zIA ∧ (0 ≤ q ∧ q ≤ 7 ∧ 0 ≤ q2 ∧ q2 ≤ 7) ∧ ¬ (0 ≤ z ∧ z ≤ 80)))) := by
  have w0 : Cond.fieldLink RX6 48 "Sashwords" "road" "LSashwords$Seeker;" ∈ wsX6_place := by decide +kernel
  have iX6 : ∀ w ∈ u_ws RX6 TX6 14, w ∈ wsX6_place := by decide +kernel
  refine zN_of (cc := cX6_place) (nL := 6) (ret := (some .int)) (own := RX6) hlt (by decide +kernel) rfl rfl (Nat.le_of_ble_eq_true rfl) (fun C X Y => ?_)
  have hx1 : V (ad 1) = some (1, .inr (7, [.ref (ad 2), .ref (ad 20), .ref (ad 22), .ref (ad 24), .ref (ad 16), .ref (ad 31), .ref (ad 33), .ref (ad 35), .ref (ad 40), .ref (ad 45), .int (zI (σ 30)), .int (zI (σ 31)), .int (zI (σ 32)), .int (zI (σ 33))])) := hS.1
  show zG C V 3 18 0 [(0, .ref (ad 1)), (1, .int (zI (q))), (2, .int (zI (q2))), (3, .int (zI (z)))] []
  refine zr_aload_n X 1 0 dX6_place_0 rfl rfl ?_
  refine zr_iload_n X 2 1 dX6_place_1 rfl rfl ?_
  refine zr_callVN (kc' := 3 - 1) (ks' := 18 - 6) X Y 5 1 (m_X6_sourceOf l hlt Γ hS (q := q) (by omega)) gX6_place_X6_sourceOf rfl (by decide +kernel) rfl (by decide) hx1 rfl rfl (Nat.le_of_ble_eq_true rfl) dX6_place_2 rfl (by omega) (by omega) (fun E W hX => ⟨hX.2.2, Or.inl ⟨hX.1, by have := hX.2.1; omega⟩⟩) (fun rv2 V3 hp4 => ?_)
  obtain ⟨hp4a, hp4b, hp4c⟩ := hp4
  rw [hp4b, hp4c]
  obtain ⟨t5r, t5to, t5tr, t5e, t5e2, t5h, t5T, t5o, t5q, t5c, t5a, t5b, t5z⟩ := hS.txt (q := q) (by omega)
  have t5g := t5T.rg
  show zG C V (3 - 1) (18 - 6) 5 [(0, .ref (ad 1)), (1, .int (zI (q))), (2, .int (zI (q2))), (3, .int (zI (z)))] [.ref (zso ad q)]
  refine zr_astore X 7 [(4, .ref (zso ad q)), (0, .ref (ad 1)), (1, .int (zI (q))), (2, .int (zI (q2))), (3, .int (zI (z)))] dX6_place_5 rfl (by decide) rfl ?_
  refine zr_aload_n X 8 1 dX6_place_7 rfl rfl ?_
  refine zr_iload_n X 9 3 dX6_place_8 rfl rfl ?_
  refine zr_callVN (kc' := (3 - 1) - 1) (ks' := (18 - 6) - 6) X Y 12 1 (m_X6_sourceOf l hlt Γ hS (q := q2) (by omega)) gX6_place_X6_sourceOf rfl (by decide +kernel) rfl (by decide) hx1 rfl rfl (Nat.le_of_ble_eq_true rfl) dX6_place_9 rfl (by omega) (by omega) (fun E W hX => ⟨hX.2.2, Or.inl ⟨hX.1, by have := hX.2.1; omega⟩⟩) (fun rv6 V7 hp8 => ?_)
  obtain ⟨hp8a, hp8b, hp8c⟩ := hp8
  rw [hp8b, hp8c]
  obtain ⟨t9r, t9to, t9tr, t9e, t9e2, t9h, t9T, t9o, t9q, t9c, t9a, t9b, t9z⟩ := hS.txt (q := q2) (by omega)
  have t9g := t9T.rg
  show zG C V ((3 - 1) - 1) ((18 - 6) - 6) 12 [(4, .ref (zso ad q)), (0, .ref (ad 1)), (1, .int (zI (q))), (2, .int (zI (q2))), (3, .int (zI (z)))] [.ref (zso ad q2)]
  refine zr_astore X 14 [(5, .ref (zso ad q2)), (4, .ref (zso ad q)), (0, .ref (ad 1)), (1, .int (zI (q))), (2, .int (zI (q2))), (3, .int (zI (z)))] dX6_place_12 rfl (by decide) rfl ?_
  refine zr_iload_n X 15 5 dX6_place_14 rfl rfl ?_
  refine zr_iconst X 16 dX6_place_15 rfl ?_
  refine zr_bipush X 18 (80) dX6_place_16 rfl (by decide) ?_
  refine zr_callSN (kc' := ((3 - 1) - 1) - 1) (ks' := ((18 - 6) - 6) - 6) X Y 21 3 (m_X6_requireWithin l hlt Γ (V := V) (x := z) (a := 0) (b := 80) (by omega) (by omega) (by omega)) gX6_place_X6_requireWithin rfl (by decide +kernel) rfl (by decide) rfl (Nat.le_of_ble_eq_true rfl) dX6_place_18 rfl (by omega) (by omega) (fun E W hX => ⟨hX.2.2, Or.inr ⟨hX.1, by have := hX.2.1; omega⟩⟩) (fun rv10 V11 hp12 => ?_)
  obtain ⟨hp12a, hp12b, hp12c⟩ := hp12
  rw [hp12b, hp12c]
  show zG C V (((3 - 1) - 1) - 1) (((18 - 6) - 6) - 6) 21 [(5, .ref (zso ad q2)), (4, .ref (zso ad q)), (0, .ref (ad 1)), (1, .int (zI (q))), (2, .int (zI (q2))), (3, .int (zI (z)))] []
  refine zr_aload_n X 22 2 dX6_place_21 rfl rfl ?_
  refine zr_get X 25 7 7 hx1 rfl iX6 (by decide) w0 rfl rfl dX6_place_22 rfl ?_
  refine zr_aload X 27 1 dX6_place_25 rfl rfl ?_
  refine zr_aload X 29 0 dX6_place_27 rfl rfl ?_
  refine zr_callVe (kc' := (((3 - 1) - 1) - 1)) (ks' := (((18 - 6) - 6) - 6)) X 32 2 (g_seek l Γ hS.2.2.2.2.2.2.1 hS.2.2.2.2.2.2.2.1 t5T t5o t5q t9T t9o t9q (by omega) (by omega) (by decide) (by omega) (by omega)) gX6_place_X3_seek rfl (by decide +kernel) rfl (by decide) hS.2.2.2.2.2.2.1.cl rfl rfl (Nat.le_of_ble_eq_true rfl) dX6_place_29 rfl (by omega) (by omega) (fun rv13 V14 hp15 => ?_)
  obtain ⟨hp15e, ⟨hp15m, hp15f, hp15x, hp15z⟩, hp15w, hp15g⟩ := hp15
  rw [hp15e]
  have hp15r := hp15x.2.2.2
  obtain ⟨hS16, fx17⟩ := hS.road hp15x.sk hp15w hp15g
  have hx18 : V14 (ad 1) = some (1, .inr (7, [.ref (ad 2), .ref (ad 20), .ref (ad 22), .ref (ad 24), .ref (ad 16), .ref (ad 31), .ref (ad 33), .ref (ad 35), .ref (ad 40), .ref (ad 45), .int (zI (σ 30)), .int (zI (σ 31)), .int (zI (σ 32)), .int (zI (σ 33))])) := hS16.1
  have t19o := hp15g _ _ _ t5o (by omega)
  have t19q := hp15g _ _ _ t5q (by omega)
  have t19T := t5T.kept (t19o.trans t5o.symm) (t19q.trans t5q.symm)
  have t19c := t5c
  have t19g := t19T.rg
  have t20o := hp15g _ _ _ t9o (by omega)
  have t20q := hp15g _ _ _ t9q (by omega)
  have t20T := t9T.kept (t20o.trans t9o.symm) (t20q.trans t9q.symm)
  have t20c := t9c
  have t20g := t20T.rg
  show zG C V14 (((3 - 1) - 1) - 1) (((18 - 6) - 6) - 6) 32 [(5, .ref (zso ad q2)), (4, .ref (zso ad q)), (0, .ref (ad 1)), (1, .int (zI (q))), (2, .int (zI (q2))), (3, .int (zI (z)))] []
  refine zr_aload_n X 33 2 dX6_place_32 rfl rfl ?_
  refine zr_get X 36 7 7 hx18 rfl iX6 (by decide) w0 rfl rfl dX6_place_33 rfl ?_
  refine zr_iload_n X 37 5 dX6_place_36 rfl rfl ?_
  refine zr_callVe (kc' := (((3 - 1) - 1) - 1)) (ks' := (((18 - 6) - 6) - 6)) X 40 1 (g_foundAtx l Γ hp15x (q := z) (by omega)) gX6_place_X3_foundAt rfl (by decide +kernel) rfl (by decide) hS16.2.2.2.2.2.2.1.cl rfl rfl (Nat.le_of_ble_eq_true rfl) dX6_place_37 rfl (by omega) (by omega) (fun rv21 V22 hp23 => ?_)
  obtain ⟨hp23x, hp23e, hp23v, hp23a, hp23b, hp23c⟩ := hp23
  rw [hp23e, hp23v]
  show zG C V14 (((3 - 1) - 1) - 1) (((18 - 6) - 6) - 6) 40 [(5, .ref (zso ad q2)), (4, .ref (zso ad q)), (0, .ref (ad 1)), (1, .int (zI (q))), (2, .int (zI (q2))), (3, .int (zI (z)))] [.int (zI (hp23x))]
  exact zr_iret X rfl ⟨hp23x, σ, rfl, hS16, fx17, ⟨by omega, (zsP.of hp15z rfl rfl t5z t9z hp23c), rfl⟩⟩ dX6_place_40
set_option maxRecDepth 100000 in
set_option maxHeartbeats 4000000 in
theorem m_X6_border (l : Launch) (hlt : l.stackTraces = false) (Γ : zGam) {V : zV} {ad : Nat → Nat} {σ : Nat → Int} {q : Int} (hS : zS Γ V ad σ) (hq : -2147483648 ≤ q ∧ q ≤ 2147483647) : zN l Γ 9 yX6_border wsX6_border 1 6 V [.ref (ad 1), .int (zI (q))] (fun rv V' => ∃ (y : Int) (σ' : Nat → Int), rv = some (.int (zI y)) ∧ zS Γ V' ad σ' ∧ zfx V V' ∧ ((0 ≤ q ∧ q ≤ 7) ∧ zsB σ q y ∧ σ' = σ)) (fun E V' => V' = V ∧ ((E = zIO ∧ ¬ (0 ≤ q ∧ q ≤ 7)) ∨ (E = zIA ∧ False))) := by
  refine zN_of (cc := cX6_border) (nL := 2) (ret := (some .int)) (own := RX6) hlt (by decide +kernel) rfl rfl (Nat.le_of_ble_eq_true rfl) (fun C X Y => ?_)
  have hx1 : V (ad 1) = some (1, .inr (7, [.ref (ad 2), .ref (ad 20), .ref (ad 22), .ref (ad 24), .ref (ad 16), .ref (ad 31), .ref (ad 33), .ref (ad 35), .ref (ad 40), .ref (ad 45), .int (zI (σ 30)), .int (zI (σ 31)), .int (zI (σ 32)), .int (zI (σ 33))])) := hS.1
  show zG C V 1 6 0 [(0, .ref (ad 1)), (1, .int (zI (q)))] []
  refine zr_aload_n X 1 0 dX6_border_0 rfl rfl ?_
  refine zr_aload_n X 2 0 dX6_border_1 rfl rfl ?_
  refine zr_iload_n X 3 1 dX6_border_2 rfl rfl ?_
  refine zr_callVN (kc' := 1 - 1) (ks' := 6 - 6) X Y 6 1 (m_X6_sourceOf l hlt Γ hS (q := q) (by omega)) gX6_border_X6_sourceOf rfl (by decide +kernel) rfl (by decide) hx1 rfl rfl (Nat.le_of_ble_eq_true rfl) dX6_border_3 rfl (by omega) (by omega) (fun E W hX => ⟨hX.2.2, Or.inl ⟨hX.1, by have := hX.2.1; omega⟩⟩) (fun rv2 V3 hp4 => ?_)
  obtain ⟨hp4a, hp4b, hp4c⟩ := hp4
  rw [hp4b, hp4c]
  obtain ⟨t5r, t5to, t5tr, t5e, t5e2, t5h, t5T, t5o, t5q, t5c, t5a, t5b, t5z⟩ := hS.txt (q := q) (by omega)
  have t5g := t5T.rg
  show zG C V (1 - 1) (6 - 6) 6 [(0, .ref (ad 1)), (1, .int (zI (q)))] [.ref (zso ad q), .ref (ad 1)]
  refine zr_callVe (kc' := (1 - 1)) (ks' := (6 - 6)) X 9 1 (m_X6_greatestBorder l Γ hS t5T t5o t5q (by omega) (by omega)) gX6_border_X6_greatestBorder rfl (by decide +kernel) rfl (by decide) hS.x rfl rfl (Nat.le_of_ble_eq_true rfl) dX6_border_6 rfl (by omega) (by omega) (fun rv6 V7 hp8 => ?_)
  obtain ⟨hp8y, hp8s, hp8e, hS9, fx10, hp8a, hp8b, hp8q, hp8z⟩ := hp8
  rw [hp8e]
  rw [hp8q] at hS9
  have hx11 : V7 (ad 1) = some (1, .inr (7, [.ref (ad 2), .ref (ad 20), .ref (ad 22), .ref (ad 24), .ref (ad 16), .ref (ad 31), .ref (ad 33), .ref (ad 35), .ref (ad 40), .ref (ad 45), .int (zI (σ 30)), .int (zI (σ 31)), .int (zI (σ 32)), .int (zI (σ 33))])) := hS9.1
  show zG C V7 (1 - 1) (6 - 6) 9 [(0, .ref (ad 1)), (1, .int (zI (q)))] [.int (zI (hp8y))]
  exact zr_iret X rfl ⟨hp8y, σ, rfl, hS9, fx10, ⟨by omega, ⟨by omega, by have hz := hp8z; rw [zaw_eq t5z] at hz; exact hz⟩, rfl⟩⟩ dX6_border_9
/-- what known answers -/
def zsK (σ : Nat → Int) (q z y : Int) : Prop := (z = 0 ∧ zsP σ 7 q 0 y) ∨ (z = 1 ∧ zsP σ 7 q (zsN σ 7 q - 1) y) ∨ (z = 2 ∧ zsP σ 6 q 0 y) ∨ (z = 3 ∧ zsP σ 6 q (zsN σ 6 q - 1) y) ∨ (z = 4 ∧ ((0 < zsN σ 7 q ∧ y = 1) ∨ (zsN σ 7 q ≤ 0 ∧ y = 0)))
theorem zsK.uni {σ : Nat → Int} {q z y w : Int} (h : zsK σ q z y) (h9 : zsK σ q z w) : y = w := by
  rcases h with ⟨e, h⟩ | ⟨e, h⟩ | ⟨e, h⟩ | ⟨e, h⟩ | ⟨e, h⟩ <;> rcases h9 with ⟨e', h9⟩ | ⟨e', h9⟩ | ⟨e', h9⟩ | ⟨e', h9⟩ | ⟨e', h9⟩ <;> first | omega | exact zsP.uni h h9
set_option maxRecDepth 100000 in
set_option maxHeartbeats 4000000 in
theorem m_X6_known (l : Launch) (hlt : l.stackTraces = false) (Γ : zGam) {V : zV} {ad : Nat → Nat} {σ : Nat → Int} {q z : Int} (hS : zS Γ V ad σ) (hq : -2147483648 ≤ q ∧ q ≤ 2147483647) (hz : -2147483648 ≤ z ∧ z ≤ 2147483647) : zN l Γ 9 yX6_known wsX6_known 2 12 V [.ref (ad 1), .int (zI (q)), .int (zI (z))] (fun rv V' => ∃ (y : Int) (σ' : Nat → Int), rv = some (.int (zI y)) ∧ zS Γ V' ad σ' ∧ zfx V V' ∧ ((0 ≤ q ∧ q ≤ 7 ∧ 0 ≤ z ∧ z ≤ 4) ∧ zsK σ q z y ∧ σ' = σ)) (fun E V' => V' = V ∧ ((E = zIO ∧ ¬ (0 ≤ q ∧ q ≤ 7)) ∨ (E = zIA ∧ (0 ≤ q ∧ q ≤ 7) ∧ ¬ (0 ≤ z ∧ z ≤ 4)))) := by
  have w0 : Cond.fieldLink RX6 48 "Sashwords" "road" "LSashwords$Seeker;" ∈ wsX6_known := by decide +kernel
  have iX6 : ∀ w ∈ u_ws RX6 TX6 14, w ∈ wsX6_known := by decide +kernel
  have w2 : Cond.fieldLink RX6 20 "Sashwords" "builder" "LSashwords$Script;" ∈ wsX6_known := by decide +kernel
  have iX3 : ∀ w ∈ u_ws RX3 TX3 3, w ∈ wsX6_known := by decide +kernel
  have w4 : Cond.fieldLink RX6 24 "Sashwords" "kept" "LSashwords$Script;" ∈ wsX6_known := by decide +kernel
  refine zN_of (cc := cX6_known) (nL := 4) (ret := (some .int)) (own := RX6) hlt (by decide +kernel) rfl rfl (Nat.le_of_ble_eq_true rfl) (fun C X Y => ?_)
  have hx1 : V (ad 1) = some (1, .inr (7, [.ref (ad 2), .ref (ad 20), .ref (ad 22), .ref (ad 24), .ref (ad 16), .ref (ad 31), .ref (ad 33), .ref (ad 35), .ref (ad 40), .ref (ad 45), .int (zI (σ 30)), .int (zI (σ 31)), .int (zI (σ 32)), .int (zI (σ 33))])) := hS.1
  show zG C V 2 12 0 [(0, .ref (ad 1)), (1, .int (zI (q))), (2, .int (zI (z)))] []
  refine zr_aload_n X 1 0 dX6_known_0 rfl rfl ?_
  refine zr_iload_n X 2 1 dX6_known_1 rfl rfl ?_
  refine zr_callVN (kc' := 2 - 1) (ks' := 12 - 6) X Y 5 1 (m_X6_sourceOf l hlt Γ hS (q := q) (by omega)) gX6_known_X6_sourceOf rfl (by decide +kernel) rfl (by decide) hx1 rfl rfl (Nat.le_of_ble_eq_true rfl) dX6_known_2 rfl (by omega) (by omega) (fun E W hX => ⟨hX.2.2, Or.inl ⟨hX.1, by have := hX.2.1; omega⟩⟩) (fun rv2 V3 hp4 => ?_)
  obtain ⟨hp4a, hp4b, hp4c⟩ := hp4
  rw [hp4b, hp4c]
  obtain ⟨t5r, t5to, t5tr, t5e, t5e2, t5h, t5T, t5o, t5q, t5c, t5a, t5b, t5z⟩ := hS.txt (q := q) (by omega)
  have t5g := t5T.rg
  show zG C V (2 - 1) (12 - 6) 5 [(0, .ref (ad 1)), (1, .int (zI (q))), (2, .int (zI (z)))] [.ref (zso ad q)]
  refine zr_astore_n X 6 [(3, .ref (zso ad q)), (0, .ref (ad 1)), (1, .int (zI (q))), (2, .int (zI (z)))] dX6_known_5 rfl (by decide) rfl ?_
  refine zr_iload_n X 7 3 dX6_known_6 rfl rfl ?_
  refine zr_iconst X 8 dX6_known_7 rfl ?_
  refine zr_iconst X 9 dX6_known_8 rfl ?_
  refine zr_callSN (kc' := (2 - 1) - 1) (ks' := (12 - 6) - 6) X Y 12 3 (m_X6_requireWithin l hlt Γ (V := V) (x := z) (a := 0) (b := 4) (by omega) (by omega) (by omega)) gX6_known_X6_requireWithin rfl (by decide +kernel) rfl (by decide) rfl (Nat.le_of_ble_eq_true rfl) dX6_known_9 rfl (by omega) (by omega) (fun E W hX => ⟨hX.2.2, Or.inr ⟨hX.1, by have := hX.2.1; omega⟩⟩) (fun rv6 V7 hp8 => ?_)
  obtain ⟨hp8a, hp8b, hp8c⟩ := hp8
  rw [hp8b, hp8c]
  show zG C V ((2 - 1) - 1) ((12 - 6) - 6) 12 [(3, .ref (zso ad q)), (0, .ref (ad 1)), (1, .int (zI (q))), (2, .int (zI (z)))] []
  refine zr_aload_n X 13 1 dX6_known_12 rfl rfl ?_
  refine zr_get X 16 7 7 hx1 rfl iX6 (by decide) w0 rfl rfl dX6_known_13 rfl ?_
  refine zr_iload_n X 17 3 dX6_known_16 rfl rfl ?_
  refine zr_iconst X 18 dX6_known_17 rfl ?_
  refine zr_icmp_eq X 26 21 dX6_known_18 rfl rfl (by omega) (by omega) (fun bq9 => ?_) (fun bq9 => ?_)
  · refine zr_aload_n X 27 1 dX6_known_26 rfl rfl ?_
    refine zr_get X 30 7 1 hx1 rfl iX6 (by decide) w2 rfl rfl dX6_known_27 rfl ?_
    refine zr_goto X 37 dX6_known_30 rfl ?_
    refine zr_aload_n X 38 0 dX6_known_37 rfl rfl ?_
    obtain ⟨t10r, t10to, t10tr, t10e, t10e2, t10h, t10T, t10o, t10q, t10c, t10a, t10b, t10z⟩ := hS.txt (q := 6) (by omega)
    rw [zso6, zsz6] at t10T
    rw [zso6] at t10o
    rw [zsz6] at t10a t10b t10z
    have t10g := t10T.rg
    refine zr_callVe (kc' := ((2 - 1) - 1)) (ks' := ((12 - 6) - 6)) X 41 2 (g_seek l Γ hS.2.2.2.2.2.2.1 hS.2.2.2.2.2.2.2.1 t10T t10o t10q t5T t5o t5q (by omega) (by omega) (by decide) (by omega) (by omega)) gX6_known_X3_seek rfl (by decide +kernel) rfl (by decide) hS.2.2.2.2.2.2.1.cl rfl rfl (Nat.le_of_ble_eq_true rfl) dX6_known_38 rfl (by omega) (by omega) (fun rv11 V12 hp13 => ?_)
    obtain ⟨hp13e, ⟨hp13m, hp13f, hp13x, hp13z⟩, hp13w, hp13g⟩ := hp13
    rw [hp13e]
    have hp13r := hp13x.2.2.2
    obtain ⟨hS14, fx15⟩ := hS.road hp13x.sk hp13w hp13g
    have hx16 : V12 (ad 1) = some (1, .inr (7, [.ref (ad 2), .ref (ad 20), .ref (ad 22), .ref (ad 24), .ref (ad 16), .ref (ad 31), .ref (ad 33), .ref (ad 35), .ref (ad 40), .ref (ad 45), .int (zI (σ 30)), .int (zI (σ 31)), .int (zI (σ 32)), .int (zI (σ 33))])) := hS14.1
    have t17o := hp13g _ _ _ t5o (by omega)
    have t17q := hp13g _ _ _ t5q (by omega)
    have t17T := t5T.kept (t17o.trans t5o.symm) (t17q.trans t5q.symm)
    have t17c := t5c
    have t17g := t17T.rg
    have t18o := hp13g _ _ _ t10o (by omega)
    have t18q := hp13g _ _ _ t10q (by omega)
    have t18T := t10T.kept (t18o.trans t10o.symm) (t18q.trans t10q.symm)
    have t18c := t10c
    have t18g := t18T.rg
    show zG C V12 ((2 - 1) - 1) ((12 - 6) - 6) 41 [(3, .ref (zso ad q)), (0, .ref (ad 1)), (1, .int (zI (q))), (2, .int (zI (z)))] []
    refine zr_iload_n X 42 3 dX6_known_41 rfl rfl ?_
    refine zr_iconst X 43 dX6_known_42 rfl ?_
    refine zr_icmp_ne X 62 46 dX6_known_43 rfl rfl (by omega) (by omega) (fun bq19 => ?_) (fun bq19 => ?_)
    · refine zr_aload_n X 63 1 dX6_known_62 rfl rfl ?_
      refine zr_get X 66 7 7 hx16 rfl iX6 (by decide) w0 rfl rfl dX6_known_63 rfl ?_
      refine zr_iload_n X 67 3 dX6_known_66 rfl rfl ?_
      refine zr_if_eq X 75 70 dX6_known_67 rfl rfl (by omega) (fun bq20 => ?_) (fun bq20 => ?_)
      · refine zr_iconst X 76 dX6_known_75 rfl ?_
        refine zr_goto X 88 dX6_known_76 rfl ?_
        refine zr_callVe (kc' := ((2 - 1) - 1)) (ks' := ((12 - 6) - 6)) X 91 1 (g_foundAtx l Γ hp13x (q := 0) (by omega)) gX6_known_X3_foundAt rfl (by decide +kernel) rfl (by decide) hS14.2.2.2.2.2.2.1.cl rfl rfl (Nat.le_of_ble_eq_true rfl) dX6_known_88 rfl (by omega) (by omega) (fun rv21 V22 hp23 => ?_)
        obtain ⟨hp23x, hp23e, hp23v, hp23a, hp23b, hp23c⟩ := hp23
        rw [hp23e, hp23v]
        show zG C V12 ((2 - 1) - 1) ((12 - 6) - 6) 91 [(3, .ref (zso ad q)), (0, .ref (ad 1)), (1, .int (zI (q))), (2, .int (zI (z)))] [.int (zI (hp23x))]
        have hN := (zsN.of hp13z zsz6.symm rfl t10z t5z)
        have hP := (zsP.of hp13z zsz6.symm rfl t10z t5z hp23c)
        exact zr_iret X rfl ⟨hp23x, σ, rfl, hS14, fx15, ⟨by omega, Or.inr (Or.inr (Or.inl ⟨by omega, hP⟩)), rfl⟩⟩ dX6_known_91
      · refine zr_iload_n X 71 3 dX6_known_70 rfl rfl ?_
        refine zr_iconst X 72 dX6_known_71 rfl ?_
        refine zr_icmp_ne X 79 75 dX6_known_72 rfl rfl (by omega) (by omega) (fun bq24 => ?_) (fun bq24 => ?_)
        · refine zr_aload_n X 80 1 dX6_known_79 rfl rfl ?_
          refine zr_get X 83 7 7 hx16 rfl iX6 (by decide) w0 rfl rfl dX6_known_80 rfl ?_
          refine zr_getNsx X 86 hp13x iX3 rfl dX6_known_83 rfl ?_
          refine zr_iconst X 87 dX6_known_86 rfl ?_
          refine zr_isub X 88 dX6_known_87 rfl ?_
          refine zr_callVe (kc' := ((2 - 1) - 1)) (ks' := ((12 - 6) - 6)) X 91 1 (g_foundAtx l Γ hp13x (q := hp13m - 1) (by omega)) gX6_known_X3_foundAt rfl (by decide +kernel) rfl (by decide) hS14.2.2.2.2.2.2.1.cl rfl rfl (Nat.le_of_ble_eq_true rfl) dX6_known_88 rfl (by omega) (by omega) (fun rv25 V26 hp27 => ?_)
          obtain ⟨hp27x, hp27e, hp27v, hp27a, hp27b, hp27c⟩ := hp27
          rw [hp27e, hp27v]
          show zG C V12 ((2 - 1) - 1) ((12 - 6) - 6) 91 [(3, .ref (zso ad q)), (0, .ref (ad 1)), (1, .int (zI (q))), (2, .int (zI (z)))] [.int (zI (hp27x))]
          have hN := (zsN.of hp13z zsz6.symm rfl t10z t5z)
          have hP := (zsP.of hp13z zsz6.symm rfl t10z t5z hp27c)
          rw [hN] at hP
          exact zr_iret X rfl ⟨hp27x, σ, rfl, hS14, fx15, ⟨by omega, Or.inr (Or.inr (Or.inr (Or.inl ⟨by omega, hP⟩))), rfl⟩⟩ dX6_known_91
        · refine zr_iconst X 76 dX6_known_75 rfl ?_
          refine zr_goto X 88 dX6_known_76 rfl ?_
          refine zr_callVe (kc' := ((2 - 1) - 1)) (ks' := ((12 - 6) - 6)) X 91 1 (g_foundAtx l Γ hp13x (q := 0) (by omega)) gX6_known_X3_foundAt rfl (by decide +kernel) rfl (by decide) hS14.2.2.2.2.2.2.1.cl rfl rfl (Nat.le_of_ble_eq_true rfl) dX6_known_88 rfl (by omega) (by omega) (fun rv28 V29 hp30 => ?_)
          obtain ⟨hp30x, hp30e, hp30v, hp30a, hp30b, hp30c⟩ := hp30
          rw [hp30e, hp30v]
          show zG C V12 ((2 - 1) - 1) ((12 - 6) - 6) 91 [(3, .ref (zso ad q)), (0, .ref (ad 1)), (1, .int (zI (q))), (2, .int (zI (z)))] [.int (zI (hp30x))]
          have hN := (zsN.of hp13z zsz6.symm rfl t10z t5z)
          have hP := (zsP.of hp13z zsz6.symm rfl t10z t5z hp30c)
          exact zr_iret X rfl ⟨hp30x, σ, rfl, hS14, fx15, ⟨by omega, Or.inr (Or.inr (Or.inl ⟨by omega, hP⟩)), rfl⟩⟩ dX6_known_91
    · refine zr_aload_n X 47 1 dX6_known_46 rfl rfl ?_
      refine zr_get X 50 7 7 hx16 rfl iX6 (by decide) w0 rfl rfl dX6_known_47 rfl ?_
      refine zr_getNsx X 53 hp13x iX3 rfl dX6_known_50 rfl ?_
      refine zr_if_le X 60 56 dX6_known_53 rfl rfl (by omega) (fun bq31 => ?_) (fun bq31 => ?_)
      · refine zr_iconst X 61 dX6_known_60 rfl ?_
        exact zr_iret X rfl ⟨0, σ, rfl, hS14, fx15, (False.elim (by omega))⟩ dX6_known_61
      · refine zr_iconst X 57 dX6_known_56 rfl ?_
        refine zr_goto X 61 dX6_known_57 rfl ?_
        exact zr_iret X rfl ⟨1, σ, rfl, hS14, fx15, (False.elim (by omega))⟩ dX6_known_61
  · refine zr_iload_n X 22 3 dX6_known_21 rfl rfl ?_
    refine zr_iconst X 23 dX6_known_22 rfl ?_
    refine zr_icmp_ne X 33 26 dX6_known_23 rfl rfl (by omega) (by omega) (fun bq32 => ?_) (fun bq32 => ?_)
    · refine zr_aload_n X 34 1 dX6_known_33 rfl rfl ?_
      refine zr_get X 37 7 2 hx1 rfl iX6 (by decide) w4 rfl rfl dX6_known_34 rfl ?_
      refine zr_aload_n X 38 0 dX6_known_37 rfl rfl ?_
      obtain ⟨t33r, t33to, t33tr, t33e, t33e2, t33h, t33T, t33o, t33q, t33c, t33a, t33b, t33z⟩ := hS.txt (q := 7) (by omega)
      rw [zso7, zsz7] at t33T
      rw [zso7] at t33o
      rw [zsz7] at t33a t33b t33z
      have t33g := t33T.rg
      refine zr_callVe (kc' := ((2 - 1) - 1)) (ks' := ((12 - 6) - 6)) X 41 2 (g_seek l Γ hS.2.2.2.2.2.2.1 hS.2.2.2.2.2.2.2.1 t33T t33o t33q t5T t5o t5q (by omega) (by omega) (by decide) (by omega) (by omega)) gX6_known_X3_seek rfl (by decide +kernel) rfl (by decide) hS.2.2.2.2.2.2.1.cl rfl rfl (Nat.le_of_ble_eq_true rfl) dX6_known_38 rfl (by omega) (by omega) (fun rv34 V35 hp36 => ?_)
      obtain ⟨hp36e, ⟨hp36m, hp36f, hp36x, hp36z⟩, hp36w, hp36g⟩ := hp36
      rw [hp36e]
      have hp36r := hp36x.2.2.2
      obtain ⟨hS37, fx38⟩ := hS.road hp36x.sk hp36w hp36g
      have hx39 : V35 (ad 1) = some (1, .inr (7, [.ref (ad 2), .ref (ad 20), .ref (ad 22), .ref (ad 24), .ref (ad 16), .ref (ad 31), .ref (ad 33), .ref (ad 35), .ref (ad 40), .ref (ad 45), .int (zI (σ 30)), .int (zI (σ 31)), .int (zI (σ 32)), .int (zI (σ 33))])) := hS37.1
      have t40o := hp36g _ _ _ t5o (by omega)
      have t40q := hp36g _ _ _ t5q (by omega)
      have t40T := t5T.kept (t40o.trans t5o.symm) (t40q.trans t5q.symm)
      have t40c := t5c
      have t40g := t40T.rg
      have t41o := hp36g _ _ _ t33o (by omega)
      have t41q := hp36g _ _ _ t33q (by omega)
      have t41T := t33T.kept (t41o.trans t33o.symm) (t41q.trans t33q.symm)
      have t41c := t33c
      have t41g := t41T.rg
      show zG C V35 ((2 - 1) - 1) ((12 - 6) - 6) 41 [(3, .ref (zso ad q)), (0, .ref (ad 1)), (1, .int (zI (q))), (2, .int (zI (z)))] []
      refine zr_iload_n X 42 3 dX6_known_41 rfl rfl ?_
      refine zr_iconst X 43 dX6_known_42 rfl ?_
      refine zr_icmp_ne X 62 46 dX6_known_43 rfl rfl (by omega) (by omega) (fun bq42 => ?_) (fun bq42 => ?_)
      · refine zr_aload_n X 63 1 dX6_known_62 rfl rfl ?_
        refine zr_get X 66 7 7 hx39 rfl iX6 (by decide) w0 rfl rfl dX6_known_63 rfl ?_
        refine zr_iload_n X 67 3 dX6_known_66 rfl rfl ?_
        refine zr_if_eq X 75 70 dX6_known_67 rfl rfl (by omega) (fun bq43 => ?_) (fun bq43 => ?_)
        · refine zr_iconst X 76 dX6_known_75 rfl ?_
          refine zr_goto X 88 dX6_known_76 rfl ?_
          refine zr_callVe (kc' := ((2 - 1) - 1)) (ks' := ((12 - 6) - 6)) X 91 1 (g_foundAtx l Γ hp36x (q := 0) (by omega)) gX6_known_X3_foundAt rfl (by decide +kernel) rfl (by decide) hS37.2.2.2.2.2.2.1.cl rfl rfl (Nat.le_of_ble_eq_true rfl) dX6_known_88 rfl (by omega) (by omega) (fun rv44 V45 hp46 => ?_)
          obtain ⟨hp46x, hp46e, hp46v, hp46a, hp46b, hp46c⟩ := hp46
          rw [hp46e, hp46v]
          show zG C V35 ((2 - 1) - 1) ((12 - 6) - 6) 91 [(3, .ref (zso ad q)), (0, .ref (ad 1)), (1, .int (zI (q))), (2, .int (zI (z)))] [.int (zI (hp46x))]
          have hN := (zsN.of hp36z zsz7.symm rfl t33z t5z)
          have hP := (zsP.of hp36z zsz7.symm rfl t33z t5z hp46c)
          exact zr_iret X rfl ⟨hp46x, σ, rfl, hS37, fx38, ⟨by omega, Or.inl ⟨by omega, hP⟩, rfl⟩⟩ dX6_known_91
        · refine zr_iload_n X 71 3 dX6_known_70 rfl rfl ?_
          refine zr_iconst X 72 dX6_known_71 rfl ?_
          refine zr_icmp_ne X 79 75 dX6_known_72 rfl rfl (by omega) (by omega) (fun bq47 => ?_) (fun bq47 => ?_)
          · refine zr_aload_n X 80 1 dX6_known_79 rfl rfl ?_
            refine zr_get X 83 7 7 hx39 rfl iX6 (by decide) w0 rfl rfl dX6_known_80 rfl ?_
            refine zr_getNsx X 86 hp36x iX3 rfl dX6_known_83 rfl ?_
            refine zr_iconst X 87 dX6_known_86 rfl ?_
            refine zr_isub X 88 dX6_known_87 rfl ?_
            refine zr_callVe (kc' := ((2 - 1) - 1)) (ks' := ((12 - 6) - 6)) X 91 1 (g_foundAtx l Γ hp36x (q := hp36m - 1) (by omega)) gX6_known_X3_foundAt rfl (by decide +kernel) rfl (by decide) hS37.2.2.2.2.2.2.1.cl rfl rfl (Nat.le_of_ble_eq_true rfl) dX6_known_88 rfl (by omega) (by omega) (fun rv48 V49 hp50 => ?_)
            obtain ⟨hp50x, hp50e, hp50v, hp50a, hp50b, hp50c⟩ := hp50
            rw [hp50e, hp50v]
            show zG C V35 ((2 - 1) - 1) ((12 - 6) - 6) 91 [(3, .ref (zso ad q)), (0, .ref (ad 1)), (1, .int (zI (q))), (2, .int (zI (z)))] [.int (zI (hp50x))]
            have hN := (zsN.of hp36z zsz7.symm rfl t33z t5z)
            have hP := (zsP.of hp36z zsz7.symm rfl t33z t5z hp50c)
            rw [hN] at hP
            exact zr_iret X rfl ⟨hp50x, σ, rfl, hS37, fx38, ⟨by omega, Or.inr (Or.inl ⟨by omega, hP⟩), rfl⟩⟩ dX6_known_91
          · refine zr_iconst X 76 dX6_known_75 rfl ?_
            refine zr_goto X 88 dX6_known_76 rfl ?_
            refine zr_callVe (kc' := ((2 - 1) - 1)) (ks' := ((12 - 6) - 6)) X 91 1 (g_foundAtx l Γ hp36x (q := 0) (by omega)) gX6_known_X3_foundAt rfl (by decide +kernel) rfl (by decide) hS37.2.2.2.2.2.2.1.cl rfl rfl (Nat.le_of_ble_eq_true rfl) dX6_known_88 rfl (by omega) (by omega) (fun rv51 V52 hp53 => ?_)
            obtain ⟨hp53x, hp53e, hp53v, hp53a, hp53b, hp53c⟩ := hp53
            rw [hp53e, hp53v]
            show zG C V35 ((2 - 1) - 1) ((12 - 6) - 6) 91 [(3, .ref (zso ad q)), (0, .ref (ad 1)), (1, .int (zI (q))), (2, .int (zI (z)))] [.int (zI (hp53x))]
            have hN := (zsN.of hp36z zsz7.symm rfl t33z t5z)
            have hP := (zsP.of hp36z zsz7.symm rfl t33z t5z hp53c)
            exact zr_iret X rfl ⟨hp53x, σ, rfl, hS37, fx38, ⟨by omega, Or.inl ⟨by omega, hP⟩, rfl⟩⟩ dX6_known_91
      · refine zr_aload_n X 47 1 dX6_known_46 rfl rfl ?_
        refine zr_get X 50 7 7 hx39 rfl iX6 (by decide) w0 rfl rfl dX6_known_47 rfl ?_
        refine zr_getNsx X 53 hp36x iX3 rfl dX6_known_50 rfl ?_
        refine zr_if_le X 60 56 dX6_known_53 rfl rfl (by omega) (fun bq54 => ?_) (fun bq54 => ?_)
        · refine zr_iconst X 61 dX6_known_60 rfl ?_
          have hN := (zsN.of hp36z zsz7.symm rfl t33z t5z)
          exact zr_iret X rfl ⟨0, σ, rfl, hS37, fx38, ⟨by omega, Or.inr (Or.inr (Or.inr (Or.inr ⟨by omega, by omega⟩))), rfl⟩⟩ dX6_known_61
        · refine zr_iconst X 57 dX6_known_56 rfl ?_
          refine zr_goto X 61 dX6_known_57 rfl ?_
          have hN := (zsN.of hp36z zsz7.symm rfl t33z t5z)
          exact zr_iret X rfl ⟨1, σ, rfl, hS37, fx38, ⟨by omega, Or.inr (Or.inr (Or.inr (Or.inr ⟨by omega, by omega⟩))), rfl⟩⟩ dX6_known_61
    · refine zr_aload_n X 27 1 dX6_known_26 rfl rfl ?_
      refine zr_get X 30 7 1 hx1 rfl iX6 (by decide) w2 rfl rfl dX6_known_27 rfl ?_
      refine zr_goto X 37 dX6_known_30 rfl ?_
      refine zr_aload_n X 38 0 dX6_known_37 rfl rfl ?_
      obtain ⟨t55r, t55to, t55tr, t55e, t55e2, t55h, t55T, t55o, t55q, t55c, t55a, t55b, t55z⟩ := hS.txt (q := 6) (by omega)
      rw [zso6, zsz6] at t55T
      rw [zso6] at t55o
      rw [zsz6] at t55a t55b t55z
      have t55g := t55T.rg
      refine zr_callVe (kc' := ((2 - 1) - 1)) (ks' := ((12 - 6) - 6)) X 41 2 (g_seek l Γ hS.2.2.2.2.2.2.1 hS.2.2.2.2.2.2.2.1 t55T t55o t55q t5T t5o t5q (by omega) (by omega) (by decide) (by omega) (by omega)) gX6_known_X3_seek rfl (by decide +kernel) rfl (by decide) hS.2.2.2.2.2.2.1.cl rfl rfl (Nat.le_of_ble_eq_true rfl) dX6_known_38 rfl (by omega) (by omega) (fun rv56 V57 hp58 => ?_)
      obtain ⟨hp58e, ⟨hp58m, hp58f, hp58x, hp58z⟩, hp58w, hp58g⟩ := hp58
      rw [hp58e]
      have hp58r := hp58x.2.2.2
      obtain ⟨hS59, fx60⟩ := hS.road hp58x.sk hp58w hp58g
      have hx61 : V57 (ad 1) = some (1, .inr (7, [.ref (ad 2), .ref (ad 20), .ref (ad 22), .ref (ad 24), .ref (ad 16), .ref (ad 31), .ref (ad 33), .ref (ad 35), .ref (ad 40), .ref (ad 45), .int (zI (σ 30)), .int (zI (σ 31)), .int (zI (σ 32)), .int (zI (σ 33))])) := hS59.1
      have t62o := hp58g _ _ _ t5o (by omega)
      have t62q := hp58g _ _ _ t5q (by omega)
      have t62T := t5T.kept (t62o.trans t5o.symm) (t62q.trans t5q.symm)
      have t62c := t5c
      have t62g := t62T.rg
      have t63o := hp58g _ _ _ t55o (by omega)
      have t63q := hp58g _ _ _ t55q (by omega)
      have t63T := t55T.kept (t63o.trans t55o.symm) (t63q.trans t55q.symm)
      have t63c := t55c
      have t63g := t63T.rg
      show zG C V57 ((2 - 1) - 1) ((12 - 6) - 6) 41 [(3, .ref (zso ad q)), (0, .ref (ad 1)), (1, .int (zI (q))), (2, .int (zI (z)))] []
      refine zr_iload_n X 42 3 dX6_known_41 rfl rfl ?_
      refine zr_iconst X 43 dX6_known_42 rfl ?_
      refine zr_icmp_ne X 62 46 dX6_known_43 rfl rfl (by omega) (by omega) (fun bq64 => ?_) (fun bq64 => ?_)
      · refine zr_aload_n X 63 1 dX6_known_62 rfl rfl ?_
        refine zr_get X 66 7 7 hx61 rfl iX6 (by decide) w0 rfl rfl dX6_known_63 rfl ?_
        refine zr_iload_n X 67 3 dX6_known_66 rfl rfl ?_
        refine zr_if_eq X 75 70 dX6_known_67 rfl rfl (by omega) (fun bq65 => ?_) (fun bq65 => ?_)
        · refine zr_iconst X 76 dX6_known_75 rfl ?_
          refine zr_goto X 88 dX6_known_76 rfl ?_
          refine zr_callVe (kc' := ((2 - 1) - 1)) (ks' := ((12 - 6) - 6)) X 91 1 (g_foundAtx l Γ hp58x (q := 0) (by omega)) gX6_known_X3_foundAt rfl (by decide +kernel) rfl (by decide) hS59.2.2.2.2.2.2.1.cl rfl rfl (Nat.le_of_ble_eq_true rfl) dX6_known_88 rfl (by omega) (by omega) (fun rv66 V67 hp68 => ?_)
          obtain ⟨hp68x, hp68e, hp68v, hp68a, hp68b, hp68c⟩ := hp68
          rw [hp68e, hp68v]
          show zG C V57 ((2 - 1) - 1) ((12 - 6) - 6) 91 [(3, .ref (zso ad q)), (0, .ref (ad 1)), (1, .int (zI (q))), (2, .int (zI (z)))] [.int (zI (hp68x))]
          have hN := (zsN.of hp58z zsz6.symm rfl t55z t5z)
          have hP := (zsP.of hp58z zsz6.symm rfl t55z t5z hp68c)
          exact zr_iret X rfl ⟨hp68x, σ, rfl, hS59, fx60, ⟨by omega, Or.inr (Or.inr (Or.inl ⟨by omega, hP⟩)), rfl⟩⟩ dX6_known_91
        · refine zr_iload_n X 71 3 dX6_known_70 rfl rfl ?_
          refine zr_iconst X 72 dX6_known_71 rfl ?_
          refine zr_icmp_ne X 79 75 dX6_known_72 rfl rfl (by omega) (by omega) (fun bq69 => ?_) (fun bq69 => ?_)
          · refine zr_aload_n X 80 1 dX6_known_79 rfl rfl ?_
            refine zr_get X 83 7 7 hx61 rfl iX6 (by decide) w0 rfl rfl dX6_known_80 rfl ?_
            refine zr_getNsx X 86 hp58x iX3 rfl dX6_known_83 rfl ?_
            refine zr_iconst X 87 dX6_known_86 rfl ?_
            refine zr_isub X 88 dX6_known_87 rfl ?_
            refine zr_callVe (kc' := ((2 - 1) - 1)) (ks' := ((12 - 6) - 6)) X 91 1 (g_foundAtx l Γ hp58x (q := hp58m - 1) (by omega)) gX6_known_X3_foundAt rfl (by decide +kernel) rfl (by decide) hS59.2.2.2.2.2.2.1.cl rfl rfl (Nat.le_of_ble_eq_true rfl) dX6_known_88 rfl (by omega) (by omega) (fun rv70 V71 hp72 => ?_)
            obtain ⟨hp72x, hp72e, hp72v, hp72a, hp72b, hp72c⟩ := hp72
            rw [hp72e, hp72v]
            show zG C V57 ((2 - 1) - 1) ((12 - 6) - 6) 91 [(3, .ref (zso ad q)), (0, .ref (ad 1)), (1, .int (zI (q))), (2, .int (zI (z)))] [.int (zI (hp72x))]
            have hN := (zsN.of hp58z zsz6.symm rfl t55z t5z)
            have hP := (zsP.of hp58z zsz6.symm rfl t55z t5z hp72c)
            rw [hN] at hP
            exact zr_iret X rfl ⟨hp72x, σ, rfl, hS59, fx60, ⟨by omega, Or.inr (Or.inr (Or.inr (Or.inl ⟨by omega, hP⟩))), rfl⟩⟩ dX6_known_91
          · refine zr_iconst X 76 dX6_known_75 rfl ?_
            refine zr_goto X 88 dX6_known_76 rfl ?_
            refine zr_callVe (kc' := ((2 - 1) - 1)) (ks' := ((12 - 6) - 6)) X 91 1 (g_foundAtx l Γ hp58x (q := 0) (by omega)) gX6_known_X3_foundAt rfl (by decide +kernel) rfl (by decide) hS59.2.2.2.2.2.2.1.cl rfl rfl (Nat.le_of_ble_eq_true rfl) dX6_known_88 rfl (by omega) (by omega) (fun rv73 V74 hp75 => ?_)
            obtain ⟨hp75x, hp75e, hp75v, hp75a, hp75b, hp75c⟩ := hp75
            rw [hp75e, hp75v]
            show zG C V57 ((2 - 1) - 1) ((12 - 6) - 6) 91 [(3, .ref (zso ad q)), (0, .ref (ad 1)), (1, .int (zI (q))), (2, .int (zI (z)))] [.int (zI (hp75x))]
            have hN := (zsN.of hp58z zsz6.symm rfl t55z t5z)
            have hP := (zsP.of hp58z zsz6.symm rfl t55z t5z hp75c)
            exact zr_iret X rfl ⟨hp75x, σ, rfl, hS59, fx60, ⟨by omega, Or.inr (Or.inr (Or.inl ⟨by omega, hP⟩)), rfl⟩⟩ dX6_known_91
      · refine zr_aload_n X 47 1 dX6_known_46 rfl rfl ?_
        refine zr_get X 50 7 7 hx61 rfl iX6 (by decide) w0 rfl rfl dX6_known_47 rfl ?_
        refine zr_getNsx X 53 hp58x iX3 rfl dX6_known_50 rfl ?_
        refine zr_if_le X 60 56 dX6_known_53 rfl rfl (by omega) (fun bq76 => ?_) (fun bq76 => ?_)
        · refine zr_iconst X 61 dX6_known_60 rfl ?_
          exact zr_iret X rfl ⟨0, σ, rfl, hS59, fx60, (False.elim (by omega))⟩ dX6_known_61
        · refine zr_iconst X 57 dX6_known_56 rfl ?_
          refine zr_goto X 61 dX6_known_57 rfl ?_
          exact zr_iret X rfl ⟨1, σ, rfl, hS59, fx60, (False.elim (by omega))⟩ dX6_known_61
set_option maxRecDepth 100000 in
set_option maxHeartbeats 4000000 in
theorem m_X6_counted (l : Launch) (Γ : zGam) {V : zV} {ad : Nat → Nat} {σ : Nat → Int} {q : Int} (hS : zS Γ V ad σ) (hq : 0 ≤ q ∧ q ≤ 3) : zM l Γ 0 yX6_counted wsX6_counted 0 0 V [.ref (ad 1), .int (zI (q))] (fun rv V' => (∃ y : Int, rv = some (.int (zI y)) ∧ ((q = 0 ∧ y = σ 30) ∨ (q = 1 ∧ y = σ 31) ∨ (q = 2 ∧ y = σ 32) ∨ (q = 3 ∧ y = σ 33))) ∧ V' = V) := by
  have w0 : Cond.fieldLink RX6 328 "Sashwords" "actsDone" "I" ∈ wsX6_counted := by decide +kernel
  have iX6 : ∀ w ∈ u_ws RX6 TX6 14, w ∈ wsX6_counted := by decide +kernel
  have w2 : Cond.fieldLink RX6 331 "Sashwords" "actsRefused" "I" ∈ wsX6_counted := by decide +kernel
  have w3 : Cond.fieldLink RX6 262 "Sashwords" "knocks" "I" ∈ wsX6_counted := by decide +kernel
  have w4 : Cond.fieldLink RX6 203 "Sashwords" "rounds" "I" ∈ wsX6_counted := by decide +kernel
  refine zM_of (cc := cX6_counted) (nL := 2) (ret := (some .int)) (own := RX6) (by decide +kernel) rfl rfl (Nat.le_of_ble_eq_true rfl) (fun C X hi0 => ?_)
  have hx1 : V (ad 1) = some (1, .inr (7, [.ref (ad 2), .ref (ad 20), .ref (ad 22), .ref (ad 24), .ref (ad 16), .ref (ad 31), .ref (ad 33), .ref (ad 35), .ref (ad 40), .ref (ad 45), .int (zI (σ 30)), .int (zI (σ 31)), .int (zI (σ 32)), .int (zI (σ 33))])) := hS.1
  show zG C V 0 0 0 [(0, .ref (ad 1)), (1, .int (zI (q)))] []
  refine zr_iload_n X 1 1 dX6_counted_0 rfl rfl ?_
  rcases (by omega : q = 0 ∨ q = 1 ∨ q = 2 ∨ ¬ (0 ≤ q ∧ q < 3)) with ts2 | ts2 | ts2 | ts2
  · refine zr_tsIn X 28 0 ts2 (by decide) dX6_counted_1 (by decide) (by decide) rfl rfl ?_
    refine zr_aload_n X 29 0 dX6_counted_28 rfl rfl ?_
    refine zr_get X 32 7 10 hx1 rfl iX6 (by decide) w0 rfl rfl dX6_counted_29 rfl ?_
    exact zr_iret X rfl ⟨⟨σ 30, rfl, Or.inl ⟨by omega, rfl⟩⟩, rfl⟩ dX6_counted_32
  · refine zr_tsIn X 33 1 ts2 (by decide) dX6_counted_1 (by decide) (by decide) rfl rfl ?_
    refine zr_aload_n X 34 0 dX6_counted_33 rfl rfl ?_
    refine zr_get X 37 7 11 hx1 rfl iX6 (by decide) w2 rfl rfl dX6_counted_34 rfl ?_
    exact zr_iret X rfl ⟨⟨σ 31, rfl, Or.inr (Or.inl ⟨by omega, rfl⟩)⟩, rfl⟩ dX6_counted_37
  · refine zr_tsIn X 38 2 ts2 (by decide) dX6_counted_1 (by decide) (by decide) rfl rfl ?_
    refine zr_aload_n X 39 0 dX6_counted_38 rfl rfl ?_
    refine zr_get X 42 7 12 hx1 rfl iX6 (by decide) w3 rfl rfl dX6_counted_39 rfl ?_
    exact zr_iret X rfl ⟨⟨σ 32, rfl, Or.inr (Or.inr (Or.inl ⟨by omega, rfl⟩))⟩, rfl⟩ dX6_counted_42
  · refine zr_tsOut X 43 (by omega) dX6_counted_1 (by omega) rfl ?_
    refine zr_aload_n X 44 0 dX6_counted_43 rfl rfl ?_
    refine zr_get X 47 7 13 hx1 rfl iX6 (by decide) w4 rfl rfl dX6_counted_44 rfl ?_
    exact zr_iret X rfl ⟨⟨σ 33, rfl, Or.inr (Or.inr (Or.inr ⟨by omega, rfl⟩))⟩, rfl⟩ dX6_counted_47
set_option maxRecDepth 100000 in
set_option maxHeartbeats 4000000 in
theorem m_X6_house (l : Launch) (hlt : l.stackTraces = false) (Γ : zGam) {V : zV} {ad : Nat → Nat} {σ : Nat → Int} {q : Int} (hS : zS Γ V ad σ) (hq : -2147483648 ≤ q ∧ q ≤ 2147483647) : zN l Γ 8 yX6_house wsX6_house 1 6 V [.ref (ad 1), .int (zI (q))] (fun rv V' => ∃ (y : Int) (σ' : Nat → Int), rv = some (.int (zI y)) ∧ zS Γ V' ad σ' ∧ zfx V V' ∧ ((0 ≤ q ∧ q ≤ 3) ∧ ((q = 0 ∧ y = σ 30) ∨ (q = 1 ∧ y = σ 31) ∨ (q = 2 ∧ y = σ 32) ∨ (q = 3 ∧ y = σ 33)) ∧ σ' = σ)) (fun E V' => V' = V ∧ ((E = zIO ∧ False) ∨ (E = zIA ∧ ¬ (0 ≤ q ∧ q ≤ 3)))) := by
  refine zN_of (cc := cX6_house) (nL := 2) (ret := (some .int)) (own := RX6) hlt (by decide +kernel) rfl rfl (Nat.le_of_ble_eq_true rfl) (fun C X Y => ?_)
  have hx1 : V (ad 1) = some (1, .inr (7, [.ref (ad 2), .ref (ad 20), .ref (ad 22), .ref (ad 24), .ref (ad 16), .ref (ad 31), .ref (ad 33), .ref (ad 35), .ref (ad 40), .ref (ad 45), .int (zI (σ 30)), .int (zI (σ 31)), .int (zI (σ 32)), .int (zI (σ 33))])) := hS.1
  show zG C V 1 6 0 [(0, .ref (ad 1)), (1, .int (zI (q)))] []
  refine zr_iload_n X 1 1 dX6_house_0 rfl rfl ?_
  refine zr_iconst X 2 dX6_house_1 rfl ?_
  refine zr_iconst X 3 dX6_house_2 rfl ?_
  refine zr_callSN (kc' := 1 - 1) (ks' := 6 - 6) X Y 6 3 (m_X6_requireWithin l hlt Γ (V := V) (x := q) (a := 0) (b := 3) (by omega) (by omega) (by omega)) gX6_house_X6_requireWithin rfl (by decide +kernel) rfl (by decide) rfl (Nat.le_of_ble_eq_true rfl) dX6_house_3 rfl (by omega) (by omega) (fun E W hX => ⟨hX.2.2, Or.inr ⟨hX.1, by have := hX.2.1; omega⟩⟩) (fun rv2 V3 hp4 => ?_)
  obtain ⟨hp4a, hp4b, hp4c⟩ := hp4
  rw [hp4b, hp4c]
  show zG C V (1 - 1) (6 - 6) 6 [(0, .ref (ad 1)), (1, .int (zI (q)))] []
  refine zr_aload_n X 7 0 dX6_house_6 rfl rfl ?_
  refine zr_iload_n X 8 1 dX6_house_7 rfl rfl ?_
  refine zr_callVe (kc' := (1 - 1)) (ks' := (6 - 6)) X 11 1 (m_X6_counted l Γ hS (q := q) (by omega)) gX6_house_X6_counted rfl (by decide +kernel) rfl (by decide) hS.x rfl rfl (Nat.le_of_ble_eq_true rfl) dX6_house_8 rfl (by omega) (by omega) (fun rv5 V6 hp7 => ?_)
  obtain ⟨⟨y8, y8e, y8a⟩, y8v⟩ := hp7
  rw [y8e, y8v]
  show zG C V (1 - 1) (6 - 6) 11 [(0, .ref (ad 1)), (1, .int (zI (q)))] [.int (zI (y8))]
  exact zr_iret X rfl ⟨y8, σ, rfl, hS, zag.rf, ⟨by omega, y8a, rfl⟩⟩ dX6_house_11
