/-! the law: the script -/
theorem zIex (x : Int32) : ∃ z : Int, x = zI z ∧ -2147483648 ≤ z ∧ z ≤ 2147483647 := ⟨x.toInt, by
  unfold zI
  exact (Int32.ofInt_toInt x).symm, Int32.le_toInt x, Int32.toInt_le x⟩
theorem zr_sld {C : zC} {l0 : Launch} {Γ0 : zGam} {n0 : Nat} {own : String} {cc : ByteArray} {ws : List Cond} {d : Nat} {ret : Option FieldType} {Post : Option Value → zV → Prop} {V : zV} {kc ks pc : Nat} {lv : List (Nat × Value)} {rest : List Value} (X : zK C l0 Γ0 n0 own cc ws d ret Post) (n' : Nat) {b L : Nat} {xs : Nat → Int32} {i : Int} (hX : va_X b L xs C.1.2.2.2.2.1 C.1.2.2.2.2.1.heap) (hbl : b < C.1.2.2.2.2.1.heap.size) (hB : Γ0.2.2.2 = C.1.2.2.2.2.1.heap.size) (h0 : 0 ≤ i ∧ i < (L : Int) ∧ i ≤ 2147483647) (hdg : decode cc pc = .ok (.iaload, 1)) (hn : pc + 1 = n') (kk : zG C V kc ks n' lv (.int (xs i.toNat) :: rest)) : zG C V kc ks pc lv (.int (zI i) :: .ref b :: rest) := by
  obtain ⟨⟨p, l, e, R, s, m, args, below, meth, c⟩, Γ, ⟨nL, mc, ms⟩, Q⟩ := C
  obtain ⟨hx, hb, hml, hown, hts, hO, hB0, hlk, hret, hmc, hms, hdf, hdl, hQ, rfl, rfl, rfl⟩ := X
  subst hn
  intro H locs cells slots ls hV hS hl hcc hs
  have hc : (zI i).toNatClampNeg = i.toNat := zI_clamp h0.1 (by omega)
  have ng : ¬ zI i < 0 := by rw [← zI_0, zI_lt (by omega) (by omega)]; omega
  refine va_sld hx hb hX hbl (A := zA Γ.2.2.2) (fun q => ?_) hS (fun q => q.elim ng (fun q2 => by rw [hc] at q2; omega)) hdg ?_
  · have q : Γ.2.2.2 ≤ b := q
    have hB : Γ.2.2.2 = s.heap.size := hB
    have hbl : b < s.heap.size := hbl
    omega
  · rw [hc]
    exact kk H locs cells slots ls hV hS hl hcc hs
theorem zr_slen {C : zC} {l0 : Launch} {Γ0 : zGam} {n0 : Nat} {own : String} {cc : ByteArray} {ws : List Cond} {d : Nat} {ret : Option FieldType} {Post : Option Value → zV → Prop} {V : zV} {kc ks pc : Nat} {lv : List (Nat × Value)} {rest : List Value} (X : zK C l0 Γ0 n0 own cc ws d ret Post) (n' : Nat) {b L : Nat} {xs : Nat → Int32} (hX : va_X b L xs C.1.2.2.2.2.1 C.1.2.2.2.2.1.heap) (hbl : b < C.1.2.2.2.2.1.heap.size) (hB : Γ0.2.2.2 = C.1.2.2.2.2.1.heap.size) (hdg : decode cc pc = .ok (.arraylength, 1)) (hn : pc + 1 = n') (kk : zG C V kc ks n' lv (.int (zI (L : Int)) :: rest)) : zG C V kc ks pc lv (.ref b :: rest) := by
  obtain ⟨⟨p, l, e, R, s, m, args, below, meth, c⟩, Γ, ⟨nL, mc, ms⟩, Q⟩ := C
  obtain ⟨hx, hb, hml, hown, hts, hO, hB0, hlk, hret, hmc, hms, hdf, hdl, hQ, rfl, rfl, rfl⟩ := X
  subst hn
  intro H locs cells slots ls hV hS hl hcc hs
  refine va_slen hx hb hX hbl (A := zA Γ.2.2.2) (fun q => ?_) hS hdg ?_
  · have q : Γ.2.2.2 ≤ b := q
    have hB : Γ.2.2.2 = s.heap.size := hB
    have hbl : b < s.heap.size := hbl
    omega
  · exact kk H locs cells slots ls hV hS hl hcc hs
/-- both sides of the law -/
def zLw (Γ : zGam) (V : zV) (ad c md : Nat → Nat) (σ τ κ : Nat → Int) (E : Int) (o : Nat) : Prop := zS Γ V ad σ ∧ zMo Γ V c md τ κ E ∧ zOut V o ∧ zA6 σ τ
theorem zA6.k32 {σ τ : Nat → Int} (h : zA6 σ τ) : σ 32 = τ 32 := h.at (by decide)
theorem ag_pump {σ σ' τ τ' : Nat → Int} {q a b th y : Int} (hA : zA6 σ τ) (h6 : zr6_pump σ q a b th y σ') (h8 : (¬ (0 ≤ q ∧ q ≤ 7) ∧ τ' = zf τ 36 1) ∨ ((0 ≤ q ∧ q ≤ 7) ∧ ¬ (1 ≤ a ∧ a ≤ 8 ∧ 1 ≤ b ∧ b ≤ 8) ∧ τ' = zf τ 36 2) ∨ ((0 ≤ q ∧ q ≤ 7 ∧ 1 ≤ a ∧ a ≤ 8 ∧ 1 ≤ b ∧ b ≤ 8) ∧ ¬ ((zf τ 36 0) 28 + zsz (zf τ 36 0) q ≤ 160) ∧ τ' = zf τ 36 3) ∨ ((0 ≤ q ∧ q ≤ 7 ∧ 1 ≤ a ∧ a ≤ 8 ∧ 1 ≤ b ∧ b ≤ 8) ∧ (zf τ 36 0) 28 + zsz (zf τ 36 0) q ≤ 160 ∧ (∀ j, ¬ (26 ≤ j ∧ j ≤ 29) → j ≠ 30 → j ≠ 33 → j ≠ 36 → τ' j = τ j) ∧ τ' 26 = τ 26 ∧ τ' 30 = τ 30 + 1 ∧ (τ' 27, τ' 28, τ' 29, τ' 33) = zpm a b ((zf τ 36 0) 26) (zsz (zf τ 36 0) q) (zsz (zf τ 36 0) q + (zf τ 36 0) 27).toNat 0 ((zf τ 36 0) 27) ((zf τ 36 0) 28) ((zf τ 36 0) 29) ((zf τ 36 0) 33))) : zA6 σ' τ' := by
  have hA0 : zA6 σ (zf τ 36 0) := hA.t36
  have e26 : σ 26 = zf τ 36 0 26 := congrFun hA 26
  have e27 : σ 27 = zf τ 36 0 27 := congrFun hA 27
  have e28 : σ 28 = zf τ 36 0 28 := congrFun hA 28
  have e29 : σ 29 = zf τ 36 0 29 := congrFun hA 29
  have f33 : σ 33 = zf τ 36 0 33 := congrFun hA 33
  unfold zr6_pump at h6
  by_cases hq : 0 ≤ q ∧ q ≤ 7
  · have sq : zsz σ q = zsz (zf τ 36 0) q := congrArg (fun z => zsz z q) (hA : σ = zf τ 36 0)
    rcases h6 with ⟨-, c6, hs⟩ | ⟨-, c6, hs⟩ | ⟨-, c6, hs⟩ | ⟨-, c6, d6, r6, r6a, r6b, r6c⟩
    · exact absurd hq c6
    · rcases h8 with ⟨c8, ht⟩ | ⟨c8, d8, ht⟩ | ⟨c8, d8, ht⟩ | ⟨c8, -⟩
      · exact absurd hq c8
      · rw [hs, ht]
        exact hA.t36
      · exact absurd c8.2.2 c6.2
      · exact absurd c8.2.2 c6.2
    · rcases h8 with ⟨c8, ht⟩ | ⟨c8, d8, ht⟩ | ⟨c8, d8, ht⟩ | ⟨c8, d8, -⟩
      · exact absurd hq c8
      · exact absurd c6.1.2.2 d8
      · rw [hs, ht]
        exact hA.t36
      · exact absurd (by rw [e28, sq]; exact d8) c6.2
    · rcases h8 with ⟨c8, ht⟩ | ⟨c8, d8, ht⟩ | ⟨c8, d8, ht⟩ | ⟨c8, d8, r8, r8a, r8b, r8c⟩
      · exact absurd hq c8
      · exact absurd c6.2.2 d8
      · exact absurd (by rw [← e28, ← sq]; exact d6) d8
      · rw [e26, sq, e27, e28, e29, f33, ← r8c] at r6c
        obtain ⟨g27, g28, g29, g33⟩ : σ' 27 = τ' 27 ∧ σ' 28 = τ' 28 ∧ σ' 29 = τ' 29 ∧ σ' 33 = τ' 33 := by
          simpa only [Prod.mk.injEq] using r6c
        refine .pt ((r6 36 (by omega) (by decide) (by decide)).trans hA.z) (fun j hj => ?_)
        rcases (by omega : j = 26 ∨ j = 27 ∨ j = 28 ∨ j = 29 ∨ j = 30 ∨ j = 33 ∨ (¬ (26 ≤ j ∧ j ≤ 29) ∧ j ≠ 30 ∧ j ≠ 33)) with e | e | e | e | e | e | ⟨a1, a2, a3⟩
        · rw [e, r6a, r8a]
          exact hA.at (by decide)
        · rw [e]
          exact g27
        · rw [e]
          exact g28
        · rw [e]
          exact g29
        · rw [e, r6b, r8b, hA.at (j := 30) (by decide)]
        · rw [e]
          exact g33
        · rw [r6 j a1 a2 a3, r8 j a1 a2 a3 hj]
          exact hA.at hj
  · rcases h6 with ⟨-, c6, hs⟩ | ⟨-, c6, hs⟩ | ⟨-, c6, hs⟩ | ⟨-, c6, -⟩
    · rcases h8 with ⟨c8, ht⟩ | ⟨c8, d8, ht⟩ | ⟨c8, d8, ht⟩ | ⟨c8, -⟩
      · rw [hs, ht]
        exact hA.t36
      · exact absurd c8 hq
      · exact absurd ⟨c8.1, c8.2.1⟩ hq
      · exact absurd ⟨c8.1, c8.2.1⟩ hq
    · exact absurd c6.1 hq
    · exact absurd ⟨c6.1.1, c6.1.2.1⟩ hq
    · exact absurd ⟨c6.1, c6.2.1⟩ hq
theorem zb_lcmp0 {p : Program} {l : Launch} {e : Env} {R : Room} {s : State} {m : MethodId} {args : Array Value} {below : List Frame} {meth : Method} {c : Code} {H : Heap} {locs : List Loc} {cells slots : Nat} {Q : State → Prop} {cc : ByteArray} {pc : Nat} {ls : Array Slot} {rest : List Value} (hexec : p.tables.exec = Jvm.exec) (hb : c.code = cc) {x : Int64} (hdg : decode cc pc = .ok (.lcmp, 1))
    (k : W p l e R s m args below meth c H locs cells slots Q (F0 m (pc + 1) ls (.int 0 :: rest))) : W p l e R s m args below meth c H locs cells slots Q (F0 m pc ls (.long x :: .long x :: rest)) := by
  intro T hT X
  obtain ⟨t, a, b⟩ := k T hT X
  refine ⟨t, ?_, b⟩
  have h1 : ¬ x > x := Int64.lt_irrefl
  have h2 : (x == x) = true := beq_self_eq_true x
  jvm_step X.here [X.here.top, hexec, hb, hdg, h1, h2]
  exact a
theorem zr_lcmp0 {C : zC} {l0 : Launch} {Γ0 : zGam} {n0 : Nat} {own : String} {cc : ByteArray} {ws : List Cond} {d : Nat} {ret : Option FieldType} {Post : Option Value → zV → Prop} {V : zV} {kc ks pc : Nat} {lv : List (Nat × Value)} {rest : List Value} (X : zK C l0 Γ0 n0 own cc ws d ret Post) (n' : Nat) {x : Int64} (hdg : decode cc pc = .ok (.lcmp, 1)) (hn : pc + 1 = n') (kk : zG C V kc ks n' lv (.int (zI 0) :: rest)) : zG C V kc ks pc lv (.long x :: .long x :: rest) := by
  obtain ⟨⟨p, l, e, R, s, m, args, below, meth, c⟩, Γ, ⟨nL, mc, ms⟩, Q⟩ := C
  obtain ⟨hx, hb, hml, hown, hts, hO, hB0, hlk, hret, hmc, hms, hdf, hdl, hQ, rfl, rfl, rfl⟩ := X
  subst hn
  intro H locs cells slots ls hV hS hl hcc hs
  exact zb_lcmp0 hx hb hdg (kk H locs cells slots ls hV hS hl hcc hs)
theorem zA6.kn {σ τ : Nat → Int} (h : zA6 σ τ) : zA6 (zx4 σ (σ 30) (σ 31) (σ 32 + 1) (σ 33)) (zf (zf τ 36 0) 32 ((zf τ 36 0) 32 + 1)) := by
  have e : σ = zf τ 36 0 := h
  rw [← e]
  refine .of ?_ ((zf_ne (by decide)).trans h.z)
  funext j
  unfold zx4 zf
  by_cases h0 : j = 30
  · rw [if_pos h0, if_neg (by omega), h0]
  · by_cases h1 : j = 31
    · rw [if_neg h0, if_pos h1, if_neg (by omega), h1]
    · by_cases h2 : j = 32
      · rw [if_neg h0, if_neg h1, if_pos h2, if_pos h2]
      · by_cases h3 : j = 33
        · rw [if_neg h0, if_neg h1, if_neg h2, if_pos h3, if_neg h2, h3]
        · rw [if_neg h0, if_neg h1, if_neg h2, if_neg h3, if_neg h2]
set_option maxRecDepth 100000 in
set_option maxHeartbeats 4000000 in
theorem m_X8_thrown (l : Launch) (Γ : zGam) {V : zV} {c md : Nat → Nat} {τ κ : Nat → Int} {E : Int} (hM : zMo Γ V c md τ κ E) : zM l Γ 0 yX8_thrown wsX8_thrown 0 0 V [.ref (c 60)] (fun rv V' => rv = some (.int (zI (τ 36))) ∧ V' = V) := by
  have w0 : Cond.fieldLink RX8 38 "SashwordsModel" "thrown" "I" ∈ wsX8_thrown := by decide +kernel
  have iX8 : ∀ w ∈ u_ws RX8 TX8 11, w ∈ wsX8_thrown := by decide +kernel
  refine zM_of (cc := cX8_thrown) (nL := 1) (ret := (some .int)) (own := RX8) (by decide +kernel) rfl rfl (Nat.le_of_ble_eq_true rfl) (fun C X hi0 => ?_)
  show zG C V 0 0 0 [(0, .ref (c 60))] []
  refine zr_aload_n X 1 0 dX8_thrown_0 rfl rfl ?_
  refine zr_get X 4 9 10 hM.1 rfl iX8 (by decide) w0 rfl rfl dX8_thrown_1 rfl ?_
  exact zr_iret X rfl ⟨rfl, rfl⟩ dX8_thrown_4
theorem m_W_X6_slice (l : Launch) (hlt : l.stackTraces = false) (Γ : zGam) {V : zV} {ad : Nat → Nat} {σ : Nat → Int} {q q2 : Int} {o : Nat} (hS : zS Γ V ad σ) (hq : -2147483648 ≤ q ∧ q ≤ 2147483647) (hq2 : -2147483648 ≤ q2 ∧ q2 ≤ 2147483647) (hO : zOut V o) : zM l Γ 9 yL_slice wsL_slice 2 12 V [.ref (ad 1), .int (zI (q)), .int (zI (q2)), .ref o] (zPR Γ V ad σ o True (zr6_slice σ q q2)) := by
  by_cases h : q = q2
  · subst h
    exact m_W_slice_eq l hlt Γ hS hq hO
  · exact m_W_slice_ne l hlt Γ hS hq hq2 h hO
theorem m_W_X6_duplicate (l : Launch) (hlt : l.stackTraces = false) (Γ : zGam) {V : zV} {ad : Nat → Nat} {σ : Nat → Int} {q q2 : Int} {o : Nat} (hS : zS Γ V ad σ) (hq : -2147483648 ≤ q ∧ q ≤ 2147483647) (hq2 : -2147483648 ≤ q2 ∧ q2 ≤ 2147483647) (hO : zOut V o) : zM l Γ 9 yL_duplicate wsL_duplicate 2 12 V [.ref (ad 1), .int (zI (q)), .int (zI (q2)), .ref o] (zPR Γ V ad σ o True (zr6_duplicate σ q q2)) := by
  by_cases h : q = q2
  · subst h
    exact m_W_duplicate_eq l hlt Γ hS hq hO
  · exact m_W_duplicate_ne l hlt Γ hS hq hq2 h hO
theorem m_W_X6_part (l : Launch) (hlt : l.stackTraces = false) (Γ : zGam) {V : zV} {ad : Nat → Nat} {σ : Nat → Int} {q a b q2 : Int} {o : Nat} (hS : zS Γ V ad σ) (hq : -2147483648 ≤ q ∧ q ≤ 2147483647) (hq2 : -2147483648 ≤ q2 ∧ q2 ≤ 2147483647) (ha : -2147483648 ≤ a ∧ a ≤ 2147483647) (hb : -2147483648 ≤ b ∧ b ≤ 2147483647) (hO : zOut V o) : zM l Γ 9 yL_part wsL_part 2 12 V [.ref (ad 1), .int (zI (q)), .int (zI (a)), .int (zI (b)), .int (zI (q2)), .ref o] (zPR Γ V ad σ o True (zr6_part σ q a b q2)) := by
  by_cases h : q = q2
  · subst h
    exact m_W_part_eq l hlt Γ hS hq ha hb hO
  · exact m_W_part_ne l hlt Γ hS hq hq2 ha hb h hO
theorem m_W_X6_pour (l : Launch) (hlt : l.stackTraces = false) (Γ : zGam) {V : zV} {ad : Nat → Nat} {σ : Nat → Int} {q q2 n : Int} {o : Nat} (hS : zS Γ V ad σ) (hq : -2147483648 ≤ q ∧ q ≤ 2147483647) (hq2 : -2147483648 ≤ q2 ∧ q2 ≤ 2147483647) (hn : -2147483648 ≤ n ∧ n ≤ 2147483647) (hO : zOut V o) : zM l Γ 9 yL_pour wsL_pour 4 24 V [.ref (ad 1), .int (zI (q)), .int (zI (q2)), .int (zI (n)), .ref o] (zPR Γ V ad σ o True (zr6_pour σ q q2 n)) := by
  by_cases h : q = q2
  · subst h
    exact m_W_pour_eq l hlt Γ hS hq hn hO
  · exact m_W_pour_ne l hlt Γ hS hq hq2 hn h hO
set_option maxRecDepth 100000 in
set_option maxHeartbeats 4000000 in
theorem lc_allocate {C : zC} {l : Launch} (hlt : l.stackTraces = false) {Γ : zGam} {Post : Option Value → zV → Prop} (X : zK C l Γ 7 RL cL_law wsL_law 20 (some .boolean) Post) {V : zV} {ad c md : Nat → Nat} {σ τ κ : Nat → Int} {E i : Int} {b L o kc ks kc' ks' : Nat} {xs : Nat → Int32} (hX : va_X b L xs C.1.2.2.2.2.1 C.1.2.2.2.2.1.heap) (hbl : b < C.1.2.2.2.2.1.heap.size) (hB : Γ.2.2.2 = C.1.2.2.2.2.1.heap.size) (hi : 0 ≤ i ∧ i ≤ (L : Int) - 7 ∧ L ≤ 448) (hS : zS Γ V ad σ) (hM : zMo Γ V c md τ κ E) (hO : zOut V o) (hA : zA6 σ τ) (hE : E ≤ 3000) (hK : 0 ≤ σ 32 ∧ σ 32 ≤ 1000) (hkc : kc' + 6200 ≤ kc) (hks : ks' + 12800 ≤ ks)
    (kk : ∀ (V' : zV) (σ' : Nat → Int) (md' : Nat → Nat) (τ' κ' : Nat → Int), zLw Γ V' ad c md' σ' τ' κ' (E + 40) o → (σ' 32 = σ 32 ∨ σ' 32 = σ 32 + 1) → zG C V' kc' ks' 2004 [(4, .int (zI i)), (3, .ref o), (2, .ref (c 60)), (1, .ref (ad 1)), (0, .ref b)] []) : zG C V kc ks 256 [(4, .int (zI i)), (3, .ref o), (2, .ref (c 60)), (1, .ref (ad 1)), (0, .ref b)] [] := by
  show zG C V kc ks 256 [(4, .int (zI (i))), (3, .ref o), (2, .ref (c 60)), (1, .ref (ad 1)), (0, .ref b)] []
  refine zr_aload_n X 257 3 dL_law_256 rfl rfl ?_
  refine zr_aload_n X 258 4 dL_law_257 rfl rfl ?_
  refine zr_iload X 260 0 dL_law_258 rfl rfl ?_
  refine zr_iconst X 261 dL_law_260 rfl ?_
  refine zr_iadd X 262 dL_law_261 rfl ?_
  refine zr_sld X 263 hX hbl hB (by omega) dL_law_262 rfl ?_
  obtain ⟨p0, p0e, p0r⟩ := zIex (xs (i + 1).toNat)
  rw [p0e]
  show zG C V kc ks 263 [(4, .int (zI (i))), (3, .ref o), (2, .ref (c 60)), (1, .ref (ad 1)), (0, .ref b)] [.int (zI (p0)), .ref (ad 1)]
  refine zr_aload_n X 264 4 dL_law_263 rfl rfl ?_
  refine zr_iload X 266 0 dL_law_264 rfl rfl ?_
  refine zr_iconst X 267 dL_law_266 rfl ?_
  refine zr_iadd X 268 dL_law_267 rfl ?_
  refine zr_sld X 269 hX hbl hB (by omega) dL_law_268 rfl ?_
  obtain ⟨p1, p1e, p1r⟩ := zIex (xs (i + 2).toNat)
  rw [p1e]
  show zG C V kc ks 269 [(4, .int (zI (i))), (3, .ref o), (2, .ref (c 60)), (1, .ref (ad 1)), (0, .ref b)] [.int (zI (p1)), .int (zI (p0)), .ref (ad 1)]
  refine zr_aload_n X 270 1 dL_law_269 rfl rfl ?_
  refine zr_callSW (kc' := kc - 9) (ks' := ks - 100) X 273 4 (m_W_allocate l hlt Γ (q := p0) (z := p1) hS (by omega) (by omega) hO) gL_law_L_allocate rfl (by decide +kernel) rfl (by decide) rfl (Nat.le_of_ble_eq_true rfl) dL_law_270 rfl (by omega) (by omega) (fun rv1 V1 hp => ?_)
  obtain ⟨k1, y1, σ1, hr1, hk1, hS1, hf1, hO1, h1, hR1⟩ := hp
  rw [hr1]
  have hM1 := hM.kept hf1 (fun t a1 a2 => a1)
  show zG C V1 (kc - 9) (ks - 100) 273 [(4, .int (zI (i))), (3, .ref o), (2, .ref (c 60)), (1, .ref (ad 1)), (0, .ref b)] [.int (zI (k1))]
  refine zr_istore X 275 [(5, .int (zI (k1))), (4, .int (zI (i))), (3, .ref o), (2, .ref (c 60)), (1, .ref (ad 1)), (0, .ref b)] dL_law_273 rfl (by decide) rfl ?_
  refine zr_aload_n X 276 3 dL_law_275 rfl rfl ?_
  refine zr_aload_n X 277 5 dL_law_276 rfl rfl ?_
  refine zr_iload X 279 1 dL_law_277 rfl rfl ?_
  refine zr_iconst X 280 dL_law_279 rfl ?_
  refine zr_iadd X 281 dL_law_280 rfl ?_
  refine zr_sld X 282 hX hbl hB (by omega) dL_law_281 rfl ?_
  rw [p0e]
  show zG C V1 (kc - 9) (ks - 100) 282 [(5, .int (zI (k1))), (4, .int (zI (i))), (3, .ref o), (2, .ref (c 60)), (1, .ref (ad 1)), (0, .ref b)] [.int (zI (p0)), .ref (c 60)]
  refine zr_aload_n X 283 5 dL_law_282 rfl rfl ?_
  refine zr_iload X 285 1 dL_law_283 rfl rfl ?_
  refine zr_iconst X 286 dL_law_285 rfl ?_
  refine zr_iadd X 287 dL_law_286 rfl ?_
  refine zr_sld X 288 hX hbl hB (by omega) dL_law_287 rfl ?_
  rw [p1e]
  show zG C V1 (kc - 9) (ks - 100) 288 [(5, .int (zI (k1))), (4, .int (zI (i))), (3, .ref o), (2, .ref (c 60)), (1, .ref (ad 1)), (0, .ref b)] [.int (zI (p1)), .int (zI (p0)), .ref (c 60)]
  refine zr_callVe (kc' := (kc - 9) - 2) (ks' := (ks - 100) - 6085) X 291 2 (m_X8_allocate l Γ (q := p0) (z := p1) hM1 (by omega) (by omega) (by omega)) gL_law_X8_allocate rfl (by decide +kernel) rfl (by decide) ⟨_, _, hM1.1⟩ rfl rfl (Nat.le_of_ble_eq_true rfl) dL_law_288 rfl (by omega) (by omega) (fun rv2 V2 hp => ?_)
  obtain ⟨y2, md2, τ2, κ2, hr2, hM2, hf2, hrel⟩ := hp
  rw [hr2]
  have hS2 := hS1.kept hf2 (fun t a1 a2 a3 => ⟨by omega, a3⟩)
  have hO2 := hO1.kept hf2 ⟨by decide, by decide⟩
  have ha := ag_allocate hA (by omega) (by omega) hR1 hrel
  show zG C V2 ((kc - 9) - 2) ((ks - 100) - 6085) 291 [(5, .int (zI (k1))), (4, .int (zI (i))), (3, .ref o), (2, .ref (c 60)), (1, .ref (ad 1)), (0, .ref b)] [.int (zI (y2))]
  refine zr_istore X 293 [(6, .int (zI (y2))), (5, .int (zI (k1))), (4, .int (zI (i))), (3, .ref o), (2, .ref (c 60)), (1, .ref (ad 1)), (0, .ref b)] dL_law_291 rfl (by decide) rfl ?_
  refine zr_goto X 2004 dL_law_293 rfl ?_
  refine zr_sub [2, 3, 4, 5, 6] [(4, .int (zI (i))), (3, .ref o), (2, .ref (c 60)), (1, .ref (ad 1)), (0, .ref b)] rfl ?_
  refine zr_room kc' ks' (by omega) (by omega) ?_
  exact kk V2 σ1 md2 τ2 κ2 ⟨hS2, hM2, hO2.out, ha.1⟩ (by omega)
set_option maxRecDepth 100000 in
set_option maxHeartbeats 4000000 in
theorem lc_slice {C : zC} {l : Launch} (hlt : l.stackTraces = false) {Γ : zGam} {Post : Option Value → zV → Prop} (X : zK C l Γ 7 RL cL_law wsL_law 20 (some .boolean) Post) {V : zV} {ad c md : Nat → Nat} {σ τ κ : Nat → Int} {E i : Int} {b L o kc ks kc' ks' : Nat} {xs : Nat → Int32} (hX : va_X b L xs C.1.2.2.2.2.1 C.1.2.2.2.2.1.heap) (hbl : b < C.1.2.2.2.2.1.heap.size) (hB : Γ.2.2.2 = C.1.2.2.2.2.1.heap.size) (hi : 0 ≤ i ∧ i ≤ (L : Int) - 7 ∧ L ≤ 448) (hS : zS Γ V ad σ) (hM : zMo Γ V c md τ κ E) (hO : zOut V o) (hA : zA6 σ τ) (hE : E ≤ 3000) (hK : 0 ≤ σ 32 ∧ σ 32 ≤ 1000) (hkc : kc' + 6200 ≤ kc) (hks : ks' + 12800 ≤ ks)
    (kk : ∀ (V' : zV) (σ' : Nat → Int) (md' : Nat → Nat) (τ' κ' : Nat → Int), zLw Γ V' ad c md' σ' τ' κ' (E + 40) o → (σ' 32 = σ 32 ∨ σ' 32 = σ 32 + 1) → zG C V' kc' ks' 2004 [(4, .int (zI i)), (3, .ref o), (2, .ref (c 60)), (1, .ref (ad 1)), (0, .ref b)] []) : zG C V kc ks 296 [(4, .int (zI i)), (3, .ref o), (2, .ref (c 60)), (1, .ref (ad 1)), (0, .ref b)] [] := by
  show zG C V kc ks 296 [(4, .int (zI (i))), (3, .ref o), (2, .ref (c 60)), (1, .ref (ad 1)), (0, .ref b)] []
  refine zr_aload_n X 297 3 dL_law_296 rfl rfl ?_
  refine zr_aload_n X 298 4 dL_law_297 rfl rfl ?_
  refine zr_iload X 300 0 dL_law_298 rfl rfl ?_
  refine zr_iconst X 301 dL_law_300 rfl ?_
  refine zr_iadd X 302 dL_law_301 rfl ?_
  refine zr_sld X 303 hX hbl hB (by omega) dL_law_302 rfl ?_
  obtain ⟨p0, p0e, p0r⟩ := zIex (xs (i + 1).toNat)
  rw [p0e]
  show zG C V kc ks 303 [(4, .int (zI (i))), (3, .ref o), (2, .ref (c 60)), (1, .ref (ad 1)), (0, .ref b)] [.int (zI (p0)), .ref (ad 1)]
  refine zr_aload_n X 304 4 dL_law_303 rfl rfl ?_
  refine zr_iload X 306 0 dL_law_304 rfl rfl ?_
  refine zr_iconst X 307 dL_law_306 rfl ?_
  refine zr_iadd X 308 dL_law_307 rfl ?_
  refine zr_sld X 309 hX hbl hB (by omega) dL_law_308 rfl ?_
  obtain ⟨p1, p1e, p1r⟩ := zIex (xs (i + 2).toNat)
  rw [p1e]
  show zG C V kc ks 309 [(4, .int (zI (i))), (3, .ref o), (2, .ref (c 60)), (1, .ref (ad 1)), (0, .ref b)] [.int (zI (p1)), .int (zI (p0)), .ref (ad 1)]
  refine zr_aload_n X 310 1 dL_law_309 rfl rfl ?_
  refine zr_callSW (kc' := kc - 2) (ks' := ks - 12) X 313 4 (m_W_X6_slice l hlt Γ (q := p0) (q2 := p1) hS (by omega) (by omega) hO) gL_law_L_slice rfl (by decide +kernel) rfl (by decide) rfl (Nat.le_of_ble_eq_true rfl) dL_law_310 rfl (by omega) (by omega) (fun rv1 V1 hp => ?_)
  obtain ⟨k1, y1, σ1, hr1, hk1, hS1, hf1, hO1, h1, hR1⟩ := hp
  rw [hr1]
  have hM1 := hM.kept hf1 (fun t a1 a2 => a1)
  show zG C V1 (kc - 2) (ks - 12) 313 [(4, .int (zI (i))), (3, .ref o), (2, .ref (c 60)), (1, .ref (ad 1)), (0, .ref b)] [.int (zI (k1))]
  refine zr_istore X 315 [(5, .int (zI (k1))), (4, .int (zI (i))), (3, .ref o), (2, .ref (c 60)), (1, .ref (ad 1)), (0, .ref b)] dL_law_313 rfl (by decide) rfl ?_
  refine zr_aload_n X 316 3 dL_law_315 rfl rfl ?_
  refine zr_aload_n X 317 5 dL_law_316 rfl rfl ?_
  refine zr_iload X 319 1 dL_law_317 rfl rfl ?_
  refine zr_iconst X 320 dL_law_319 rfl ?_
  refine zr_iadd X 321 dL_law_320 rfl ?_
  refine zr_sld X 322 hX hbl hB (by omega) dL_law_321 rfl ?_
  rw [p0e]
  show zG C V1 (kc - 2) (ks - 12) 322 [(5, .int (zI (k1))), (4, .int (zI (i))), (3, .ref o), (2, .ref (c 60)), (1, .ref (ad 1)), (0, .ref b)] [.int (zI (p0)), .ref (c 60)]
  refine zr_aload_n X 323 5 dL_law_322 rfl rfl ?_
  refine zr_iload X 325 1 dL_law_323 rfl rfl ?_
  refine zr_iconst X 326 dL_law_325 rfl ?_
  refine zr_iadd X 327 dL_law_326 rfl ?_
  refine zr_sld X 328 hX hbl hB (by omega) dL_law_327 rfl ?_
  rw [p1e]
  show zG C V1 (kc - 2) (ks - 12) 328 [(5, .int (zI (k1))), (4, .int (zI (i))), (3, .ref o), (2, .ref (c 60)), (1, .ref (ad 1)), (0, .ref b)] [.int (zI (p1)), .int (zI (p0)), .ref (c 60)]
  refine zr_callVe (kc' := (kc - 2) - 1) (ks' := (ks - 12) - 5) X 331 2 (m_X8_slice l Γ (q := p0) (q2 := p1) hM1 (by omega) (by omega)) gL_law_X8_slice rfl (by decide +kernel) rfl (by decide) ⟨_, _, hM1.1⟩ rfl rfl (Nat.le_of_ble_eq_true rfl) dL_law_328 rfl (by omega) (by omega) (fun rv2 V2 hp => ?_)
  obtain ⟨y2, md2, τ2, κ2, hr2, hM2, hf2, hrel⟩ := hp
  rw [hr2]
  have hS2 := hS1.kept hf2 (fun t a1 a2 a3 => ⟨by omega, a3⟩)
  have hO2 := hO1.kept hf2 ⟨by decide, by decide⟩
  have ha := ag_slice hA (by omega) (by omega) hR1 hrel
  show zG C V2 ((kc - 2) - 1) ((ks - 12) - 5) 331 [(5, .int (zI (k1))), (4, .int (zI (i))), (3, .ref o), (2, .ref (c 60)), (1, .ref (ad 1)), (0, .ref b)] [.int (zI (y2))]
  refine zr_istore X 333 [(6, .int (zI (y2))), (5, .int (zI (k1))), (4, .int (zI (i))), (3, .ref o), (2, .ref (c 60)), (1, .ref (ad 1)), (0, .ref b)] dL_law_331 rfl (by decide) rfl ?_
  refine zr_goto X 2004 dL_law_333 rfl ?_
  refine zr_sub [2, 3, 4, 5, 6] [(4, .int (zI (i))), (3, .ref o), (2, .ref (c 60)), (1, .ref (ad 1)), (0, .ref b)] rfl ?_
  refine zr_room kc' ks' (by omega) (by omega) ?_
  exact kk V2 σ1 md2 τ2 κ2 ⟨hS2, hM2, hO2.out, ha.1⟩ (by omega)
set_option maxRecDepth 100000 in
set_option maxHeartbeats 4000000 in
theorem lc_duplicate {C : zC} {l : Launch} (hlt : l.stackTraces = false) {Γ : zGam} {Post : Option Value → zV → Prop} (X : zK C l Γ 7 RL cL_law wsL_law 20 (some .boolean) Post) {V : zV} {ad c md : Nat → Nat} {σ τ κ : Nat → Int} {E i : Int} {b L o kc ks kc' ks' : Nat} {xs : Nat → Int32} (hX : va_X b L xs C.1.2.2.2.2.1 C.1.2.2.2.2.1.heap) (hbl : b < C.1.2.2.2.2.1.heap.size) (hB : Γ.2.2.2 = C.1.2.2.2.2.1.heap.size) (hi : 0 ≤ i ∧ i ≤ (L : Int) - 7 ∧ L ≤ 448) (hS : zS Γ V ad σ) (hM : zMo Γ V c md τ κ E) (hO : zOut V o) (hA : zA6 σ τ) (hE : E ≤ 3000) (hK : 0 ≤ σ 32 ∧ σ 32 ≤ 1000) (hkc : kc' + 6200 ≤ kc) (hks : ks' + 12800 ≤ ks)
    (kk : ∀ (V' : zV) (σ' : Nat → Int) (md' : Nat → Nat) (τ' κ' : Nat → Int), zLw Γ V' ad c md' σ' τ' κ' (E + 40) o → (σ' 32 = σ 32 ∨ σ' 32 = σ 32 + 1) → zG C V' kc' ks' 2004 [(4, .int (zI i)), (3, .ref o), (2, .ref (c 60)), (1, .ref (ad 1)), (0, .ref b)] []) : zG C V kc ks 336 [(4, .int (zI i)), (3, .ref o), (2, .ref (c 60)), (1, .ref (ad 1)), (0, .ref b)] [] := by
  show zG C V kc ks 336 [(4, .int (zI (i))), (3, .ref o), (2, .ref (c 60)), (1, .ref (ad 1)), (0, .ref b)] []
  refine zr_aload_n X 337 3 dL_law_336 rfl rfl ?_
  refine zr_aload_n X 338 4 dL_law_337 rfl rfl ?_
  refine zr_iload X 340 0 dL_law_338 rfl rfl ?_
  refine zr_iconst X 341 dL_law_340 rfl ?_
  refine zr_iadd X 342 dL_law_341 rfl ?_
  refine zr_sld X 343 hX hbl hB (by omega) dL_law_342 rfl ?_
  obtain ⟨p0, p0e, p0r⟩ := zIex (xs (i + 1).toNat)
  rw [p0e]
  show zG C V kc ks 343 [(4, .int (zI (i))), (3, .ref o), (2, .ref (c 60)), (1, .ref (ad 1)), (0, .ref b)] [.int (zI (p0)), .ref (ad 1)]
  refine zr_aload_n X 344 4 dL_law_343 rfl rfl ?_
  refine zr_iload X 346 0 dL_law_344 rfl rfl ?_
  refine zr_iconst X 347 dL_law_346 rfl ?_
  refine zr_iadd X 348 dL_law_347 rfl ?_
  refine zr_sld X 349 hX hbl hB (by omega) dL_law_348 rfl ?_
  obtain ⟨p1, p1e, p1r⟩ := zIex (xs (i + 2).toNat)
  rw [p1e]
  show zG C V kc ks 349 [(4, .int (zI (i))), (3, .ref o), (2, .ref (c 60)), (1, .ref (ad 1)), (0, .ref b)] [.int (zI (p1)), .int (zI (p0)), .ref (ad 1)]
  refine zr_aload_n X 350 1 dL_law_349 rfl rfl ?_
  refine zr_callSW (kc' := kc - 2) (ks' := ks - 12) X 353 4 (m_W_X6_duplicate l hlt Γ (q := p0) (q2 := p1) hS (by omega) (by omega) hO) gL_law_L_duplicate rfl (by decide +kernel) rfl (by decide) rfl (Nat.le_of_ble_eq_true rfl) dL_law_350 rfl (by omega) (by omega) (fun rv1 V1 hp => ?_)
  obtain ⟨k1, y1, σ1, hr1, hk1, hS1, hf1, hO1, h1, hR1⟩ := hp
  rw [hr1]
  have hM1 := hM.kept hf1 (fun t a1 a2 => a1)
  show zG C V1 (kc - 2) (ks - 12) 353 [(4, .int (zI (i))), (3, .ref o), (2, .ref (c 60)), (1, .ref (ad 1)), (0, .ref b)] [.int (zI (k1))]
  refine zr_istore X 355 [(5, .int (zI (k1))), (4, .int (zI (i))), (3, .ref o), (2, .ref (c 60)), (1, .ref (ad 1)), (0, .ref b)] dL_law_353 rfl (by decide) rfl ?_
  refine zr_aload_n X 356 3 dL_law_355 rfl rfl ?_
  refine zr_aload_n X 357 5 dL_law_356 rfl rfl ?_
  refine zr_iload X 359 1 dL_law_357 rfl rfl ?_
  refine zr_iconst X 360 dL_law_359 rfl ?_
  refine zr_iadd X 361 dL_law_360 rfl ?_
  refine zr_sld X 362 hX hbl hB (by omega) dL_law_361 rfl ?_
  rw [p0e]
  show zG C V1 (kc - 2) (ks - 12) 362 [(5, .int (zI (k1))), (4, .int (zI (i))), (3, .ref o), (2, .ref (c 60)), (1, .ref (ad 1)), (0, .ref b)] [.int (zI (p0)), .ref (c 60)]
  refine zr_aload_n X 363 5 dL_law_362 rfl rfl ?_
  refine zr_iload X 365 1 dL_law_363 rfl rfl ?_
  refine zr_iconst X 366 dL_law_365 rfl ?_
  refine zr_iadd X 367 dL_law_366 rfl ?_
  refine zr_sld X 368 hX hbl hB (by omega) dL_law_367 rfl ?_
  rw [p1e]
  show zG C V1 (kc - 2) (ks - 12) 368 [(5, .int (zI (k1))), (4, .int (zI (i))), (3, .ref o), (2, .ref (c 60)), (1, .ref (ad 1)), (0, .ref b)] [.int (zI (p1)), .int (zI (p0)), .ref (c 60)]
  refine zr_callVe (kc' := (kc - 2) - 1) (ks' := (ks - 12) - 5) X 371 2 (m_X8_duplicate l Γ (q := p0) (q2 := p1) hM1 (by omega) (by omega)) gL_law_X8_duplicate rfl (by decide +kernel) rfl (by decide) ⟨_, _, hM1.1⟩ rfl rfl (Nat.le_of_ble_eq_true rfl) dL_law_368 rfl (by omega) (by omega) (fun rv2 V2 hp => ?_)
  obtain ⟨y2, md2, τ2, κ2, hr2, hM2, hf2, hrel⟩ := hp
  rw [hr2]
  have hS2 := hS1.kept hf2 (fun t a1 a2 a3 => ⟨by omega, a3⟩)
  have hO2 := hO1.kept hf2 ⟨by decide, by decide⟩
  have ha := ag_duplicate hA (by omega) (by omega) hR1 hrel
  show zG C V2 ((kc - 2) - 1) ((ks - 12) - 5) 371 [(5, .int (zI (k1))), (4, .int (zI (i))), (3, .ref o), (2, .ref (c 60)), (1, .ref (ad 1)), (0, .ref b)] [.int (zI (y2))]
  refine zr_istore X 373 [(6, .int (zI (y2))), (5, .int (zI (k1))), (4, .int (zI (i))), (3, .ref o), (2, .ref (c 60)), (1, .ref (ad 1)), (0, .ref b)] dL_law_371 rfl (by decide) rfl ?_
  refine zr_goto X 2004 dL_law_373 rfl ?_
  refine zr_sub [2, 3, 4, 5, 6] [(4, .int (zI (i))), (3, .ref o), (2, .ref (c 60)), (1, .ref (ad 1)), (0, .ref b)] rfl ?_
  refine zr_room kc' ks' (by omega) (by omega) ?_
  exact kk V2 σ1 md2 τ2 κ2 ⟨hS2, hM2, hO2.out, ha.1⟩ (by omega)
set_option maxRecDepth 100000 in
set_option maxHeartbeats 4000000 in
theorem lc_part {C : zC} {l : Launch} (hlt : l.stackTraces = false) {Γ : zGam} {Post : Option Value → zV → Prop} (X : zK C l Γ 7 RL cL_law wsL_law 20 (some .boolean) Post) {V : zV} {ad c md : Nat → Nat} {σ τ κ : Nat → Int} {E i : Int} {b L o kc ks kc' ks' : Nat} {xs : Nat → Int32} (hX : va_X b L xs C.1.2.2.2.2.1 C.1.2.2.2.2.1.heap) (hbl : b < C.1.2.2.2.2.1.heap.size) (hB : Γ.2.2.2 = C.1.2.2.2.2.1.heap.size) (hi : 0 ≤ i ∧ i ≤ (L : Int) - 7 ∧ L ≤ 448) (hS : zS Γ V ad σ) (hM : zMo Γ V c md τ κ E) (hO : zOut V o) (hA : zA6 σ τ) (hE : E ≤ 3000) (hK : 0 ≤ σ 32 ∧ σ 32 ≤ 1000) (hkc : kc' + 6200 ≤ kc) (hks : ks' + 12800 ≤ ks)
    (kk : ∀ (V' : zV) (σ' : Nat → Int) (md' : Nat → Nat) (τ' κ' : Nat → Int), zLw Γ V' ad c md' σ' τ' κ' (E + 40) o → (σ' 32 = σ 32 ∨ σ' 32 = σ 32 + 1) → zG C V' kc' ks' 2004 [(4, .int (zI i)), (3, .ref o), (2, .ref (c 60)), (1, .ref (ad 1)), (0, .ref b)] []) : zG C V kc ks 376 [(4, .int (zI i)), (3, .ref o), (2, .ref (c 60)), (1, .ref (ad 1)), (0, .ref b)] [] := by
  show zG C V kc ks 376 [(4, .int (zI (i))), (3, .ref o), (2, .ref (c 60)), (1, .ref (ad 1)), (0, .ref b)] []
  refine zr_aload_n X 377 3 dL_law_376 rfl rfl ?_
  refine zr_aload_n X 378 4 dL_law_377 rfl rfl ?_
  refine zr_iload X 380 0 dL_law_378 rfl rfl ?_
  refine zr_iconst X 381 dL_law_380 rfl ?_
  refine zr_iadd X 382 dL_law_381 rfl ?_
  refine zr_sld X 383 hX hbl hB (by omega) dL_law_382 rfl ?_
  obtain ⟨p0, p0e, p0r⟩ := zIex (xs (i + 1).toNat)
  rw [p0e]
  show zG C V kc ks 383 [(4, .int (zI (i))), (3, .ref o), (2, .ref (c 60)), (1, .ref (ad 1)), (0, .ref b)] [.int (zI (p0)), .ref (ad 1)]
  refine zr_aload_n X 384 4 dL_law_383 rfl rfl ?_
  refine zr_iload X 386 0 dL_law_384 rfl rfl ?_
  refine zr_iconst X 387 dL_law_386 rfl ?_
  refine zr_iadd X 388 dL_law_387 rfl ?_
  refine zr_sld X 389 hX hbl hB (by omega) dL_law_388 rfl ?_
  obtain ⟨p1, p1e, p1r⟩ := zIex (xs (i + 2).toNat)
  rw [p1e]
  show zG C V kc ks 389 [(4, .int (zI (i))), (3, .ref o), (2, .ref (c 60)), (1, .ref (ad 1)), (0, .ref b)] [.int (zI (p1)), .int (zI (p0)), .ref (ad 1)]
  refine zr_aload_n X 390 4 dL_law_389 rfl rfl ?_
  refine zr_iload X 392 0 dL_law_390 rfl rfl ?_
  refine zr_iconst X 393 dL_law_392 rfl ?_
  refine zr_iadd X 394 dL_law_393 rfl ?_
  refine zr_sld X 395 hX hbl hB (by omega) dL_law_394 rfl ?_
  obtain ⟨p2, p2e, p2r⟩ := zIex (xs (i + 3).toNat)
  rw [p2e]
  show zG C V kc ks 395 [(4, .int (zI (i))), (3, .ref o), (2, .ref (c 60)), (1, .ref (ad 1)), (0, .ref b)] [.int (zI (p2)), .int (zI (p1)), .int (zI (p0)), .ref (ad 1)]
  refine zr_aload_n X 396 4 dL_law_395 rfl rfl ?_
  refine zr_iload X 398 0 dL_law_396 rfl rfl ?_
  refine zr_iconst X 399 dL_law_398 rfl ?_
  refine zr_iadd X 400 dL_law_399 rfl ?_
  refine zr_sld X 401 hX hbl hB (by omega) dL_law_400 rfl ?_
  obtain ⟨p3, p3e, p3r⟩ := zIex (xs (i + 4).toNat)
  rw [p3e]
  show zG C V kc ks 401 [(4, .int (zI (i))), (3, .ref o), (2, .ref (c 60)), (1, .ref (ad 1)), (0, .ref b)] [.int (zI (p3)), .int (zI (p2)), .int (zI (p1)), .int (zI (p0)), .ref (ad 1)]
  refine zr_aload_n X 402 1 dL_law_401 rfl rfl ?_
  refine zr_callSW (kc' := kc - 2) (ks' := ks - 12) X 405 6 (m_W_X6_part l hlt Γ (q := p0) (a := p1) (b := p2) (q2 := p3) hS (by omega) (by omega) (by omega) (by omega) hO) gL_law_L_part rfl (by decide +kernel) rfl (by decide) rfl (Nat.le_of_ble_eq_true rfl) dL_law_402 rfl (by omega) (by omega) (fun rv1 V1 hp => ?_)
  obtain ⟨k1, y1, σ1, hr1, hk1, hS1, hf1, hO1, h1, hR1⟩ := hp
  rw [hr1]
  have hM1 := hM.kept hf1 (fun t a1 a2 => a1)
  show zG C V1 (kc - 2) (ks - 12) 405 [(4, .int (zI (i))), (3, .ref o), (2, .ref (c 60)), (1, .ref (ad 1)), (0, .ref b)] [.int (zI (k1))]
  refine zr_istore X 407 [(5, .int (zI (k1))), (4, .int (zI (i))), (3, .ref o), (2, .ref (c 60)), (1, .ref (ad 1)), (0, .ref b)] dL_law_405 rfl (by decide) rfl ?_
  refine zr_aload_n X 408 3 dL_law_407 rfl rfl ?_
  refine zr_aload_n X 409 5 dL_law_408 rfl rfl ?_
  refine zr_iload X 411 1 dL_law_409 rfl rfl ?_
  refine zr_iconst X 412 dL_law_411 rfl ?_
  refine zr_iadd X 413 dL_law_412 rfl ?_
  refine zr_sld X 414 hX hbl hB (by omega) dL_law_413 rfl ?_
  rw [p0e]
  show zG C V1 (kc - 2) (ks - 12) 414 [(5, .int (zI (k1))), (4, .int (zI (i))), (3, .ref o), (2, .ref (c 60)), (1, .ref (ad 1)), (0, .ref b)] [.int (zI (p0)), .ref (c 60)]
  refine zr_aload_n X 415 5 dL_law_414 rfl rfl ?_
  refine zr_iload X 417 1 dL_law_415 rfl rfl ?_
  refine zr_iconst X 418 dL_law_417 rfl ?_
  refine zr_iadd X 419 dL_law_418 rfl ?_
  refine zr_sld X 420 hX hbl hB (by omega) dL_law_419 rfl ?_
  rw [p1e]
  show zG C V1 (kc - 2) (ks - 12) 420 [(5, .int (zI (k1))), (4, .int (zI (i))), (3, .ref o), (2, .ref (c 60)), (1, .ref (ad 1)), (0, .ref b)] [.int (zI (p1)), .int (zI (p0)), .ref (c 60)]
  refine zr_aload_n X 421 5 dL_law_420 rfl rfl ?_
  refine zr_iload X 423 1 dL_law_421 rfl rfl ?_
  refine zr_iconst X 424 dL_law_423 rfl ?_
  refine zr_iadd X 425 dL_law_424 rfl ?_
  refine zr_sld X 426 hX hbl hB (by omega) dL_law_425 rfl ?_
  rw [p2e]
  show zG C V1 (kc - 2) (ks - 12) 426 [(5, .int (zI (k1))), (4, .int (zI (i))), (3, .ref o), (2, .ref (c 60)), (1, .ref (ad 1)), (0, .ref b)] [.int (zI (p2)), .int (zI (p1)), .int (zI (p0)), .ref (c 60)]
  refine zr_aload_n X 427 5 dL_law_426 rfl rfl ?_
  refine zr_iload X 429 1 dL_law_427 rfl rfl ?_
  refine zr_iconst X 430 dL_law_429 rfl ?_
  refine zr_iadd X 431 dL_law_430 rfl ?_
  refine zr_sld X 432 hX hbl hB (by omega) dL_law_431 rfl ?_
  rw [p3e]
  show zG C V1 (kc - 2) (ks - 12) 432 [(5, .int (zI (k1))), (4, .int (zI (i))), (3, .ref o), (2, .ref (c 60)), (1, .ref (ad 1)), (0, .ref b)] [.int (zI (p3)), .int (zI (p2)), .int (zI (p1)), .int (zI (p0)), .ref (c 60)]
  refine zr_callVe (kc' := (kc - 2) - 1) (ks' := (ks - 12) - 5) X 435 4 (m_X8_part l Γ (q := p0) (a := p1) (b := p2) (q2 := p3) hM1 (by omega) (by omega) (by omega) (by omega)) gL_law_X8_part rfl (by decide +kernel) rfl (by decide) ⟨_, _, hM1.1⟩ rfl rfl (Nat.le_of_ble_eq_true rfl) dL_law_432 rfl (by omega) (by omega) (fun rv2 V2 hp => ?_)
  obtain ⟨y2, md2, τ2, κ2, hr2, hM2, hf2, hrel⟩ := hp
  rw [hr2]
  have hS2 := hS1.kept hf2 (fun t a1 a2 a3 => ⟨by omega, a3⟩)
  have hO2 := hO1.kept hf2 ⟨by decide, by decide⟩
  have ha := ag_part hA (by omega) (by omega) (by omega) (by omega) hR1 hrel
  show zG C V2 ((kc - 2) - 1) ((ks - 12) - 5) 435 [(5, .int (zI (k1))), (4, .int (zI (i))), (3, .ref o), (2, .ref (c 60)), (1, .ref (ad 1)), (0, .ref b)] [.int (zI (y2))]
  refine zr_istore X 437 [(6, .int (zI (y2))), (5, .int (zI (k1))), (4, .int (zI (i))), (3, .ref o), (2, .ref (c 60)), (1, .ref (ad 1)), (0, .ref b)] dL_law_435 rfl (by decide) rfl ?_
  refine zr_goto X 2004 dL_law_437 rfl ?_
  refine zr_sub [2, 3, 4, 5, 6] [(4, .int (zI (i))), (3, .ref o), (2, .ref (c 60)), (1, .ref (ad 1)), (0, .ref b)] rfl ?_
  refine zr_room kc' ks' (by omega) (by omega) ?_
  exact kk V2 σ1 md2 τ2 κ2 ⟨hS2, hM2, hO2.out, ha.1⟩ (by omega)
set_option maxRecDepth 100000 in
set_option maxHeartbeats 4000000 in
theorem lc_put {C : zC} {l : Launch} (hlt : l.stackTraces = false) {Γ : zGam} {Post : Option Value → zV → Prop} (X : zK C l Γ 7 RL cL_law wsL_law 20 (some .boolean) Post) {V : zV} {ad c md : Nat → Nat} {σ τ κ : Nat → Int} {E i : Int} {b L o kc ks kc' ks' : Nat} {xs : Nat → Int32} (hX : va_X b L xs C.1.2.2.2.2.1 C.1.2.2.2.2.1.heap) (hbl : b < C.1.2.2.2.2.1.heap.size) (hB : Γ.2.2.2 = C.1.2.2.2.2.1.heap.size) (hi : 0 ≤ i ∧ i ≤ (L : Int) - 7 ∧ L ≤ 448) (hS : zS Γ V ad σ) (hM : zMo Γ V c md τ κ E) (hO : zOut V o) (hA : zA6 σ τ) (hE : E ≤ 3000) (hK : 0 ≤ σ 32 ∧ σ 32 ≤ 1000) (hkc : kc' + 6200 ≤ kc) (hks : ks' + 12800 ≤ ks)
    (kk : ∀ (V' : zV) (σ' : Nat → Int) (md' : Nat → Nat) (τ' κ' : Nat → Int), zLw Γ V' ad c md' σ' τ' κ' (E + 40) o → (σ' 32 = σ 32 ∨ σ' 32 = σ 32 + 1) → zG C V' kc' ks' 2004 [(4, .int (zI i)), (3, .ref o), (2, .ref (c 60)), (1, .ref (ad 1)), (0, .ref b)] []) : zG C V kc ks 440 [(4, .int (zI i)), (3, .ref o), (2, .ref (c 60)), (1, .ref (ad 1)), (0, .ref b)] [] := by
  show zG C V kc ks 440 [(4, .int (zI (i))), (3, .ref o), (2, .ref (c 60)), (1, .ref (ad 1)), (0, .ref b)] []
  refine zr_aload_n X 441 3 dL_law_440 rfl rfl ?_
  refine zr_aload_n X 442 4 dL_law_441 rfl rfl ?_
  refine zr_iload X 444 0 dL_law_442 rfl rfl ?_
  refine zr_iconst X 445 dL_law_444 rfl ?_
  refine zr_iadd X 446 dL_law_445 rfl ?_
  refine zr_sld X 447 hX hbl hB (by omega) dL_law_446 rfl ?_
  obtain ⟨p0, p0e, p0r⟩ := zIex (xs (i + 1).toNat)
  rw [p0e]
  show zG C V kc ks 447 [(4, .int (zI (i))), (3, .ref o), (2, .ref (c 60)), (1, .ref (ad 1)), (0, .ref b)] [.int (zI (p0)), .ref (ad 1)]
  refine zr_aload_n X 448 4 dL_law_447 rfl rfl ?_
  refine zr_iload X 450 0 dL_law_448 rfl rfl ?_
  refine zr_iconst X 451 dL_law_450 rfl ?_
  refine zr_iadd X 452 dL_law_451 rfl ?_
  refine zr_sld X 453 hX hbl hB (by omega) dL_law_452 rfl ?_
  obtain ⟨p1, p1e, p1r⟩ := zIex (xs (i + 2).toNat)
  rw [p1e]
  show zG C V kc ks 453 [(4, .int (zI (i))), (3, .ref o), (2, .ref (c 60)), (1, .ref (ad 1)), (0, .ref b)] [.int (zI (p1)), .int (zI (p0)), .ref (ad 1)]
  refine zr_aload_n X 454 1 dL_law_453 rfl rfl ?_
  refine zr_callSW (kc' := kc - 2) (ks' := ks - 12) X 457 4 (m_W_put l hlt Γ (q := p0) (x := p1) hS (by omega) (by omega) hO) gL_law_L_put rfl (by decide +kernel) rfl (by decide) rfl (Nat.le_of_ble_eq_true rfl) dL_law_454 rfl (by omega) (by omega) (fun rv1 V1 hp => ?_)
  obtain ⟨k1, y1, σ1, hr1, hk1, hS1, hf1, hO1, h1, hR1⟩ := hp
  rw [hr1]
  have hM1 := hM.kept hf1 (fun t a1 a2 => a1)
  show zG C V1 (kc - 2) (ks - 12) 457 [(4, .int (zI (i))), (3, .ref o), (2, .ref (c 60)), (1, .ref (ad 1)), (0, .ref b)] [.int (zI (k1))]
  refine zr_istore X 459 [(5, .int (zI (k1))), (4, .int (zI (i))), (3, .ref o), (2, .ref (c 60)), (1, .ref (ad 1)), (0, .ref b)] dL_law_457 rfl (by decide) rfl ?_
  refine zr_aload_n X 460 3 dL_law_459 rfl rfl ?_
  refine zr_aload_n X 461 5 dL_law_460 rfl rfl ?_
  refine zr_iload X 463 1 dL_law_461 rfl rfl ?_
  refine zr_iconst X 464 dL_law_463 rfl ?_
  refine zr_iadd X 465 dL_law_464 rfl ?_
  refine zr_sld X 466 hX hbl hB (by omega) dL_law_465 rfl ?_
  rw [p0e]
  show zG C V1 (kc - 2) (ks - 12) 466 [(5, .int (zI (k1))), (4, .int (zI (i))), (3, .ref o), (2, .ref (c 60)), (1, .ref (ad 1)), (0, .ref b)] [.int (zI (p0)), .ref (c 60)]
  refine zr_aload_n X 467 5 dL_law_466 rfl rfl ?_
  refine zr_iload X 469 1 dL_law_467 rfl rfl ?_
  refine zr_iconst X 470 dL_law_469 rfl ?_
  refine zr_iadd X 471 dL_law_470 rfl ?_
  refine zr_sld X 472 hX hbl hB (by omega) dL_law_471 rfl ?_
  rw [p1e]
  show zG C V1 (kc - 2) (ks - 12) 472 [(5, .int (zI (k1))), (4, .int (zI (i))), (3, .ref o), (2, .ref (c 60)), (1, .ref (ad 1)), (0, .ref b)] [.int (zI (p1)), .int (zI (p0)), .ref (c 60)]
  refine zr_callVe (kc' := (kc - 2) - 0) (ks' := (ks - 12) - 0) X 475 2 (m_X8_put l Γ (q := p0) (x := p1) hM1 (by omega) (by omega)) gL_law_X8_put rfl (by decide +kernel) rfl (by decide) ⟨_, _, hM1.1⟩ rfl rfl (Nat.le_of_ble_eq_true rfl) dL_law_472 rfl (by omega) (by omega) (fun rv2 V2 hp => ?_)
  obtain ⟨y2, md2, τ2, κ2, hr2, hM2, hf2, hrel⟩ := hp
  rw [hr2]
  have hS2 := hS1.kept hf2 (fun t a1 a2 a3 => ⟨by omega, a3⟩)
  have hO2 := hO1.kept hf2 ⟨by decide, by decide⟩
  have ha := ag_put hA (by omega) (by omega) hR1 hrel
  show zG C V2 ((kc - 2) - 0) ((ks - 12) - 0) 475 [(5, .int (zI (k1))), (4, .int (zI (i))), (3, .ref o), (2, .ref (c 60)), (1, .ref (ad 1)), (0, .ref b)] [.int (zI (y2))]
  refine zr_istore X 477 [(6, .int (zI (y2))), (5, .int (zI (k1))), (4, .int (zI (i))), (3, .ref o), (2, .ref (c 60)), (1, .ref (ad 1)), (0, .ref b)] dL_law_475 rfl (by decide) rfl ?_
  refine zr_goto X 2004 dL_law_477 rfl ?_
  refine zr_sub [2, 3, 4, 5, 6] [(4, .int (zI (i))), (3, .ref o), (2, .ref (c 60)), (1, .ref (ad 1)), (0, .ref b)] rfl ?_
  refine zr_room kc' ks' (by omega) (by omega) ?_
  exact kk V2 σ1 md2 τ2 κ2 ⟨hS2, hM2, hO2.out, ha.1⟩ (by omega)
set_option maxRecDepth 100000 in
set_option maxHeartbeats 4000000 in
theorem lc_run {C : zC} {l : Launch} (hlt : l.stackTraces = false) {Γ : zGam} {Post : Option Value → zV → Prop} (X : zK C l Γ 7 RL cL_law wsL_law 20 (some .boolean) Post) {V : zV} {ad c md : Nat → Nat} {σ τ κ : Nat → Int} {E i : Int} {b L o kc ks kc' ks' : Nat} {xs : Nat → Int32} (hX : va_X b L xs C.1.2.2.2.2.1 C.1.2.2.2.2.1.heap) (hbl : b < C.1.2.2.2.2.1.heap.size) (hB : Γ.2.2.2 = C.1.2.2.2.2.1.heap.size) (hi : 0 ≤ i ∧ i ≤ (L : Int) - 7 ∧ L ≤ 448) (hS : zS Γ V ad σ) (hM : zMo Γ V c md τ κ E) (hO : zOut V o) (hA : zA6 σ τ) (hE : E ≤ 3000) (hK : 0 ≤ σ 32 ∧ σ 32 ≤ 1000) (hkc : kc' + 6200 ≤ kc) (hks : ks' + 12800 ≤ ks)
    (kk : ∀ (V' : zV) (σ' : Nat → Int) (md' : Nat → Nat) (τ' κ' : Nat → Int), zLw Γ V' ad c md' σ' τ' κ' (E + 40) o → (σ' 32 = σ 32 ∨ σ' 32 = σ 32 + 1) → zG C V' kc' ks' 2004 [(4, .int (zI i)), (3, .ref o), (2, .ref (c 60)), (1, .ref (ad 1)), (0, .ref b)] []) : zG C V kc ks 480 [(4, .int (zI i)), (3, .ref o), (2, .ref (c 60)), (1, .ref (ad 1)), (0, .ref b)] [] := by
  show zG C V kc ks 480 [(4, .int (zI (i))), (3, .ref o), (2, .ref (c 60)), (1, .ref (ad 1)), (0, .ref b)] []
  refine zr_aload_n X 481 3 dL_law_480 rfl rfl ?_
  refine zr_aload_n X 482 4 dL_law_481 rfl rfl ?_
  refine zr_iload X 484 0 dL_law_482 rfl rfl ?_
  refine zr_iconst X 485 dL_law_484 rfl ?_
  refine zr_iadd X 486 dL_law_485 rfl ?_
  refine zr_sld X 487 hX hbl hB (by omega) dL_law_486 rfl ?_
  obtain ⟨p0, p0e, p0r⟩ := zIex (xs (i + 1).toNat)
  rw [p0e]
  show zG C V kc ks 487 [(4, .int (zI (i))), (3, .ref o), (2, .ref (c 60)), (1, .ref (ad 1)), (0, .ref b)] [.int (zI (p0)), .ref (ad 1)]
  refine zr_aload_n X 488 4 dL_law_487 rfl rfl ?_
  refine zr_iload X 490 0 dL_law_488 rfl rfl ?_
  refine zr_iconst X 491 dL_law_490 rfl ?_
  refine zr_iadd X 492 dL_law_491 rfl ?_
  refine zr_sld X 493 hX hbl hB (by omega) dL_law_492 rfl ?_
  obtain ⟨p1, p1e, p1r⟩ := zIex (xs (i + 2).toNat)
  rw [p1e]
  show zG C V kc ks 493 [(4, .int (zI (i))), (3, .ref o), (2, .ref (c 60)), (1, .ref (ad 1)), (0, .ref b)] [.int (zI (p1)), .int (zI (p0)), .ref (ad 1)]
  refine zr_aload_n X 494 4 dL_law_493 rfl rfl ?_
  refine zr_iload X 496 0 dL_law_494 rfl rfl ?_
  refine zr_iconst X 497 dL_law_496 rfl ?_
  refine zr_iadd X 498 dL_law_497 rfl ?_
  refine zr_sld X 499 hX hbl hB (by omega) dL_law_498 rfl ?_
  obtain ⟨p2, p2e, p2r⟩ := zIex (xs (i + 3).toNat)
  rw [p2e]
  show zG C V kc ks 499 [(4, .int (zI (i))), (3, .ref o), (2, .ref (c 60)), (1, .ref (ad 1)), (0, .ref b)] [.int (zI (p2)), .int (zI (p1)), .int (zI (p0)), .ref (ad 1)]
  refine zr_aload_n X 500 4 dL_law_499 rfl rfl ?_
  refine zr_iload X 502 0 dL_law_500 rfl rfl ?_
  refine zr_iconst X 503 dL_law_502 rfl ?_
  refine zr_iadd X 504 dL_law_503 rfl ?_
  refine zr_sld X 505 hX hbl hB (by omega) dL_law_504 rfl ?_
  obtain ⟨p3, p3e, p3r⟩ := zIex (xs (i + 4).toNat)
  rw [p3e]
  show zG C V kc ks 505 [(4, .int (zI (i))), (3, .ref o), (2, .ref (c 60)), (1, .ref (ad 1)), (0, .ref b)] [.int (zI (p3)), .int (zI (p2)), .int (zI (p1)), .int (zI (p0)), .ref (ad 1)]
  refine zr_aload_n X 506 1 dL_law_505 rfl rfl ?_
  refine zr_callSW (kc' := kc - 4) (ks' := ks - 24) X 509 6 (m_W_run l hlt Γ (q := p0) (x := p1) (st := p2) (n := p3) hS (by omega) (by omega) (by omega) (by omega) hO) gL_law_L_run rfl (by decide +kernel) rfl (by decide) rfl (Nat.le_of_ble_eq_true rfl) dL_law_506 rfl (by omega) (by omega) (fun rv1 V1 hp => ?_)
  obtain ⟨k1, y1, σ1, hr1, hk1, hS1, hf1, hO1, h1, hR1⟩ := hp
  rw [hr1]
  have hM1 := hM.kept hf1 (fun t a1 a2 => a1)
  show zG C V1 (kc - 4) (ks - 24) 509 [(4, .int (zI (i))), (3, .ref o), (2, .ref (c 60)), (1, .ref (ad 1)), (0, .ref b)] [.int (zI (k1))]
  refine zr_istore X 511 [(5, .int (zI (k1))), (4, .int (zI (i))), (3, .ref o), (2, .ref (c 60)), (1, .ref (ad 1)), (0, .ref b)] dL_law_509 rfl (by decide) rfl ?_
  refine zr_aload_n X 512 3 dL_law_511 rfl rfl ?_
  refine zr_aload_n X 513 5 dL_law_512 rfl rfl ?_
  refine zr_iload X 515 1 dL_law_513 rfl rfl ?_
  refine zr_iconst X 516 dL_law_515 rfl ?_
  refine zr_iadd X 517 dL_law_516 rfl ?_
  refine zr_sld X 518 hX hbl hB (by omega) dL_law_517 rfl ?_
  rw [p0e]
  show zG C V1 (kc - 4) (ks - 24) 518 [(5, .int (zI (k1))), (4, .int (zI (i))), (3, .ref o), (2, .ref (c 60)), (1, .ref (ad 1)), (0, .ref b)] [.int (zI (p0)), .ref (c 60)]
  refine zr_aload_n X 519 5 dL_law_518 rfl rfl ?_
  refine zr_iload X 521 1 dL_law_519 rfl rfl ?_
  refine zr_iconst X 522 dL_law_521 rfl ?_
  refine zr_iadd X 523 dL_law_522 rfl ?_
  refine zr_sld X 524 hX hbl hB (by omega) dL_law_523 rfl ?_
  rw [p1e]
  show zG C V1 (kc - 4) (ks - 24) 524 [(5, .int (zI (k1))), (4, .int (zI (i))), (3, .ref o), (2, .ref (c 60)), (1, .ref (ad 1)), (0, .ref b)] [.int (zI (p1)), .int (zI (p0)), .ref (c 60)]
  refine zr_aload_n X 525 5 dL_law_524 rfl rfl ?_
  refine zr_iload X 527 1 dL_law_525 rfl rfl ?_
  refine zr_iconst X 528 dL_law_527 rfl ?_
  refine zr_iadd X 529 dL_law_528 rfl ?_
  refine zr_sld X 530 hX hbl hB (by omega) dL_law_529 rfl ?_
  rw [p2e]
  show zG C V1 (kc - 4) (ks - 24) 530 [(5, .int (zI (k1))), (4, .int (zI (i))), (3, .ref o), (2, .ref (c 60)), (1, .ref (ad 1)), (0, .ref b)] [.int (zI (p2)), .int (zI (p1)), .int (zI (p0)), .ref (c 60)]
  refine zr_aload_n X 531 5 dL_law_530 rfl rfl ?_
  refine zr_iload X 533 1 dL_law_531 rfl rfl ?_
  refine zr_iconst X 534 dL_law_533 rfl ?_
  refine zr_iadd X 535 dL_law_534 rfl ?_
  refine zr_sld X 536 hX hbl hB (by omega) dL_law_535 rfl ?_
  rw [p3e]
  show zG C V1 (kc - 4) (ks - 24) 536 [(5, .int (zI (k1))), (4, .int (zI (i))), (3, .ref o), (2, .ref (c 60)), (1, .ref (ad 1)), (0, .ref b)] [.int (zI (p3)), .int (zI (p2)), .int (zI (p1)), .int (zI (p0)), .ref (c 60)]
  refine zr_callVe (kc' := (kc - 4) - 0) (ks' := (ks - 24) - 0) X 539 4 (m_X8_run l Γ (q := p0) (x := p1) (st := p2) (n := p3) hM1 (by omega) (by omega) (by omega) (by omega)) gL_law_X8_run rfl (by decide +kernel) rfl (by decide) ⟨_, _, hM1.1⟩ rfl rfl (Nat.le_of_ble_eq_true rfl) dL_law_536 rfl (by omega) (by omega) (fun rv2 V2 hp => ?_)
  obtain ⟨y2, md2, τ2, κ2, hr2, hM2, hf2, hrel⟩ := hp
  rw [hr2]
  have hS2 := hS1.kept hf2 (fun t a1 a2 a3 => ⟨by omega, a3⟩)
  have hO2 := hO1.kept hf2 ⟨by decide, by decide⟩
  have ha := ag_run hA (by omega) (by omega) (by omega) (by omega) hR1 hrel
  show zG C V2 ((kc - 4) - 0) ((ks - 24) - 0) 539 [(5, .int (zI (k1))), (4, .int (zI (i))), (3, .ref o), (2, .ref (c 60)), (1, .ref (ad 1)), (0, .ref b)] [.int (zI (y2))]
  refine zr_istore X 541 [(6, .int (zI (y2))), (5, .int (zI (k1))), (4, .int (zI (i))), (3, .ref o), (2, .ref (c 60)), (1, .ref (ad 1)), (0, .ref b)] dL_law_539 rfl (by decide) rfl ?_
  refine zr_goto X 2004 dL_law_541 rfl ?_
  refine zr_sub [2, 3, 4, 5, 6] [(4, .int (zI (i))), (3, .ref o), (2, .ref (c 60)), (1, .ref (ad 1)), (0, .ref b)] rfl ?_
  refine zr_room kc' ks' (by omega) (by omega) ?_
  exact kk V2 σ1 md2 τ2 κ2 ⟨hS2, hM2, hO2.out, ha.1⟩ (by omega)
set_option maxRecDepth 100000 in
set_option maxHeartbeats 4000000 in
theorem lc_write {C : zC} {l : Launch} (hlt : l.stackTraces = false) {Γ : zGam} {Post : Option Value → zV → Prop} (X : zK C l Γ 7 RL cL_law wsL_law 20 (some .boolean) Post) {V : zV} {ad c md : Nat → Nat} {σ τ κ : Nat → Int} {E i : Int} {b L o kc ks kc' ks' : Nat} {xs : Nat → Int32} (hX : va_X b L xs C.1.2.2.2.2.1 C.1.2.2.2.2.1.heap) (hbl : b < C.1.2.2.2.2.1.heap.size) (hB : Γ.2.2.2 = C.1.2.2.2.2.1.heap.size) (hi : 0 ≤ i ∧ i ≤ (L : Int) - 7 ∧ L ≤ 448) (hS : zS Γ V ad σ) (hM : zMo Γ V c md τ κ E) (hO : zOut V o) (hA : zA6 σ τ) (hE : E ≤ 3000) (hK : 0 ≤ σ 32 ∧ σ 32 ≤ 1000) (hkc : kc' + 6200 ≤ kc) (hks : ks' + 12800 ≤ ks)
    (kk : ∀ (V' : zV) (σ' : Nat → Int) (md' : Nat → Nat) (τ' κ' : Nat → Int), zLw Γ V' ad c md' σ' τ' κ' (E + 40) o → (σ' 32 = σ 32 ∨ σ' 32 = σ 32 + 1) → zG C V' kc' ks' 2004 [(4, .int (zI i)), (3, .ref o), (2, .ref (c 60)), (1, .ref (ad 1)), (0, .ref b)] []) : zG C V kc ks 544 [(4, .int (zI i)), (3, .ref o), (2, .ref (c 60)), (1, .ref (ad 1)), (0, .ref b)] [] := by
  show zG C V kc ks 544 [(4, .int (zI (i))), (3, .ref o), (2, .ref (c 60)), (1, .ref (ad 1)), (0, .ref b)] []
  refine zr_aload_n X 545 3 dL_law_544 rfl rfl ?_
  refine zr_aload_n X 546 4 dL_law_545 rfl rfl ?_
  refine zr_iload X 548 0 dL_law_546 rfl rfl ?_
  refine zr_iconst X 549 dL_law_548 rfl ?_
  refine zr_iadd X 550 dL_law_549 rfl ?_
  refine zr_sld X 551 hX hbl hB (by omega) dL_law_550 rfl ?_
  obtain ⟨p0, p0e, p0r⟩ := zIex (xs (i + 1).toNat)
  rw [p0e]
  show zG C V kc ks 551 [(4, .int (zI (i))), (3, .ref o), (2, .ref (c 60)), (1, .ref (ad 1)), (0, .ref b)] [.int (zI (p0)), .ref (ad 1)]
  refine zr_aload_n X 552 4 dL_law_551 rfl rfl ?_
  refine zr_iload X 554 0 dL_law_552 rfl rfl ?_
  refine zr_iconst X 555 dL_law_554 rfl ?_
  refine zr_iadd X 556 dL_law_555 rfl ?_
  refine zr_sld X 557 hX hbl hB (by omega) dL_law_556 rfl ?_
  obtain ⟨p1, p1e, p1r⟩ := zIex (xs (i + 2).toNat)
  rw [p1e]
  show zG C V kc ks 557 [(4, .int (zI (i))), (3, .ref o), (2, .ref (c 60)), (1, .ref (ad 1)), (0, .ref b)] [.int (zI (p1)), .int (zI (p0)), .ref (ad 1)]
  refine zr_aload_n X 558 4 dL_law_557 rfl rfl ?_
  refine zr_iload X 560 0 dL_law_558 rfl rfl ?_
  refine zr_iconst X 561 dL_law_560 rfl ?_
  refine zr_iadd X 562 dL_law_561 rfl ?_
  refine zr_sld X 563 hX hbl hB (by omega) dL_law_562 rfl ?_
  obtain ⟨p2, p2e, p2r⟩ := zIex (xs (i + 3).toNat)
  rw [p2e]
  show zG C V kc ks 563 [(4, .int (zI (i))), (3, .ref o), (2, .ref (c 60)), (1, .ref (ad 1)), (0, .ref b)] [.int (zI (p2)), .int (zI (p1)), .int (zI (p0)), .ref (ad 1)]
  refine zr_aload_n X 564 1 dL_law_563 rfl rfl ?_
  refine zr_callSW (kc' := kc - 3) (ks' := ks - 18) X 567 5 (m_W_write l hlt Γ (q := p0) (x := p1) (n := p2) hS (by omega) (by omega) (by omega) hO) gL_law_L_write rfl (by decide +kernel) rfl (by decide) rfl (Nat.le_of_ble_eq_true rfl) dL_law_564 rfl (by omega) (by omega) (fun rv1 V1 hp => ?_)
  obtain ⟨k1, y1, σ1, hr1, hk1, hS1, hf1, hO1, h1, hR1⟩ := hp
  rw [hr1]
  have hM1 := hM.kept hf1 (fun t a1 a2 => a1)
  show zG C V1 (kc - 3) (ks - 18) 567 [(4, .int (zI (i))), (3, .ref o), (2, .ref (c 60)), (1, .ref (ad 1)), (0, .ref b)] [.int (zI (k1))]
  refine zr_istore X 569 [(5, .int (zI (k1))), (4, .int (zI (i))), (3, .ref o), (2, .ref (c 60)), (1, .ref (ad 1)), (0, .ref b)] dL_law_567 rfl (by decide) rfl ?_
  refine zr_aload_n X 570 3 dL_law_569 rfl rfl ?_
  refine zr_aload_n X 571 5 dL_law_570 rfl rfl ?_
  refine zr_iload X 573 1 dL_law_571 rfl rfl ?_
  refine zr_iconst X 574 dL_law_573 rfl ?_
  refine zr_iadd X 575 dL_law_574 rfl ?_
  refine zr_sld X 576 hX hbl hB (by omega) dL_law_575 rfl ?_
  rw [p0e]
  show zG C V1 (kc - 3) (ks - 18) 576 [(5, .int (zI (k1))), (4, .int (zI (i))), (3, .ref o), (2, .ref (c 60)), (1, .ref (ad 1)), (0, .ref b)] [.int (zI (p0)), .ref (c 60)]
  refine zr_aload_n X 577 5 dL_law_576 rfl rfl ?_
  refine zr_iload X 579 1 dL_law_577 rfl rfl ?_
  refine zr_iconst X 580 dL_law_579 rfl ?_
  refine zr_iadd X 581 dL_law_580 rfl ?_
  refine zr_sld X 582 hX hbl hB (by omega) dL_law_581 rfl ?_
  rw [p1e]
  show zG C V1 (kc - 3) (ks - 18) 582 [(5, .int (zI (k1))), (4, .int (zI (i))), (3, .ref o), (2, .ref (c 60)), (1, .ref (ad 1)), (0, .ref b)] [.int (zI (p1)), .int (zI (p0)), .ref (c 60)]
  refine zr_aload_n X 583 5 dL_law_582 rfl rfl ?_
  refine zr_iload X 585 1 dL_law_583 rfl rfl ?_
  refine zr_iconst X 586 dL_law_585 rfl ?_
  refine zr_iadd X 587 dL_law_586 rfl ?_
  refine zr_sld X 588 hX hbl hB (by omega) dL_law_587 rfl ?_
  rw [p2e]
  show zG C V1 (kc - 3) (ks - 18) 588 [(5, .int (zI (k1))), (4, .int (zI (i))), (3, .ref o), (2, .ref (c 60)), (1, .ref (ad 1)), (0, .ref b)] [.int (zI (p2)), .int (zI (p1)), .int (zI (p0)), .ref (c 60)]
  refine zr_callVe (kc' := (kc - 3) - 0) (ks' := (ks - 18) - 0) X 591 3 (m_X8_write_ l Γ (q := p0) (x := p1) (n := p2) hM1 (by omega) (by omega) (by omega)) gL_law_X8_write_ rfl (by decide +kernel) rfl (by decide) ⟨_, _, hM1.1⟩ rfl rfl (Nat.le_of_ble_eq_true rfl) dL_law_588 rfl (by omega) (by omega) (fun rv2 V2 hp => ?_)
  obtain ⟨y2, md2, τ2, κ2, hr2, hM2, hf2, hrel⟩ := hp
  rw [hr2]
  have hS2 := hS1.kept hf2 (fun t a1 a2 a3 => ⟨by omega, a3⟩)
  have hO2 := hO1.kept hf2 ⟨by decide, by decide⟩
  have ha := ag_write hA (by omega) (by omega) (by omega) hR1 hrel
  show zG C V2 ((kc - 3) - 0) ((ks - 18) - 0) 591 [(5, .int (zI (k1))), (4, .int (zI (i))), (3, .ref o), (2, .ref (c 60)), (1, .ref (ad 1)), (0, .ref b)] [.int (zI (y2))]
  refine zr_istore X 593 [(6, .int (zI (y2))), (5, .int (zI (k1))), (4, .int (zI (i))), (3, .ref o), (2, .ref (c 60)), (1, .ref (ad 1)), (0, .ref b)] dL_law_591 rfl (by decide) rfl ?_
  refine zr_goto X 2004 dL_law_593 rfl ?_
  refine zr_sub [2, 3, 4, 5, 6] [(4, .int (zI (i))), (3, .ref o), (2, .ref (c 60)), (1, .ref (ad 1)), (0, .ref b)] rfl ?_
  refine zr_room kc' ks' (by omega) (by omega) ?_
  exact kk V2 σ1 md2 τ2 κ2 ⟨hS2, hM2, hO2.out, ha.1⟩ (by omega)
set_option maxRecDepth 100000 in
set_option maxHeartbeats 4000000 in
theorem lc_get {C : zC} {l : Launch} (hlt : l.stackTraces = false) {Γ : zGam} {Post : Option Value → zV → Prop} (X : zK C l Γ 7 RL cL_law wsL_law 20 (some .boolean) Post) {V : zV} {ad c md : Nat → Nat} {σ τ κ : Nat → Int} {E i : Int} {b L o kc ks kc' ks' : Nat} {xs : Nat → Int32} (hX : va_X b L xs C.1.2.2.2.2.1 C.1.2.2.2.2.1.heap) (hbl : b < C.1.2.2.2.2.1.heap.size) (hB : Γ.2.2.2 = C.1.2.2.2.2.1.heap.size) (hi : 0 ≤ i ∧ i ≤ (L : Int) - 7 ∧ L ≤ 448) (hS : zS Γ V ad σ) (hM : zMo Γ V c md τ κ E) (hO : zOut V o) (hA : zA6 σ τ) (hE : E ≤ 3000) (hK : 0 ≤ σ 32 ∧ σ 32 ≤ 1000) (hkc : kc' + 6200 ≤ kc) (hks : ks' + 12800 ≤ ks)
    (kk : ∀ (V' : zV) (σ' : Nat → Int) (md' : Nat → Nat) (τ' κ' : Nat → Int), zLw Γ V' ad c md' σ' τ' κ' (E + 40) o → (σ' 32 = σ 32 ∨ σ' 32 = σ 32 + 1) → zG C V' kc' ks' 2004 [(4, .int (zI i)), (3, .ref o), (2, .ref (c 60)), (1, .ref (ad 1)), (0, .ref b)] []) : zG C V kc ks 596 [(4, .int (zI i)), (3, .ref o), (2, .ref (c 60)), (1, .ref (ad 1)), (0, .ref b)] [] := by
  show zG C V kc ks 596 [(4, .int (zI (i))), (3, .ref o), (2, .ref (c 60)), (1, .ref (ad 1)), (0, .ref b)] []
  refine zr_aload_n X 597 3 dL_law_596 rfl rfl ?_
  refine zr_aload_n X 598 4 dL_law_597 rfl rfl ?_
  refine zr_iload X 600 0 dL_law_598 rfl rfl ?_
  refine zr_iconst X 601 dL_law_600 rfl ?_
  refine zr_iadd X 602 dL_law_601 rfl ?_
  refine zr_sld X 603 hX hbl hB (by omega) dL_law_602 rfl ?_
  obtain ⟨p0, p0e, p0r⟩ := zIex (xs (i + 1).toNat)
  rw [p0e]
  show zG C V kc ks 603 [(4, .int (zI (i))), (3, .ref o), (2, .ref (c 60)), (1, .ref (ad 1)), (0, .ref b)] [.int (zI (p0)), .ref (ad 1)]
  refine zr_aload_n X 604 1 dL_law_603 rfl rfl ?_
  refine zr_callSW (kc' := kc - 2) (ks' := ks - 12) X 607 3 (m_W_get l hlt Γ (q := p0) hS (by omega) hO) gL_law_L_get rfl (by decide +kernel) rfl (by decide) rfl (Nat.le_of_ble_eq_true rfl) dL_law_604 rfl (by omega) (by omega) (fun rv1 V1 hp => ?_)
  obtain ⟨k1, y1, σ1, hr1, hk1, hS1, hf1, hO1, h1, hR1⟩ := hp
  rw [hr1]
  have hM1 := hM.kept hf1 (fun t a1 a2 => a1)
  show zG C V1 (kc - 2) (ks - 12) 607 [(4, .int (zI (i))), (3, .ref o), (2, .ref (c 60)), (1, .ref (ad 1)), (0, .ref b)] [.int (zI (k1))]
  refine zr_istore X 609 [(5, .int (zI (k1))), (4, .int (zI (i))), (3, .ref o), (2, .ref (c 60)), (1, .ref (ad 1)), (0, .ref b)] dL_law_607 rfl (by decide) rfl ?_
  refine zr_aload_n X 610 3 dL_law_609 rfl rfl ?_
  refine zr_aload_n X 611 5 dL_law_610 rfl rfl ?_
  refine zr_iload X 613 1 dL_law_611 rfl rfl ?_
  refine zr_iconst X 614 dL_law_613 rfl ?_
  refine zr_iadd X 615 dL_law_614 rfl ?_
  refine zr_sld X 616 hX hbl hB (by omega) dL_law_615 rfl ?_
  rw [p0e]
  show zG C V1 (kc - 2) (ks - 12) 616 [(5, .int (zI (k1))), (4, .int (zI (i))), (3, .ref o), (2, .ref (c 60)), (1, .ref (ad 1)), (0, .ref b)] [.int (zI (p0)), .ref (c 60)]
  refine zr_callVe (kc' := (kc - 2) - 0) (ks' := (ks - 12) - 0) X 619 1 (m_X8_get l Γ (q := p0) hM1 (by omega)) gL_law_X8_get rfl (by decide +kernel) rfl (by decide) ⟨_, _, hM1.1⟩ rfl rfl (Nat.le_of_ble_eq_true rfl) dL_law_616 rfl (by omega) (by omega) (fun rv2 V2 hp => ?_)
  obtain ⟨y2, md2, τ2, κ2, hr2, hM2, hf2, hrel⟩ := hp
  rw [hr2]
  have hS2 := hS1.kept hf2 (fun t a1 a2 a3 => ⟨by omega, a3⟩)
  have hO2 := hO1.kept hf2 ⟨by decide, by decide⟩
  have ha := ag_get hA (by omega) hR1 hrel
  show zG C V2 ((kc - 2) - 0) ((ks - 12) - 0) 619 [(5, .int (zI (k1))), (4, .int (zI (i))), (3, .ref o), (2, .ref (c 60)), (1, .ref (ad 1)), (0, .ref b)] [.int (zI (y2))]
  refine zr_istore X 621 [(6, .int (zI (y2))), (5, .int (zI (k1))), (4, .int (zI (i))), (3, .ref o), (2, .ref (c 60)), (1, .ref (ad 1)), (0, .ref b)] dL_law_619 rfl (by decide) rfl ?_
  refine zr_goto X 2004 dL_law_621 rfl ?_
  refine zr_sub [2, 3, 4, 5, 6] [(4, .int (zI (i))), (3, .ref o), (2, .ref (c 60)), (1, .ref (ad 1)), (0, .ref b)] rfl ?_
  refine zr_room kc' ks' (by omega) (by omega) ?_
  exact kk V2 σ1 md2 τ2 κ2 ⟨hS2, hM2, hO2.out, ha.1⟩ (by omega)
set_option maxRecDepth 100000 in
set_option maxHeartbeats 4000000 in
theorem lc_read {C : zC} {l : Launch} (hlt : l.stackTraces = false) {Γ : zGam} {Post : Option Value → zV → Prop} (X : zK C l Γ 7 RL cL_law wsL_law 20 (some .boolean) Post) {V : zV} {ad c md : Nat → Nat} {σ τ κ : Nat → Int} {E i : Int} {b L o kc ks kc' ks' : Nat} {xs : Nat → Int32} (hX : va_X b L xs C.1.2.2.2.2.1 C.1.2.2.2.2.1.heap) (hbl : b < C.1.2.2.2.2.1.heap.size) (hB : Γ.2.2.2 = C.1.2.2.2.2.1.heap.size) (hi : 0 ≤ i ∧ i ≤ (L : Int) - 7 ∧ L ≤ 448) (hS : zS Γ V ad σ) (hM : zMo Γ V c md τ κ E) (hO : zOut V o) (hA : zA6 σ τ) (hE : E ≤ 3000) (hK : 0 ≤ σ 32 ∧ σ 32 ≤ 1000) (hkc : kc' + 6200 ≤ kc) (hks : ks' + 12800 ≤ ks)
    (kk : ∀ (V' : zV) (σ' : Nat → Int) (md' : Nat → Nat) (τ' κ' : Nat → Int), zLw Γ V' ad c md' σ' τ' κ' (E + 40) o → (σ' 32 = σ 32 ∨ σ' 32 = σ 32 + 1) → zG C V' kc' ks' 2004 [(4, .int (zI i)), (3, .ref o), (2, .ref (c 60)), (1, .ref (ad 1)), (0, .ref b)] []) : zG C V kc ks 624 [(4, .int (zI i)), (3, .ref o), (2, .ref (c 60)), (1, .ref (ad 1)), (0, .ref b)] [] := by
  show zG C V kc ks 624 [(4, .int (zI (i))), (3, .ref o), (2, .ref (c 60)), (1, .ref (ad 1)), (0, .ref b)] []
  refine zr_aload_n X 625 3 dL_law_624 rfl rfl ?_
  refine zr_aload_n X 626 4 dL_law_625 rfl rfl ?_
  refine zr_iload X 628 0 dL_law_626 rfl rfl ?_
  refine zr_iconst X 629 dL_law_628 rfl ?_
  refine zr_iadd X 630 dL_law_629 rfl ?_
  refine zr_sld X 631 hX hbl hB (by omega) dL_law_630 rfl ?_
  obtain ⟨p0, p0e, p0r⟩ := zIex (xs (i + 1).toNat)
  rw [p0e]
  show zG C V kc ks 631 [(4, .int (zI (i))), (3, .ref o), (2, .ref (c 60)), (1, .ref (ad 1)), (0, .ref b)] [.int (zI (p0)), .ref (ad 1)]
  refine zr_aload_n X 632 4 dL_law_631 rfl rfl ?_
  refine zr_iload X 634 0 dL_law_632 rfl rfl ?_
  refine zr_iconst X 635 dL_law_634 rfl ?_
  refine zr_iadd X 636 dL_law_635 rfl ?_
  refine zr_sld X 637 hX hbl hB (by omega) dL_law_636 rfl ?_
  obtain ⟨p1, p1e, p1r⟩ := zIex (xs (i + 2).toNat)
  rw [p1e]
  show zG C V kc ks 637 [(4, .int (zI (i))), (3, .ref o), (2, .ref (c 60)), (1, .ref (ad 1)), (0, .ref b)] [.int (zI (p1)), .int (zI (p0)), .ref (ad 1)]
  refine zr_aload_n X 638 1 dL_law_637 rfl rfl ?_
  refine zr_callSW (kc' := kc - 3010) (ks' := ks - 6300) X 641 4 (m_W_read l hlt Γ (q := p0) (n := p1) hS (by omega) (by omega) hO) gL_law_L_read rfl (by decide +kernel) rfl (by decide) rfl (Nat.le_of_ble_eq_true rfl) dL_law_638 rfl (by omega) (by omega) (fun rv1 V1 hp => ?_)
  obtain ⟨k1, y1, σ1, hr1, hk1, hS1, hf1, hO1, h1, hR1⟩ := hp
  rw [hr1]
  have hM1 := hM.kept hf1 (fun t a1 a2 => a1)
  show zG C V1 (kc - 3010) (ks - 6300) 641 [(4, .int (zI (i))), (3, .ref o), (2, .ref (c 60)), (1, .ref (ad 1)), (0, .ref b)] [.int (zI (k1))]
  refine zr_istore X 643 [(5, .int (zI (k1))), (4, .int (zI (i))), (3, .ref o), (2, .ref (c 60)), (1, .ref (ad 1)), (0, .ref b)] dL_law_641 rfl (by decide) rfl ?_
  refine zr_aload_n X 644 3 dL_law_643 rfl rfl ?_
  refine zr_aload_n X 645 5 dL_law_644 rfl rfl ?_
  refine zr_iload X 647 1 dL_law_645 rfl rfl ?_
  refine zr_iconst X 648 dL_law_647 rfl ?_
  refine zr_iadd X 649 dL_law_648 rfl ?_
  refine zr_sld X 650 hX hbl hB (by omega) dL_law_649 rfl ?_
  rw [p0e]
  show zG C V1 (kc - 3010) (ks - 6300) 650 [(5, .int (zI (k1))), (4, .int (zI (i))), (3, .ref o), (2, .ref (c 60)), (1, .ref (ad 1)), (0, .ref b)] [.int (zI (p0)), .ref (c 60)]
  refine zr_aload_n X 651 5 dL_law_650 rfl rfl ?_
  refine zr_iload X 653 1 dL_law_651 rfl rfl ?_
  refine zr_iconst X 654 dL_law_653 rfl ?_
  refine zr_iadd X 655 dL_law_654 rfl ?_
  refine zr_sld X 656 hX hbl hB (by omega) dL_law_655 rfl ?_
  rw [p1e]
  show zG C V1 (kc - 3010) (ks - 6300) 656 [(5, .int (zI (k1))), (4, .int (zI (i))), (3, .ref o), (2, .ref (c 60)), (1, .ref (ad 1)), (0, .ref b)] [.int (zI (p1)), .int (zI (p0)), .ref (c 60)]
  refine zr_callVe (kc' := (kc - 3010) - 3011) (ks' := (ks - 6300) - 6340) X 659 2 (m_X8_read_ l Γ (q := p0) (n := p1) hM1 (by omega) (by omega)) gL_law_X8_read_ rfl (by decide +kernel) rfl (by decide) ⟨_, _, hM1.1⟩ rfl rfl (Nat.le_of_ble_eq_true rfl) dL_law_656 rfl (by omega) (by omega) (fun rv2 V2 hp => ?_)
  obtain ⟨y2, md2, τ2, κ2, hr2, hM2, hf2, hrel⟩ := hp
  rw [hr2]
  have hS2 := hS1.kept hf2 (fun t a1 a2 a3 => ⟨by omega, a3⟩)
  have hO2 := hO1.kept hf2 ⟨by decide, by decide⟩
  have ha := ag_read (w := 0) hA (by omega) (by omega) hR1 hrel
  show zG C V2 ((kc - 3010) - 3011) ((ks - 6300) - 6340) 659 [(5, .int (zI (k1))), (4, .int (zI (i))), (3, .ref o), (2, .ref (c 60)), (1, .ref (ad 1)), (0, .ref b)] [.ref y2]
  refine zr_astore X 661 [(6, .ref y2), (5, .int (zI (k1))), (4, .int (zI (i))), (3, .ref o), (2, .ref (c 60)), (1, .ref (ad 1)), (0, .ref b)] dL_law_659 rfl (by decide) rfl ?_
  refine zr_goto X 2004 dL_law_661 rfl ?_
  refine zr_sub [2, 3, 4, 5, 6] [(4, .int (zI (i))), (3, .ref o), (2, .ref (c 60)), (1, .ref (ad 1)), (0, .ref b)] rfl ?_
  refine zr_room kc' ks' (by omega) (by omega) ?_
  exact kk V2 σ1 md2 τ2 κ2 ⟨hS2, hM2, hO2.out, ha.1⟩ (by omega)
set_option maxRecDepth 100000 in
set_option maxHeartbeats 4000000 in
theorem lc_pour {C : zC} {l : Launch} (hlt : l.stackTraces = false) {Γ : zGam} {Post : Option Value → zV → Prop} (X : zK C l Γ 7 RL cL_law wsL_law 20 (some .boolean) Post) {V : zV} {ad c md : Nat → Nat} {σ τ κ : Nat → Int} {E i : Int} {b L o kc ks kc' ks' : Nat} {xs : Nat → Int32} (hX : va_X b L xs C.1.2.2.2.2.1 C.1.2.2.2.2.1.heap) (hbl : b < C.1.2.2.2.2.1.heap.size) (hB : Γ.2.2.2 = C.1.2.2.2.2.1.heap.size) (hi : 0 ≤ i ∧ i ≤ (L : Int) - 7 ∧ L ≤ 448) (hS : zS Γ V ad σ) (hM : zMo Γ V c md τ κ E) (hO : zOut V o) (hA : zA6 σ τ) (hE : E ≤ 3000) (hK : 0 ≤ σ 32 ∧ σ 32 ≤ 1000) (hkc : kc' + 6200 ≤ kc) (hks : ks' + 12800 ≤ ks)
    (kk : ∀ (V' : zV) (σ' : Nat → Int) (md' : Nat → Nat) (τ' κ' : Nat → Int), zLw Γ V' ad c md' σ' τ' κ' (E + 40) o → (σ' 32 = σ 32 ∨ σ' 32 = σ 32 + 1) → zG C V' kc' ks' 2004 [(4, .int (zI i)), (3, .ref o), (2, .ref (c 60)), (1, .ref (ad 1)), (0, .ref b)] []) : zG C V kc ks 664 [(4, .int (zI i)), (3, .ref o), (2, .ref (c 60)), (1, .ref (ad 1)), (0, .ref b)] [] := by
  show zG C V kc ks 664 [(4, .int (zI (i))), (3, .ref o), (2, .ref (c 60)), (1, .ref (ad 1)), (0, .ref b)] []
  refine zr_aload_n X 665 3 dL_law_664 rfl rfl ?_
  refine zr_aload_n X 666 4 dL_law_665 rfl rfl ?_
  refine zr_iload X 668 0 dL_law_666 rfl rfl ?_
  refine zr_iconst X 669 dL_law_668 rfl ?_
  refine zr_iadd X 670 dL_law_669 rfl ?_
  refine zr_sld X 671 hX hbl hB (by omega) dL_law_670 rfl ?_
  obtain ⟨p0, p0e, p0r⟩ := zIex (xs (i + 1).toNat)
  rw [p0e]
  show zG C V kc ks 671 [(4, .int (zI (i))), (3, .ref o), (2, .ref (c 60)), (1, .ref (ad 1)), (0, .ref b)] [.int (zI (p0)), .ref (ad 1)]
  refine zr_aload_n X 672 4 dL_law_671 rfl rfl ?_
  refine zr_iload X 674 0 dL_law_672 rfl rfl ?_
  refine zr_iconst X 675 dL_law_674 rfl ?_
  refine zr_iadd X 676 dL_law_675 rfl ?_
  refine zr_sld X 677 hX hbl hB (by omega) dL_law_676 rfl ?_
  obtain ⟨p1, p1e, p1r⟩ := zIex (xs (i + 2).toNat)
  rw [p1e]
  show zG C V kc ks 677 [(4, .int (zI (i))), (3, .ref o), (2, .ref (c 60)), (1, .ref (ad 1)), (0, .ref b)] [.int (zI (p1)), .int (zI (p0)), .ref (ad 1)]
  refine zr_aload_n X 678 4 dL_law_677 rfl rfl ?_
  refine zr_iload X 680 0 dL_law_678 rfl rfl ?_
  refine zr_iconst X 681 dL_law_680 rfl ?_
  refine zr_iadd X 682 dL_law_681 rfl ?_
  refine zr_sld X 683 hX hbl hB (by omega) dL_law_682 rfl ?_
  obtain ⟨p2, p2e, p2r⟩ := zIex (xs (i + 3).toNat)
  rw [p2e]
  show zG C V kc ks 683 [(4, .int (zI (i))), (3, .ref o), (2, .ref (c 60)), (1, .ref (ad 1)), (0, .ref b)] [.int (zI (p2)), .int (zI (p1)), .int (zI (p0)), .ref (ad 1)]
  refine zr_aload_n X 684 1 dL_law_683 rfl rfl ?_
  refine zr_callSW (kc' := kc - 4) (ks' := ks - 24) X 687 5 (m_W_X6_pour l hlt Γ (q := p0) (q2 := p1) (n := p2) hS (by omega) (by omega) (by omega) hO) gL_law_L_pour rfl (by decide +kernel) rfl (by decide) rfl (Nat.le_of_ble_eq_true rfl) dL_law_684 rfl (by omega) (by omega) (fun rv1 V1 hp => ?_)
  obtain ⟨k1, y1, σ1, hr1, hk1, hS1, hf1, hO1, h1, hR1⟩ := hp
  rw [hr1]
  have hM1 := hM.kept hf1 (fun t a1 a2 => a1)
  show zG C V1 (kc - 4) (ks - 24) 687 [(4, .int (zI (i))), (3, .ref o), (2, .ref (c 60)), (1, .ref (ad 1)), (0, .ref b)] [.int (zI (k1))]
  refine zr_istore X 689 [(5, .int (zI (k1))), (4, .int (zI (i))), (3, .ref o), (2, .ref (c 60)), (1, .ref (ad 1)), (0, .ref b)] dL_law_687 rfl (by decide) rfl ?_
  refine zr_aload_n X 690 3 dL_law_689 rfl rfl ?_
  refine zr_aload_n X 691 5 dL_law_690 rfl rfl ?_
  refine zr_iload X 693 1 dL_law_691 rfl rfl ?_
  refine zr_iconst X 694 dL_law_693 rfl ?_
  refine zr_iadd X 695 dL_law_694 rfl ?_
  refine zr_sld X 696 hX hbl hB (by omega) dL_law_695 rfl ?_
  rw [p0e]
  show zG C V1 (kc - 4) (ks - 24) 696 [(5, .int (zI (k1))), (4, .int (zI (i))), (3, .ref o), (2, .ref (c 60)), (1, .ref (ad 1)), (0, .ref b)] [.int (zI (p0)), .ref (c 60)]
  refine zr_aload_n X 697 5 dL_law_696 rfl rfl ?_
  refine zr_iload X 699 1 dL_law_697 rfl rfl ?_
  refine zr_iconst X 700 dL_law_699 rfl ?_
  refine zr_iadd X 701 dL_law_700 rfl ?_
  refine zr_sld X 702 hX hbl hB (by omega) dL_law_701 rfl ?_
  rw [p1e]
  show zG C V1 (kc - 4) (ks - 24) 702 [(5, .int (zI (k1))), (4, .int (zI (i))), (3, .ref o), (2, .ref (c 60)), (1, .ref (ad 1)), (0, .ref b)] [.int (zI (p1)), .int (zI (p0)), .ref (c 60)]
  refine zr_aload_n X 703 5 dL_law_702 rfl rfl ?_
  refine zr_iload X 705 1 dL_law_703 rfl rfl ?_
  refine zr_iconst X 706 dL_law_705 rfl ?_
  refine zr_iadd X 707 dL_law_706 rfl ?_
  refine zr_sld X 708 hX hbl hB (by omega) dL_law_707 rfl ?_
  rw [p2e]
  show zG C V1 (kc - 4) (ks - 24) 708 [(5, .int (zI (k1))), (4, .int (zI (i))), (3, .ref o), (2, .ref (c 60)), (1, .ref (ad 1)), (0, .ref b)] [.int (zI (p2)), .int (zI (p1)), .int (zI (p0)), .ref (c 60)]
  refine zr_callVe (kc' := (kc - 4) - 0) (ks' := (ks - 24) - 0) X 711 3 (m_X8_pour l Γ (q := p0) (q2 := p1) (n := p2) hM1 (by omega) (by omega) (by omega)) gL_law_X8_pour rfl (by decide +kernel) rfl (by decide) ⟨_, _, hM1.1⟩ rfl rfl (Nat.le_of_ble_eq_true rfl) dL_law_708 rfl (by omega) (by omega) (fun rv2 V2 hp => ?_)
  obtain ⟨y2, md2, τ2, κ2, hr2, hM2, hf2, hrel⟩ := hp
  rw [hr2]
  have hS2 := hS1.kept hf2 (fun t a1 a2 a3 => ⟨by omega, a3⟩)
  have hO2 := hO1.kept hf2 ⟨by decide, by decide⟩
  have ha := ag_pour hA (by omega) (by omega) (by omega) hR1 hrel
  show zG C V2 ((kc - 4) - 0) ((ks - 24) - 0) 711 [(5, .int (zI (k1))), (4, .int (zI (i))), (3, .ref o), (2, .ref (c 60)), (1, .ref (ad 1)), (0, .ref b)] [.int (zI (y2))]
  refine zr_istore X 713 [(6, .int (zI (y2))), (5, .int (zI (k1))), (4, .int (zI (i))), (3, .ref o), (2, .ref (c 60)), (1, .ref (ad 1)), (0, .ref b)] dL_law_711 rfl (by decide) rfl ?_
  refine zr_goto X 2004 dL_law_713 rfl ?_
  refine zr_sub [2, 3, 4, 5, 6] [(4, .int (zI (i))), (3, .ref o), (2, .ref (c 60)), (1, .ref (ad 1)), (0, .ref b)] rfl ?_
  refine zr_room kc' ks' (by omega) (by omega) ?_
  exact kk V2 σ1 md2 τ2 κ2 ⟨hS2, hM2, hO2.out, ha.1⟩ (by omega)
set_option maxRecDepth 100000 in
set_option maxHeartbeats 4000000 in
theorem lc_mark {C : zC} {l : Launch} (hlt : l.stackTraces = false) {Γ : zGam} {Post : Option Value → zV → Prop} (X : zK C l Γ 7 RL cL_law wsL_law 20 (some .boolean) Post) {V : zV} {ad c md : Nat → Nat} {σ τ κ : Nat → Int} {E i : Int} {b L o kc ks kc' ks' : Nat} {xs : Nat → Int32} (hX : va_X b L xs C.1.2.2.2.2.1 C.1.2.2.2.2.1.heap) (hbl : b < C.1.2.2.2.2.1.heap.size) (hB : Γ.2.2.2 = C.1.2.2.2.2.1.heap.size) (hi : 0 ≤ i ∧ i ≤ (L : Int) - 7 ∧ L ≤ 448) (hS : zS Γ V ad σ) (hM : zMo Γ V c md τ κ E) (hO : zOut V o) (hA : zA6 σ τ) (hE : E ≤ 3000) (hK : 0 ≤ σ 32 ∧ σ 32 ≤ 1000) (hkc : kc' + 6200 ≤ kc) (hks : ks' + 12800 ≤ ks)
    (kk : ∀ (V' : zV) (σ' : Nat → Int) (md' : Nat → Nat) (τ' κ' : Nat → Int), zLw Γ V' ad c md' σ' τ' κ' (E + 40) o → (σ' 32 = σ 32 ∨ σ' 32 = σ 32 + 1) → zG C V' kc' ks' 2004 [(4, .int (zI i)), (3, .ref o), (2, .ref (c 60)), (1, .ref (ad 1)), (0, .ref b)] []) : zG C V kc ks 716 [(4, .int (zI i)), (3, .ref o), (2, .ref (c 60)), (1, .ref (ad 1)), (0, .ref b)] [] := by
  show zG C V kc ks 716 [(4, .int (zI (i))), (3, .ref o), (2, .ref (c 60)), (1, .ref (ad 1)), (0, .ref b)] []
  refine zr_aload_n X 717 3 dL_law_716 rfl rfl ?_
  refine zr_aload_n X 718 4 dL_law_717 rfl rfl ?_
  refine zr_iload X 720 0 dL_law_718 rfl rfl ?_
  refine zr_iconst X 721 dL_law_720 rfl ?_
  refine zr_iadd X 722 dL_law_721 rfl ?_
  refine zr_sld X 723 hX hbl hB (by omega) dL_law_722 rfl ?_
  obtain ⟨p0, p0e, p0r⟩ := zIex (xs (i + 1).toNat)
  rw [p0e]
  show zG C V kc ks 723 [(4, .int (zI (i))), (3, .ref o), (2, .ref (c 60)), (1, .ref (ad 1)), (0, .ref b)] [.int (zI (p0)), .ref (ad 1)]
  refine zr_aload_n X 724 1 dL_law_723 rfl rfl ?_
  refine zr_callSW (kc' := kc - 1) (ks' := ks - 6) X 727 3 (m_W_mark l hlt Γ (q := p0) hS (by omega) hO) gL_law_L_mark rfl (by decide +kernel) rfl (by decide) rfl (Nat.le_of_ble_eq_true rfl) dL_law_724 rfl (by omega) (by omega) (fun rv1 V1 hp => ?_)
  obtain ⟨k1, y1, σ1, hr1, hk1, hS1, hf1, hO1, h1, hR1⟩ := hp
  rw [hr1]
  have hM1 := hM.kept hf1 (fun t a1 a2 => a1)
  show zG C V1 (kc - 1) (ks - 6) 727 [(4, .int (zI (i))), (3, .ref o), (2, .ref (c 60)), (1, .ref (ad 1)), (0, .ref b)] [.int (zI (k1))]
  refine zr_istore X 729 [(5, .int (zI (k1))), (4, .int (zI (i))), (3, .ref o), (2, .ref (c 60)), (1, .ref (ad 1)), (0, .ref b)] dL_law_727 rfl (by decide) rfl ?_
  refine zr_aload_n X 730 3 dL_law_729 rfl rfl ?_
  refine zr_aload_n X 731 5 dL_law_730 rfl rfl ?_
  refine zr_iload X 733 1 dL_law_731 rfl rfl ?_
  refine zr_iconst X 734 dL_law_733 rfl ?_
  refine zr_iadd X 735 dL_law_734 rfl ?_
  refine zr_sld X 736 hX hbl hB (by omega) dL_law_735 rfl ?_
  rw [p0e]
  show zG C V1 (kc - 1) (ks - 6) 736 [(5, .int (zI (k1))), (4, .int (zI (i))), (3, .ref o), (2, .ref (c 60)), (1, .ref (ad 1)), (0, .ref b)] [.int (zI (p0)), .ref (c 60)]
  refine zr_callVe (kc' := (kc - 1) - 0) (ks' := (ks - 6) - 0) X 739 1 (m_X8_mark l Γ (q := p0) hM1 (by omega)) gL_law_X8_mark rfl (by decide +kernel) rfl (by decide) ⟨_, _, hM1.1⟩ rfl rfl (Nat.le_of_ble_eq_true rfl) dL_law_736 rfl (by omega) (by omega) (fun rv2 V2 hp => ?_)
  obtain ⟨y2, md2, τ2, κ2, hr2, hM2, hf2, hrel⟩ := hp
  rw [hr2]
  have hS2 := hS1.kept hf2 (fun t a1 a2 a3 => ⟨by omega, a3⟩)
  have hO2 := hO1.kept hf2 ⟨by decide, by decide⟩
  have ha := ag_mark hA (by omega) hR1 hrel
  show zG C V2 ((kc - 1) - 0) ((ks - 6) - 0) 739 [(5, .int (zI (k1))), (4, .int (zI (i))), (3, .ref o), (2, .ref (c 60)), (1, .ref (ad 1)), (0, .ref b)] [.int (zI (y2))]
  refine zr_istore X 741 [(6, .int (zI (y2))), (5, .int (zI (k1))), (4, .int (zI (i))), (3, .ref o), (2, .ref (c 60)), (1, .ref (ad 1)), (0, .ref b)] dL_law_739 rfl (by decide) rfl ?_
  refine zr_goto X 2004 dL_law_741 rfl ?_
  refine zr_sub [2, 3, 4, 5, 6] [(4, .int (zI (i))), (3, .ref o), (2, .ref (c 60)), (1, .ref (ad 1)), (0, .ref b)] rfl ?_
  refine zr_room kc' ks' (by omega) (by omega) ?_
  exact kk V2 σ1 md2 τ2 κ2 ⟨hS2, hM2, hO2.out, ha.1⟩ (by omega)
set_option maxRecDepth 100000 in
set_option maxHeartbeats 4000000 in
theorem lc_reset {C : zC} {l : Launch} (hlt : l.stackTraces = false) {Γ : zGam} {Post : Option Value → zV → Prop} (X : zK C l Γ 7 RL cL_law wsL_law 20 (some .boolean) Post) {V : zV} {ad c md : Nat → Nat} {σ τ κ : Nat → Int} {E i : Int} {b L o kc ks kc' ks' : Nat} {xs : Nat → Int32} (hX : va_X b L xs C.1.2.2.2.2.1 C.1.2.2.2.2.1.heap) (hbl : b < C.1.2.2.2.2.1.heap.size) (hB : Γ.2.2.2 = C.1.2.2.2.2.1.heap.size) (hi : 0 ≤ i ∧ i ≤ (L : Int) - 7 ∧ L ≤ 448) (hS : zS Γ V ad σ) (hM : zMo Γ V c md τ κ E) (hO : zOut V o) (hA : zA6 σ τ) (hE : E ≤ 3000) (hK : 0 ≤ σ 32 ∧ σ 32 ≤ 1000) (hkc : kc' + 6200 ≤ kc) (hks : ks' + 12800 ≤ ks)
    (kk : ∀ (V' : zV) (σ' : Nat → Int) (md' : Nat → Nat) (τ' κ' : Nat → Int), zLw Γ V' ad c md' σ' τ' κ' (E + 40) o → (σ' 32 = σ 32 ∨ σ' 32 = σ 32 + 1) → zG C V' kc' ks' 2004 [(4, .int (zI i)), (3, .ref o), (2, .ref (c 60)), (1, .ref (ad 1)), (0, .ref b)] []) : zG C V kc ks 744 [(4, .int (zI i)), (3, .ref o), (2, .ref (c 60)), (1, .ref (ad 1)), (0, .ref b)] [] := by
  show zG C V kc ks 744 [(4, .int (zI (i))), (3, .ref o), (2, .ref (c 60)), (1, .ref (ad 1)), (0, .ref b)] []
  refine zr_aload_n X 745 3 dL_law_744 rfl rfl ?_
  refine zr_aload_n X 746 4 dL_law_745 rfl rfl ?_
  refine zr_iload X 748 0 dL_law_746 rfl rfl ?_
  refine zr_iconst X 749 dL_law_748 rfl ?_
  refine zr_iadd X 750 dL_law_749 rfl ?_
  refine zr_sld X 751 hX hbl hB (by omega) dL_law_750 rfl ?_
  obtain ⟨p0, p0e, p0r⟩ := zIex (xs (i + 1).toNat)
  rw [p0e]
  show zG C V kc ks 751 [(4, .int (zI (i))), (3, .ref o), (2, .ref (c 60)), (1, .ref (ad 1)), (0, .ref b)] [.int (zI (p0)), .ref (ad 1)]
  refine zr_aload_n X 752 1 dL_law_751 rfl rfl ?_
  refine zr_callSW (kc' := kc - 1) (ks' := ks - 6) X 755 3 (m_W_reset l hlt Γ (q := p0) hS (by omega) hO) gL_law_L_reset rfl (by decide +kernel) rfl (by decide) rfl (Nat.le_of_ble_eq_true rfl) dL_law_752 rfl (by omega) (by omega) (fun rv1 V1 hp => ?_)
  obtain ⟨k1, y1, σ1, hr1, hk1, hS1, hf1, hO1, h1, hR1⟩ := hp
  rw [hr1]
  have hM1 := hM.kept hf1 (fun t a1 a2 => a1)
  show zG C V1 (kc - 1) (ks - 6) 755 [(4, .int (zI (i))), (3, .ref o), (2, .ref (c 60)), (1, .ref (ad 1)), (0, .ref b)] [.int (zI (k1))]
  refine zr_istore X 757 [(5, .int (zI (k1))), (4, .int (zI (i))), (3, .ref o), (2, .ref (c 60)), (1, .ref (ad 1)), (0, .ref b)] dL_law_755 rfl (by decide) rfl ?_
  refine zr_aload_n X 758 3 dL_law_757 rfl rfl ?_
  refine zr_aload_n X 759 5 dL_law_758 rfl rfl ?_
  refine zr_iload X 761 1 dL_law_759 rfl rfl ?_
  refine zr_iconst X 762 dL_law_761 rfl ?_
  refine zr_iadd X 763 dL_law_762 rfl ?_
  refine zr_sld X 764 hX hbl hB (by omega) dL_law_763 rfl ?_
  rw [p0e]
  show zG C V1 (kc - 1) (ks - 6) 764 [(5, .int (zI (k1))), (4, .int (zI (i))), (3, .ref o), (2, .ref (c 60)), (1, .ref (ad 1)), (0, .ref b)] [.int (zI (p0)), .ref (c 60)]
  refine zr_callVe (kc' := (kc - 1) - 0) (ks' := (ks - 6) - 0) X 767 1 (m_X8_reset l Γ (q := p0) hM1 (by omega)) gL_law_X8_reset rfl (by decide +kernel) rfl (by decide) ⟨_, _, hM1.1⟩ rfl rfl (Nat.le_of_ble_eq_true rfl) dL_law_764 rfl (by omega) (by omega) (fun rv2 V2 hp => ?_)
  obtain ⟨y2, md2, τ2, κ2, hr2, hM2, hf2, hrel⟩ := hp
  rw [hr2]
  have hS2 := hS1.kept hf2 (fun t a1 a2 a3 => ⟨by omega, a3⟩)
  have hO2 := hO1.kept hf2 ⟨by decide, by decide⟩
  have ha := ag_reset hA (by omega) hR1 hrel
  show zG C V2 ((kc - 1) - 0) ((ks - 6) - 0) 767 [(5, .int (zI (k1))), (4, .int (zI (i))), (3, .ref o), (2, .ref (c 60)), (1, .ref (ad 1)), (0, .ref b)] [.int (zI (y2))]
  refine zr_istore X 769 [(6, .int (zI (y2))), (5, .int (zI (k1))), (4, .int (zI (i))), (3, .ref o), (2, .ref (c 60)), (1, .ref (ad 1)), (0, .ref b)] dL_law_767 rfl (by decide) rfl ?_
  refine zr_goto X 2004 dL_law_769 rfl ?_
  refine zr_sub [2, 3, 4, 5, 6] [(4, .int (zI (i))), (3, .ref o), (2, .ref (c 60)), (1, .ref (ad 1)), (0, .ref b)] rfl ?_
  refine zr_room kc' ks' (by omega) (by omega) ?_
  exact kk V2 σ1 md2 τ2 κ2 ⟨hS2, hM2, hO2.out, ha.1⟩ (by omega)
set_option maxRecDepth 100000 in
set_option maxHeartbeats 4000000 in
theorem lc_rewind {C : zC} {l : Launch} (hlt : l.stackTraces = false) {Γ : zGam} {Post : Option Value → zV → Prop} (X : zK C l Γ 7 RL cL_law wsL_law 20 (some .boolean) Post) {V : zV} {ad c md : Nat → Nat} {σ τ κ : Nat → Int} {E i : Int} {b L o kc ks kc' ks' : Nat} {xs : Nat → Int32} (hX : va_X b L xs C.1.2.2.2.2.1 C.1.2.2.2.2.1.heap) (hbl : b < C.1.2.2.2.2.1.heap.size) (hB : Γ.2.2.2 = C.1.2.2.2.2.1.heap.size) (hi : 0 ≤ i ∧ i ≤ (L : Int) - 7 ∧ L ≤ 448) (hS : zS Γ V ad σ) (hM : zMo Γ V c md τ κ E) (hO : zOut V o) (hA : zA6 σ τ) (hE : E ≤ 3000) (hK : 0 ≤ σ 32 ∧ σ 32 ≤ 1000) (hkc : kc' + 6200 ≤ kc) (hks : ks' + 12800 ≤ ks)
    (kk : ∀ (V' : zV) (σ' : Nat → Int) (md' : Nat → Nat) (τ' κ' : Nat → Int), zLw Γ V' ad c md' σ' τ' κ' (E + 40) o → (σ' 32 = σ 32 ∨ σ' 32 = σ 32 + 1) → zG C V' kc' ks' 2004 [(4, .int (zI i)), (3, .ref o), (2, .ref (c 60)), (1, .ref (ad 1)), (0, .ref b)] []) : zG C V kc ks 772 [(4, .int (zI i)), (3, .ref o), (2, .ref (c 60)), (1, .ref (ad 1)), (0, .ref b)] [] := by
  show zG C V kc ks 772 [(4, .int (zI (i))), (3, .ref o), (2, .ref (c 60)), (1, .ref (ad 1)), (0, .ref b)] []
  refine zr_aload_n X 773 3 dL_law_772 rfl rfl ?_
  refine zr_aload_n X 774 4 dL_law_773 rfl rfl ?_
  refine zr_iload X 776 0 dL_law_774 rfl rfl ?_
  refine zr_iconst X 777 dL_law_776 rfl ?_
  refine zr_iadd X 778 dL_law_777 rfl ?_
  refine zr_sld X 779 hX hbl hB (by omega) dL_law_778 rfl ?_
  obtain ⟨p0, p0e, p0r⟩ := zIex (xs (i + 1).toNat)
  rw [p0e]
  show zG C V kc ks 779 [(4, .int (zI (i))), (3, .ref o), (2, .ref (c 60)), (1, .ref (ad 1)), (0, .ref b)] [.int (zI (p0)), .ref (ad 1)]
  refine zr_aload_n X 780 1 dL_law_779 rfl rfl ?_
  refine zr_callSW (kc' := kc - 1) (ks' := ks - 6) X 783 3 (m_W_rewind l hlt Γ (q := p0) hS (by omega) hO) gL_law_L_rewind rfl (by decide +kernel) rfl (by decide) rfl (Nat.le_of_ble_eq_true rfl) dL_law_780 rfl (by omega) (by omega) (fun rv1 V1 hp => ?_)
  obtain ⟨k1, y1, σ1, hr1, hk1, hS1, hf1, hO1, h1, hR1⟩ := hp
  rw [hr1]
  have hM1 := hM.kept hf1 (fun t a1 a2 => a1)
  show zG C V1 (kc - 1) (ks - 6) 783 [(4, .int (zI (i))), (3, .ref o), (2, .ref (c 60)), (1, .ref (ad 1)), (0, .ref b)] [.int (zI (k1))]
  refine zr_istore X 785 [(5, .int (zI (k1))), (4, .int (zI (i))), (3, .ref o), (2, .ref (c 60)), (1, .ref (ad 1)), (0, .ref b)] dL_law_783 rfl (by decide) rfl ?_
  refine zr_aload_n X 786 3 dL_law_785 rfl rfl ?_
  refine zr_aload_n X 787 5 dL_law_786 rfl rfl ?_
  refine zr_iload X 789 1 dL_law_787 rfl rfl ?_
  refine zr_iconst X 790 dL_law_789 rfl ?_
  refine zr_iadd X 791 dL_law_790 rfl ?_
  refine zr_sld X 792 hX hbl hB (by omega) dL_law_791 rfl ?_
  rw [p0e]
  show zG C V1 (kc - 1) (ks - 6) 792 [(5, .int (zI (k1))), (4, .int (zI (i))), (3, .ref o), (2, .ref (c 60)), (1, .ref (ad 1)), (0, .ref b)] [.int (zI (p0)), .ref (c 60)]
  refine zr_callVe (kc' := (kc - 1) - 0) (ks' := (ks - 6) - 0) X 795 1 (m_X8_rewind l Γ (q := p0) hM1 (by omega)) gL_law_X8_rewind rfl (by decide +kernel) rfl (by decide) ⟨_, _, hM1.1⟩ rfl rfl (Nat.le_of_ble_eq_true rfl) dL_law_792 rfl (by omega) (by omega) (fun rv2 V2 hp => ?_)
  obtain ⟨y2, md2, τ2, κ2, hr2, hM2, hf2, hrel⟩ := hp
  rw [hr2]
  have hS2 := hS1.kept hf2 (fun t a1 a2 a3 => ⟨by omega, a3⟩)
  have hO2 := hO1.kept hf2 ⟨by decide, by decide⟩
  have ha := ag_rewind hA (by omega) hR1 hrel
  show zG C V2 ((kc - 1) - 0) ((ks - 6) - 0) 795 [(5, .int (zI (k1))), (4, .int (zI (i))), (3, .ref o), (2, .ref (c 60)), (1, .ref (ad 1)), (0, .ref b)] [.int (zI (y2))]
  refine zr_istore X 797 [(6, .int (zI (y2))), (5, .int (zI (k1))), (4, .int (zI (i))), (3, .ref o), (2, .ref (c 60)), (1, .ref (ad 1)), (0, .ref b)] dL_law_795 rfl (by decide) rfl ?_
  refine zr_goto X 2004 dL_law_797 rfl ?_
  refine zr_sub [2, 3, 4, 5, 6] [(4, .int (zI (i))), (3, .ref o), (2, .ref (c 60)), (1, .ref (ad 1)), (0, .ref b)] rfl ?_
  refine zr_room kc' ks' (by omega) (by omega) ?_
  exact kk V2 σ1 md2 τ2 κ2 ⟨hS2, hM2, hO2.out, ha.1⟩ (by omega)
set_option maxRecDepth 100000 in
set_option maxHeartbeats 4000000 in
theorem lc_flip {C : zC} {l : Launch} (hlt : l.stackTraces = false) {Γ : zGam} {Post : Option Value → zV → Prop} (X : zK C l Γ 7 RL cL_law wsL_law 20 (some .boolean) Post) {V : zV} {ad c md : Nat → Nat} {σ τ κ : Nat → Int} {E i : Int} {b L o kc ks kc' ks' : Nat} {xs : Nat → Int32} (hX : va_X b L xs C.1.2.2.2.2.1 C.1.2.2.2.2.1.heap) (hbl : b < C.1.2.2.2.2.1.heap.size) (hB : Γ.2.2.2 = C.1.2.2.2.2.1.heap.size) (hi : 0 ≤ i ∧ i ≤ (L : Int) - 7 ∧ L ≤ 448) (hS : zS Γ V ad σ) (hM : zMo Γ V c md τ κ E) (hO : zOut V o) (hA : zA6 σ τ) (hE : E ≤ 3000) (hK : 0 ≤ σ 32 ∧ σ 32 ≤ 1000) (hkc : kc' + 6200 ≤ kc) (hks : ks' + 12800 ≤ ks)
    (kk : ∀ (V' : zV) (σ' : Nat → Int) (md' : Nat → Nat) (τ' κ' : Nat → Int), zLw Γ V' ad c md' σ' τ' κ' (E + 40) o → (σ' 32 = σ 32 ∨ σ' 32 = σ 32 + 1) → zG C V' kc' ks' 2004 [(4, .int (zI i)), (3, .ref o), (2, .ref (c 60)), (1, .ref (ad 1)), (0, .ref b)] []) : zG C V kc ks 800 [(4, .int (zI i)), (3, .ref o), (2, .ref (c 60)), (1, .ref (ad 1)), (0, .ref b)] [] := by
  show zG C V kc ks 800 [(4, .int (zI (i))), (3, .ref o), (2, .ref (c 60)), (1, .ref (ad 1)), (0, .ref b)] []
  refine zr_aload_n X 801 3 dL_law_800 rfl rfl ?_
  refine zr_aload_n X 802 4 dL_law_801 rfl rfl ?_
  refine zr_iload X 804 0 dL_law_802 rfl rfl ?_
  refine zr_iconst X 805 dL_law_804 rfl ?_
  refine zr_iadd X 806 dL_law_805 rfl ?_
  refine zr_sld X 807 hX hbl hB (by omega) dL_law_806 rfl ?_
  obtain ⟨p0, p0e, p0r⟩ := zIex (xs (i + 1).toNat)
  rw [p0e]
  show zG C V kc ks 807 [(4, .int (zI (i))), (3, .ref o), (2, .ref (c 60)), (1, .ref (ad 1)), (0, .ref b)] [.int (zI (p0)), .ref (ad 1)]
  refine zr_aload_n X 808 1 dL_law_807 rfl rfl ?_
  refine zr_callSW (kc' := kc - 1) (ks' := ks - 6) X 811 3 (m_W_flip l hlt Γ (q := p0) hS (by omega) hO) gL_law_L_flip rfl (by decide +kernel) rfl (by decide) rfl (Nat.le_of_ble_eq_true rfl) dL_law_808 rfl (by omega) (by omega) (fun rv1 V1 hp => ?_)
  obtain ⟨k1, y1, σ1, hr1, hk1, hS1, hf1, hO1, h1, hR1⟩ := hp
  rw [hr1]
  have hM1 := hM.kept hf1 (fun t a1 a2 => a1)
  show zG C V1 (kc - 1) (ks - 6) 811 [(4, .int (zI (i))), (3, .ref o), (2, .ref (c 60)), (1, .ref (ad 1)), (0, .ref b)] [.int (zI (k1))]
  refine zr_istore X 813 [(5, .int (zI (k1))), (4, .int (zI (i))), (3, .ref o), (2, .ref (c 60)), (1, .ref (ad 1)), (0, .ref b)] dL_law_811 rfl (by decide) rfl ?_
  refine zr_aload_n X 814 3 dL_law_813 rfl rfl ?_
  refine zr_aload_n X 815 5 dL_law_814 rfl rfl ?_
  refine zr_iload X 817 1 dL_law_815 rfl rfl ?_
  refine zr_iconst X 818 dL_law_817 rfl ?_
  refine zr_iadd X 819 dL_law_818 rfl ?_
  refine zr_sld X 820 hX hbl hB (by omega) dL_law_819 rfl ?_
  rw [p0e]
  show zG C V1 (kc - 1) (ks - 6) 820 [(5, .int (zI (k1))), (4, .int (zI (i))), (3, .ref o), (2, .ref (c 60)), (1, .ref (ad 1)), (0, .ref b)] [.int (zI (p0)), .ref (c 60)]
  refine zr_callVe (kc' := (kc - 1) - 0) (ks' := (ks - 6) - 0) X 823 1 (m_X8_flip l Γ (q := p0) hM1 (by omega)) gL_law_X8_flip rfl (by decide +kernel) rfl (by decide) ⟨_, _, hM1.1⟩ rfl rfl (Nat.le_of_ble_eq_true rfl) dL_law_820 rfl (by omega) (by omega) (fun rv2 V2 hp => ?_)
  obtain ⟨y2, md2, τ2, κ2, hr2, hM2, hf2, hrel⟩ := hp
  rw [hr2]
  have hS2 := hS1.kept hf2 (fun t a1 a2 a3 => ⟨by omega, a3⟩)
  have hO2 := hO1.kept hf2 ⟨by decide, by decide⟩
  have ha := ag_flip hA (by omega) hR1 hrel
  show zG C V2 ((kc - 1) - 0) ((ks - 6) - 0) 823 [(5, .int (zI (k1))), (4, .int (zI (i))), (3, .ref o), (2, .ref (c 60)), (1, .ref (ad 1)), (0, .ref b)] [.int (zI (y2))]
  refine zr_istore X 825 [(6, .int (zI (y2))), (5, .int (zI (k1))), (4, .int (zI (i))), (3, .ref o), (2, .ref (c 60)), (1, .ref (ad 1)), (0, .ref b)] dL_law_823 rfl (by decide) rfl ?_
  refine zr_goto X 2004 dL_law_825 rfl ?_
  refine zr_sub [2, 3, 4, 5, 6] [(4, .int (zI (i))), (3, .ref o), (2, .ref (c 60)), (1, .ref (ad 1)), (0, .ref b)] rfl ?_
  refine zr_room kc' ks' (by omega) (by omega) ?_
  exact kk V2 σ1 md2 τ2 κ2 ⟨hS2, hM2, hO2.out, ha.1⟩ (by omega)
set_option maxRecDepth 100000 in
set_option maxHeartbeats 4000000 in
theorem lc_compact {C : zC} {l : Launch} (hlt : l.stackTraces = false) {Γ : zGam} {Post : Option Value → zV → Prop} (X : zK C l Γ 7 RL cL_law wsL_law 20 (some .boolean) Post) {V : zV} {ad c md : Nat → Nat} {σ τ κ : Nat → Int} {E i : Int} {b L o kc ks kc' ks' : Nat} {xs : Nat → Int32} (hX : va_X b L xs C.1.2.2.2.2.1 C.1.2.2.2.2.1.heap) (hbl : b < C.1.2.2.2.2.1.heap.size) (hB : Γ.2.2.2 = C.1.2.2.2.2.1.heap.size) (hi : 0 ≤ i ∧ i ≤ (L : Int) - 7 ∧ L ≤ 448) (hS : zS Γ V ad σ) (hM : zMo Γ V c md τ κ E) (hO : zOut V o) (hA : zA6 σ τ) (hE : E ≤ 3000) (hK : 0 ≤ σ 32 ∧ σ 32 ≤ 1000) (hkc : kc' + 6200 ≤ kc) (hks : ks' + 12800 ≤ ks)
    (kk : ∀ (V' : zV) (σ' : Nat → Int) (md' : Nat → Nat) (τ' κ' : Nat → Int), zLw Γ V' ad c md' σ' τ' κ' (E + 40) o → (σ' 32 = σ 32 ∨ σ' 32 = σ 32 + 1) → zG C V' kc' ks' 2004 [(4, .int (zI i)), (3, .ref o), (2, .ref (c 60)), (1, .ref (ad 1)), (0, .ref b)] []) : zG C V kc ks 828 [(4, .int (zI i)), (3, .ref o), (2, .ref (c 60)), (1, .ref (ad 1)), (0, .ref b)] [] := by
  show zG C V kc ks 828 [(4, .int (zI (i))), (3, .ref o), (2, .ref (c 60)), (1, .ref (ad 1)), (0, .ref b)] []
  refine zr_aload_n X 829 3 dL_law_828 rfl rfl ?_
  refine zr_aload_n X 830 4 dL_law_829 rfl rfl ?_
  refine zr_iload X 832 0 dL_law_830 rfl rfl ?_
  refine zr_iconst X 833 dL_law_832 rfl ?_
  refine zr_iadd X 834 dL_law_833 rfl ?_
  refine zr_sld X 835 hX hbl hB (by omega) dL_law_834 rfl ?_
  obtain ⟨p0, p0e, p0r⟩ := zIex (xs (i + 1).toNat)
  rw [p0e]
  show zG C V kc ks 835 [(4, .int (zI (i))), (3, .ref o), (2, .ref (c 60)), (1, .ref (ad 1)), (0, .ref b)] [.int (zI (p0)), .ref (ad 1)]
  refine zr_aload_n X 836 1 dL_law_835 rfl rfl ?_
  refine zr_callSW (kc' := kc - 1) (ks' := ks - 6) X 839 3 (m_W_compact l hlt Γ (q := p0) hS (by omega) hO) gL_law_L_compact rfl (by decide +kernel) rfl (by decide) rfl (Nat.le_of_ble_eq_true rfl) dL_law_836 rfl (by omega) (by omega) (fun rv1 V1 hp => ?_)
  obtain ⟨k1, y1, σ1, hr1, hk1, hS1, hf1, hO1, h1, hR1⟩ := hp
  rw [hr1]
  have hM1 := hM.kept hf1 (fun t a1 a2 => a1)
  show zG C V1 (kc - 1) (ks - 6) 839 [(4, .int (zI (i))), (3, .ref o), (2, .ref (c 60)), (1, .ref (ad 1)), (0, .ref b)] [.int (zI (k1))]
  refine zr_istore X 841 [(5, .int (zI (k1))), (4, .int (zI (i))), (3, .ref o), (2, .ref (c 60)), (1, .ref (ad 1)), (0, .ref b)] dL_law_839 rfl (by decide) rfl ?_
  refine zr_aload_n X 842 3 dL_law_841 rfl rfl ?_
  refine zr_aload_n X 843 5 dL_law_842 rfl rfl ?_
  refine zr_iload X 845 1 dL_law_843 rfl rfl ?_
  refine zr_iconst X 846 dL_law_845 rfl ?_
  refine zr_iadd X 847 dL_law_846 rfl ?_
  refine zr_sld X 848 hX hbl hB (by omega) dL_law_847 rfl ?_
  rw [p0e]
  show zG C V1 (kc - 1) (ks - 6) 848 [(5, .int (zI (k1))), (4, .int (zI (i))), (3, .ref o), (2, .ref (c 60)), (1, .ref (ad 1)), (0, .ref b)] [.int (zI (p0)), .ref (c 60)]
  refine zr_callVe (kc' := (kc - 1) - 1) (ks' := (ks - 6) - 40) X 851 1 (m_X8_compact l Γ (q := p0) hM1 (by omega)) gL_law_X8_compact rfl (by decide +kernel) rfl (by decide) ⟨_, _, hM1.1⟩ rfl rfl (Nat.le_of_ble_eq_true rfl) dL_law_848 rfl (by omega) (by omega) (fun rv2 V2 hp => ?_)
  obtain ⟨y2, md2, τ2, κ2, hr2, hM2, hf2, hrel⟩ := hp
  rw [hr2]
  have hS2 := hS1.kept hf2 (fun t a1 a2 a3 => ⟨by omega, a3⟩)
  have hO2 := hO1.kept hf2 ⟨by decide, by decide⟩
  have ha := ag_compact hA (by omega) hR1 hrel
  show zG C V2 ((kc - 1) - 1) ((ks - 6) - 40) 851 [(5, .int (zI (k1))), (4, .int (zI (i))), (3, .ref o), (2, .ref (c 60)), (1, .ref (ad 1)), (0, .ref b)] [.int (zI (y2))]
  refine zr_istore X 853 [(6, .int (zI (y2))), (5, .int (zI (k1))), (4, .int (zI (i))), (3, .ref o), (2, .ref (c 60)), (1, .ref (ad 1)), (0, .ref b)] dL_law_851 rfl (by decide) rfl ?_
  refine zr_goto X 2004 dL_law_853 rfl ?_
  refine zr_sub [2, 3, 4, 5, 6] [(4, .int (zI (i))), (3, .ref o), (2, .ref (c 60)), (1, .ref (ad 1)), (0, .ref b)] rfl ?_
  refine zr_room kc' ks' (by omega) (by omega) ?_
  exact kk V2 σ1 md2 τ2 κ2 ⟨hS2, hM2, hO2.out, ha.1⟩ (by omega)
set_option maxRecDepth 100000 in
set_option maxHeartbeats 4000000 in
theorem lc_open {C : zC} {l : Launch} (hlt : l.stackTraces = false) {Γ : zGam} {Post : Option Value → zV → Prop} (X : zK C l Γ 7 RL cL_law wsL_law 20 (some .boolean) Post) {V : zV} {ad c md : Nat → Nat} {σ τ κ : Nat → Int} {E i : Int} {b L o kc ks kc' ks' : Nat} {xs : Nat → Int32} (hX : va_X b L xs C.1.2.2.2.2.1 C.1.2.2.2.2.1.heap) (hbl : b < C.1.2.2.2.2.1.heap.size) (hB : Γ.2.2.2 = C.1.2.2.2.2.1.heap.size) (hi : 0 ≤ i ∧ i ≤ (L : Int) - 7 ∧ L ≤ 448) (hS : zS Γ V ad σ) (hM : zMo Γ V c md τ κ E) (hO : zOut V o) (hA : zA6 σ τ) (hE : E ≤ 3000) (hK : 0 ≤ σ 32 ∧ σ 32 ≤ 1000) (hkc : kc' + 6200 ≤ kc) (hks : ks' + 12800 ≤ ks)
    (kk : ∀ (V' : zV) (σ' : Nat → Int) (md' : Nat → Nat) (τ' κ' : Nat → Int), zLw Γ V' ad c md' σ' τ' κ' (E + 40) o → (σ' 32 = σ 32 ∨ σ' 32 = σ 32 + 1) → zG C V' kc' ks' 2004 [(4, .int (zI i)), (3, .ref o), (2, .ref (c 60)), (1, .ref (ad 1)), (0, .ref b)] []) : zG C V kc ks 856 [(4, .int (zI i)), (3, .ref o), (2, .ref (c 60)), (1, .ref (ad 1)), (0, .ref b)] [] := by
  show zG C V kc ks 856 [(4, .int (zI (i))), (3, .ref o), (2, .ref (c 60)), (1, .ref (ad 1)), (0, .ref b)] []
  refine zr_aload_n X 857 3 dL_law_856 rfl rfl ?_
  refine zr_aload_n X 858 4 dL_law_857 rfl rfl ?_
  refine zr_iload X 860 0 dL_law_858 rfl rfl ?_
  refine zr_iconst X 861 dL_law_860 rfl ?_
  refine zr_iadd X 862 dL_law_861 rfl ?_
  refine zr_sld X 863 hX hbl hB (by omega) dL_law_862 rfl ?_
  obtain ⟨p0, p0e, p0r⟩ := zIex (xs (i + 1).toNat)
  rw [p0e]
  show zG C V kc ks 863 [(4, .int (zI (i))), (3, .ref o), (2, .ref (c 60)), (1, .ref (ad 1)), (0, .ref b)] [.int (zI (p0)), .ref (ad 1)]
  refine zr_aload_n X 864 1 dL_law_863 rfl rfl ?_
  refine zr_callSW (kc' := kc - 1) (ks' := ks - 6) X 867 3 (m_W_open l hlt Γ (q := p0) hS (by omega) hO) gL_law_L_open rfl (by decide +kernel) rfl (by decide) rfl (Nat.le_of_ble_eq_true rfl) dL_law_864 rfl (by omega) (by omega) (fun rv1 V1 hp => ?_)
  obtain ⟨k1, y1, σ1, hr1, hk1, hS1, hf1, hO1, h1, hR1⟩ := hp
  rw [hr1]
  have hM1 := hM.kept hf1 (fun t a1 a2 => a1)
  show zG C V1 (kc - 1) (ks - 6) 867 [(4, .int (zI (i))), (3, .ref o), (2, .ref (c 60)), (1, .ref (ad 1)), (0, .ref b)] [.int (zI (k1))]
  refine zr_istore X 869 [(5, .int (zI (k1))), (4, .int (zI (i))), (3, .ref o), (2, .ref (c 60)), (1, .ref (ad 1)), (0, .ref b)] dL_law_867 rfl (by decide) rfl ?_
  refine zr_aload_n X 870 3 dL_law_869 rfl rfl ?_
  refine zr_aload_n X 871 5 dL_law_870 rfl rfl ?_
  refine zr_iload X 873 1 dL_law_871 rfl rfl ?_
  refine zr_iconst X 874 dL_law_873 rfl ?_
  refine zr_iadd X 875 dL_law_874 rfl ?_
  refine zr_sld X 876 hX hbl hB (by omega) dL_law_875 rfl ?_
  rw [p0e]
  show zG C V1 (kc - 1) (ks - 6) 876 [(5, .int (zI (k1))), (4, .int (zI (i))), (3, .ref o), (2, .ref (c 60)), (1, .ref (ad 1)), (0, .ref b)] [.int (zI (p0)), .ref (c 60)]
  refine zr_callVe (kc' := (kc - 1) - 0) (ks' := (ks - 6) - 0) X 879 1 (m_X8_open l Γ (q := p0) hM1 (by omega)) gL_law_X8_open rfl (by decide +kernel) rfl (by decide) ⟨_, _, hM1.1⟩ rfl rfl (Nat.le_of_ble_eq_true rfl) dL_law_876 rfl (by omega) (by omega) (fun rv2 V2 hp => ?_)
  obtain ⟨y2, md2, τ2, κ2, hr2, hM2, hf2, hrel⟩ := hp
  rw [hr2]
  have hS2 := hS1.kept hf2 (fun t a1 a2 a3 => ⟨by omega, a3⟩)
  have hO2 := hO1.kept hf2 ⟨by decide, by decide⟩
  have ha := ag_open hA (by omega) hR1 hrel
  show zG C V2 ((kc - 1) - 0) ((ks - 6) - 0) 879 [(5, .int (zI (k1))), (4, .int (zI (i))), (3, .ref o), (2, .ref (c 60)), (1, .ref (ad 1)), (0, .ref b)] [.int (zI (y2))]
  refine zr_istore X 881 [(6, .int (zI (y2))), (5, .int (zI (k1))), (4, .int (zI (i))), (3, .ref o), (2, .ref (c 60)), (1, .ref (ad 1)), (0, .ref b)] dL_law_879 rfl (by decide) rfl ?_
  refine zr_goto X 2004 dL_law_881 rfl ?_
  refine zr_sub [2, 3, 4, 5, 6] [(4, .int (zI (i))), (3, .ref o), (2, .ref (c 60)), (1, .ref (ad 1)), (0, .ref b)] rfl ?_
  refine zr_room kc' ks' (by omega) (by omega) ?_
  exact kk V2 σ1 md2 τ2 κ2 ⟨hS2, hM2, hO2.out, ha.1⟩ (by omega)
set_option maxRecDepth 100000 in
set_option maxHeartbeats 4000000 in
theorem lc_keep {C : zC} {l : Launch} (hlt : l.stackTraces = false) {Γ : zGam} {Post : Option Value → zV → Prop} (X : zK C l Γ 7 RL cL_law wsL_law 20 (some .boolean) Post) {V : zV} {ad c md : Nat → Nat} {σ τ κ : Nat → Int} {E i : Int} {b L o kc ks kc' ks' : Nat} {xs : Nat → Int32} (hX : va_X b L xs C.1.2.2.2.2.1 C.1.2.2.2.2.1.heap) (hbl : b < C.1.2.2.2.2.1.heap.size) (hB : Γ.2.2.2 = C.1.2.2.2.2.1.heap.size) (hi : 0 ≤ i ∧ i ≤ (L : Int) - 7 ∧ L ≤ 448) (hS : zS Γ V ad σ) (hM : zMo Γ V c md τ κ E) (hO : zOut V o) (hA : zA6 σ τ) (hE : E ≤ 3000) (hK : 0 ≤ σ 32 ∧ σ 32 ≤ 1000) (hkc : kc' + 6200 ≤ kc) (hks : ks' + 12800 ≤ ks)
    (kk : ∀ (V' : zV) (σ' : Nat → Int) (md' : Nat → Nat) (τ' κ' : Nat → Int), zLw Γ V' ad c md' σ' τ' κ' (E + 40) o → (σ' 32 = σ 32 ∨ σ' 32 = σ 32 + 1) → zG C V' kc' ks' 2004 [(4, .int (zI i)), (3, .ref o), (2, .ref (c 60)), (1, .ref (ad 1)), (0, .ref b)] []) : zG C V kc ks 884 [(4, .int (zI i)), (3, .ref o), (2, .ref (c 60)), (1, .ref (ad 1)), (0, .ref b)] [] := by
  show zG C V kc ks 884 [(4, .int (zI (i))), (3, .ref o), (2, .ref (c 60)), (1, .ref (ad 1)), (0, .ref b)] []
  refine zr_aload_n X 885 3 dL_law_884 rfl rfl ?_
  refine zr_aload_n X 886 4 dL_law_885 rfl rfl ?_
  refine zr_iload X 888 0 dL_law_886 rfl rfl ?_
  refine zr_iconst X 889 dL_law_888 rfl ?_
  refine zr_iadd X 890 dL_law_889 rfl ?_
  refine zr_sld X 891 hX hbl hB (by omega) dL_law_890 rfl ?_
  obtain ⟨p0, p0e, p0r⟩ := zIex (xs (i + 1).toNat)
  rw [p0e]
  show zG C V kc ks 891 [(4, .int (zI (i))), (3, .ref o), (2, .ref (c 60)), (1, .ref (ad 1)), (0, .ref b)] [.int (zI (p0)), .ref (ad 1)]
  refine zr_aload_n X 892 1 dL_law_891 rfl rfl ?_
  refine zr_callSW (kc' := kc - 1) (ks' := ks - 6) X 895 3 (m_W_keep l hlt Γ (q := p0) hS (by omega) hO) gL_law_L_keep rfl (by decide +kernel) rfl (by decide) rfl (Nat.le_of_ble_eq_true rfl) dL_law_892 rfl (by omega) (by omega) (fun rv1 V1 hp => ?_)
  obtain ⟨k1, y1, σ1, hr1, hk1, hS1, hf1, hO1, h1, hR1⟩ := hp
  rw [hr1]
  have hM1 := hM.kept hf1 (fun t a1 a2 => a1)
  show zG C V1 (kc - 1) (ks - 6) 895 [(4, .int (zI (i))), (3, .ref o), (2, .ref (c 60)), (1, .ref (ad 1)), (0, .ref b)] [.int (zI (k1))]
  refine zr_istore X 897 [(5, .int (zI (k1))), (4, .int (zI (i))), (3, .ref o), (2, .ref (c 60)), (1, .ref (ad 1)), (0, .ref b)] dL_law_895 rfl (by decide) rfl ?_
  refine zr_aload_n X 898 3 dL_law_897 rfl rfl ?_
  refine zr_aload_n X 899 5 dL_law_898 rfl rfl ?_
  refine zr_iload X 901 1 dL_law_899 rfl rfl ?_
  refine zr_iconst X 902 dL_law_901 rfl ?_
  refine zr_iadd X 903 dL_law_902 rfl ?_
  refine zr_sld X 904 hX hbl hB (by omega) dL_law_903 rfl ?_
  rw [p0e]
  show zG C V1 (kc - 1) (ks - 6) 904 [(5, .int (zI (k1))), (4, .int (zI (i))), (3, .ref o), (2, .ref (c 60)), (1, .ref (ad 1)), (0, .ref b)] [.int (zI (p0)), .ref (c 60)]
  refine zr_callVe (kc' := (kc - 1) - 3) (ks' := (ks - 6) - 240) X 907 1 (m_X8_keep l Γ (q := p0) hM1 (by omega)) gL_law_X8_keep rfl (by decide +kernel) rfl (by decide) ⟨_, _, hM1.1⟩ rfl rfl (Nat.le_of_ble_eq_true rfl) dL_law_904 rfl (by omega) (by omega) (fun rv2 V2 hp => ?_)
  obtain ⟨y2, md2, τ2, κ2, hr2, hM2, hf2, hrel⟩ := hp
  rw [hr2]
  have hS2 := hS1.kept hf2 (fun t a1 a2 a3 => ⟨by omega, a3⟩)
  have hO2 := hO1.kept hf2 ⟨by decide, by decide⟩
  have ha := ag_keep hA (by omega) hR1 hrel
  show zG C V2 ((kc - 1) - 3) ((ks - 6) - 240) 907 [(5, .int (zI (k1))), (4, .int (zI (i))), (3, .ref o), (2, .ref (c 60)), (1, .ref (ad 1)), (0, .ref b)] [.int (zI (y2))]
  refine zr_istore X 909 [(6, .int (zI (y2))), (5, .int (zI (k1))), (4, .int (zI (i))), (3, .ref o), (2, .ref (c 60)), (1, .ref (ad 1)), (0, .ref b)] dL_law_907 rfl (by decide) rfl ?_
  refine zr_goto X 2004 dL_law_909 rfl ?_
  refine zr_sub [2, 3, 4, 5, 6] [(4, .int (zI (i))), (3, .ref o), (2, .ref (c 60)), (1, .ref (ad 1)), (0, .ref b)] rfl ?_
  refine zr_room kc' ks' (by omega) (by omega) ?_
  exact kk V2 σ1 md2 τ2 κ2 ⟨hS2, hM2, hO2.out, ha.1⟩ (by omega)
set_option maxRecDepth 100000 in
set_option maxHeartbeats 4000000 in
theorem lc_load {C : zC} {l : Launch} (hlt : l.stackTraces = false) {Γ : zGam} {Post : Option Value → zV → Prop} (X : zK C l Γ 7 RL cL_law wsL_law 20 (some .boolean) Post) {V : zV} {ad c md : Nat → Nat} {σ τ κ : Nat → Int} {E i : Int} {b L o kc ks kc' ks' : Nat} {xs : Nat → Int32} (hX : va_X b L xs C.1.2.2.2.2.1 C.1.2.2.2.2.1.heap) (hbl : b < C.1.2.2.2.2.1.heap.size) (hB : Γ.2.2.2 = C.1.2.2.2.2.1.heap.size) (hi : 0 ≤ i ∧ i ≤ (L : Int) - 7 ∧ L ≤ 448) (hS : zS Γ V ad σ) (hM : zMo Γ V c md τ κ E) (hO : zOut V o) (hA : zA6 σ τ) (hE : E ≤ 3000) (hK : 0 ≤ σ 32 ∧ σ 32 ≤ 1000) (hkc : kc' + 6200 ≤ kc) (hks : ks' + 12800 ≤ ks)
    (kk : ∀ (V' : zV) (σ' : Nat → Int) (md' : Nat → Nat) (τ' κ' : Nat → Int), zLw Γ V' ad c md' σ' τ' κ' (E + 40) o → (σ' 32 = σ 32 ∨ σ' 32 = σ 32 + 1) → zG C V' kc' ks' 2004 [(4, .int (zI i)), (3, .ref o), (2, .ref (c 60)), (1, .ref (ad 1)), (0, .ref b)] []) : zG C V kc ks 912 [(4, .int (zI i)), (3, .ref o), (2, .ref (c 60)), (1, .ref (ad 1)), (0, .ref b)] [] := by
  show zG C V kc ks 912 [(4, .int (zI (i))), (3, .ref o), (2, .ref (c 60)), (1, .ref (ad 1)), (0, .ref b)] []
  refine zr_aload_n X 913 3 dL_law_912 rfl rfl ?_
  refine zr_aload_n X 914 4 dL_law_913 rfl rfl ?_
  refine zr_iload X 916 0 dL_law_914 rfl rfl ?_
  refine zr_iconst X 917 dL_law_916 rfl ?_
  refine zr_iadd X 918 dL_law_917 rfl ?_
  refine zr_sld X 919 hX hbl hB (by omega) dL_law_918 rfl ?_
  obtain ⟨p0, p0e, p0r⟩ := zIex (xs (i + 1).toNat)
  rw [p0e]
  show zG C V kc ks 919 [(4, .int (zI (i))), (3, .ref o), (2, .ref (c 60)), (1, .ref (ad 1)), (0, .ref b)] [.int (zI (p0)), .ref (ad 1)]
  refine zr_aload_n X 920 1 dL_law_919 rfl rfl ?_
  refine zr_callSW (kc' := kc - 1) (ks' := ks - 6) X 923 3 (m_W_load l hlt Γ (q := p0) hS (by omega) hO) gL_law_L_load rfl (by decide +kernel) rfl (by decide) rfl (Nat.le_of_ble_eq_true rfl) dL_law_920 rfl (by omega) (by omega) (fun rv1 V1 hp => ?_)
  obtain ⟨k1, y1, σ1, hr1, hk1, hS1, hf1, hO1, h1, hR1⟩ := hp
  rw [hr1]
  have hM1 := hM.kept hf1 (fun t a1 a2 => a1)
  show zG C V1 (kc - 1) (ks - 6) 923 [(4, .int (zI (i))), (3, .ref o), (2, .ref (c 60)), (1, .ref (ad 1)), (0, .ref b)] [.int (zI (k1))]
  refine zr_istore X 925 [(5, .int (zI (k1))), (4, .int (zI (i))), (3, .ref o), (2, .ref (c 60)), (1, .ref (ad 1)), (0, .ref b)] dL_law_923 rfl (by decide) rfl ?_
  refine zr_aload_n X 926 3 dL_law_925 rfl rfl ?_
  refine zr_aload_n X 927 5 dL_law_926 rfl rfl ?_
  refine zr_iload X 929 1 dL_law_927 rfl rfl ?_
  refine zr_iconst X 930 dL_law_929 rfl ?_
  refine zr_iadd X 931 dL_law_930 rfl ?_
  refine zr_sld X 932 hX hbl hB (by omega) dL_law_931 rfl ?_
  rw [p0e]
  show zG C V1 (kc - 1) (ks - 6) 932 [(5, .int (zI (k1))), (4, .int (zI (i))), (3, .ref o), (2, .ref (c 60)), (1, .ref (ad 1)), (0, .ref b)] [.int (zI (p0)), .ref (c 60)]
  refine zr_callVe (kc' := (kc - 1) - 3) (ks' := (ks - 6) - 240) X 935 1 (m_X8_load l Γ (q := p0) hM1 (by omega)) gL_law_X8_load rfl (by decide +kernel) rfl (by decide) ⟨_, _, hM1.1⟩ rfl rfl (Nat.le_of_ble_eq_true rfl) dL_law_932 rfl (by omega) (by omega) (fun rv2 V2 hp => ?_)
  obtain ⟨y2, md2, τ2, κ2, hr2, hM2, hf2, hrel⟩ := hp
  rw [hr2]
  have hS2 := hS1.kept hf2 (fun t a1 a2 a3 => ⟨by omega, a3⟩)
  have hO2 := hO1.kept hf2 ⟨by decide, by decide⟩
  have ha := ag_load hA (by omega) hR1 hrel
  show zG C V2 ((kc - 1) - 3) ((ks - 6) - 240) 935 [(5, .int (zI (k1))), (4, .int (zI (i))), (3, .ref o), (2, .ref (c 60)), (1, .ref (ad 1)), (0, .ref b)] [.int (zI (y2))]
  refine zr_istore X 937 [(6, .int (zI (y2))), (5, .int (zI (k1))), (4, .int (zI (i))), (3, .ref o), (2, .ref (c 60)), (1, .ref (ad 1)), (0, .ref b)] dL_law_935 rfl (by decide) rfl ?_
  refine zr_goto X 2004 dL_law_937 rfl ?_
  refine zr_sub [2, 3, 4, 5, 6] [(4, .int (zI (i))), (3, .ref o), (2, .ref (c 60)), (1, .ref (ad 1)), (0, .ref b)] rfl ?_
  refine zr_room kc' ks' (by omega) (by omega) ?_
  exact kk V2 σ1 md2 τ2 κ2 ⟨hS2, hM2, hO2.out, ha.1⟩ (by omega)
set_option maxRecDepth 100000 in
set_option maxHeartbeats 4000000 in
theorem lc_build {C : zC} {l : Launch} (hlt : l.stackTraces = false) {Γ : zGam} {Post : Option Value → zV → Prop} (X : zK C l Γ 7 RL cL_law wsL_law 20 (some .boolean) Post) {V : zV} {ad c md : Nat → Nat} {σ τ κ : Nat → Int} {E i : Int} {b L o kc ks kc' ks' : Nat} {xs : Nat → Int32} (hX : va_X b L xs C.1.2.2.2.2.1 C.1.2.2.2.2.1.heap) (hbl : b < C.1.2.2.2.2.1.heap.size) (hB : Γ.2.2.2 = C.1.2.2.2.2.1.heap.size) (hi : 0 ≤ i ∧ i ≤ (L : Int) - 7 ∧ L ≤ 448) (hS : zS Γ V ad σ) (hM : zMo Γ V c md τ κ E) (hO : zOut V o) (hA : zA6 σ τ) (hE : E ≤ 3000) (hK : 0 ≤ σ 32 ∧ σ 32 ≤ 1000) (hkc : kc' + 6200 ≤ kc) (hks : ks' + 12800 ≤ ks)
    (kk : ∀ (V' : zV) (σ' : Nat → Int) (md' : Nat → Nat) (τ' κ' : Nat → Int), zLw Γ V' ad c md' σ' τ' κ' (E + 40) o → (σ' 32 = σ 32 ∨ σ' 32 = σ 32 + 1) → zG C V' kc' ks' 2004 [(4, .int (zI i)), (3, .ref o), (2, .ref (c 60)), (1, .ref (ad 1)), (0, .ref b)] []) : zG C V kc ks 940 [(4, .int (zI i)), (3, .ref o), (2, .ref (c 60)), (1, .ref (ad 1)), (0, .ref b)] [] := by
  show zG C V kc ks 940 [(4, .int (zI (i))), (3, .ref o), (2, .ref (c 60)), (1, .ref (ad 1)), (0, .ref b)] []
  refine zr_aload_n X 941 3 dL_law_940 rfl rfl ?_
  refine zr_aload_n X 942 4 dL_law_941 rfl rfl ?_
  refine zr_iload X 944 0 dL_law_942 rfl rfl ?_
  refine zr_iconst X 945 dL_law_944 rfl ?_
  refine zr_iadd X 946 dL_law_945 rfl ?_
  refine zr_sld X 947 hX hbl hB (by omega) dL_law_946 rfl ?_
  obtain ⟨p0, p0e, p0r⟩ := zIex (xs (i + 1).toNat)
  rw [p0e]
  show zG C V kc ks 947 [(4, .int (zI (i))), (3, .ref o), (2, .ref (c 60)), (1, .ref (ad 1)), (0, .ref b)] [.int (zI (p0)), .ref (ad 1)]
  refine zr_aload_n X 948 1 dL_law_947 rfl rfl ?_
  refine zr_callSW (kc' := kc - 2) (ks' := ks - 12) X 951 3 (m_W_build l hlt Γ (q := p0) hS (by omega) hO) gL_law_L_build rfl (by decide +kernel) rfl (by decide) rfl (Nat.le_of_ble_eq_true rfl) dL_law_948 rfl (by omega) (by omega) (fun rv1 V1 hp => ?_)
  obtain ⟨k1, y1, σ1, hr1, hk1, hS1, hf1, hO1, h1, hR1⟩ := hp
  rw [hr1]
  have hM1 := hM.kept hf1 (fun t a1 a2 => a1)
  show zG C V1 (kc - 2) (ks - 12) 951 [(4, .int (zI (i))), (3, .ref o), (2, .ref (c 60)), (1, .ref (ad 1)), (0, .ref b)] [.int (zI (k1))]
  refine zr_istore X 953 [(5, .int (zI (k1))), (4, .int (zI (i))), (3, .ref o), (2, .ref (c 60)), (1, .ref (ad 1)), (0, .ref b)] dL_law_951 rfl (by decide) rfl ?_
  refine zr_aload_n X 954 3 dL_law_953 rfl rfl ?_
  refine zr_aload_n X 955 5 dL_law_954 rfl rfl ?_
  refine zr_iload X 957 1 dL_law_955 rfl rfl ?_
  refine zr_iconst X 958 dL_law_957 rfl ?_
  refine zr_iadd X 959 dL_law_958 rfl ?_
  refine zr_sld X 960 hX hbl hB (by omega) dL_law_959 rfl ?_
  rw [p0e]
  show zG C V1 (kc - 2) (ks - 12) 960 [(5, .int (zI (k1))), (4, .int (zI (i))), (3, .ref o), (2, .ref (c 60)), (1, .ref (ad 1)), (0, .ref b)] [.int (zI (p0)), .ref (c 60)]
  refine zr_callVe (kc' := (kc - 2) - 3) (ks' := (ks - 12) - 240) X 963 1 (m_X8_build l Γ (q := p0) hM1 (by omega)) gL_law_X8_build rfl (by decide +kernel) rfl (by decide) ⟨_, _, hM1.1⟩ rfl rfl (Nat.le_of_ble_eq_true rfl) dL_law_960 rfl (by omega) (by omega) (fun rv2 V2 hp => ?_)
  obtain ⟨y2, md2, τ2, κ2, hr2, hM2, hf2, hrel⟩ := hp
  rw [hr2]
  have hS2 := hS1.kept hf2 (fun t a1 a2 a3 => ⟨by omega, a3⟩)
  have hO2 := hO1.kept hf2 ⟨by decide, by decide⟩
  have ha := ag_build hA (by omega) hR1 hrel
  show zG C V2 ((kc - 2) - 3) ((ks - 12) - 240) 963 [(5, .int (zI (k1))), (4, .int (zI (i))), (3, .ref o), (2, .ref (c 60)), (1, .ref (ad 1)), (0, .ref b)] [.int (zI (y2))]
  refine zr_istore X 965 [(6, .int (zI (y2))), (5, .int (zI (k1))), (4, .int (zI (i))), (3, .ref o), (2, .ref (c 60)), (1, .ref (ad 1)), (0, .ref b)] dL_law_963 rfl (by decide) rfl ?_
  refine zr_goto X 2004 dL_law_965 rfl ?_
  refine zr_sub [2, 3, 4, 5, 6] [(4, .int (zI (i))), (3, .ref o), (2, .ref (c 60)), (1, .ref (ad 1)), (0, .ref b)] rfl ?_
  refine zr_room kc' ks' (by omega) (by omega) ?_
  exact kk V2 σ1 md2 τ2 κ2 ⟨hS2, hM2, hO2.out, ha.1⟩ (by omega)
set_option maxRecDepth 100000 in
set_option maxHeartbeats 4000000 in
theorem lc_turn {C : zC} {l : Launch} (hlt : l.stackTraces = false) {Γ : zGam} {Post : Option Value → zV → Prop} (X : zK C l Γ 7 RL cL_law wsL_law 20 (some .boolean) Post) {V : zV} {ad c md : Nat → Nat} {σ τ κ : Nat → Int} {E i : Int} {b L o kc ks kc' ks' : Nat} {xs : Nat → Int32} (hX : va_X b L xs C.1.2.2.2.2.1 C.1.2.2.2.2.1.heap) (hbl : b < C.1.2.2.2.2.1.heap.size) (hB : Γ.2.2.2 = C.1.2.2.2.2.1.heap.size) (hi : 0 ≤ i ∧ i ≤ (L : Int) - 7 ∧ L ≤ 448) (hS : zS Γ V ad σ) (hM : zMo Γ V c md τ κ E) (hO : zOut V o) (hA : zA6 σ τ) (hE : E ≤ 3000) (hK : 0 ≤ σ 32 ∧ σ 32 ≤ 1000) (hkc : kc' + 6200 ≤ kc) (hks : ks' + 12800 ≤ ks)
    (kk : ∀ (V' : zV) (σ' : Nat → Int) (md' : Nat → Nat) (τ' κ' : Nat → Int), zLw Γ V' ad c md' σ' τ' κ' (E + 40) o → (σ' 32 = σ 32 ∨ σ' 32 = σ 32 + 1) → zG C V' kc' ks' 2004 [(4, .int (zI i)), (3, .ref o), (2, .ref (c 60)), (1, .ref (ad 1)), (0, .ref b)] []) : zG C V kc ks 968 [(4, .int (zI i)), (3, .ref o), (2, .ref (c 60)), (1, .ref (ad 1)), (0, .ref b)] [] := by
  show zG C V kc ks 968 [(4, .int (zI (i))), (3, .ref o), (2, .ref (c 60)), (1, .ref (ad 1)), (0, .ref b)] []
  refine zr_aload_n X 969 3 dL_law_968 rfl rfl ?_
  refine zr_callVe (kc' := kc - 0) (ks' := ks - 0) X 972 0 (m_X6_turn l Γ hS) gL_law_X6_turn rfl (by decide +kernel) rfl (by decide) hS.x rfl rfl (Nat.le_of_ble_eq_true rfl) dL_law_969 rfl (by omega) (by omega) (fun rv1 V1 hp => ?_)
  obtain ⟨y1, σ1, hr1, hS1, hf0, e1, e2⟩ := hp
  have h1 : σ1 32 = σ 32 := (congrFun e2 32).trans ((zdn_ne (by decide)).trans (zrt_lo (by decide)))
  rw [hr1]
  have hf1 : zag (fun t => 60 ≤ t) V V1 := hf0.mono (fun t ht => Or.inl ht)
  have hO1 := hO.kept hf0 (Or.inr rfl)
  have hM1 := hM.kept hf1 (fun t a1 a2 => a1)
  show zG C V1 (kc - 0) (ks - 0) 972 [(4, .int (zI (i))), (3, .ref o), (2, .ref (c 60)), (1, .ref (ad 1)), (0, .ref b)] [.int (zI (y1))]
  refine zr_pop X 973 dL_law_972 rfl rfl ?_
  refine zr_aload_n X 974 2 dL_law_973 rfl rfl ?_
  refine zr_callVe (kc' := (kc - 0) - 1) (ks' := (ks - 0) - 80) X 977 0 (m_X8_turn l Γ hM1) gL_law_X8_turn rfl (by decide +kernel) rfl (by decide) ⟨_, _, hM1.1⟩ rfl rfl (Nat.le_of_ble_eq_true rfl) dL_law_974 rfl (by omega) (by omega) (fun rv2 V2 hp => ?_)
  obtain ⟨y2, md2, τ2, κ2, hr2, hM2, hf2, hrel⟩ := hp
  have eA : σ = zf τ 36 0 := hA
  have e24 : τ 24 = σ 24 := (hA.at (by decide)).symm
  have ha0 : zA6 σ1 τ2 := by
    rw [e2, hrel.2, ← eA, e24]
    exact .of rfl ((zdn_ne (by decide)).trans ((zrt_lo (by decide)).trans hA.z))
  have ey : y1 = y2 := by
    rw [e1, hrel.1]
    exact hA.at (by decide)
  have n24 : 0 ≤ y2 ∧ y2 ≤ 80 := by
    rw [hrel.1]
    exact ⟨hM.n.2.1.1, hM.n.2.1.2.1⟩
  rw [hr2]
  have hS2 := hS1.kept hf2 (fun t a1 a2 a3 => ⟨by omega, a3⟩)
  have hO2 := hO1.kept hf2 ⟨by decide, by decide⟩
  show zG C V2 ((kc - 0) - 1) ((ks - 0) - 80) 977 [(4, .int (zI (i))), (3, .ref o), (2, .ref (c 60)), (1, .ref (ad 1)), (0, .ref b)] [.int (zI (y2))]
  refine zr_pop X 978 dL_law_977 rfl rfl ?_
  refine zr_goto X 2004 dL_law_978 rfl ?_
  refine zr_room kc' ks' (by omega) (by omega) ?_
  exact kk V2 σ1 md2 τ2 κ2 ⟨hS2, hM2, hO2, ha0⟩ (by omega)
set_option maxRecDepth 100000 in
set_option maxHeartbeats 4000000 in
theorem lc_change {C : zC} {l : Launch} (hlt : l.stackTraces = false) {Γ : zGam} {Post : Option Value → zV → Prop} (X : zK C l Γ 7 RL cL_law wsL_law 20 (some .boolean) Post) {V : zV} {ad c md : Nat → Nat} {σ τ κ : Nat → Int} {E i : Int} {b L o kc ks kc' ks' : Nat} {xs : Nat → Int32} (hX : va_X b L xs C.1.2.2.2.2.1 C.1.2.2.2.2.1.heap) (hbl : b < C.1.2.2.2.2.1.heap.size) (hB : Γ.2.2.2 = C.1.2.2.2.2.1.heap.size) (hi : 0 ≤ i ∧ i ≤ (L : Int) - 7 ∧ L ≤ 448) (hS : zS Γ V ad σ) (hM : zMo Γ V c md τ κ E) (hO : zOut V o) (hA : zA6 σ τ) (hE : E ≤ 3000) (hK : 0 ≤ σ 32 ∧ σ 32 ≤ 1000) (hkc : kc' + 6200 ≤ kc) (hks : ks' + 12800 ≤ ks)
    (kk : ∀ (V' : zV) (σ' : Nat → Int) (md' : Nat → Nat) (τ' κ' : Nat → Int), zLw Γ V' ad c md' σ' τ' κ' (E + 40) o → (σ' 32 = σ 32 ∨ σ' 32 = σ 32 + 1) → zG C V' kc' ks' 2004 [(4, .int (zI i)), (3, .ref o), (2, .ref (c 60)), (1, .ref (ad 1)), (0, .ref b)] []) : zG C V kc ks 981 [(4, .int (zI i)), (3, .ref o), (2, .ref (c 60)), (1, .ref (ad 1)), (0, .ref b)] [] := by
  show zG C V kc ks 981 [(4, .int (zI (i))), (3, .ref o), (2, .ref (c 60)), (1, .ref (ad 1)), (0, .ref b)] []
  refine zr_aload_n X 982 3 dL_law_981 rfl rfl ?_
  refine zr_aload_n X 983 4 dL_law_982 rfl rfl ?_
  refine zr_iload X 985 0 dL_law_983 rfl rfl ?_
  refine zr_iconst X 986 dL_law_985 rfl ?_
  refine zr_iadd X 987 dL_law_986 rfl ?_
  refine zr_sld X 988 hX hbl hB (by omega) dL_law_987 rfl ?_
  obtain ⟨p0, p0e, p0r⟩ := zIex (xs (i + 1).toNat)
  rw [p0e]
  show zG C V kc ks 988 [(4, .int (zI (i))), (3, .ref o), (2, .ref (c 60)), (1, .ref (ad 1)), (0, .ref b)] [.int (zI (p0)), .ref (ad 1)]
  refine zr_aload_n X 989 4 dL_law_988 rfl rfl ?_
  refine zr_iload X 991 0 dL_law_989 rfl rfl ?_
  refine zr_iconst X 992 dL_law_991 rfl ?_
  refine zr_iadd X 993 dL_law_992 rfl ?_
  refine zr_sld X 994 hX hbl hB (by omega) dL_law_993 rfl ?_
  obtain ⟨p1, p1e, p1r⟩ := zIex (xs (i + 2).toNat)
  rw [p1e]
  show zG C V kc ks 994 [(4, .int (zI (i))), (3, .ref o), (2, .ref (c 60)), (1, .ref (ad 1)), (0, .ref b)] [.int (zI (p1)), .int (zI (p0)), .ref (ad 1)]
  refine zr_aload_n X 995 1 dL_law_994 rfl rfl ?_
  refine zr_callSW (kc' := kc - 2) (ks' := ks - 12) X 998 4 (m_W_change l hlt Γ (q := p0) (x := p1) hS (by omega) (by omega) hO) gL_law_L_change rfl (by decide +kernel) rfl (by decide) rfl (Nat.le_of_ble_eq_true rfl) dL_law_995 rfl (by omega) (by omega) (fun rv1 V1 hp => ?_)
  obtain ⟨k1, y1, σ1, hr1, hk1, hS1, hf1, hO1, h1, hR1⟩ := hp
  rw [hr1]
  have hM1 := hM.kept hf1 (fun t a1 a2 => a1)
  show zG C V1 (kc - 2) (ks - 12) 998 [(4, .int (zI (i))), (3, .ref o), (2, .ref (c 60)), (1, .ref (ad 1)), (0, .ref b)] [.int (zI (k1))]
  refine zr_istore X 1000 [(5, .int (zI (k1))), (4, .int (zI (i))), (3, .ref o), (2, .ref (c 60)), (1, .ref (ad 1)), (0, .ref b)] dL_law_998 rfl (by decide) rfl ?_
  refine zr_aload_n X 1001 3 dL_law_1000 rfl rfl ?_
  refine zr_aload_n X 1002 5 dL_law_1001 rfl rfl ?_
  refine zr_iload X 1004 1 dL_law_1002 rfl rfl ?_
  refine zr_iconst X 1005 dL_law_1004 rfl ?_
  refine zr_iadd X 1006 dL_law_1005 rfl ?_
  refine zr_sld X 1007 hX hbl hB (by omega) dL_law_1006 rfl ?_
  rw [p0e]
  show zG C V1 (kc - 2) (ks - 12) 1007 [(5, .int (zI (k1))), (4, .int (zI (i))), (3, .ref o), (2, .ref (c 60)), (1, .ref (ad 1)), (0, .ref b)] [.int (zI (p0)), .ref (c 60)]
  refine zr_aload_n X 1008 5 dL_law_1007 rfl rfl ?_
  refine zr_iload X 1010 1 dL_law_1008 rfl rfl ?_
  refine zr_iconst X 1011 dL_law_1010 rfl ?_
  refine zr_iadd X 1012 dL_law_1011 rfl ?_
  refine zr_sld X 1013 hX hbl hB (by omega) dL_law_1012 rfl ?_
  rw [p1e]
  show zG C V1 (kc - 2) (ks - 12) 1013 [(5, .int (zI (k1))), (4, .int (zI (i))), (3, .ref o), (2, .ref (c 60)), (1, .ref (ad 1)), (0, .ref b)] [.int (zI (p1)), .int (zI (p0)), .ref (c 60)]
  refine zr_callVe (kc' := (kc - 2) - 0) (ks' := (ks - 12) - 0) X 1016 2 (m_X8_change l Γ (q := p0) (x := p1) hM1 (by omega) (by omega)) gL_law_X8_change rfl (by decide +kernel) rfl (by decide) ⟨_, _, hM1.1⟩ rfl rfl (Nat.le_of_ble_eq_true rfl) dL_law_1013 rfl (by omega) (by omega) (fun rv2 V2 hp => ?_)
  obtain ⟨y2, md2, τ2, κ2, hr2, hM2, hf2, hrel⟩ := hp
  rw [hr2]
  have hS2 := hS1.kept hf2 (fun t a1 a2 a3 => ⟨by omega, a3⟩)
  have hO2 := hO1.kept hf2 ⟨by decide, by decide⟩
  have ha := ag_change hA (by omega) (by omega) hR1 hrel
  show zG C V2 ((kc - 2) - 0) ((ks - 12) - 0) 1016 [(5, .int (zI (k1))), (4, .int (zI (i))), (3, .ref o), (2, .ref (c 60)), (1, .ref (ad 1)), (0, .ref b)] [.int (zI (y2))]
  refine zr_istore X 1018 [(6, .int (zI (y2))), (5, .int (zI (k1))), (4, .int (zI (i))), (3, .ref o), (2, .ref (c 60)), (1, .ref (ad 1)), (0, .ref b)] dL_law_1016 rfl (by decide) rfl ?_
  refine zr_goto X 2004 dL_law_1018 rfl ?_
  refine zr_sub [2, 3, 4, 5, 6] [(4, .int (zI (i))), (3, .ref o), (2, .ref (c 60)), (1, .ref (ad 1)), (0, .ref b)] rfl ?_
  refine zr_room kc' ks' (by omega) (by omega) ?_
  exact kk V2 σ1 md2 τ2 κ2 ⟨hS2, hM2, hO2.out, ha.1⟩ (by omega)
set_option maxRecDepth 100000 in
set_option maxHeartbeats 4000000 in
theorem lc_pipe {C : zC} {l : Launch} (hlt : l.stackTraces = false) {Γ : zGam} {Post : Option Value → zV → Prop} (X : zK C l Γ 7 RL cL_law wsL_law 20 (some .boolean) Post) {V : zV} {ad c md : Nat → Nat} {σ τ κ : Nat → Int} {E i : Int} {b L o kc ks kc' ks' : Nat} {xs : Nat → Int32} (hX : va_X b L xs C.1.2.2.2.2.1 C.1.2.2.2.2.1.heap) (hbl : b < C.1.2.2.2.2.1.heap.size) (hB : Γ.2.2.2 = C.1.2.2.2.2.1.heap.size) (hi : 0 ≤ i ∧ i ≤ (L : Int) - 7 ∧ L ≤ 448) (hS : zS Γ V ad σ) (hM : zMo Γ V c md τ κ E) (hO : zOut V o) (hA : zA6 σ τ) (hE : E ≤ 3000) (hK : 0 ≤ σ 32 ∧ σ 32 ≤ 1000) (hkc : kc' + 6200 ≤ kc) (hks : ks' + 12800 ≤ ks)
    (kk : ∀ (V' : zV) (σ' : Nat → Int) (md' : Nat → Nat) (τ' κ' : Nat → Int), zLw Γ V' ad c md' σ' τ' κ' (E + 40) o → (σ' 32 = σ 32 ∨ σ' 32 = σ 32 + 1) → zG C V' kc' ks' 2004 [(4, .int (zI i)), (3, .ref o), (2, .ref (c 60)), (1, .ref (ad 1)), (0, .ref b)] []) : zG C V kc ks 1021 [(4, .int (zI i)), (3, .ref o), (2, .ref (c 60)), (1, .ref (ad 1)), (0, .ref b)] [] := by
  show zG C V kc ks 1021 [(4, .int (zI (i))), (3, .ref o), (2, .ref (c 60)), (1, .ref (ad 1)), (0, .ref b)] []
  refine zr_aload_n X 1022 3 dL_law_1021 rfl rfl ?_
  refine zr_aload_n X 1023 4 dL_law_1022 rfl rfl ?_
  refine zr_iload X 1025 0 dL_law_1023 rfl rfl ?_
  refine zr_iconst X 1026 dL_law_1025 rfl ?_
  refine zr_iadd X 1027 dL_law_1026 rfl ?_
  refine zr_sld X 1028 hX hbl hB (by omega) dL_law_1027 rfl ?_
  obtain ⟨p0, p0e, p0r⟩ := zIex (xs (i + 1).toNat)
  rw [p0e]
  show zG C V kc ks 1028 [(4, .int (zI (i))), (3, .ref o), (2, .ref (c 60)), (1, .ref (ad 1)), (0, .ref b)] [.int (zI (p0)), .ref (ad 1)]
  refine zr_aload_n X 1029 1 dL_law_1028 rfl rfl ?_
  refine zr_callSW (kc' := kc - 1) (ks' := ks - 6) X 1032 3 (m_W_pipe l hlt Γ (q := p0) hS (by omega) hO) gL_law_L_pipe rfl (by decide +kernel) rfl (by decide) rfl (Nat.le_of_ble_eq_true rfl) dL_law_1029 rfl (by omega) (by omega) (fun rv1 V1 hp => ?_)
  obtain ⟨k1, y1, σ1, hr1, hk1, hS1, hf1, hO1, h1, hR1⟩ := hp
  rw [hr1]
  have hM1 := hM.kept hf1 (fun t a1 a2 => a1)
  show zG C V1 (kc - 1) (ks - 6) 1032 [(4, .int (zI (i))), (3, .ref o), (2, .ref (c 60)), (1, .ref (ad 1)), (0, .ref b)] [.int (zI (k1))]
  refine zr_istore X 1034 [(5, .int (zI (k1))), (4, .int (zI (i))), (3, .ref o), (2, .ref (c 60)), (1, .ref (ad 1)), (0, .ref b)] dL_law_1032 rfl (by decide) rfl ?_
  refine zr_aload_n X 1035 3 dL_law_1034 rfl rfl ?_
  refine zr_aload_n X 1036 5 dL_law_1035 rfl rfl ?_
  refine zr_iload X 1038 1 dL_law_1036 rfl rfl ?_
  refine zr_iconst X 1039 dL_law_1038 rfl ?_
  refine zr_iadd X 1040 dL_law_1039 rfl ?_
  refine zr_sld X 1041 hX hbl hB (by omega) dL_law_1040 rfl ?_
  rw [p0e]
  show zG C V1 (kc - 1) (ks - 6) 1041 [(5, .int (zI (k1))), (4, .int (zI (i))), (3, .ref o), (2, .ref (c 60)), (1, .ref (ad 1)), (0, .ref b)] [.int (zI (p0)), .ref (c 60)]
  refine zr_callVe (kc' := (kc - 1) - 0) (ks' := (ks - 6) - 0) X 1044 1 (m_X8_pipe l Γ (q := p0) hM1 (by omega)) gL_law_X8_pipe rfl (by decide +kernel) rfl (by decide) ⟨_, _, hM1.1⟩ rfl rfl (Nat.le_of_ble_eq_true rfl) dL_law_1041 rfl (by omega) (by omega) (fun rv2 V2 hp => ?_)
  obtain ⟨y2, md2, τ2, κ2, hr2, hM2, hf2, hrel⟩ := hp
  rw [hr2]
  have hS2 := hS1.kept hf2 (fun t a1 a2 a3 => ⟨by omega, a3⟩)
  have hO2 := hO1.kept hf2 ⟨by decide, by decide⟩
  have ha := ag_pipe hA (by omega) hR1 hrel
  show zG C V2 ((kc - 1) - 0) ((ks - 6) - 0) 1044 [(5, .int (zI (k1))), (4, .int (zI (i))), (3, .ref o), (2, .ref (c 60)), (1, .ref (ad 1)), (0, .ref b)] [.int (zI (y2))]
  refine zr_istore X 1046 [(6, .int (zI (y2))), (5, .int (zI (k1))), (4, .int (zI (i))), (3, .ref o), (2, .ref (c 60)), (1, .ref (ad 1)), (0, .ref b)] dL_law_1044 rfl (by decide) rfl ?_
  refine zr_goto X 2004 dL_law_1046 rfl ?_
  refine zr_sub [2, 3, 4, 5, 6] [(4, .int (zI (i))), (3, .ref o), (2, .ref (c 60)), (1, .ref (ad 1)), (0, .ref b)] rfl ?_
  refine zr_room kc' ks' (by omega) (by omega) ?_
  exact kk V2 σ1 md2 τ2 κ2 ⟨hS2, hM2, hO2.out, ha.1⟩ (by omega)
set_option maxRecDepth 100000 in
set_option maxHeartbeats 4000000 in
theorem lc_feed {C : zC} {l : Launch} (hlt : l.stackTraces = false) {Γ : zGam} {Post : Option Value → zV → Prop} (X : zK C l Γ 7 RL cL_law wsL_law 20 (some .boolean) Post) {V : zV} {ad c md : Nat → Nat} {σ τ κ : Nat → Int} {E i : Int} {b L o kc ks kc' ks' : Nat} {xs : Nat → Int32} (hX : va_X b L xs C.1.2.2.2.2.1 C.1.2.2.2.2.1.heap) (hbl : b < C.1.2.2.2.2.1.heap.size) (hB : Γ.2.2.2 = C.1.2.2.2.2.1.heap.size) (hi : 0 ≤ i ∧ i ≤ (L : Int) - 7 ∧ L ≤ 448) (hS : zS Γ V ad σ) (hM : zMo Γ V c md τ κ E) (hO : zOut V o) (hA : zA6 σ τ) (hE : E ≤ 3000) (hK : 0 ≤ σ 32 ∧ σ 32 ≤ 1000) (hkc : kc' + 6200 ≤ kc) (hks : ks' + 12800 ≤ ks)
    (kk : ∀ (V' : zV) (σ' : Nat → Int) (md' : Nat → Nat) (τ' κ' : Nat → Int), zLw Γ V' ad c md' σ' τ' κ' (E + 40) o → (σ' 32 = σ 32 ∨ σ' 32 = σ 32 + 1) → zG C V' kc' ks' 2004 [(4, .int (zI i)), (3, .ref o), (2, .ref (c 60)), (1, .ref (ad 1)), (0, .ref b)] []) : zG C V kc ks 1049 [(4, .int (zI i)), (3, .ref o), (2, .ref (c 60)), (1, .ref (ad 1)), (0, .ref b)] [] := by
  show zG C V kc ks 1049 [(4, .int (zI (i))), (3, .ref o), (2, .ref (c 60)), (1, .ref (ad 1)), (0, .ref b)] []
  refine zr_aload_n X 1050 3 dL_law_1049 rfl rfl ?_
  refine zr_aload_n X 1051 4 dL_law_1050 rfl rfl ?_
  refine zr_iload X 1053 0 dL_law_1051 rfl rfl ?_
  refine zr_iconst X 1054 dL_law_1053 rfl ?_
  refine zr_iadd X 1055 dL_law_1054 rfl ?_
  refine zr_sld X 1056 hX hbl hB (by omega) dL_law_1055 rfl ?_
  obtain ⟨p0, p0e, p0r⟩ := zIex (xs (i + 1).toNat)
  rw [p0e]
  show zG C V kc ks 1056 [(4, .int (zI (i))), (3, .ref o), (2, .ref (c 60)), (1, .ref (ad 1)), (0, .ref b)] [.int (zI (p0)), .ref (ad 1)]
  refine zr_aload_n X 1057 4 dL_law_1056 rfl rfl ?_
  refine zr_iload X 1059 0 dL_law_1057 rfl rfl ?_
  refine zr_iconst X 1060 dL_law_1059 rfl ?_
  refine zr_iadd X 1061 dL_law_1060 rfl ?_
  refine zr_sld X 1062 hX hbl hB (by omega) dL_law_1061 rfl ?_
  obtain ⟨p1, p1e, p1r⟩ := zIex (xs (i + 2).toNat)
  rw [p1e]
  show zG C V kc ks 1062 [(4, .int (zI (i))), (3, .ref o), (2, .ref (c 60)), (1, .ref (ad 1)), (0, .ref b)] [.int (zI (p1)), .int (zI (p0)), .ref (ad 1)]
  refine zr_aload_n X 1063 1 dL_law_1062 rfl rfl ?_
  refine zr_callSW (kc' := kc - 2) (ks' := ks - 12) X 1066 4 (m_W_feed l hlt Γ (x := p0) (n := p1) hS (by omega) (by omega) hO) gL_law_L_feed rfl (by decide +kernel) rfl (by decide) rfl (Nat.le_of_ble_eq_true rfl) dL_law_1063 rfl (by omega) (by omega) (fun rv1 V1 hp => ?_)
  obtain ⟨k1, y1, σ1, hr1, hk1, hS1, hf1, hO1, h1, hR1⟩ := hp
  rw [hr1]
  have hM1 := hM.kept hf1 (fun t a1 a2 => a1)
  show zG C V1 (kc - 2) (ks - 12) 1066 [(4, .int (zI (i))), (3, .ref o), (2, .ref (c 60)), (1, .ref (ad 1)), (0, .ref b)] [.int (zI (k1))]
  refine zr_istore X 1068 [(5, .int (zI (k1))), (4, .int (zI (i))), (3, .ref o), (2, .ref (c 60)), (1, .ref (ad 1)), (0, .ref b)] dL_law_1066 rfl (by decide) rfl ?_
  refine zr_aload_n X 1069 3 dL_law_1068 rfl rfl ?_
  refine zr_aload_n X 1070 5 dL_law_1069 rfl rfl ?_
  refine zr_iload X 1072 1 dL_law_1070 rfl rfl ?_
  refine zr_iconst X 1073 dL_law_1072 rfl ?_
  refine zr_iadd X 1074 dL_law_1073 rfl ?_
  refine zr_sld X 1075 hX hbl hB (by omega) dL_law_1074 rfl ?_
  rw [p0e]
  show zG C V1 (kc - 2) (ks - 12) 1075 [(5, .int (zI (k1))), (4, .int (zI (i))), (3, .ref o), (2, .ref (c 60)), (1, .ref (ad 1)), (0, .ref b)] [.int (zI (p0)), .ref (c 60)]
  refine zr_aload_n X 1076 5 dL_law_1075 rfl rfl ?_
  refine zr_iload X 1078 1 dL_law_1076 rfl rfl ?_
  refine zr_iconst X 1079 dL_law_1078 rfl ?_
  refine zr_iadd X 1080 dL_law_1079 rfl ?_
  refine zr_sld X 1081 hX hbl hB (by omega) dL_law_1080 rfl ?_
  rw [p1e]
  show zG C V1 (kc - 2) (ks - 12) 1081 [(5, .int (zI (k1))), (4, .int (zI (i))), (3, .ref o), (2, .ref (c 60)), (1, .ref (ad 1)), (0, .ref b)] [.int (zI (p1)), .int (zI (p0)), .ref (c 60)]
  refine zr_callVe (kc' := (kc - 2) - 0) (ks' := (ks - 12) - 0) X 1084 2 (m_X8_feed l Γ (x := p0) (n := p1) hM1 (by omega) (by omega)) gL_law_X8_feed rfl (by decide +kernel) rfl (by decide) ⟨_, _, hM1.1⟩ rfl rfl (Nat.le_of_ble_eq_true rfl) dL_law_1081 rfl (by omega) (by omega) (fun rv2 V2 hp => ?_)
  obtain ⟨y2, md2, τ2, κ2, hr2, hM2, hf2, hrel⟩ := hp
  rw [hr2]
  have hS2 := hS1.kept hf2 (fun t a1 a2 a3 => ⟨by omega, a3⟩)
  have hO2 := hO1.kept hf2 ⟨by decide, by decide⟩
  have q6 := hS1.prg
  obtain ⟨-, -, n8⟩ := hM.n
  obtain ⟨-, -, n9⟩ := hM2.n
  have ha := ag_feed hA (by omega) (by omega) (by omega) (by omega) (by omega) hR1 hrel
  show zG C V2 ((kc - 2) - 0) ((ks - 12) - 0) 1084 [(5, .int (zI (k1))), (4, .int (zI (i))), (3, .ref o), (2, .ref (c 60)), (1, .ref (ad 1)), (0, .ref b)] [.int (zI (y2))]
  refine zr_istore X 1086 [(6, .int (zI (y2))), (5, .int (zI (k1))), (4, .int (zI (i))), (3, .ref o), (2, .ref (c 60)), (1, .ref (ad 1)), (0, .ref b)] dL_law_1084 rfl (by decide) rfl ?_
  refine zr_goto X 2004 dL_law_1086 rfl ?_
  refine zr_sub [2, 3, 4, 5, 6] [(4, .int (zI (i))), (3, .ref o), (2, .ref (c 60)), (1, .ref (ad 1)), (0, .ref b)] rfl ?_
  refine zr_room kc' ks' (by omega) (by omega) ?_
  exact kk V2 σ1 md2 τ2 κ2 ⟨hS2, hM2, hO2.out, ha.1⟩ (by omega)
set_option maxRecDepth 100000 in
set_option maxHeartbeats 4000000 in
theorem lc_drain {C : zC} {l : Launch} (hlt : l.stackTraces = false) {Γ : zGam} {Post : Option Value → zV → Prop} (X : zK C l Γ 7 RL cL_law wsL_law 20 (some .boolean) Post) {V : zV} {ad c md : Nat → Nat} {σ τ κ : Nat → Int} {E i : Int} {b L o kc ks kc' ks' : Nat} {xs : Nat → Int32} (hX : va_X b L xs C.1.2.2.2.2.1 C.1.2.2.2.2.1.heap) (hbl : b < C.1.2.2.2.2.1.heap.size) (hB : Γ.2.2.2 = C.1.2.2.2.2.1.heap.size) (hi : 0 ≤ i ∧ i ≤ (L : Int) - 7 ∧ L ≤ 448) (hS : zS Γ V ad σ) (hM : zMo Γ V c md τ κ E) (hO : zOut V o) (hA : zA6 σ τ) (hE : E ≤ 3000) (hK : 0 ≤ σ 32 ∧ σ 32 ≤ 1000) (hkc : kc' + 6200 ≤ kc) (hks : ks' + 12800 ≤ ks)
    (kk : ∀ (V' : zV) (σ' : Nat → Int) (md' : Nat → Nat) (τ' κ' : Nat → Int), zLw Γ V' ad c md' σ' τ' κ' (E + 40) o → (σ' 32 = σ 32 ∨ σ' 32 = σ 32 + 1) → zG C V' kc' ks' 2004 [(4, .int (zI i)), (3, .ref o), (2, .ref (c 60)), (1, .ref (ad 1)), (0, .ref b)] []) : zG C V kc ks 1089 [(4, .int (zI i)), (3, .ref o), (2, .ref (c 60)), (1, .ref (ad 1)), (0, .ref b)] [] := by
  show zG C V kc ks 1089 [(4, .int (zI (i))), (3, .ref o), (2, .ref (c 60)), (1, .ref (ad 1)), (0, .ref b)] []
  refine zr_aload_n X 1090 3 dL_law_1089 rfl rfl ?_
  refine zr_aload_n X 1091 4 dL_law_1090 rfl rfl ?_
  refine zr_iload X 1093 0 dL_law_1091 rfl rfl ?_
  refine zr_iconst X 1094 dL_law_1093 rfl ?_
  refine zr_iadd X 1095 dL_law_1094 rfl ?_
  refine zr_sld X 1096 hX hbl hB (by omega) dL_law_1095 rfl ?_
  obtain ⟨p0, p0e, p0r⟩ := zIex (xs (i + 1).toNat)
  rw [p0e]
  show zG C V kc ks 1096 [(4, .int (zI (i))), (3, .ref o), (2, .ref (c 60)), (1, .ref (ad 1)), (0, .ref b)] [.int (zI (p0)), .ref (ad 1)]
  refine zr_aload_n X 1097 1 dL_law_1096 rfl rfl ?_
  refine zr_callSW (kc' := kc - 3010) (ks' := ks - 6300) X 1100 3 (m_W_drain l hlt Γ (q := p0) hS (by omega) hO) gL_law_L_drain rfl (by decide +kernel) rfl (by decide) rfl (Nat.le_of_ble_eq_true rfl) dL_law_1097 rfl (by omega) (by omega) (fun rv1 V1 hp => ?_)
  obtain ⟨k1, y1, σ1, hr1, hk1, hS1, hf1, hO1, h1, hR1⟩ := hp
  rw [hr1]
  have hM1 := hM.kept hf1 (fun t a1 a2 => a1)
  show zG C V1 (kc - 3010) (ks - 6300) 1100 [(4, .int (zI (i))), (3, .ref o), (2, .ref (c 60)), (1, .ref (ad 1)), (0, .ref b)] [.int (zI (k1))]
  refine zr_istore X 1102 [(5, .int (zI (k1))), (4, .int (zI (i))), (3, .ref o), (2, .ref (c 60)), (1, .ref (ad 1)), (0, .ref b)] dL_law_1100 rfl (by decide) rfl ?_
  refine zr_aload_n X 1103 3 dL_law_1102 rfl rfl ?_
  refine zr_aload_n X 1104 5 dL_law_1103 rfl rfl ?_
  refine zr_iload X 1106 1 dL_law_1104 rfl rfl ?_
  refine zr_iconst X 1107 dL_law_1106 rfl ?_
  refine zr_iadd X 1108 dL_law_1107 rfl ?_
  refine zr_sld X 1109 hX hbl hB (by omega) dL_law_1108 rfl ?_
  rw [p0e]
  show zG C V1 (kc - 3010) (ks - 6300) 1109 [(5, .int (zI (k1))), (4, .int (zI (i))), (3, .ref o), (2, .ref (c 60)), (1, .ref (ad 1)), (0, .ref b)] [.int (zI (p0)), .ref (c 60)]
  refine zr_callVe (kc' := (kc - 3010) - 3010) (ks' := (ks - 6300) - 6300) X 1112 1 (m_X8_drain l Γ (q := p0) hM1 (by omega)) gL_law_X8_drain rfl (by decide +kernel) rfl (by decide) ⟨_, _, hM1.1⟩ rfl rfl (Nat.le_of_ble_eq_true rfl) dL_law_1109 rfl (by omega) (by omega) (fun rv2 V2 hp => ?_)
  obtain ⟨y2, md2, τ2, κ2, hr2, hM2, hf2, hrel⟩ := hp
  rw [hr2]
  have hS2 := hS1.kept hf2 (fun t a1 a2 a3 => ⟨by omega, a3⟩)
  have hO2 := hO1.kept hf2 ⟨by decide, by decide⟩
  have q6 := hS1.prg
  obtain ⟨-, -, n8⟩ := hM.n
  obtain ⟨-, -, n9⟩ := hM2.n
  have ha := ag_drain (w := 0) hA (by omega) (by omega) (by omega) (by omega) hR1 hrel
  show zG C V2 ((kc - 3010) - 3010) ((ks - 6300) - 6300) 1112 [(5, .int (zI (k1))), (4, .int (zI (i))), (3, .ref o), (2, .ref (c 60)), (1, .ref (ad 1)), (0, .ref b)] [.ref y2]
  refine zr_astore X 1114 [(6, .ref y2), (5, .int (zI (k1))), (4, .int (zI (i))), (3, .ref o), (2, .ref (c 60)), (1, .ref (ad 1)), (0, .ref b)] dL_law_1112 rfl (by decide) rfl ?_
  refine zr_goto X 2004 dL_law_1114 rfl ?_
  refine zr_sub [2, 3, 4, 5, 6] [(4, .int (zI (i))), (3, .ref o), (2, .ref (c 60)), (1, .ref (ad 1)), (0, .ref b)] rfl ?_
  refine zr_room kc' ks' (by omega) (by omega) ?_
  exact kk V2 σ1 md2 τ2 κ2 ⟨hS2, hM2, hO2.out, ha.1⟩ (by omega)
set_option maxRecDepth 100000 in
set_option maxHeartbeats 4000000 in
theorem lc_pump {C : zC} {l : Launch} (hlt : l.stackTraces = false) {Γ : zGam} {Post : Option Value → zV → Prop} (X : zK C l Γ 7 RL cL_law wsL_law 20 (some .boolean) Post) {V : zV} {ad c md : Nat → Nat} {σ τ κ : Nat → Int} {E i : Int} {b L o kc ks kc' ks' : Nat} {xs : Nat → Int32} (hX : va_X b L xs C.1.2.2.2.2.1 C.1.2.2.2.2.1.heap) (hbl : b < C.1.2.2.2.2.1.heap.size) (hB : Γ.2.2.2 = C.1.2.2.2.2.1.heap.size) (hi : 0 ≤ i ∧ i ≤ (L : Int) - 7 ∧ L ≤ 448) (hS : zS Γ V ad σ) (hM : zMo Γ V c md τ κ E) (hO : zOut V o) (hA : zA6 σ τ) (hE : E ≤ 3000) (hK : 0 ≤ σ 32 ∧ σ 32 ≤ 1000) (hkc : kc' + 6200 ≤ kc) (hks : ks' + 12800 ≤ ks)
    (kk : ∀ (V' : zV) (σ' : Nat → Int) (md' : Nat → Nat) (τ' κ' : Nat → Int), zLw Γ V' ad c md' σ' τ' κ' (E + 40) o → (σ' 32 = σ 32 ∨ σ' 32 = σ 32 + 1) → zG C V' kc' ks' 2004 [(4, .int (zI i)), (3, .ref o), (2, .ref (c 60)), (1, .ref (ad 1)), (0, .ref b)] []) : zG C V kc ks 1117 [(4, .int (zI i)), (3, .ref o), (2, .ref (c 60)), (1, .ref (ad 1)), (0, .ref b)] [] := by
  show zG C V kc ks 1117 [(4, .int (zI (i))), (3, .ref o), (2, .ref (c 60)), (1, .ref (ad 1)), (0, .ref b)] []
  refine zr_aload_n X 1118 3 dL_law_1117 rfl rfl ?_
  refine zr_aload_n X 1119 4 dL_law_1118 rfl rfl ?_
  refine zr_iload X 1121 0 dL_law_1119 rfl rfl ?_
  refine zr_iconst X 1122 dL_law_1121 rfl ?_
  refine zr_iadd X 1123 dL_law_1122 rfl ?_
  refine zr_sld X 1124 hX hbl hB (by omega) dL_law_1123 rfl ?_
  obtain ⟨p0, p0e, p0r⟩ := zIex (xs (i + 1).toNat)
  rw [p0e]
  show zG C V kc ks 1124 [(4, .int (zI (i))), (3, .ref o), (2, .ref (c 60)), (1, .ref (ad 1)), (0, .ref b)] [.int (zI (p0)), .ref (ad 1)]
  refine zr_aload_n X 1125 4 dL_law_1124 rfl rfl ?_
  refine zr_iload X 1127 0 dL_law_1125 rfl rfl ?_
  refine zr_iconst X 1128 dL_law_1127 rfl ?_
  refine zr_iadd X 1129 dL_law_1128 rfl ?_
  refine zr_sld X 1130 hX hbl hB (by omega) dL_law_1129 rfl ?_
  obtain ⟨p1, p1e, p1r⟩ := zIex (xs (i + 2).toNat)
  rw [p1e]
  show zG C V kc ks 1130 [(4, .int (zI (i))), (3, .ref o), (2, .ref (c 60)), (1, .ref (ad 1)), (0, .ref b)] [.int (zI (p1)), .int (zI (p0)), .ref (ad 1)]
  refine zr_aload_n X 1131 4 dL_law_1130 rfl rfl ?_
  refine zr_iload X 1133 0 dL_law_1131 rfl rfl ?_
  refine zr_iconst X 1134 dL_law_1133 rfl ?_
  refine zr_iadd X 1135 dL_law_1134 rfl ?_
  refine zr_sld X 1136 hX hbl hB (by omega) dL_law_1135 rfl ?_
  obtain ⟨p2, p2e, p2r⟩ := zIex (xs (i + 3).toNat)
  rw [p2e]
  show zG C V kc ks 1136 [(4, .int (zI (i))), (3, .ref o), (2, .ref (c 60)), (1, .ref (ad 1)), (0, .ref b)] [.int (zI (p2)), .int (zI (p1)), .int (zI (p0)), .ref (ad 1)]
  refine zr_aload_n X 1137 1 dL_law_1136 rfl rfl ?_
  refine zr_callSW (kc' := kc - 3010) (ks' := ks - 6300) X 1140 5 (m_W_pump l hlt Γ (q := p0) (a := p1) (b := p2) hS (by omega) (by omega) (by omega) hO) gL_law_L_pump rfl (by decide +kernel) rfl (by decide) rfl (Nat.le_of_ble_eq_true rfl) dL_law_1137 rfl (by omega) (by omega) (fun rv1 V1 hp => ?_)
  obtain ⟨k1, y1, σ1, hr1, hk1, hS1, hf1, hO1, h1, hR1⟩ := hp
  rw [hr1]
  have hM1 := hM.kept hf1 (fun t a1 a2 => a1)
  show zG C V1 (kc - 3010) (ks - 6300) 1140 [(4, .int (zI (i))), (3, .ref o), (2, .ref (c 60)), (1, .ref (ad 1)), (0, .ref b)] [.int (zI (k1))]
  refine zr_istore X 1142 [(5, .int (zI (k1))), (4, .int (zI (i))), (3, .ref o), (2, .ref (c 60)), (1, .ref (ad 1)), (0, .ref b)] dL_law_1140 rfl (by decide) rfl ?_
  refine zr_aload_n X 1143 3 dL_law_1142 rfl rfl ?_
  refine zr_aload_n X 1144 5 dL_law_1143 rfl rfl ?_
  refine zr_iload X 1146 1 dL_law_1144 rfl rfl ?_
  refine zr_iconst X 1147 dL_law_1146 rfl ?_
  refine zr_iadd X 1148 dL_law_1147 rfl ?_
  refine zr_sld X 1149 hX hbl hB (by omega) dL_law_1148 rfl ?_
  rw [p0e]
  show zG C V1 (kc - 3010) (ks - 6300) 1149 [(5, .int (zI (k1))), (4, .int (zI (i))), (3, .ref o), (2, .ref (c 60)), (1, .ref (ad 1)), (0, .ref b)] [.int (zI (p0)), .ref (c 60)]
  refine zr_aload_n X 1150 5 dL_law_1149 rfl rfl ?_
  refine zr_iload X 1152 1 dL_law_1150 rfl rfl ?_
  refine zr_iconst X 1153 dL_law_1152 rfl ?_
  refine zr_iadd X 1154 dL_law_1153 rfl ?_
  refine zr_sld X 1155 hX hbl hB (by omega) dL_law_1154 rfl ?_
  rw [p1e]
  show zG C V1 (kc - 3010) (ks - 6300) 1155 [(5, .int (zI (k1))), (4, .int (zI (i))), (3, .ref o), (2, .ref (c 60)), (1, .ref (ad 1)), (0, .ref b)] [.int (zI (p1)), .int (zI (p0)), .ref (c 60)]
  refine zr_aload_n X 1156 5 dL_law_1155 rfl rfl ?_
  refine zr_iload X 1158 1 dL_law_1156 rfl rfl ?_
  refine zr_iconst X 1159 dL_law_1158 rfl ?_
  refine zr_iadd X 1160 dL_law_1159 rfl ?_
  refine zr_sld X 1161 hX hbl hB (by omega) dL_law_1160 rfl ?_
  rw [p2e]
  show zG C V1 (kc - 3010) (ks - 6300) 1161 [(5, .int (zI (k1))), (4, .int (zI (i))), (3, .ref o), (2, .ref (c 60)), (1, .ref (ad 1)), (0, .ref b)] [.int (zI (p2)), .int (zI (p1)), .int (zI (p0)), .ref (c 60)]
  refine zr_callVe (kc' := (kc - 3010) - 3011) (ks' := (ks - 6300) - 6340) X 1164 3 (m_X8_pump l Γ (q := p0) (a := p1) (b := p2) hM1 (by omega) (by omega) (by omega)) gL_law_X8_pump rfl (by decide +kernel) rfl (by decide) ⟨_, _, hM1.1⟩ rfl rfl (Nat.le_of_ble_eq_true rfl) dL_law_1161 rfl (by omega) (by omega) (fun rv2 V2 hp => ?_)
  obtain ⟨y2, md2, τ2, κ2, hr2, hM2, hf2, hrel⟩ := hp
  rw [hr2]
  have hS2 := hS1.kept hf2 (fun t a1 a2 a3 => ⟨by omega, a3⟩)
  have hO2 := hO1.kept hf2 ⟨by decide, by decide⟩
  have ha := ag_pump hA hR1 hrel
  show zG C V2 ((kc - 3010) - 3011) ((ks - 6300) - 6340) 1164 [(5, .int (zI (k1))), (4, .int (zI (i))), (3, .ref o), (2, .ref (c 60)), (1, .ref (ad 1)), (0, .ref b)] [.ref y2]
  refine zr_astore X 1166 [(6, .ref y2), (5, .int (zI (k1))), (4, .int (zI (i))), (3, .ref o), (2, .ref (c 60)), (1, .ref (ad 1)), (0, .ref b)] dL_law_1164 rfl (by decide) rfl ?_
  refine zr_goto X 2004 dL_law_1166 rfl ?_
  refine zr_sub [2, 3, 4, 5, 6] [(4, .int (zI (i))), (3, .ref o), (2, .ref (c 60)), (1, .ref (ad 1)), (0, .ref b)] rfl ?_
  refine zr_room kc' ks' (by omega) (by omega) ?_
  exact kk V2 σ1 md2 τ2 κ2 ⟨hS2, hM2, hO2.out, ha⟩ (by omega)
set_option maxRecDepth 100000 in
set_option maxHeartbeats 4000000 in
theorem lc_left {C : zC} {l : Launch} (hlt : l.stackTraces = false) {Γ : zGam} {Post : Option Value → zV → Prop} (X : zK C l Γ 7 RL cL_law wsL_law 20 (some .boolean) Post) {V : zV} {ad c md : Nat → Nat} {σ τ κ : Nat → Int} {E i : Int} {b L o kc ks kc' ks' : Nat} {xs : Nat → Int32} (hX : va_X b L xs C.1.2.2.2.2.1 C.1.2.2.2.2.1.heap) (hbl : b < C.1.2.2.2.2.1.heap.size) (hB : Γ.2.2.2 = C.1.2.2.2.2.1.heap.size) (hi : 0 ≤ i ∧ i ≤ (L : Int) - 7 ∧ L ≤ 448) (hS : zS Γ V ad σ) (hM : zMo Γ V c md τ κ E) (hO : zOut V o) (hA : zA6 σ τ) (hE : E ≤ 3000) (hK : 0 ≤ σ 32 ∧ σ 32 ≤ 1000) (hkc : kc' + 6200 ≤ kc) (hks : ks' + 12800 ≤ ks)
    (kk : ∀ (V' : zV) (σ' : Nat → Int) (md' : Nat → Nat) (τ' κ' : Nat → Int), zLw Γ V' ad c md' σ' τ' κ' (E + 40) o → (σ' 32 = σ 32 ∨ σ' 32 = σ 32 + 1) → zG C V' kc' ks' 2004 [(4, .int (zI i)), (3, .ref o), (2, .ref (c 60)), (1, .ref (ad 1)), (0, .ref b)] []) : zG C V kc ks 1169 [(4, .int (zI i)), (3, .ref o), (2, .ref (c 60)), (1, .ref (ad 1)), (0, .ref b)] [] := by
  show zG C V kc ks 1169 [(4, .int (zI (i))), (3, .ref o), (2, .ref (c 60)), (1, .ref (ad 1)), (0, .ref b)] []
  refine zr_aload_n X 1170 3 dL_law_1169 rfl rfl ?_
  refine zr_aload_n X 1171 4 dL_law_1170 rfl rfl ?_
  refine zr_iload X 1173 0 dL_law_1171 rfl rfl ?_
  refine zr_iconst X 1174 dL_law_1173 rfl ?_
  refine zr_iadd X 1175 dL_law_1174 rfl ?_
  refine zr_sld X 1176 hX hbl hB (by omega) dL_law_1175 rfl ?_
  obtain ⟨p0, p0e, p0r⟩ := zIex (xs (i + 1).toNat)
  rw [p0e]
  show zG C V kc ks 1176 [(4, .int (zI (i))), (3, .ref o), (2, .ref (c 60)), (1, .ref (ad 1)), (0, .ref b)] [.int (zI (p0)), .ref (ad 1)]
  refine zr_aload_n X 1177 4 dL_law_1176 rfl rfl ?_
  refine zr_iload X 1179 0 dL_law_1177 rfl rfl ?_
  refine zr_iconst X 1180 dL_law_1179 rfl ?_
  refine zr_iadd X 1181 dL_law_1180 rfl ?_
  refine zr_sld X 1182 hX hbl hB (by omega) dL_law_1181 rfl ?_
  obtain ⟨p1, p1e, p1r⟩ := zIex (xs (i + 2).toNat)
  rw [p1e]
  show zG C V kc ks 1182 [(4, .int (zI (i))), (3, .ref o), (2, .ref (c 60)), (1, .ref (ad 1)), (0, .ref b)] [.int (zI (p1)), .int (zI (p0)), .ref (ad 1)]
  refine zr_aload_n X 1183 1 dL_law_1182 rfl rfl ?_
  refine zr_callSW (kc' := kc - 2) (ks' := ks - 12) X 1186 4 (m_W_left l hlt Γ (q := p0) (z := p1) hS (by omega) (by omega) hO) gL_law_L_left rfl (by decide +kernel) rfl (by decide) rfl (Nat.le_of_ble_eq_true rfl) dL_law_1183 rfl (by omega) (by omega) (fun rv1 V1 hp => ?_)
  obtain ⟨k1, y1, σ1, hr1, hk1, hS1, hf1, hO1, h1, hR1⟩ := hp
  rw [hr1]
  have hM1 := hM.kept hf1 (fun t a1 a2 => a1)
  show zG C V1 (kc - 2) (ks - 12) 1186 [(4, .int (zI (i))), (3, .ref o), (2, .ref (c 60)), (1, .ref (ad 1)), (0, .ref b)] [.int (zI (k1))]
  refine zr_istore X 1188 [(5, .int (zI (k1))), (4, .int (zI (i))), (3, .ref o), (2, .ref (c 60)), (1, .ref (ad 1)), (0, .ref b)] dL_law_1186 rfl (by decide) rfl ?_
  refine zr_aload_n X 1189 3 dL_law_1188 rfl rfl ?_
  refine zr_aload_n X 1190 5 dL_law_1189 rfl rfl ?_
  refine zr_iload X 1192 1 dL_law_1190 rfl rfl ?_
  refine zr_iconst X 1193 dL_law_1192 rfl ?_
  refine zr_iadd X 1194 dL_law_1193 rfl ?_
  refine zr_sld X 1195 hX hbl hB (by omega) dL_law_1194 rfl ?_
  rw [p0e]
  show zG C V1 (kc - 2) (ks - 12) 1195 [(5, .int (zI (k1))), (4, .int (zI (i))), (3, .ref o), (2, .ref (c 60)), (1, .ref (ad 1)), (0, .ref b)] [.int (zI (p0)), .ref (c 60)]
  refine zr_aload_n X 1196 5 dL_law_1195 rfl rfl ?_
  refine zr_iload X 1198 1 dL_law_1196 rfl rfl ?_
  refine zr_iconst X 1199 dL_law_1198 rfl ?_
  refine zr_iadd X 1200 dL_law_1199 rfl ?_
  refine zr_sld X 1201 hX hbl hB (by omega) dL_law_1200 rfl ?_
  rw [p1e]
  show zG C V1 (kc - 2) (ks - 12) 1201 [(5, .int (zI (k1))), (4, .int (zI (i))), (3, .ref o), (2, .ref (c 60)), (1, .ref (ad 1)), (0, .ref b)] [.int (zI (p1)), .int (zI (p0)), .ref (c 60)]
  refine zr_callVe (kc' := (kc - 2) - 0) (ks' := (ks - 12) - 0) X 1204 2 (m_X8_left l Γ (q := p0) (z := p1) hM1 (by omega) (by omega)) gL_law_X8_left rfl (by decide +kernel) rfl (by decide) ⟨_, _, hM1.1⟩ rfl rfl (Nat.le_of_ble_eq_true rfl) dL_law_1201 rfl (by omega) (by omega) (fun rv2 V2 hp => ?_)
  obtain ⟨y2, md2, τ2, κ2, hr2, hM2, hf2, hrel⟩ := hp
  rw [hr2]
  have hS2 := hS1.kept hf2 (fun t a1 a2 a3 => ⟨by omega, a3⟩)
  have hO2 := hO1.kept hf2 ⟨by decide, by decide⟩
  have ha := ag_left hA (by omega) (by omega) hR1 hrel
  show zG C V2 ((kc - 2) - 0) ((ks - 12) - 0) 1204 [(5, .int (zI (k1))), (4, .int (zI (i))), (3, .ref o), (2, .ref (c 60)), (1, .ref (ad 1)), (0, .ref b)] [.int (zI (y2))]
  refine zr_istore X 1206 [(6, .int (zI (y2))), (5, .int (zI (k1))), (4, .int (zI (i))), (3, .ref o), (2, .ref (c 60)), (1, .ref (ad 1)), (0, .ref b)] dL_law_1204 rfl (by decide) rfl ?_
  refine zr_goto X 2004 dL_law_1206 rfl ?_
  refine zr_sub [2, 3, 4, 5, 6] [(4, .int (zI (i))), (3, .ref o), (2, .ref (c 60)), (1, .ref (ad 1)), (0, .ref b)] rfl ?_
  refine zr_room kc' ks' (by omega) (by omega) ?_
  exact kk V2 σ1 md2 τ2 κ2 ⟨hS2, hM2, hO2.out, ha.1⟩ (by omega)
set_option maxRecDepth 100000 in
set_option maxHeartbeats 4000000 in
theorem lc_position {C : zC} {l : Launch} (hlt : l.stackTraces = false) {Γ : zGam} {Post : Option Value → zV → Prop} (X : zK C l Γ 7 RL cL_law wsL_law 20 (some .boolean) Post) {V : zV} {ad c md : Nat → Nat} {σ τ κ : Nat → Int} {E i : Int} {b L o kc ks kc' ks' : Nat} {xs : Nat → Int32} (hX : va_X b L xs C.1.2.2.2.2.1 C.1.2.2.2.2.1.heap) (hbl : b < C.1.2.2.2.2.1.heap.size) (hB : Γ.2.2.2 = C.1.2.2.2.2.1.heap.size) (hi : 0 ≤ i ∧ i ≤ (L : Int) - 7 ∧ L ≤ 448) (hS : zS Γ V ad σ) (hM : zMo Γ V c md τ κ E) (hO : zOut V o) (hA : zA6 σ τ) (hE : E ≤ 3000) (hK : 0 ≤ σ 32 ∧ σ 32 ≤ 1000) (hkc : kc' + 6200 ≤ kc) (hks : ks' + 12800 ≤ ks)
    (kk : ∀ (V' : zV) (σ' : Nat → Int) (md' : Nat → Nat) (τ' κ' : Nat → Int), zLw Γ V' ad c md' σ' τ' κ' (E + 40) o → (σ' 32 = σ 32 ∨ σ' 32 = σ 32 + 1) → zG C V' kc' ks' 2004 [(4, .int (zI i)), (3, .ref o), (2, .ref (c 60)), (1, .ref (ad 1)), (0, .ref b)] []) : zG C V kc ks 1209 [(4, .int (zI i)), (3, .ref o), (2, .ref (c 60)), (1, .ref (ad 1)), (0, .ref b)] [] := by
  show zG C V kc ks 1209 [(4, .int (zI (i))), (3, .ref o), (2, .ref (c 60)), (1, .ref (ad 1)), (0, .ref b)] []
  refine zr_aload_n X 1210 3 dL_law_1209 rfl rfl ?_
  refine zr_aload_n X 1211 4 dL_law_1210 rfl rfl ?_
  refine zr_iload X 1213 0 dL_law_1211 rfl rfl ?_
  refine zr_iconst X 1214 dL_law_1213 rfl ?_
  refine zr_iadd X 1215 dL_law_1214 rfl ?_
  refine zr_sld X 1216 hX hbl hB (by omega) dL_law_1215 rfl ?_
  obtain ⟨p0, p0e, p0r⟩ := zIex (xs (i + 1).toNat)
  rw [p0e]
  show zG C V kc ks 1216 [(4, .int (zI (i))), (3, .ref o), (2, .ref (c 60)), (1, .ref (ad 1)), (0, .ref b)] [.int (zI (p0)), .ref (ad 1)]
  refine zr_aload_n X 1217 1 dL_law_1216 rfl rfl ?_
  refine zr_callSW (kc' := kc - 1) (ks' := ks - 6) X 1220 3 (m_W_position l hlt Γ (q := p0) hS (by omega) hO) gL_law_L_position rfl (by decide +kernel) rfl (by decide) rfl (Nat.le_of_ble_eq_true rfl) dL_law_1217 rfl (by omega) (by omega) (fun rv1 V1 hp => ?_)
  obtain ⟨k1, y1, σ1, hr1, hk1, hS1, hf1, hO1, h1, hR1⟩ := hp
  rw [hr1]
  have hM1 := hM.kept hf1 (fun t a1 a2 => a1)
  show zG C V1 (kc - 1) (ks - 6) 1220 [(4, .int (zI (i))), (3, .ref o), (2, .ref (c 60)), (1, .ref (ad 1)), (0, .ref b)] [.int (zI (k1))]
  refine zr_istore X 1222 [(5, .int (zI (k1))), (4, .int (zI (i))), (3, .ref o), (2, .ref (c 60)), (1, .ref (ad 1)), (0, .ref b)] dL_law_1220 rfl (by decide) rfl ?_
  refine zr_aload_n X 1223 3 dL_law_1222 rfl rfl ?_
  refine zr_aload_n X 1224 5 dL_law_1223 rfl rfl ?_
  refine zr_iload X 1226 1 dL_law_1224 rfl rfl ?_
  refine zr_iconst X 1227 dL_law_1226 rfl ?_
  refine zr_iadd X 1228 dL_law_1227 rfl ?_
  refine zr_sld X 1229 hX hbl hB (by omega) dL_law_1228 rfl ?_
  rw [p0e]
  show zG C V1 (kc - 1) (ks - 6) 1229 [(5, .int (zI (k1))), (4, .int (zI (i))), (3, .ref o), (2, .ref (c 60)), (1, .ref (ad 1)), (0, .ref b)] [.int (zI (p0)), .ref (c 60)]
  refine zr_callVe (kc' := (kc - 1) - 0) (ks' := (ks - 6) - 0) X 1232 1 (m_X8_position l Γ (q := p0) hM1 (by omega)) gL_law_X8_position rfl (by decide +kernel) rfl (by decide) ⟨_, _, hM1.1⟩ rfl rfl (Nat.le_of_ble_eq_true rfl) dL_law_1229 rfl (by omega) (by omega) (fun rv2 V2 hp => ?_)
  obtain ⟨y2, md2, τ2, κ2, hr2, hM2, hf2, hrel⟩ := hp
  rw [hr2]
  have hS2 := hS1.kept hf2 (fun t a1 a2 a3 => ⟨by omega, a3⟩)
  have hO2 := hO1.kept hf2 ⟨by decide, by decide⟩
  have ha := ag_position hA (by omega) hR1 hrel
  show zG C V2 ((kc - 1) - 0) ((ks - 6) - 0) 1232 [(5, .int (zI (k1))), (4, .int (zI (i))), (3, .ref o), (2, .ref (c 60)), (1, .ref (ad 1)), (0, .ref b)] [.int (zI (y2))]
  refine zr_istore X 1234 [(6, .int (zI (y2))), (5, .int (zI (k1))), (4, .int (zI (i))), (3, .ref o), (2, .ref (c 60)), (1, .ref (ad 1)), (0, .ref b)] dL_law_1232 rfl (by decide) rfl ?_
  refine zr_goto X 2004 dL_law_1234 rfl ?_
  refine zr_sub [2, 3, 4, 5, 6] [(4, .int (zI (i))), (3, .ref o), (2, .ref (c 60)), (1, .ref (ad 1)), (0, .ref b)] rfl ?_
  refine zr_room kc' ks' (by omega) (by omega) ?_
  exact kk V2 σ1 md2 τ2 κ2 ⟨hS2, hM2, hO2.out, ha.1⟩ (by omega)
set_option maxRecDepth 100000 in
set_option maxHeartbeats 4000000 in
theorem lc_limit {C : zC} {l : Launch} (hlt : l.stackTraces = false) {Γ : zGam} {Post : Option Value → zV → Prop} (X : zK C l Γ 7 RL cL_law wsL_law 20 (some .boolean) Post) {V : zV} {ad c md : Nat → Nat} {σ τ κ : Nat → Int} {E i : Int} {b L o kc ks kc' ks' : Nat} {xs : Nat → Int32} (hX : va_X b L xs C.1.2.2.2.2.1 C.1.2.2.2.2.1.heap) (hbl : b < C.1.2.2.2.2.1.heap.size) (hB : Γ.2.2.2 = C.1.2.2.2.2.1.heap.size) (hi : 0 ≤ i ∧ i ≤ (L : Int) - 7 ∧ L ≤ 448) (hS : zS Γ V ad σ) (hM : zMo Γ V c md τ κ E) (hO : zOut V o) (hA : zA6 σ τ) (hE : E ≤ 3000) (hK : 0 ≤ σ 32 ∧ σ 32 ≤ 1000) (hkc : kc' + 6200 ≤ kc) (hks : ks' + 12800 ≤ ks)
    (kk : ∀ (V' : zV) (σ' : Nat → Int) (md' : Nat → Nat) (τ' κ' : Nat → Int), zLw Γ V' ad c md' σ' τ' κ' (E + 40) o → (σ' 32 = σ 32 ∨ σ' 32 = σ 32 + 1) → zG C V' kc' ks' 2004 [(4, .int (zI i)), (3, .ref o), (2, .ref (c 60)), (1, .ref (ad 1)), (0, .ref b)] []) : zG C V kc ks 1237 [(4, .int (zI i)), (3, .ref o), (2, .ref (c 60)), (1, .ref (ad 1)), (0, .ref b)] [] := by
  show zG C V kc ks 1237 [(4, .int (zI (i))), (3, .ref o), (2, .ref (c 60)), (1, .ref (ad 1)), (0, .ref b)] []
  refine zr_aload_n X 1238 3 dL_law_1237 rfl rfl ?_
  refine zr_aload_n X 1239 4 dL_law_1238 rfl rfl ?_
  refine zr_iload X 1241 0 dL_law_1239 rfl rfl ?_
  refine zr_iconst X 1242 dL_law_1241 rfl ?_
  refine zr_iadd X 1243 dL_law_1242 rfl ?_
  refine zr_sld X 1244 hX hbl hB (by omega) dL_law_1243 rfl ?_
  obtain ⟨p0, p0e, p0r⟩ := zIex (xs (i + 1).toNat)
  rw [p0e]
  show zG C V kc ks 1244 [(4, .int (zI (i))), (3, .ref o), (2, .ref (c 60)), (1, .ref (ad 1)), (0, .ref b)] [.int (zI (p0)), .ref (ad 1)]
  refine zr_aload_n X 1245 1 dL_law_1244 rfl rfl ?_
  refine zr_callSW (kc' := kc - 1) (ks' := ks - 6) X 1248 3 (m_W_limit l hlt Γ (q := p0) hS (by omega) hO) gL_law_L_limit rfl (by decide +kernel) rfl (by decide) rfl (Nat.le_of_ble_eq_true rfl) dL_law_1245 rfl (by omega) (by omega) (fun rv1 V1 hp => ?_)
  obtain ⟨k1, y1, σ1, hr1, hk1, hS1, hf1, hO1, h1, hR1⟩ := hp
  rw [hr1]
  have hM1 := hM.kept hf1 (fun t a1 a2 => a1)
  show zG C V1 (kc - 1) (ks - 6) 1248 [(4, .int (zI (i))), (3, .ref o), (2, .ref (c 60)), (1, .ref (ad 1)), (0, .ref b)] [.int (zI (k1))]
  refine zr_istore X 1250 [(5, .int (zI (k1))), (4, .int (zI (i))), (3, .ref o), (2, .ref (c 60)), (1, .ref (ad 1)), (0, .ref b)] dL_law_1248 rfl (by decide) rfl ?_
  refine zr_aload_n X 1251 3 dL_law_1250 rfl rfl ?_
  refine zr_aload_n X 1252 5 dL_law_1251 rfl rfl ?_
  refine zr_iload X 1254 1 dL_law_1252 rfl rfl ?_
  refine zr_iconst X 1255 dL_law_1254 rfl ?_
  refine zr_iadd X 1256 dL_law_1255 rfl ?_
  refine zr_sld X 1257 hX hbl hB (by omega) dL_law_1256 rfl ?_
  rw [p0e]
  show zG C V1 (kc - 1) (ks - 6) 1257 [(5, .int (zI (k1))), (4, .int (zI (i))), (3, .ref o), (2, .ref (c 60)), (1, .ref (ad 1)), (0, .ref b)] [.int (zI (p0)), .ref (c 60)]
  refine zr_callVe (kc' := (kc - 1) - 0) (ks' := (ks - 6) - 0) X 1260 1 (m_X8_limit l Γ (q := p0) hM1 (by omega)) gL_law_X8_limit rfl (by decide +kernel) rfl (by decide) ⟨_, _, hM1.1⟩ rfl rfl (Nat.le_of_ble_eq_true rfl) dL_law_1257 rfl (by omega) (by omega) (fun rv2 V2 hp => ?_)
  obtain ⟨y2, md2, τ2, κ2, hr2, hM2, hf2, hrel⟩ := hp
  rw [hr2]
  have hS2 := hS1.kept hf2 (fun t a1 a2 a3 => ⟨by omega, a3⟩)
  have hO2 := hO1.kept hf2 ⟨by decide, by decide⟩
  have ha := ag_limit hA (by omega) hR1 hrel
  show zG C V2 ((kc - 1) - 0) ((ks - 6) - 0) 1260 [(5, .int (zI (k1))), (4, .int (zI (i))), (3, .ref o), (2, .ref (c 60)), (1, .ref (ad 1)), (0, .ref b)] [.int (zI (y2))]
  refine zr_istore X 1262 [(6, .int (zI (y2))), (5, .int (zI (k1))), (4, .int (zI (i))), (3, .ref o), (2, .ref (c 60)), (1, .ref (ad 1)), (0, .ref b)] dL_law_1260 rfl (by decide) rfl ?_
  refine zr_goto X 2004 dL_law_1262 rfl ?_
  refine zr_sub [2, 3, 4, 5, 6] [(4, .int (zI (i))), (3, .ref o), (2, .ref (c 60)), (1, .ref (ad 1)), (0, .ref b)] rfl ?_
  refine zr_room kc' ks' (by omega) (by omega) ?_
  exact kk V2 σ1 md2 τ2 κ2 ⟨hS2, hM2, hO2.out, ha.1⟩ (by omega)
set_option maxRecDepth 100000 in
set_option maxHeartbeats 4000000 in
theorem lc_capacity {C : zC} {l : Launch} (hlt : l.stackTraces = false) {Γ : zGam} {Post : Option Value → zV → Prop} (X : zK C l Γ 7 RL cL_law wsL_law 20 (some .boolean) Post) {V : zV} {ad c md : Nat → Nat} {σ τ κ : Nat → Int} {E i : Int} {b L o kc ks kc' ks' : Nat} {xs : Nat → Int32} (hX : va_X b L xs C.1.2.2.2.2.1 C.1.2.2.2.2.1.heap) (hbl : b < C.1.2.2.2.2.1.heap.size) (hB : Γ.2.2.2 = C.1.2.2.2.2.1.heap.size) (hi : 0 ≤ i ∧ i ≤ (L : Int) - 7 ∧ L ≤ 448) (hS : zS Γ V ad σ) (hM : zMo Γ V c md τ κ E) (hO : zOut V o) (hA : zA6 σ τ) (hE : E ≤ 3000) (hK : 0 ≤ σ 32 ∧ σ 32 ≤ 1000) (hkc : kc' + 6200 ≤ kc) (hks : ks' + 12800 ≤ ks)
    (kk : ∀ (V' : zV) (σ' : Nat → Int) (md' : Nat → Nat) (τ' κ' : Nat → Int), zLw Γ V' ad c md' σ' τ' κ' (E + 40) o → (σ' 32 = σ 32 ∨ σ' 32 = σ 32 + 1) → zG C V' kc' ks' 2004 [(4, .int (zI i)), (3, .ref o), (2, .ref (c 60)), (1, .ref (ad 1)), (0, .ref b)] []) : zG C V kc ks 1265 [(4, .int (zI i)), (3, .ref o), (2, .ref (c 60)), (1, .ref (ad 1)), (0, .ref b)] [] := by
  show zG C V kc ks 1265 [(4, .int (zI (i))), (3, .ref o), (2, .ref (c 60)), (1, .ref (ad 1)), (0, .ref b)] []
  refine zr_aload_n X 1266 3 dL_law_1265 rfl rfl ?_
  refine zr_aload_n X 1267 4 dL_law_1266 rfl rfl ?_
  refine zr_iload X 1269 0 dL_law_1267 rfl rfl ?_
  refine zr_iconst X 1270 dL_law_1269 rfl ?_
  refine zr_iadd X 1271 dL_law_1270 rfl ?_
  refine zr_sld X 1272 hX hbl hB (by omega) dL_law_1271 rfl ?_
  obtain ⟨p0, p0e, p0r⟩ := zIex (xs (i + 1).toNat)
  rw [p0e]
  show zG C V kc ks 1272 [(4, .int (zI (i))), (3, .ref o), (2, .ref (c 60)), (1, .ref (ad 1)), (0, .ref b)] [.int (zI (p0)), .ref (ad 1)]
  refine zr_aload_n X 1273 1 dL_law_1272 rfl rfl ?_
  refine zr_callSW (kc' := kc - 1) (ks' := ks - 6) X 1276 3 (m_W_capacity l hlt Γ (q := p0) hS (by omega) hO) gL_law_L_capacity rfl (by decide +kernel) rfl (by decide) rfl (Nat.le_of_ble_eq_true rfl) dL_law_1273 rfl (by omega) (by omega) (fun rv1 V1 hp => ?_)
  obtain ⟨k1, y1, σ1, hr1, hk1, hS1, hf1, hO1, h1, hR1⟩ := hp
  rw [hr1]
  have hM1 := hM.kept hf1 (fun t a1 a2 => a1)
  show zG C V1 (kc - 1) (ks - 6) 1276 [(4, .int (zI (i))), (3, .ref o), (2, .ref (c 60)), (1, .ref (ad 1)), (0, .ref b)] [.int (zI (k1))]
  refine zr_istore X 1278 [(5, .int (zI (k1))), (4, .int (zI (i))), (3, .ref o), (2, .ref (c 60)), (1, .ref (ad 1)), (0, .ref b)] dL_law_1276 rfl (by decide) rfl ?_
  refine zr_aload_n X 1279 3 dL_law_1278 rfl rfl ?_
  refine zr_aload_n X 1280 5 dL_law_1279 rfl rfl ?_
  refine zr_iload X 1282 1 dL_law_1280 rfl rfl ?_
  refine zr_iconst X 1283 dL_law_1282 rfl ?_
  refine zr_iadd X 1284 dL_law_1283 rfl ?_
  refine zr_sld X 1285 hX hbl hB (by omega) dL_law_1284 rfl ?_
  rw [p0e]
  show zG C V1 (kc - 1) (ks - 6) 1285 [(5, .int (zI (k1))), (4, .int (zI (i))), (3, .ref o), (2, .ref (c 60)), (1, .ref (ad 1)), (0, .ref b)] [.int (zI (p0)), .ref (c 60)]
  refine zr_callVe (kc' := (kc - 1) - 0) (ks' := (ks - 6) - 0) X 1288 1 (m_X8_capacity l Γ (q := p0) hM1 (by omega)) gL_law_X8_capacity rfl (by decide +kernel) rfl (by decide) ⟨_, _, hM1.1⟩ rfl rfl (Nat.le_of_ble_eq_true rfl) dL_law_1285 rfl (by omega) (by omega) (fun rv2 V2 hp => ?_)
  obtain ⟨y2, md2, τ2, κ2, hr2, hM2, hf2, hrel⟩ := hp
  rw [hr2]
  have hS2 := hS1.kept hf2 (fun t a1 a2 a3 => ⟨by omega, a3⟩)
  have hO2 := hO1.kept hf2 ⟨by decide, by decide⟩
  have ha := ag_capacity hA (by omega) hR1 hrel
  show zG C V2 ((kc - 1) - 0) ((ks - 6) - 0) 1288 [(5, .int (zI (k1))), (4, .int (zI (i))), (3, .ref o), (2, .ref (c 60)), (1, .ref (ad 1)), (0, .ref b)] [.int (zI (y2))]
  refine zr_istore X 1290 [(6, .int (zI (y2))), (5, .int (zI (k1))), (4, .int (zI (i))), (3, .ref o), (2, .ref (c 60)), (1, .ref (ad 1)), (0, .ref b)] dL_law_1288 rfl (by decide) rfl ?_
  refine zr_goto X 2004 dL_law_1290 rfl ?_
  refine zr_sub [2, 3, 4, 5, 6] [(4, .int (zI (i))), (3, .ref o), (2, .ref (c 60)), (1, .ref (ad 1)), (0, .ref b)] rfl ?_
  refine zr_room kc' ks' (by omega) (by omega) ?_
  exact kk V2 σ1 md2 τ2 κ2 ⟨hS2, hM2, hO2.out, ha.1⟩ (by omega)
set_option maxRecDepth 100000 in
set_option maxHeartbeats 4000000 in
theorem lc_marked {C : zC} {l : Launch} (hlt : l.stackTraces = false) {Γ : zGam} {Post : Option Value → zV → Prop} (X : zK C l Γ 7 RL cL_law wsL_law 20 (some .boolean) Post) {V : zV} {ad c md : Nat → Nat} {σ τ κ : Nat → Int} {E i : Int} {b L o kc ks kc' ks' : Nat} {xs : Nat → Int32} (hX : va_X b L xs C.1.2.2.2.2.1 C.1.2.2.2.2.1.heap) (hbl : b < C.1.2.2.2.2.1.heap.size) (hB : Γ.2.2.2 = C.1.2.2.2.2.1.heap.size) (hi : 0 ≤ i ∧ i ≤ (L : Int) - 7 ∧ L ≤ 448) (hS : zS Γ V ad σ) (hM : zMo Γ V c md τ κ E) (hO : zOut V o) (hA : zA6 σ τ) (hE : E ≤ 3000) (hK : 0 ≤ σ 32 ∧ σ 32 ≤ 1000) (hkc : kc' + 6200 ≤ kc) (hks : ks' + 12800 ≤ ks)
    (kk : ∀ (V' : zV) (σ' : Nat → Int) (md' : Nat → Nat) (τ' κ' : Nat → Int), zLw Γ V' ad c md' σ' τ' κ' (E + 40) o → (σ' 32 = σ 32 ∨ σ' 32 = σ 32 + 1) → zG C V' kc' ks' 2004 [(4, .int (zI i)), (3, .ref o), (2, .ref (c 60)), (1, .ref (ad 1)), (0, .ref b)] []) : zG C V kc ks 1293 [(4, .int (zI i)), (3, .ref o), (2, .ref (c 60)), (1, .ref (ad 1)), (0, .ref b)] [] := by
  show zG C V kc ks 1293 [(4, .int (zI (i))), (3, .ref o), (2, .ref (c 60)), (1, .ref (ad 1)), (0, .ref b)] []
  refine zr_aload_n X 1294 3 dL_law_1293 rfl rfl ?_
  refine zr_aload_n X 1295 4 dL_law_1294 rfl rfl ?_
  refine zr_iload X 1297 0 dL_law_1295 rfl rfl ?_
  refine zr_iconst X 1298 dL_law_1297 rfl ?_
  refine zr_iadd X 1299 dL_law_1298 rfl ?_
  refine zr_sld X 1300 hX hbl hB (by omega) dL_law_1299 rfl ?_
  obtain ⟨p0, p0e, p0r⟩ := zIex (xs (i + 1).toNat)
  rw [p0e]
  show zG C V kc ks 1300 [(4, .int (zI (i))), (3, .ref o), (2, .ref (c 60)), (1, .ref (ad 1)), (0, .ref b)] [.int (zI (p0)), .ref (ad 1)]
  refine zr_aload_n X 1301 1 dL_law_1300 rfl rfl ?_
  refine zr_callSW (kc' := kc - 1) (ks' := ks - 6) X 1304 3 (m_W_marked l hlt Γ (q := p0) hS (by omega) hO) gL_law_L_marked rfl (by decide +kernel) rfl (by decide) rfl (Nat.le_of_ble_eq_true rfl) dL_law_1301 rfl (by omega) (by omega) (fun rv1 V1 hp => ?_)
  obtain ⟨k1, y1, σ1, hr1, hk1, hS1, hf1, hO1, h1, hR1⟩ := hp
  rw [hr1]
  have hM1 := hM.kept hf1 (fun t a1 a2 => a1)
  show zG C V1 (kc - 1) (ks - 6) 1304 [(4, .int (zI (i))), (3, .ref o), (2, .ref (c 60)), (1, .ref (ad 1)), (0, .ref b)] [.int (zI (k1))]
  refine zr_istore X 1306 [(5, .int (zI (k1))), (4, .int (zI (i))), (3, .ref o), (2, .ref (c 60)), (1, .ref (ad 1)), (0, .ref b)] dL_law_1304 rfl (by decide) rfl ?_
  refine zr_aload_n X 1307 3 dL_law_1306 rfl rfl ?_
  refine zr_aload_n X 1308 5 dL_law_1307 rfl rfl ?_
  refine zr_iload X 1310 1 dL_law_1308 rfl rfl ?_
  refine zr_iconst X 1311 dL_law_1310 rfl ?_
  refine zr_iadd X 1312 dL_law_1311 rfl ?_
  refine zr_sld X 1313 hX hbl hB (by omega) dL_law_1312 rfl ?_
  rw [p0e]
  show zG C V1 (kc - 1) (ks - 6) 1313 [(5, .int (zI (k1))), (4, .int (zI (i))), (3, .ref o), (2, .ref (c 60)), (1, .ref (ad 1)), (0, .ref b)] [.int (zI (p0)), .ref (c 60)]
  refine zr_callVe (kc' := (kc - 1) - 0) (ks' := (ks - 6) - 0) X 1316 1 (m_X8_marked l Γ (q := p0) hM1 (by omega)) gL_law_X8_marked rfl (by decide +kernel) rfl (by decide) ⟨_, _, hM1.1⟩ rfl rfl (Nat.le_of_ble_eq_true rfl) dL_law_1313 rfl (by omega) (by omega) (fun rv2 V2 hp => ?_)
  obtain ⟨y2, md2, τ2, κ2, hr2, hM2, hf2, hrel⟩ := hp
  rw [hr2]
  have hS2 := hS1.kept hf2 (fun t a1 a2 a3 => ⟨by omega, a3⟩)
  have hO2 := hO1.kept hf2 ⟨by decide, by decide⟩
  have ha := ag_marked hA (by omega) hR1 hrel
  show zG C V2 ((kc - 1) - 0) ((ks - 6) - 0) 1316 [(5, .int (zI (k1))), (4, .int (zI (i))), (3, .ref o), (2, .ref (c 60)), (1, .ref (ad 1)), (0, .ref b)] [.int (zI (y2))]
  refine zr_istore X 1318 [(6, .int (zI (y2))), (5, .int (zI (k1))), (4, .int (zI (i))), (3, .ref o), (2, .ref (c 60)), (1, .ref (ad 1)), (0, .ref b)] dL_law_1316 rfl (by decide) rfl ?_
  refine zr_goto X 2004 dL_law_1318 rfl ?_
  refine zr_sub [2, 3, 4, 5, 6] [(4, .int (zI (i))), (3, .ref o), (2, .ref (c 60)), (1, .ref (ad 1)), (0, .ref b)] rfl ?_
  refine zr_room kc' ks' (by omega) (by omega) ?_
  exact kk V2 σ1 md2 τ2 κ2 ⟨hS2, hM2, hO2.out, ha.1⟩ (by omega)
set_option maxRecDepth 100000 in
set_option maxHeartbeats 4000000 in
theorem lc_sign {C : zC} {l : Launch} (hlt : l.stackTraces = false) {Γ : zGam} {Post : Option Value → zV → Prop} (X : zK C l Γ 7 RL cL_law wsL_law 20 (some .boolean) Post) {V : zV} {ad c md : Nat → Nat} {σ τ κ : Nat → Int} {E i : Int} {b L o kc ks kc' ks' : Nat} {xs : Nat → Int32} (hX : va_X b L xs C.1.2.2.2.2.1 C.1.2.2.2.2.1.heap) (hbl : b < C.1.2.2.2.2.1.heap.size) (hB : Γ.2.2.2 = C.1.2.2.2.2.1.heap.size) (hi : 0 ≤ i ∧ i ≤ (L : Int) - 7 ∧ L ≤ 448) (hS : zS Γ V ad σ) (hM : zMo Γ V c md τ κ E) (hO : zOut V o) (hA : zA6 σ τ) (hE : E ≤ 3000) (hK : 0 ≤ σ 32 ∧ σ 32 ≤ 1000) (hkc : kc' + 6200 ≤ kc) (hks : ks' + 12800 ≤ ks)
    (kk : ∀ (V' : zV) (σ' : Nat → Int) (md' : Nat → Nat) (τ' κ' : Nat → Int), zLw Γ V' ad c md' σ' τ' κ' (E + 40) o → (σ' 32 = σ 32 ∨ σ' 32 = σ 32 + 1) → zG C V' kc' ks' 2004 [(4, .int (zI i)), (3, .ref o), (2, .ref (c 60)), (1, .ref (ad 1)), (0, .ref b)] []) : zG C V kc ks 1321 [(4, .int (zI i)), (3, .ref o), (2, .ref (c 60)), (1, .ref (ad 1)), (0, .ref b)] [] := by
  show zG C V kc ks 1321 [(4, .int (zI (i))), (3, .ref o), (2, .ref (c 60)), (1, .ref (ad 1)), (0, .ref b)] []
  refine zr_aload_n X 1322 3 dL_law_1321 rfl rfl ?_
  refine zr_aload_n X 1323 4 dL_law_1322 rfl rfl ?_
  refine zr_iload X 1325 0 dL_law_1323 rfl rfl ?_
  refine zr_iconst X 1326 dL_law_1325 rfl ?_
  refine zr_iadd X 1327 dL_law_1326 rfl ?_
  refine zr_sld X 1328 hX hbl hB (by omega) dL_law_1327 rfl ?_
  obtain ⟨p0, p0e, p0r⟩ := zIex (xs (i + 1).toNat)
  rw [p0e]
  show zG C V kc ks 1328 [(4, .int (zI (i))), (3, .ref o), (2, .ref (c 60)), (1, .ref (ad 1)), (0, .ref b)] [.int (zI (p0)), .ref (ad 1)]
  refine zr_aload_n X 1329 4 dL_law_1328 rfl rfl ?_
  refine zr_iload X 1331 0 dL_law_1329 rfl rfl ?_
  refine zr_iconst X 1332 dL_law_1331 rfl ?_
  refine zr_iadd X 1333 dL_law_1332 rfl ?_
  refine zr_sld X 1334 hX hbl hB (by omega) dL_law_1333 rfl ?_
  obtain ⟨p1, p1e, p1r⟩ := zIex (xs (i + 2).toNat)
  rw [p1e]
  show zG C V kc ks 1334 [(4, .int (zI (i))), (3, .ref o), (2, .ref (c 60)), (1, .ref (ad 1)), (0, .ref b)] [.int (zI (p1)), .int (zI (p0)), .ref (ad 1)]
  refine zr_aload_n X 1335 1 dL_law_1334 rfl rfl ?_
  refine zr_callSW (kc' := kc - 2) (ks' := ks - 12) X 1338 4 (m_W_sign l hlt Γ (q := p0) (z := p1) hS (by omega) (by omega) hO) gL_law_L_sign rfl (by decide +kernel) rfl (by decide) rfl (Nat.le_of_ble_eq_true rfl) dL_law_1335 rfl (by omega) (by omega) (fun rv1 V1 hp => ?_)
  obtain ⟨k1, y1, σ1, hr1, hk1, hS1, hf1, hO1, h1, hR1⟩ := hp
  rw [hr1]
  have hM1 := hM.kept hf1 (fun t a1 a2 => a1)
  show zG C V1 (kc - 2) (ks - 12) 1338 [(4, .int (zI (i))), (3, .ref o), (2, .ref (c 60)), (1, .ref (ad 1)), (0, .ref b)] [.int (zI (k1))]
  refine zr_istore X 1340 [(5, .int (zI (k1))), (4, .int (zI (i))), (3, .ref o), (2, .ref (c 60)), (1, .ref (ad 1)), (0, .ref b)] dL_law_1338 rfl (by decide) rfl ?_
  refine zr_aload_n X 1341 3 dL_law_1340 rfl rfl ?_
  refine zr_aload_n X 1342 5 dL_law_1341 rfl rfl ?_
  refine zr_iload X 1344 1 dL_law_1342 rfl rfl ?_
  refine zr_iconst X 1345 dL_law_1344 rfl ?_
  refine zr_iadd X 1346 dL_law_1345 rfl ?_
  refine zr_sld X 1347 hX hbl hB (by omega) dL_law_1346 rfl ?_
  rw [p0e]
  show zG C V1 (kc - 2) (ks - 12) 1347 [(5, .int (zI (k1))), (4, .int (zI (i))), (3, .ref o), (2, .ref (c 60)), (1, .ref (ad 1)), (0, .ref b)] [.int (zI (p0)), .ref (c 60)]
  refine zr_aload_n X 1348 5 dL_law_1347 rfl rfl ?_
  refine zr_iload X 1350 1 dL_law_1348 rfl rfl ?_
  refine zr_iconst X 1351 dL_law_1350 rfl ?_
  refine zr_iadd X 1352 dL_law_1351 rfl ?_
  refine zr_sld X 1353 hX hbl hB (by omega) dL_law_1352 rfl ?_
  rw [p1e]
  show zG C V1 (kc - 2) (ks - 12) 1353 [(5, .int (zI (k1))), (4, .int (zI (i))), (3, .ref o), (2, .ref (c 60)), (1, .ref (ad 1)), (0, .ref b)] [.int (zI (p1)), .int (zI (p0)), .ref (c 60)]
  refine zr_callVe (kc' := (kc - 2) - 0) (ks' := (ks - 12) - 0) X 1356 2 (m_X8_sign l Γ (q := p0) (z := p1) hM1 (by omega) (by omega)) gL_law_X8_sign rfl (by decide +kernel) rfl (by decide) ⟨_, _, hM1.1⟩ rfl rfl (Nat.le_of_ble_eq_true rfl) dL_law_1353 rfl (by omega) (by omega) (fun rv2 V2 hp => ?_)
  obtain ⟨y2, md2, τ2, κ2, hr2, hM2, hf2, hrel⟩ := hp
  rw [hr2]
  have hS2 := hS1.kept hf2 (fun t a1 a2 a3 => ⟨by omega, a3⟩)
  have hO2 := hO1.kept hf2 ⟨by decide, by decide⟩
  have ha := ag_sign hA (by omega) (by omega) hR1 hrel
  show zG C V2 ((kc - 2) - 0) ((ks - 12) - 0) 1356 [(5, .int (zI (k1))), (4, .int (zI (i))), (3, .ref o), (2, .ref (c 60)), (1, .ref (ad 1)), (0, .ref b)] [.int (zI (y2))]
  refine zr_istore X 1358 [(6, .int (zI (y2))), (5, .int (zI (k1))), (4, .int (zI (i))), (3, .ref o), (2, .ref (c 60)), (1, .ref (ad 1)), (0, .ref b)] dL_law_1356 rfl (by decide) rfl ?_
  refine zr_goto X 2004 dL_law_1358 rfl ?_
  refine zr_sub [2, 3, 4, 5, 6] [(4, .int (zI (i))), (3, .ref o), (2, .ref (c 60)), (1, .ref (ad 1)), (0, .ref b)] rfl ?_
  refine zr_room kc' ks' (by omega) (by omega) ?_
  exact kk V2 σ1 md2 τ2 κ2 ⟨hS2, hM2, hO2.out, ha.1⟩ (by omega)
set_option maxRecDepth 100000 in
set_option maxHeartbeats 4000000 in
theorem lc_look {C : zC} {l : Launch} (hlt : l.stackTraces = false) {Γ : zGam} {Post : Option Value → zV → Prop} (X : zK C l Γ 7 RL cL_law wsL_law 20 (some .boolean) Post) {V : zV} {ad c md : Nat → Nat} {σ τ κ : Nat → Int} {E i : Int} {b L o kc ks kc' ks' : Nat} {xs : Nat → Int32} (hX : va_X b L xs C.1.2.2.2.2.1 C.1.2.2.2.2.1.heap) (hbl : b < C.1.2.2.2.2.1.heap.size) (hB : Γ.2.2.2 = C.1.2.2.2.2.1.heap.size) (hi : 0 ≤ i ∧ i ≤ (L : Int) - 7 ∧ L ≤ 448) (hS : zS Γ V ad σ) (hM : zMo Γ V c md τ κ E) (hO : zOut V o) (hA : zA6 σ τ) (hE : E ≤ 3000) (hK : 0 ≤ σ 32 ∧ σ 32 ≤ 1000) (hkc : kc' + 6200 ≤ kc) (hks : ks' + 12800 ≤ ks)
    (kk : ∀ (V' : zV) (σ' : Nat → Int) (md' : Nat → Nat) (τ' κ' : Nat → Int), zLw Γ V' ad c md' σ' τ' κ' (E + 40) o → (σ' 32 = σ 32 ∨ σ' 32 = σ 32 + 1) → zG C V' kc' ks' 2004 [(4, .int (zI i)), (3, .ref o), (2, .ref (c 60)), (1, .ref (ad 1)), (0, .ref b)] []) : zG C V kc ks 1361 [(4, .int (zI i)), (3, .ref o), (2, .ref (c 60)), (1, .ref (ad 1)), (0, .ref b)] [] := by
  show zG C V kc ks 1361 [(4, .int (zI (i))), (3, .ref o), (2, .ref (c 60)), (1, .ref (ad 1)), (0, .ref b)] []
  refine zr_aload_n X 1362 3 dL_law_1361 rfl rfl ?_
  refine zr_aload_n X 1363 4 dL_law_1362 rfl rfl ?_
  refine zr_iload X 1365 0 dL_law_1363 rfl rfl ?_
  refine zr_iconst X 1366 dL_law_1365 rfl ?_
  refine zr_iadd X 1367 dL_law_1366 rfl ?_
  refine zr_sld X 1368 hX hbl hB (by omega) dL_law_1367 rfl ?_
  obtain ⟨p0, p0e, p0r⟩ := zIex (xs (i + 1).toNat)
  rw [p0e]
  show zG C V kc ks 1368 [(4, .int (zI (i))), (3, .ref o), (2, .ref (c 60)), (1, .ref (ad 1)), (0, .ref b)] [.int (zI (p0)), .ref (ad 1)]
  refine zr_aload_n X 1369 4 dL_law_1368 rfl rfl ?_
  refine zr_iload X 1371 0 dL_law_1369 rfl rfl ?_
  refine zr_iconst X 1372 dL_law_1371 rfl ?_
  refine zr_iadd X 1373 dL_law_1372 rfl ?_
  refine zr_sld X 1374 hX hbl hB (by omega) dL_law_1373 rfl ?_
  obtain ⟨p1, p1e, p1r⟩ := zIex (xs (i + 2).toNat)
  rw [p1e]
  show zG C V kc ks 1374 [(4, .int (zI (i))), (3, .ref o), (2, .ref (c 60)), (1, .ref (ad 1)), (0, .ref b)] [.int (zI (p1)), .int (zI (p0)), .ref (ad 1)]
  refine zr_aload_n X 1375 1 dL_law_1374 rfl rfl ?_
  refine zr_callSW (kc' := kc - 2) (ks' := ks - 12) X 1378 4 (m_W_look l hlt Γ (q := p0) (z := p1) hS (by omega) (by omega) hO) gL_law_L_look rfl (by decide +kernel) rfl (by decide) rfl (Nat.le_of_ble_eq_true rfl) dL_law_1375 rfl (by omega) (by omega) (fun rv1 V1 hp => ?_)
  obtain ⟨k1, y1, σ1, hr1, hk1, hS1, hf1, hO1, h1, hR1⟩ := hp
  rw [hr1]
  have hM1 := hM.kept hf1 (fun t a1 a2 => a1)
  show zG C V1 (kc - 2) (ks - 12) 1378 [(4, .int (zI (i))), (3, .ref o), (2, .ref (c 60)), (1, .ref (ad 1)), (0, .ref b)] [.int (zI (k1))]
  refine zr_istore X 1380 [(5, .int (zI (k1))), (4, .int (zI (i))), (3, .ref o), (2, .ref (c 60)), (1, .ref (ad 1)), (0, .ref b)] dL_law_1378 rfl (by decide) rfl ?_
  refine zr_aload_n X 1381 3 dL_law_1380 rfl rfl ?_
  refine zr_aload_n X 1382 5 dL_law_1381 rfl rfl ?_
  refine zr_iload X 1384 1 dL_law_1382 rfl rfl ?_
  refine zr_iconst X 1385 dL_law_1384 rfl ?_
  refine zr_iadd X 1386 dL_law_1385 rfl ?_
  refine zr_sld X 1387 hX hbl hB (by omega) dL_law_1386 rfl ?_
  rw [p0e]
  show zG C V1 (kc - 2) (ks - 12) 1387 [(5, .int (zI (k1))), (4, .int (zI (i))), (3, .ref o), (2, .ref (c 60)), (1, .ref (ad 1)), (0, .ref b)] [.int (zI (p0)), .ref (c 60)]
  refine zr_aload_n X 1388 5 dL_law_1387 rfl rfl ?_
  refine zr_iload X 1390 1 dL_law_1388 rfl rfl ?_
  refine zr_iconst X 1391 dL_law_1390 rfl ?_
  refine zr_iadd X 1392 dL_law_1391 rfl ?_
  refine zr_sld X 1393 hX hbl hB (by omega) dL_law_1392 rfl ?_
  rw [p1e]
  show zG C V1 (kc - 2) (ks - 12) 1393 [(5, .int (zI (k1))), (4, .int (zI (i))), (3, .ref o), (2, .ref (c 60)), (1, .ref (ad 1)), (0, .ref b)] [.int (zI (p1)), .int (zI (p0)), .ref (c 60)]
  refine zr_callVe (kc' := (kc - 2) - 0) (ks' := (ks - 12) - 0) X 1396 2 (m_X8_look l Γ (q := p0) (z := p1) hM1 (by omega) (by omega)) gL_law_X8_look rfl (by decide +kernel) rfl (by decide) ⟨_, _, hM1.1⟩ rfl rfl (Nat.le_of_ble_eq_true rfl) dL_law_1393 rfl (by omega) (by omega) (fun rv2 V2 hp => ?_)
  obtain ⟨y2, md2, τ2, κ2, hr2, hM2, hf2, hrel⟩ := hp
  rw [hr2]
  have hS2 := hS1.kept hf2 (fun t a1 a2 a3 => ⟨by omega, a3⟩)
  have hO2 := hO1.kept hf2 ⟨by decide, by decide⟩
  have ha := ag_look hA (by omega) (by omega) hR1 hrel
  show zG C V2 ((kc - 2) - 0) ((ks - 12) - 0) 1396 [(5, .int (zI (k1))), (4, .int (zI (i))), (3, .ref o), (2, .ref (c 60)), (1, .ref (ad 1)), (0, .ref b)] [.int (zI (y2))]
  refine zr_istore X 1398 [(6, .int (zI (y2))), (5, .int (zI (k1))), (4, .int (zI (i))), (3, .ref o), (2, .ref (c 60)), (1, .ref (ad 1)), (0, .ref b)] dL_law_1396 rfl (by decide) rfl ?_
  refine zr_goto X 2004 dL_law_1398 rfl ?_
  refine zr_sub [2, 3, 4, 5, 6] [(4, .int (zI (i))), (3, .ref o), (2, .ref (c 60)), (1, .ref (ad 1)), (0, .ref b)] rfl ?_
  refine zr_room kc' ks' (by omega) (by omega) ?_
  exact kk V2 σ1 md2 τ2 κ2 ⟨hS2, hM2, hO2.out, ha.1⟩ (by omega)
set_option maxRecDepth 100000 in
set_option maxHeartbeats 4000000 in
theorem lc_text {C : zC} {l : Launch} (hlt : l.stackTraces = false) {Γ : zGam} {Post : Option Value → zV → Prop} (X : zK C l Γ 7 RL cL_law wsL_law 20 (some .boolean) Post) {V : zV} {ad c md : Nat → Nat} {σ τ κ : Nat → Int} {E i : Int} {b L o kc ks kc' ks' : Nat} {xs : Nat → Int32} (hX : va_X b L xs C.1.2.2.2.2.1 C.1.2.2.2.2.1.heap) (hbl : b < C.1.2.2.2.2.1.heap.size) (hB : Γ.2.2.2 = C.1.2.2.2.2.1.heap.size) (hi : 0 ≤ i ∧ i ≤ (L : Int) - 7 ∧ L ≤ 448) (hS : zS Γ V ad σ) (hM : zMo Γ V c md τ κ E) (hO : zOut V o) (hA : zA6 σ τ) (hE : E ≤ 3000) (hK : 0 ≤ σ 32 ∧ σ 32 ≤ 1000) (hkc : kc' + 6200 ≤ kc) (hks : ks' + 12800 ≤ ks)
    (kk : ∀ (V' : zV) (σ' : Nat → Int) (md' : Nat → Nat) (τ' κ' : Nat → Int), zLw Γ V' ad c md' σ' τ' κ' (E + 40) o → (σ' 32 = σ 32 ∨ σ' 32 = σ 32 + 1) → zG C V' kc' ks' 2004 [(4, .int (zI i)), (3, .ref o), (2, .ref (c 60)), (1, .ref (ad 1)), (0, .ref b)] []) : zG C V kc ks 1401 [(4, .int (zI i)), (3, .ref o), (2, .ref (c 60)), (1, .ref (ad 1)), (0, .ref b)] [] := by
  show zG C V kc ks 1401 [(4, .int (zI (i))), (3, .ref o), (2, .ref (c 60)), (1, .ref (ad 1)), (0, .ref b)] []
  refine zr_aload_n X 1402 3 dL_law_1401 rfl rfl ?_
  refine zr_aload_n X 1403 4 dL_law_1402 rfl rfl ?_
  refine zr_iload X 1405 0 dL_law_1403 rfl rfl ?_
  refine zr_iconst X 1406 dL_law_1405 rfl ?_
  refine zr_iadd X 1407 dL_law_1406 rfl ?_
  refine zr_sld X 1408 hX hbl hB (by omega) dL_law_1407 rfl ?_
  obtain ⟨p0, p0e, p0r⟩ := zIex (xs (i + 1).toNat)
  rw [p0e]
  show zG C V kc ks 1408 [(4, .int (zI (i))), (3, .ref o), (2, .ref (c 60)), (1, .ref (ad 1)), (0, .ref b)] [.int (zI (p0)), .ref (ad 1)]
  refine zr_aload_n X 1409 4 dL_law_1408 rfl rfl ?_
  refine zr_iload X 1411 0 dL_law_1409 rfl rfl ?_
  refine zr_iconst X 1412 dL_law_1411 rfl ?_
  refine zr_iadd X 1413 dL_law_1412 rfl ?_
  refine zr_sld X 1414 hX hbl hB (by omega) dL_law_1413 rfl ?_
  obtain ⟨p1, p1e, p1r⟩ := zIex (xs (i + 2).toNat)
  rw [p1e]
  show zG C V kc ks 1414 [(4, .int (zI (i))), (3, .ref o), (2, .ref (c 60)), (1, .ref (ad 1)), (0, .ref b)] [.int (zI (p1)), .int (zI (p0)), .ref (ad 1)]
  refine zr_aload_n X 1415 1 dL_law_1414 rfl rfl ?_
  refine zr_callSW (kc' := kc - 3012) (ks' := ks - 6312) X 1418 4 (m_W_text l hlt Γ (q := p0) (how := p1) hS (by omega) (by omega) hO) gL_law_L_text rfl (by decide +kernel) rfl (by decide) rfl (Nat.le_of_ble_eq_true rfl) dL_law_1415 rfl (by omega) (by omega) (fun rv1 V1 hp => ?_)
  obtain ⟨k1, y1, σ1, hr1, hk1, hS1, hf1, hO1, h1, hR1⟩ := hp
  rw [hr1]
  have hM1 := hM.kept hf1 (fun t a1 a2 => a1)
  show zG C V1 (kc - 3012) (ks - 6312) 1418 [(4, .int (zI (i))), (3, .ref o), (2, .ref (c 60)), (1, .ref (ad 1)), (0, .ref b)] [.int (zI (k1))]
  refine zr_istore X 1420 [(5, .int (zI (k1))), (4, .int (zI (i))), (3, .ref o), (2, .ref (c 60)), (1, .ref (ad 1)), (0, .ref b)] dL_law_1418 rfl (by decide) rfl ?_
  refine zr_aload_n X 1421 3 dL_law_1420 rfl rfl ?_
  refine zr_aload_n X 1422 5 dL_law_1421 rfl rfl ?_
  refine zr_iload X 1424 1 dL_law_1422 rfl rfl ?_
  refine zr_iconst X 1425 dL_law_1424 rfl ?_
  refine zr_iadd X 1426 dL_law_1425 rfl ?_
  refine zr_sld X 1427 hX hbl hB (by omega) dL_law_1426 rfl ?_
  rw [p0e]
  show zG C V1 (kc - 3012) (ks - 6312) 1427 [(5, .int (zI (k1))), (4, .int (zI (i))), (3, .ref o), (2, .ref (c 60)), (1, .ref (ad 1)), (0, .ref b)] [.int (zI (p0)), .ref (c 60)]
  refine zr_aload_n X 1428 5 dL_law_1427 rfl rfl ?_
  refine zr_iload X 1430 1 dL_law_1428 rfl rfl ?_
  refine zr_iconst X 1431 dL_law_1430 rfl ?_
  refine zr_iadd X 1432 dL_law_1431 rfl ?_
  refine zr_sld X 1433 hX hbl hB (by omega) dL_law_1432 rfl ?_
  rw [p1e]
  show zG C V1 (kc - 3012) (ks - 6312) 1433 [(5, .int (zI (k1))), (4, .int (zI (i))), (3, .ref o), (2, .ref (c 60)), (1, .ref (ad 1)), (0, .ref b)] [.int (zI (p1)), .int (zI (p0)), .ref (c 60)]
  refine zr_callVe (kc' := (kc - 3012) - 3011) (ks' := (ks - 6312) - 6340) X 1436 2 (m_X8_text_ l Γ (q := p0) (z := p1) hM1 (by omega) (by omega)) gL_law_X8_text_ rfl (by decide +kernel) rfl (by decide) ⟨_, _, hM1.1⟩ rfl rfl (Nat.le_of_ble_eq_true rfl) dL_law_1433 rfl (by omega) (by omega) (fun rv2 V2 hp => ?_)
  obtain ⟨y2, md2, τ2, κ2, hr2, hM2, hf2, hrel⟩ := hp
  rw [hr2]
  have hS2 := hS1.kept hf2 (fun t a1 a2 a3 => ⟨by omega, a3⟩)
  have hO2 := hO1.kept hf2 ⟨by decide, by decide⟩
  have ha := ag_text (w := 0) hA (by omega) (by omega) hR1 hrel
  show zG C V2 ((kc - 3012) - 3011) ((ks - 6312) - 6340) 1436 [(5, .int (zI (k1))), (4, .int (zI (i))), (3, .ref o), (2, .ref (c 60)), (1, .ref (ad 1)), (0, .ref b)] [.ref y2]
  refine zr_astore X 1438 [(6, .ref y2), (5, .int (zI (k1))), (4, .int (zI (i))), (3, .ref o), (2, .ref (c 60)), (1, .ref (ad 1)), (0, .ref b)] dL_law_1436 rfl (by decide) rfl ?_
  refine zr_goto X 2004 dL_law_1438 rfl ?_
  refine zr_sub [2, 3, 4, 5, 6] [(4, .int (zI (i))), (3, .ref o), (2, .ref (c 60)), (1, .ref (ad 1)), (0, .ref b)] rfl ?_
  refine zr_room kc' ks' (by omega) (by omega) ?_
  exact kk V2 σ1 md2 τ2 κ2 ⟨hS2, hM2, hO2.out, ha.1⟩ (by omega)
set_option maxRecDepth 100000 in
set_option maxHeartbeats 4000000 in
theorem lc_inner {C : zC} {l : Launch} (hlt : l.stackTraces = false) {Γ : zGam} {Post : Option Value → zV → Prop} (X : zK C l Γ 7 RL cL_law wsL_law 20 (some .boolean) Post) {V : zV} {ad c md : Nat → Nat} {σ τ κ : Nat → Int} {E i : Int} {b L o kc ks kc' ks' : Nat} {xs : Nat → Int32} (hX : va_X b L xs C.1.2.2.2.2.1 C.1.2.2.2.2.1.heap) (hbl : b < C.1.2.2.2.2.1.heap.size) (hB : Γ.2.2.2 = C.1.2.2.2.2.1.heap.size) (hi : 0 ≤ i ∧ i ≤ (L : Int) - 7 ∧ L ≤ 448) (hS : zS Γ V ad σ) (hM : zMo Γ V c md τ κ E) (hO : zOut V o) (hA : zA6 σ τ) (hE : E ≤ 3000) (hK : 0 ≤ σ 32 ∧ σ 32 ≤ 1000) (hkc : kc' + 6200 ≤ kc) (hks : ks' + 12800 ≤ ks)
    (kk : ∀ (V' : zV) (σ' : Nat → Int) (md' : Nat → Nat) (τ' κ' : Nat → Int), zLw Γ V' ad c md' σ' τ' κ' (E + 40) o → (σ' 32 = σ 32 ∨ σ' 32 = σ 32 + 1) → zG C V' kc' ks' 2004 [(4, .int (zI i)), (3, .ref o), (2, .ref (c 60)), (1, .ref (ad 1)), (0, .ref b)] []) : zG C V kc ks 1441 [(4, .int (zI i)), (3, .ref o), (2, .ref (c 60)), (1, .ref (ad 1)), (0, .ref b)] [] := by
  show zG C V kc ks 1441 [(4, .int (zI (i))), (3, .ref o), (2, .ref (c 60)), (1, .ref (ad 1)), (0, .ref b)] []
  refine zr_aload_n X 1442 3 dL_law_1441 rfl rfl ?_
  refine zr_aload_n X 1443 4 dL_law_1442 rfl rfl ?_
  refine zr_iload X 1445 0 dL_law_1443 rfl rfl ?_
  refine zr_iconst X 1446 dL_law_1445 rfl ?_
  refine zr_iadd X 1447 dL_law_1446 rfl ?_
  refine zr_sld X 1448 hX hbl hB (by omega) dL_law_1447 rfl ?_
  obtain ⟨p0, p0e, p0r⟩ := zIex (xs (i + 1).toNat)
  rw [p0e]
  show zG C V kc ks 1448 [(4, .int (zI (i))), (3, .ref o), (2, .ref (c 60)), (1, .ref (ad 1)), (0, .ref b)] [.int (zI (p0)), .ref (ad 1)]
  refine zr_aload_n X 1449 4 dL_law_1448 rfl rfl ?_
  refine zr_iload X 1451 0 dL_law_1449 rfl rfl ?_
  refine zr_iconst X 1452 dL_law_1451 rfl ?_
  refine zr_iadd X 1453 dL_law_1452 rfl ?_
  refine zr_sld X 1454 hX hbl hB (by omega) dL_law_1453 rfl ?_
  obtain ⟨p1, p1e, p1r⟩ := zIex (xs (i + 2).toNat)
  rw [p1e]
  show zG C V kc ks 1454 [(4, .int (zI (i))), (3, .ref o), (2, .ref (c 60)), (1, .ref (ad 1)), (0, .ref b)] [.int (zI (p1)), .int (zI (p0)), .ref (ad 1)]
  refine zr_aload_n X 1455 4 dL_law_1454 rfl rfl ?_
  refine zr_iload X 1457 0 dL_law_1455 rfl rfl ?_
  refine zr_iconst X 1458 dL_law_1457 rfl ?_
  refine zr_iadd X 1459 dL_law_1458 rfl ?_
  refine zr_sld X 1460 hX hbl hB (by omega) dL_law_1459 rfl ?_
  obtain ⟨p2, p2e, p2r⟩ := zIex (xs (i + 3).toNat)
  rw [p2e]
  show zG C V kc ks 1460 [(4, .int (zI (i))), (3, .ref o), (2, .ref (c 60)), (1, .ref (ad 1)), (0, .ref b)] [.int (zI (p2)), .int (zI (p1)), .int (zI (p0)), .ref (ad 1)]
  refine zr_aload_n X 1461 4 dL_law_1460 rfl rfl ?_
  refine zr_iload X 1463 0 dL_law_1461 rfl rfl ?_
  refine zr_iconst X 1464 dL_law_1463 rfl ?_
  refine zr_iadd X 1465 dL_law_1464 rfl ?_
  refine zr_sld X 1466 hX hbl hB (by omega) dL_law_1465 rfl ?_
  obtain ⟨p3, p3e, p3r⟩ := zIex (xs (i + 4).toNat)
  rw [p3e]
  show zG C V kc ks 1466 [(4, .int (zI (i))), (3, .ref o), (2, .ref (c 60)), (1, .ref (ad 1)), (0, .ref b)] [.int (zI (p3)), .int (zI (p2)), .int (zI (p1)), .int (zI (p0)), .ref (ad 1)]
  refine zr_aload_n X 1467 4 dL_law_1466 rfl rfl ?_
  refine zr_iload X 1469 0 dL_law_1467 rfl rfl ?_
  refine zr_iconst X 1470 dL_law_1469 rfl ?_
  refine zr_iadd X 1471 dL_law_1470 rfl ?_
  refine zr_sld X 1472 hX hbl hB (by omega) dL_law_1471 rfl ?_
  obtain ⟨p4, p4e, p4r⟩ := zIex (xs (i + 5).toNat)
  rw [p4e]
  show zG C V kc ks 1472 [(4, .int (zI (i))), (3, .ref o), (2, .ref (c 60)), (1, .ref (ad 1)), (0, .ref b)] [.int (zI (p4)), .int (zI (p3)), .int (zI (p2)), .int (zI (p1)), .int (zI (p0)), .ref (ad 1)]
  refine zr_aload_n X 1473 4 dL_law_1472 rfl rfl ?_
  refine zr_iload X 1475 0 dL_law_1473 rfl rfl ?_
  refine zr_bipush X 1477 (6) dL_law_1475 rfl (by decide) ?_
  refine zr_iadd X 1478 dL_law_1477 rfl ?_
  refine zr_sld X 1479 hX hbl hB (by omega) dL_law_1478 rfl ?_
  obtain ⟨p5, p5e, p5r⟩ := zIex (xs (i + 6).toNat)
  rw [p5e]
  show zG C V kc ks 1479 [(4, .int (zI (i))), (3, .ref o), (2, .ref (c 60)), (1, .ref (ad 1)), (0, .ref b)] [.int (zI (p5)), .int (zI (p4)), .int (zI (p3)), .int (zI (p2)), .int (zI (p1)), .int (zI (p0)), .ref (ad 1)]
  refine zr_aload_n X 1480 1 dL_law_1479 rfl rfl ?_
  refine zr_callSW (kc' := kc - 3013) (ks' := ks - 6318) X 1483 8 (m_W_inner l hlt Γ (q := p0) (a := p1) (b := p2) (c := p3) (e := p4) (how := p5) hS (by omega) (by omega) (by omega) (by omega) (by omega) (by omega) hO) gL_law_L_inner rfl (by decide +kernel) rfl (by decide) rfl (Nat.le_of_ble_eq_true rfl) dL_law_1480 rfl (by omega) (by omega) (fun rv1 V1 hp => ?_)
  obtain ⟨k1, y1, σ1, hr1, hk1, hS1, hf1, hO1, h1, hR1⟩ := hp
  rw [hr1]
  have hM1 := hM.kept hf1 (fun t a1 a2 => a1)
  show zG C V1 (kc - 3013) (ks - 6318) 1483 [(4, .int (zI (i))), (3, .ref o), (2, .ref (c 60)), (1, .ref (ad 1)), (0, .ref b)] [.int (zI (k1))]
  refine zr_istore X 1485 [(5, .int (zI (k1))), (4, .int (zI (i))), (3, .ref o), (2, .ref (c 60)), (1, .ref (ad 1)), (0, .ref b)] dL_law_1483 rfl (by decide) rfl ?_
  refine zr_aload_n X 1486 3 dL_law_1485 rfl rfl ?_
  refine zr_aload_n X 1487 5 dL_law_1486 rfl rfl ?_
  refine zr_iload X 1489 1 dL_law_1487 rfl rfl ?_
  refine zr_iconst X 1490 dL_law_1489 rfl ?_
  refine zr_iadd X 1491 dL_law_1490 rfl ?_
  refine zr_sld X 1492 hX hbl hB (by omega) dL_law_1491 rfl ?_
  rw [p0e]
  show zG C V1 (kc - 3013) (ks - 6318) 1492 [(5, .int (zI (k1))), (4, .int (zI (i))), (3, .ref o), (2, .ref (c 60)), (1, .ref (ad 1)), (0, .ref b)] [.int (zI (p0)), .ref (c 60)]
  refine zr_aload_n X 1493 5 dL_law_1492 rfl rfl ?_
  refine zr_iload X 1495 1 dL_law_1493 rfl rfl ?_
  refine zr_iconst X 1496 dL_law_1495 rfl ?_
  refine zr_iadd X 1497 dL_law_1496 rfl ?_
  refine zr_sld X 1498 hX hbl hB (by omega) dL_law_1497 rfl ?_
  rw [p1e]
  show zG C V1 (kc - 3013) (ks - 6318) 1498 [(5, .int (zI (k1))), (4, .int (zI (i))), (3, .ref o), (2, .ref (c 60)), (1, .ref (ad 1)), (0, .ref b)] [.int (zI (p1)), .int (zI (p0)), .ref (c 60)]
  refine zr_aload_n X 1499 5 dL_law_1498 rfl rfl ?_
  refine zr_iload X 1501 1 dL_law_1499 rfl rfl ?_
  refine zr_iconst X 1502 dL_law_1501 rfl ?_
  refine zr_iadd X 1503 dL_law_1502 rfl ?_
  refine zr_sld X 1504 hX hbl hB (by omega) dL_law_1503 rfl ?_
  rw [p2e]
  show zG C V1 (kc - 3013) (ks - 6318) 1504 [(5, .int (zI (k1))), (4, .int (zI (i))), (3, .ref o), (2, .ref (c 60)), (1, .ref (ad 1)), (0, .ref b)] [.int (zI (p2)), .int (zI (p1)), .int (zI (p0)), .ref (c 60)]
  refine zr_aload_n X 1505 5 dL_law_1504 rfl rfl ?_
  refine zr_iload X 1507 1 dL_law_1505 rfl rfl ?_
  refine zr_iconst X 1508 dL_law_1507 rfl ?_
  refine zr_iadd X 1509 dL_law_1508 rfl ?_
  refine zr_sld X 1510 hX hbl hB (by omega) dL_law_1509 rfl ?_
  rw [p3e]
  show zG C V1 (kc - 3013) (ks - 6318) 1510 [(5, .int (zI (k1))), (4, .int (zI (i))), (3, .ref o), (2, .ref (c 60)), (1, .ref (ad 1)), (0, .ref b)] [.int (zI (p3)), .int (zI (p2)), .int (zI (p1)), .int (zI (p0)), .ref (c 60)]
  refine zr_aload_n X 1511 5 dL_law_1510 rfl rfl ?_
  refine zr_iload X 1513 1 dL_law_1511 rfl rfl ?_
  refine zr_iconst X 1514 dL_law_1513 rfl ?_
  refine zr_iadd X 1515 dL_law_1514 rfl ?_
  refine zr_sld X 1516 hX hbl hB (by omega) dL_law_1515 rfl ?_
  rw [p4e]
  show zG C V1 (kc - 3013) (ks - 6318) 1516 [(5, .int (zI (k1))), (4, .int (zI (i))), (3, .ref o), (2, .ref (c 60)), (1, .ref (ad 1)), (0, .ref b)] [.int (zI (p4)), .int (zI (p3)), .int (zI (p2)), .int (zI (p1)), .int (zI (p0)), .ref (c 60)]
  refine zr_aload_n X 1517 5 dL_law_1516 rfl rfl ?_
  refine zr_iload X 1519 1 dL_law_1517 rfl rfl ?_
  refine zr_bipush X 1521 (6) dL_law_1519 rfl (by decide) ?_
  refine zr_iadd X 1522 dL_law_1521 rfl ?_
  refine zr_sld X 1523 hX hbl hB (by omega) dL_law_1522 rfl ?_
  rw [p5e]
  show zG C V1 (kc - 3013) (ks - 6318) 1523 [(5, .int (zI (k1))), (4, .int (zI (i))), (3, .ref o), (2, .ref (c 60)), (1, .ref (ad 1)), (0, .ref b)] [.int (zI (p5)), .int (zI (p4)), .int (zI (p3)), .int (zI (p2)), .int (zI (p1)), .int (zI (p0)), .ref (c 60)]
  refine zr_callVe (kc' := (kc - 3013) - 3011) (ks' := (ks - 6318) - 6340) X 1526 6 (m_X8_inner l Γ (q := p0) (a := p1) (b := p2) (p := p3) (e := p4) (how := p5) hM1 (by omega) (by omega) (by omega) (by omega) (by omega) (by omega)) gL_law_X8_inner rfl (by decide +kernel) rfl (by decide) ⟨_, _, hM1.1⟩ rfl rfl (Nat.le_of_ble_eq_true rfl) dL_law_1523 rfl (by omega) (by omega) (fun rv2 V2 hp => ?_)
  obtain ⟨y2, md2, τ2, κ2, hr2, hM2, hf2, hrel⟩ := hp
  rw [hr2]
  have hS2 := hS1.kept hf2 (fun t a1 a2 a3 => ⟨by omega, a3⟩)
  have hO2 := hO1.kept hf2 ⟨by decide, by decide⟩
  have ha := ag_inner (w := 0) hA (by omega) (by omega) (by omega) (by omega) (by omega) (by omega) hR1 hrel
  show zG C V2 ((kc - 3013) - 3011) ((ks - 6318) - 6340) 1526 [(5, .int (zI (k1))), (4, .int (zI (i))), (3, .ref o), (2, .ref (c 60)), (1, .ref (ad 1)), (0, .ref b)] [.ref y2]
  refine zr_astore X 1528 [(6, .ref y2), (5, .int (zI (k1))), (4, .int (zI (i))), (3, .ref o), (2, .ref (c 60)), (1, .ref (ad 1)), (0, .ref b)] dL_law_1526 rfl (by decide) rfl ?_
  refine zr_goto X 2004 dL_law_1528 rfl ?_
  refine zr_sub [2, 3, 4, 5, 6] [(4, .int (zI (i))), (3, .ref o), (2, .ref (c 60)), (1, .ref (ad 1)), (0, .ref b)] rfl ?_
  refine zr_room kc' ks' (by omega) (by omega) ?_
  exact kk V2 σ1 md2 τ2 κ2 ⟨hS2, hM2, hO2.out, ha.1⟩ (by omega)
set_option maxRecDepth 100000 in
set_option maxHeartbeats 4000000 in
theorem lc_first {C : zC} {l : Launch} (hlt : l.stackTraces = false) {Γ : zGam} {Post : Option Value → zV → Prop} (X : zK C l Γ 7 RL cL_law wsL_law 20 (some .boolean) Post) {V : zV} {ad c md : Nat → Nat} {σ τ κ : Nat → Int} {E i : Int} {b L o kc ks kc' ks' : Nat} {xs : Nat → Int32} (hX : va_X b L xs C.1.2.2.2.2.1 C.1.2.2.2.2.1.heap) (hbl : b < C.1.2.2.2.2.1.heap.size) (hB : Γ.2.2.2 = C.1.2.2.2.2.1.heap.size) (hi : 0 ≤ i ∧ i ≤ (L : Int) - 7 ∧ L ≤ 448) (hS : zS Γ V ad σ) (hM : zMo Γ V c md τ κ E) (hO : zOut V o) (hA : zA6 σ τ) (hE : E ≤ 3000) (hK : 0 ≤ σ 32 ∧ σ 32 ≤ 1000) (hkc : kc' + 6200 ≤ kc) (hks : ks' + 12800 ≤ ks)
    (kk : ∀ (V' : zV) (σ' : Nat → Int) (md' : Nat → Nat) (τ' κ' : Nat → Int), zLw Γ V' ad c md' σ' τ' κ' (E + 40) o → (σ' 32 = σ 32 ∨ σ' 32 = σ 32 + 1) → zG C V' kc' ks' 2004 [(4, .int (zI i)), (3, .ref o), (2, .ref (c 60)), (1, .ref (ad 1)), (0, .ref b)] []) : zG C V kc ks 1531 [(4, .int (zI i)), (3, .ref o), (2, .ref (c 60)), (1, .ref (ad 1)), (0, .ref b)] [] := by
  show zG C V kc ks 1531 [(4, .int (zI (i))), (3, .ref o), (2, .ref (c 60)), (1, .ref (ad 1)), (0, .ref b)] []
  refine zr_aload_n X 1532 3 dL_law_1531 rfl rfl ?_
  refine zr_aload_n X 1533 4 dL_law_1532 rfl rfl ?_
  refine zr_iload X 1535 0 dL_law_1533 rfl rfl ?_
  refine zr_iconst X 1536 dL_law_1535 rfl ?_
  refine zr_iadd X 1537 dL_law_1536 rfl ?_
  refine zr_sld X 1538 hX hbl hB (by omega) dL_law_1537 rfl ?_
  obtain ⟨p0, p0e, p0r⟩ := zIex (xs (i + 1).toNat)
  rw [p0e]
  show zG C V kc ks 1538 [(4, .int (zI (i))), (3, .ref o), (2, .ref (c 60)), (1, .ref (ad 1)), (0, .ref b)] [.int (zI (p0)), .ref (ad 1)]
  refine zr_aload_n X 1539 4 dL_law_1538 rfl rfl ?_
  refine zr_iload X 1541 0 dL_law_1539 rfl rfl ?_
  refine zr_iconst X 1542 dL_law_1541 rfl ?_
  refine zr_iadd X 1543 dL_law_1542 rfl ?_
  refine zr_sld X 1544 hX hbl hB (by omega) dL_law_1543 rfl ?_
  obtain ⟨p1, p1e, p1r⟩ := zIex (xs (i + 2).toNat)
  rw [p1e]
  show zG C V kc ks 1544 [(4, .int (zI (i))), (3, .ref o), (2, .ref (c 60)), (1, .ref (ad 1)), (0, .ref b)] [.int (zI (p1)), .int (zI (p0)), .ref (ad 1)]
  refine zr_aload_n X 1545 1 dL_law_1544 rfl rfl ?_
  refine zr_callSW (kc' := kc - 2) (ks' := ks - 12) X 1548 4 (m_W_first l hlt Γ (q := p0) (q2 := p1) hS (by omega) (by omega) hO) gL_law_L_first rfl (by decide +kernel) rfl (by decide) rfl (Nat.le_of_ble_eq_true rfl) dL_law_1545 rfl (by omega) (by omega) (fun rv1 V1 hp => ?_)
  obtain ⟨k1, y1, σ1, hr1, hk1, hS1, hf1, hO1, h1, hR1⟩ := hp
  rw [hr1]
  have hM1 := hM.kept hf1 (fun t a1 a2 => a1)
  show zG C V1 (kc - 2) (ks - 12) 1548 [(4, .int (zI (i))), (3, .ref o), (2, .ref (c 60)), (1, .ref (ad 1)), (0, .ref b)] [.int (zI (k1))]
  refine zr_istore X 1550 [(5, .int (zI (k1))), (4, .int (zI (i))), (3, .ref o), (2, .ref (c 60)), (1, .ref (ad 1)), (0, .ref b)] dL_law_1548 rfl (by decide) rfl ?_
  refine zr_aload_n X 1551 3 dL_law_1550 rfl rfl ?_
  refine zr_aload_n X 1552 5 dL_law_1551 rfl rfl ?_
  refine zr_iload X 1554 1 dL_law_1552 rfl rfl ?_
  refine zr_iconst X 1555 dL_law_1554 rfl ?_
  refine zr_iadd X 1556 dL_law_1555 rfl ?_
  refine zr_sld X 1557 hX hbl hB (by omega) dL_law_1556 rfl ?_
  rw [p0e]
  show zG C V1 (kc - 2) (ks - 12) 1557 [(5, .int (zI (k1))), (4, .int (zI (i))), (3, .ref o), (2, .ref (c 60)), (1, .ref (ad 1)), (0, .ref b)] [.int (zI (p0)), .ref (c 60)]
  refine zr_aload_n X 1558 5 dL_law_1557 rfl rfl ?_
  refine zr_iload X 1560 1 dL_law_1558 rfl rfl ?_
  refine zr_iconst X 1561 dL_law_1560 rfl ?_
  refine zr_iadd X 1562 dL_law_1561 rfl ?_
  refine zr_sld X 1563 hX hbl hB (by omega) dL_law_1562 rfl ?_
  rw [p1e]
  show zG C V1 (kc - 2) (ks - 12) 1563 [(5, .int (zI (k1))), (4, .int (zI (i))), (3, .ref o), (2, .ref (c 60)), (1, .ref (ad 1)), (0, .ref b)] [.int (zI (p1)), .int (zI (p0)), .ref (c 60)]
  refine zr_callVe (kc' := (kc - 2) - 2) (ks' := (ks - 12) - 80) X 1566 2 (m_X8_first l Γ (q := p0) (q2 := p1) hM1 (by omega) (by omega)) gL_law_X8_first rfl (by decide +kernel) rfl (by decide) ⟨_, _, hM1.1⟩ rfl rfl (Nat.le_of_ble_eq_true rfl) dL_law_1563 rfl (by omega) (by omega) (fun rv2 V2 hp => ?_)
  obtain ⟨y2, md2, τ2, κ2, hr2, hM2, hf2, hrel⟩ := hp
  rw [hr2]
  have hS2 := hS1.kept hf2 (fun t a1 a2 a3 => ⟨by omega, a3⟩)
  have hO2 := hO1.kept hf2 ⟨by decide, by decide⟩
  have ha := ag_first hA (by omega) (by omega) hR1 hrel
  show zG C V2 ((kc - 2) - 2) ((ks - 12) - 80) 1566 [(5, .int (zI (k1))), (4, .int (zI (i))), (3, .ref o), (2, .ref (c 60)), (1, .ref (ad 1)), (0, .ref b)] [.int (zI (y2))]
  refine zr_istore X 1568 [(6, .int (zI (y2))), (5, .int (zI (k1))), (4, .int (zI (i))), (3, .ref o), (2, .ref (c 60)), (1, .ref (ad 1)), (0, .ref b)] dL_law_1566 rfl (by decide) rfl ?_
  refine zr_goto X 2004 dL_law_1568 rfl ?_
  refine zr_sub [2, 3, 4, 5, 6] [(4, .int (zI (i))), (3, .ref o), (2, .ref (c 60)), (1, .ref (ad 1)), (0, .ref b)] rfl ?_
  refine zr_room kc' ks' (by omega) (by omega) ?_
  exact kk V2 σ1 md2 τ2 κ2 ⟨hS2, hM2, hO2.out, ha.1⟩ (by omega)
set_option maxRecDepth 100000 in
set_option maxHeartbeats 4000000 in
theorem lc_last {C : zC} {l : Launch} (hlt : l.stackTraces = false) {Γ : zGam} {Post : Option Value → zV → Prop} (X : zK C l Γ 7 RL cL_law wsL_law 20 (some .boolean) Post) {V : zV} {ad c md : Nat → Nat} {σ τ κ : Nat → Int} {E i : Int} {b L o kc ks kc' ks' : Nat} {xs : Nat → Int32} (hX : va_X b L xs C.1.2.2.2.2.1 C.1.2.2.2.2.1.heap) (hbl : b < C.1.2.2.2.2.1.heap.size) (hB : Γ.2.2.2 = C.1.2.2.2.2.1.heap.size) (hi : 0 ≤ i ∧ i ≤ (L : Int) - 7 ∧ L ≤ 448) (hS : zS Γ V ad σ) (hM : zMo Γ V c md τ κ E) (hO : zOut V o) (hA : zA6 σ τ) (hE : E ≤ 3000) (hK : 0 ≤ σ 32 ∧ σ 32 ≤ 1000) (hkc : kc' + 6200 ≤ kc) (hks : ks' + 12800 ≤ ks)
    (kk : ∀ (V' : zV) (σ' : Nat → Int) (md' : Nat → Nat) (τ' κ' : Nat → Int), zLw Γ V' ad c md' σ' τ' κ' (E + 40) o → (σ' 32 = σ 32 ∨ σ' 32 = σ 32 + 1) → zG C V' kc' ks' 2004 [(4, .int (zI i)), (3, .ref o), (2, .ref (c 60)), (1, .ref (ad 1)), (0, .ref b)] []) : zG C V kc ks 1571 [(4, .int (zI i)), (3, .ref o), (2, .ref (c 60)), (1, .ref (ad 1)), (0, .ref b)] [] := by
  show zG C V kc ks 1571 [(4, .int (zI (i))), (3, .ref o), (2, .ref (c 60)), (1, .ref (ad 1)), (0, .ref b)] []
  refine zr_aload_n X 1572 3 dL_law_1571 rfl rfl ?_
  refine zr_aload_n X 1573 4 dL_law_1572 rfl rfl ?_
  refine zr_iload X 1575 0 dL_law_1573 rfl rfl ?_
  refine zr_iconst X 1576 dL_law_1575 rfl ?_
  refine zr_iadd X 1577 dL_law_1576 rfl ?_
  refine zr_sld X 1578 hX hbl hB (by omega) dL_law_1577 rfl ?_
  obtain ⟨p0, p0e, p0r⟩ := zIex (xs (i + 1).toNat)
  rw [p0e]
  show zG C V kc ks 1578 [(4, .int (zI (i))), (3, .ref o), (2, .ref (c 60)), (1, .ref (ad 1)), (0, .ref b)] [.int (zI (p0)), .ref (ad 1)]
  refine zr_aload_n X 1579 4 dL_law_1578 rfl rfl ?_
  refine zr_iload X 1581 0 dL_law_1579 rfl rfl ?_
  refine zr_iconst X 1582 dL_law_1581 rfl ?_
  refine zr_iadd X 1583 dL_law_1582 rfl ?_
  refine zr_sld X 1584 hX hbl hB (by omega) dL_law_1583 rfl ?_
  obtain ⟨p1, p1e, p1r⟩ := zIex (xs (i + 2).toNat)
  rw [p1e]
  show zG C V kc ks 1584 [(4, .int (zI (i))), (3, .ref o), (2, .ref (c 60)), (1, .ref (ad 1)), (0, .ref b)] [.int (zI (p1)), .int (zI (p0)), .ref (ad 1)]
  refine zr_aload_n X 1585 1 dL_law_1584 rfl rfl ?_
  refine zr_callSW (kc' := kc - 2) (ks' := ks - 12) X 1588 4 (m_W_last l hlt Γ (q := p0) (q2 := p1) hS (by omega) (by omega) hO) gL_law_L_last rfl (by decide +kernel) rfl (by decide) rfl (Nat.le_of_ble_eq_true rfl) dL_law_1585 rfl (by omega) (by omega) (fun rv1 V1 hp => ?_)
  obtain ⟨k1, y1, σ1, hr1, hk1, hS1, hf1, hO1, h1, hR1⟩ := hp
  rw [hr1]
  have hM1 := hM.kept hf1 (fun t a1 a2 => a1)
  show zG C V1 (kc - 2) (ks - 12) 1588 [(4, .int (zI (i))), (3, .ref o), (2, .ref (c 60)), (1, .ref (ad 1)), (0, .ref b)] [.int (zI (k1))]
  refine zr_istore X 1590 [(5, .int (zI (k1))), (4, .int (zI (i))), (3, .ref o), (2, .ref (c 60)), (1, .ref (ad 1)), (0, .ref b)] dL_law_1588 rfl (by decide) rfl ?_
  refine zr_aload_n X 1591 3 dL_law_1590 rfl rfl ?_
  refine zr_aload_n X 1592 5 dL_law_1591 rfl rfl ?_
  refine zr_iload X 1594 1 dL_law_1592 rfl rfl ?_
  refine zr_iconst X 1595 dL_law_1594 rfl ?_
  refine zr_iadd X 1596 dL_law_1595 rfl ?_
  refine zr_sld X 1597 hX hbl hB (by omega) dL_law_1596 rfl ?_
  rw [p0e]
  show zG C V1 (kc - 2) (ks - 12) 1597 [(5, .int (zI (k1))), (4, .int (zI (i))), (3, .ref o), (2, .ref (c 60)), (1, .ref (ad 1)), (0, .ref b)] [.int (zI (p0)), .ref (c 60)]
  refine zr_aload_n X 1598 5 dL_law_1597 rfl rfl ?_
  refine zr_iload X 1600 1 dL_law_1598 rfl rfl ?_
  refine zr_iconst X 1601 dL_law_1600 rfl ?_
  refine zr_iadd X 1602 dL_law_1601 rfl ?_
  refine zr_sld X 1603 hX hbl hB (by omega) dL_law_1602 rfl ?_
  rw [p1e]
  show zG C V1 (kc - 2) (ks - 12) 1603 [(5, .int (zI (k1))), (4, .int (zI (i))), (3, .ref o), (2, .ref (c 60)), (1, .ref (ad 1)), (0, .ref b)] [.int (zI (p1)), .int (zI (p0)), .ref (c 60)]
  refine zr_callVe (kc' := (kc - 2) - 2) (ks' := (ks - 12) - 80) X 1606 2 (m_X8_last l Γ (q := p0) (q2 := p1) hM1 (by omega) (by omega)) gL_law_X8_last rfl (by decide +kernel) rfl (by decide) ⟨_, _, hM1.1⟩ rfl rfl (Nat.le_of_ble_eq_true rfl) dL_law_1603 rfl (by omega) (by omega) (fun rv2 V2 hp => ?_)
  obtain ⟨y2, md2, τ2, κ2, hr2, hM2, hf2, hrel⟩ := hp
  rw [hr2]
  have hS2 := hS1.kept hf2 (fun t a1 a2 a3 => ⟨by omega, a3⟩)
  have hO2 := hO1.kept hf2 ⟨by decide, by decide⟩
  have ha := ag_last hA (by omega) (by omega) hR1 hrel
  show zG C V2 ((kc - 2) - 2) ((ks - 12) - 80) 1606 [(5, .int (zI (k1))), (4, .int (zI (i))), (3, .ref o), (2, .ref (c 60)), (1, .ref (ad 1)), (0, .ref b)] [.int (zI (y2))]
  refine zr_istore X 1608 [(6, .int (zI (y2))), (5, .int (zI (k1))), (4, .int (zI (i))), (3, .ref o), (2, .ref (c 60)), (1, .ref (ad 1)), (0, .ref b)] dL_law_1606 rfl (by decide) rfl ?_
  refine zr_goto X 2004 dL_law_1608 rfl ?_
  refine zr_sub [2, 3, 4, 5, 6] [(4, .int (zI (i))), (3, .ref o), (2, .ref (c 60)), (1, .ref (ad 1)), (0, .ref b)] rfl ?_
  refine zr_room kc' ks' (by omega) (by omega) ?_
  exact kk V2 σ1 md2 τ2 κ2 ⟨hS2, hM2, hO2.out, ha.1⟩ (by omega)
set_option maxRecDepth 100000 in
set_option maxHeartbeats 4000000 in
theorem lc_count {C : zC} {l : Launch} (hlt : l.stackTraces = false) {Γ : zGam} {Post : Option Value → zV → Prop} (X : zK C l Γ 7 RL cL_law wsL_law 20 (some .boolean) Post) {V : zV} {ad c md : Nat → Nat} {σ τ κ : Nat → Int} {E i : Int} {b L o kc ks kc' ks' : Nat} {xs : Nat → Int32} (hX : va_X b L xs C.1.2.2.2.2.1 C.1.2.2.2.2.1.heap) (hbl : b < C.1.2.2.2.2.1.heap.size) (hB : Γ.2.2.2 = C.1.2.2.2.2.1.heap.size) (hi : 0 ≤ i ∧ i ≤ (L : Int) - 7 ∧ L ≤ 448) (hS : zS Γ V ad σ) (hM : zMo Γ V c md τ κ E) (hO : zOut V o) (hA : zA6 σ τ) (hE : E ≤ 3000) (hK : 0 ≤ σ 32 ∧ σ 32 ≤ 1000) (hkc : kc' + 6200 ≤ kc) (hks : ks' + 12800 ≤ ks)
    (kk : ∀ (V' : zV) (σ' : Nat → Int) (md' : Nat → Nat) (τ' κ' : Nat → Int), zLw Γ V' ad c md' σ' τ' κ' (E + 40) o → (σ' 32 = σ 32 ∨ σ' 32 = σ 32 + 1) → zG C V' kc' ks' 2004 [(4, .int (zI i)), (3, .ref o), (2, .ref (c 60)), (1, .ref (ad 1)), (0, .ref b)] []) : zG C V kc ks 1611 [(4, .int (zI i)), (3, .ref o), (2, .ref (c 60)), (1, .ref (ad 1)), (0, .ref b)] [] := by
  show zG C V kc ks 1611 [(4, .int (zI (i))), (3, .ref o), (2, .ref (c 60)), (1, .ref (ad 1)), (0, .ref b)] []
  refine zr_aload_n X 1612 3 dL_law_1611 rfl rfl ?_
  refine zr_aload_n X 1613 4 dL_law_1612 rfl rfl ?_
  refine zr_iload X 1615 0 dL_law_1613 rfl rfl ?_
  refine zr_iconst X 1616 dL_law_1615 rfl ?_
  refine zr_iadd X 1617 dL_law_1616 rfl ?_
  refine zr_sld X 1618 hX hbl hB (by omega) dL_law_1617 rfl ?_
  obtain ⟨p0, p0e, p0r⟩ := zIex (xs (i + 1).toNat)
  rw [p0e]
  show zG C V kc ks 1618 [(4, .int (zI (i))), (3, .ref o), (2, .ref (c 60)), (1, .ref (ad 1)), (0, .ref b)] [.int (zI (p0)), .ref (ad 1)]
  refine zr_aload_n X 1619 4 dL_law_1618 rfl rfl ?_
  refine zr_iload X 1621 0 dL_law_1619 rfl rfl ?_
  refine zr_iconst X 1622 dL_law_1621 rfl ?_
  refine zr_iadd X 1623 dL_law_1622 rfl ?_
  refine zr_sld X 1624 hX hbl hB (by omega) dL_law_1623 rfl ?_
  obtain ⟨p1, p1e, p1r⟩ := zIex (xs (i + 2).toNat)
  rw [p1e]
  show zG C V kc ks 1624 [(4, .int (zI (i))), (3, .ref o), (2, .ref (c 60)), (1, .ref (ad 1)), (0, .ref b)] [.int (zI (p1)), .int (zI (p0)), .ref (ad 1)]
  refine zr_aload_n X 1625 1 dL_law_1624 rfl rfl ?_
  refine zr_callSW (kc' := kc - 2) (ks' := ks - 12) X 1628 4 (m_W_count l hlt Γ (q := p0) (q2 := p1) hS (by omega) (by omega) hO) gL_law_L_count rfl (by decide +kernel) rfl (by decide) rfl (Nat.le_of_ble_eq_true rfl) dL_law_1625 rfl (by omega) (by omega) (fun rv1 V1 hp => ?_)
  obtain ⟨k1, y1, σ1, hr1, hk1, hS1, hf1, hO1, h1, hR1⟩ := hp
  rw [hr1]
  have hM1 := hM.kept hf1 (fun t a1 a2 => a1)
  show zG C V1 (kc - 2) (ks - 12) 1628 [(4, .int (zI (i))), (3, .ref o), (2, .ref (c 60)), (1, .ref (ad 1)), (0, .ref b)] [.int (zI (k1))]
  refine zr_istore X 1630 [(5, .int (zI (k1))), (4, .int (zI (i))), (3, .ref o), (2, .ref (c 60)), (1, .ref (ad 1)), (0, .ref b)] dL_law_1628 rfl (by decide) rfl ?_
  refine zr_aload_n X 1631 3 dL_law_1630 rfl rfl ?_
  refine zr_aload_n X 1632 5 dL_law_1631 rfl rfl ?_
  refine zr_iload X 1634 1 dL_law_1632 rfl rfl ?_
  refine zr_iconst X 1635 dL_law_1634 rfl ?_
  refine zr_iadd X 1636 dL_law_1635 rfl ?_
  refine zr_sld X 1637 hX hbl hB (by omega) dL_law_1636 rfl ?_
  rw [p0e]
  show zG C V1 (kc - 2) (ks - 12) 1637 [(5, .int (zI (k1))), (4, .int (zI (i))), (3, .ref o), (2, .ref (c 60)), (1, .ref (ad 1)), (0, .ref b)] [.int (zI (p0)), .ref (c 60)]
  refine zr_aload_n X 1638 5 dL_law_1637 rfl rfl ?_
  refine zr_iload X 1640 1 dL_law_1638 rfl rfl ?_
  refine zr_iconst X 1641 dL_law_1640 rfl ?_
  refine zr_iadd X 1642 dL_law_1641 rfl ?_
  refine zr_sld X 1643 hX hbl hB (by omega) dL_law_1642 rfl ?_
  rw [p1e]
  show zG C V1 (kc - 2) (ks - 12) 1643 [(5, .int (zI (k1))), (4, .int (zI (i))), (3, .ref o), (2, .ref (c 60)), (1, .ref (ad 1)), (0, .ref b)] [.int (zI (p1)), .int (zI (p0)), .ref (c 60)]
  refine zr_callVe (kc' := (kc - 2) - 2) (ks' := (ks - 12) - 80) X 1646 2 (m_X8_count l Γ (q := p0) (q2 := p1) hM1 (by omega) (by omega)) gL_law_X8_count rfl (by decide +kernel) rfl (by decide) ⟨_, _, hM1.1⟩ rfl rfl (Nat.le_of_ble_eq_true rfl) dL_law_1643 rfl (by omega) (by omega) (fun rv2 V2 hp => ?_)
  obtain ⟨y2, md2, τ2, κ2, hr2, hM2, hf2, hrel⟩ := hp
  rw [hr2]
  have hS2 := hS1.kept hf2 (fun t a1 a2 a3 => ⟨by omega, a3⟩)
  have hO2 := hO1.kept hf2 ⟨by decide, by decide⟩
  have ha := ag_count hA (by omega) (by omega) hR1 hrel
  show zG C V2 ((kc - 2) - 2) ((ks - 12) - 80) 1646 [(5, .int (zI (k1))), (4, .int (zI (i))), (3, .ref o), (2, .ref (c 60)), (1, .ref (ad 1)), (0, .ref b)] [.int (zI (y2))]
  refine zr_istore X 1648 [(6, .int (zI (y2))), (5, .int (zI (k1))), (4, .int (zI (i))), (3, .ref o), (2, .ref (c 60)), (1, .ref (ad 1)), (0, .ref b)] dL_law_1646 rfl (by decide) rfl ?_
  refine zr_goto X 2004 dL_law_1648 rfl ?_
  refine zr_sub [2, 3, 4, 5, 6] [(4, .int (zI (i))), (3, .ref o), (2, .ref (c 60)), (1, .ref (ad 1)), (0, .ref b)] rfl ?_
  refine zr_room kc' ks' (by omega) (by omega) ?_
  exact kk V2 σ1 md2 τ2 κ2 ⟨hS2, hM2, hO2.out, ha.1⟩ (by omega)
set_option maxRecDepth 100000 in
set_option maxHeartbeats 4000000 in
theorem lc_place {C : zC} {l : Launch} (hlt : l.stackTraces = false) {Γ : zGam} {Post : Option Value → zV → Prop} (X : zK C l Γ 7 RL cL_law wsL_law 20 (some .boolean) Post) {V : zV} {ad c md : Nat → Nat} {σ τ κ : Nat → Int} {E i : Int} {b L o kc ks kc' ks' : Nat} {xs : Nat → Int32} (hX : va_X b L xs C.1.2.2.2.2.1 C.1.2.2.2.2.1.heap) (hbl : b < C.1.2.2.2.2.1.heap.size) (hB : Γ.2.2.2 = C.1.2.2.2.2.1.heap.size) (hi : 0 ≤ i ∧ i ≤ (L : Int) - 7 ∧ L ≤ 448) (hS : zS Γ V ad σ) (hM : zMo Γ V c md τ κ E) (hO : zOut V o) (hA : zA6 σ τ) (hE : E ≤ 3000) (hK : 0 ≤ σ 32 ∧ σ 32 ≤ 1000) (hkc : kc' + 6200 ≤ kc) (hks : ks' + 12800 ≤ ks)
    (kk : ∀ (V' : zV) (σ' : Nat → Int) (md' : Nat → Nat) (τ' κ' : Nat → Int), zLw Γ V' ad c md' σ' τ' κ' (E + 40) o → (σ' 32 = σ 32 ∨ σ' 32 = σ 32 + 1) → zG C V' kc' ks' 2004 [(4, .int (zI i)), (3, .ref o), (2, .ref (c 60)), (1, .ref (ad 1)), (0, .ref b)] []) : zG C V kc ks 1651 [(4, .int (zI i)), (3, .ref o), (2, .ref (c 60)), (1, .ref (ad 1)), (0, .ref b)] [] := by
  show zG C V kc ks 1651 [(4, .int (zI (i))), (3, .ref o), (2, .ref (c 60)), (1, .ref (ad 1)), (0, .ref b)] []
  refine zr_aload_n X 1652 3 dL_law_1651 rfl rfl ?_
  refine zr_aload_n X 1653 4 dL_law_1652 rfl rfl ?_
  refine zr_iload X 1655 0 dL_law_1653 rfl rfl ?_
  refine zr_iconst X 1656 dL_law_1655 rfl ?_
  refine zr_iadd X 1657 dL_law_1656 rfl ?_
  refine zr_sld X 1658 hX hbl hB (by omega) dL_law_1657 rfl ?_
  obtain ⟨p0, p0e, p0r⟩ := zIex (xs (i + 1).toNat)
  rw [p0e]
  show zG C V kc ks 1658 [(4, .int (zI (i))), (3, .ref o), (2, .ref (c 60)), (1, .ref (ad 1)), (0, .ref b)] [.int (zI (p0)), .ref (ad 1)]
  refine zr_aload_n X 1659 4 dL_law_1658 rfl rfl ?_
  refine zr_iload X 1661 0 dL_law_1659 rfl rfl ?_
  refine zr_iconst X 1662 dL_law_1661 rfl ?_
  refine zr_iadd X 1663 dL_law_1662 rfl ?_
  refine zr_sld X 1664 hX hbl hB (by omega) dL_law_1663 rfl ?_
  obtain ⟨p1, p1e, p1r⟩ := zIex (xs (i + 2).toNat)
  rw [p1e]
  show zG C V kc ks 1664 [(4, .int (zI (i))), (3, .ref o), (2, .ref (c 60)), (1, .ref (ad 1)), (0, .ref b)] [.int (zI (p1)), .int (zI (p0)), .ref (ad 1)]
  refine zr_aload_n X 1665 4 dL_law_1664 rfl rfl ?_
  refine zr_iload X 1667 0 dL_law_1665 rfl rfl ?_
  refine zr_iconst X 1668 dL_law_1667 rfl ?_
  refine zr_iadd X 1669 dL_law_1668 rfl ?_
  refine zr_sld X 1670 hX hbl hB (by omega) dL_law_1669 rfl ?_
  obtain ⟨p2, p2e, p2r⟩ := zIex (xs (i + 3).toNat)
  rw [p2e]
  show zG C V kc ks 1670 [(4, .int (zI (i))), (3, .ref o), (2, .ref (c 60)), (1, .ref (ad 1)), (0, .ref b)] [.int (zI (p2)), .int (zI (p1)), .int (zI (p0)), .ref (ad 1)]
  refine zr_aload_n X 1671 1 dL_law_1670 rfl rfl ?_
  refine zr_callSW (kc' := kc - 3) (ks' := ks - 18) X 1674 5 (m_W_place l hlt Γ (q := p0) (q2 := p1) (z := p2) hS (by omega) (by omega) (by omega) hO) gL_law_L_place rfl (by decide +kernel) rfl (by decide) rfl (Nat.le_of_ble_eq_true rfl) dL_law_1671 rfl (by omega) (by omega) (fun rv1 V1 hp => ?_)
  obtain ⟨k1, y1, σ1, hr1, hk1, hS1, hf1, hO1, h1, hR1⟩ := hp
  rw [hr1]
  have hM1 := hM.kept hf1 (fun t a1 a2 => a1)
  show zG C V1 (kc - 3) (ks - 18) 1674 [(4, .int (zI (i))), (3, .ref o), (2, .ref (c 60)), (1, .ref (ad 1)), (0, .ref b)] [.int (zI (k1))]
  refine zr_istore X 1676 [(5, .int (zI (k1))), (4, .int (zI (i))), (3, .ref o), (2, .ref (c 60)), (1, .ref (ad 1)), (0, .ref b)] dL_law_1674 rfl (by decide) rfl ?_
  refine zr_aload_n X 1677 3 dL_law_1676 rfl rfl ?_
  refine zr_aload_n X 1678 5 dL_law_1677 rfl rfl ?_
  refine zr_iload X 1680 1 dL_law_1678 rfl rfl ?_
  refine zr_iconst X 1681 dL_law_1680 rfl ?_
  refine zr_iadd X 1682 dL_law_1681 rfl ?_
  refine zr_sld X 1683 hX hbl hB (by omega) dL_law_1682 rfl ?_
  rw [p0e]
  show zG C V1 (kc - 3) (ks - 18) 1683 [(5, .int (zI (k1))), (4, .int (zI (i))), (3, .ref o), (2, .ref (c 60)), (1, .ref (ad 1)), (0, .ref b)] [.int (zI (p0)), .ref (c 60)]
  refine zr_aload_n X 1684 5 dL_law_1683 rfl rfl ?_
  refine zr_iload X 1686 1 dL_law_1684 rfl rfl ?_
  refine zr_iconst X 1687 dL_law_1686 rfl ?_
  refine zr_iadd X 1688 dL_law_1687 rfl ?_
  refine zr_sld X 1689 hX hbl hB (by omega) dL_law_1688 rfl ?_
  rw [p1e]
  show zG C V1 (kc - 3) (ks - 18) 1689 [(5, .int (zI (k1))), (4, .int (zI (i))), (3, .ref o), (2, .ref (c 60)), (1, .ref (ad 1)), (0, .ref b)] [.int (zI (p1)), .int (zI (p0)), .ref (c 60)]
  refine zr_aload_n X 1690 5 dL_law_1689 rfl rfl ?_
  refine zr_iload X 1692 1 dL_law_1690 rfl rfl ?_
  refine zr_iconst X 1693 dL_law_1692 rfl ?_
  refine zr_iadd X 1694 dL_law_1693 rfl ?_
  refine zr_sld X 1695 hX hbl hB (by omega) dL_law_1694 rfl ?_
  rw [p2e]
  show zG C V1 (kc - 3) (ks - 18) 1695 [(5, .int (zI (k1))), (4, .int (zI (i))), (3, .ref o), (2, .ref (c 60)), (1, .ref (ad 1)), (0, .ref b)] [.int (zI (p2)), .int (zI (p1)), .int (zI (p0)), .ref (c 60)]
  refine zr_callVe (kc' := (kc - 3) - 2) (ks' := (ks - 18) - 80) X 1698 3 (m_X8_place_ l Γ (q := p0) (q2 := p1) (z := p2) hM1 (by omega) (by omega) (by omega)) gL_law_X8_place_ rfl (by decide +kernel) rfl (by decide) ⟨_, _, hM1.1⟩ rfl rfl (Nat.le_of_ble_eq_true rfl) dL_law_1695 rfl (by omega) (by omega) (fun rv2 V2 hp => ?_)
  obtain ⟨y2, md2, τ2, κ2, hr2, hM2, hf2, hrel⟩ := hp
  rw [hr2]
  have hS2 := hS1.kept hf2 (fun t a1 a2 a3 => ⟨by omega, a3⟩)
  have hO2 := hO1.kept hf2 ⟨by decide, by decide⟩
  have ha := ag_place hA (by omega) (by omega) (by omega) hR1 hrel
  show zG C V2 ((kc - 3) - 2) ((ks - 18) - 80) 1698 [(5, .int (zI (k1))), (4, .int (zI (i))), (3, .ref o), (2, .ref (c 60)), (1, .ref (ad 1)), (0, .ref b)] [.int (zI (y2))]
  refine zr_istore X 1700 [(6, .int (zI (y2))), (5, .int (zI (k1))), (4, .int (zI (i))), (3, .ref o), (2, .ref (c 60)), (1, .ref (ad 1)), (0, .ref b)] dL_law_1698 rfl (by decide) rfl ?_
  refine zr_goto X 2004 dL_law_1700 rfl ?_
  refine zr_sub [2, 3, 4, 5, 6] [(4, .int (zI (i))), (3, .ref o), (2, .ref (c 60)), (1, .ref (ad 1)), (0, .ref b)] rfl ?_
  refine zr_room kc' ks' (by omega) (by omega) ?_
  exact kk V2 σ1 md2 τ2 κ2 ⟨hS2, hM2, hO2.out, ha.1⟩ (by omega)
set_option maxRecDepth 100000 in
set_option maxHeartbeats 4000000 in
theorem lc_border {C : zC} {l : Launch} (hlt : l.stackTraces = false) {Γ : zGam} {Post : Option Value → zV → Prop} (X : zK C l Γ 7 RL cL_law wsL_law 20 (some .boolean) Post) {V : zV} {ad c md : Nat → Nat} {σ τ κ : Nat → Int} {E i : Int} {b L o kc ks kc' ks' : Nat} {xs : Nat → Int32} (hX : va_X b L xs C.1.2.2.2.2.1 C.1.2.2.2.2.1.heap) (hbl : b < C.1.2.2.2.2.1.heap.size) (hB : Γ.2.2.2 = C.1.2.2.2.2.1.heap.size) (hi : 0 ≤ i ∧ i ≤ (L : Int) - 7 ∧ L ≤ 448) (hS : zS Γ V ad σ) (hM : zMo Γ V c md τ κ E) (hO : zOut V o) (hA : zA6 σ τ) (hE : E ≤ 3000) (hK : 0 ≤ σ 32 ∧ σ 32 ≤ 1000) (hkc : kc' + 6200 ≤ kc) (hks : ks' + 12800 ≤ ks)
    (kk : ∀ (V' : zV) (σ' : Nat → Int) (md' : Nat → Nat) (τ' κ' : Nat → Int), zLw Γ V' ad c md' σ' τ' κ' (E + 40) o → (σ' 32 = σ 32 ∨ σ' 32 = σ 32 + 1) → zG C V' kc' ks' 2004 [(4, .int (zI i)), (3, .ref o), (2, .ref (c 60)), (1, .ref (ad 1)), (0, .ref b)] []) : zG C V kc ks 1703 [(4, .int (zI i)), (3, .ref o), (2, .ref (c 60)), (1, .ref (ad 1)), (0, .ref b)] [] := by
  show zG C V kc ks 1703 [(4, .int (zI (i))), (3, .ref o), (2, .ref (c 60)), (1, .ref (ad 1)), (0, .ref b)] []
  refine zr_aload_n X 1704 3 dL_law_1703 rfl rfl ?_
  refine zr_aload_n X 1705 4 dL_law_1704 rfl rfl ?_
  refine zr_iload X 1707 0 dL_law_1705 rfl rfl ?_
  refine zr_iconst X 1708 dL_law_1707 rfl ?_
  refine zr_iadd X 1709 dL_law_1708 rfl ?_
  refine zr_sld X 1710 hX hbl hB (by omega) dL_law_1709 rfl ?_
  obtain ⟨p0, p0e, p0r⟩ := zIex (xs (i + 1).toNat)
  rw [p0e]
  show zG C V kc ks 1710 [(4, .int (zI (i))), (3, .ref o), (2, .ref (c 60)), (1, .ref (ad 1)), (0, .ref b)] [.int (zI (p0)), .ref (ad 1)]
  refine zr_aload_n X 1711 1 dL_law_1710 rfl rfl ?_
  refine zr_callSW (kc' := kc - 1) (ks' := ks - 6) X 1714 3 (m_W_border l hlt Γ (q := p0) hS (by omega) hO) gL_law_L_border rfl (by decide +kernel) rfl (by decide) rfl (Nat.le_of_ble_eq_true rfl) dL_law_1711 rfl (by omega) (by omega) (fun rv1 V1 hp => ?_)
  obtain ⟨k1, y1, σ1, hr1, hk1, hS1, hf1, hO1, h1, hR1⟩ := hp
  rw [hr1]
  have hM1 := hM.kept hf1 (fun t a1 a2 => a1)
  show zG C V1 (kc - 1) (ks - 6) 1714 [(4, .int (zI (i))), (3, .ref o), (2, .ref (c 60)), (1, .ref (ad 1)), (0, .ref b)] [.int (zI (k1))]
  refine zr_istore X 1716 [(5, .int (zI (k1))), (4, .int (zI (i))), (3, .ref o), (2, .ref (c 60)), (1, .ref (ad 1)), (0, .ref b)] dL_law_1714 rfl (by decide) rfl ?_
  refine zr_aload_n X 1717 3 dL_law_1716 rfl rfl ?_
  refine zr_aload_n X 1718 5 dL_law_1717 rfl rfl ?_
  refine zr_iload X 1720 1 dL_law_1718 rfl rfl ?_
  refine zr_iconst X 1721 dL_law_1720 rfl ?_
  refine zr_iadd X 1722 dL_law_1721 rfl ?_
  refine zr_sld X 1723 hX hbl hB (by omega) dL_law_1722 rfl ?_
  rw [p0e]
  show zG C V1 (kc - 1) (ks - 6) 1723 [(5, .int (zI (k1))), (4, .int (zI (i))), (3, .ref o), (2, .ref (c 60)), (1, .ref (ad 1)), (0, .ref b)] [.int (zI (p0)), .ref (c 60)]
  refine zr_callVe (kc' := (kc - 1) - 2) (ks' := (ks - 6) - 80) X 1726 1 (m_X8_border l Γ (q := p0) hM1 (by omega)) gL_law_X8_border rfl (by decide +kernel) rfl (by decide) ⟨_, _, hM1.1⟩ rfl rfl (Nat.le_of_ble_eq_true rfl) dL_law_1723 rfl (by omega) (by omega) (fun rv2 V2 hp => ?_)
  obtain ⟨y2, md2, τ2, κ2, hr2, hM2, hf2, hrel⟩ := hp
  rw [hr2]
  have hS2 := hS1.kept hf2 (fun t a1 a2 a3 => ⟨by omega, a3⟩)
  have hO2 := hO1.kept hf2 ⟨by decide, by decide⟩
  have ha := ag_border hA (by omega) hR1 hrel
  show zG C V2 ((kc - 1) - 2) ((ks - 6) - 80) 1726 [(5, .int (zI (k1))), (4, .int (zI (i))), (3, .ref o), (2, .ref (c 60)), (1, .ref (ad 1)), (0, .ref b)] [.int (zI (y2))]
  refine zr_istore X 1728 [(6, .int (zI (y2))), (5, .int (zI (k1))), (4, .int (zI (i))), (3, .ref o), (2, .ref (c 60)), (1, .ref (ad 1)), (0, .ref b)] dL_law_1726 rfl (by decide) rfl ?_
  refine zr_goto X 2004 dL_law_1728 rfl ?_
  refine zr_sub [2, 3, 4, 5, 6] [(4, .int (zI (i))), (3, .ref o), (2, .ref (c 60)), (1, .ref (ad 1)), (0, .ref b)] rfl ?_
  refine zr_room kc' ks' (by omega) (by omega) ?_
  exact kk V2 σ1 md2 τ2 κ2 ⟨hS2, hM2, hO2.out, ha.1⟩ (by omega)
set_option maxRecDepth 100000 in
set_option maxHeartbeats 4000000 in
theorem lc_borders {C : zC} {l : Launch} (hlt : l.stackTraces = false) {Γ : zGam} {Post : Option Value → zV → Prop} (X : zK C l Γ 7 RL cL_law wsL_law 20 (some .boolean) Post) {V : zV} {ad c md : Nat → Nat} {σ τ κ : Nat → Int} {E i : Int} {b L o kc ks kc' ks' : Nat} {xs : Nat → Int32} (hX : va_X b L xs C.1.2.2.2.2.1 C.1.2.2.2.2.1.heap) (hbl : b < C.1.2.2.2.2.1.heap.size) (hB : Γ.2.2.2 = C.1.2.2.2.2.1.heap.size) (hi : 0 ≤ i ∧ i ≤ (L : Int) - 7 ∧ L ≤ 448) (hS : zS Γ V ad σ) (hM : zMo Γ V c md τ κ E) (hO : zOut V o) (hA : zA6 σ τ) (hE : E ≤ 3000) (hK : 0 ≤ σ 32 ∧ σ 32 ≤ 1000) (hkc : kc' + 6200 ≤ kc) (hks : ks' + 12800 ≤ ks)
    (kk : ∀ (V' : zV) (σ' : Nat → Int) (md' : Nat → Nat) (τ' κ' : Nat → Int), zLw Γ V' ad c md' σ' τ' κ' (E + 40) o → (σ' 32 = σ 32 ∨ σ' 32 = σ 32 + 1) → zG C V' kc' ks' 2004 [(4, .int (zI i)), (3, .ref o), (2, .ref (c 60)), (1, .ref (ad 1)), (0, .ref b)] []) : zG C V kc ks 1731 [(4, .int (zI i)), (3, .ref o), (2, .ref (c 60)), (1, .ref (ad 1)), (0, .ref b)] [] := by
  show zG C V kc ks 1731 [(4, .int (zI (i))), (3, .ref o), (2, .ref (c 60)), (1, .ref (ad 1)), (0, .ref b)] []
  refine zr_aload_n X 1732 3 dL_law_1731 rfl rfl ?_
  refine zr_aload_n X 1733 4 dL_law_1732 rfl rfl ?_
  refine zr_iload X 1735 0 dL_law_1733 rfl rfl ?_
  refine zr_iconst X 1736 dL_law_1735 rfl ?_
  refine zr_iadd X 1737 dL_law_1736 rfl ?_
  refine zr_sld X 1738 hX hbl hB (by omega) dL_law_1737 rfl ?_
  obtain ⟨p0, p0e, p0r⟩ := zIex (xs (i + 1).toNat)
  rw [p0e]
  show zG C V kc ks 1738 [(4, .int (zI (i))), (3, .ref o), (2, .ref (c 60)), (1, .ref (ad 1)), (0, .ref b)] [.int (zI (p0)), .ref (ad 1)]
  refine zr_aload_n X 1739 1 dL_law_1738 rfl rfl ?_
  refine zr_callSW (kc' := kc - 3010) (ks' := ks - 6300) X 1742 3 (m_W_borders l hlt Γ (q := p0) hS (by omega) hO) gL_law_L_borders rfl (by decide +kernel) rfl (by decide) rfl (Nat.le_of_ble_eq_true rfl) dL_law_1739 rfl (by omega) (by omega) (fun rv1 V1 hp => ?_)
  obtain ⟨k1, y1, σ1, hr1, hk1, hS1, hf1, hO1, h1, hR1⟩ := hp
  rw [hr1]
  have hM1 := hM.kept hf1 (fun t a1 a2 => a1)
  show zG C V1 (kc - 3010) (ks - 6300) 1742 [(4, .int (zI (i))), (3, .ref o), (2, .ref (c 60)), (1, .ref (ad 1)), (0, .ref b)] [.int (zI (k1))]
  refine zr_istore X 1744 [(5, .int (zI (k1))), (4, .int (zI (i))), (3, .ref o), (2, .ref (c 60)), (1, .ref (ad 1)), (0, .ref b)] dL_law_1742 rfl (by decide) rfl ?_
  refine zr_aload_n X 1745 3 dL_law_1744 rfl rfl ?_
  refine zr_aload_n X 1746 5 dL_law_1745 rfl rfl ?_
  refine zr_iload X 1748 1 dL_law_1746 rfl rfl ?_
  refine zr_iconst X 1749 dL_law_1748 rfl ?_
  refine zr_iadd X 1750 dL_law_1749 rfl ?_
  refine zr_sld X 1751 hX hbl hB (by omega) dL_law_1750 rfl ?_
  rw [p0e]
  show zG C V1 (kc - 3010) (ks - 6300) 1751 [(5, .int (zI (k1))), (4, .int (zI (i))), (3, .ref o), (2, .ref (c 60)), (1, .ref (ad 1)), (0, .ref b)] [.int (zI (p0)), .ref (c 60)]
  refine zr_callVe (kc' := (kc - 3010) - 3011) (ks' := (ks - 6300) - 6340) X 1754 1 (m_X8_borders l Γ (q := p0) hM1 (by omega)) gL_law_X8_borders rfl (by decide +kernel) rfl (by decide) ⟨_, _, hM1.1⟩ rfl rfl (Nat.le_of_ble_eq_true rfl) dL_law_1751 rfl (by omega) (by omega) (fun rv2 V2 hp => ?_)
  obtain ⟨y2, md2, τ2, κ2, hr2, hM2, hf2, hrel⟩ := hp
  rw [hr2]
  have hS2 := hS1.kept hf2 (fun t a1 a2 a3 => ⟨by omega, a3⟩)
  have hO2 := hO1.kept hf2 ⟨by decide, by decide⟩
  have ha := ag_borders (w := 0) hA (by omega) hR1 hrel
  show zG C V2 ((kc - 3010) - 3011) ((ks - 6300) - 6340) 1754 [(5, .int (zI (k1))), (4, .int (zI (i))), (3, .ref o), (2, .ref (c 60)), (1, .ref (ad 1)), (0, .ref b)] [.ref y2]
  refine zr_astore X 1756 [(6, .ref y2), (5, .int (zI (k1))), (4, .int (zI (i))), (3, .ref o), (2, .ref (c 60)), (1, .ref (ad 1)), (0, .ref b)] dL_law_1754 rfl (by decide) rfl ?_
  refine zr_goto X 2004 dL_law_1756 rfl ?_
  refine zr_sub [2, 3, 4, 5, 6] [(4, .int (zI (i))), (3, .ref o), (2, .ref (c 60)), (1, .ref (ad 1)), (0, .ref b)] rfl ?_
  refine zr_room kc' ks' (by omega) (by omega) ?_
  exact kk V2 σ1 md2 τ2 κ2 ⟨hS2, hM2, hO2.out, ha.1⟩ (by omega)
set_option maxRecDepth 100000 in
set_option maxHeartbeats 4000000 in
theorem lc_chain {C : zC} {l : Launch} (hlt : l.stackTraces = false) {Γ : zGam} {Post : Option Value → zV → Prop} (X : zK C l Γ 7 RL cL_law wsL_law 20 (some .boolean) Post) {V : zV} {ad c md : Nat → Nat} {σ τ κ : Nat → Int} {E i : Int} {b L o kc ks kc' ks' : Nat} {xs : Nat → Int32} (hX : va_X b L xs C.1.2.2.2.2.1 C.1.2.2.2.2.1.heap) (hbl : b < C.1.2.2.2.2.1.heap.size) (hB : Γ.2.2.2 = C.1.2.2.2.2.1.heap.size) (hi : 0 ≤ i ∧ i ≤ (L : Int) - 7 ∧ L ≤ 448) (hS : zS Γ V ad σ) (hM : zMo Γ V c md τ κ E) (hO : zOut V o) (hA : zA6 σ τ) (hE : E ≤ 3000) (hK : 0 ≤ σ 32 ∧ σ 32 ≤ 1000) (hkc : kc' + 6200 ≤ kc) (hks : ks' + 12800 ≤ ks)
    (kk : ∀ (V' : zV) (σ' : Nat → Int) (md' : Nat → Nat) (τ' κ' : Nat → Int), zLw Γ V' ad c md' σ' τ' κ' (E + 40) o → (σ' 32 = σ 32 ∨ σ' 32 = σ 32 + 1) → zG C V' kc' ks' 2004 [(4, .int (zI i)), (3, .ref o), (2, .ref (c 60)), (1, .ref (ad 1)), (0, .ref b)] []) : zG C V kc ks 1759 [(4, .int (zI i)), (3, .ref o), (2, .ref (c 60)), (1, .ref (ad 1)), (0, .ref b)] [] := by
  show zG C V kc ks 1759 [(4, .int (zI (i))), (3, .ref o), (2, .ref (c 60)), (1, .ref (ad 1)), (0, .ref b)] []
  refine zr_aload_n X 1760 3 dL_law_1759 rfl rfl ?_
  refine zr_aload_n X 1761 4 dL_law_1760 rfl rfl ?_
  refine zr_iload X 1763 0 dL_law_1761 rfl rfl ?_
  refine zr_iconst X 1764 dL_law_1763 rfl ?_
  refine zr_iadd X 1765 dL_law_1764 rfl ?_
  refine zr_sld X 1766 hX hbl hB (by omega) dL_law_1765 rfl ?_
  obtain ⟨p0, p0e, p0r⟩ := zIex (xs (i + 1).toNat)
  rw [p0e]
  show zG C V kc ks 1766 [(4, .int (zI (i))), (3, .ref o), (2, .ref (c 60)), (1, .ref (ad 1)), (0, .ref b)] [.int (zI (p0)), .ref (ad 1)]
  refine zr_aload_n X 1767 1 dL_law_1766 rfl rfl ?_
  refine zr_callSW (kc' := kc - 3010) (ks' := ks - 6300) X 1770 3 (m_W_chain l hlt Γ (q := p0) hS (by omega) hO) gL_law_L_chain rfl (by decide +kernel) rfl (by decide) rfl (Nat.le_of_ble_eq_true rfl) dL_law_1767 rfl (by omega) (by omega) (fun rv1 V1 hp => ?_)
  obtain ⟨k1, y1, σ1, hr1, hk1, hS1, hf1, hO1, h1, hR1⟩ := hp
  rw [hr1]
  have hM1 := hM.kept hf1 (fun t a1 a2 => a1)
  show zG C V1 (kc - 3010) (ks - 6300) 1770 [(4, .int (zI (i))), (3, .ref o), (2, .ref (c 60)), (1, .ref (ad 1)), (0, .ref b)] [.int (zI (k1))]
  refine zr_istore X 1772 [(5, .int (zI (k1))), (4, .int (zI (i))), (3, .ref o), (2, .ref (c 60)), (1, .ref (ad 1)), (0, .ref b)] dL_law_1770 rfl (by decide) rfl ?_
  refine zr_aload_n X 1773 3 dL_law_1772 rfl rfl ?_
  refine zr_aload_n X 1774 5 dL_law_1773 rfl rfl ?_
  refine zr_iload X 1776 1 dL_law_1774 rfl rfl ?_
  refine zr_iconst X 1777 dL_law_1776 rfl ?_
  refine zr_iadd X 1778 dL_law_1777 rfl ?_
  refine zr_sld X 1779 hX hbl hB (by omega) dL_law_1778 rfl ?_
  rw [p0e]
  show zG C V1 (kc - 3010) (ks - 6300) 1779 [(5, .int (zI (k1))), (4, .int (zI (i))), (3, .ref o), (2, .ref (c 60)), (1, .ref (ad 1)), (0, .ref b)] [.int (zI (p0)), .ref (c 60)]
  refine zr_callVe (kc' := (kc - 3010) - 3011) (ks' := (ks - 6300) - 6340) X 1782 1 (m_X8_chain l Γ (q := p0) hM1 (by omega)) gL_law_X8_chain rfl (by decide +kernel) rfl (by decide) ⟨_, _, hM1.1⟩ rfl rfl (Nat.le_of_ble_eq_true rfl) dL_law_1779 rfl (by omega) (by omega) (fun rv2 V2 hp => ?_)
  obtain ⟨y2, md2, τ2, κ2, hr2, hM2, hf2, hrel⟩ := hp
  rw [hr2]
  have hS2 := hS1.kept hf2 (fun t a1 a2 a3 => ⟨by omega, a3⟩)
  have hO2 := hO1.kept hf2 ⟨by decide, by decide⟩
  have ha := ag_chain (w := 0) hA (by omega) hR1 hrel
  show zG C V2 ((kc - 3010) - 3011) ((ks - 6300) - 6340) 1782 [(5, .int (zI (k1))), (4, .int (zI (i))), (3, .ref o), (2, .ref (c 60)), (1, .ref (ad 1)), (0, .ref b)] [.ref y2]
  refine zr_astore X 1784 [(6, .ref y2), (5, .int (zI (k1))), (4, .int (zI (i))), (3, .ref o), (2, .ref (c 60)), (1, .ref (ad 1)), (0, .ref b)] dL_law_1782 rfl (by decide) rfl ?_
  refine zr_goto X 2004 dL_law_1784 rfl ?_
  refine zr_sub [2, 3, 4, 5, 6] [(4, .int (zI (i))), (3, .ref o), (2, .ref (c 60)), (1, .ref (ad 1)), (0, .ref b)] rfl ?_
  refine zr_room kc' ks' (by omega) (by omega) ?_
  exact kk V2 σ1 md2 τ2 κ2 ⟨hS2, hM2, hO2.out, ha.1⟩ (by omega)
set_option maxRecDepth 100000 in
set_option maxHeartbeats 4000000 in
theorem lc_differ {C : zC} {l : Launch} (hlt : l.stackTraces = false) {Γ : zGam} {Post : Option Value → zV → Prop} (X : zK C l Γ 7 RL cL_law wsL_law 20 (some .boolean) Post) {V : zV} {ad c md : Nat → Nat} {σ τ κ : Nat → Int} {E i : Int} {b L o kc ks kc' ks' : Nat} {xs : Nat → Int32} (hX : va_X b L xs C.1.2.2.2.2.1 C.1.2.2.2.2.1.heap) (hbl : b < C.1.2.2.2.2.1.heap.size) (hB : Γ.2.2.2 = C.1.2.2.2.2.1.heap.size) (hi : 0 ≤ i ∧ i ≤ (L : Int) - 7 ∧ L ≤ 448) (hS : zS Γ V ad σ) (hM : zMo Γ V c md τ κ E) (hO : zOut V o) (hA : zA6 σ τ) (hE : E ≤ 3000) (hK : 0 ≤ σ 32 ∧ σ 32 ≤ 1000) (hkc : kc' + 6200 ≤ kc) (hks : ks' + 12800 ≤ ks)
    (kk : ∀ (V' : zV) (σ' : Nat → Int) (md' : Nat → Nat) (τ' κ' : Nat → Int), zLw Γ V' ad c md' σ' τ' κ' (E + 40) o → (σ' 32 = σ 32 ∨ σ' 32 = σ 32 + 1) → zG C V' kc' ks' 2004 [(4, .int (zI i)), (3, .ref o), (2, .ref (c 60)), (1, .ref (ad 1)), (0, .ref b)] []) : zG C V kc ks 1787 [(4, .int (zI i)), (3, .ref o), (2, .ref (c 60)), (1, .ref (ad 1)), (0, .ref b)] [] := by
  show zG C V kc ks 1787 [(4, .int (zI (i))), (3, .ref o), (2, .ref (c 60)), (1, .ref (ad 1)), (0, .ref b)] []
  refine zr_aload_n X 1788 3 dL_law_1787 rfl rfl ?_
  refine zr_aload_n X 1789 4 dL_law_1788 rfl rfl ?_
  refine zr_iload X 1791 0 dL_law_1789 rfl rfl ?_
  refine zr_iconst X 1792 dL_law_1791 rfl ?_
  refine zr_iadd X 1793 dL_law_1792 rfl ?_
  refine zr_sld X 1794 hX hbl hB (by omega) dL_law_1793 rfl ?_
  obtain ⟨p0, p0e, p0r⟩ := zIex (xs (i + 1).toNat)
  rw [p0e]
  show zG C V kc ks 1794 [(4, .int (zI (i))), (3, .ref o), (2, .ref (c 60)), (1, .ref (ad 1)), (0, .ref b)] [.int (zI (p0)), .ref (ad 1)]
  refine zr_aload_n X 1795 4 dL_law_1794 rfl rfl ?_
  refine zr_iload X 1797 0 dL_law_1795 rfl rfl ?_
  refine zr_iconst X 1798 dL_law_1797 rfl ?_
  refine zr_iadd X 1799 dL_law_1798 rfl ?_
  refine zr_sld X 1800 hX hbl hB (by omega) dL_law_1799 rfl ?_
  obtain ⟨p1, p1e, p1r⟩ := zIex (xs (i + 2).toNat)
  rw [p1e]
  show zG C V kc ks 1800 [(4, .int (zI (i))), (3, .ref o), (2, .ref (c 60)), (1, .ref (ad 1)), (0, .ref b)] [.int (zI (p1)), .int (zI (p0)), .ref (ad 1)]
  refine zr_aload_n X 1801 1 dL_law_1800 rfl rfl ?_
  refine zr_callSW (kc' := kc - 2) (ks' := ks - 12) X 1804 4 (m_W_differ l hlt Γ (q := p0) (q2 := p1) hS (by omega) (by omega) hO) gL_law_L_differ rfl (by decide +kernel) rfl (by decide) rfl (Nat.le_of_ble_eq_true rfl) dL_law_1801 rfl (by omega) (by omega) (fun rv1 V1 hp => ?_)
  obtain ⟨k1, y1, σ1, hr1, hk1, hS1, hf1, hO1, h1, hR1⟩ := hp
  rw [hr1]
  have hM1 := hM.kept hf1 (fun t a1 a2 => a1)
  show zG C V1 (kc - 2) (ks - 12) 1804 [(4, .int (zI (i))), (3, .ref o), (2, .ref (c 60)), (1, .ref (ad 1)), (0, .ref b)] [.int (zI (k1))]
  refine zr_istore X 1806 [(5, .int (zI (k1))), (4, .int (zI (i))), (3, .ref o), (2, .ref (c 60)), (1, .ref (ad 1)), (0, .ref b)] dL_law_1804 rfl (by decide) rfl ?_
  refine zr_aload_n X 1807 3 dL_law_1806 rfl rfl ?_
  refine zr_aload_n X 1808 5 dL_law_1807 rfl rfl ?_
  refine zr_iload X 1810 1 dL_law_1808 rfl rfl ?_
  refine zr_iconst X 1811 dL_law_1810 rfl ?_
  refine zr_iadd X 1812 dL_law_1811 rfl ?_
  refine zr_sld X 1813 hX hbl hB (by omega) dL_law_1812 rfl ?_
  rw [p0e]
  show zG C V1 (kc - 2) (ks - 12) 1813 [(5, .int (zI (k1))), (4, .int (zI (i))), (3, .ref o), (2, .ref (c 60)), (1, .ref (ad 1)), (0, .ref b)] [.int (zI (p0)), .ref (c 60)]
  refine zr_aload_n X 1814 5 dL_law_1813 rfl rfl ?_
  refine zr_iload X 1816 1 dL_law_1814 rfl rfl ?_
  refine zr_iconst X 1817 dL_law_1816 rfl ?_
  refine zr_iadd X 1818 dL_law_1817 rfl ?_
  refine zr_sld X 1819 hX hbl hB (by omega) dL_law_1818 rfl ?_
  rw [p1e]
  show zG C V1 (kc - 2) (ks - 12) 1819 [(5, .int (zI (k1))), (4, .int (zI (i))), (3, .ref o), (2, .ref (c 60)), (1, .ref (ad 1)), (0, .ref b)] [.int (zI (p1)), .int (zI (p0)), .ref (c 60)]
  refine zr_callVe (kc' := (kc - 2) - 2) (ks' := (ks - 12) - 80) X 1822 2 (m_X8_differ l Γ (q := p0) (q2 := p1) hM1 (by omega) (by omega)) gL_law_X8_differ rfl (by decide +kernel) rfl (by decide) ⟨_, _, hM1.1⟩ rfl rfl (Nat.le_of_ble_eq_true rfl) dL_law_1819 rfl (by omega) (by omega) (fun rv2 V2 hp => ?_)
  obtain ⟨y2, md2, τ2, κ2, hr2, hM2, hf2, hrel⟩ := hp
  rw [hr2]
  have hS2 := hS1.kept hf2 (fun t a1 a2 a3 => ⟨by omega, a3⟩)
  have hO2 := hO1.kept hf2 ⟨by decide, by decide⟩
  have ha := ag_differ hA (by omega) (by omega) hR1 hrel
  show zG C V2 ((kc - 2) - 2) ((ks - 12) - 80) 1822 [(5, .int (zI (k1))), (4, .int (zI (i))), (3, .ref o), (2, .ref (c 60)), (1, .ref (ad 1)), (0, .ref b)] [.int (zI (y2))]
  refine zr_istore X 1824 [(6, .int (zI (y2))), (5, .int (zI (k1))), (4, .int (zI (i))), (3, .ref o), (2, .ref (c 60)), (1, .ref (ad 1)), (0, .ref b)] dL_law_1822 rfl (by decide) rfl ?_
  refine zr_goto X 2004 dL_law_1824 rfl ?_
  refine zr_sub [2, 3, 4, 5, 6] [(4, .int (zI (i))), (3, .ref o), (2, .ref (c 60)), (1, .ref (ad 1)), (0, .ref b)] rfl ?_
  refine zr_room kc' ks' (by omega) (by omega) ?_
  exact kk V2 σ1 md2 τ2 κ2 ⟨hS2, hM2, hO2.out, ha.1⟩ (by omega)
set_option maxRecDepth 100000 in
set_option maxHeartbeats 4000000 in
theorem lc_known {C : zC} {l : Launch} (hlt : l.stackTraces = false) {Γ : zGam} {Post : Option Value → zV → Prop} (X : zK C l Γ 7 RL cL_law wsL_law 20 (some .boolean) Post) {V : zV} {ad c md : Nat → Nat} {σ τ κ : Nat → Int} {E i : Int} {b L o kc ks kc' ks' : Nat} {xs : Nat → Int32} (hX : va_X b L xs C.1.2.2.2.2.1 C.1.2.2.2.2.1.heap) (hbl : b < C.1.2.2.2.2.1.heap.size) (hB : Γ.2.2.2 = C.1.2.2.2.2.1.heap.size) (hi : 0 ≤ i ∧ i ≤ (L : Int) - 7 ∧ L ≤ 448) (hS : zS Γ V ad σ) (hM : zMo Γ V c md τ κ E) (hO : zOut V o) (hA : zA6 σ τ) (hE : E ≤ 3000) (hK : 0 ≤ σ 32 ∧ σ 32 ≤ 1000) (hkc : kc' + 6200 ≤ kc) (hks : ks' + 12800 ≤ ks)
    (kk : ∀ (V' : zV) (σ' : Nat → Int) (md' : Nat → Nat) (τ' κ' : Nat → Int), zLw Γ V' ad c md' σ' τ' κ' (E + 40) o → (σ' 32 = σ 32 ∨ σ' 32 = σ 32 + 1) → zG C V' kc' ks' 2004 [(4, .int (zI i)), (3, .ref o), (2, .ref (c 60)), (1, .ref (ad 1)), (0, .ref b)] []) : zG C V kc ks 1827 [(4, .int (zI i)), (3, .ref o), (2, .ref (c 60)), (1, .ref (ad 1)), (0, .ref b)] [] := by
  show zG C V kc ks 1827 [(4, .int (zI (i))), (3, .ref o), (2, .ref (c 60)), (1, .ref (ad 1)), (0, .ref b)] []
  refine zr_aload_n X 1828 3 dL_law_1827 rfl rfl ?_
  refine zr_aload_n X 1829 4 dL_law_1828 rfl rfl ?_
  refine zr_iload X 1831 0 dL_law_1829 rfl rfl ?_
  refine zr_iconst X 1832 dL_law_1831 rfl ?_
  refine zr_iadd X 1833 dL_law_1832 rfl ?_
  refine zr_sld X 1834 hX hbl hB (by omega) dL_law_1833 rfl ?_
  obtain ⟨p0, p0e, p0r⟩ := zIex (xs (i + 1).toNat)
  rw [p0e]
  show zG C V kc ks 1834 [(4, .int (zI (i))), (3, .ref o), (2, .ref (c 60)), (1, .ref (ad 1)), (0, .ref b)] [.int (zI (p0)), .ref (ad 1)]
  refine zr_aload_n X 1835 4 dL_law_1834 rfl rfl ?_
  refine zr_iload X 1837 0 dL_law_1835 rfl rfl ?_
  refine zr_iconst X 1838 dL_law_1837 rfl ?_
  refine zr_iadd X 1839 dL_law_1838 rfl ?_
  refine zr_sld X 1840 hX hbl hB (by omega) dL_law_1839 rfl ?_
  obtain ⟨p1, p1e, p1r⟩ := zIex (xs (i + 2).toNat)
  rw [p1e]
  show zG C V kc ks 1840 [(4, .int (zI (i))), (3, .ref o), (2, .ref (c 60)), (1, .ref (ad 1)), (0, .ref b)] [.int (zI (p1)), .int (zI (p0)), .ref (ad 1)]
  refine zr_aload_n X 1841 1 dL_law_1840 rfl rfl ?_
  refine zr_callSW (kc' := kc - 2) (ks' := ks - 12) X 1844 4 (m_W_known l hlt Γ (q := p0) (z := p1) hS (by omega) (by omega) hO) gL_law_L_known rfl (by decide +kernel) rfl (by decide) rfl (Nat.le_of_ble_eq_true rfl) dL_law_1841 rfl (by omega) (by omega) (fun rv1 V1 hp => ?_)
  obtain ⟨k1, y1, σ1, hr1, hk1, hS1, hf1, hO1, h1, hR1⟩ := hp
  rw [hr1]
  have hM1 := hM.kept hf1 (fun t a1 a2 => a1)
  show zG C V1 (kc - 2) (ks - 12) 1844 [(4, .int (zI (i))), (3, .ref o), (2, .ref (c 60)), (1, .ref (ad 1)), (0, .ref b)] [.int (zI (k1))]
  refine zr_istore X 1846 [(5, .int (zI (k1))), (4, .int (zI (i))), (3, .ref o), (2, .ref (c 60)), (1, .ref (ad 1)), (0, .ref b)] dL_law_1844 rfl (by decide) rfl ?_
  refine zr_aload_n X 1847 3 dL_law_1846 rfl rfl ?_
  refine zr_aload_n X 1848 5 dL_law_1847 rfl rfl ?_
  refine zr_iload X 1850 1 dL_law_1848 rfl rfl ?_
  refine zr_iconst X 1851 dL_law_1850 rfl ?_
  refine zr_iadd X 1852 dL_law_1851 rfl ?_
  refine zr_sld X 1853 hX hbl hB (by omega) dL_law_1852 rfl ?_
  rw [p0e]
  show zG C V1 (kc - 2) (ks - 12) 1853 [(5, .int (zI (k1))), (4, .int (zI (i))), (3, .ref o), (2, .ref (c 60)), (1, .ref (ad 1)), (0, .ref b)] [.int (zI (p0)), .ref (c 60)]
  refine zr_aload_n X 1854 5 dL_law_1853 rfl rfl ?_
  refine zr_iload X 1856 1 dL_law_1854 rfl rfl ?_
  refine zr_iconst X 1857 dL_law_1856 rfl ?_
  refine zr_iadd X 1858 dL_law_1857 rfl ?_
  refine zr_sld X 1859 hX hbl hB (by omega) dL_law_1858 rfl ?_
  rw [p1e]
  show zG C V1 (kc - 2) (ks - 12) 1859 [(5, .int (zI (k1))), (4, .int (zI (i))), (3, .ref o), (2, .ref (c 60)), (1, .ref (ad 1)), (0, .ref b)] [.int (zI (p1)), .int (zI (p0)), .ref (c 60)]
  refine zr_callVe (kc' := (kc - 2) - 2) (ks' := (ks - 12) - 80) X 1862 2 (m_X8_known l Γ (q := p0) (z := p1) hM1 (by omega) (by omega)) gL_law_X8_known rfl (by decide +kernel) rfl (by decide) ⟨_, _, hM1.1⟩ rfl rfl (Nat.le_of_ble_eq_true rfl) dL_law_1859 rfl (by omega) (by omega) (fun rv2 V2 hp => ?_)
  obtain ⟨y2, md2, τ2, κ2, hr2, hM2, hf2, hrel⟩ := hp
  rw [hr2]
  have hS2 := hS1.kept hf2 (fun t a1 a2 a3 => ⟨by omega, a3⟩)
  have hO2 := hO1.kept hf2 ⟨by decide, by decide⟩
  have ha := ag_known hA (by omega) (by omega) hR1 hrel
  show zG C V2 ((kc - 2) - 2) ((ks - 12) - 80) 1862 [(5, .int (zI (k1))), (4, .int (zI (i))), (3, .ref o), (2, .ref (c 60)), (1, .ref (ad 1)), (0, .ref b)] [.int (zI (y2))]
  refine zr_istore X 1864 [(6, .int (zI (y2))), (5, .int (zI (k1))), (4, .int (zI (i))), (3, .ref o), (2, .ref (c 60)), (1, .ref (ad 1)), (0, .ref b)] dL_law_1862 rfl (by decide) rfl ?_
  refine zr_aload_n X 1865 4 dL_law_1864 rfl rfl ?_
  refine zr_callVe (kc' := ((kc - 2) - 2)) (ks' := ((ks - 12) - 80)) X 1868 0 (m_X8_thrown l Γ hM2) gL_law_X8_thrown rfl (by decide +kernel) rfl (by decide) ⟨_, _, hM2.1⟩ rfl rfl (Nat.le_of_ble_eq_true rfl) dL_law_1865 rfl (by omega) (by omega) (fun rv3 V3 hp3 => ?_)
  obtain ⟨hr3, hv3⟩ := hp3
  rw [hr3, hv3, ha.2.1]
  show zG C V2 ((kc - 2) - 2) ((ks - 12) - 80) 1868 [(6, .int (zI (y2))), (5, .int (zI (k1))), (4, .int (zI (i))), (3, .ref o), (2, .ref (c 60)), (1, .ref (ad 1)), (0, .ref b)] [.int (zI (k1))]
  refine zr_iload X 1870 1 dL_law_1868 rfl rfl ?_
  refine zr_icmp_eq X 1875 1873 dL_law_1870 rfl rfl (by omega) (by omega) (fun bq1 => ?_) (fun bq1 => ?_)
  · refine zr_iload X 1877 1 dL_law_1875 rfl rfl ?_
    refine zr_if_ne X 1893 1880 dL_law_1877 rfl rfl (by omega) (fun bq2 => ?_) (fun bq2 => ?_)
    · refine zr_goto X 2004 dL_law_1893 rfl ?_
      refine zr_sub [2, 3, 4, 5, 6] [(4, .int (zI (i))), (3, .ref o), (2, .ref (c 60)), (1, .ref (ad 1)), (0, .ref b)] rfl ?_
      refine zr_room kc' ks' (by omega) (by omega) ?_
      exact kk V2 σ1 md2 τ2 κ2 ⟨hS2, hM2, hO2.out, ha.1⟩ (by omega)
    · refine zr_aload_n X 1881 3 dL_law_1880 rfl rfl ?_
      obtain ⟨on, os, ho, hs9, hn9⟩ := id hO2
      refine zr_getN X 1884 8 0 9 ho rfl inlX7 (by decide) rfl rfl rfl dL_law_1881 rfl ?_
      have e9 : on = (zI y2).toInt64 := by
        rw [hn9 ⟨by omega, trivial⟩, ha.2.2 (by omega)]
      rw [e9]
      refine zr_iload X 1886 0 dL_law_1884 rfl rfl ?_
      refine zr_i2l X 1887 dL_law_1886 rfl ?_
      refine zr_lcmp0 X 1888 dL_law_1887 rfl ?_
      refine zr_if_eq X 1893 1891 dL_law_1888 rfl rfl (by omega) (fun bq3 => ?_) (fun bq3 => absurd bq3 (by omega))
      refine zr_goto X 2004 dL_law_1893 rfl ?_
      refine zr_sub [2, 3, 4, 5, 6] [(4, .int (zI (i))), (3, .ref o), (2, .ref (c 60)), (1, .ref (ad 1)), (0, .ref b)] rfl ?_
      refine zr_room kc' ks' (by omega) (by omega) ?_
      exact kk V2 σ1 md2 τ2 κ2 ⟨hS2, hM2, hO2.out, ha.1⟩ (by omega)
  · exfalso
    omega
set_option maxRecDepth 100000 in
set_option maxHeartbeats 4000000 in
theorem lc_held {C : zC} {l : Launch} (hlt : l.stackTraces = false) {Γ : zGam} {Post : Option Value → zV → Prop} (X : zK C l Γ 7 RL cL_law wsL_law 20 (some .boolean) Post) {V : zV} {ad c md : Nat → Nat} {σ τ κ : Nat → Int} {E i : Int} {b L o kc ks kc' ks' : Nat} {xs : Nat → Int32} (hX : va_X b L xs C.1.2.2.2.2.1 C.1.2.2.2.2.1.heap) (hbl : b < C.1.2.2.2.2.1.heap.size) (hB : Γ.2.2.2 = C.1.2.2.2.2.1.heap.size) (hi : 0 ≤ i ∧ i ≤ (L : Int) - 7 ∧ L ≤ 448) (hS : zS Γ V ad σ) (hM : zMo Γ V c md τ κ E) (hO : zOut V o) (hA : zA6 σ τ) (hE : E ≤ 3000) (hK : 0 ≤ σ 32 ∧ σ 32 ≤ 1000) (hkc : kc' + 6200 ≤ kc) (hks : ks' + 12800 ≤ ks)
    (kk : ∀ (V' : zV) (σ' : Nat → Int) (md' : Nat → Nat) (τ' κ' : Nat → Int), zLw Γ V' ad c md' σ' τ' κ' (E + 40) o → (σ' 32 = σ 32 ∨ σ' 32 = σ 32 + 1) → zG C V' kc' ks' 2004 [(4, .int (zI i)), (3, .ref o), (2, .ref (c 60)), (1, .ref (ad 1)), (0, .ref b)] []) : zG C V kc ks 1896 [(4, .int (zI i)), (3, .ref o), (2, .ref (c 60)), (1, .ref (ad 1)), (0, .ref b)] [] := by
  show zG C V kc ks 1896 [(4, .int (zI (i))), (3, .ref o), (2, .ref (c 60)), (1, .ref (ad 1)), (0, .ref b)] []
  refine zr_aload_n X 1897 3 dL_law_1896 rfl rfl ?_
  refine zr_callVe (kc' := kc - 3010) (ks' := ks - 6300) X 1900 0 (m_X6_held l Γ hS) gL_law_X6_held rfl (by decide +kernel) rfl (by decide) hS.x rfl rfl (Nat.le_of_ble_eq_true rfl) dL_law_1897 rfl (by omega) (by omega) (fun rv1 V1 hp => ?_)
  obtain ⟨y1, σ1, hr1, hS1, hf0, e2⟩ := hp
  have h1 : σ1 32 = σ 32 := congrFun e2 32
  rw [hr1]
  have hf1 : zag (fun t => 60 ≤ t) V V1 := hf0.mono (fun t ht => Or.inl ht)
  have hO1 := hO.kept hf0 (Or.inr rfl)
  have hM1 := hM.kept hf1 (fun t a1 a2 => a1)
  show zG C V1 (kc - 3010) (ks - 6300) 1900 [(4, .int (zI (i))), (3, .ref o), (2, .ref (c 60)), (1, .ref (ad 1)), (0, .ref b)] [.ref y1]
  refine zr_pop X 1901 dL_law_1900 rfl rfl ?_
  refine zr_aload_n X 1902 2 dL_law_1901 rfl rfl ?_
  refine zr_callVe (kc' := (kc - 3010) - 3010) (ks' := (ks - 6300) - 6300) X 1905 0 (m_X8_held l Γ hM1) gL_law_X8_held rfl (by decide +kernel) rfl (by decide) ⟨_, _, hM1.1⟩ rfl rfl (Nat.le_of_ble_eq_true rfl) dL_law_1902 rfl (by omega) (by omega) (fun rv2 V2 hp => ?_)
  obtain ⟨y2, md2, τ2, κ2, hr2, hM2, hf2, hrel⟩ := hp
  have ha0 : zA6 σ1 τ2 := by
    rw [e2, hrel]
    exact hA.t36
  rw [hr2]
  have hS2 := hS1.kept hf2 (fun t a1 a2 a3 => ⟨by omega, a3⟩)
  have hO2 := hO1.kept hf2 ⟨by decide, by decide⟩
  show zG C V2 ((kc - 3010) - 3010) ((ks - 6300) - 6300) 1905 [(4, .int (zI (i))), (3, .ref o), (2, .ref (c 60)), (1, .ref (ad 1)), (0, .ref b)] [.ref y2]
  refine zr_pop X 1906 dL_law_1905 rfl rfl ?_
  refine zr_goto X 2004 dL_law_1906 rfl ?_
  refine zr_room kc' ks' (by omega) (by omega) ?_
  exact kk V2 σ1 md2 τ2 κ2 ⟨hS2, hM2, hO2, ha0⟩ (by omega)
set_option maxRecDepth 100000 in
set_option maxHeartbeats 4000000 in
theorem lc_travelled {C : zC} {l : Launch} (hlt : l.stackTraces = false) {Γ : zGam} {Post : Option Value → zV → Prop} (X : zK C l Γ 7 RL cL_law wsL_law 20 (some .boolean) Post) {V : zV} {ad c md : Nat → Nat} {σ τ κ : Nat → Int} {E i : Int} {b L o kc ks kc' ks' : Nat} {xs : Nat → Int32} (hX : va_X b L xs C.1.2.2.2.2.1 C.1.2.2.2.2.1.heap) (hbl : b < C.1.2.2.2.2.1.heap.size) (hB : Γ.2.2.2 = C.1.2.2.2.2.1.heap.size) (hi : 0 ≤ i ∧ i ≤ (L : Int) - 7 ∧ L ≤ 448) (hS : zS Γ V ad σ) (hM : zMo Γ V c md τ κ E) (hO : zOut V o) (hA : zA6 σ τ) (hE : E ≤ 3000) (hK : 0 ≤ σ 32 ∧ σ 32 ≤ 1000) (hkc : kc' + 6200 ≤ kc) (hks : ks' + 12800 ≤ ks)
    (kk : ∀ (V' : zV) (σ' : Nat → Int) (md' : Nat → Nat) (τ' κ' : Nat → Int), zLw Γ V' ad c md' σ' τ' κ' (E + 40) o → (σ' 32 = σ 32 ∨ σ' 32 = σ 32 + 1) → zG C V' kc' ks' 2004 [(4, .int (zI i)), (3, .ref o), (2, .ref (c 60)), (1, .ref (ad 1)), (0, .ref b)] []) : zG C V kc ks 1909 [(4, .int (zI i)), (3, .ref o), (2, .ref (c 60)), (1, .ref (ad 1)), (0, .ref b)] [] := by
  show zG C V kc ks 1909 [(4, .int (zI (i))), (3, .ref o), (2, .ref (c 60)), (1, .ref (ad 1)), (0, .ref b)] []
  refine zr_aload_n X 1910 3 dL_law_1909 rfl rfl ?_
  refine zr_aload_n X 1911 4 dL_law_1910 rfl rfl ?_
  refine zr_iload X 1913 0 dL_law_1911 rfl rfl ?_
  refine zr_iconst X 1914 dL_law_1913 rfl ?_
  refine zr_iadd X 1915 dL_law_1914 rfl ?_
  refine zr_sld X 1916 hX hbl hB (by omega) dL_law_1915 rfl ?_
  obtain ⟨p0, p0e, p0r⟩ := zIex (xs (i + 1).toNat)
  rw [p0e]
  show zG C V kc ks 1916 [(4, .int (zI (i))), (3, .ref o), (2, .ref (c 60)), (1, .ref (ad 1)), (0, .ref b)] [.int (zI (p0)), .ref (ad 1)]
  refine zr_aload_n X 1917 1 dL_law_1916 rfl rfl ?_
  refine zr_callSW (kc' := kc - 3011) (ks' := ks - 6306) X 1920 3 (m_W_travelled l hlt Γ (q := p0) hS (by omega) hO) gL_law_L_travelled rfl (by decide +kernel) rfl (by decide) rfl (Nat.le_of_ble_eq_true rfl) dL_law_1917 rfl (by omega) (by omega) (fun rv1 V1 hp => ?_)
  obtain ⟨k1, y1, σ1, hr1, hk1, hS1, hf1, hO1, h1, hR1⟩ := hp
  rw [hr1]
  have hM1 := hM.kept hf1 (fun t a1 a2 => a1)
  show zG C V1 (kc - 3011) (ks - 6306) 1920 [(4, .int (zI (i))), (3, .ref o), (2, .ref (c 60)), (1, .ref (ad 1)), (0, .ref b)] [.int (zI (k1))]
  refine zr_istore X 1922 [(5, .int (zI (k1))), (4, .int (zI (i))), (3, .ref o), (2, .ref (c 60)), (1, .ref (ad 1)), (0, .ref b)] dL_law_1920 rfl (by decide) rfl ?_
  refine zr_aload_n X 1923 3 dL_law_1922 rfl rfl ?_
  refine zr_aload_n X 1924 5 dL_law_1923 rfl rfl ?_
  refine zr_iload X 1926 1 dL_law_1924 rfl rfl ?_
  refine zr_iconst X 1927 dL_law_1926 rfl ?_
  refine zr_iadd X 1928 dL_law_1927 rfl ?_
  refine zr_sld X 1929 hX hbl hB (by omega) dL_law_1928 rfl ?_
  rw [p0e]
  show zG C V1 (kc - 3011) (ks - 6306) 1929 [(5, .int (zI (k1))), (4, .int (zI (i))), (3, .ref o), (2, .ref (c 60)), (1, .ref (ad 1)), (0, .ref b)] [.int (zI (p0)), .ref (c 60)]
  refine zr_callVe (kc' := (kc - 3011) - 3010) (ks' := (ks - 6306) - 6300) X 1932 1 (m_X8_travelled l Γ (q := p0) hM1 (by omega)) gL_law_X8_travelled rfl (by decide +kernel) rfl (by decide) ⟨_, _, hM1.1⟩ rfl rfl (Nat.le_of_ble_eq_true rfl) dL_law_1929 rfl (by omega) (by omega) (fun rv2 V2 hp => ?_)
  obtain ⟨y2, md2, τ2, κ2, hr2, hM2, hf2, hrel⟩ := hp
  rw [hr2]
  have hS2 := hS1.kept hf2 (fun t a1 a2 a3 => ⟨by omega, a3⟩)
  have hO2 := hO1.kept hf2 ⟨by decide, by decide⟩
  have ha := ag_travelled (w := 0) hA (by omega) hR1 hrel
  show zG C V2 ((kc - 3011) - 3010) ((ks - 6306) - 6300) 1932 [(5, .int (zI (k1))), (4, .int (zI (i))), (3, .ref o), (2, .ref (c 60)), (1, .ref (ad 1)), (0, .ref b)] [.ref y2]
  refine zr_astore X 1934 [(6, .ref y2), (5, .int (zI (k1))), (4, .int (zI (i))), (3, .ref o), (2, .ref (c 60)), (1, .ref (ad 1)), (0, .ref b)] dL_law_1932 rfl (by decide) rfl ?_
  refine zr_goto X 2004 dL_law_1934 rfl ?_
  refine zr_sub [2, 3, 4, 5, 6] [(4, .int (zI (i))), (3, .ref o), (2, .ref (c 60)), (1, .ref (ad 1)), (0, .ref b)] rfl ?_
  refine zr_room kc' ks' (by omega) (by omega) ?_
  exact kk V2 σ1 md2 τ2 κ2 ⟨hS2, hM2, hO2.out, ha.1⟩ (by omega)
set_option maxRecDepth 100000 in
set_option maxHeartbeats 4000000 in
theorem lc_house {C : zC} {l : Launch} (hlt : l.stackTraces = false) {Γ : zGam} {Post : Option Value → zV → Prop} (X : zK C l Γ 7 RL cL_law wsL_law 20 (some .boolean) Post) {V : zV} {ad c md : Nat → Nat} {σ τ κ : Nat → Int} {E i : Int} {b L o kc ks kc' ks' : Nat} {xs : Nat → Int32} (hX : va_X b L xs C.1.2.2.2.2.1 C.1.2.2.2.2.1.heap) (hbl : b < C.1.2.2.2.2.1.heap.size) (hB : Γ.2.2.2 = C.1.2.2.2.2.1.heap.size) (hi : 0 ≤ i ∧ i ≤ (L : Int) - 7 ∧ L ≤ 448) (hS : zS Γ V ad σ) (hM : zMo Γ V c md τ κ E) (hO : zOut V o) (hA : zA6 σ τ) (hE : E ≤ 3000) (hK : 0 ≤ σ 32 ∧ σ 32 ≤ 1000) (hkc : kc' + 6200 ≤ kc) (hks : ks' + 12800 ≤ ks)
    (kk : ∀ (V' : zV) (σ' : Nat → Int) (md' : Nat → Nat) (τ' κ' : Nat → Int), zLw Γ V' ad c md' σ' τ' κ' (E + 40) o → (σ' 32 = σ 32 ∨ σ' 32 = σ 32 + 1) → zG C V' kc' ks' 2004 [(4, .int (zI i)), (3, .ref o), (2, .ref (c 60)), (1, .ref (ad 1)), (0, .ref b)] []) : zG C V kc ks 1937 [(4, .int (zI i)), (3, .ref o), (2, .ref (c 60)), (1, .ref (ad 1)), (0, .ref b)] [] := by
  show zG C V kc ks 1937 [(4, .int (zI (i))), (3, .ref o), (2, .ref (c 60)), (1, .ref (ad 1)), (0, .ref b)] []
  refine zr_aload_n X 1938 3 dL_law_1937 rfl rfl ?_
  refine zr_aload_n X 1939 4 dL_law_1938 rfl rfl ?_
  refine zr_iload X 1941 0 dL_law_1939 rfl rfl ?_
  refine zr_iconst X 1942 dL_law_1941 rfl ?_
  refine zr_iadd X 1943 dL_law_1942 rfl ?_
  refine zr_sld X 1944 hX hbl hB (by omega) dL_law_1943 rfl ?_
  obtain ⟨p0, p0e, p0r⟩ := zIex (xs (i + 1).toNat)
  rw [p0e]
  show zG C V kc ks 1944 [(4, .int (zI (i))), (3, .ref o), (2, .ref (c 60)), (1, .ref (ad 1)), (0, .ref b)] [.int (zI (p0)), .ref (ad 1)]
  refine zr_aload_n X 1945 1 dL_law_1944 rfl rfl ?_
  refine zr_callSW (kc' := kc - 1) (ks' := ks - 6) X 1948 3 (m_W_house l hlt Γ (q := p0) hS (by omega) hO) gL_law_L_house rfl (by decide +kernel) rfl (by decide) rfl (Nat.le_of_ble_eq_true rfl) dL_law_1945 rfl (by omega) (by omega) (fun rv1 V1 hp => ?_)
  obtain ⟨k1, y1, σ1, hr1, hk1, hS1, hf1, hO1, h1, hR1⟩ := hp
  rw [hr1]
  have hM1 := hM.kept hf1 (fun t a1 a2 => a1)
  show zG C V1 (kc - 1) (ks - 6) 1948 [(4, .int (zI (i))), (3, .ref o), (2, .ref (c 60)), (1, .ref (ad 1)), (0, .ref b)] [.int (zI (k1))]
  refine zr_istore X 1950 [(5, .int (zI (k1))), (4, .int (zI (i))), (3, .ref o), (2, .ref (c 60)), (1, .ref (ad 1)), (0, .ref b)] dL_law_1948 rfl (by decide) rfl ?_
  refine zr_aload_n X 1951 3 dL_law_1950 rfl rfl ?_
  refine zr_aload_n X 1952 5 dL_law_1951 rfl rfl ?_
  refine zr_iload X 1954 1 dL_law_1952 rfl rfl ?_
  refine zr_iconst X 1955 dL_law_1954 rfl ?_
  refine zr_iadd X 1956 dL_law_1955 rfl ?_
  refine zr_sld X 1957 hX hbl hB (by omega) dL_law_1956 rfl ?_
  rw [p0e]
  show zG C V1 (kc - 1) (ks - 6) 1957 [(5, .int (zI (k1))), (4, .int (zI (i))), (3, .ref o), (2, .ref (c 60)), (1, .ref (ad 1)), (0, .ref b)] [.int (zI (p0)), .ref (c 60)]
  refine zr_callVe (kc' := (kc - 1) - 0) (ks' := (ks - 6) - 0) X 1960 1 (m_X8_house l Γ (q := p0) hM1 (by omega)) gL_law_X8_house rfl (by decide +kernel) rfl (by decide) ⟨_, _, hM1.1⟩ rfl rfl (Nat.le_of_ble_eq_true rfl) dL_law_1957 rfl (by omega) (by omega) (fun rv2 V2 hp => ?_)
  obtain ⟨y2, md2, τ2, κ2, hr2, hM2, hf2, hrel⟩ := hp
  rw [hr2]
  have hS2 := hS1.kept hf2 (fun t a1 a2 a3 => ⟨by omega, a3⟩)
  have hO2 := hO1.kept hf2 ⟨by decide, by decide⟩
  have ha := ag_house hA (by omega) hR1 hrel
  show zG C V2 ((kc - 1) - 0) ((ks - 6) - 0) 1960 [(5, .int (zI (k1))), (4, .int (zI (i))), (3, .ref o), (2, .ref (c 60)), (1, .ref (ad 1)), (0, .ref b)] [.int (zI (y2))]
  refine zr_istore X 1962 [(6, .int (zI (y2))), (5, .int (zI (k1))), (4, .int (zI (i))), (3, .ref o), (2, .ref (c 60)), (1, .ref (ad 1)), (0, .ref b)] dL_law_1960 rfl (by decide) rfl ?_
  refine zr_goto X 2004 dL_law_1962 rfl ?_
  refine zr_sub [2, 3, 4, 5, 6] [(4, .int (zI (i))), (3, .ref o), (2, .ref (c 60)), (1, .ref (ad 1)), (0, .ref b)] rfl ?_
  refine zr_room kc' ks' (by omega) (by omega) ?_
  exact kk V2 σ1 md2 τ2 κ2 ⟨hS2, hM2, hO2.out, ha.1⟩ (by omega)
set_option maxRecDepth 100000 in
set_option maxHeartbeats 4000000 in
theorem lc_knock {C : zC} {l : Launch} (hlt : l.stackTraces = false) {Γ : zGam} {Post : Option Value → zV → Prop} (X : zK C l Γ 7 RL cL_law wsL_law 20 (some .boolean) Post) {V : zV} {ad c md : Nat → Nat} {σ τ κ : Nat → Int} {E i : Int} {b L o kc ks kc' ks' : Nat} {xs : Nat → Int32} (hX : va_X b L xs C.1.2.2.2.2.1 C.1.2.2.2.2.1.heap) (hbl : b < C.1.2.2.2.2.1.heap.size) (hB : Γ.2.2.2 = C.1.2.2.2.2.1.heap.size) (hi : 0 ≤ i ∧ i ≤ (L : Int) - 7 ∧ L ≤ 448) (hS : zS Γ V ad σ) (hM : zMo Γ V c md τ κ E) (hO : zOut V o) (hA : zA6 σ τ) (hE : E ≤ 3000) (hK : 0 ≤ σ 32 ∧ σ 32 ≤ 1000) (hkc : kc' + 6200 ≤ kc) (hks : ks' + 12800 ≤ ks)
    (kk : ∀ (V' : zV) (σ' : Nat → Int) (md' : Nat → Nat) (τ' κ' : Nat → Int), zLw Γ V' ad c md' σ' τ' κ' (E + 40) o → (σ' 32 = σ 32 ∨ σ' 32 = σ 32 + 1) → zG C V' kc' ks' 2004 [(4, .int (zI i)), (3, .ref o), (2, .ref (c 60)), (1, .ref (ad 1)), (0, .ref b)] []) : zG C V kc ks 1965 [(4, .int (zI i)), (3, .ref o), (2, .ref (c 60)), (1, .ref (ad 1)), (0, .ref b)] [] := by
  show zG C V kc ks 1965 [(4, .int (zI (i))), (3, .ref o), (2, .ref (c 60)), (1, .ref (ad 1)), (0, .ref b)] []
  refine zr_aload_n X 1966 3 dL_law_1965 rfl rfl ?_
  refine zr_callVe (kc' := kc - 0) (ks' := ks - 0) X 1969 0 (m_X6_knock l Γ hS) gL_law_X6_knock rfl (by decide +kernel) rfl (by decide) hS.x rfl rfl (Nat.le_of_ble_eq_true rfl) dL_law_1966 rfl (by omega) (by omega) (fun rv1 V1 hp => ?_)
  obtain ⟨hr1, hS0, hf0⟩ := hp
  obtain ⟨σ1, e2⟩ : ∃ z9 : Nat → Int, z9 = zx4 σ (σ 30) (σ 31) (σ 32 + 1) (σ 33) := ⟨_, rfl⟩
  have hS1 : zS Γ V1 ad σ1 := by rw [e2]; exact hS0
  have h1 : σ1 32 = σ 32 + 1 := (congrFun e2 32).trans rfl
  rw [hr1]
  have hf1 : zag (fun t => 60 ≤ t) V V1 := hf0.mono (fun t ht => Or.inl ht)
  have hO1 := hO.kept hf0 (Or.inr rfl)
  have hM1 := hM.kept hf1 (fun t a1 a2 => a1)
  show zG C V1 (kc - 0) (ks - 0) 1969 [(4, .int (zI (i))), (3, .ref o), (2, .ref (c 60)), (1, .ref (ad 1)), (0, .ref b)] [.int (zI (σ 32 + 1))]
  refine zr_pop X 1970 dL_law_1969 rfl rfl ?_
  refine zr_aload_n X 1971 2 dL_law_1970 rfl rfl ?_
  refine zr_callVe (kc' := (kc - 0) - 0) (ks' := (ks - 0) - 0) X 1974 0 (m_X8_knock l Γ hM1) gL_law_X8_knock rfl (by decide +kernel) rfl (by decide) ⟨_, _, hM1.1⟩ rfl rfl (Nat.le_of_ble_eq_true rfl) dL_law_1971 rfl (by omega) (by omega) (fun rv2 V2 hp => ?_)
  obtain ⟨y2, md2, τ2, κ2, hr2, hM2, hf2, hrel⟩ := hp
  have ha0 : zA6 σ1 τ2 := by
    rw [e2, hrel.2]
    exact zA6.kn hA
  rw [hr2]
  have hS2 := hS1.kept hf2 (fun t a1 a2 a3 => ⟨by omega, a3⟩)
  have hO2 := hO1.kept hf2 ⟨by decide, by decide⟩
  show zG C V2 ((kc - 0) - 0) ((ks - 0) - 0) 1974 [(4, .int (zI (i))), (3, .ref o), (2, .ref (c 60)), (1, .ref (ad 1)), (0, .ref b)] [.int (zI (y2))]
  refine zr_pop X 1975 dL_law_1974 rfl rfl ?_
  refine zr_goto X 2004 dL_law_1975 rfl ?_
  refine zr_room kc' ks' (by omega) (by omega) ?_
  exact kk V2 σ1 md2 τ2 κ2 ⟨hS2, hM2, hO2, ha0⟩ (by omega)
set_option maxRecDepth 100000 in
set_option maxHeartbeats 4000000 in
theorem lc_isSound {C : zC} {l : Launch} (hlt : l.stackTraces = false) {Γ : zGam} {Post : Option Value → zV → Prop} (X : zK C l Γ 7 RL cL_law wsL_law 20 (some .boolean) Post) {V : zV} {ad c md : Nat → Nat} {σ τ κ : Nat → Int} {E i : Int} {b L o kc ks kc' ks' : Nat} {xs : Nat → Int32} (hX : va_X b L xs C.1.2.2.2.2.1 C.1.2.2.2.2.1.heap) (hbl : b < C.1.2.2.2.2.1.heap.size) (hB : Γ.2.2.2 = C.1.2.2.2.2.1.heap.size) (hi : 0 ≤ i ∧ i ≤ (L : Int) - 7 ∧ L ≤ 448) (hS : zS Γ V ad σ) (hM : zMo Γ V c md τ κ E) (hO : zOut V o) (hA : zA6 σ τ) (hE : E ≤ 3000) (hK : 0 ≤ σ 32 ∧ σ 32 ≤ 1000) (hkc : kc' + 6200 ≤ kc) (hks : ks' + 12800 ≤ ks)
    (kk : ∀ (V' : zV) (σ' : Nat → Int) (md' : Nat → Nat) (τ' κ' : Nat → Int), zLw Γ V' ad c md' σ' τ' κ' (E + 40) o → (σ' 32 = σ 32 ∨ σ' 32 = σ 32 + 1) → zG C V' kc' ks' 2004 [(4, .int (zI i)), (3, .ref o), (2, .ref (c 60)), (1, .ref (ad 1)), (0, .ref b)] []) : zG C V kc ks 1978 [(4, .int (zI i)), (3, .ref o), (2, .ref (c 60)), (1, .ref (ad 1)), (0, .ref b)] [] := by
  show zG C V kc ks 1978 [(4, .int (zI (i))), (3, .ref o), (2, .ref (c 60)), (1, .ref (ad 1)), (0, .ref b)] []
  refine zr_aload_n X 1979 3 dL_law_1978 rfl rfl ?_
  refine zr_callVe (kc' := kc - 0) (ks' := ks - 0) X 1982 0 (m_X6_isSound l Γ hS) gL_law_X6_isSound rfl (by decide +kernel) rfl (by decide) hS.x rfl rfl (Nat.le_of_ble_eq_true rfl) dL_law_1979 rfl (by omega) (by omega) (fun rv1 V1 hp => ?_)
  obtain ⟨⟨y1, hr1, ya⟩, hS1, hf0⟩ := hp
  rw [hr1]
  have hf1 : zag (fun t => 60 ≤ t) V V1 := hf0.mono (fun t ht => Or.inl ht)
  have hO1 := hO.kept hf0 (Or.inr rfl)
  have hM1 := hM.kept hf1 (fun t a1 a2 => a1)
  show zG C V1 (kc - 0) (ks - 0) 1982 [(4, .int (zI (i))), (3, .ref o), (2, .ref (c 60)), (1, .ref (ad 1)), (0, .ref b)] [.int (zI (y1))]
  refine zr_pop X 1983 dL_law_1982 rfl rfl ?_
  refine zr_aload_n X 1984 2 dL_law_1983 rfl rfl ?_
  refine zr_callVe (kc' := (kc - 0) - 12) (ks' := (ks - 0) - 480) X 1987 0 (m_X8_isSound l Γ hM1) gL_law_X8_isSound rfl (by decide +kernel) rfl (by decide) ⟨_, _, hM1.1⟩ rfl rfl (Nat.le_of_ble_eq_true rfl) dL_law_1984 rfl (by omega) (by omega) (fun rv2 V2 hp => ?_)
  obtain ⟨y2, md2, τ2, κ2, hr2, hM2, hf2, hrel⟩ := hp
  have ha0 : zA6 σ τ2 := by
    rw [hrel]
    exact hA.t36
  rw [hr2]
  have hS2 := hS1.kept hf2 (fun t a1 a2 a3 => ⟨by omega, a3⟩)
  have hO2 := hO1.kept hf2 ⟨by decide, by decide⟩
  show zG C V2 ((kc - 0) - 12) ((ks - 0) - 480) 1987 [(4, .int (zI (i))), (3, .ref o), (2, .ref (c 60)), (1, .ref (ad 1)), (0, .ref b)] [.int (zI (y2))]
  refine zr_pop X 1988 dL_law_1987 rfl rfl ?_
  refine zr_goto X 2004 dL_law_1988 rfl ?_
  refine zr_room kc' ks' (by omega) (by omega) ?_
  exact kk V2 σ md2 τ2 κ2 ⟨hS2, hM2, hO2, ha0⟩ (by omega)
set_option maxRecDepth 100000 in
set_option maxHeartbeats 4000000 in
theorem lc_digest {C : zC} {l : Launch} (hlt : l.stackTraces = false) {Γ : zGam} {Post : Option Value → zV → Prop} (X : zK C l Γ 7 RL cL_law wsL_law 20 (some .boolean) Post) {V : zV} {ad c md : Nat → Nat} {σ τ κ : Nat → Int} {E i : Int} {b L o kc ks kc' ks' : Nat} {xs : Nat → Int32} (hX : va_X b L xs C.1.2.2.2.2.1 C.1.2.2.2.2.1.heap) (hbl : b < C.1.2.2.2.2.1.heap.size) (hB : Γ.2.2.2 = C.1.2.2.2.2.1.heap.size) (hi : 0 ≤ i ∧ i ≤ (L : Int) - 7 ∧ L ≤ 448) (hS : zS Γ V ad σ) (hM : zMo Γ V c md τ κ E) (hO : zOut V o) (hA : zA6 σ τ) (hE : E ≤ 3000) (hK : 0 ≤ σ 32 ∧ σ 32 ≤ 1000) (hkc : kc' + 6200 ≤ kc) (hks : ks' + 12800 ≤ ks)
    (kk : ∀ (V' : zV) (σ' : Nat → Int) (md' : Nat → Nat) (τ' κ' : Nat → Int), zLw Γ V' ad c md' σ' τ' κ' (E + 40) o → (σ' 32 = σ 32 ∨ σ' 32 = σ 32 + 1) → zG C V' kc' ks' 2004 [(4, .int (zI i)), (3, .ref o), (2, .ref (c 60)), (1, .ref (ad 1)), (0, .ref b)] []) : zG C V kc ks 1991 [(4, .int (zI i)), (3, .ref o), (2, .ref (c 60)), (1, .ref (ad 1)), (0, .ref b)] [] := by
  show zG C V kc ks 1991 [(4, .int (zI (i))), (3, .ref o), (2, .ref (c 60)), (1, .ref (ad 1)), (0, .ref b)] []
  refine zr_aload_n X 1992 3 dL_law_1991 rfl rfl ?_
  refine zr_callVe (kc' := kc - 0) (ks' := ks - 0) X 1995 0 (m_X6_digest l Γ hS) gL_law_X6_digest rfl (by decide +kernel) rfl (by decide) hS.x rfl rfl (Nat.le_of_ble_eq_true rfl) dL_law_1992 rfl (by omega) (by omega) (fun rv1 V1 hp => ?_)
  obtain ⟨⟨y1, hr1⟩, hS1, hf0⟩ := hp
  rw [hr1]
  have hf1 : zag (fun t => 60 ≤ t) V V1 := hf0.mono (fun t ht => Or.inl ht)
  have hO1 := hO.kept hf0 (Or.inr rfl)
  have hM1 := hM.kept hf1 (fun t a1 a2 => a1)
  show zG C V1 (kc - 0) (ks - 0) 1995 [(4, .int (zI (i))), (3, .ref o), (2, .ref (c 60)), (1, .ref (ad 1)), (0, .ref b)] [.long (y1)]
  refine zr_pop2_2 X 1996 dL_law_1995 rfl rfl ?_
  refine zr_aload_n X 1997 2 dL_law_1996 rfl rfl ?_
  refine zr_callVe (kc' := (kc - 0) - 40) (ks' := (ks - 0) - 1200) X 2000 0 (m_X8_digest l Γ hM1) gL_law_X8_digest rfl (by decide +kernel) rfl (by decide) ⟨_, _, hM1.1⟩ rfl rfl (Nat.le_of_ble_eq_true rfl) dL_law_1997 rfl (by omega) (by omega) (fun rv2 V2 hp => ?_)
  obtain ⟨⟨y2, hr2⟩, hM0, hf2⟩ := hp
  have hM2 := hM0.le (show E ≤ E + 40 by omega)
  have ha0 : zA6 σ (zf τ 36 0) := hA.t36
  rw [hr2]
  have hS2 := hS1.kept hf2 (fun t a1 a2 a3 => ⟨by omega, a3⟩)
  have hO2 := hO1.kept hf2 ⟨by decide, by decide⟩
  show zG C V2 ((kc - 0) - 40) ((ks - 0) - 1200) 2000 [(4, .int (zI (i))), (3, .ref o), (2, .ref (c 60)), (1, .ref (ad 1)), (0, .ref b)] [.long (y2)]
  refine zr_pop2_2 X 2001 dL_law_2000 rfl rfl ?_
  refine zr_goto X 2004 dL_law_2001 rfl ?_
  refine zr_room kc' ks' (by omega) (by omega) ?_
  exact kk V2 σ md (zf τ 36 0) κ ⟨hS2, hM2, hO2, ha0⟩ (by omega)
