section ZR
variable {C : zC} {l0 : Launch} {Γ0 : zGam} {n0 : Nat} {own : String} {cc : ByteArray} {ws : List Cond} {d : Nat} {ret : Option FieldType} {Post : Option Value → zV → Prop} {V : zV} {kc ks pc : Nat} {lv : List (Nat × Value)} {rest : List Value}
theorem zr_cald (X : zK C l0 Γ0 n0 own cc ws d ret Post) (n' : Nat) {a tg n : Nat} {f : Nat → Int} {i : Int} (hV : V a = some (tg, za Γ0.2.1 1 n f)) (h0 : 0 ≤ i ∧ i < n ∧ i ≤ 2147483647) (hdg : decode cc pc = .ok (.caload, 1)) (hn : pc + 1 = n') (kk : zG C V kc ks n' lv (.int (zI (f i.toNat)) :: rest)) : zG C V kc ks pc lv (.int (zI i) :: .ref a :: rest) := by
  obtain ⟨⟨p, l, e, R, s, m, args, below, meth, c⟩, Γ, ⟨nL, mc, ms⟩, Q⟩ := C
  obtain ⟨hx, hb, hml, hown, hts, hO, hB0, hlk, hret, hmc, hms, hdf, hdl, hQ, rfl, rfl, rfl⟩ := X
  subst hn
  have hVa := hV
  intro H locs cells slots ls hV hS hl hcc hs
  have hV0 := hV
  obtain ⟨W0, hL, hP, hD⟩ := hV
  obtain ⟨q0, hq⟩ := (hL _ _).mp (zd_of hVa)
  have k1 := kk H locs cells slots ls hV0 hS hl hcc hs
  rw [← zI_clamp h0.1 h0.2.2] at k1
  exact va_cald hx hb hO.1 hP q0 1 hq rfl (zI_in h0.1 h0.2.1 h0.2.2) hdg k1
theorem zr_bald (X : zK C l0 Γ0 n0 own cc ws d ret Post) (n' : Nat) {a tg n : Nat} {f : Nat → Int} {i : Int} (hV : V a = some (tg, za Γ0.2.1 2 n f)) (h0 : 0 ≤ i ∧ i < n ∧ i ≤ 2147483647) (hdg : decode cc pc = .ok (.baload, 1)) (hn : pc + 1 = n') (kk : zG C V kc ks n' lv (.int (zI (f i.toNat)) :: rest)) : zG C V kc ks pc lv (.int (zI i) :: .ref a :: rest) := by
  obtain ⟨⟨p, l, e, R, s, m, args, below, meth, c⟩, Γ, ⟨nL, mc, ms⟩, Q⟩ := C
  obtain ⟨hx, hb, hml, hown, hts, hO, hB0, hlk, hret, hmc, hms, hdf, hdl, hQ, rfl, rfl, rfl⟩ := X
  subst hn
  have hVa := hV
  intro H locs cells slots ls hV hS hl hcc hs
  have hV0 := hV
  obtain ⟨W0, hL, hP, hD⟩ := hV
  obtain ⟨q0, hq⟩ := (hL _ _).mp (zd_of hVa)
  have k1 := kk H locs cells slots ls hV0 hS hl hcc hs
  rw [← zI_clamp h0.1 h0.2.2] at k1
  exact va_bald hx hb hO.1 hP q0 2 hq rfl (zI_in h0.1 h0.2.1 h0.2.2) hdg k1
theorem zr_iast (X : zK C l0 Γ0 n0 own cc ws d ret Post) (n' : Nat) {a tg n : Nat} {f : Nat → Int} {i x : Int} (hV : V a = some (tg, za Γ0.2.1 0 n f)) (h0 : 0 ≤ i ∧ i < n ∧ i ≤ 2147483647)  (hdg : decode cc pc = .ok (.iastore, 1)) (hn : pc + 1 = n') (kk : zG C (zu V a tg (za Γ0.2.1 0 n (zf f i.toNat x))) kc ks n' lv rest) : zG C V kc ks pc lv (.int (zI x) :: .int (zI i) :: .ref a :: rest) := by
  obtain ⟨⟨p, l, e, R, s, m, args, below, meth, c⟩, Γ, ⟨nL, mc, ms⟩, Q⟩ := C
  obtain ⟨hx, hb, hml, hown, hts, hO, hB0, hlk, hret, hmc, hms, hdf, hdl, hQ, rfl, rfl, rfl⟩ := X
  subst hn
  have hVa := hV
  intro H locs cells slots ls hV hS hl hcc hs
  obtain ⟨W0, hL, hP, hD⟩ := hV
  obtain ⟨q0, hq⟩ := (hL _ _).mp (zd_of hVa)
  refine va_iast hx hb hO.1 hP hD hS q0 0 hq rfl (zI_in h0.1 h0.2.1 h0.2.2) hdg (fun H1 locs1 hP1 hD1 hS1 => ?_)
  rw [zI_clamp h0.1 h0.2.2, zf_upd] at hP1 hD1
  exact kk H1 locs1 cells slots ls ⟨_, by rw [zd_zu]; exact hL.set hD hq, hP1, hD1⟩ hS1 hl hcc hs
theorem zI_nar_c {x : Int} (hr : 0 ≤ x ∧ x ≤ 65535) : vp_nar .char (zI x) = zI x := by
  obtain ⟨n, rfl⟩ := Int.eq_ofNat_of_zero_le hr.1
  have e : zI (n : Int) = nI n := (zI_nat n).symm
  rw [e]
  exact Value.int.inj (pk_charN (q := n) (by omega)).1
theorem zI_nar_b {x : Int} (hr : -128 ≤ x ∧ x ≤ 127) : vp_nar .byte (zI x) = zI x := by
  show (zI x).toInt8.toInt32 = zI x
  rw [← Int32.toInt_inj, zI_toInt x (by omega)]
  unfold zI
  rw [Int8.toInt_toInt32, Int32.toInt8_ofInt, Int8.toInt_ofInt]
  have e : ((Int8.size : Nat) : Int) = 256 := rfl
  rw [Int.bmod_eq_of_le] <;> rw [e] <;> omega
theorem zr_cast (X : zK C l0 Γ0 n0 own cc ws d ret Post) (n' : Nat) {a tg n : Nat} {f : Nat → Int} {i x : Int} (hV : V a = some (tg, za Γ0.2.1 1 n f)) (h0 : 0 ≤ i ∧ i < n ∧ i ≤ 2147483647) (hr : 0 ≤ x ∧ x ≤ 65535) (hdg : decode cc pc = .ok (.castore, 1)) (hn : pc + 1 = n') (kk : zG C (zu V a tg (za Γ0.2.1 1 n (zf f i.toNat x))) kc ks n' lv rest) : zG C V kc ks pc lv (.int (zI x) :: .int (zI i) :: .ref a :: rest) := by
  obtain ⟨⟨p, l, e, R, s, m, args, below, meth, c⟩, Γ, ⟨nL, mc, ms⟩, Q⟩ := C
  obtain ⟨hx, hb, hml, hown, hts, hO, hB0, hlk, hret, hmc, hms, hdf, hdl, hQ, rfl, rfl, rfl⟩ := X
  subst hn
  have hVa := hV
  intro H locs cells slots ls hV hS hl hcc hs
  obtain ⟨W0, hL, hP, hD⟩ := hV
  obtain ⟨q0, hq⟩ := (hL _ _).mp (zd_of hVa)
  refine va_cast hx hb hO.1 hP hD hS q0 1 hq rfl (zI_in h0.1 h0.2.1 h0.2.2) hdg (fun H1 locs1 hP1 hD1 hS1 => ?_)
  rw [zI_nar_c hr] at hP1 hD1
  rw [zI_clamp h0.1 h0.2.2, zf_upd] at hP1 hD1
  exact kk H1 locs1 cells slots ls ⟨_, by rw [zd_zu]; exact hL.set hD hq, hP1, hD1⟩ hS1 hl hcc hs
theorem zr_bast (X : zK C l0 Γ0 n0 own cc ws d ret Post) (n' : Nat) {a tg n : Nat} {f : Nat → Int} {i x : Int} (hV : V a = some (tg, za Γ0.2.1 2 n f)) (h0 : 0 ≤ i ∧ i < n ∧ i ≤ 2147483647) (hr : -128 ≤ x ∧ x ≤ 127) (hdg : decode cc pc = .ok (.bastore, 1)) (hn : pc + 1 = n') (kk : zG C (zu V a tg (za Γ0.2.1 2 n (zf f i.toNat x))) kc ks n' lv rest) : zG C V kc ks pc lv (.int (zI x) :: .int (zI i) :: .ref a :: rest) := by
  obtain ⟨⟨p, l, e, R, s, m, args, below, meth, c⟩, Γ, ⟨nL, mc, ms⟩, Q⟩ := C
  obtain ⟨hx, hb, hml, hown, hts, hO, hB0, hlk, hret, hmc, hms, hdf, hdl, hQ, rfl, rfl, rfl⟩ := X
  subst hn
  have hVa := hV
  intro H locs cells slots ls hV hS hl hcc hs
  obtain ⟨W0, hL, hP, hD⟩ := hV
  obtain ⟨q0, hq⟩ := (hL _ _).mp (zd_of hVa)
  refine va_bast hx hb hO.1 hP hD hS q0 2 hq rfl (zI_in h0.1 h0.2.1 h0.2.2) hdg (fun H1 locs1 hP1 hD1 hS1 => ?_)
  rw [zI_nar_b hr] at hP1 hD1
  rw [zI_clamp h0.1 h0.2.2, zf_upd] at hP1 hD1
  exact kk H1 locs1 cells slots ls ⟨_, by rw [zd_zu]; exact hL.set hD hq, hP1, hD1⟩ hS1 hl hcc hs
theorem W.zmono {p : Program} {l : Launch} {e : Env} {R : Room} {s : State} {m : MethodId} {args : Array Value} {below : List Frame} {meth : Method} {c : Code} {H : Heap} {locs : List Loc} {cells slots : Nat} {Q Q' : State → Prop} {g : JFrame} (h : ∀ t, Q t → Q' t) (k : W p l e R s m args below meth c H locs cells slots Q g) : W p l e R s m args below meth c H locs cells slots Q' g := by
  intro T hT X
  obtain ⟨t, a, b⟩ := k T hT X
  exact ⟨t, a, h t b⟩
/-! ends -/
theorem zr_iret (X : zK C l0 Γ0 n0 own cc ws d ret Post) {x : Int32} (hr : ret = some .int) (hp : Post (some (.int x)) V) (hdg : decode cc pc = .ok (.ireturn, 1)) : zG C V kc ks pc lv [.int x] := by
  obtain ⟨⟨p, l, e, R, s, m, args, below, meth, c⟩, Γ, ⟨nL, mc, ms⟩, Q⟩ := C
  obtain ⟨hx, hb, hml, hown, hts, hO, hB0, hlk, hret, hmc, hms, hdf, hdl, hQ, rfl, rfl, rfl⟩ := X
  intro H locs cells slots ls hV hS hl hcc hs
  refine W.widen (k := mc) (n := ms) (by omega) (by omega) (W.zmono hQ ?_)
  exact W.iret (v := x) hx hb (by rw [hret, hr]) (fun t ht hW => ⟨⟨_, V, rfl, hp, by rw [ht]; exact hV⟩, hS.F ht⟩) hS.2.2 hdg hlk
theorem zr_zret (X : zK C l0 Γ0 n0 own cc ws d ret Post) {x : Int32} {ty : FieldType} (hr : ret = some ty) (hnw : narrow ty (.int x) = .int x) (hp : Post (some (.int x)) V) (hdg : decode cc pc = .ok (.ireturn, 1)) : zG C V kc ks pc lv [.int x] := by
  obtain ⟨⟨p, l, e, R, s, m, args, below, meth, c⟩, Γ, ⟨nL, mc, ms⟩, Q⟩ := C
  obtain ⟨hx, hb, hml, hown, hts, hO, hB0, hlk, hret, hmc, hms, hdf, hdl, hQ, rfl, rfl, rfl⟩ := X
  intro H locs cells slots ls hV hS hl hcc hs
  refine W.widen (k := mc) (n := ms) (by omega) (by omega) (W.zmono hQ ?_)
  exact W.zret (v := x) hx hb (by rw [hret, hr]) hnw (fun t ht hW => ⟨⟨_, V, rfl, hp, by rw [ht]; exact hV⟩, hS.F ht⟩) hS.2.2 hdg hlk
theorem zr_lret (X : zK C l0 Γ0 n0 own cc ws d ret Post) {x : Int64} (hr : ret = some .long) (hp : Post (some (.long x)) V) (hdg : decode cc pc = .ok (.lreturn, 1)) : zG C V kc ks pc lv [.long x] := by
  obtain ⟨⟨p, l, e, R, s, m, args, below, meth, c⟩, Γ, ⟨nL, mc, ms⟩, Q⟩ := C
  obtain ⟨hx, hb, hml, hown, hts, hO, hB0, hlk, hret, hmc, hms, hdf, hdl, hQ, rfl, rfl, rfl⟩ := X
  intro H locs cells slots ls hV hS hl hcc hs
  refine W.widen (k := mc) (n := ms) (by omega) (by omega) (W.zmono hQ ?_)
  exact W.lret (v := x) hx hb (by rw [hret, hr]) (fun t ht hW => ⟨⟨_, V, rfl, hp, by rw [ht]; exact hV⟩, hS.F ht⟩) hS.2.2 hdg hlk
theorem zr_vret (X : zK C l0 Γ0 n0 own cc ws d ret Post) (hr : ret = none) (hp : Post none V) (hdg : decode cc pc = .ok (.return_, 1)) : zG C V kc ks pc lv [] := by
  obtain ⟨⟨p, l, e, R, s, m, args, below, meth, c⟩, Γ, ⟨nL, mc, ms⟩, Q⟩ := C
  obtain ⟨hx, hb, hml, hown, hts, hO, hB0, hlk, hret, hmc, hms, hdf, hdl, hQ, rfl, rfl, rfl⟩ := X
  intro H locs cells slots ls hV hS hl hcc hs
  refine W.widen (k := mc) (n := ms) (by omega) (by omega) (W.zmono hQ ?_)
  exact W.vret hx hb (by rw [hret, hr]) (fun t ht hW => ⟨⟨_, V, rfl, hp, by rw [ht]; exact hV⟩, hS.F ht⟩) hS.2.2 hdg hlk
theorem zr_aret (X : zK C l0 Γ0 n0 own cc ws d ret Post) {x : Nat} {rt : FieldType} (hr : ret = some rt) (hrt : (∃ n, rt = .object n) ∨ ∃ t, rt = .array t) (hp : Post (some (.ref x)) V) (hdg : decode cc pc = .ok (.areturn, 1)) : zG C V kc ks pc lv [.ref x] := by
  obtain ⟨⟨p, l, e, R, s, m, args, below, meth, c⟩, Γ, ⟨nL, mc, ms⟩, Q⟩ := C
  obtain ⟨hx, hb, hml, hown, hts, hO, hB0, hlk, hret, hmc, hms, hdf, hdl, hQ, rfl, rfl, rfl⟩ := X
  intro H locs cells slots ls hV hS hl hcc hs
  refine W.widen (k := mc) (n := ms) (by omega) (by omega) (W.zmono hQ ?_)
  exact W.aret (v := .ref x) hx hb (by rw [hret, hr]) hrt (Or.inr ⟨_, rfl⟩) (fun t ht hW => ⟨⟨_, V, rfl, hp, by rw [ht]; exact hV⟩, hS.F ht⟩) hS.2.2 hdg hlk
/-! calls -/
theorem zO_call {Γ : zGam} {s U : State} {H : Heap} {locs : List Loc} (hO : zO Γ s s.heap) (hS : va_S (zA Γ.2.2.2) s.heap H locs) (hU : U.heap = H) (hW : s.WarmedH U.vm) : zO Γ U U.heap := by
  rw [hU]
  exact (hO.kept (fun a h1 h2 => hS.2.1 a h1 h2)).warm hW
theorem zRunG (X : zK C l0 Γ0 n0 own cc ws d ret Post) {mc' ms' n' : Nat} {st : List Value} {a : Array Value} {P' : Option Value → zV → Prop} {rest : List Value}
    (hr : ∀ (H : Heap) (locs : List Loc) (cells slots : Nat) (ls : Array Slot), zH Γ0 V H → va_S (zA Γ0.2.2.2) C.1.2.2.2.2.1.heap H locs → lv_has ls n0 lv → cells + mc' ≤ C.2.2.1.2.1 → slots + ms' ≤ C.2.2.1.2.2 →
      va_Run C.1.1 C.1.2.1 C.1.2.2.1 C.1.2.2.2.1 C.1.2.2.2.2.1 C.1.2.2.2.2.2.1 C.1.2.2.2.2.2.2.1 C.1.2.2.2.2.2.2.2.1 C.1.2.2.2.2.2.2.2.2.1 C.1.2.2.2.2.2.2.2.2.2 H locs cells slots mc' ms' (F0 C.1.2.2.2.2.2.1 pc ls st) rest (zQ Γ0 P' a) (zA Γ0.2.2.2))
    (hn : pc + 3 = n') {kc' ks' : Nat} (hkc : kc' + mc' ≤ kc) (hks : ks' + ms' ≤ ks) (kk : ∀ (rv : Option Value) (V' : zV), P' rv V' → zG C V' kc' ks' n' lv (rv.toList ++ rest)) : zG C V kc ks pc lv st := by
  obtain ⟨⟨p, l, e, R, s, m, args, below, meth, c⟩, Γ, ⟨nL, mc, ms⟩, Q⟩ := C
  obtain ⟨hx, hb, hml, hown, hts, hO, hB0, hlk, hret, hmc, hms, hdf, hdl, hQ, rfl, rfl, rfl⟩ := X
  subst hn
  intro H locs cells slots ls hV hS hl hcc hs T hT X
  dsimp only at hr
  obtain ⟨v, st₀, t, T', L, h0, X', hL, e1, e2, ⟨⟨rv, V', hv, hp, hH⟩, hF⟩, sg⟩ := hr H locs cells slots ls hV hS hl (by omega) (by omega) T hT X
  cases hv
  obtain ⟨k1, k2, k3⟩ := vx_keep h0 e1 hS (fun _ _ h => h) (fun _ h => h) hL hF
  obtain ⟨t2, a1, b1⟩ := kk v V' hp T'.heap (locs ++ L) (cells + mc') (slots + ms') ls (by rw [e1]; exact hH) k3 hl (by omega) (by omega) T' rfl X'
  exact ⟨t2, sg t2 a1, b1⟩
theorem zrm {d d' maxL R1 R2 : Nat} (h : d' + 1 ≤ d ∧ maxL ≤ 41) (h1 : d ≤ R1) (h2 : 60 * d ≤ R2) : d' + 1 ≤ R1 ∧ 8 + (maxL + 11) + 60 * d' ≤ R2 := by omega
theorem zr_callV (X : zK C l0 Γ0 n0 own cc ws d ret Post) (n' nA : Nat) {index maxL d' mc' ms' b ci tg N kc' ks' : Nat} {CC : String} {y : MethodName} {bytes : ByteArray} {rt : Option FieldType} {wsy wsy' : List Cond} {fs As : List Value} {P' : Option Value → zV → Prop} {TT : u_T} {st : List Value}
    (hM : zM l0 Γ0 d' y wsy mc' ms' V (.ref b :: As) P') (hT : GoodIn ws (wsV own index CC y wsy)) (hw : wsy = Cond.code y bytes maxL rt :: wsy')
    (hd : y.cls = CC ∧ y.cls ≠ "java/lang/invoke/MethodHandle" ∧ y.cls ≠ "java/lang/invoke/VarHandle" ∧ (parseMethodDescriptor y.desc).map (fun d => d.parameters.length) = some nA) (hA : As.length = nA) (hdd : d' + 1 ≤ d ∧ maxL ≤ 41)
    (hV : V b = some (tg, .inr (ci, fs))) (hc : vwCl[ci]? = some (CC, TT, N)) (hst : st = As.reverse ++ .ref b :: rest) (hcat : (rest.map fun v => v.category).sum ≤ 8)
    (hdg : decode cc pc = .ok (.invokevirtual index, 3)) (hn : pc + 3 = n') (hkc : kc' + mc' ≤ kc) (hks : ks' + ms' ≤ ks) (kk : ∀ (rv : Option Value) (V' : zV), P' rv V' → zG C V' kc' ks' n' lv (rv.toList ++ rest)) : zG C V kc ks pc lv st := by
  subst hst
  refine zRunG X (a := (Value.ref b :: As).toArray) (P' := P') (rest := rest) ?_ hn hkc hks kk
  clear kk
  obtain ⟨⟨p, l, e, R, s, m, args, below, meth, c⟩, Γ, ⟨nL, mc, ms⟩, Q⟩ := C
  obtain ⟨hx, hb, hml, hown, hts, hO, hB0, hlk, hret, hmc, hms, hdf, hdl, hQ, rfl, rfl, rfl⟩ := X
  intro H locs cells slots ls hH hS hl hcc hs
  have hcc : cells + mc' ≤ mc := hcc
  have hs : slots + ms' ≤ ms := hs
  have hH0 := hH
  obtain ⟨W0, hL, hP, hD⟩ := hH
  obtain ⟨q0, hq⟩ := (hL _ _).mp (zd_of hV)
  exact va_runV ⟨hx, hb, hml, hown, hts⟩ hM (cwV nA hts hT hw rfl rfl hd (zrm hdd hdf hdl)) ⟨zPc.blind, va_recv hO.1 hP hc hq, fun U hU hW => ⟨rfl, by rw [hU]; exact Nat.le_trans hB0 hS.1, by rw [hU]; exact hH0, zO_call hO hS hU hW⟩⟩ rfl hA hl.1 rfl (lv_room hcat) hdg ⟨Nat.le_trans hcc hmc, Nat.le_trans hs hms⟩
theorem zr_callS (X : zK C l0 Γ0 n0 own cc ws d ret Post) (n' nA : Nat) {index maxL d' mc' ms' kc' ks' : Nat} {y : MethodName} {bytes : ByteArray} {rt : Option FieldType} {wsy wsy' : List Cond} {As : List Value} {P' : Option Value → zV → Prop} {st : List Value}
    (hM : zM l0 Γ0 d' y wsy mc' ms' V As P') (hT : GoodIn ws (va_wsS own index y wsy)) (hw : wsy = Cond.code y bytes maxL rt :: wsy')
    (hd : y.cls ≠ "java/lang/invoke/MethodHandle" ∧ y.cls ≠ "java/lang/invoke/VarHandle" ∧ (parseMethodDescriptor y.desc).map (fun d => d.parameters.length) = some nA) (hA : As.length = nA) (hdd : d' + 1 ≤ d ∧ maxL ≤ 41)
    (hst : st = As.reverse ++ rest) (hcat : (rest.map fun v => v.category).sum ≤ 8)
    (hdg : decode cc pc = .ok (.invokestatic index, 3)) (hn : pc + 3 = n') (hkc : kc' + mc' ≤ kc) (hks : ks' + ms' ≤ ks) (kk : ∀ (rv : Option Value) (V' : zV), P' rv V' → zG C V' kc' ks' n' lv (rv.toList ++ rest)) : zG C V kc ks pc lv st := by
  subst hst
  refine zRunG X (a := As.toArray) (P' := P') (rest := rest) ?_ hn hkc hks kk
  clear kk
  obtain ⟨⟨p, l, e, R, s, m, args, below, meth, c⟩, Γ, ⟨nL, mc, ms⟩, Q⟩ := C
  obtain ⟨hx, hb, hml, hown, hts, hO, hB0, hlk, hret, hmc, hms, hdf, hdl, hQ, rfl, rfl, rfl⟩ := X
  intro H locs cells slots ls hH hS hl hcc hs
  have hcc : cells + mc' ≤ mc := hcc
  have hs : slots + ms' ≤ ms := hs
  exact va_runS ⟨hx, hb, hml, hown, hts⟩ hM (va_cwS nA hts hT hw rfl rfl hd (zrm hdd hdf hdl)) ⟨zPc.blind, fun U hU hW => ⟨rfl, by rw [hU]; exact Nat.le_trans hB0 hS.1, by rw [hU]; exact hH, zO_call hO hS hU hW⟩⟩ rfl hA hl.1 rfl (lv_room hcat) hdg ⟨Nat.le_trans hcc hmc, Nat.le_trans hs hms⟩
end ZR
