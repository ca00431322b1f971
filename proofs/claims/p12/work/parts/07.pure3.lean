section ZR3
variable {C : zC} {l0 : Launch} {Γ0 : zGam} {n0 : Nat} {own : String} {cc : ByteArray} {ws : List Cond} {d : Nat} {ret : Option FieldType} {Post : Option Value → zV → Prop} {V : zV} {kc ks pc : Nat} {lv : List (Nat × Value)} {rest : List Value}
theorem zr_copyb (X : zK C l0 Γ0 n0 own cc ws d ret Post) (n' : Nat) {index a0 a tg0 tg n0 n1 : Nat} {f g : Nat → Int} {sp dp n : Int} (h0 : V a0 = some (tg0, za Γ0.2.1 2 n0 f)) (h1 : V a = some (tg, za Γ0.2.1 2 n1 g)) (hbd : ∀ j, -128 ≤ f j ∧ f j ≤ 127) (hlink : Cond.methodLink own index arraycopyName ∈ ws) (hnat : Cond.native arraycopyName ∈ ws) (hstat : Cond.static arraycopyName ∈ ws) (hini : Cond.initialized "java/lang/System" ∈ ws)
    (hr : 0 ≤ sp ∧ 0 ≤ dp ∧ 0 ≤ n ∧ sp + n ≤ n0 ∧ dp + n ≤ n1 ∧ n0 ≤ 100000 ∧ n1 ≤ 100000) (hd : 2 ≤ d) (hcat : (rest.map fun v => v.category).sum ≤ 8) (hdg : decode cc pc = .ok (.invokestatic index, 3)) (hn : pc + 3 = n') (kk : zG C (zu V a tg (za Γ0.2.1 2 n1 (zcp f g sp.toNat dp.toNat n.toNat))) kc ks n' lv rest) : zG C V kc ks pc lv (.int (zI n) :: .int (zI dp) :: .ref a :: .int (zI sp) :: .ref a0 :: rest) := by
  obtain ⟨⟨p, l, e, R, s, m, args, below, meth, c⟩, Γ, ⟨nL, mc, ms⟩, Q⟩ := C
  obtain ⟨hx, hb, hml, hown, hts, hO, hB0, hlk, hret, hmc, hms, hdf, hdl, hQ, rfl, rfl, rfl⟩ := X
  subst hn
  intro H locs cells slots ls hV hS hl hcc hs
  obtain ⟨W0, hL, hP, hD⟩ := hV
  obtain ⟨q0, hq0⟩ := (hL _ _).mp (zd_of h0)
  obtain ⟨q1, hq1⟩ := (hL _ _).mp (zd_of h1)
  have c1 : (zI sp).toNatClampNeg = sp.toNat := zI_clamp hr.1 (by omega)
  have c2 : (zI dp).toNatClampNeg = dp.toNat := zI_clamp hr.2.1 (by omega)
  have c3 : (zI n).toNatClampNeg = n.toNat := zI_clamp hr.2.2.1 (by omega)
  have ng : ∀ z : Int, 0 ≤ z → z ≤ 100000 → ¬ zI z < 0 := fun z hz hz2 => by rw [← zI_0, zI_lt (by omega) (by omega)]; omega
  refine va_copyi hx hb (hml.trans hl.1.symm) hown (hts _ hlink) (hts _ hnat) (hts _ hstat) (hts _ hini) hO.1 hP hD hS q0 q1 2 2 (ty := .byte) hq0 hq1 rfl rfl rfl (ng _ hr.1 (by omega)) (ng _ hr.2.1 (by omega)) (ng _ hr.2.2.1 (by omega)) (by rw [c1, c3]; omega) (by rw [c2, c3]; omega) (fun i _ => zI_fb (hbd _)) (by omega) ?_ hdg (fun H1 locs1 hP1 hD1 hS1 => ?_)
  · have e : nativeFrameWords "java/lang/System" "arraycopy" 5 ≤ 60 := by decide +kernel
    omega
  · rw [c1, c2, c3] at hP1 hD1
    have e : va_cpy (fun j => zI (f j)) (fun j => zI (g j)) sp.toNat dp.toNat n.toNat = fun j => zI (zcp f g sp.toNat dp.toNat n.toNat j) := by
      funext j
      unfold va_cpy zcp
      split <;> rfl
    rw [e] at hP1 hD1
    exact kk H1 locs1 cells slots ls ⟨_, by rw [zd_zu]; exact hL.set hD hq1, hP1, hD1⟩ hS1 hl hcc hs
theorem zr_cloneB (X : zK C l0 Γ0 n0 own cc ws d ret Post) (n' tg : Nat) {index a tg0 n kc' ks' : Nat} {f : Nat → Int} (h0 : V a = some (tg0, za Γ0.2.1 2 n f)) (hbd : ∀ j, -128 ≤ f j ∧ f j ≤ 127) (hlink : Cond.methodLink own index ⟨"[B", "clone", "()Ljava/lang/Object;"⟩ ∈ ws) (hsame : Cond.sameMethod "[B" "java/lang/Object" "clone" "()Ljava/lang/Object;" ∈ ws) (hnat : Cond.native ⟨"java/lang/Object", "clone", "()Ljava/lang/Object;"⟩ ∈ ws) (hinst : Cond.instanceMethod ⟨"java/lang/Object", "clone", "()Ljava/lang/Object;"⟩ ∈ ws) (hsel : Cond.selects "[B" ⟨"[B", "clone", "()Ljava/lang/Object;"⟩ ⟨"java/lang/Object", "clone", "()Ljava/lang/Object;"⟩ ∈ ws)
    (hd : 2 ≤ d) (hcat : (rest.map fun v => v.category).sum ≤ 8) (hdg : decode cc pc = .ok (.invokevirtual index, 3)) (hn : pc + 3 = n') (hkc : kc' + 1 ≤ kc) (hks : ks' + n ≤ ks) (kk : ∀ q : Nat, V q = none → zG C (zu V q tg (za Γ0.2.1 2 n f)) kc' ks' n' lv (.ref q :: rest)) : zG C V kc ks pc lv (.ref a :: rest) := by
  obtain ⟨⟨p, l, e, R, s, m, args, below, meth, c⟩, Γ, ⟨nL, mc, ms⟩, Q⟩ := C
  obtain ⟨hx, hb, hml, hown, hts, hO, hB0, hlk, hret, hmc, hms, hdf, hdl, hQ, rfl, rfl, rfl⟩ := X
  subst hn
  intro H locs cells slots ls hV hS hl hcc hs
  obtain ⟨W0, hL, hP, hD⟩ := hV
  obtain ⟨q0, hq0⟩ := (hL _ _).mp (zd_of h0)
  have hO1 := hO
  obtain ⟨-, -, -, -, -, -, -, -, -, -, -, -, o13, -⟩ := hO1
  refine va_clone (ad := "[B") (ty := .byte) hx hb (hml.trans hl.1.symm) hown (hts _ hlink) (hts _ hsame) (hts _ hnat) (hts _ hinst) (hts _ hsel) o13 hO.1 hP hD hS (fun q h => Nat.le_trans hB0 h) q0 2 hq0 rfl (hO.1.2 2 _ rfl).2 (fun i v hv => ?_) (by omega) (by omega) (by omega) (by show slots + n ≤ _; omega) hdg (fun q H1 hK1 hP1 hD1 hS1 => kk q (zD_new hL hD1) H1 locs (cells + 1) (slots + n) ls (zH.push hL (zD_new hL hD1) hP1 hD1) hS1 hl (by omega) (by omega))
  exact va_fit (cA := Γ.2.1 2) (n := n) (F := fun j => .int (zI (f j))) (fun i _ => zI_fb (hbd i)) i v hv
theorem zr_castB (X : zK C l0 Γ0 n0 own cc ws d ret Post) (n' : Nat) {index a tg n : Nat} {f : Nat → Int} (h0 : V a = some (tg, za Γ0.2.1 2 n f)) (hlink : Cond.classLink own index "[B" ∈ ws) (hdg : decode cc pc = .ok (.checkcast index, 3)) (hn : pc + 3 = n') (kk : zG C V kc ks n' lv (.ref a :: rest)) : zG C V kc ks pc lv (.ref a :: rest) := by
  obtain ⟨⟨p, l, e, R, s, m, args, below, meth, c⟩, Γ, ⟨nL, mc, ms⟩, Q⟩ := C
  obtain ⟨hx, hb, hml, hown, hts, hO, hB0, hlk, hret, hmc, hms, hdf, hdl, hQ, rfl, rfl, rfl⟩ := X
  subst hn
  intro H locs cells slots ls hV hS hl hcc hs
  have hV0 := hV
  obtain ⟨W0, hL, hP, hD⟩ := hV
  obtain ⟨q0, hq0⟩ := (hL _ _).mp (zd_of h0)
  exact va_castA hx hb hown (hts _ hlink) hP q0 hq0 (hO.1.2 2 _ rfl).2 hdg (kk H locs cells slots ls hV0 hS hl hcc hs)
theorem zr_callSU (X : zK C l0 Γ0 n0 own cc ws d ret Post) (n' nA : Nat) {index maxL d' mc' ms' b ci tg N kc' ks' : Nat} {CC : String} {y : MethodName} {bytes : ByteArray} {rt : Option FieldType} {wsy wsy' : List Cond} {fs As : List Value} {P' : Option Value → zV → Prop} {TT : u_T} {st : List Value}
    (hM : zM l0 Γ0 d' y wsy mc' ms' V (.ref b :: As) P') (hT : GoodIn ws (va_wsSU own index y wsy)) (hw : wsy = Cond.code y bytes maxL rt :: wsy')
    (hd : y.name ≠ "<init>" ∧ (parseMethodDescriptor y.desc).map (fun d => d.parameters.length) = some nA) (hA : As.length = nA) (hdd : d' + 1 ≤ d ∧ maxL ≤ 41)
    (hV : V b = some (tg, .inr (ci, fs))) (hc : vwCl[ci]? = some (CC, TT, N)) (hst : st = As.reverse ++ .ref b :: rest) (hcat : (rest.map fun v => v.category).sum ≤ 8)
    (hdg : decode cc pc = .ok (.invokespecial index, 3)) (hn : pc + 3 = n') (hkc : kc' + mc' ≤ kc) (hks : ks' + ms' ≤ ks) (kk : ∀ (rv : Option Value) (V' : zV), P' rv V' → zG C V' kc' ks' n' lv (rv.toList ++ rest)) : zG C V kc ks pc lv st := by
  subst hst
  refine zRunG X (a := (Value.ref b :: As).toArray) (P' := P') (rest := rest) ?_ hn hkc hks kk
  clear kk
  obtain ⟨⟨p, l, e, R, s, m, args, below, meth, c⟩, Γ, ⟨nL, mc, ms⟩, Q⟩ := C
  obtain ⟨hx, hb, hml, hown, hts, hO, hB0, hlk, hret, hmc, hms, hdf, hdl, hQ, rfl, rfl, rfl⟩ := X
  intro H locs cells slots ls hH hS hl hcc hs
  have hcc : cells + mc' ≤ mc := hcc
  have hs : slots + ms' ≤ ms := hs
  have hH0 := hH
  obtain ⟨W0, hL, hP, hD⟩ := hH
  obtain ⟨q0, hq⟩ := (hL _ _).mp (zd_of hV)
  exact va_runSU (hO.1.1 ci _ hc).2 ⟨hx, hb, hml, hown, hts⟩ hM (va_cwSU nA hts hT hw rfl rfl hd (zrm hdd hdf hdl)) ⟨zPc.blind, va_recv hO.1 hP hc hq, fun U hU hW => ⟨rfl, by rw [hU]; exact Nat.le_trans hB0 hS.1, by rw [hU]; exact hH0, zO_call hO hS hU hW⟩⟩ rfl hA hl.1 rfl (lv_room hcat) hdg ⟨Nat.le_trans hcc hmc, Nat.le_trans hs hms⟩
theorem zr_callU2 (X : zK C l0 Γ0 n0 own cc ws d ret Post) (n' nA : Nat) {index maxL d' mc' ms' b ci tg N kc' ks' : Nat} {CC owner : String} {x y : MethodName} {bytes : ByteArray} {rt : Option FieldType} {wsy wsy' : List Cond} {fs As : List Value} {P' : Option Value → zV → Prop} {TT : u_T} {st : List Value}
    (hM : zM l0 Γ0 d' y wsy mc' ms' V (.ref b :: As) P') (hT : GoodIn ws (va_wsU own index CC owner x y wsy)) (hw : wsy = Cond.code y bytes maxL rt :: wsy') (hyx : y = ⟨owner, x.name, x.desc⟩)
    (hd : owner ≠ "java/lang/invoke/MethodHandle" ∧ owner ≠ "java/lang/invoke/VarHandle" ∧ (parseMethodDescriptor x.desc).map (fun d => d.parameters.length) = some nA) (hA : As.length = nA) (hdd : d' + 1 ≤ d ∧ maxL ≤ 41)
    (hV : V b = some (tg, .inr (ci, fs))) (hc : vwCl[ci]? = some (CC, TT, N)) (hst : st = As.reverse ++ .ref b :: rest) (hcat : (rest.map fun v => v.category).sum ≤ 8)
    (hdg : decode cc pc = .ok (.invokevirtual index, 3)) (hn : pc + 3 = n') (hkc : kc' + mc' ≤ kc) (hks : ks' + ms' ≤ ks) (kk : ∀ (rv : Option Value) (V' : zV), P' rv V' → zG C V' kc' ks' n' lv (rv.toList ++ rest)) : zG C V kc ks pc lv st := by
  subst hst
  refine zRunG X (a := (Value.ref b :: As).toArray) (P' := P') (rest := rest) ?_ hn hkc hks kk
  clear kk
  obtain ⟨⟨p, l, e, R, s, m, args, below, meth, c⟩, Γ, ⟨nL, mc, ms⟩, Q⟩ := C
  obtain ⟨hx, hb, hml, hown, hts, hO, hB0, hlk, hret, hmc, hms, hdf, hdl, hQ, rfl, rfl, rfl⟩ := X
  intro H locs cells slots ls hH hS hl hcc hs
  have hcc : cells + mc' ≤ mc := hcc
  have hs : slots + ms' ≤ ms := hs
  have hH0 := hH
  obtain ⟨W0, hL, hP, hD⟩ := hH
  obtain ⟨q0, hq⟩ := (hL _ _).mp (zd_of hV)
  exact va_runU ⟨hx, hb, hml, hown, hts⟩ hM (va_cwU nA hts hT hw rfl rfl hyx hd (zrm hdd hdf hdl)) ⟨zPc.blind, va_recv hO.1 hP hc hq, fun U hU hW => ⟨rfl, by rw [hU]; exact Nat.le_trans hB0 hS.1, by rw [hU]; exact hH0, zO_call hO hS hU hW⟩⟩ rfl hA hl.1 rfl (lv_room hcat) hdg ⟨Nat.le_trans hcc hmc, Nat.le_trans hs hms⟩
theorem zr_callO (X : zK C l0 Γ0 n0 own cc ws d ret Post) (n' nA : Nat) {index maxL d' mc' ms' b ci tg N kc' ks' m0 : Nat} {CC owner : String} {x y : MethodName} {bytes b0 : ByteArray} {rt r0 : Option FieldType} {wsy wsy' : List Cond} {fs As : List Value} {P' : Option Value → zV → Prop} {TT : u_T} {st : List Value}
    (hM : zM l0 Γ0 d' y wsy mc' ms' V (.ref b :: As) P') (hT : GoodIn ws (va_wsO own index CC owner x y wsy)) (hw : wsy = Cond.code y bytes maxL rt :: wsy') (h0 : Cond.code ⟨owner, x.name, x.desc⟩ b0 m0 r0 ∈ ws)
    (hd : owner ≠ "java/lang/invoke/MethodHandle" ∧ owner ≠ "java/lang/invoke/VarHandle" ∧ (parseMethodDescriptor x.desc).map (fun d => d.parameters.length) = some nA) (hA : As.length = nA) (hdd : d' + 1 ≤ d ∧ maxL ≤ 41)
    (hV : V b = some (tg, .inr (ci, fs))) (hc : vwCl[ci]? = some (CC, TT, N)) (hst : st = As.reverse ++ .ref b :: rest) (hcat : (rest.map fun v => v.category).sum ≤ 8)
    (hdg : decode cc pc = .ok (.invokevirtual index, 3)) (hn : pc + 3 = n') (hkc : kc' + mc' ≤ kc) (hks : ks' + ms' ≤ ks) (kk : ∀ (rv : Option Value) (V' : zV), P' rv V' → zG C V' kc' ks' n' lv (rv.toList ++ rest)) : zG C V kc ks pc lv st := by
  subst hst
  refine zRunG X (a := (Value.ref b :: As).toArray) (P' := P') (rest := rest) ?_ hn hkc hks kk
  clear kk
  obtain ⟨⟨p, l, e, R, s, m, args, below, meth, c⟩, Γ, ⟨nL, mc, ms⟩, Q⟩ := C
  obtain ⟨hx, hb, hml, hown, hts, hO, hB0, hlk, hret, hmc, hms, hdf, hdl, hQ, rfl, rfl, rfl⟩ := X
  intro H locs cells slots ls hH hS hl hcc hs
  have hcc : cells + mc' ≤ mc := hcc
  have hs : slots + ms' ≤ ms := hs
  have hH0 := hH
  obtain ⟨W0, hL, hP, hD⟩ := hH
  obtain ⟨q0, hq⟩ := (hL _ _).mp (zd_of hV)
  exact va_runU ⟨hx, hb, hml, hown, hts⟩ hM (va_cwO nA hts hT hw rfl rfl h0 hd (zrm hdd hdf hdl)) ⟨zPc.blind, va_recv hO.1 hP hc hq, fun U hU hW => ⟨rfl, by rw [hU]; exact Nat.le_trans hB0 hS.1, by rw [hU]; exact hH0, zO_call hO hS hU hW⟩⟩ rfl hA hl.1 rfl (lv_room hcat) hdg ⟨Nat.le_trans hcc hmc, Nat.le_trans hs hms⟩
end ZR3
