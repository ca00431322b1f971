section ZR3
variable {C : zC} {l0 : Launch} {Γ0 : zGam} {n0 : Nat} {own : String} {cc : ByteArray} {ws : List Cond} {d : Nat} {ret : Option FieldType} {Post : Option Value → zV → Prop} {V : zV} {kc ks pc : Nat} {lv : List (Nat × Value)} {rest : List Value}
theorem zI_b {x : Int} (hr : -128 ≤ x ∧ x ≤ 127) : (zI x).toInt8.toInt32 = zI x := zI_nar_b hr
theorem zI_fb {x : Int} (hr : -128 ≤ x ∧ x ≤ 127) : fits .byte (.int (zI x)) = true := by
  have h := pk_fb (zI x)
  rwa [zI_b hr] at h
theorem zI_nb {x : Int} (hr : -128 ≤ x ∧ x ≤ 127) : narrow .byte (.int (zI x)) = .int (zI x) := by
  have h := pk_nb (zI x)
  rwa [zI_b hr] at h
theorem zr_null (X : zK C l0 Γ0 n0 own cc ws d ret Post) (n' : Nat) (hdg : decode cc pc = .ok (.aconst_null, 1)) (hn : pc + 1 = n') (kk : zG C V kc ks n' lv (.null :: rest)) : zG C V kc ks pc lv rest := by
  obtain ⟨⟨p, l, e, R, s, m, args, below, meth, c⟩, Γ, ⟨nL, mc, ms⟩, Q⟩ := C
  obtain ⟨hx, hb, hml, hown, hts, hO, hB0, hlk, hret, hmc, hms, hdf, hdl, hQ, rfl, rfl, rfl⟩ := X
  subst hn
  intro H locs cells slots ls hV hS hl hcc hs
  exact lv_null hx hb hdg (kk H locs cells slots ls hV hS hl hcc hs)
theorem zr_ishl0 (X : zK C l0 Γ0 n0 own cc ws d ret Post) (n' : Nat) {x : Int32} (hdg : decode cc pc = .ok (.ishl, 1)) (hn : pc + 1 = n') (kk : zG C V kc ks n' lv (.int x :: rest)) : zG C V kc ks pc lv (.int (zI 0) :: .int x :: rest) := by
  obtain ⟨⟨p, l, e, R, s, m, args, below, meth, c⟩, Γ, ⟨nL, mc, ms⟩, Q⟩ := C
  obtain ⟨hx, hb, hml, hown, hts, hO, hB0, hlk, hret, hmc, hms, hdf, hdl, hQ, rfl, rfl, rfl⟩ := X
  subst hn
  intro H locs cells slots ls hV hS hl hcc hs
  have e : x <<< (zI 0 &&& 31) = x := by
    have e1 : (zI 0 &&& 31) = 0 := by decide +kernel
    rw [e1]
    simp
  exact lv_ishl hx hb hdg (by rw [e]; exact kk H locs cells slots ls hV hS hl hcc hs)
theorem zr_ishr0 (X : zK C l0 Γ0 n0 own cc ws d ret Post) (n' : Nat) {x : Int32} (hdg : decode cc pc = .ok (.ishr, 1)) (hn : pc + 1 = n') (kk : zG C V kc ks n' lv (.int x :: rest)) : zG C V kc ks pc lv (.int (zI 0) :: .int x :: rest) := by
  obtain ⟨⟨p, l, e, R, s, m, args, below, meth, c⟩, Γ, ⟨nL, mc, ms⟩, Q⟩ := C
  obtain ⟨hx, hb, hml, hown, hts, hO, hB0, hlk, hret, hmc, hms, hdf, hdl, hQ, rfl, rfl, rfl⟩ := X
  subst hn
  intro H locs cells slots ls hV hS hl hcc hs
  have e : x >>> (zI 0 &&& 31) = x := by
    have e1 : (zI 0 &&& 31) = 0 := by decide +kernel
    rw [e1]
    simp
  exact lv_ishr hx hb hdg (by rw [e]; exact kk H locs cells slots ls hV hS hl hcc hs)
theorem zr_getsD (X : zK C l0 Γ0 n0 own cc ws d ret Post) (n' i : Nat) {index : Nat} {nm : String} (hi : (i = 20 ∧ nm = "DigitOnes") ∨ (i = 21 ∧ nm = "DigitTens")) (hlink : Cond.fieldLink own index "java/lang/Integer" nm "[B" ∈ ws) (hdg : decode cc pc = .ok (.getstatic index, 3)) (hn : pc + 3 = n') (kk : zG C V kc ks n' lv (.ref (Γ0.2.2.1 i) :: rest)) : zG C V kc ks pc lv rest := by
  obtain ⟨⟨p, l, e, R, s, m, args, below, meth, c⟩, Γ, ⟨nL, mc, ms⟩, Q⟩ := C
  obtain ⟨hx, hb, hml, hown, hts, hO, hB0, hlk, hret, hmc, hms, hdf, hdl, hQ, rfl, rfl, rfl⟩ := X
  subst hn
  intro H locs cells slots ls hV hS hl hcc hs
  have hD : zDg Γ i nm s s.heap := by
    rcases hi with ⟨rfl, rfl⟩ | ⟨rfl, rfl⟩
    · exact hO.2.2.2.2.2.2.2.2.2.2.2.2.2.1
    · exact hO.2.2.2.2.2.2.2.2.2.2.2.2.2.2
  exact va_gets hx hb hD.1 hS hown (hts _ hlink) (fun _ h => h) hdg (kk H locs cells slots ls hV hS hl hcc hs)
theorem zr_baldD (X : zK C l0 Γ0 n0 own cc ws d ret Post) (n' i : Nat) {k : Int} (hi : i = 20 ∨ i = 21) (hk : 0 ≤ k ∧ k < 100) (hdg : decode cc pc = .ok (.baload, 1)) (hn : pc + 1 = n') (kk : ∀ x : Int, 48 ≤ x ∧ x ≤ 57 → zG C V kc ks n' lv (.int (zI x) :: rest)) : zG C V kc ks pc lv (.int (zI k) :: .ref (Γ0.2.2.1 i) :: rest) := by
  obtain ⟨⟨p, l, e, R, s, m, args, below, meth, c⟩, Γ, ⟨nL, mc, ms⟩, Q⟩ := C
  obtain ⟨hx, hb, hml, hown, hts, hO, hB0, hlk, hret, hmc, hms, hdf, hdl, hQ, rfl, rfl, rfl⟩ := X
  subst hn
  intro H locs cells slots ls hV hS hl hcc hs
  have hD : ∃ f : Nat → Int, (∀ j, 48 ≤ f j ∧ f j ≤ 57) ∧ va_T .byte (Γ.2.2.1 i) 100 (fun j => .int (zI (f j))) (zA Γ.2.2.2) s s.heap := by
    rcases hi with rfl | rfl
    · exact hO.2.2.2.2.2.2.2.2.2.2.2.2.2.1.2
    · exact hO.2.2.2.2.2.2.2.2.2.2.2.2.2.2.2
  obtain ⟨f, hf, hT⟩ := hD
  exact va_tb hx hb hT hS (zI_in hk.1 (by omega) (by omega)) rfl hdg (kk _ (hf _) H locs cells slots ls hV hS hl hcc hs)
/-- n values of f from place sp on, laid into g from place dp on -/
def zcp (f g : Nat → Int) (sp dp n : Nat) : Nat → Int := fun j => if dp ≤ j ∧ j < dp + n then f (sp + (j - dp)) else g j
theorem zr_copyb (X : zK C l0 Γ0 n0 own cc ws d ret Post) (n' : Nat) {index a0 a tg0 tg n0 n1 : Nat} {f g : Nat → Int} {sp dp n : Int} (h0 : V a0 = some (tg0, za Γ0.2.1 2 n0 f)) (h1 : V a = some (tg, za Γ0.2.1 2 n1 g)) (hbd : ∀ j, -128 ≤ f j ∧ f j ≤ 127) (hlink : Cond.methodLink own index arraycopyName ∈ ws) (hnat : Cond.native arraycopyName ∈ ws) (hstat : Cond.static arraycopyName ∈ ws) (hini : Cond.initialized "java/lang/System" ∈ ws)
    (hr : 0 ≤ sp ∧ 0 ≤ dp ∧ 0 ≤ n ∧ sp + n ≤ n0 ∧ dp + n ≤ n1 ∧ n0 ≤ 100000 ∧ n1 ≤ 100000) (hd : 2 ≤ d) (hcat : (rest.map fun v => v.category).sum ≤ 8) (hdg : decode cc pc = .ok (.invokestatic index, 3)) (hn : pc + 3 = n') (kk : zG C (zu V a tg (za Γ0.2.1 2 n1 (zcp f g sp.toNat dp.toNat n.toNat))) kc ks n' lv rest) : zG C V kc ks pc lv (.int (zI n) :: .int (zI dp) :: .ref a :: .int (zI sp) :: .ref a0 :: rest) := by
  obtain ⟨⟨p, l, e, R, s, m, args, below, meth, c⟩, Γ, ⟨nL, mc, ms⟩, Q⟩ := C
  obtain ⟨hx, hb, hml, hown, hts, hO, hB0, hlk, hret, hmc, hms, hdf, hdl, hQ, rfl, rfl, rfl⟩ := X
  subst hn
  intro H locs cells slots ls hV hS hl hcc hs
  obtain ⟨W0, hL, hP, hD⟩ := hV
  obtain ⟨q0, hq0⟩ := (hL _ _).mp (zd_of h0)
  obtain ⟨q1, hq1⟩ := (hL _ _).mp (zd_of h1)
  have c1 : (zI sp).toNatClampNeg = sp.toNat := zI_clamp hr.1 (by omega)
  have c2 : (zI dp).toNatClampNeg = dp.toNat := zI_clamp hr.2.1 (by omega)
  have c3 : (zI n).toNatClampNeg = n.toNat := zI_clamp hr.2.2.1 (by omega)
  have ng : ∀ z : Int, 0 ≤ z → z ≤ 100000 → ¬ zI z < 0 := fun z hz hz2 => by rw [← zI_0, zI_lt (by omega) (by omega)]; omega
  refine va_copyi hx hb (hml.trans hl.1.symm) hown (hts _ hlink) (hts _ hnat) (hts _ hstat) (hts _ hini) hO.1 hP hD hS q0 q1 2 2 (ty := .byte) hq0 hq1 rfl rfl rfl (ng _ hr.1 (by omega)) (ng _ hr.2.1 (by omega)) (ng _ hr.2.2.1 (by omega)) (by rw [c1, c3]; omega) (by rw [c2, c3]; omega) (fun i _ => zI_fb (hbd _)) (by omega) ?_ hdg (fun H1 locs1 hP1 hD1 hS1 => ?_)
  · have e : nativeFrameWords "java/lang/System" "arraycopy" 5 ≤ 60 := by decide +kernel
    omega
  · rw [c1, c2, c3] at hP1 hD1
    have e : va_cpy (fun j => zI (f j)) (fun j => zI (g j)) sp.toNat dp.toNat n.toNat = fun j => zI (zcp f g sp.toNat dp.toNat n.toNat j) := by
      funext j
      unfold va_cpy zcp
      split <;> rfl
    rw [e] at hP1 hD1
    exact kk H1 locs1 cells slots ls ⟨_, by rw [zd_zu]; exact hL.set hD hq1, hP1, hD1⟩ hS1 hl hcc hs
theorem zr_cloneB (X : zK C l0 Γ0 n0 own cc ws d ret Post) (n' tg : Nat) {index a tg0 n kc' ks' : Nat} {f : Nat → Int} (h0 : V a = some (tg0, za Γ0.2.1 2 n f)) (hbd : ∀ j, -128 ≤ f j ∧ f j ≤ 127) (hlink : Cond.methodLink own index ⟨"[B", "clone", "()Ljava/lang/Object;"⟩ ∈ ws) (hsame : Cond.sameMethod "[B" "java/lang/Object" "clone" "()Ljava/lang/Object;" ∈ ws) (hnat : Cond.native ⟨"java/lang/Object", "clone", "()Ljava/lang/Object;"⟩ ∈ ws) (hinst : Cond.instanceMethod ⟨"java/lang/Object", "clone", "()Ljava/lang/Object;"⟩ ∈ ws) (hsel : Cond.selects "[B" ⟨"[B", "clone", "()Ljava/lang/Object;"⟩ ⟨"java/lang/Object", "clone", "()Ljava/lang/Object;"⟩ ∈ ws)
    (hd : 2 ≤ d) (hcat : (rest.map fun v => v.category).sum ≤ 8) (hdg : decode cc pc = .ok (.invokevirtual index, 3)) (hn : pc + 3 = n') (hkc : kc' + 1 ≤ kc) (hks : ks' + n ≤ ks) (kk : ∀ q : Nat, V q = none → zG C (zu V q tg (za Γ0.2.1 2 n f)) kc' ks' n' lv (.ref q :: rest)) : zG C V kc ks pc lv (.ref a :: rest) := by
  obtain ⟨⟨p, l, e, R, s, m, args, below, meth, c⟩, Γ, ⟨nL, mc, ms⟩, Q⟩ := C
  obtain ⟨hx, hb, hml, hown, hts, hO, hB0, hlk, hret, hmc, hms, hdf, hdl, hQ, rfl, rfl, rfl⟩ := X
  subst hn
  intro H locs cells slots ls hV hS hl hcc hs
  obtain ⟨W0, hL, hP, hD⟩ := hV
  obtain ⟨q0, hq0⟩ := (hL _ _).mp (zd_of h0)
  have hO1 := hO
  obtain ⟨-, -, -, -, -, -, -, -, -, -, -, -, o13, -⟩ := hO1
  refine va_clone (ad := "[B") (ty := .byte) hx hb (hml.trans hl.1.symm) hown (hts _ hlink) (hts _ hsame) (hts _ hnat) (hts _ hinst) (hts _ hsel) o13 hO.1 hP hD hS (fun q h => Nat.le_trans hB0 h) q0 2 hq0 rfl (hO.1.2 2 _ rfl).2 (fun i v hv => ?_) (by omega) (by omega) (by omega) (by show slots + n ≤ _; omega) hdg (fun q H1 hK1 hP1 hD1 hS1 => kk q (zD_new hL hD1) H1 locs (cells + 1) (slots + n) ls (zH.push hL (zD_new hL hD1) hP1 hD1) hS1 hl (by omega) (by omega))
  exact va_fit (cA := Γ.2.1 2) (n := n) (F := fun j => .int (zI (f j))) (fun i _ => zI_fb (hbd i)) i v hv
theorem zr_castB (X : zK C l0 Γ0 n0 own cc ws d ret Post) (n' : Nat) {index a tg n : Nat} {f : Nat → Int} (h0 : V a = some (tg, za Γ0.2.1 2 n f)) (hlink : Cond.classLink own index "[B" ∈ ws) (hdg : decode cc pc = .ok (.checkcast index, 3)) (hn : pc + 3 = n') (kk : zG C V kc ks n' lv (.ref a :: rest)) : zG C V kc ks pc lv (.ref a :: rest) := by
  obtain ⟨⟨p, l, e, R, s, m, args, below, meth, c⟩, Γ, ⟨nL, mc, ms⟩, Q⟩ := C
  obtain ⟨hx, hb, hml, hown, hts, hO, hB0, hlk, hret, hmc, hms, hdf, hdl, hQ, rfl, rfl, rfl⟩ := X
  subst hn
  intro H locs cells slots ls hV hS hl hcc hs
  have hV0 := hV
  obtain ⟨W0, hL, hP, hD⟩ := hV
  obtain ⟨q0, hq0⟩ := (hL _ _).mp (zd_of h0)
  exact va_castA hx hb hown (hts _ hlink) hP q0 hq0 (hO.1.2 2 _ rfl).2 hdg (kk H locs cells slots ls hV0 hS hl hcc hs)
theorem zr_callSU (X : zK C l0 Γ0 n0 own cc ws d ret Post) (n' nA : Nat) {index maxL d' mc' ms' b ci tg N kc' ks' : Nat} {CC : String} {y : MethodName} {bytes : ByteArray} {rt : Option FieldType} {wsy wsy' : List Cond} {fs As : List Value} {P' : Option Value → zV → Prop} {TT : u_T} {st : List Value}
    (hM : zM l0 Γ0 d' y wsy mc' ms' V (.ref b :: As) P') (hT : GoodIn ws (va_wsSU own index y wsy)) (hw : wsy = Cond.code y bytes maxL rt :: wsy')
    (hd : y.name ≠ "<init>" ∧ (parseMethodDescriptor y.desc).map (fun d => d.parameters.length) = some nA) (hA : As.length = nA) (hdd : d' + 1 ≤ d ∧ maxL ≤ 41)
    (hV : V b = some (tg, .inr (ci, fs))) (hc : vwCl[ci]? = some (CC, TT, N)) (hst : st = As.reverse ++ .ref b :: rest) (hcat : (rest.map fun v => v.category).sum ≤ 8)
    (hdg : decode cc pc = .ok (.invokespecial index, 3)) (hn : pc + 3 = n') (hkc : kc' + mc' ≤ kc) (hks : ks' + ms' ≤ ks) (kk : ∀ (rv : Option Value) (V' : zV), P' rv V' → zG C V' kc' ks' n' lv (rv.toList ++ rest)) : zG C V kc ks pc lv st := by
  subst hst
  refine zRunG X (a := (Value.ref b :: As).toArray) (P' := P') (rest := rest) ?_ hn hkc hks kk
  clear kk
  obtain ⟨⟨p, l, e, R, s, m, args, below, meth, c⟩, Γ, ⟨nL, mc, ms⟩, Q⟩ := C
  obtain ⟨hx, hb, hml, hown, hts, hO, hB0, hlk, hret, hmc, hms, hdf, hdl, hQ, rfl, rfl, rfl⟩ := X
  intro H locs cells slots ls hH hS hl hcc hs
  have hcc : cells + mc' ≤ mc := hcc
  have hs : slots + ms' ≤ ms := hs
  have hH0 := hH
  obtain ⟨W0, hL, hP, hD⟩ := hH
  obtain ⟨q0, hq⟩ := (hL _ _).mp (zd_of hV)
  exact va_runSU (hO.1.1 ci _ hc).2 ⟨hx, hb, hml, hown, hts⟩ hM (va_cwSU nA hts hT hw rfl rfl hd (zrm hdd hdf hdl)) ⟨zPc.blind, va_recv hO.1 hP hc hq, fun U hU hW => ⟨rfl, by rw [hU]; exact Nat.le_trans hB0 hS.1, by rw [hU]; exact hH0, zO_call hO hS hU hW⟩⟩ rfl hA hl.1 rfl (lv_room hcat) hdg ⟨Nat.le_trans hcc hmc, Nat.le_trans hs hms⟩
theorem zr_callU2 (X : zK C l0 Γ0 n0 own cc ws d ret Post) (n' nA : Nat) {index maxL d' mc' ms' b ci tg N kc' ks' : Nat} {CC owner : String} {x y : MethodName} {bytes : ByteArray} {rt : Option FieldType} {wsy wsy' : List Cond} {fs As : List Value} {P' : Option Value → zV → Prop} {TT : u_T} {st : List Value}
    (hM : zM l0 Γ0 d' y wsy mc' ms' V (.ref b :: As) P') (hT : GoodIn ws (va_wsU own index CC owner x y wsy)) (hw : wsy = Cond.code y bytes maxL rt :: wsy') (hyx : y = ⟨owner, x.name, x.desc⟩)
    (hd : owner ≠ "java/lang/invoke/MethodHandle" ∧ owner ≠ "java/lang/invoke/VarHandle" ∧ (parseMethodDescriptor x.desc).map (fun d => d.parameters.length) = some nA) (hA : As.length = nA) (hdd : d' + 1 ≤ d ∧ maxL ≤ 41)
    (hV : V b = some (tg, .inr (ci, fs))) (hc : vwCl[ci]? = some (CC, TT, N)) (hst : st = As.reverse ++ .ref b :: rest) (hcat : (rest.map fun v => v.category).sum ≤ 8)
    (hdg : decode cc pc = .ok (.invokevirtual index, 3)) (hn : pc + 3 = n') (hkc : kc' + mc' ≤ kc) (hks : ks' + ms' ≤ ks) (kk : ∀ (rv : Option Value) (V' : zV), P' rv V' → zG C V' kc' ks' n' lv (rv.toList ++ rest)) : zG C V kc ks pc lv st := by
  subst hst
  refine zRunG X (a := (Value.ref b :: As).toArray) (P' := P') (rest := rest) ?_ hn hkc hks kk
  clear kk
  obtain ⟨⟨p, l, e, R, s, m, args, below, meth, c⟩, Γ, ⟨nL, mc, ms⟩, Q⟩ := C
  obtain ⟨hx, hb, hml, hown, hts, hO, hB0, hlk, hret, hmc, hms, hdf, hdl, hQ, rfl, rfl, rfl⟩ := X
  intro H locs cells slots ls hH hS hl hcc hs
  have hcc : cells + mc' ≤ mc := hcc
  have hs : slots + ms' ≤ ms := hs
  have hH0 := hH
  obtain ⟨W0, hL, hP, hD⟩ := hH
  obtain ⟨q0, hq⟩ := (hL _ _).mp (zd_of hV)
  exact va_runU ⟨hx, hb, hml, hown, hts⟩ hM (va_cwU nA hts hT hw rfl rfl hyx hd (zrm hdd hdf hdl)) ⟨zPc.blind, va_recv hO.1 hP hc hq, fun U hU hW => ⟨rfl, by rw [hU]; exact Nat.le_trans hB0 hS.1, by rw [hU]; exact hH0, zO_call hO hS hU hW⟩⟩ rfl hA hl.1 rfl (lv_room hcat) hdg ⟨Nat.le_trans hcc hmc, Nat.le_trans hs hms⟩
theorem zr_callO (X : zK C l0 Γ0 n0 own cc ws d ret Post) (n' nA : Nat) {index maxL d' mc' ms' b ci tg N kc' ks' m0 : Nat} {CC owner : String} {x y : MethodName} {bytes b0 : ByteArray} {rt r0 : Option FieldType} {wsy wsy' : List Cond} {fs As : List Value} {P' : Option Value → zV → Prop} {TT : u_T} {st : List Value}
    (hM : zM l0 Γ0 d' y wsy mc' ms' V (.ref b :: As) P') (hT : GoodIn ws (va_wsO own index CC owner x y wsy)) (hw : wsy = Cond.code y bytes maxL rt :: wsy') (h0 : Cond.code ⟨owner, x.name, x.desc⟩ b0 m0 r0 ∈ ws)
    (hd : owner ≠ "java/lang/invoke/MethodHandle" ∧ owner ≠ "java/lang/invoke/VarHandle" ∧ (parseMethodDescriptor x.desc).map (fun d => d.parameters.length) = some nA) (hA : As.length = nA) (hdd : d' + 1 ≤ d ∧ maxL ≤ 41)
    (hV : V b = some (tg, .inr (ci, fs))) (hc : vwCl[ci]? = some (CC, TT, N)) (hst : st = As.reverse ++ .ref b :: rest) (hcat : (rest.map fun v => v.category).sum ≤ 8)
    (hdg : decode cc pc = .ok (.invokevirtual index, 3)) (hn : pc + 3 = n') (hkc : kc' + mc' ≤ kc) (hks : ks' + ms' ≤ ks) (kk : ∀ (rv : Option Value) (V' : zV), P' rv V' → zG C V' kc' ks' n' lv (rv.toList ++ rest)) : zG C V kc ks pc lv st := by
  subst hst
  refine zRunG X (a := (Value.ref b :: As).toArray) (P' := P') (rest := rest) ?_ hn hkc hks kk
  clear kk
  obtain ⟨⟨p, l, e, R, s, m, args, below, meth, c⟩, Γ, ⟨nL, mc, ms⟩, Q⟩ := C
  obtain ⟨hx, hb, hml, hown, hts, hO, hB0, hlk, hret, hmc, hms, hdf, hdl, hQ, rfl, rfl, rfl⟩ := X
  intro H locs cells slots ls hH hS hl hcc hs
  have hcc : cells + mc' ≤ mc := hcc
  have hs : slots + ms' ≤ ms := hs
  have hH0 := hH
  obtain ⟨W0, hL, hP, hD⟩ := hH
  obtain ⟨q0, hq⟩ := (hL _ _).mp (zd_of hV)
  exact va_runU ⟨hx, hb, hml, hown, hts⟩ hM (va_cwO nA hts hT hw rfl rfl h0 hd (zrm hdd hdf hdl)) ⟨zPc.blind, va_recv hO.1 hP hc hq, fun U hU hW => ⟨rfl, by rw [hU]; exact Nat.le_trans hB0 hS.1, by rw [hU]; exact hH0, zO_call hO hS hU hW⟩⟩ rfl hA hl.1 rfl (lv_room hcat) hdg ⟨Nat.le_trans hcc hmc, Nat.le_trans hs hms⟩
theorem zbex {x : Int} (hr : 0 ≤ x ∧ x ≤ 255) : ∃ y : Int, (if x < 128 then x else x - 256) = y ∧ -128 ≤ y ∧ y ≤ 127 := by
  by_cases c : x < 128
  · exact ⟨x, if_pos c, by omega, by omega⟩
  · exact ⟨x - 256, if_neg c, by omega, by omega⟩
theorem zI_divn {x y : Int} (hx : 0 ≤ x ∧ x ≤ 2147483647) (hy : 0 < y ∧ y ≤ 2147483647) : zI (-x) / zI y = zI (-(x / y)) := by
  rw [← Int32.toInt_inj, Int32.toInt_div, zI_toInt (-x) (by omega), zI_toInt y (by omega)]
  have h1 : 0 ≤ x / y := Int.ediv_nonneg hx.1 (by omega)
  have h2 : x / y ≤ x := Int.ediv_le_self _ hx.1
  have h0 : (-x).tdiv y = -(x / y) := by rw [Int.neg_tdiv, Int.tdiv_eq_ediv_of_nonneg hx.1]
  rw [zI_toInt _ (by omega), h0, Int.bmod_eq_of_le] <;> omega
theorem zr_idivn (X : zK C l0 Γ0 n0 own cc ws d ret Post) (n' : Nat) {x y : Int} (hdg : decode cc pc = .ok (.idiv, 1)) (hn : pc + 1 = n') (hrx : 0 ≤ x ∧ x ≤ 2147483647) (hry : 0 < y ∧ y ≤ 2147483647) (kk : zG C V kc ks n' lv (.int (zI (-(x / y))) :: rest)) : zG C V kc ks pc lv (.int (zI y) :: .int (zI (-x)) :: rest) := by
  obtain ⟨⟨p, l, e, R, s, m, args, below, meth, c⟩, Γ, ⟨nL, mc, ms⟩, Q⟩ := C
  obtain ⟨hx, hb, hml, hown, hts, hO, hB0, hlk, hret, hmc, hms, hdf, hdl, hQ, rfl, rfl, rfl⟩ := X
  subst hn
  intro H locs cells slots ls hV hS hl hcc hs
  exact lv_idiv hx hb hdg (fun h => by rw [← zI_0, zI_eq (by omega) (by omega)] at h; omega) (by rw [zI_divn hrx hry]; exact kk H locs cells slots ls hV hS hl hcc hs)
theorem zr_ldcI (X : zK C l0 Γ0 n0 own cc ws d ret Post) (n' : Nat) {i : Nat} {v : Int} {w : Int32} (hw : Cond.constant own i w ∈ ws) (hv : w = zI v) (hdg : decode cc pc = .ok (.ldc i, 2)) (hn : pc + 2 = n') (kk : zG C V kc ks n' lv (.int (zI v) :: rest)) : zG C V kc ks pc lv rest := by
  subst hv
  exact zr_ldc X n' hdg hn hw kk
theorem zr_ldcwI (X : zK C l0 Γ0 n0 own cc ws d ret Post) (n' : Nat) {i : Nat} {v : Int} {w : Int32} (hw : Cond.constant own i w ∈ ws) (hv : w = zI v) (hdg : decode cc pc = .ok (.ldc_w i, 3)) (hn : pc + 3 = n') (kk : zG C V kc ks n' lv (.int (zI v) :: rest)) : zG C V kc ks pc lv rest := by
  subst hv
  exact zr_ldcw X n' hdg hn hw kk
theorem zdf_J0 : ∀ j, j < 4 → defaultValue (tyJ0 j) = vp_V [.null, .int (zI (0)), .int (zI (0)), .int (zI (0))] j := fun j hj => by
  match j, hj with
  | 0, _ => rfl
  | 1, _ => rfl
  | 2, _ => rfl
  | 3, _ => rfl
  | (k + 4), h => exact absurd h (by omega)
theorem zdf_J4 : ∀ j, j < 4 → defaultValue (tyJ4 j) = vp_V [.null, .int (zI (0)), .int (zI (0)), .int (zI (0))] j := fun j hj => by
  match j, hj with
  | 0, _ => rfl
  | 1, _ => rfl
  | 2, _ => rfl
  | 3, _ => rfl
  | (k + 4), h => exact absurd h (by omega)
theorem zdf_X0 : ∀ j, j < 3 → defaultValue (tyX0 j) = vp_V [.null, .null, .int (zI (0))] j := fun j hj => by
  match j, hj with
  | 0, _ => rfl
  | 1, _ => rfl
  | 2, _ => rfl
  | (k + 3), h => exact absurd h (by omega)
theorem zdf_X1 : ∀ j, j < 4 → defaultValue (tyX1 j) = vp_V [.null, .null, .null, .int (zI (0))] j := fun j hj => by
  match j, hj with
  | 0, _ => rfl
  | 1, _ => rfl
  | 2, _ => rfl
  | 3, _ => rfl
  | (k + 4), h => exact absurd h (by omega)
theorem zdf_X2 : ∀ j, j < 2 → defaultValue (tyX2 j) = vp_V [.null, .int (zI (0))] j := fun j hj => by
  match j, hj with
  | 0, _ => rfl
  | 1, _ => rfl
  | (k + 2), h => exact absurd h (by omega)
theorem zdf_X3 : ∀ j, j < 3 → defaultValue (tyX3 j) = vp_V [.null, .null, .int (zI (0))] j := fun j hj => by
  match j, hj with
  | 0, _ => rfl
  | 1, _ => rfl
  | 2, _ => rfl
  | (k + 3), h => exact absurd h (by omega)
theorem zdf_X5 : ∀ j, j < 6 → defaultValue (tyX5 j) = vp_V [.null, .int (zI (0)), .int (zI (0)), .int (zI (0)), .int (zI (0)), .int (zI (0))] j := fun j hj => by
  match j, hj with
  | 0, _ => rfl
  | 1, _ => rfl
  | 2, _ => rfl
  | 3, _ => rfl
  | 4, _ => rfl
  | 5, _ => rfl
  | (k + 6), h => exact absurd h (by omega)
theorem zdf_X6 : ∀ j, j < 14 → defaultValue (tyX6 j) = vp_V [.null, .null, .null, .null, .null, .null, .null, .null, .null, .null, .int (zI (0)), .int (zI (0)), .int (zI (0)), .int (zI (0))] j := fun j hj => by
  match j, hj with
  | 0, _ => rfl
  | 1, _ => rfl
  | 2, _ => rfl
  | 3, _ => rfl
  | 4, _ => rfl
  | 5, _ => rfl
  | 6, _ => rfl
  | 7, _ => rfl
  | 8, _ => rfl
  | 9, _ => rfl
  | 10, _ => rfl
  | 11, _ => rfl
  | 12, _ => rfl
  | 13, _ => rfl
  | (k + 14), h => exact absurd h (by omega)
theorem zdf_X7 : ∀ j, j < 2 → defaultValue (tyX7 j) = vp_V [.long 0, .null] j := fun j hj => by
  match j, hj with
  | 0, _ => rfl
  | 1, _ => rfl
  | (k + 2), h => exact absurd h (by omega)
theorem zdf_X8 : ∀ j, j < 11 → defaultValue (tyX8 j) = vp_V [.null, .int (zI (0)), .null, .null, .null, .null, .int (zI (0)), .int (zI (0)), .int (zI (0)), .null, .int (zI (0))] j := fun j hj => by
  match j, hj with
  | 0, _ => rfl
  | 1, _ => rfl
  | 2, _ => rfl
  | 3, _ => rfl
  | 4, _ => rfl
  | 5, _ => rfl
  | 6, _ => rfl
  | 7, _ => rfl
  | 8, _ => rfl
  | 9, _ => rfl
  | 10, _ => rfl
  | (k + 11), h => exact absurd h (by omega)
end ZR3
