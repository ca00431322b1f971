section ZR
variable {C : zC} {l0 : Launch} {Γ0 : zGam} {n0 : Nat} {own : String} {cc : ByteArray} {ws : List Cond} {d : Nat} {ret : Option FieldType} {Post : Option Value → zV → Prop} {V : zV} {kc ks pc : Nat} {lv : List (Nat × Value)} {rest : List Value}
theorem zr_callI (X : zK C l0 Γ0 n0 own cc ws d ret Post) (n' nA : Nat) {index maxL d' mc' ms' b kc' ks' : Nat} {y : MethodName} {bytes : ByteArray} {wsy wsy' : List Cond} {As : List Value} {P' : Option Value → zV → Prop} {st : List Value}
    (hM : zM l0 Γ0 d' y wsy mc' ms' V (.ref b :: As) P') (hT : GoodIn ws wsy) (hw : wsy = Cond.code y bytes maxL none :: wsy') (hini : Cond.initialized y.cls ∈ ws) (hlk0 : Cond.methodLink own index y ∈ ws) (hin : Cond.instanceMethod y ∈ ws) (hy1 : y.name = "<init>")
    (hd : y.cls ≠ "java/lang/invoke/MethodHandle" ∧ y.cls ≠ "java/lang/invoke/VarHandle" ∧ (parseMethodDescriptor y.desc).map (fun d => d.parameters.length) = some nA) (hA : As.length = nA) (hdd : d' + 1 ≤ d ∧ maxL ≤ 41)
    (hst : st = As.reverse ++ .ref b :: rest) (hcat : (rest.map fun v => v.category).sum ≤ 8)
    (hdg : decode cc pc = .ok (.invokespecial index, 3)) (hn : pc + 3 = n') (hkc : kc' + mc' ≤ kc) (hks : ks' + ms' ≤ ks) (kk : ∀ (rv : Option Value) (V' : zV), P' rv V' → zG C V' kc' ks' n' lv (rv.toList ++ rest)) : zG C V kc ks pc lv st := by
  subst hst
  refine zRunG X (a := (Value.ref b :: As).toArray) (P' := P') (rest := rest) ?_ hn hkc hks kk
  clear kk
  obtain ⟨⟨p, l, e, R, s, m, args, below, meth, c⟩, Γ, ⟨nL, mc, ms⟩, Q⟩ := C
  obtain ⟨hx, hb, hml, hown, hts, hO, hB0, hlk, hret, hmc, hms, hdf, hdl, hQ, rfl, rfl, rfl⟩ := X
  intro H locs cells slots ls hH hS hl hcc hs
  have hcc : cells + mc' ≤ mc := hcc
  have hs : slots + ms' ≤ ms := hs
  exact va_runI ⟨hx, hb, hml, hown, hts⟩ hM (cwI nA hts hT hw rfl rfl (hts _ hini) (hts _ hlk0) (hts _ hin) hy1 hd (zrm hdd hdf hdl)) ⟨zPc.blind, fun U hU hW => ⟨rfl, by rw [hU]; exact Nat.le_trans hB0 hS.1, by rw [hU]; exact hH, zO_call hO hS hU hW⟩⟩ rfl hA hl.1 rfl (lv_room hcat) hdg ⟨Nat.le_trans hcc hmc, Nat.le_trans hs hms⟩
theorem zM_of {l : Launch} {Γ : zGam} {d : Nat} {y : MethodName} {wsy ws' : List Cond} {mc ms nL : Nat} {V : zV} {av : List Value} {Post : Option Value → zV → Prop} {cc : ByteArray} {ret : Option FieldType} {own : String} (hy : plainName y.cls = true) (hw : wsy = Cond.code y cc nL ret :: ws') (hown : y.cls = own) (hle : (lg_sl av).length ≤ nL)
    (body : ∀ C : zC, zK C l Γ nL own cc wsy d ret Post → (y.name = "<init>" → zI0 C) → zG C V mc ms 0 (lv_args 0 av) []) : zM l Γ d y wsy mc ms V av Post := by
  refine Met.ofW (cc := cc) (maxL := nL) (ret := ret) hy hw ?_
  intro p e s m args below meth c s₁ B hml hv
  obtain ⟨rfl, hB0, hH, hO⟩ := hv
  subst hown
  have hl := lv_entry av (n := nL) hle
  rw [lg_entry_eq]
  exact body ((p, l, e, (headSpec wsy (zR d mc ms)).room, s, m, av.toArray, below, meth, c), Γ, (nL, mc, ms), MQ below (zQ Γ Post) av.toArray s mc ms (zA Γ.2.2.2)) ⟨B.exec, B.bytes, hml, findClass_of_methodNamed B.named, atoms_spec B.pre, hO, hB0, B.notSynchronized, B.returns, Nat.le_refl _, Nat.le_refl _, Nat.le_refl _, Nat.le_refl _, fun _ h => h, rfl, rfl, rfl⟩ (fun h => (name_of_methodNamed B.named B.method).1.trans h) s.heap [] 0 0 _ hH va_S.rf hl (by omega) (by omega)
/-! references in arrays -/
theorem zr_aald (X : zK C l0 Γ0 n0 own cc ws d ret Post) (n' : Nat) {a tg n : Nat} {f : Nat → Option Nat} {i : Int} (v : Value) (hV : V a = some (tg, zq Γ0.2.1 3 n f)) (h0 : 0 ≤ i ∧ i < n ∧ i ≤ 2147483647) (hv : va_rf (f i.toNat) = v) (hdg : decode cc pc = .ok (.aaload, 1)) (hn : pc + 1 = n') (kk : zG C V kc ks n' lv (v :: rest)) : zG C V kc ks pc lv (.int (zI i) :: .ref a :: rest) := by
  obtain ⟨⟨p, l, e, R, s, m, args, below, meth, c⟩, Γ, ⟨nL, mc, ms⟩, Q⟩ := C
  obtain ⟨hx, hb, hml, hown, hts, hO, hB0, hlk, hret, hmc, hms, hdf, hdl, hQ, rfl, rfl, rfl⟩ := X
  subst hn
  subst hv
  have hVa := hV
  intro H locs cells slots ls hV hS hl hcc hs
  have hV0 := hV
  obtain ⟨W0, hL, hP, hD⟩ := hV
  obtain ⟨q0, hq⟩ := (hL _ _).mp (zd_of hVa)
  have k1 := kk H locs cells slots ls hV0 hS hl hcc hs
  rw [← zI_clamp h0.1 h0.2.2] at k1
  exact va_aldq hx hb hO.1 hP q0 3 hq rfl (zI_in h0.1 h0.2.1 h0.2.2) hdg k1
def zg (f : Nat → Option Nat) (i : Nat) (x : Nat) : Nat → Option Nat := fun j => if j = i then some x else f j
theorem zr_aast (X : zK C l0 Γ0 n0 own cc ws d ret Post) (n' : Nat) {a tg n v tv : Nat} {f : Nat → Option Nat} {i : Int} {vs : List Value} (hV : V a = some (tg, zq Γ0.2.1 3 n f)) (hv : V v = some (tv, .inr (6, vs))) (h0 : 0 ≤ i ∧ i < n ∧ i ≤ 2147483647) (hdg : decode cc pc = .ok (.aastore, 1)) (hn : pc + 1 = n') (kk : zG C (zu V a tg (zq Γ0.2.1 3 n (zg f i.toNat v))) kc ks n' lv rest) : zG C V kc ks pc lv (.ref v :: .int (zI i) :: .ref a :: rest) := by
  obtain ⟨⟨p, l, e, R, s, m, args, below, meth, c⟩, Γ, ⟨nL, mc, ms⟩, Q⟩ := C
  obtain ⟨hx, hb, hml, hown, hts, hO, hB0, hlk, hret, hmc, hms, hdf, hdl, hQ, rfl, rfl, rfl⟩ := X
  subst hn
  have hVa := hV
  intro H locs cells slots ls hV hS hl hcc hs
  obtain ⟨W0, hL, hP, hD⟩ := hV
  obtain ⟨q0, hq⟩ := (hL _ _).mp (zd_of hVa)
  obtain ⟨qk, hqk⟩ := (hL _ _).mp (zd_of hv)
  refine va_astq hx hb hO.1 hP hD hS q0 3 qk 6 (r := (RX5, TX5, 6)) hq rfl hqk rfl (zI_in h0.1 h0.2.1 h0.2.2) hdg (fun H1 locs1 hP1 hD1 hS1 => ?_)
  have e : va_up f (zI i).toNatClampNeg (some v) = zg f i.toNat v := by
    rw [zI_clamp h0.1 h0.2.2]
    funext j
    rfl
  rw [e] at hP1 hD1
  exact kk H1 locs1 cells slots ls ⟨_, by rw [zd_zu]; exact hL.set hD hq, hP1, hD1⟩ hS1 hl hcc hs
/-! what is made -/
theorem zH.push {Γ : zGam} {V : zV} {ws : va_W} {a t : Nat} {e : va_E} {H1 : Heap} (hL : zL (zd V) ws) (ha : V a = none) (hP : va_P Γ.1 vwCl (ws ++ [(a, e)]) H1) (hD : va_D (zA Γ.2.2.2) (ws ++ [(a, e)])) : zH Γ (zu V a t e) H1 := ⟨_, by rw [zd_zu]; exact hL.push (zd_none ha), hP, hD⟩
theorem zD_new {Γ : zGam} {V : zV} {ws : va_W} {a : Nat} {e : va_E} (hL : zL (zd V) ws) (hD : va_D (zA Γ.2.2.2) (ws ++ [(a, e)])) : V a = none := by
  cases hv : V a with
  | none => rfl
  | some q =>
    obtain ⟨t, e1⟩ := q
    obtain ⟨k, hk⟩ := (hL _ _).mp (zd_of hv)
    have hl := (List.getElem?_eq_some_iff.mp hk).1
    have := hD.1 k ws.length (a, e1) (a, e) (by rw [List.getElem?_append_left hl]; exact hk) (by simp) rfl
    omega
theorem zr_new (X : zK C l0 Γ0 n0 own cc ws d ret Post) (n' ci tg : Nat) (fs : List Value) {index N kc' ks' : Nat} {CC : String} {T : u_T} (ty : Nat → FieldType) (hc : vwCl[ci]? = some (CC, T, N)) (hin : ∀ w ∈ u_ws CC T N, w ∈ ws) (hty : ∀ k, k < N → parseFieldDescriptor (T k).2.2.1 = some (ty k)) (hcl : Cond.classLink own index CC ∈ ws) (hinst : Cond.instantiable CC N ∈ ws) (hini : Cond.initialized CC ∈ ws) (hfs : ∀ j, j < N → defaultValue (ty j) = vp_V fs j) (hdg : decode cc pc = .ok (.new index, 3)) (hn : pc + 3 = n') (hkc : kc' + 1 ≤ kc) (hks : ks' + N ≤ ks) (kk : ∀ q : Nat, V q = none → zG C (zu V q tg (.inr (ci, fs))) kc' ks' n' lv (.ref q :: rest)) : zG C V kc ks pc lv rest := by
  obtain ⟨⟨p, l, e, R, s, m, args, below, meth, c⟩, Γ, ⟨nL, mc, ms⟩, Q⟩ := C
  obtain ⟨hx, hb, hml, hown, hts, hO, hB0, hlk, hret, hmc, hms, hdf, hdl, hQ, rfl, rfl, rfl⟩ := X
  subst hn
  intro H locs cells slots ls hV hS hl hcc hs
  obtain ⟨W0, hL, hP, hD⟩ := hV
  exact va_new hx hb hts hin ty hty hown (hts _ hcl) (hts _ hinst) (hts _ hini) hO.1 hP hD hS (fun q h => Nat.le_trans hB0 h) hc hfs (by omega) (by omega) hdg (fun q H1 hP1 hD1 hS1 => kk q (zD_new hL hD1) H1 locs (cells + 1) (slots + N) ls (zH.push hL (zD_new hL hD1) hP1 hD1) hS1 hl (by omega) (by omega))
theorem zr_newai (X : zK C l0 Γ0 n0 own cc ws d ret Post) (n' tg : Nat) {n : Int} {kc' ks' : Nat} (harr : Cond.arrayClass .int ∈ ws) (h0 : 0 ≤ n ∧ n ≤ 60000000) (hdg : decode cc pc = .ok (.newarray .int, 2)) (hn : pc + 2 = n') (hkc : kc' + 1 ≤ kc) (hks : ks' + n.toNat ≤ ks) (kk : ∀ q : Nat, V q = none → zG C (zu V q tg (za Γ0.2.1 0 n.toNat (fun _ => 0))) kc' ks' n' lv (.ref q :: rest)) : zG C V kc ks pc lv (.int (zI n) :: rest) := by
  obtain ⟨⟨p, l, e, R, s, m, args, below, meth, c⟩, Γ, ⟨nL, mc, ms⟩, Q⟩ := C
  obtain ⟨hx, hb, hml, hown, hts, hO, hB0, hlk, hret, hmc, hms, hdf, hdl, hQ, rfl, rfl, rfl⟩ := X
  subst hn
  intro H locs cells slots ls hV hS hl hcc hs
  obtain ⟨W0, hL, hP, hD⟩ := hV
  have hcl : (zI n).toNatClampNeg = n.toNat := zI_clamp h0.1 (by omega)
  refine va_newa (atype := .int) (ty := .int) (N' := n.toNat) (a0 := (n.toNat, .inl (fun _ => zI 0))) hx hb (hts _ harr) rfl hO.1 hP hD hS (fun q h => Nat.le_trans hB0 h) (fun cA => rfl) (by rw [← zI_0, zI_lt (by omega) (by omega)]; omega) hcl (by show n.toNat * _ ≤ _; simp only [componentBytes]; omega) (by omega) (by omega) hdg (fun q cA H1 hK1 hP1 hD1 hS1 => ?_)
  have hcA : cA = Γ.2.1 0 := by
    have e1 := (hK1.2 5 _ rfl).2
    have e2 := (hO.1.2 0 _ rfl).2
    exact Option.some.inj (e1.symm.trans e2)
  subst hcA
  exact kk q (zD_new hL hD1) H1 locs (cells + 1) (slots + n.toNat) ls (zH.push hL (zD_new hL hD1) hP1 hD1) hS1 hl (by omega) (by omega)
theorem zr_newac (X : zK C l0 Γ0 n0 own cc ws d ret Post) (n' tg : Nat) {n : Int} {kc' ks' : Nat} (harr : Cond.arrayClass .char ∈ ws) (h0 : 0 ≤ n ∧ n ≤ 60000000) (hdg : decode cc pc = .ok (.newarray .char, 2)) (hn : pc + 2 = n') (hkc : kc' + 1 ≤ kc) (hks : ks' + n.toNat ≤ ks) (kk : ∀ q : Nat, V q = none → zG C (zu V q tg (za Γ0.2.1 1 n.toNat (fun _ => 0))) kc' ks' n' lv (.ref q :: rest)) : zG C V kc ks pc lv (.int (zI n) :: rest) := by
  obtain ⟨⟨p, l, e, R, s, m, args, below, meth, c⟩, Γ, ⟨nL, mc, ms⟩, Q⟩ := C
  obtain ⟨hx, hb, hml, hown, hts, hO, hB0, hlk, hret, hmc, hms, hdf, hdl, hQ, rfl, rfl, rfl⟩ := X
  subst hn
  intro H locs cells slots ls hV hS hl hcc hs
  obtain ⟨W0, hL, hP, hD⟩ := hV
  have hcl : (zI n).toNatClampNeg = n.toNat := zI_clamp h0.1 (by omega)
  refine va_newa (atype := .char) (ty := .char) (N' := n.toNat) (a0 := (n.toNat, .inl (fun _ => zI 0))) hx hb (hts _ harr) rfl hO.1 hP hD hS (fun q h => Nat.le_trans hB0 h) (fun cA => rfl) (by rw [← zI_0, zI_lt (by omega) (by omega)]; omega) hcl (by show n.toNat * _ ≤ _; simp only [componentBytes]; omega) (by omega) (by omega) hdg (fun q cA H1 hK1 hP1 hD1 hS1 => ?_)
  have hcA : cA = Γ.2.1 1 := by
    have e1 := (hK1.2 5 _ rfl).2
    have e2 := (hO.1.2 1 _ rfl).2
    exact Option.some.inj (e1.symm.trans e2)
  subst hcA
  exact kk q (zD_new hL hD1) H1 locs (cells + 1) (slots + n.toNat) ls (zH.push hL (zD_new hL hD1) hP1 hD1) hS1 hl (by omega) (by omega)
theorem zr_newab (X : zK C l0 Γ0 n0 own cc ws d ret Post) (n' tg : Nat) {n : Int} {kc' ks' : Nat} (harr : Cond.arrayClass .byte ∈ ws) (h0 : 0 ≤ n ∧ n ≤ 60000000) (hdg : decode cc pc = .ok (.newarray .byte, 2)) (hn : pc + 2 = n') (hkc : kc' + 1 ≤ kc) (hks : ks' + n.toNat ≤ ks) (kk : ∀ q : Nat, V q = none → zG C (zu V q tg (za Γ0.2.1 2 n.toNat (fun _ => 0))) kc' ks' n' lv (.ref q :: rest)) : zG C V kc ks pc lv (.int (zI n) :: rest) := by
  obtain ⟨⟨p, l, e, R, s, m, args, below, meth, c⟩, Γ, ⟨nL, mc, ms⟩, Q⟩ := C
  obtain ⟨hx, hb, hml, hown, hts, hO, hB0, hlk, hret, hmc, hms, hdf, hdl, hQ, rfl, rfl, rfl⟩ := X
  subst hn
  intro H locs cells slots ls hV hS hl hcc hs
  obtain ⟨W0, hL, hP, hD⟩ := hV
  have hcl : (zI n).toNatClampNeg = n.toNat := zI_clamp h0.1 (by omega)
  refine va_newa (atype := .byte) (ty := .byte) (N' := n.toNat) (a0 := (n.toNat, .inl (fun _ => zI 0))) hx hb (hts _ harr) rfl hO.1 hP hD hS (fun q h => Nat.le_trans hB0 h) (fun cA => rfl) (by rw [← zI_0, zI_lt (by omega) (by omega)]; omega) hcl (by show n.toNat * _ ≤ _; simp only [componentBytes]; omega) (by omega) (by omega) hdg (fun q cA H1 hK1 hP1 hD1 hS1 => ?_)
  have hcA : cA = Γ.2.1 2 := by
    have e1 := (hK1.2 5 _ rfl).2
    have e2 := (hO.1.2 2 _ rfl).2
    exact Option.some.inj (e1.symm.trans e2)
  subst hcA
  exact kk q (zD_new hL hD1) H1 locs (cells + 1) (slots + n.toNat) ls (zH.push hL (zD_new hL hD1) hP1 hD1) hS1 hl (by omega) (by omega)
theorem zr_gets (X : zK C l0 Γ0 n0 own cc ws d ret Post) (n' : Nat) {index : Nat} (hlink : Cond.fieldLink own index RJ0 "COMPACT_STRINGS" "Z" ∈ ws) (hdg : decode cc pc = .ok (.getstatic index, 3)) (hn : pc + 3 = n') (kk : zG C V kc ks n' lv (.int (zI 1) :: rest)) : zG C V kc ks pc lv rest := by
  obtain ⟨⟨p, l, e, R, s, m, args, below, meth, c⟩, Γ, ⟨nL, mc, ms⟩, Q⟩ := C
  obtain ⟨hx, hb, hml, hown, hts, hO, hB0, hlk, hret, hmc, hms, hdf, hdl, hQ, rfl, rfl, rfl⟩ := X
  subst hn
  intro H locs cells slots ls hV hS hl hcc hs
  exact va_gets hx hb hO.2.2.2.1 hS hown (hts _ hlink) (fun _ h => h) hdg (kk H locs cells slots ls hV hS hl hcc hs)
theorem zr_ldcS (X : zK C l0 Γ0 n0 own cc ws d ret Post) (n' i : Nat) {index : Nat} {tx : String} (hz : zstr[i]? = some (own, index, tx)) (hdg : decode cc pc = .ok (.ldc index, 2)) (hn : pc + 2 = n') (kk : zG C V kc ks n' lv (.ref (Γ0.2.2.1 i) :: rest)) : zG C V kc ks pc lv rest := by
  obtain ⟨⟨p, l, e, R, s, m, args, below, meth, c⟩, Γ, ⟨nL, mc, ms⟩, Q⟩ := C
  obtain ⟨hx, hb, hml, hown, hts, hO, hB0, hlk, hret, hmc, hms, hdf, hdl, hQ, rfl, rfl, rfl⟩ := X
  subst hn
  intro H locs cells slots ls hV hS hl hcc hs
  exact va_ldcS hx hb hown (hO.2.2.2.2.1 i _ hz) hdg (kk H locs cells slots ls hV hS hl hcc hs)
theorem zr_objInit (X : zK C l0 Γ0 n0 own cc ws d ret Post) (n' : Nat) {a tg ci index : Nat} {fs : List Value} {q : vw_C} (hV : V a = some (tg, .inr (ci, fs))) (hc : vwCl[ci]? = some q) (hlink : Cond.methodLink own index objectInit ∈ ws) (hinst : Cond.instanceMethod objectInit ∈ ws) (hcode : Cond.code objectInit ⟨#[0xb1]⟩ 1 none ∈ ws) (hd : 2 ≤ d) (hcat : (rest.map fun v => v.category).sum ≤ 8) (hdg : decode cc pc = .ok (.invokespecial index, 3)) (hn : pc + 3 = n') (kk : zG C V kc ks n' lv rest) : zG C V kc ks pc lv (.ref a :: rest) := by
  obtain ⟨⟨p, l, e, R, s, m, args, below, meth, c⟩, Γ, ⟨nL, mc, ms⟩, Q⟩ := C
  obtain ⟨hx, hb, hml, hown, hts, hO, hB0, hlk, hret, hmc, hms, hdf, hdl, hQ, rfl, rfl, rfl⟩ := X
  subst hn
  intro H locs cells slots ls hV hS hl hcc hs
  exact W.objInit hx hb hown (hts _ hlink) (hts _ hinst) (hts _ hcode) rfl (hl.1.trans hml.symm) rfl hdg (by omega) (by have := lv_room (m := m) (pc := pc) (ls := ls) (rest := .ref a :: rest) hcat; omega) (kk H locs cells slots ls hV hS hl hcc hs)
end ZR
