section ZR3
variable {C : zC} {l0 : Launch} {Γ0 : zGam} {n0 : Nat} {own : String} {cc : ByteArray} {ws : List Cond} {d : Nat} {ret : Option FieldType} {Post : Option Value → zV → Prop} {V : zV} {kc ks pc : Nat} {lv : List (Nat × Value)} {rest : List Value}
theorem zr_callIN (X : zK C l0 Γ0 n0 own cc ws d ret Post) (n' nA i : Nat) {index maxL d' mc' ms' b kc' ks' : Nat} {host : String} {y : MethodName} {bytes : ByteArray} {wsy wsy' : List Cond} {As : List Value} {P' : Option Value → zV → Prop} {st : List Value}
    (hM : zM l0 Γ0 d' y wsy mc' ms' V (.ref b :: As) P') (hT : GoodIn ws wsy) (hw : wsy = Cond.code y bytes maxL none :: wsy') (hini : Cond.initialized y.cls ∈ ws) (hz : zxm[i]? = some (own, index, y, host)) (hin : Cond.instanceMethod y ∈ ws) (hy1 : y.name = "<init>")
    (hd : y.cls ≠ "java/lang/invoke/MethodHandle" ∧ y.cls ≠ "java/lang/invoke/VarHandle" ∧ (parseMethodDescriptor y.desc).map (fun d => d.parameters.length) = some nA) (hA : As.length = nA) (hdd : d' + 1 ≤ d ∧ maxL ≤ 41)
    (hst : st = As.reverse ++ .ref b :: rest) (hcat : (rest.map fun v => v.category).sum ≤ 8)
    (hdg : decode cc pc = .ok (.invokespecial index, 3)) (hn : pc + 3 = n') (hkc : kc' + mc' ≤ kc) (hks : ks' + ms' ≤ ks) (kk : ∀ (rv : Option Value) (V' : zV), P' rv V' → zG C V' kc' ks' n' lv (rv.toList ++ rest)) : zG C V kc ks pc lv st := by
  subst hst
  refine zRunG X (a := (Value.ref b :: As).toArray) (P' := P') (rest := rest) ?_ hn hkc hks kk
  clear kk
  obtain ⟨⟨p, l, e, R, s, m, args, below, meth, c⟩, Γ, ⟨nL, mc, ms⟩, Q⟩ := C
  obtain ⟨hx, hb, hml, hown, hts, hO, hB0, hlk, hret, hmc, hms, hdf, hdl, hQ, rfl, rfl, rfl⟩ := X
  intro H locs cells slots ls hH hS hl hcc hs
  have hcc : cells + mc' ≤ mc := hcc
  have hs : slots + ms' ≤ ms := hs
  have hO1 := hO
  obtain ⟨-, -, -, -, -, -, -, -, -, o10, -⟩ := hO1
  exact va_runIN ⟨hx, hb, hml, hown, hts⟩ hM ⟨va_cnB nA hts hT hw rfl rfl (o10 _ (List.mem_of_getElem? hz)) (hts _ hini) hd (zrm hdd hdf hdl), hy1, hts _ hin⟩ ⟨zPc.blind, fun U hU hW => ⟨rfl, by rw [hU]; exact Nat.le_trans hB0 hS.1, by rw [hU]; exact hH, zO_call hO hS hU hW⟩⟩ rfl hA hl.1 rfl (lv_room hcat) hdg ⟨Nat.le_trans hcc hmc, Nat.le_trans hs hms⟩
theorem zr_callSNst (X : zK C l0 Γ0 n0 own cc ws d ret Post) (n' nA i : Nat) {index maxL d' mc' ms' kc' ks' : Nat} {host : String} {y : MethodName} {bytes : ByteArray} {rt : Option FieldType} {wsy wsy' : List Cond} {As : List Value} {P' : Option Value → zV → Prop} {st : List Value}
    (hM : zM l0 Γ0 d' y wsy mc' ms' V As P') (hT : GoodIn ws wsy) (hw : wsy = Cond.code y bytes maxL rt :: wsy') (hini : Cond.initialized y.cls ∈ ws) (hz : zxm[i]? = some (own, index, y, host)) (hsta : Cond.static y ∈ ws)
    (hd : y.cls ≠ "java/lang/invoke/MethodHandle" ∧ y.cls ≠ "java/lang/invoke/VarHandle" ∧ (parseMethodDescriptor y.desc).map (fun d => d.parameters.length) = some nA) (hA : As.length = nA) (hdd : d' + 1 ≤ d ∧ maxL ≤ 41)
    (hst : st = As.reverse ++ rest) (hcat : (rest.map fun v => v.category).sum ≤ 8)
    (hdg : decode cc pc = .ok (.invokestatic index, 3)) (hn : pc + 3 = n') (hkc : kc' + mc' ≤ kc) (hks : ks' + ms' ≤ ks) (kk : ∀ (rv : Option Value) (V' : zV), P' rv V' → zG C V' kc' ks' n' lv (rv.toList ++ rest)) : zG C V kc ks pc lv st := by
  subst hst
  refine zRunG X (a := As.toArray) (P' := P') (rest := rest) ?_ hn hkc hks kk
  clear kk
  obtain ⟨⟨p, l, e, R, s, m, args, below, meth, c⟩, Γ, ⟨nL, mc, ms⟩, Q⟩ := C
  obtain ⟨hx, hb, hml, hown, hts, hO, hB0, hlk, hret, hmc, hms, hdf, hdl, hQ, rfl, rfl, rfl⟩ := X
  intro H locs cells slots ls hH hS hl hcc hs
  have hcc : cells + mc' ≤ mc := hcc
  have hs : slots + ms' ≤ ms := hs
  have hO1 := hO
  obtain ⟨-, -, -, -, -, -, -, -, -, o10, -⟩ := hO1
  exact va_runSN ⟨hx, hb, hml, hown, hts⟩ hM ⟨va_cnB nA hts hT hw rfl rfl (o10 _ (List.mem_of_getElem? hz)) (hts _ hini) hd (zrm hdd hdf hdl), hts _ hsta, trivial⟩ ⟨zPc.blind, fun U hU hW => ⟨rfl, by rw [hU]; exact Nat.le_trans hB0 hS.1, by rw [hU]; exact hH, zO_call hO hS hU hW⟩⟩ rfl hA hl.1 rfl (lv_room hcat) hdg ⟨Nat.le_trans hcc hmc, Nat.le_trans hs hms⟩
/-! arrays of windows, arrays of int arrays -/
theorem zr_newq (X : zK C l0 Γ0 n0 own cc ws d ret Post) (n' tg : Nat) {index kc' ks' : Nat} {n : Int} (hcl : Cond.classLink own index RX5 ∈ ws) (h0 : 0 ≤ n ∧ n ≤ 100000) (hdg : decode cc pc = .ok (.anewarray index, 3)) (hn : pc + 3 = n') (hkc : kc' + 1 ≤ kc) (hks : ks' + n.toNat ≤ ks) (kk : ∀ q : Nat, V q = none → zG C (zu V q tg (zq Γ0.2.1 3 n.toNat (fun _ => none))) kc' ks' n' lv (.ref q :: rest)) : zG C V kc ks pc lv (.int (zI n) :: rest) := by
  obtain ⟨⟨p, l, e, R, s, m, args, below, meth, c⟩, Γ, ⟨nL, mc, ms⟩, Q⟩ := C
  obtain ⟨hx, hb, hml, hown, hts, hO, hB0, hlk, hret, hmc, hms, hdf, hdl, hQ, rfl, rfl, rfl⟩ := X
  subst hn
  intro H locs cells slots ls hV hS hl hcc hs
  obtain ⟨W0, hL, hP, hD⟩ := hV
  have hO1 := hO
  obtain ⟨-, -, -, -, -, -, -, -, -, -, o11, -⟩ := hO1
  have hcl2 : (zI n).toNatClampNeg = n.toNat := zI_clamp h0.1 (by omega)
  refine va_newq hx hb hown (hts _ hcl) o11 hO.1 hP hD hS (fun q h => Nat.le_trans hB0 h) (by rw [← zI_0, zI_lt (by omega) (by omega)]; omega) hcl2 (by omega) (by omega) (by omega) hdg (fun q cA H1 hK1 hP1 hD1 hS1 => ?_)
  have hcA : cA = Γ.2.1 3 := by
    obtain ⟨-, k1, c1, -, -, -, e1⟩ := hK1.2 5 _ rfl
    obtain ⟨-, k2, c2, -, -, -, e2⟩ := hO.1.2 3 _ rfl
    exact Option.some.inj (e1.symm.trans e2)
  subst hcA
  exact kk q (zD_new hL hD1) H1 locs (cells + 1) (slots + n.toNat) ls (zH.push hL (zD_new hL hD1) hP1 hD1) hS1 hl (by omega) (by omega)
theorem zr_newI (X : zK C l0 Γ0 n0 own cc ws d ret Post) (n' tg : Nat) {index kc' ks' : Nat} {n : Int} (hcl : Cond.classLink own index "[I" ∈ ws) (h0 : 0 ≤ n ∧ n ≤ 100000) (hdg : decode cc pc = .ok (.anewarray index, 3)) (hn : pc + 3 = n') (hkc : kc' + 1 ≤ kc) (hks : ks' + n.toNat ≤ ks) (kk : ∀ q : Nat, V q = none → zG C (zu V q tg (zq Γ0.2.1 4 n.toNat (fun _ => none))) kc' ks' n' lv (.ref q :: rest)) : zG C V kc ks pc lv (.int (zI n) :: rest) := by
  obtain ⟨⟨p, l, e, R, s, m, args, below, meth, c⟩, Γ, ⟨nL, mc, ms⟩, Q⟩ := C
  obtain ⟨hx, hb, hml, hown, hts, hO, hB0, hlk, hret, hmc, hms, hdf, hdl, hQ, rfl, rfl, rfl⟩ := X
  subst hn
  intro H locs cells slots ls hV hS hl hcc hs
  obtain ⟨W0, hL, hP, hD⟩ := hV
  have hO1 := hO
  obtain ⟨-, -, -, -, -, -, -, -, -, -, -, o12, -⟩ := hO1
  have hcl2 : (zI n).toNatClampNeg = n.toNat := zI_clamp h0.1 (by omega)
  refine W.anewA (t := .int) hx hb hown (hts _ hcl) o12 rfl hdg rfl (by rw [← zI_0, zI_lt (by omega) (by omega)]; omega) (by omega) (by omega) (by omega) fun cA kA comp f1 f2 f3 f4 => ?_
  rw [hcl2]
  have hcA : cA = Γ.2.1 4 := Option.some.inj (f1.symm.trans (hO.1.2 4 _ rfl).2)
  subst hcA
  generalize hH1 : H.push ({ cls := Γ.2.1 4, slots := Array.replicate n.toNat .null, vm := .none } : Cell) = H1
  have z1 : H1.size = H.size + 1 := by rw [← hH1, Array.size_push]
  have e1 : H1[H.size]? = some (arrV (Γ.2.1 4) n.toNat (fun _ => .null)) := by rw [← hH1, Array.getElem?_push_size, ← arrV_new]
  have o1 : ∀ q : Nat, q < H.size → H1[q]? = H[q]? := fun q hq => by rw [← hH1, Array.getElem?_push, if_neg (Nat.ne_of_lt hq)]
  have hk : ∀ (k : Nat) (x : Nat × va_E), W0[k]? = some x → H1[x.1]? = H[x.1]? := fun k x hx => o1 x.1 ((hP k x hx).lt)
  have hP1 : va_P Γ.1 vwCl (W0 ++ [(H.size, .inl (Γ.2.1 4, n.toNat, .inr (.inr (.inr (.inr (fun _ => none))))))]) H1 := by
    refine (hP.kept hk).app (fun k x hx => ?_)
    have hz : k < 1 := (List.getElem?_eq_some_iff.mp hx).1
    rw [show k = 0 by omega] at hx
    cases hx
    show H1[H.size]? = some (vp_cell _ _)
    rw [vp_cell_q]
    exact e1
  have hD1 : va_D (zA Γ.2.2.2) (W0 ++ [(H.size, .inl (Γ.2.1 4, n.toNat, .inr (.inr (.inr (.inr (fun _ => none))))))]) := hD.push hP rfl (Nat.le_trans hB0 hS.1)
  exact kk H.size (zD_new hL hD1) H1 locs (cells + 1) (slots + n.toNat) ls (zH.push hL (zD_new hL hD1) hP1 hD1) ⟨Nat.le_trans hS.1 (by omega), fun x h1 h2 => (o1 x (Nat.lt_of_lt_of_le h1 hS.1)).trans (hS.2.1 x h1 h2), hS.2.2⟩ hl (by omega) (by omega)
theorem zr_aaldI (X : zK C l0 Γ0 n0 own cc ws d ret Post) (n' : Nat) {a tg n : Nat} {f : Nat → Option Nat} {i : Int} (v : Value) (hV : V a = some (tg, zq Γ0.2.1 4 n f)) (h0 : 0 ≤ i ∧ i < n ∧ i ≤ 2147483647) (hv : va_rf (f i.toNat) = v) (hdg : decode cc pc = .ok (.aaload, 1)) (hn : pc + 1 = n') (kk : zG C V kc ks n' lv (v :: rest)) : zG C V kc ks pc lv (.int (zI i) :: .ref a :: rest) := by
  obtain ⟨⟨p, l, e, R, s, m, args, below, meth, c⟩, Γ, ⟨nL, mc, ms⟩, Q⟩ := C
  obtain ⟨hx, hb, hml, hown, hts, hO, hB0, hlk, hret, hmc, hms, hdf, hdl, hQ, rfl, rfl, rfl⟩ := X
  subst hn
  subst hv
  have hVa := hV
  intro H locs cells slots ls hV hS hl hcc hs
  have hV0 := hV
  obtain ⟨W0, hL, hP, hD⟩ := hV
  obtain ⟨q0, hq⟩ := (hL _ _).mp (zd_of hVa)
  have hcl : (zI i).toNatClampNeg = i.toNat := zI_clamp h0.1 h0.2.2
  have hlt : i.toNat < n := by omega
  exact W.aald (v := va_rf (f i.toNat)) hx hb (hP q0 _ hq) ((hO.1.2 4 _ rfl).1 n (fun j => va_rf (f j))) rfl (fun q => by cases q) (by show ¬ (_ ∨ (arrV _ _ _).slots.size ≤ _); rw [arrV_size]; exact zI_in h0.1 h0.2.1 h0.2.2) (by show (arrV _ _ _).slots[_]? = _; rw [hcl, arrV_read _ _ hlt]) rfl rfl hdg (kk H locs cells slots ls hV0 hS hl hcc hs)
theorem zr_aastI (X : zK C l0 Γ0 n0 own cc ws d ret Post) (n' : Nat) {a tg n v tv nv : Nat} {f : Nat → Option Nat} {g : Nat → Int} {i : Int} (hV : V a = some (tg, zq Γ0.2.1 4 n f)) (hv : V v = some (tv, za Γ0.2.1 0 nv g)) (h0 : 0 ≤ i ∧ i < n ∧ i ≤ 2147483647) (hdg : decode cc pc = .ok (.aastore, 1)) (hn : pc + 1 = n') (kk : zG C (zu V a tg (zq Γ0.2.1 4 n (zg f i.toNat v))) kc ks n' lv rest) : zG C V kc ks pc lv (.ref v :: .int (zI i) :: .ref a :: rest) := by
  obtain ⟨⟨p, l, e, R, s, m, args, below, meth, c⟩, Γ, ⟨nL, mc, ms⟩, Q⟩ := C
  obtain ⟨hx, hb, hml, hown, hts, hO, hB0, hlk, hret, hmc, hms, hdf, hdl, hQ, rfl, rfl, rfl⟩ := X
  subst hn
  have hVa := hV
  intro H locs cells slots ls hV hS hl hcc hs
  obtain ⟨W0, hL, hP, hD⟩ := hV
  obtain ⟨q0, hq⟩ := (hL _ _).mp (zd_of hVa)
  obtain ⟨qk, hqk⟩ := (hL _ _).mp (zd_of hv)
  have hO1 := hO
  obtain ⟨-, -, -, -, -, -, -, -, -, -, -, o12, -⟩ := hO1
  have hcl : (zI i).toNatClampNeg = i.toNat := zI_clamp h0.1 h0.2.2
  have hlt : i.toNat < n := by omega
  obtain ⟨comp, cA, kA, f1, f2, f3, f4, f5⟩ := arrayOverA_spec o12
  have hcA : cA = Γ.2.1 4 := Option.some.inj (f5.symm.trans (hO.1.2 4 _ rfl).2)
  have hcm : comp = Γ.2.1 0 := Option.some.inj (f1.symm.trans (hO.1.2 0 _ rfl).2)
  subst hcA
  subst hcm
  obtain ⟨kI, hkI, -⟩ := Vm.findClass_spec f1
  refine W.aast hx hb (hP q0 _ hq) (fun q h => by cases h) (fun h => by cases h) f3 f4 rfl hkI ⟨by rw [← zI_0, zI_lt (by omega) (by omega)]; omega, by show _ < (arrV _ _ _).slots.size; rw [arrV_size, hcl]; exact hlt⟩ (hP qk _ hqk) (fun q h => by cases h) hkI (va_asg _ _) rfl rfl hdg fun H1 e z oq => ?_
  refine kk H1 _ cells slots ls ⟨_, by rw [zd_zu]; exact hL.set hD hq, hP.set hD hq ?_ oq, hD.set hq⟩ (hS.put z oq (hD.2 q0 _ hq)) hl hcc hs
  show H1[a]? = some (vp_cell _ _)
  rw [e, hcl]
  rw [vp_cell_q]
  refine congrArg some ?_
  refine (arrV_store _ _ _ _ _).trans ?_
  refine congrArg (arrV (Γ.2.1 4) n) (show (updV (fun j => va_rf (f j)) i.toNat (Value.ref v)) = (fun j => va_rf (zg f i.toNat v j)) from ?_)
  funext j
  by_cases hj : j = i.toNat
  · subst hj
    simp [updV, zg, va_rf]
  · simp [updV, zg, hj]
/-! for the JDK's own methods -/
end ZR3
