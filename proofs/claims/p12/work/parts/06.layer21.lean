section ZR2
variable {C : zC} {l0 : Launch} {Γ0 : zGam} {n0 : Nat} {own : String} {cc : ByteArray} {ws : List Cond} {d : Nat} {ret : Option FieldType} {Post : Option Value → zV → Prop} {PX : String → zV → Prop} {V : zV} {kc ks pc : Nat} {lv : List (Nat × Value)} {rest : List Value}
theorem zr_callVN (X : zK C l0 Γ0 n0 own cc ws d ret Post) (Y : zY C Post PX) (n' nA : Nat) {index maxL d' mc' ms' b ci tg N kc' ks' : Nat} {CC : String} {y : MethodName} {bytes : ByteArray} {rt : Option FieldType} {wsy wsy' : List Cond} {fs As : List Value} {P' : Option Value → zV → Prop} {PX' : String → zV → Prop} {TT : u_T} {st : List Value}
    (hM : zN l0 Γ0 d' y wsy mc' ms' V (.ref b :: As) P' PX') (hT : GoodIn ws (wsV own index CC y wsy)) (hw : wsy = Cond.code y bytes maxL rt :: wsy')
    (hd : y.cls = CC ∧ y.cls ≠ "java/lang/invoke/MethodHandle" ∧ y.cls ≠ "java/lang/invoke/VarHandle" ∧ (parseMethodDescriptor y.desc).map (fun d => d.parameters.length) = some nA) (hA : As.length = nA) (hdd : d' + 1 ≤ d ∧ maxL ≤ 41)
    (hV : V b = some (tg, .inr (ci, fs))) (hc : vwCl[ci]? = some (CC, TT, N)) (hst : st = As.reverse ++ .ref b :: rest) (hcat : (rest.map fun v => v.category).sum ≤ 8)
    (hdg : decode cc pc = .ok (.invokevirtual index, 3)) (hn : pc + 3 = n') (hkc : kc' + mc' ≤ kc) (hks : ks' + ms' ≤ ks) (hpx : ∀ E V', PX' E V' → PX E V') (kk : ∀ (rv : Option Value) (V' : zV), P' rv V' → zG C V' kc' ks' n' lv (rv.toList ++ rest)) : zG C V kc ks pc lv st := by
  subst hst
  refine zRunX X Y (a := (Value.ref b :: As).toArray) (P' := P') (PX' := PX') (rest := rest) ?_ hn hkc hks hpx kk
  clear kk
  obtain ⟨⟨p, l, e, R, s, m, args, below, meth, c⟩, Γ, ⟨nL, mc, ms⟩, Q⟩ := C
  obtain ⟨hx, hb, hml, hown, hts, hO, hB0, hlk, hret, hmc, hms, hdf, hdl, hQ, rfl, rfl, rfl⟩ := X
  intro H locs cells slots ls hH hS hl hcc hs
  have hcc : cells + mc' ≤ mc := hcc
  have hs : slots + ms' ≤ ms := hs
  have hH0 := hH
  obtain ⟨W0, hL, hP, hD⟩ := hH
  obtain ⟨q0, hq⟩ := (hL _ _).mp (zd_of hV)
  exact vx_runV ⟨hx, hb, hml, hown, hts⟩ hM (cwV nA hts hT hw rfl rfl hd (zrm hdd hdf hdl)) ⟨zPc.blind, va_recv hO.1 hP hc hq, fun U hU hW => ⟨rfl, by rw [hU]; exact Nat.le_trans hB0 hS.1, by rw [hU]; exact hH0, zO_call hO hS hU hW⟩⟩ rfl hA hl.1 rfl (lv_room hcat) hdg ⟨Nat.le_trans hcc hmc, Nat.le_trans hs hms⟩
theorem zr_callSN (X : zK C l0 Γ0 n0 own cc ws d ret Post) (Y : zY C Post PX) (n' nA : Nat) {index maxL d' mc' ms' kc' ks' : Nat} {y : MethodName} {bytes : ByteArray} {rt : Option FieldType} {wsy wsy' : List Cond} {As : List Value} {P' : Option Value → zV → Prop} {PX' : String → zV → Prop} {st : List Value}
    (hM : zN l0 Γ0 d' y wsy mc' ms' V As P' PX') (hT : GoodIn ws (va_wsS own index y wsy)) (hw : wsy = Cond.code y bytes maxL rt :: wsy')
    (hd : y.cls ≠ "java/lang/invoke/MethodHandle" ∧ y.cls ≠ "java/lang/invoke/VarHandle" ∧ (parseMethodDescriptor y.desc).map (fun d => d.parameters.length) = some nA) (hA : As.length = nA) (hdd : d' + 1 ≤ d ∧ maxL ≤ 41)
    (hst : st = As.reverse ++ rest) (hcat : (rest.map fun v => v.category).sum ≤ 8)
    (hdg : decode cc pc = .ok (.invokestatic index, 3)) (hn : pc + 3 = n') (hkc : kc' + mc' ≤ kc) (hks : ks' + ms' ≤ ks) (hpx : ∀ E V', PX' E V' → PX E V') (kk : ∀ (rv : Option Value) (V' : zV), P' rv V' → zG C V' kc' ks' n' lv (rv.toList ++ rest)) : zG C V kc ks pc lv st := by
  subst hst
  refine zRunX X Y (a := As.toArray) (P' := P') (PX' := PX') (rest := rest) ?_ hn hkc hks hpx kk
  clear kk
  obtain ⟨⟨p, l, e, R, s, m, args, below, meth, c⟩, Γ, ⟨nL, mc, ms⟩, Q⟩ := C
  obtain ⟨hx, hb, hml, hown, hts, hO, hB0, hlk, hret, hmc, hms, hdf, hdl, hQ, rfl, rfl, rfl⟩ := X
  intro H locs cells slots ls hH hS hl hcc hs
  have hcc : cells + mc' ≤ mc := hcc
  have hs : slots + ms' ≤ ms := hs
  exact vx_runS ⟨hx, hb, hml, hown, hts⟩ hM (va_cwS nA hts hT hw rfl rfl hd (zrm hdd hdf hdl)) ⟨zPc.blind, fun U hU hW => ⟨rfl, by rw [hU]; exact Nat.le_trans hB0 hS.1, by rw [hU]; exact hH, zO_call hO hS hU hW⟩⟩ rfl hA hl.1 rfl (lv_room hcat) hdg ⟨Nat.le_trans hcc hmc, Nat.le_trans hs hms⟩
theorem zr_callU (X : zK C l0 Γ0 n0 own cc ws d ret Post) (n' nA : Nat) {index maxL d' mc' ms' b ci tg N kc' ks' : Nat} {CC owner : String} {x y : MethodName} {bytes : ByteArray} {rt : Option FieldType} {wsy wsy' : List Cond} {fs As : List Value} {P' : Option Value → zV → Prop} {TT : u_T} {st : List Value}
    (hM : zM l0 Γ0 d' y wsy mc' ms' V (.ref b :: As) P') (hT : GoodIn ws (va_wsU own index CC owner x y wsy)) (hw : wsy = Cond.code y bytes maxL rt :: wsy') (hzd : (⟨owner, x.name, x.desc⟩ : MethodName) ∈ zxd)
    (hd : owner ≠ "java/lang/invoke/MethodHandle" ∧ owner ≠ "java/lang/invoke/VarHandle" ∧ (parseMethodDescriptor x.desc).map (fun d => d.parameters.length) = some nA) (hA : As.length = nA) (hdd : d' + 1 ≤ d ∧ maxL ≤ 41)
    (hV : V b = some (tg, .inr (ci, fs))) (hc : vwCl[ci]? = some (CC, TT, N)) (hst : st = As.reverse ++ .ref b :: rest) (hcat : (rest.map fun v => v.category).sum ≤ 8)
    (hdg : decode cc pc = .ok (.invokevirtual index, 3)) (hn : pc + 3 = n') (hkc : kc' + mc' ≤ kc) (hks : ks' + ms' ≤ ks) (kk : ∀ (rv : Option Value) (V' : zV), P' rv V' → zG C V' kc' ks' n' lv (rv.toList ++ rest)) : zG C V kc ks pc lv st := by
  subst hst
  refine zRunG X (a := (Value.ref b :: As).toArray) (P' := P') (rest := rest) ?_ hn hkc hks kk
  clear kk
  obtain ⟨⟨p, l, e, R, s, m, args, below, meth, c⟩, Γ, ⟨nL, mc, ms⟩, Q⟩ := C
  obtain ⟨hx, hb, hml, hown, hts, hO, hB0, hlk, hret, hmc, hms, hdf, hdl, hQ, rfl, rfl, rfl⟩ := X
  intro H locs cells slots ls hH hS hl hcc hs
  have hcc : cells + mc' ≤ mc := hcc
  have hs : slots + ms' ≤ ms := hs
  have hH0 := hH
  obtain ⟨W0, hL, hP, hD⟩ := hH
  obtain ⟨q0, hq⟩ := (hL _ _).mp (zd_of hV)
  exact va_runU ⟨hx, hb, hml, hown, hts⟩ hM (va_cwA nA hts hT hw rfl rfl (hO.2.2.2.2.2.2.2.1 _ hzd) hd (zrm hdd hdf hdl)) ⟨zPc.blind, va_recv hO.1 hP hc hq, fun U hU hW => ⟨rfl, by rw [hU]; exact Nat.le_trans hB0 hS.1, by rw [hU]; exact hH0, zO_call hO hS hU hW⟩⟩ rfl hA hl.1 rfl (lv_room hcat) hdg ⟨Nat.le_trans hcc hmc, Nat.le_trans hs hms⟩
/-! wrappers -/
def zHd (C : zC) (hh : List (Nat × Nat × Nat × Nat)) : Prop := C.1.2.2.2.2.2.2.2.2.2.exceptionTable.toList = tableOf hh
/-- q of class E is thrown at pc -/
def zGX (C : zC) (V : zV) (kc ks pc : Nat) (lv : List (Nat × Value)) (E : String) : Prop :=
  match C with
  | ((p, l, e, R, s, m, args, below, meth, c), Γ, (nL, mc, ms), Q) =>
    ∀ (H : Heap) (locs : List Loc) (cells slots : Nat) (ls : Array Slot) (q : Addr) (ce : Cell) (rest : List Value), zH Γ V H → va_S (zA Γ.2.2.2) s.heap H locs → lv_has ls nL lv → cells + kc ≤ mc → slots + ks ≤ ms → H[q]? = some ce → ce.vm = .none → s.vm.findClass E = some ce.cls → vx_W p l e R s m args below meth c H locs cells slots Q (F0 m pc ls rest) q
end ZR2
