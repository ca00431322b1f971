section ZR3
variable {C : zC} {l0 : Launch} {Γ0 : zGam} {n0 : Nat} {own : String} {cc : ByteArray} {ws : List Cond} {d : Nat} {ret : Option FieldType} {Post : Option Value → zV → Prop} {V : zV} {kc ks pc : Nat} {lv : List (Nat × Value)} {rest : List Value}
theorem zr_callSNst (X : zK C l0 Γ0 n0 own cc ws d ret Post) (n' nA i : Nat) {index maxL d' mc' ms' kc' ks' : Nat} {host : String} {y : MethodName} {bytes : ByteArray} {rt : Option FieldType} {wsy wsy' : List Cond} {As : List Value} {P' : Option Value → zV → Prop} {st : List Value}
    (hM : zM l0 Γ0 d' y wsy mc' ms' V As P') (hT : GoodIn ws wsy) (hw : wsy = Cond.code y bytes maxL rt :: wsy') (hini : Cond.initialized y.cls ∈ ws) (hz : zxm[i]? = some (own, index, y, host)) (hsta : Cond.static y ∈ ws)
    (hd : y.cls ≠ "java/lang/invoke/MethodHandle" ∧ y.cls ≠ "java/lang/invoke/VarHandle" ∧ (parseMethodDescriptor y.desc).map (fun d => d.parameters.length) = some nA) (hA : As.length = nA) (hdd : d' + 1 ≤ d ∧ maxL ≤ 41)
    (hst : st = As.reverse ++ rest) (hcat : (rest.map fun v => v.category).sum ≤ 8)
    (hdg : decode cc pc = .ok (.invokestatic index, 3)) (hn : pc + 3 = n') (hkc : kc' + mc' ≤ kc) (hks : ks' + ms' ≤ ks) (kk : ∀ (rv : Option Value) (V' : zV), P' rv V' → zG C V' kc' ks' n' lv (rv.toList ++ rest)) : zG C V kc ks pc lv st := by
  subst hst
  refine zRunG X (a := As.toArray) (P' := P') (rest := rest) ?_ hn hkc hks kk
  clear kk
  obtain ⟨⟨p, l, e, R, s, m, args, below, meth, c⟩, Γ, ⟨nL, mc, ms⟩, Q⟩ := C
  obtain ⟨hx, hb, hml, hown, hts, hO, hB0, hlk, hret, hmc, hms, hdf, hdl, hQ, rfl, rfl, rfl⟩ := X
  intro H locs cells slots ls hH hS hl hcc hs
  have hcc : cells + mc' ≤ mc := hcc
  have hs : slots + ms' ≤ ms := hs
  have hO1 := hO
  obtain ⟨-, -, -, -, -, -, -, -, -, o10, -⟩ := hO1
  exact va_runSN ⟨hx, hb, hml, hown, hts⟩ hM ⟨va_cnB nA hts hT hw rfl rfl (o10 _ (List.mem_of_getElem? hz)) (hts _ hini) hd (zrm hdd hdf hdl), hts _ hsta, trivial⟩ ⟨zPc.blind, fun U hU hW => ⟨rfl, by rw [hU]; exact Nat.le_trans hB0 hS.1, by rw [hU]; exact hH, zO_call hO hS hU hW⟩⟩ rfl hA hl.1 rfl (lv_room hcat) hdg ⟨Nat.le_trans hcc hmc, Nat.le_trans hs hms⟩
/-! arrays of windows, arrays of int arrays -/
end ZR3
