section ZR2
variable {C : zC} {l0 : Launch} {Γ0 : zGam} {n0 : Nat} {own : String} {cc : ByteArray} {ws : List Cond} {d : Nat} {ret : Option FieldType} {Post : Option Value → zV → Prop} {PX : String → zV → Prop} {V : zV} {kc ks pc : Nat} {lv : List (Nat × Value)} {rest : List Value}
theorem zr_callSW (X : zK C l0 Γ0 n0 own cc ws d ret Post) (n' nA : Nat) {index maxL d' mc' ms' kc' ks' : Nat} {y : MethodName} {bytes : ByteArray} {rt : Option FieldType} {hh : List (Nat × Nat × Nat × Nat)} {wsy wsy' : List Cond} {As : List Value} {P' : Option Value → zV → Prop} {st : List Value}
    (hM : zM l0 Γ0 d' y wsy mc' ms' V As P') (hT : GoodIn ws (va_wsS own index y wsy)) (hw : wsy = Cond.codeWith y bytes maxL rt hh :: wsy')
    (hd : y.cls ≠ "java/lang/invoke/MethodHandle" ∧ y.cls ≠ "java/lang/invoke/VarHandle" ∧ (parseMethodDescriptor y.desc).map (fun d => d.parameters.length) = some nA) (hA : As.length = nA) (hdd : d' + 1 ≤ d ∧ maxL ≤ 41)
    (hst : st = As.reverse ++ rest) (hcat : (rest.map fun v => v.category).sum ≤ 8)
    (hdg : decode cc pc = .ok (.invokestatic index, 3)) (hn : pc + 3 = n') (hkc : kc' + mc' ≤ kc) (hks : ks' + ms' ≤ ks) (kk : ∀ (rv : Option Value) (V' : zV), P' rv V' → zG C V' kc' ks' n' lv (rv.toList ++ rest)) : zG C V kc ks pc lv st := by
  subst hst
  refine zRunG X (a := As.toArray) (P' := P') (rest := rest) ?_ hn hkc hks kk
  clear kk
  obtain ⟨⟨p, l, e, R, s, m, args, below, meth, c⟩, Γ, ⟨nL, mc, ms⟩, Q⟩ := C
  obtain ⟨hx, hb, hml, hown, hts, hO, hB0, hlk, hret, hmc, hms, hdf, hdl, hQ, rfl, rfl, rfl⟩ := X
  intro H locs cells slots ls hH hS hl hcc hs
  have hcc : cells + mc' ≤ mc := hcc
  have hs : slots + ms' ≤ ms := hs
  exact vx_runSW ⟨hx, hb, hml, hown, hts⟩ hM (vx_cwSW nA hts hT hw rfl rfl hd (zrm hdd hdf hdl)) ⟨zPc.blind, fun U hU hW => ⟨rfl, by rw [hU]; exact Nat.le_trans hB0 hS.1, by rw [hU]; exact hH, zO_call hO hS hU hW⟩⟩ rfl hA hl.1 rfl (lv_room hcat) hdg ⟨Nat.le_trans hcc hmc, Nat.le_trans hs hms⟩
end ZR2
theorem zW_of {l : Launch} {Γ : zGam} {d : Nat} {y : MethodName} {wsy ws' : List Cond} {mc ms nL : Nat} {V : zV} {av : List Value} {Post : Option Value → zV → Prop} {cc : ByteArray} {ret : Option FieldType} {own : String} {hh : List (Nat × Nat × Nat × Nat)} (hy : plainName y.cls = true) (hw : wsy = Cond.codeWith y cc nL ret hh :: ws') (hown : y.cls = own) (hle : (lg_sl av).length ≤ nL)
    (body : ∀ C : zC, zK C l Γ nL own cc wsy d ret Post → zHd C hh → zG C V mc ms 0 (lv_args 0 av) []) : zM l Γ d y wsy mc ms V av Post := by
  refine va_MetW (cc := cc) (maxL := nL) (ret := ret) hy hw ?_
  intro p e s m args below meth c s₁ B hml hv
  obtain ⟨rfl, hB0, hH, hO⟩ := hv
  subst hown
  have hl := lv_entry av (n := nL) hle
  rw [lg_entry_eq]
  exact body ((p, l, e, (headSpec wsy (zR d mc ms)).room, s, m, av.toArray, below, meth, c), Γ, (nL, mc, ms), MQ below (zQ Γ Post) av.toArray s mc ms (zA Γ.2.2.2)) ⟨B.exec, B.bytes, hml, findClass_of_methodNamed B.named, atoms_spec B.pre, hO, hB0, B.notSynchronized, B.returns, Nat.le_refl _, Nat.le_refl _, Nat.le_refl _, Nat.le_refl _, fun _ h => h, rfl, rfl, rfl⟩ (vx_table (x := y) (y := y) B (atoms_spec (ws := wsy) B.pre _ (by rw [hw]; exact List.mem_cons_self))) s.heap [] 0 0 _ hH va_S.rf hl (by omega) (by omega)
theorem zN_of {l : Launch} {Γ : zGam} {d : Nat} {y : MethodName} {wsy ws' : List Cond} {mc ms nL : Nat} {V : zV} {av : List Value} {Post : Option Value → zV → Prop} {PX : String → zV → Prop} {cc : ByteArray} {ret : Option FieldType} {own : String} (hlt : l.stackTraces = false) (hy : plainName y.cls = true) (hw : wsy = Cond.code y cc nL ret :: ws') (hown : y.cls = own) (hle : (lg_sl av).length ≤ nL)
    (body : ∀ C : zC, zK C l Γ nL own cc wsy d ret Post → zY C Post PX → zG C V mc ms 0 (lv_args 0 av) []) : zN l Γ d y wsy mc ms V av Post PX := by
  refine vx_ofW (cc := cc) (maxL := nL) (ret := ret) hy hw ?_
  intro p e s m args below meth c s₁ B hml htab hv
  obtain ⟨rfl, hB0, hH, hO⟩ := hv
  subst hown
  have hl := lv_entry av (n := nL) hle
  rw [lg_entry_eq]
  refine body ((p, l, e, (headSpec wsy (zR d mc ms)).room, s, m, av.toArray, below, meth, c), Γ, (nL, mc, ms), vx_MQ below (zQ Γ Post) (zX Γ PX) av.toArray s mc ms (zA Γ.2.2.2)) ⟨B.exec, B.bytes, hml, findClass_of_methodNamed B.named, atoms_spec B.pre, hO, hB0, B.notSynchronized, B.returns, Nat.le_refl _, Nat.le_refl _, Nat.le_refl _, Nat.le_refl _, fun t h => ?_, rfl, rfl, rfl⟩ ⟨rfl, hlt, htab⟩ s.heap [] 0 0 _ hH va_S.rf hl (by omega) (by omega)
  obtain ⟨o, b1, b2, b3, b4⟩ := h
  exact ⟨o, b1, b2, Or.inl ⟨b3, b4⟩⟩
