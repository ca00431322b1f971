section ZR2
variable {C : zC} {l0 : Launch} {Γ0 : zGam} {n0 : Nat} {own : String} {cc : ByteArray} {ws : List Cond} {d : Nat} {ret : Option FieldType} {Post : Option Value → zV → Prop} {PX : String → zV → Prop} {V : zV} {kc ks pc : Nat} {lv : List (Nat × Value)} {rest : List Value}
theorem zr_callVC (X : zK C l0 Γ0 n0 own cc ws d ret Post) (n' nA : Nat) {index maxL d' mc' ms' b ci tg N kc' ks' : Nat} {CC : String} {y : MethodName} {bytes : ByteArray} {rt : Option FieldType} {wsy wsy' : List Cond} {fs As : List Value} {P' : Option Value → zV → Prop} {PX' : String → zV → Prop} {TT : u_T} {st : List Value}
    (hM : zN l0 Γ0 d' y wsy mc' ms' V (.ref b :: As) P' PX') (hT : GoodIn ws (wsV own index CC y wsy)) (hw : wsy = Cond.code y bytes maxL rt :: wsy')
    (hd : y.cls = CC ∧ y.cls ≠ "java/lang/invoke/MethodHandle" ∧ y.cls ≠ "java/lang/invoke/VarHandle" ∧ (parseMethodDescriptor y.desc).map (fun d => d.parameters.length) = some nA) (hA : As.length = nA) (hdd : d' + 1 ≤ d ∧ maxL ≤ 41)
    (hV : V b = some (tg, .inr (ci, fs))) (hc : vwCl[ci]? = some (CC, TT, N)) (hst : st = As.reverse ++ .ref b :: rest) (hcat : (rest.map fun v => v.category).sum ≤ 8)
    (hdg : decode cc pc = .ok (.invokevirtual index, 3)) (hn : pc + 3 = n') (hkc : kc' + mc' ≤ kc) (hks : ks' + ms' ≤ ks) (kx : ∀ E V', PX' E V' → zGX C V' kc' ks' pc lv E) (kk : ∀ (rv : Option Value) (V' : zV), P' rv V' → zG C V' kc' ks' n' lv (rv.toList ++ rest)) : zG C V kc ks pc lv st := by
  subst hst
  obtain ⟨⟨p, l, e, R, s, m, args, below, meth, c⟩, Γ, ⟨nL, mc, ms⟩, Q⟩ := C
  obtain ⟨hx, hb, hml, hown, hts, hO, hB0, hlk, hret, hmc, hms, hdf, hdl, hQ, rfl, rfl, rfl⟩ := X
  subst hn
  intro H locs cells slots ls hH hS hl hcc hs T hTT X
  have hH0 := hH
  obtain ⟨W0, hL, hP, hD⟩ := hH
  obtain ⟨q0, hq⟩ := (hL _ _).mp (zd_of hV)
  rcases vx_runV ⟨hx, hb, hml, hown, hts⟩ hM (cwV nA hts hT hw rfl rfl hd (zrm hdd hdf hdl)) ⟨zPc.blind, va_recv hO.1 hP hc hq, fun U hU hW => ⟨rfl, by rw [hU]; exact Nat.le_trans hB0 hS.1, by rw [hU]; exact hH0, zO_call hO hS hU hW⟩⟩ (g := F0 m pc ls (As.reverse ++ .ref b :: rest)) rfl hA hl.1 rfl (lv_room hcat) hdg ⟨by omega, by omega⟩ T hTT X with ⟨v, st₀, t, T', L, h0, X', hL, e1, e2, ⟨⟨rv, V', hv, hp, hH⟩, hF⟩, sg⟩ | ⟨q, st₀, t, T', L, E, ce, h0, X', hL, e1, e2, ⟨⟨V', hp, hH⟩, hF⟩, hce, hcv, hcl, sg⟩
  · cases hv
    obtain ⟨k1, k2, k3⟩ := vx_keep h0 e1 hS (fun _ _ h => h) (fun _ h => h) hL hF
    obtain ⟨t2, a1, b1⟩ := kk v V' hp T'.heap (locs ++ L) (cells + mc') (slots + ms') ls (by rw [e1]; exact hH) k3 hl (by omega) (by omega) T' rfl X'
    exact ⟨t2, sg t2 a1, b1⟩
  · obtain ⟨k1, k2, k3⟩ := vx_keep h0 e1 hS (fun _ _ h => h) (fun _ h => h) hL hF
    obtain ⟨t2, a1, b1⟩ := kx E V' hp T'.heap (locs ++ L) (cells + mc') (slots + ms') ls q ce rest (by rw [e1]; exact hH) k3 hl (by omega) (by omega) (by rw [e1]; exact hce) hcv hcl T' rfl X'
    exact ⟨t2, sg.trans a1, b1⟩
theorem zr_catch (X : zK C l0 Γ0 n0 own cc ws d ret Post) {hh : List (Nat × Nat × Nat × Nat)} (hz : zHd C hh) {E name : String} (pre : List ExceptionTableEntry) (x : ExceptionTableEntry) (suf : List ExceptionTableEntry) (hsplit : tableOf hh = pre ++ x :: suf)
    (hpass : ∀ z ∈ pre, covers z pc = false ∨ (z.catchType ≠ 0 ∧ ∃ nm : String, Cond.classLink own z.catchType nm ∈ ws ∧ (E, nm) ∈ zxn)) (hcv : covers x pc = true) (h0 : x.catchType ≠ 0)
    (hlink : Cond.classLink own x.catchType name ∈ ws) (hcast : E = name ∧ E ∈ (["java/lang/IndexOutOfBoundsException", "java/lang/IllegalArgumentException", "java/lang/IllegalStateException"] : List String))
    (kk : ∀ q : Nat, zG C V kc ks x.handlerPc lv [.ref q]) : zGX C V kc ks pc lv E := by
  obtain ⟨⟨p, l, e, R, s, m, args, below, meth, c⟩, Γ, ⟨nL, mc, ms⟩, Q⟩ := C
  obtain ⟨hx, hb, hml, hown, hts, hO, hB0, hlk, hret, hmc, hms, hdf, hdl, hQ, rfl, rfl, rfl⟩ := X
  intro H locs cells slots ls q ce rest hH hS hl hcc hs hce hcvm hcl
  have hz : c.exceptionTable.toList = tableOf hh := hz
  refine vx_catch hown pre x suf (hz.trans hsplit) (fun z hzm => ?_) hcv h0 (hts _ hlink) ?_ hce hcvm hcl (kk q H locs cells slots ls hH hS hl hcc hs)
  · rcases hpass z hzm with h | ⟨h1, nm, h2, h3⟩
    · exact Or.inl h
    · exact Or.inr ⟨h1, nm, hts _ h2, hO.2.2.2.2.2.2.1 _ h3⟩
  · rw [← hcast.1]
    exact va_Nw.use rfl (hO.2.2.2.2.2.1 E hcast.2)
end ZR2
