/-! The layer, second part: throws, calls that may throw, calls of an abstract method, wrappers with handlers. -/
theorem zH.kept {Γ : zGam} {V : zV} {H H1 : Heap} (h : zH Γ V H) (hq : ∀ q : Nat, q < H.size → H1[q]? = H[q]?) : zH Γ V H1 := by
  obtain ⟨ws, hL, hP, hD⟩ := h
  exact ⟨ws, hL, hP.kept (fun k q hk => hq q.1 (hP k q hk).lt), hD⟩
section ZR2
variable {C : zC} {l0 : Launch} {Γ0 : zGam} {n0 : Nat} {own : String} {cc : ByteArray} {ws : List Cond} {d : Nat} {ret : Option FieldType} {Post : Option Value → zV → Prop} {PX : String → zV → Prop} {V : zV} {kc ks pc : Nat} {lv : List (Nat × Value)} {rest : List Value}
theorem zr_throw (X : zK C l0 Γ0 n0 own cc ws d ret Post) (Y : zY C Post PX) (i : Nat) {cls text : String} {names : List String} {ik is ic : Nat} (hz : zstr[i]? = some (own, is, text)) (hcls : Bundle.fit cls = true) (hnames : ∀ n ∈ names, Bundle.fit n = true) (hnl : names.length ≤ 2)
    (hk : Cond.classLink own ik cls ∈ ws) (hini : Cond.initialized cls ∈ ws) (hsub : ∀ w ∈ (vx_atS own ic cls names).filter goodWord, w ∈ ws) (hng : ∀ w ∈ (vx_atS own ic cls names).filter (fun w => !goodWord w), w ∈ ([Cond.castable cls cls, .declares ⟨"java/lang/RuntimeException", "<init>", "(Ljava/lang/String;)V"⟩, .declares ⟨"java/lang/Exception", "<init>", "(Ljava/lang/String;)V"⟩, .declares ⟨"java/lang/Throwable", "<init>", "(Ljava/lang/String;)V"⟩] : List Cond))
    (hcx : cls ∈ (["java/lang/IndexOutOfBoundsException", "java/lang/IllegalArgumentException", "java/lang/IllegalStateException"] : List String)) (hgood : ∀ w ∈ Cond.classLink own ik cls :: Cond.initialized cls :: vx_atS own ic cls names, vx_ot w = true) (hd : 6 ≤ d)
    (d0 : decode cc pc = .ok (.new ik, 3)) (d3 : decode cc (pc + 3) = .ok (.dup, 1)) (d4 : decode cc (pc + 4) = .ok (.ldc_w is, 3)) (d7 : decode cc (pc + 7) = .ok (.invokespecial ic, 3)) (d10 : decode cc (pc + 10) = .ok (.athrow, 1))
    (hcat : (rest.map fun v => v.category).sum ≤ 8) (hkc : 1 ≤ kc) (hks : 6 ≤ ks) (hpx : PX cls V) : zG C V kc ks pc lv rest := by
  obtain ⟨⟨p, l, e, R, s, m, args, below, meth, c⟩, Γ, ⟨nL, mc, ms⟩, Q⟩ := C
  obtain ⟨hx, hb, hml, hown, hts, hO, hB0, hlk, hret, hmc, hms, hdf, hdl, hQ, rfl, rfl, rfl⟩ := X
  obtain ⟨hQx, htr, htab⟩ := Y
  intro H locs cells slots ls hV hS hl hcc hs
  subst hQx
  have hO1 := hO
  obtain ⟨-, o2, o3, -, o5, o6, -, o8, -⟩ := hO1
  have o5i := o5 i (own, is, text) hz
  try dsimp only at o5i
  refine vx_throwSW hx hb htr hown hcls hnames (hts _ hk) (hts _ hini) o5i (vx_hat (B := [Cond.castable cls cls, .declares ⟨"java/lang/RuntimeException", "<init>", "(Ljava/lang/String;)V"⟩, .declares ⟨"java/lang/Exception", "<init>", "(Ljava/lang/String;)V"⟩, .declares ⟨"java/lang/Throwable", "<init>", "(Ljava/lang/String;)V"⟩]) (fun w hw => hts _ (hsub w hw)) hng (fun w hw => ?_)) hgood o2 o3 hS (hl.1.trans hml.symm) d0 d3 d4 d7 d10 (fun x hx => (htab x hx).elim) (by omega) (by omega) (by omega) (by omega) hlk (fun t hal hz1 hk1 => ?_) hS.2.2 (by omega) (by omega)
  · simp only [List.mem_cons, List.not_mem_nil, or_false] at hw
    rcases hw with h | h | h | h
    · rw [h]
      exact va_Nw.use rfl (o6 cls hcx)
    · rw [h]
      exact va_Nw.use rfl (o8 _ (List.mem_of_getElem? (i := 2) rfl))
    · rw [h]
      exact va_Nw.use rfl (o8 _ (List.mem_of_getElem? (i := 3) rfl))
    · rw [h]
      exact va_Nw.use rfl (o8 _ (List.mem_of_getElem? (i := 4) rfl))
  · exact ⟨⟨V, hpx, hV.kept hk1⟩, Nat.le_trans hS.1 hz1, fun q h1 h2 => by rw [hk1 q (Nat.lt_of_lt_of_le h1 hS.1)]; exact hS.2.1 q h1 h2⟩
theorem zRunX (X : zK C l0 Γ0 n0 own cc ws d ret Post) (Y : zY C Post PX) {mc' ms' n' : Nat} {st : List Value} {a : Array Value} {P' : Option Value → zV → Prop} {PX' : String → zV → Prop}
    (hr : ∀ (H : Heap) (locs : List Loc) (cells slots : Nat) (ls : Array Slot), zH Γ0 V H → va_S (zA Γ0.2.2.2) C.1.2.2.2.2.1.heap H locs → lv_has ls n0 lv → cells + mc' ≤ C.2.2.1.2.1 → slots + ms' ≤ C.2.2.1.2.2 →
      vx_Run C.1.1 C.1.2.1 C.1.2.2.1 C.1.2.2.2.1 C.1.2.2.2.2.1 C.1.2.2.2.2.2.1 C.1.2.2.2.2.2.2.1 C.1.2.2.2.2.2.2.2.1 C.1.2.2.2.2.2.2.2.2.1 C.1.2.2.2.2.2.2.2.2.2 H locs cells slots mc' ms' (F0 C.1.2.2.2.2.2.1 pc ls st) rest (zQ Γ0 P' a) (zX Γ0 PX') (zA Γ0.2.2.2))
    (hn : pc + 3 = n') {kc' ks' : Nat} (hkc : kc' + mc' ≤ kc) (hks : ks' + ms' ≤ ks) (hpx : ∀ E V', PX' E V' → PX E V') (kk : ∀ (rv : Option Value) (V' : zV), P' rv V' → zG C V' kc' ks' n' lv (rv.toList ++ rest)) : zG C V kc ks pc lv st := by
  obtain ⟨⟨p, l, e, R, s, m, args, below, meth, c⟩, Γ, ⟨nL, mc, ms⟩, Q⟩ := C
  obtain ⟨hx, hb, hml, hown, hts, hO, hB0, hlk, hret, hmc, hms, hdf, hdl, hQ, rfl, rfl, rfl⟩ := X
  obtain ⟨hQx, htr, htab⟩ := Y
  subst hn
  try dsimp only at hr
  subst hQx
  intro H locs cells slots ls hV hS hl hcc hs T hT X
  rcases hr H locs cells slots ls hV hS hl (by omega) (by omega) T hT X with ⟨v, st₀, t, T', L, h0, X', hL, e1, e2, ⟨⟨rv, V', hv, hp, hH⟩, hF⟩, sg⟩ | ⟨q, st₀, t, T', L, E, ce, h0, X', hL, e1, e2, ⟨⟨V', hp, hH⟩, hF⟩, hce, hcv, hcl, sg⟩
  · cases hv
    obtain ⟨k1, k2, k3⟩ := vx_keep h0 e1 hS (fun _ _ h => h) (fun _ h => h) hL hF
    obtain ⟨t2, a1, b1⟩ := kk v V' hp T'.heap (locs ++ L) (cells + mc') (slots + ms') ls (by rw [e1]; exact hH) k3 hl (by omega) (by omega) T' rfl X'
    exact ⟨t2, sg t2 a1, b1⟩
  · obtain ⟨k1, k2, k3⟩ := vx_keep h0 e1 hS (fun _ _ h => h) (fun _ h => h) hL hF
    have w : vx_W p l e R s m args below meth c T'.heap (locs ++ L) (cells + mc') (slots + ms') (vx_MQ below (zQ Γ Post) (zX Γ PX) args s mc ms (zA Γ.2.2.2)) (F0 m pc ls rest) q := vx_out (fun x hx => (htab x hx).elim) hlk (by rw [e1]; exact hce) hcv hcl (fun t1 ht1 _ => ⟨⟨V', hpx E V' hp, by rw [ht1, e1]; exact hH⟩, k3.F ht1⟩) k3.2.2 (by omega) (by omega)
    obtain ⟨t2, a1, b1⟩ := w T' rfl X'
    exact ⟨t2, sg.trans a1, b1⟩
theorem zr_callVN (X : zK C l0 Γ0 n0 own cc ws d ret Post) (Y : zY C Post PX) (n' nA : Nat) {index maxL d' mc' ms' b ci tg N kc' ks' : Nat} {CC : String} {y : MethodName} {bytes : ByteArray} {rt : Option FieldType} {wsy wsy' : List Cond} {fs As : List Value} {P' : Option Value → zV → Prop} {PX' : String → zV → Prop} {TT : u_T} {st : List Value}
    (hM : zN l0 Γ0 d' y wsy mc' ms' V (.ref b :: As) P' PX') (hT : GoodIn ws (wsV own index CC y wsy)) (hw : wsy = Cond.code y bytes maxL rt :: wsy')
    (hd : y.cls = CC ∧ y.cls ≠ "java/lang/invoke/MethodHandle" ∧ y.cls ≠ "java/lang/invoke/VarHandle" ∧ (parseMethodDescriptor y.desc).map (fun d => d.parameters.length) = some nA) (hA : As.length = nA) (hdd : d' + 1 ≤ d ∧ maxL ≤ 41)
    (hV : V b = some (tg, .inr (ci, fs))) (hc : vwCl[ci]? = some (CC, TT, N)) (hst : st = As.reverse ++ .ref b :: rest) (hcat : (rest.map fun v => v.category).sum ≤ 8)
    (hdg : decode cc pc = .ok (.invokevirtual index, 3)) (hn : pc + 3 = n') (hkc : kc' + mc' ≤ kc) (hks : ks' + ms' ≤ ks) (hpx : ∀ E V', PX' E V' → PX E V') (kk : ∀ (rv : Option Value) (V' : zV), P' rv V' → zG C V' kc' ks' n' lv (rv.toList ++ rest)) : zG C V kc ks pc lv st := by
  subst hst
  refine zRunX X Y (a := (Value.ref b :: As).toArray) (P' := P') (PX' := PX') (rest := rest) ?_ hn hkc hks hpx kk
  clear kk
  obtain ⟨⟨p, l, e, R, s, m, args, below, meth, c⟩, Γ, ⟨nL, mc, ms⟩, Q⟩ := C
  obtain ⟨hx, hb, hml, hown, hts, hO, hB0, hlk, hret, hmc, hms, hdf, hdl, hQ, rfl, rfl, rfl⟩ := X
  intro H locs cells slots ls hH hS hl hcc hs
  have hcc : cells + mc' ≤ mc := hcc
  have hs : slots + ms' ≤ ms := hs
  have hH0 := hH
  obtain ⟨W0, hL, hP, hD⟩ := hH
  obtain ⟨q0, hq⟩ := (hL _ _).mp (zd_of hV)
  exact vx_runV ⟨hx, hb, hml, hown, hts⟩ hM (cwV nA hts hT hw rfl rfl hd (zrm hdd hdf hdl)) ⟨zPc.blind, va_recv hO.1 hP hc hq, fun U hU hW => ⟨rfl, by rw [hU]; exact Nat.le_trans hB0 hS.1, by rw [hU]; exact hH0, zO_call hO hS hU hW⟩⟩ rfl hA hl.1 rfl (lv_room hcat) hdg ⟨Nat.le_trans hcc hmc, Nat.le_trans hs hms⟩
theorem zr_callSN (X : zK C l0 Γ0 n0 own cc ws d ret Post) (Y : zY C Post PX) (n' nA : Nat) {index maxL d' mc' ms' kc' ks' : Nat} {y : MethodName} {bytes : ByteArray} {rt : Option FieldType} {wsy wsy' : List Cond} {As : List Value} {P' : Option Value → zV → Prop} {PX' : String → zV → Prop} {st : List Value}
    (hM : zN l0 Γ0 d' y wsy mc' ms' V As P' PX') (hT : GoodIn ws (va_wsS own index y wsy)) (hw : wsy = Cond.code y bytes maxL rt :: wsy')
    (hd : y.cls ≠ "java/lang/invoke/MethodHandle" ∧ y.cls ≠ "java/lang/invoke/VarHandle" ∧ (parseMethodDescriptor y.desc).map (fun d => d.parameters.length) = some nA) (hA : As.length = nA) (hdd : d' + 1 ≤ d ∧ maxL ≤ 41)
    (hst : st = As.reverse ++ rest) (hcat : (rest.map fun v => v.category).sum ≤ 8)
    (hdg : decode cc pc = .ok (.invokestatic index, 3)) (hn : pc + 3 = n') (hkc : kc' + mc' ≤ kc) (hks : ks' + ms' ≤ ks) (hpx : ∀ E V', PX' E V' → PX E V') (kk : ∀ (rv : Option Value) (V' : zV), P' rv V' → zG C V' kc' ks' n' lv (rv.toList ++ rest)) : zG C V kc ks pc lv st := by
  subst hst
  refine zRunX X Y (a := As.toArray) (P' := P') (PX' := PX') (rest := rest) ?_ hn hkc hks hpx kk
  clear kk
  obtain ⟨⟨p, l, e, R, s, m, args, below, meth, c⟩, Γ, ⟨nL, mc, ms⟩, Q⟩ := C
  obtain ⟨hx, hb, hml, hown, hts, hO, hB0, hlk, hret, hmc, hms, hdf, hdl, hQ, rfl, rfl, rfl⟩ := X
  intro H locs cells slots ls hH hS hl hcc hs
  have hcc : cells + mc' ≤ mc := hcc
  have hs : slots + ms' ≤ ms := hs
  exact vx_runS ⟨hx, hb, hml, hown, hts⟩ hM (va_cwS nA hts hT hw rfl rfl hd (zrm hdd hdf hdl)) ⟨zPc.blind, fun U hU hW => ⟨rfl, by rw [hU]; exact Nat.le_trans hB0 hS.1, by rw [hU]; exact hH, zO_call hO hS hU hW⟩⟩ rfl hA hl.1 rfl (lv_room hcat) hdg ⟨Nat.le_trans hcc hmc, Nat.le_trans hs hms⟩
theorem zr_callU (X : zK C l0 Γ0 n0 own cc ws d ret Post) (n' nA : Nat) {index maxL d' mc' ms' b ci tg N kc' ks' : Nat} {CC owner : String} {x y : MethodName} {bytes : ByteArray} {rt : Option FieldType} {wsy wsy' : List Cond} {fs As : List Value} {P' : Option Value → zV → Prop} {TT : u_T} {st : List Value}
    (hM : zM l0 Γ0 d' y wsy mc' ms' V (.ref b :: As) P') (hT : GoodIn ws (va_wsU own index CC owner x y wsy)) (hw : wsy = Cond.code y bytes maxL rt :: wsy') (hzd : (⟨owner, x.name, x.desc⟩ : MethodName) ∈ zxd)
    (hd : owner ≠ "java/lang/invoke/MethodHandle" ∧ owner ≠ "java/lang/invoke/VarHandle" ∧ (parseMethodDescriptor x.desc).map (fun d => d.parameters.length) = some nA) (hA : As.length = nA) (hdd : d' + 1 ≤ d ∧ maxL ≤ 41)
    (hV : V b = some (tg, .inr (ci, fs))) (hc : vwCl[ci]? = some (CC, TT, N)) (hst : st = As.reverse ++ .ref b :: rest) (hcat : (rest.map fun v => v.category).sum ≤ 8)
    (hdg : decode cc pc = .ok (.invokevirtual index, 3)) (hn : pc + 3 = n') (hkc : kc' + mc' ≤ kc) (hks : ks' + ms' ≤ ks) (kk : ∀ (rv : Option Value) (V' : zV), P' rv V' → zG C V' kc' ks' n' lv (rv.toList ++ rest)) : zG C V kc ks pc lv st := by
  subst hst
  refine zRunG X (a := (Value.ref b :: As).toArray) (P' := P') (rest := rest) ?_ hn hkc hks kk
  clear kk
  obtain ⟨⟨p, l, e, R, s, m, args, below, meth, c⟩, Γ, ⟨nL, mc, ms⟩, Q⟩ := C
  obtain ⟨hx, hb, hml, hown, hts, hO, hB0, hlk, hret, hmc, hms, hdf, hdl, hQ, rfl, rfl, rfl⟩ := X
  intro H locs cells slots ls hH hS hl hcc hs
  have hcc : cells + mc' ≤ mc := hcc
  have hs : slots + ms' ≤ ms := hs
  have hH0 := hH
  obtain ⟨W0, hL, hP, hD⟩ := hH
  obtain ⟨q0, hq⟩ := (hL _ _).mp (zd_of hV)
  exact va_runU ⟨hx, hb, hml, hown, hts⟩ hM (va_cwA nA hts hT hw rfl rfl (hO.2.2.2.2.2.2.2.1 _ hzd) hd (zrm hdd hdf hdl)) ⟨zPc.blind, va_recv hO.1 hP hc hq, fun U hU hW => ⟨rfl, by rw [hU]; exact Nat.le_trans hB0 hS.1, by rw [hU]; exact hH0, zO_call hO hS hU hW⟩⟩ rfl hA hl.1 rfl (lv_room hcat) hdg ⟨Nat.le_trans hcc hmc, Nat.le_trans hs hms⟩
/-! wrappers -/
def zHd (C : zC) (hh : List (Nat × Nat × Nat × Nat)) : Prop := C.1.2.2.2.2.2.2.2.2.2.exceptionTable.toList = tableOf hh
/-- q of class E is thrown at pc -/
def zGX (C : zC) (V : zV) (kc ks pc : Nat) (lv : List (Nat × Value)) (E : String) : Prop :=
  match C with
  | ((p, l, e, R, s, m, args, below, meth, c), Γ, (nL, mc, ms), Q) =>
    ∀ (H : Heap) (locs : List Loc) (cells slots : Nat) (ls : Array Slot) (q : Addr) (ce : Cell) (rest : List Value), zH Γ V H → va_S (zA Γ.2.2.2) s.heap H locs → lv_has ls nL lv → cells + kc ≤ mc → slots + ks ≤ ms → H[q]? = some ce → ce.vm = .none → s.vm.findClass E = some ce.cls → vx_W p l e R s m args below meth c H locs cells slots Q (F0 m pc ls rest) q
theorem zr_callVC (X : zK C l0 Γ0 n0 own cc ws d ret Post) (n' nA : Nat) {index maxL d' mc' ms' b ci tg N kc' ks' : Nat} {CC : String} {y : MethodName} {bytes : ByteArray} {rt : Option FieldType} {wsy wsy' : List Cond} {fs As : List Value} {P' : Option Value → zV → Prop} {PX' : String → zV → Prop} {TT : u_T} {st : List Value}
    (hM : zN l0 Γ0 d' y wsy mc' ms' V (.ref b :: As) P' PX') (hT : GoodIn ws (wsV own index CC y wsy)) (hw : wsy = Cond.code y bytes maxL rt :: wsy')
    (hd : y.cls = CC ∧ y.cls ≠ "java/lang/invoke/MethodHandle" ∧ y.cls ≠ "java/lang/invoke/VarHandle" ∧ (parseMethodDescriptor y.desc).map (fun d => d.parameters.length) = some nA) (hA : As.length = nA) (hdd : d' + 1 ≤ d ∧ maxL ≤ 41)
    (hV : V b = some (tg, .inr (ci, fs))) (hc : vwCl[ci]? = some (CC, TT, N)) (hst : st = As.reverse ++ .ref b :: rest) (hcat : (rest.map fun v => v.category).sum ≤ 8)
    (hdg : decode cc pc = .ok (.invokevirtual index, 3)) (hn : pc + 3 = n') (hkc : kc' + mc' ≤ kc) (hks : ks' + ms' ≤ ks) (kx : ∀ E V', PX' E V' → zGX C V' kc' ks' pc lv E) (kk : ∀ (rv : Option Value) (V' : zV), P' rv V' → zG C V' kc' ks' n' lv (rv.toList ++ rest)) : zG C V kc ks pc lv st := by
  subst hst
  obtain ⟨⟨p, l, e, R, s, m, args, below, meth, c⟩, Γ, ⟨nL, mc, ms⟩, Q⟩ := C
  obtain ⟨hx, hb, hml, hown, hts, hO, hB0, hlk, hret, hmc, hms, hdf, hdl, hQ, rfl, rfl, rfl⟩ := X
  subst hn
  intro H locs cells slots ls hH hS hl hcc hs T hTT X
  have hH0 := hH
  obtain ⟨W0, hL, hP, hD⟩ := hH
  obtain ⟨q0, hq⟩ := (hL _ _).mp (zd_of hV)
  rcases vx_runV ⟨hx, hb, hml, hown, hts⟩ hM (cwV nA hts hT hw rfl rfl hd (zrm hdd hdf hdl)) ⟨zPc.blind, va_recv hO.1 hP hc hq, fun U hU hW => ⟨rfl, by rw [hU]; exact Nat.le_trans hB0 hS.1, by rw [hU]; exact hH0, zO_call hO hS hU hW⟩⟩ (g := F0 m pc ls (As.reverse ++ .ref b :: rest)) rfl hA hl.1 rfl (lv_room hcat) hdg ⟨by omega, by omega⟩ T hTT X with ⟨v, st₀, t, T', L, h0, X', hL, e1, e2, ⟨⟨rv, V', hv, hp, hH⟩, hF⟩, sg⟩ | ⟨q, st₀, t, T', L, E, ce, h0, X', hL, e1, e2, ⟨⟨V', hp, hH⟩, hF⟩, hce, hcv, hcl, sg⟩
  · cases hv
    obtain ⟨k1, k2, k3⟩ := vx_keep h0 e1 hS (fun _ _ h => h) (fun _ h => h) hL hF
    obtain ⟨t2, a1, b1⟩ := kk v V' hp T'.heap (locs ++ L) (cells + mc') (slots + ms') ls (by rw [e1]; exact hH) k3 hl (by omega) (by omega) T' rfl X'
    exact ⟨t2, sg t2 a1, b1⟩
  · obtain ⟨k1, k2, k3⟩ := vx_keep h0 e1 hS (fun _ _ h => h) (fun _ h => h) hL hF
    obtain ⟨t2, a1, b1⟩ := kx E V' hp T'.heap (locs ++ L) (cells + mc') (slots + ms') ls q ce rest (by rw [e1]; exact hH) k3 hl (by omega) (by omega) (by rw [e1]; exact hce) hcv hcl T' rfl X'
    exact ⟨t2, sg.trans a1, b1⟩
theorem zr_catch (X : zK C l0 Γ0 n0 own cc ws d ret Post) {hh : List (Nat × Nat × Nat × Nat)} (hz : zHd C hh) {E name : String} (pre : List ExceptionTableEntry) (x : ExceptionTableEntry) (suf : List ExceptionTableEntry) (hsplit : tableOf hh = pre ++ x :: suf)
    (hpass : ∀ z ∈ pre, covers z pc = false ∨ (z.catchType ≠ 0 ∧ ∃ nm : String, Cond.classLink own z.catchType nm ∈ ws ∧ (E, nm) ∈ zxn)) (hcv : covers x pc = true) (h0 : x.catchType ≠ 0)
    (hlink : Cond.classLink own x.catchType name ∈ ws) (hcast : E = name ∧ E ∈ (["java/lang/IndexOutOfBoundsException", "java/lang/IllegalArgumentException", "java/lang/IllegalStateException"] : List String))
    (kk : ∀ q : Nat, zG C V kc ks x.handlerPc lv [.ref q]) : zGX C V kc ks pc lv E := by
  obtain ⟨⟨p, l, e, R, s, m, args, below, meth, c⟩, Γ, ⟨nL, mc, ms⟩, Q⟩ := C
  obtain ⟨hx, hb, hml, hown, hts, hO, hB0, hlk, hret, hmc, hms, hdf, hdl, hQ, rfl, rfl, rfl⟩ := X
  intro H locs cells slots ls q ce rest hH hS hl hcc hs hce hcvm hcl
  have hz : c.exceptionTable.toList = tableOf hh := hz
  refine vx_catch hown pre x suf (hz.trans hsplit) (fun z hzm => ?_) hcv h0 (hts _ hlink) ?_ hce hcvm hcl (kk q H locs cells slots ls hH hS hl hcc hs)
  · rcases hpass z hzm with h | ⟨h1, nm, h2, h3⟩
    · exact Or.inl h
    · exact Or.inr ⟨h1, nm, hts _ h2, hO.2.2.2.2.2.2.1 _ h3⟩
  · rw [← hcast.1]
    exact va_Nw.use rfl (hO.2.2.2.2.2.1 E hcast.2)
theorem zr_callSW (X : zK C l0 Γ0 n0 own cc ws d ret Post) (n' nA : Nat) {index maxL d' mc' ms' kc' ks' : Nat} {y : MethodName} {bytes : ByteArray} {rt : Option FieldType} {hh : List (Nat × Nat × Nat × Nat)} {wsy wsy' : List Cond} {As : List Value} {P' : Option Value → zV → Prop} {st : List Value}
    (hM : zM l0 Γ0 d' y wsy mc' ms' V As P') (hT : GoodIn ws (va_wsS own index y wsy)) (hw : wsy = Cond.codeWith y bytes maxL rt hh :: wsy')
    (hd : y.cls ≠ "java/lang/invoke/MethodHandle" ∧ y.cls ≠ "java/lang/invoke/VarHandle" ∧ (parseMethodDescriptor y.desc).map (fun d => d.parameters.length) = some nA) (hA : As.length = nA) (hdd : d' + 1 ≤ d ∧ maxL ≤ 41)
    (hst : st = As.reverse ++ rest) (hcat : (rest.map fun v => v.category).sum ≤ 8)
    (hdg : decode cc pc = .ok (.invokestatic index, 3)) (hn : pc + 3 = n') (hkc : kc' + mc' ≤ kc) (hks : ks' + ms' ≤ ks) (kk : ∀ (rv : Option Value) (V' : zV), P' rv V' → zG C V' kc' ks' n' lv (rv.toList ++ rest)) : zG C V kc ks pc lv st := by
  subst hst
  refine zRunG X (a := As.toArray) (P' := P') (rest := rest) ?_ hn hkc hks kk
  clear kk
  obtain ⟨⟨p, l, e, R, s, m, args, below, meth, c⟩, Γ, ⟨nL, mc, ms⟩, Q⟩ := C
  obtain ⟨hx, hb, hml, hown, hts, hO, hB0, hlk, hret, hmc, hms, hdf, hdl, hQ, rfl, rfl, rfl⟩ := X
  intro H locs cells slots ls hH hS hl hcc hs
  have hcc : cells + mc' ≤ mc := hcc
  have hs : slots + ms' ≤ ms := hs
  exact vx_runSW ⟨hx, hb, hml, hown, hts⟩ hM (vx_cwSW nA hts hT hw rfl rfl hd (zrm hdd hdf hdl)) ⟨zPc.blind, fun U hU hW => ⟨rfl, by rw [hU]; exact Nat.le_trans hB0 hS.1, by rw [hU]; exact hH, zO_call hO hS hU hW⟩⟩ rfl hA hl.1 rfl (lv_room hcat) hdg ⟨Nat.le_trans hcc hmc, Nat.le_trans hs hms⟩
end ZR2
theorem zW_of {l : Launch} {Γ : zGam} {d : Nat} {y : MethodName} {wsy ws' : List Cond} {mc ms nL : Nat} {V : zV} {av : List Value} {Post : Option Value → zV → Prop} {cc : ByteArray} {ret : Option FieldType} {own : String} {hh : List (Nat × Nat × Nat × Nat)} (hy : plainName y.cls = true) (hw : wsy = Cond.codeWith y cc nL ret hh :: ws') (hown : y.cls = own) (hle : (lg_sl av).length ≤ nL)
    (body : ∀ C : zC, zK C l Γ nL own cc wsy d ret Post → zHd C hh → zG C V mc ms 0 (lv_args 0 av) []) : zM l Γ d y wsy mc ms V av Post := by
  refine va_MetW (cc := cc) (maxL := nL) (ret := ret) hy hw ?_
  intro p e s m args below meth c s₁ B hml hv
  obtain ⟨rfl, hB0, hH, hO⟩ := hv
  subst hown
  have hl := lv_entry av (n := nL) hle
  rw [lg_entry_eq]
  exact body ((p, l, e, (headSpec wsy (zR d mc ms)).room, s, m, av.toArray, below, meth, c), Γ, (nL, mc, ms), MQ below (zQ Γ Post) av.toArray s mc ms (zA Γ.2.2.2)) ⟨B.exec, B.bytes, hml, findClass_of_methodNamed B.named, atoms_spec B.pre, hO, hB0, B.notSynchronized, B.returns, Nat.le_refl _, Nat.le_refl _, Nat.le_refl _, Nat.le_refl _, fun _ h => h, rfl, rfl, rfl⟩ (vx_table (x := y) (y := y) B (atoms_spec (ws := wsy) B.pre _ (by rw [hw]; exact List.mem_cons_self))) s.heap [] 0 0 _ hH va_S.rf hl (by omega) (by omega)
theorem zN_of {l : Launch} {Γ : zGam} {d : Nat} {y : MethodName} {wsy ws' : List Cond} {mc ms nL : Nat} {V : zV} {av : List Value} {Post : Option Value → zV → Prop} {PX : String → zV → Prop} {cc : ByteArray} {ret : Option FieldType} {own : String} (hlt : l.stackTraces = false) (hy : plainName y.cls = true) (hw : wsy = Cond.code y cc nL ret :: ws') (hown : y.cls = own) (hle : (lg_sl av).length ≤ nL)
    (body : ∀ C : zC, zK C l Γ nL own cc wsy d ret Post → zY C Post PX → zG C V mc ms 0 (lv_args 0 av) []) : zN l Γ d y wsy mc ms V av Post PX := by
  refine vx_ofW (cc := cc) (maxL := nL) (ret := ret) hy hw ?_
  intro p e s m args below meth c s₁ B hml htab hv
  obtain ⟨rfl, hB0, hH, hO⟩ := hv
  subst hown
  have hl := lv_entry av (n := nL) hle
  rw [lg_entry_eq]
  refine body ((p, l, e, (headSpec wsy (zR d mc ms)).room, s, m, av.toArray, below, meth, c), Γ, (nL, mc, ms), vx_MQ below (zQ Γ Post) (zX Γ PX) av.toArray s mc ms (zA Γ.2.2.2)) ⟨B.exec, B.bytes, hml, findClass_of_methodNamed B.named, atoms_spec B.pre, hO, hB0, B.notSynchronized, B.returns, Nat.le_refl _, Nat.le_refl _, Nat.le_refl _, Nat.le_refl _, fun t h => ?_, rfl, rfl, rfl⟩ ⟨rfl, hlt, htab⟩ s.heap [] 0 0 _ hH va_S.rf hl (by omega) (by omega)
  obtain ⟨o, b1, b2, b3, b4⟩ := h
  exact ⟨o, b1, b2, Or.inl ⟨b3, b4⟩⟩
