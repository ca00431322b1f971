/-! The layer, second part: throws, calls that may throw, calls of an abstract method, wrappers with handlers. -/
theorem zH.kept {Γ : zGam} {V : zV} {H H1 : Heap} (h : zH Γ V H) (hq : ∀ q : Nat, q < H.size → H1[q]? = H[q]?) : zH Γ V H1 := by
  obtain ⟨ws, hL, hP, hD⟩ := h
  exact ⟨ws, hL, hP.kept (fun k q hk => hq q.1 (hP k q hk).lt), hD⟩
section ZR2
variable {C : zC} {l0 : Launch} {Γ0 : zGam} {n0 : Nat} {own : String} {cc : ByteArray} {ws : List Cond} {d : Nat} {ret : Option FieldType} {Post : Option Value → zV → Prop} {PX : String → zV → Prop} {V : zV} {kc ks pc : Nat} {lv : List (Nat × Value)} {rest : List Value}
theorem zr_throw (X : zK C l0 Γ0 n0 own cc ws d ret Post) (Y : zY C Post PX) (i : Nat) {cls text : String} {names : List String} {ik is ic : Nat} (hz : zstr[i]? = some (own, is, text)) (hcls : Bundle.fit cls = true) (hnames : ∀ n ∈ names, Bundle.fit n = true) (hnl : names.length ≤ 2)
    (hk : Cond.classLink own ik cls ∈ ws) (hini : Cond.initialized cls ∈ ws) (hsub : ∀ w ∈ (vx_atS own ic cls names).filter goodWord, w ∈ ws) (hng : ∀ w ∈ (vx_atS own ic cls names).filter (fun w => !goodWord w), w ∈ ([Cond.castable cls cls, .declares ⟨"java/lang/RuntimeException", "<init>", "(Ljava/lang/String;)V"⟩, .declares ⟨"java/lang/Exception", "<init>", "(Ljava/lang/String;)V"⟩, .declares ⟨"java/lang/Throwable", "<init>", "(Ljava/lang/String;)V"⟩] : List Cond))
    (hcx : cls ∈ (["java/lang/IndexOutOfBoundsException", "java/lang/IllegalArgumentException", "java/lang/IllegalStateException"] : List String)) (hgood : ∀ w ∈ Cond.classLink own ik cls :: Cond.initialized cls :: vx_atS own ic cls names, vx_ot w = true) (hd : 6 ≤ d)
    (d0 : decode cc pc = .ok (.new ik, 3)) (d3 : decode cc (pc + 3) = .ok (.dup, 1)) (d4 : decode cc (pc + 4) = .ok (.ldc_w is, 3)) (d7 : decode cc (pc + 7) = .ok (.invokespecial ic, 3)) (d10 : decode cc (pc + 10) = .ok (.athrow, 1))
    (hcat : (rest.map fun v => v.category).sum ≤ 8) (hkc : 1 ≤ kc) (hks : 6 ≤ ks) (hpx : PX cls V) : zG C V kc ks pc lv rest := by
  obtain ⟨⟨p, l, e, R, s, m, args, below, meth, c⟩, Γ, ⟨nL, mc, ms⟩, Q⟩ := C
  obtain ⟨hx, hb, hml, hown, hts, hO, hB0, hlk, hret, hmc, hms, hdf, hdl, hQ, rfl, rfl, rfl⟩ := X
  obtain ⟨hQx, htr, htab⟩ := Y
  intro H locs cells slots ls hV hS hl hcc hs
  subst hQx
  have hO1 := hO
  obtain ⟨-, o2, o3, -, o5, o6, -, o8, -⟩ := hO1
  refine vx_throwSW hx hb htr hown hcls hnames (hts _ hk) (hts _ hini) (o5 i _ hz) (vx_hat (B := [Cond.castable cls cls, .declares ⟨"java/lang/RuntimeException", "<init>", "(Ljava/lang/String;)V"⟩, .declares ⟨"java/lang/Exception", "<init>", "(Ljava/lang/String;)V"⟩, .declares ⟨"java/lang/Throwable", "<init>", "(Ljava/lang/String;)V"⟩]) (fun w hw => hts _ (hsub w hw)) hng (fun w hw => ?_)) hgood o2 o3 hS (hl.1.trans hml.symm) d0 d3 d4 d7 d10 (fun x hx => (htab x hx).elim) (by omega) (by omega) (by omega) (by omega) hlk (fun t hal hz1 hk1 => ?_) hS.2.2 (by omega) (by omega)
  · simp only [List.mem_cons, List.not_mem_nil, or_false] at hw
    rcases hw with h | h | h | h
    · rw [h]
      exact va_Nw.use rfl (o6 cls hcx)
    · rw [h]
      exact va_Nw.use rfl (o8 _ (List.mem_of_getElem? (i := 2) rfl))
    · rw [h]
      exact va_Nw.use rfl (o8 _ (List.mem_of_getElem? (i := 3) rfl))
    · rw [h]
      exact va_Nw.use rfl (o8 _ (List.mem_of_getElem? (i := 4) rfl))
  · exact ⟨⟨V, hpx, hV.kept hk1⟩, Nat.le_trans hS.1 hz1, fun q h1 h2 => by rw [hk1 q (Nat.lt_of_lt_of_le h1 hS.1)]; exact hS.2.1 q h1 h2⟩
theorem zRunX (X : zK C l0 Γ0 n0 own cc ws d ret Post) (Y : zY C Post PX) {mc' ms' n' : Nat} {st : List Value} {a : Array Value} {P' : Option Value → zV → Prop} {PX' : String → zV → Prop}
    (hr : ∀ (H : Heap) (locs : List Loc) (cells slots : Nat) (ls : Array Slot), zH Γ0 V H → va_S (zA Γ0.2.2.2) C.1.2.2.2.2.1.heap H locs → lv_has ls n0 lv → cells + mc' ≤ C.2.2.1.2.1 → slots + ms' ≤ C.2.2.1.2.2 →
      vx_Run C.1.1 C.1.2.1 C.1.2.2.1 C.1.2.2.2.1 C.1.2.2.2.2.1 C.1.2.2.2.2.2.1 C.1.2.2.2.2.2.2.1 C.1.2.2.2.2.2.2.2.1 C.1.2.2.2.2.2.2.2.2.1 C.1.2.2.2.2.2.2.2.2.2 H locs cells slots mc' ms' (F0 C.1.2.2.2.2.2.1 pc ls st) rest (zQ Γ0 P' a) (zX Γ0 PX') (zA Γ0.2.2.2))
    (hn : pc + 3 = n') {kc' ks' : Nat} (hkc : kc' + mc' ≤ kc) (hks : ks' + ms' ≤ ks) (hpx : ∀ E V', PX' E V' → PX E V') (kk : ∀ (rv : Option Value) (V' : zV), P' rv V' → zG C V' kc' ks' n' lv (rv.toList ++ rest)) : zG C V kc ks pc lv st := by
  obtain ⟨⟨p, l, e, R, s, m, args, below, meth, c⟩, Γ, ⟨nL, mc, ms⟩, Q⟩ := C
  obtain ⟨hx, hb, hml, hown, hts, hO, hB0, hlk, hret, hmc, hms, hdf, hdl, hQ, rfl, rfl, rfl⟩ := X
  obtain ⟨hQx, htr, htab⟩ := Y
  subst hn
  try dsimp only at hr
  subst hQx
  intro H locs cells slots ls hV hS hl hcc hs T hT X
  rcases hr H locs cells slots ls hV hS hl (by omega) (by omega) T hT X with ⟨v, st₀, t, T', L, h0, X', hL, e1, e2, ⟨⟨rv, V', hv, hp, hH⟩, hF⟩, sg⟩ | ⟨q, st₀, t, T', L, E, ce, h0, X', hL, e1, e2, ⟨⟨V', hp, hH⟩, hF⟩, hce, hcv, hcl, sg⟩
  · cases hv
    obtain ⟨k1, k2, k3⟩ := vx_keep h0 e1 hS (fun _ _ h => h) (fun _ h => h) hL hF
    obtain ⟨t2, a1, b1⟩ := kk v V' hp T'.heap (locs ++ L) (cells + mc') (slots + ms') ls (by rw [e1]; exact hH) k3 hl (by omega) (by omega) T' rfl X'
    exact ⟨t2, sg t2 a1, b1⟩
  · obtain ⟨k1, k2, k3⟩ := vx_keep h0 e1 hS (fun _ _ h => h) (fun _ h => h) hL hF
    have w : vx_W p l e R s m args below meth c T'.heap (locs ++ L) (cells + mc') (slots + ms') (vx_MQ below (zQ Γ Post) (zX Γ PX) args s mc ms (zA Γ.2.2.2)) (F0 m pc ls rest) q := vx_out (fun x hx => (htab x hx).elim) hlk (by rw [e1]; exact hce) hcv hcl (fun t1 ht1 _ => ⟨⟨V', hpx E V' hp, by rw [ht1, e1]; exact hH⟩, k3.F ht1⟩) k3.2.2 (by omega) (by omega)
    obtain ⟨t2, a1, b1⟩ := w T' rfl X'
    exact ⟨t2, sg.trans a1, b1⟩
end ZR2
