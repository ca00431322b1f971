section ZR2
variable {C : zC} {l0 : Launch} {Γ0 : zGam} {n0 : Nat} {own : String} {cc : ByteArray} {ws : List Cond} {d : Nat} {ret : Option FieldType} {Post : Option Value → zV → Prop} {PX : String → zV → Prop} {V : zV} {kc ks pc : Nat} {lv : List (Nat × Value)} {rest : List Value}
theorem zr_throw (X : zK C l0 Γ0 n0 own cc ws d ret Post) (Y : zY C Post PX) (i : Nat) {cls text : String} {names : List String} {ik is ic : Nat} (hz : zstr[i]? = some (own, is, text)) (hcls : Bundle.fit cls = true) (hnames : ∀ n ∈ names, Bundle.fit n = true) (hnl : names.length ≤ 2)
    (hk : Cond.classLink own ik cls ∈ ws) (hini : Cond.initialized cls ∈ ws) (hsub : ∀ w ∈ (vx_atS own ic cls names).filter goodWord, w ∈ ws) (hng : ∀ w ∈ (vx_atS own ic cls names).filter (fun w => !goodWord w), w ∈ ([Cond.castable cls cls, .declares ⟨"java/lang/RuntimeException", "<init>", "(Ljava/lang/String;)V"⟩, .declares ⟨"java/lang/Exception", "<init>", "(Ljava/lang/String;)V"⟩, .declares ⟨"java/lang/Throwable", "<init>", "(Ljava/lang/String;)V"⟩] : List Cond))
    (hcx : cls ∈ (["java/lang/IndexOutOfBoundsException", "java/lang/IllegalArgumentException", "java/lang/IllegalStateException"] : List String)) (hgood : ∀ w ∈ Cond.classLink own ik cls :: Cond.initialized cls :: vx_atS own ic cls names, vx_ot w = true) (hd : 6 ≤ d)
    (d0 : decode cc pc = .ok (.new ik, 3)) (d3 : decode cc (pc + 3) = .ok (.dup, 1)) (d4 : decode cc (pc + 4) = .ok (.ldc_w is, 3)) (d7 : decode cc (pc + 7) = .ok (.invokespecial ic, 3)) (d10 : decode cc (pc + 10) = .ok (.athrow, 1))
    (hcat : (rest.map fun v => v.category).sum ≤ 8) (hkc : 1 ≤ kc) (hks : 6 ≤ ks) (hpx : PX cls V) : zG C V kc ks pc lv rest := by
  obtain ⟨⟨p, l, e, R, s, m, args, below, meth, c⟩, Γ, ⟨nL, mc, ms⟩, Q⟩ := C
  obtain ⟨hx, hb, hml, hown, hts, hO, hB0, hlk, hret, hmc, hms, hdf, hdl, hQ, rfl, rfl, rfl⟩ := X
  obtain ⟨hQx, htr, htab⟩ := Y
  intro H locs cells slots ls hV hS hl hcc hs
  subst hQx
  have hO1 := hO
  obtain ⟨-, o2, o3, -, o5, o6, -, o8, -⟩ := hO1
  refine vx_throwSW hx hb htr hown hcls hnames (hts _ hk) (hts _ hini) (o5 i _ hz) (vx_hat (B := [Cond.castable cls cls, .declares ⟨"java/lang/RuntimeException", "<init>", "(Ljava/lang/String;)V"⟩, .declares ⟨"java/lang/Exception", "<init>", "(Ljava/lang/String;)V"⟩, .declares ⟨"java/lang/Throwable", "<init>", "(Ljava/lang/String;)V"⟩]) (fun w hw => hts _ (hsub w hw)) hng (fun w hw => ?_)) hgood o2 o3 hS (hl.1.trans hml.symm) d0 d3 d4 d7 d10 (fun x hx => (htab x hx).elim) (by omega) (by omega) (by omega) (by omega) hlk (fun t hal hz1 hk1 => ?_) hS.2.2 (by omega) (by omega)
  · simp only [List.mem_cons, List.not_mem_nil, or_false] at hw
    rcases hw with h | h | h | h
    · rw [h]
      exact va_Nw.use rfl (o6 cls hcx)
    · rw [h]
      exact va_Nw.use rfl (o8 _ (List.mem_of_getElem? (i := 2) rfl))
    · rw [h]
      exact va_Nw.use rfl (o8 _ (List.mem_of_getElem? (i := 3) rfl))
    · rw [h]
      exact va_Nw.use rfl (o8 _ (List.mem_of_getElem? (i := 4) rfl))
  · exact ⟨⟨V, hpx, hV.kept hk1⟩, Nat.le_trans hS.1 hz1, fun q h1 h2 => by rw [hk1 q (Nat.lt_of_lt_of_le h1 hS.1)]; exact hS.2.1 q h1 h2⟩
end ZR2
