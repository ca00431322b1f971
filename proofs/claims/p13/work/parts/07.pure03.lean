section ZR3
variable {C : zC} {l0 : Launch} {Γ0 : zGam} {n0 : Nat} {own : String} {cc : ByteArray} {ws : List Cond} {d : Nat} {ret : Option FieldType} {Post : Option Value → zV → Prop} {V : zV} {kc ks pc : Nat} {lv : List (Nat × Value)} {rest : List Value}
theorem zr_getN (X : zK C l0 Γ0 n0 own cc ws d ret Post) (n' ci k i : Nat) {index a tg N : Nat} {fs : List Value} {C' ref host : String} {T : u_T} {v : Value} (hV : V a = some (tg, .inr (ci, fs))) (hc : vwCl[ci]? = some (C', T, N)) (hin : ∀ w ∈ u_ws C' T N, w ∈ ws) (hk : k < N) (hz : zxf[i]? = some (own, index, ref, (T k).2.1, (T k).2.2.1, host)) (hsame : ref = (T k).1) (hv : fs[k]? = some v) (hdg : decode cc pc = .ok (.getfield index, 3)) (hn : pc + 3 = n') (kk : zG C V kc ks n' lv (v :: rest)) : zG C V kc ks pc lv (.ref a :: rest) := by
  obtain ⟨⟨p, l, e, R, s, m, args, below, meth, c⟩, Γ, ⟨nL, mc, ms⟩, Q⟩ := C
  obtain ⟨hx, hb, hml, hown, hts, hO, hB0, hlk, hret, hmc, hms, hdf, hdl, hQ, rfl, rfl, rfl⟩ := X
  subst hn
  subst hsame
  have hVa := hV
  intro H locs cells slots ls hV hS hl hcc hs
  have hV0 := hV
  obtain ⟨W0, hL, hP, hD⟩ := hV
  obtain ⟨q0, hq⟩ := (hL _ _).mp (zd_of hVa)
  have hO1 := hO
  obtain ⟨-, -, -, -, -, -, -, -, o9, -⟩ := hO1
  exact va_getN hx hb hts hin hown hO.1 hP q0 hq hc k hk (va_Nw.use rfl (o9 _ (List.mem_of_getElem? hz))) (fun _ h9 => h9) hv hdg (kk H locs cells slots ls hV0 hS hl hcc hs)
end ZR3
