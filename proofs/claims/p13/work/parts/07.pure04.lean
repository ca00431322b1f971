section ZR3
variable {C : zC} {l0 : Launch} {Γ0 : zGam} {n0 : Nat} {own : String} {cc : ByteArray} {ws : List Cond} {d : Nat} {ret : Option FieldType} {Post : Option Value → zV → Prop} {V : zV} {kc ks pc : Nat} {lv : List (Nat × Value)} {rest : List Value}
theorem zr_putN (X : zK C l0 Γ0 n0 own cc ws d ret Post) (n' ci k i : Nat) (fs' : List Value) {index a tg N : Nat} {fs : List Value} {C' ref host : String} {T : u_T} {v : Value} (ty0 : Nat → FieldType) (hV : V a = some (tg, .inr (ci, fs))) (hc : vwCl[ci]? = some (C', T, N)) (hin : ∀ w ∈ u_ws C' T N, w ∈ ws) (hty : ∀ k, k < N → parseFieldDescriptor (T k).2.2.1 = some (ty0 k)) (hnm : ∀ a, a < N → ∀ b, b < N → a ≠ b → (T a).2.1 ≠ (T b).2.1) (hk : k < N) (hz : zxf[i]? = some (own, index, ref, (T k).2.1, (T k).2.2.1, host)) (hsame : ref = (T k).1) (hfin : (T k).2.2.2 = false) (hnw : narrow (ty0 k) v = v) (hfit : fits (ty0 k) v = true) (hl : k < fs.length) (hfs : fs.set k v = fs') (hdg : decode cc pc = .ok (.putfield index, 3)) (hn : pc + 3 = n') (kk : zG C (zu V a tg (.inr (ci, fs'))) kc ks n' lv rest) : zG C V kc ks pc lv (v :: .ref a :: rest) := by
  obtain ⟨⟨p, l, e, R, s, m, args, below, meth, c⟩, Γ, ⟨nL, mc, ms⟩, Q⟩ := C
  obtain ⟨hx, hb, hml, hown, hts, hO, hB0, hlk, hret, hmc, hms, hdf, hdl, hQ, rfl, rfl, rfl⟩ := X
  subst hn
  subst hsame
  subst hfs
  have hVa := hV
  intro H locs cells slots ls hV hS hl' hcc hs
  obtain ⟨W0, hL, hP, hD⟩ := hV
  obtain ⟨q0, hq⟩ := (hL _ _).mp (zd_of hVa)
  have hO1 := hO
  obtain ⟨-, -, -, -, -, -, -, -, o9, -⟩ := hO1
  exact va_putN hx hb hts hin ty0 hty hnm hown hO.1 hP hD hS q0 hq hc k hk (va_Nw.use rfl (o9 _ (List.mem_of_getElem? hz))) (fun _ h9 => h9) hfin (hty k hk) hnw hfit hl hdg (fun H1 locs1 hP1 hD1 hS1 => kk H1 locs1 cells slots ls ⟨_, by rw [zd_zu]; exact hL.set hD hq, hP1, hD1⟩ hS1 hl' hcc hs)
end ZR3
