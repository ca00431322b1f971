section ZR
variable {C : zC} {l0 : Launch} {Γ0 : zGam} {n0 : Nat} {own : String} {cc : ByteArray} {ws : List Cond} {d : Nat} {ret : Option FieldType} {Post : Option Value → zV → Prop} {V : zV} {kc ks pc : Nat} {lv : List (Nat × Value)} {rest : List Value}
theorem zr_gets (X : zK C l0 Γ0 n0 own cc ws d ret Post) (n' : Nat) {index : Nat} (hlink : Cond.fieldLink own index RJ0 "COMPACT_STRINGS" "Z" ∈ ws) (hdg : decode cc pc = .ok (.getstatic index, 3)) (hn : pc + 3 = n') (kk : zG C V kc ks n' lv (.int (zI 1) :: rest)) : zG C V kc ks pc lv rest := by
  obtain ⟨⟨p, l, e, R, s, m, args, below, meth, c⟩, Γ, ⟨nL, mc, ms⟩, Q⟩ := C
  obtain ⟨hx, hb, hml, hown, hts, hO, hB0, hlk, hret, hmc, hms, hdf, hdl, hQ, rfl, rfl, rfl⟩ := X
  subst hn
  intro H locs cells slots ls hV hS hl hcc hs
  exact va_gets hx hb hO.2.2.2.1 hS hown (hts _ hlink) (fun _ h => h) hdg (kk H locs cells slots ls hV hS hl hcc hs)
theorem zr_ldcS (X : zK C l0 Γ0 n0 own cc ws d ret Post) (n' i : Nat) {index : Nat} {tx : String} (hz : zstr[i]? = some (own, index, tx)) (hdg : decode cc pc = .ok (.ldc index, 2)) (hn : pc + 2 = n') (kk : zG C V kc ks n' lv (.ref (Γ0.2.2.1 i) :: rest)) : zG C V kc ks pc lv rest := by
  obtain ⟨⟨p, l, e, R, s, m, args, below, meth, c⟩, Γ, ⟨nL, mc, ms⟩, Q⟩ := C
  obtain ⟨hx, hb, hml, hown, hts, hO, hB0, hlk, hret, hmc, hms, hdf, hdl, hQ, rfl, rfl, rfl⟩ := X
  subst hn
  intro H locs cells slots ls hV hS hl hcc hs
  exact va_ldcS hx hb hown (hO.2.2.2.2.1 i _ hz) hdg (kk H locs cells slots ls hV hS hl hcc hs)
theorem zr_objInit (X : zK C l0 Γ0 n0 own cc ws d ret Post) (n' : Nat) {a tg ci index : Nat} {fs : List Value} {q : vw_C} (hV : V a = some (tg, .inr (ci, fs))) (hc : vwCl[ci]? = some q) (hlink : Cond.methodLink own index objectInit ∈ ws) (hinst : Cond.instanceMethod objectInit ∈ ws) (hcode : Cond.code objectInit ⟨#[0xb1]⟩ 1 none ∈ ws) (hd : 2 ≤ d) (hcat : (rest.map fun v => v.category).sum ≤ 8) (hdg : decode cc pc = .ok (.invokespecial index, 3)) (hn : pc + 3 = n') (kk : zG C V kc ks n' lv rest) : zG C V kc ks pc lv (.ref a :: rest) := by
  obtain ⟨⟨p, l, e, R, s, m, args, below, meth, c⟩, Γ, ⟨nL, mc, ms⟩, Q⟩ := C
  obtain ⟨hx, hb, hml, hown, hts, hO, hB0, hlk, hret, hmc, hms, hdf, hdl, hQ, rfl, rfl, rfl⟩ := X
  subst hn
  intro H locs cells slots ls hV hS hl hcc hs
  exact W.objInit hx hb hown (hts _ hlink) (hts _ hinst) (hts _ hcode) rfl (hl.1.trans hml.symm) rfl hdg (by omega) (by have := lv_room (m := m) (pc := pc) (ls := ls) (rest := .ref a :: rest) hcat; omega) (kk H locs cells slots ls hV hS hl hcc hs)
end ZR
