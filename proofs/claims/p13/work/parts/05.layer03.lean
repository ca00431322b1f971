section ZR
variable {C : zC} {l0 : Launch} {Γ0 : zGam} {n0 : Nat} {own : String} {cc : ByteArray} {ws : List Cond} {d : Nat} {ret : Option FieldType} {Post : Option Value → zV → Prop} {V : zV} {kc ks pc : Nat} {lv : List (Nat × Value)} {rest : List Value}
theorem zr_aald (X : zK C l0 Γ0 n0 own cc ws d ret Post) (n' : Nat) {a tg n : Nat} {f : Nat → Option Nat} {i : Int} (v : Value) (hV : V a = some (tg, zq Γ0.2.1 3 n f)) (h0 : 0 ≤ i ∧ i < n ∧ i ≤ 2147483647) (hv : va_rf (f i.toNat) = v) (hdg : decode cc pc = .ok (.aaload, 1)) (hn : pc + 1 = n') (kk : zG C V kc ks n' lv (v :: rest)) : zG C V kc ks pc lv (.int (zI i) :: .ref a :: rest) := by
  obtain ⟨⟨p, l, e, R, s, m, args, below, meth, c⟩, Γ, ⟨nL, mc, ms⟩, Q⟩ := C
  obtain ⟨hx, hb, hml, hown, hts, hO, hB0, hlk, hret, hmc, hms, hdf, hdl, hQ, rfl, rfl, rfl⟩ := X
  subst hn
  subst hv
  have hVa := hV
  intro H locs cells slots ls hV hS hl hcc hs
  have hV0 := hV
  obtain ⟨W0, hL, hP, hD⟩ := hV
  obtain ⟨q0, hq⟩ := (hL _ _).mp (zd_of hVa)
  have k1 := kk H locs cells slots ls hV0 hS hl hcc hs
  rw [← zI_clamp h0.1 h0.2.2] at k1
  exact va_aldq hx hb hO.1 hP q0 3 hq rfl (zI_in h0.1 h0.2.1 h0.2.2) hdg k1
def zg (f : Nat → Option Nat) (i : Nat) (x : Nat) : Nat → Option Nat := fun j => if j = i then some x else f j
end ZR
