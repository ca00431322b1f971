section ZR
variable {C : zC} {l0 : Launch} {Γ0 : zGam} {n0 : Nat} {own : String} {cc : ByteArray} {ws : List Cond} {d : Nat} {ret : Option FieldType} {Post : Option Value → zV → Prop} {V : zV} {kc ks pc : Nat} {lv : List (Nat × Value)} {rest : List Value}
theorem zr_newai (X : zK C l0 Γ0 n0 own cc ws d ret Post) (n' tg : Nat) {n : Int} {kc' ks' : Nat} (harr : Cond.arrayClass .int ∈ ws) (h0 : 0 ≤ n ∧ n ≤ 60000000) (hdg : decode cc pc = .ok (.newarray .int, 2)) (hn : pc + 2 = n') (hkc : kc' + 1 ≤ kc) (hks : ks' + n.toNat ≤ ks) (kk : ∀ q : Nat, V q = none → zG C (zu V q tg (za Γ0.2.1 0 n.toNat (fun _ => 0))) kc' ks' n' lv (.ref q :: rest)) : zG C V kc ks pc lv (.int (zI n) :: rest) := by
  obtain ⟨⟨p, l, e, R, s, m, args, below, meth, c⟩, Γ, ⟨nL, mc, ms⟩, Q⟩ := C
  obtain ⟨hx, hb, hml, hown, hts, hO, hB0, hlk, hret, hmc, hms, hdf, hdl, hQ, rfl, rfl, rfl⟩ := X
  subst hn
  intro H locs cells slots ls hV hS hl hcc hs
  obtain ⟨W0, hL, hP, hD⟩ := hV
  have hcl : (zI n).toNatClampNeg = n.toNat := zI_clamp h0.1 (by omega)
  refine va_newa (atype := .int) (ty := .int) (N' := n.toNat) (a0 := (n.toNat, .inl (fun _ => zI 0))) hx hb (hts _ harr) rfl hO.1 hP hD hS (fun q h => Nat.le_trans hB0 h) (fun cA => rfl) (by rw [← zI_0, zI_lt (by omega) (by omega)]; omega) hcl (by show n.toNat * _ ≤ _; simp only [componentBytes]; omega) (by omega) (by omega) hdg (fun q cA H1 hK1 hP1 hD1 hS1 => ?_)
  have hcA : cA = Γ.2.1 0 := by
    have e1 := (hK1.2 5 _ rfl).2
    have e2 := (hO.1.2 0 _ rfl).2
    exact Option.some.inj (e1.symm.trans e2)
  subst hcA
  exact kk q (zD_new hL hD1) H1 locs (cells + 1) (slots + n.toNat) ls (zH.push hL (zD_new hL hD1) hP1 hD1) hS1 hl (by omega) (by omega)
end ZR
