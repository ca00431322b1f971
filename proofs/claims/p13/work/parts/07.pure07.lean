section ZR3
variable {C : zC} {l0 : Launch} {Γ0 : zGam} {n0 : Nat} {own : String} {cc : ByteArray} {ws : List Cond} {d : Nat} {ret : Option FieldType} {Post : Option Value → zV → Prop} {V : zV} {kc ks pc : Nat} {lv : List (Nat × Value)} {rest : List Value}
theorem zr_newq (X : zK C l0 Γ0 n0 own cc ws d ret Post) (n' tg : Nat) {index kc' ks' : Nat} {n : Int} (hcl : Cond.classLink own index RX5 ∈ ws) (h0 : 0 ≤ n ∧ n ≤ 100000) (hdg : decode cc pc = .ok (.anewarray index, 3)) (hn : pc + 3 = n') (hkc : kc' + 1 ≤ kc) (hks : ks' + n.toNat ≤ ks) (kk : ∀ q : Nat, V q = none → zG C (zu V q tg (zq Γ0.2.1 3 n.toNat (fun _ => none))) kc' ks' n' lv (.ref q :: rest)) : zG C V kc ks pc lv (.int (zI n) :: rest) := by
  obtain ⟨⟨p, l, e, R, s, m, args, below, meth, c⟩, Γ, ⟨nL, mc, ms⟩, Q⟩ := C
  obtain ⟨hx, hb, hml, hown, hts, hO, hB0, hlk, hret, hmc, hms, hdf, hdl, hQ, rfl, rfl, rfl⟩ := X
  subst hn
  intro H locs cells slots ls hV hS hl hcc hs
  obtain ⟨W0, hL, hP, hD⟩ := hV
  have hO1 := hO
  obtain ⟨-, -, -, -, -, -, -, -, -, -, o11, -⟩ := hO1
  have hcl2 : (zI n).toNatClampNeg = n.toNat := zI_clamp h0.1 (by omega)
  refine va_newq hx hb hown (hts _ hcl) o11 hO.1 hP hD hS (fun q h => Nat.le_trans hB0 h) (by rw [← zI_0, zI_lt (by omega) (by omega)]; omega) hcl2 (by omega) (by omega) (by omega) hdg (fun q cA H1 hK1 hP1 hD1 hS1 => ?_)
  have hcA : cA = Γ.2.1 3 := by
    obtain ⟨-, k1, c1, -, -, -, e1⟩ := hK1.2 5 _ rfl
    obtain ⟨-, k2, c2, -, -, -, e2⟩ := hO.1.2 3 _ rfl
    exact Option.some.inj (e1.symm.trans e2)
  subst hcA
  exact kk q (zD_new hL hD1) H1 locs (cells + 1) (slots + n.toNat) ls (zH.push hL (zD_new hL hD1) hP1 hD1) hS1 hl (by omega) (by omega)
end ZR3
