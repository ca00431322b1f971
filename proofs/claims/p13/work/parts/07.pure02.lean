section ZR3
variable {C : zC} {l0 : Launch} {Γ0 : zGam} {n0 : Nat} {own : String} {cc : ByteArray} {ws : List Cond} {d : Nat} {ret : Option FieldType} {Post : Option Value → zV → Prop} {V : zV} {kc ks pc : Nat} {lv : List (Nat × Value)} {rest : List Value}
theorem zr_mmin (X : zK C l0 Γ0 n0 own cc ws d ret Post) (n' : Nat) {index : Nat} {x y : Int} (z : Int) (hlink : Cond.methodLink own index Lib.Math.min.name ∈ ws) (hst : Cond.static Lib.Math.min.name ∈ ws) (hin : Cond.initialized "java/lang/Math" ∈ ws) (hco : Cond.code Lib.Math.min.name Lib.Math.min.code 2 (some .int) ∈ ws) (hd : 1 ≤ d) (hcat : (rest.map fun v => v.category).sum ≤ 8)
    (hrx : -2147483648 ≤ x ∧ x ≤ 2147483647) (hry : -2147483648 ≤ y ∧ y ≤ 2147483647) (hz : z = if y < x then y else x) (hdg : decode cc pc = .ok (.invokestatic index, 3)) (hn : pc + 3 = n') (kk : zG C V kc ks n' lv (.int (zI z) :: rest)) : zG C V kc ks pc lv (.int (zI y) :: .int (zI x) :: rest) := by
  obtain ⟨⟨p, l, e, R, s, m, args, below, meth, c⟩, Γ, ⟨nL, mc, ms⟩, Q⟩ := C
  obtain ⟨hx, hb, hml, hown, hts, hO, hB0, hlk, hret, hmc, hms, hdf, hdl, hQ, rfl, rfl, rfl⟩ := X
  subst hn
  intro H locs cells slots ls hV hS hl hcc hs
  refine va_mmin hx hb (hml.trans hl.1.symm) hown (hts _ hlink) (hts _ hst) (hts _ hin) (hts _ hco) (by omega) (by omega) (by omega) (by omega) hdg ?_
  have e : (if zI y < zI x then zI y else zI x : Int32) = zI z := by
    subst hz
    by_cases h : y < x
    · rw [if_pos h, if_pos ((zI_lt (by omega) (by omega)).mpr h)]
    · rw [if_neg h, if_neg (fun q => h ((zI_lt (by omega) (by omega)).mp q))]
  rw [e]
  exact kk H locs cells slots ls hV hS hl hcc hs
/-! private members of nest mates -/
end ZR3
