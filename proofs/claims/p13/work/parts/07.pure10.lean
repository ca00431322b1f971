section ZR3
variable {C : zC} {l0 : Launch} {Γ0 : zGam} {n0 : Nat} {own : String} {cc : ByteArray} {ws : List Cond} {d : Nat} {ret : Option FieldType} {Post : Option Value → zV → Prop} {V : zV} {kc ks pc : Nat} {lv : List (Nat × Value)} {rest : List Value}
theorem zr_aastI (X : zK C l0 Γ0 n0 own cc ws d ret Post) (n' : Nat) {a tg n v tv nv : Nat} {f : Nat → Option Nat} {g : Nat → Int} {i : Int} (hV : V a = some (tg, zq Γ0.2.1 4 n f)) (hv : V v = some (tv, za Γ0.2.1 0 nv g)) (h0 : 0 ≤ i ∧ i < n ∧ i ≤ 2147483647) (hdg : decode cc pc = .ok (.aastore, 1)) (hn : pc + 1 = n') (kk : zG C (zu V a tg (zq Γ0.2.1 4 n (zg f i.toNat v))) kc ks n' lv rest) : zG C V kc ks pc lv (.ref v :: .int (zI i) :: .ref a :: rest) := by
  obtain ⟨⟨p, l, e, R, s, m, args, below, meth, c⟩, Γ, ⟨nL, mc, ms⟩, Q⟩ := C
  obtain ⟨hx, hb, hml, hown, hts, hO, hB0, hlk, hret, hmc, hms, hdf, hdl, hQ, rfl, rfl, rfl⟩ := X
  subst hn
  have hVa := hV
  intro H locs cells slots ls hV hS hl hcc hs
  obtain ⟨W0, hL, hP, hD⟩ := hV
  obtain ⟨q0, hq⟩ := (hL _ _).mp (zd_of hVa)
  obtain ⟨qk, hqk⟩ := (hL _ _).mp (zd_of hv)
  have hO1 := hO
  obtain ⟨-, -, -, -, -, -, -, -, -, -, -, o12, -⟩ := hO1
  have hcl : (zI i).toNatClampNeg = i.toNat := zI_clamp h0.1 h0.2.2
  have hlt : i.toNat < n := by omega
  obtain ⟨comp, cA, kA, f1, f2, f3, f4, f5⟩ := arrayOverA_spec o12
  have hcA : cA = Γ.2.1 4 := Option.some.inj (f5.symm.trans (hO.1.2 4 _ rfl).2)
  have hcm : comp = Γ.2.1 0 := Option.some.inj (f1.symm.trans (hO.1.2 0 _ rfl).2)
  subst hcA
  subst hcm
  obtain ⟨kI, hkI, -⟩ := Vm.findClass_spec f1
  refine W.aast hx hb (hP q0 _ hq) (fun q h => by cases h) (fun h => by cases h) f3 f4 rfl hkI ⟨by rw [← zI_0, zI_lt (by omega) (by omega)]; omega, by show _ < (arrV _ _ _).slots.size; rw [arrV_size, hcl]; exact hlt⟩ (hP qk _ hqk) (fun q h => by cases h) hkI (va_asg _ _) rfl rfl hdg fun H1 e z oq => ?_
  refine kk H1 _ cells slots ls ⟨_, by rw [zd_zu]; exact hL.set hD hq, hP.set hD hq ?_ oq, hD.set hq⟩ (hS.put z oq (hD.2 q0 _ hq)) hl hcc hs
  show H1[a]? = some (vp_cell _ _)
  rw [e, hcl]
  rw [vp_cell_q]
  refine congrArg some ?_
  refine (arrV_store _ _ _ _ _).trans ?_
  refine congrArg (arrV (Γ.2.1 4) n) (show (updV (fun j => va_rf (f j)) i.toNat (Value.ref v)) = (fun j => va_rf (zg f i.toNat v j)) from ?_)
  funext j
  by_cases hj : j = i.toNat
  · subst hj
    simp [updV, zg, va_rf]
  · simp [updV, zg, hj]
/-! for the JDK's own methods -/
end ZR3
