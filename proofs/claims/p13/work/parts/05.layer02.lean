section ZR
variable {C : zC} {l0 : Launch} {Γ0 : zGam} {n0 : Nat} {own : String} {cc : ByteArray} {ws : List Cond} {d : Nat} {ret : Option FieldType} {Post : Option Value → zV → Prop} {V : zV} {kc ks pc : Nat} {lv : List (Nat × Value)} {rest : List Value}
theorem zM_of {l : Launch} {Γ : zGam} {d : Nat} {y : MethodName} {wsy ws' : List Cond} {mc ms nL : Nat} {V : zV} {av : List Value} {Post : Option Value → zV → Prop} {cc : ByteArray} {ret : Option FieldType} {own : String} (hy : plainName y.cls = true) (hw : wsy = Cond.code y cc nL ret :: ws') (hown : y.cls = own) (hle : (lg_sl av).length ≤ nL)
    (body : ∀ C : zC, zK C l Γ nL own cc wsy d ret Post → (y.name = "<init>" → zI0 C) → zG C V mc ms 0 (lv_args 0 av) []) : zM l Γ d y wsy mc ms V av Post := by
  refine Met.ofW (cc := cc) (maxL := nL) (ret := ret) hy hw ?_
  intro p e s m args below meth c s₁ B hml hv
  obtain ⟨rfl, hB0, hH, hO⟩ := hv
  subst hown
  have hl := lv_entry av (n := nL) hle
  rw [lg_entry_eq]
  exact body ((p, l, e, (headSpec wsy (zR d mc ms)).room, s, m, av.toArray, below, meth, c), Γ, (nL, mc, ms), MQ below (zQ Γ Post) av.toArray s mc ms (zA Γ.2.2.2)) ⟨B.exec, B.bytes, hml, findClass_of_methodNamed B.named, atoms_spec B.pre, hO, hB0, B.notSynchronized, B.returns, Nat.le_refl _, Nat.le_refl _, Nat.le_refl _, Nat.le_refl _, fun _ h => h, rfl, rfl, rfl⟩ (fun h => (name_of_methodNamed B.named B.method).1.trans h) s.heap [] 0 0 _ hH va_S.rf hl (by omega) (by omega)
/-! references in arrays -/
end ZR
