section ZR3
variable {C : zC} {l0 : Launch} {Γ0 : zGam} {n0 : Nat} {own : String} {cc : ByteArray} {ws : List Cond} {d : Nat} {ret : Option FieldType} {Post : Option Value → zV → Prop} {V : zV} {kc ks pc : Nat} {lv : List (Nat × Value)} {rest : List Value}
theorem zr_aaldI (X : zK C l0 Γ0 n0 own cc ws d ret Post) (n' : Nat) {a tg n : Nat} {f : Nat → Option Nat} {i : Int} (v : Value) (hV : V a = some (tg, zq Γ0.2.1 4 n f)) (h0 : 0 ≤ i ∧ i < n ∧ i ≤ 2147483647) (hv : va_rf (f i.toNat) = v) (hdg : decode cc pc = .ok (.aaload, 1)) (hn : pc + 1 = n') (kk : zG C V kc ks n' lv (v :: rest)) : zG C V kc ks pc lv (.int (zI i) :: .ref a :: rest) := by
  obtain ⟨⟨p, l, e, R, s, m, args, below, meth, c⟩, Γ, ⟨nL, mc, ms⟩, Q⟩ := C
  obtain ⟨hx, hb, hml, hown, hts, hO, hB0, hlk, hret, hmc, hms, hdf, hdl, hQ, rfl, rfl, rfl⟩ := X
  subst hn
  subst hv
  have hVa := hV
  intro H locs cells slots ls hV hS hl hcc hs
  have hV0 := hV
  obtain ⟨W0, hL, hP, hD⟩ := hV
  obtain ⟨q0, hq⟩ := (hL _ _).mp (zd_of hVa)
  have hcl : (zI i).toNatClampNeg = i.toNat := zI_clamp h0.1 h0.2.2
  have hlt : i.toNat < n := by omega
  exact W.aald (v := va_rf (f i.toNat)) hx hb (hP q0 _ hq) ((hO.1.2 4 _ rfl).1 n (fun j => va_rf (f j))) rfl (fun q => by cases q) (by show ¬ (_ ∨ (arrV _ _ _).slots.size ≤ _); rw [arrV_size]; exact zI_in h0.1 h0.2.1 h0.2.2) (by show (arrV _ _ _).slots[_]? = _; rw [hcl, arrV_read _ _ hlt]) rfl rfl hdg (kk H locs cells slots ls hV0 hS hl hcc hs)
end ZR3
