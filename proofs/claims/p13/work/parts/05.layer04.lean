section ZR
variable {C : zC} {l0 : Launch} {Γ0 : zGam} {n0 : Nat} {own : String} {cc : ByteArray} {ws : List Cond} {d : Nat} {ret : Option FieldType} {Post : Option Value → zV → Prop} {V : zV} {kc ks pc : Nat} {lv : List (Nat × Value)} {rest : List Value}
theorem zr_aast (X : zK C l0 Γ0 n0 own cc ws d ret Post) (n' : Nat) {a tg n v tv : Nat} {f : Nat → Option Nat} {i : Int} {vs : List Value} (hV : V a = some (tg, zq Γ0.2.1 3 n f)) (hv : V v = some (tv, .inr (6, vs))) (h0 : 0 ≤ i ∧ i < n ∧ i ≤ 2147483647) (hdg : decode cc pc = .ok (.aastore, 1)) (hn : pc + 1 = n') (kk : zG C (zu V a tg (zq Γ0.2.1 3 n (zg f i.toNat v))) kc ks n' lv rest) : zG C V kc ks pc lv (.ref v :: .int (zI i) :: .ref a :: rest) := by
  obtain ⟨⟨p, l, e, R, s, m, args, below, meth, c⟩, Γ, ⟨nL, mc, ms⟩, Q⟩ := C
  obtain ⟨hx, hb, hml, hown, hts, hO, hB0, hlk, hret, hmc, hms, hdf, hdl, hQ, rfl, rfl, rfl⟩ := X
  subst hn
  have hVa := hV
  intro H locs cells slots ls hV hS hl hcc hs
  obtain ⟨W0, hL, hP, hD⟩ := hV
  obtain ⟨q0, hq⟩ := (hL _ _).mp (zd_of hVa)
  obtain ⟨qk, hqk⟩ := (hL _ _).mp (zd_of hv)
  refine va_astq hx hb hO.1 hP hD hS q0 3 qk 6 (r := (RX5, TX5, 6)) hq rfl hqk rfl (zI_in h0.1 h0.2.1 h0.2.2) hdg (fun H1 locs1 hP1 hD1 hS1 => ?_)
  have e : va_up f (zI i).toNatClampNeg (some v) = zg f i.toNat v := by
    rw [zI_clamp h0.1 h0.2.2]
    funext j
    rfl
  rw [e] at hP1 hD1
  exact kk H1 locs1 cells slots ls ⟨_, by rw [zd_zu]; exact hL.set hD hq, hP1, hD1⟩ hS1 hl hcc hs
/-! what is made -/
theorem zH.push {Γ : zGam} {V : zV} {ws : va_W} {a t : Nat} {e : va_E} {H1 : Heap} (hL : zL (zd V) ws) (ha : V a = none) (hP : va_P Γ.1 vwCl (ws ++ [(a, e)]) H1) (hD : va_D (zA Γ.2.2.2) (ws ++ [(a, e)])) : zH Γ (zu V a t e) H1 := ⟨_, by rw [zd_zu]; exact hL.push (zd_none ha), hP, hD⟩
end ZR
