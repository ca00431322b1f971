section ZR3
variable {C : zC} {l0 : Launch} {Γ0 : zGam} {n0 : Nat} {own : String} {cc : ByteArray} {ws : List Cond} {d : Nat} {ret : Option FieldType} {Post : Option Value → zV → Prop} {V : zV} {kc ks pc : Nat} {lv : List (Nat × Value)} {rest : List Value}
theorem zr_newI (X : zK C l0 Γ0 n0 own cc ws d ret Post) (n' tg : Nat) {index kc' ks' : Nat} {n : Int} (hcl : Cond.classLink own index "[I" ∈ ws) (h0 : 0 ≤ n ∧ n ≤ 100000) (hdg : decode cc pc = .ok (.anewarray index, 3)) (hn : pc + 3 = n') (hkc : kc' + 1 ≤ kc) (hks : ks' + n.toNat ≤ ks) (kk : ∀ q : Nat, V q = none → zG C (zu V q tg (zq Γ0.2.1 4 n.toNat (fun _ => none))) kc' ks' n' lv (.ref q :: rest)) : zG C V kc ks pc lv (.int (zI n) :: rest) := by
  obtain ⟨⟨p, l, e, R, s, m, args, below, meth, c⟩, Γ, ⟨nL, mc, ms⟩, Q⟩ := C
  obtain ⟨hx, hb, hml, hown, hts, hO, hB0, hlk, hret, hmc, hms, hdf, hdl, hQ, rfl, rfl, rfl⟩ := X
  subst hn
  intro H locs cells slots ls hV hS hl hcc hs
  obtain ⟨W0, hL, hP, hD⟩ := hV
  have hO1 := hO
  obtain ⟨-, -, -, -, -, -, -, -, -, -, -, o12, -⟩ := hO1
  have hcl2 : (zI n).toNatClampNeg = n.toNat := zI_clamp h0.1 (by omega)
  refine W.anewA (t := .int) hx hb hown (hts _ hcl) o12 rfl hdg rfl (by rw [← zI_0, zI_lt (by omega) (by omega)]; omega) (by omega) (by omega) (by omega) fun cA kA comp f1 f2 f3 f4 => ?_
  rw [hcl2]
  have hcA : cA = Γ.2.1 4 := Option.some.inj (f1.symm.trans (hO.1.2 4 _ rfl).2)
  subst hcA
  generalize hH1 : H.push ({ cls := Γ.2.1 4, slots := Array.replicate n.toNat .null, vm := .none } : Cell) = H1
  have z1 : H1.size = H.size + 1 := by rw [← hH1, Array.size_push]
  have e1 : H1[H.size]? = some (arrV (Γ.2.1 4) n.toNat (fun _ => .null)) := by rw [← hH1, Array.getElem?_push_size, ← arrV_new]
  have o1 : ∀ q : Nat, q < H.size → H1[q]? = H[q]? := fun q hq => by rw [← hH1, Array.getElem?_push, if_neg (Nat.ne_of_lt hq)]
  have hk : ∀ (k : Nat) (x : Nat × va_E), W0[k]? = some x → H1[x.1]? = H[x.1]? := fun k x hx => o1 x.1 ((hP k x hx).lt)
  have hP1 : va_P Γ.1 vwCl (W0 ++ [(H.size, .inl (Γ.2.1 4, n.toNat, .inr (.inr (.inr (.inr (fun _ => none))))))]) H1 := by
    refine (hP.kept hk).app (fun k x hx => ?_)
    have hz : k < 1 := (List.getElem?_eq_some_iff.mp hx).1
    rw [show k = 0 by omega] at hx
    cases hx
    show H1[H.size]? = some (vp_cell _ _)
    rw [vp_cell_q]
    exact e1
  have hD1 : va_D (zA Γ.2.2.2) (W0 ++ [(H.size, .inl (Γ.2.1 4, n.toNat, .inr (.inr (.inr (.inr (fun _ => none))))))]) := hD.push hP rfl (Nat.le_trans hB0 hS.1)
  exact kk H.size (zD_new hL hD1) H1 locs (cells + 1) (slots + n.toNat) ls (zH.push hL (zD_new hL hD1) hP1 hD1) ⟨Nat.le_trans hS.1 (by omega), fun x h1 h2 => (o1 x (Nat.lt_of_lt_of_le h1 hS.1)).trans (hS.2.1 x h1 h2), hS.2.2⟩ hl (by omega) (by omega)
end ZR3
