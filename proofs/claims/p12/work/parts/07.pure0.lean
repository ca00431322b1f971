/-! pure rows of views; Math.max and min -/
theorem zu_zu (V : zV) (a t t' : Nat) (e e' : va_E) : zu (zu V a t e) a t' e' = zu V a t' e' := by
  funext b
  unfold zu
  by_cases h : b = a <;> simp [h]
theorem zu_swap (V : zV) {a b : Nat} (h : a ≠ b) (t t' : Nat) (e e' : va_E) : zu (zu V a t e) b t' e' = zu (zu V b t' e') a t e := by
  funext c
  unfold zu
  by_cases h1 : c = b
  · subst h1
    simp [Ne.symm h]
  · simp [h1]
theorem zu_id {V : zV} {a t : Nat} {e : va_E} (h : V a = some (t, e)) : zu V a t e = V := by
  funext b
  unfold zu
  by_cases h1 : b = a
  · subst h1
    simp [h]
  · simp [h1]
theorem zne_new {V : zV} {a b : Nat} {x : Nat × va_E} (ha : V a = some x) (hb : V b = none) : a ≠ b := fun h => by
  rw [h, hb] at ha
  cases ha
theorem zne_tag {V : zV} {a b t t' : Nat} {x y : va_E} (ha : V a = some (t, x)) (hb : V b = some (t', y)) (ht : t ≠ t') : a ≠ b := fun h => by
  rw [h, hb] at ha
  cases ha
  exact ht rfl
theorem zne_oa {V : zV} {a b t t' k n : Nat} {o : Nat × List Value} {aC : Nat → ClassId} {f : Nat → Int} (ha : V a = some (t, .inr o)) (hb : V b = some (t', za aC k n f)) : a ≠ b := fun h => by
  rw [h, hb] at ha
  cases ha
theorem zne_oq {V : zV} {a b t t' k n : Nat} {o : Nat × List Value} {aC : Nat → ClassId} {f : Nat → Option Nat} (ha : V a = some (t, .inr o)) (hb : V b = some (t', zq aC k n f)) : a ≠ b := fun h => by
  rw [h, hb] at ha
  cases ha
theorem zne_oo {V : zV} {a b t t' ci ci' : Nat} {fs fs' : List Value} (ha : V a = some (t, .inr (ci, fs))) (hb : V b = some (t', .inr (ci', fs'))) (hc : ci ≠ ci') : a ≠ b := fun h => by
  rw [h, hb] at ha
  cases ha
  exact hc rfl
section ZR3
variable {C : zC} {l0 : Launch} {Γ0 : zGam} {n0 : Nat} {own : String} {cc : ByteArray} {ws : List Cond} {d : Nat} {ret : Option FieldType} {Post : Option Value → zV → Prop} {V : zV} {kc ks pc : Nat} {lv : List (Nat × Value)} {rest : List Value}
theorem zr_mmax (X : zK C l0 Γ0 n0 own cc ws d ret Post) (n' : Nat) {index : Nat} {x y : Int} (z : Int) (hlink : Cond.methodLink own index Lib.Math.max.name ∈ ws) (hst : Cond.static Lib.Math.max.name ∈ ws) (hin : Cond.initialized "java/lang/Math" ∈ ws) (hco : Cond.code Lib.Math.max.name Lib.Math.max.code 2 (some .int) ∈ ws) (hd : 1 ≤ d) (hcat : (rest.map fun v => v.category).sum ≤ 8)
    (hrx : -2147483648 ≤ x ∧ x ≤ 2147483647) (hry : -2147483648 ≤ y ∧ y ≤ 2147483647) (hz : z = if x < y then y else x) (hdg : decode cc pc = .ok (.invokestatic index, 3)) (hn : pc + 3 = n') (kk : zG C V kc ks n' lv (.int (zI z) :: rest)) : zG C V kc ks pc lv (.int (zI y) :: .int (zI x) :: rest) := by
  obtain ⟨⟨p, l, e, R, s, m, args, below, meth, c⟩, Γ, ⟨nL, mc, ms⟩, Q⟩ := C
  obtain ⟨hx, hb, hml, hown, hts, hO, hB0, hlk, hret, hmc, hms, hdf, hdl, hQ, rfl, rfl, rfl⟩ := X
  subst hn
  intro H locs cells slots ls hV hS hl hcc hs
  refine va_mmax hx hb (hml.trans hl.1.symm) hown (hts _ hlink) (hts _ hst) (hts _ hin) (hts _ hco) (by omega) (by omega) (by omega) (by omega) hdg ?_
  have e : (if zI x < zI y then zI y else zI x : Int32) = zI z := by
    subst hz
    by_cases h : x < y
    · rw [if_pos h, if_pos ((zI_lt (by omega) (by omega)).mpr h)]
    · rw [if_neg h, if_neg (fun q => h ((zI_lt (by omega) (by omega)).mp q))]
  rw [e]
  exact kk H locs cells slots ls hV hS hl hcc hs
theorem zr_mmin (X : zK C l0 Γ0 n0 own cc ws d ret Post) (n' : Nat) {index : Nat} {x y : Int} (z : Int) (hlink : Cond.methodLink own index Lib.Math.min.name ∈ ws) (hst : Cond.static Lib.Math.min.name ∈ ws) (hin : Cond.initialized "java/lang/Math" ∈ ws) (hco : Cond.code Lib.Math.min.name Lib.Math.min.code 2 (some .int) ∈ ws) (hd : 1 ≤ d) (hcat : (rest.map fun v => v.category).sum ≤ 8)
    (hrx : -2147483648 ≤ x ∧ x ≤ 2147483647) (hry : -2147483648 ≤ y ∧ y ≤ 2147483647) (hz : z = if y < x then y else x) (hdg : decode cc pc = .ok (.invokestatic index, 3)) (hn : pc + 3 = n') (kk : zG C V kc ks n' lv (.int (zI z) :: rest)) : zG C V kc ks pc lv (.int (zI y) :: .int (zI x) :: rest) := by
  obtain ⟨⟨p, l, e, R, s, m, args, below, meth, c⟩, Γ, ⟨nL, mc, ms⟩, Q⟩ := C
  obtain ⟨hx, hb, hml, hown, hts, hO, hB0, hlk, hret, hmc, hms, hdf, hdl, hQ, rfl, rfl, rfl⟩ := X
  subst hn
  intro H locs cells slots ls hV hS hl hcc hs
  refine va_mmin hx hb (hml.trans hl.1.symm) hown (hts _ hlink) (hts _ hst) (hts _ hin) (hts _ hco) (by omega) (by omega) (by omega) (by omega) hdg ?_
  have e : (if zI y < zI x then zI y else zI x : Int32) = zI z := by
    subst hz
    by_cases h : y < x
    · rw [if_pos h, if_pos ((zI_lt (by omega) (by omega)).mpr h)]
    · rw [if_neg h, if_neg (fun q => h ((zI_lt (by omega) (by omega)).mp q))]
  rw [e]
  exact kk H locs cells slots ls hV hS hl hcc hs
/-! private members of nest mates -/
theorem zr_getN (X : zK C l0 Γ0 n0 own cc ws d ret Post) (n' ci k i : Nat) {index a tg N : Nat} {fs : List Value} {C' ref host : String} {T : u_T} {v : Value} (hV : V a = some (tg, .inr (ci, fs))) (hc : vwCl[ci]? = some (C', T, N)) (hin : ∀ w ∈ u_ws C' T N, w ∈ ws) (hk : k < N) (hz : zxf[i]? = some (own, index, ref, (T k).2.1, (T k).2.2.1, host)) (hsame : ref = (T k).1) (hv : fs[k]? = some v) (hdg : decode cc pc = .ok (.getfield index, 3)) (hn : pc + 3 = n') (kk : zG C V kc ks n' lv (v :: rest)) : zG C V kc ks pc lv (.ref a :: rest) := by
  obtain ⟨⟨p, l, e, R, s, m, args, below, meth, c⟩, Γ, ⟨nL, mc, ms⟩, Q⟩ := C
  obtain ⟨hx, hb, hml, hown, hts, hO, hB0, hlk, hret, hmc, hms, hdf, hdl, hQ, rfl, rfl, rfl⟩ := X
  subst hn
  subst hsame
  have hVa := hV
  intro H locs cells slots ls hV hS hl hcc hs
  have hV0 := hV
  obtain ⟨W0, hL, hP, hD⟩ := hV
  obtain ⟨q0, hq⟩ := (hL _ _).mp (zd_of hVa)
  have hO1 := hO
  obtain ⟨-, -, -, -, -, -, -, -, o9, -⟩ := hO1
  exact va_getN hx hb hts hin hown hO.1 hP q0 hq hc k hk (va_Nw.use rfl (o9 _ (List.mem_of_getElem? hz))) (fun _ h9 => h9) hv hdg (kk H locs cells slots ls hV0 hS hl hcc hs)
theorem zr_putN (X : zK C l0 Γ0 n0 own cc ws d ret Post) (n' ci k i : Nat) (fs' : List Value) {index a tg N : Nat} {fs : List Value} {C' ref host : String} {T : u_T} {v : Value} (ty0 : Nat → FieldType) (hV : V a = some (tg, .inr (ci, fs))) (hc : vwCl[ci]? = some (C', T, N)) (hin : ∀ w ∈ u_ws C' T N, w ∈ ws) (hty : ∀ k, k < N → parseFieldDescriptor (T k).2.2.1 = some (ty0 k)) (hnm : ∀ a, a < N → ∀ b, b < N → a ≠ b → (T a).2.1 ≠ (T b).2.1) (hk : k < N) (hz : zxf[i]? = some (own, index, ref, (T k).2.1, (T k).2.2.1, host)) (hsame : ref = (T k).1) (hfin : (T k).2.2.2 = false) (hnw : narrow (ty0 k) v = v) (hfit : fits (ty0 k) v = true) (hl : k < fs.length) (hfs : fs.set k v = fs') (hdg : decode cc pc = .ok (.putfield index, 3)) (hn : pc + 3 = n') (kk : zG C (zu V a tg (.inr (ci, fs'))) kc ks n' lv rest) : zG C V kc ks pc lv (v :: .ref a :: rest) := by
  obtain ⟨⟨p, l, e, R, s, m, args, below, meth, c⟩, Γ, ⟨nL, mc, ms⟩, Q⟩ := C
  obtain ⟨hx, hb, hml, hown, hts, hO, hB0, hlk, hret, hmc, hms, hdf, hdl, hQ, rfl, rfl, rfl⟩ := X
  subst hn
  subst hsame
  subst hfs
  have hVa := hV
  intro H locs cells slots ls hV hS hl' hcc hs
  obtain ⟨W0, hL, hP, hD⟩ := hV
  obtain ⟨q0, hq⟩ := (hL _ _).mp (zd_of hVa)
  have hO1 := hO
  obtain ⟨-, -, -, -, -, -, -, -, o9, -⟩ := hO1
  exact va_putN hx hb hts hin ty0 hty hnm hown hO.1 hP hD hS q0 hq hc k hk (va_Nw.use rfl (o9 _ (List.mem_of_getElem? hz))) (fun _ h9 => h9) hfin (hty k hk) hnw hfit hl hdg (fun H1 locs1 hP1 hD1 hS1 => kk H1 locs1 cells slots ls ⟨_, by rw [zd_zu]; exact hL.set hD hq, hP1, hD1⟩ hS1 hl' hcc hs)
end ZR3
