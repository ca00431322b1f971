section
/-! pure rows of views; Math.max and min -/
theorem zu_zu (V : zV) (a t t' : Nat) (e e' : va_E) : zu (zu V a t e) a t' e' = zu V a t' e' := by
  funext b
  unfold zu
  by_cases h : b = a <;> simp [h]
theorem zu_swap (V : zV) {a b : Nat} (h : a ≠ b) (t t' : Nat) (e e' : va_E) : zu (zu V a t e) b t' e' = zu (zu V b t' e') a t e := by
  funext c
  unfold zu
  by_cases h1 : c = b
  · subst h1
    simp [Ne.symm h]
  · simp [h1]
theorem zu_id {V : zV} {a t : Nat} {e : va_E} (h : V a = some (t, e)) : zu V a t e = V := by
  funext b
  unfold zu
  by_cases h1 : b = a
  · subst h1
    simp [h]
  · simp [h1]
theorem zne_new {V : zV} {a b : Nat} {x : Nat × va_E} (ha : V a = some x) (hb : V b = none) : a ≠ b := fun h => by
  rw [h, hb] at ha
  cases ha
theorem zne_tag {V : zV} {a b t t' : Nat} {x y : va_E} (ha : V a = some (t, x)) (hb : V b = some (t', y)) (ht : t ≠ t') : a ≠ b := fun h => by
  rw [h, hb] at ha
  cases ha
  exact ht rfl
theorem zne_oa {V : zV} {a b t t' k n : Nat} {o : Nat × List Value} {aC : Nat → ClassId} {f : Nat → Int} (ha : V a = some (t, .inr o)) (hb : V b = some (t', za aC k n f)) : a ≠ b := fun h => by
  rw [h, hb] at ha
  cases ha
theorem zne_oq {V : zV} {a b t t' k n : Nat} {o : Nat × List Value} {aC : Nat → ClassId} {f : Nat → Option Nat} (ha : V a = some (t, .inr o)) (hb : V b = some (t', zq aC k n f)) : a ≠ b := fun h => by
  rw [h, hb] at ha
  cases ha
theorem zne_oo {V : zV} {a b t t' ci ci' : Nat} {fs fs' : List Value} (ha : V a = some (t, .inr (ci, fs))) (hb : V b = some (t', .inr (ci', fs'))) (hc : ci ≠ ci') : a ≠ b := fun h => by
  rw [h, hb] at ha
  cases ha
  exact hc rfl
section ZR3
variable {C : zC} {l0 : Launch} {Γ0 : zGam} {n0 : Nat} {own : String} {cc : ByteArray} {ws : List Cond} {d : Nat} {ret : Option FieldType} {Post : Option Value → zV → Prop} {V : zV} {kc ks pc : Nat} {lv : List (Nat × Value)} {rest : List Value}
theorem zr_mmax (X : zK C l0 Γ0 n0 own cc ws d ret Post) (n' : Nat) {index : Nat} {x y : Int} (z : Int) (hlink : Cond.methodLink own index Lib.Math.max.name ∈ ws) (hst : Cond.static Lib.Math.max.name ∈ ws) (hin : Cond.initialized "java/lang/Math" ∈ ws) (hco : Cond.code Lib.Math.max.name Lib.Math.max.code 2 (some .int) ∈ ws) (hd : 1 ≤ d) (hcat : (rest.map fun v => v.category).sum ≤ 8)
    (hrx : -2147483648 ≤ x ∧ x ≤ 2147483647) (hry : -2147483648 ≤ y ∧ y ≤ 2147483647) (hz : z = if x < y then y else x) (hdg : decode cc pc = .ok (.invokestatic index, 3)) (hn : pc + 3 = n') (kk : zG C V kc ks n' lv (.int (zI z) :: rest)) : zG C V kc ks pc lv (.int (zI y) :: .int (zI x) :: rest) := by
  obtain ⟨⟨p, l, e, R, s, m, args, below, meth, c⟩, Γ, ⟨nL, mc, ms⟩, Q⟩ := C
  obtain ⟨hx, hb, hml, hown, hts, hO, hB0, hlk, hret, hmc, hms, hdf, hdl, hQ, rfl, rfl, rfl⟩ := X
  subst hn
  intro H locs cells slots ls hV hS hl hcc hs
  refine va_mmax hx hb (hml.trans hl.1.symm) hown (hts _ hlink) (hts _ hst) (hts _ hin) (hts _ hco) (by omega) (by omega) (by omega) (by omega) hdg ?_
  have e : (if zI x < zI y then zI y else zI x : Int32) = zI z := by
    subst hz
    by_cases h : x < y
    · rw [if_pos h, if_pos ((zI_lt (by omega) (by omega)).mpr h)]
    · rw [if_neg h, if_neg (fun q => h ((zI_lt (by omega) (by omega)).mp q))]
  rw [e]
  exact kk H locs cells slots ls hV hS hl hcc hs
theorem zr_mmin (X : zK C l0 Γ0 n0 own cc ws d ret Post) (n' : Nat) {index : Nat} {x y : Int} (z : Int) (hlink : Cond.methodLink own index Lib.Math.min.name ∈ ws) (hst : Cond.static Lib.Math.min.name ∈ ws) (hin : Cond.initialized "java/lang/Math" ∈ ws) (hco : Cond.code Lib.Math.min.name Lib.Math.min.code 2 (some .int) ∈ ws) (hd : 1 ≤ d) (hcat : (rest.map fun v => v.category).sum ≤ 8)
    (hrx : -2147483648 ≤ x ∧ x ≤ 2147483647) (hry : -2147483648 ≤ y ∧ y ≤ 2147483647) (hz : z = if y < x then y else x) (hdg : decode cc pc = .ok (.invokestatic index, 3)) (hn : pc + 3 = n') (kk : zG C V kc ks n' lv (.int (zI z) :: rest)) : zG C V kc ks pc lv (.int (zI y) :: .int (zI x) :: rest) := by
  obtain ⟨⟨p, l, e, R, s, m, args, below, meth, c⟩, Γ, ⟨nL, mc, ms⟩, Q⟩ := C
  obtain ⟨hx, hb, hml, hown, hts, hO, hB0, hlk, hret, hmc, hms, hdf, hdl, hQ, rfl, rfl, rfl⟩ := X
  subst hn
  intro H locs cells slots ls hV hS hl hcc hs
  refine va_mmin hx hb (hml.trans hl.1.symm) hown (hts _ hlink) (hts _ hst) (hts _ hin) (hts _ hco) (by omega) (by omega) (by omega) (by omega) hdg ?_
  have e : (if zI y < zI x then zI y else zI x : Int32) = zI z := by
    subst hz
    by_cases h : y < x
    · rw [if_pos h, if_pos ((zI_lt (by omega) (by omega)).mpr h)]
    · rw [if_neg h, if_neg (fun q => h ((zI_lt (by omega) (by omega)).mp q))]
  rw [e]
  exact kk H locs cells slots ls hV hS hl hcc hs
/-! private members of nest mates -/
theorem zr_getN (X : zK C l0 Γ0 n0 own cc ws d ret Post) (n' ci k i : Nat) {index a tg N : Nat} {fs : List Value} {C' ref host : String} {T : u_T} {v : Value} (hV : V a = some (tg, .inr (ci, fs))) (hc : vwCl[ci]? = some (C', T, N)) (hin : ∀ w ∈ u_ws C' T N, w ∈ ws) (hk : k < N) (hz : zxf[i]? = some (own, index, ref, (T k).2.1, (T k).2.2.1, host)) (hsame : ref = (T k).1) (hv : fs[k]? = some v) (hdg : decode cc pc = .ok (.getfield index, 3)) (hn : pc + 3 = n') (kk : zG C V kc ks n' lv (v :: rest)) : zG C V kc ks pc lv (.ref a :: rest) := by
  obtain ⟨⟨p, l, e, R, s, m, args, below, meth, c⟩, Γ, ⟨nL, mc, ms⟩, Q⟩ := C
  obtain ⟨hx, hb, hml, hown, hts, hO, hB0, hlk, hret, hmc, hms, hdf, hdl, hQ, rfl, rfl, rfl⟩ := X
  subst hn
  subst hsame
  have hVa := hV
  intro H locs cells slots ls hV hS hl hcc hs
  have hV0 := hV
  obtain ⟨W0, hL, hP, hD⟩ := hV
  obtain ⟨q0, hq⟩ := (hL _ _).mp (zd_of hVa)
  have hO1 := hO
  obtain ⟨-, -, -, -, -, -, -, -, o9, -⟩ := hO1
  have o9i := o9 (own, index, (T k).1, (T k).2.1, (T k).2.2.1, host) (List.mem_of_getElem? hz)
  try dsimp only at o9i
  exact va_getN hx hb hts hin hown hO.1 hP q0 hq hc k hk (va_Nw.use rfl o9i) (fun _ h9 => h9) hv hdg (kk H locs cells slots ls hV0 hS hl hcc hs)
theorem zr_putN (X : zK C l0 Γ0 n0 own cc ws d ret Post) (n' ci k i : Nat) (fs' : List Value) {index a tg N : Nat} {fs : List Value} {C' ref host : String} {T : u_T} {v : Value} (ty0 : Nat → FieldType) (hV : V a = some (tg, .inr (ci, fs))) (hc : vwCl[ci]? = some (C', T, N)) (hin : ∀ w ∈ u_ws C' T N, w ∈ ws) (hty : ∀ k, k < N → parseFieldDescriptor (T k).2.2.1 = some (ty0 k)) (hnm : ∀ a, a < N → ∀ b, b < N → a ≠ b → (T a).2.1 ≠ (T b).2.1) (hk : k < N) (hz : zxf[i]? = some (own, index, ref, (T k).2.1, (T k).2.2.1, host)) (hsame : ref = (T k).1) (hfin : (T k).2.2.2 = false) (hnw : narrow (ty0 k) v = v) (hfit : fits (ty0 k) v = true) (hl : k < fs.length) (hfs : fs.set k v = fs') (hdg : decode cc pc = .ok (.putfield index, 3)) (hn : pc + 3 = n') (kk : zG C (zu V a tg (.inr (ci, fs'))) kc ks n' lv rest) : zG C V kc ks pc lv (v :: .ref a :: rest) := by
  obtain ⟨⟨p, l, e, R, s, m, args, below, meth, c⟩, Γ, ⟨nL, mc, ms⟩, Q⟩ := C
  obtain ⟨hx, hb, hml, hown, hts, hO, hB0, hlk, hret, hmc, hms, hdf, hdl, hQ, rfl, rfl, rfl⟩ := X
  subst hn
  subst hsame
  subst hfs
  have hVa := hV
  intro H locs cells slots ls hV hS hl' hcc hs
  obtain ⟨W0, hL, hP, hD⟩ := hV
  obtain ⟨q0, hq⟩ := (hL _ _).mp (zd_of hVa)
  have hO1 := hO
  obtain ⟨-, -, -, -, -, -, -, -, o9, -⟩ := hO1
  have o9i := o9 (own, index, (T k).1, (T k).2.1, (T k).2.2.1, host) (List.mem_of_getElem? hz)
  try dsimp only at o9i
  exact va_putN hx hb hts hin ty0 hty hnm hown hO.1 hP hD hS q0 hq hc k hk (va_Nw.use rfl o9i) (fun _ h9 => h9) hfin (hty k hk) hnw hfit hl hdg (fun H1 locs1 hP1 hD1 hS1 => kk H1 locs1 cells slots ls ⟨_, by rw [zd_zu]; exact hL.set hD hq, hP1, hD1⟩ hS1 hl' hcc hs)
theorem zr_callIN (X : zK C l0 Γ0 n0 own cc ws d ret Post) (n' nA i : Nat) {index maxL d' mc' ms' b kc' ks' : Nat} {host : String} {y : MethodName} {bytes : ByteArray} {wsy wsy' : List Cond} {As : List Value} {P' : Option Value → zV → Prop} {st : List Value}
    (hM : zM l0 Γ0 d' y wsy mc' ms' V (.ref b :: As) P') (hT : GoodIn ws wsy) (hw : wsy = Cond.code y bytes maxL none :: wsy') (hini : Cond.initialized y.cls ∈ ws) (hz : zxm[i]? = some (own, index, y, host)) (hin : Cond.instanceMethod y ∈ ws) (hy1 : y.name = "<init>")
    (hd : y.cls ≠ "java/lang/invoke/MethodHandle" ∧ y.cls ≠ "java/lang/invoke/VarHandle" ∧ (parseMethodDescriptor y.desc).map (fun d => d.parameters.length) = some nA) (hA : As.length = nA) (hdd : d' + 1 ≤ d ∧ maxL ≤ 41)
    (hst : st = As.reverse ++ .ref b :: rest) (hcat : (rest.map fun v => v.category).sum ≤ 8)
    (hdg : decode cc pc = .ok (.invokespecial index, 3)) (hn : pc + 3 = n') (hkc : kc' + mc' ≤ kc) (hks : ks' + ms' ≤ ks) (kk : ∀ (rv : Option Value) (V' : zV), P' rv V' → zG C V' kc' ks' n' lv (rv.toList ++ rest)) : zG C V kc ks pc lv st := by
  subst hst
  refine zRunG X (a := (Value.ref b :: As).toArray) (P' := P') (rest := rest) ?_ hn hkc hks kk
  clear kk
  obtain ⟨⟨p, l, e, R, s, m, args, below, meth, c⟩, Γ, ⟨nL, mc, ms⟩, Q⟩ := C
  obtain ⟨hx, hb, hml, hown, hts, hO, hB0, hlk, hret, hmc, hms, hdf, hdl, hQ, rfl, rfl, rfl⟩ := X
  intro H locs cells slots ls hH hS hl hcc hs
  have hcc : cells + mc' ≤ mc := hcc
  have hs : slots + ms' ≤ ms := hs
  have hO1 := hO
  obtain ⟨-, -, -, -, -, -, -, -, -, o10, -⟩ := hO1
  have o10i := o10 (own, index, y, host) (List.mem_of_getElem? hz)
  try dsimp only at o10i
  exact va_runIN ⟨hx, hb, hml, hown, hts⟩ hM ⟨va_cnB nA hts hT hw rfl rfl o10i (hts _ hini) hd (zrm hdd hdf hdl), hy1, hts _ hin⟩ ⟨zPc.blind, fun U hU hW => ⟨rfl, by rw [hU]; exact Nat.le_trans hB0 hS.1, by rw [hU]; exact hH, zO_call hO hS hU hW⟩⟩ rfl hA hl.1 rfl (lv_room hcat) hdg ⟨Nat.le_trans hcc hmc, Nat.le_trans hs hms⟩
theorem zr_callSNst (X : zK C l0 Γ0 n0 own cc ws d ret Post) (n' nA i : Nat) {index maxL d' mc' ms' kc' ks' : Nat} {host : String} {y : MethodName} {bytes : ByteArray} {rt : Option FieldType} {wsy wsy' : List Cond} {As : List Value} {P' : Option Value → zV → Prop} {st : List Value}
    (hM : zM l0 Γ0 d' y wsy mc' ms' V As P') (hT : GoodIn ws wsy) (hw : wsy = Cond.code y bytes maxL rt :: wsy') (hini : Cond.initialized y.cls ∈ ws) (hz : zxm[i]? = some (own, index, y, host)) (hsta : Cond.static y ∈ ws)
    (hd : y.cls ≠ "java/lang/invoke/MethodHandle" ∧ y.cls ≠ "java/lang/invoke/VarHandle" ∧ (parseMethodDescriptor y.desc).map (fun d => d.parameters.length) = some nA) (hA : As.length = nA) (hdd : d' + 1 ≤ d ∧ maxL ≤ 41)
    (hst : st = As.reverse ++ rest) (hcat : (rest.map fun v => v.category).sum ≤ 8)
    (hdg : decode cc pc = .ok (.invokestatic index, 3)) (hn : pc + 3 = n') (hkc : kc' + mc' ≤ kc) (hks : ks' + ms' ≤ ks) (kk : ∀ (rv : Option Value) (V' : zV), P' rv V' → zG C V' kc' ks' n' lv (rv.toList ++ rest)) : zG C V kc ks pc lv st := by
  subst hst
  refine zRunG X (a := As.toArray) (P' := P') (rest := rest) ?_ hn hkc hks kk
  clear kk
  obtain ⟨⟨p, l, e, R, s, m, args, below, meth, c⟩, Γ, ⟨nL, mc, ms⟩, Q⟩ := C
  obtain ⟨hx, hb, hml, hown, hts, hO, hB0, hlk, hret, hmc, hms, hdf, hdl, hQ, rfl, rfl, rfl⟩ := X
  intro H locs cells slots ls hH hS hl hcc hs
  have hcc : cells + mc' ≤ mc := hcc
  have hs : slots + ms' ≤ ms := hs
  have hO1 := hO
  obtain ⟨-, -, -, -, -, -, -, -, -, o10, -⟩ := hO1
  have o10i := o10 (own, index, y, host) (List.mem_of_getElem? hz)
  try dsimp only at o10i
  exact va_runSN ⟨hx, hb, hml, hown, hts⟩ hM ⟨va_cnB nA hts hT hw rfl rfl o10i (hts _ hini) hd (zrm hdd hdf hdl), hts _ hsta, trivial⟩ ⟨zPc.blind, fun U hU hW => ⟨rfl, by rw [hU]; exact Nat.le_trans hB0 hS.1, by rw [hU]; exact hH, zO_call hO hS hU hW⟩⟩ rfl hA hl.1 rfl (lv_room hcat) hdg ⟨Nat.le_trans hcc hmc, Nat.le_trans hs hms⟩
/-! arrays of windows, arrays of int arrays -/
theorem zr_newq (X : zK C l0 Γ0 n0 own cc ws d ret Post) (n' tg : Nat) {index kc' ks' : Nat} {n : Int} (hcl : Cond.classLink own index RX5 ∈ ws) (h0 : 0 ≤ n ∧ n ≤ 100000) (hdg : decode cc pc = .ok (.anewarray index, 3)) (hn : pc + 3 = n') (hkc : kc' + 1 ≤ kc) (hks : ks' + n.toNat ≤ ks) (kk : ∀ q : Nat, V q = none → zG C (zu V q tg (zq Γ0.2.1 3 n.toNat (fun _ => none))) kc' ks' n' lv (.ref q :: rest)) : zG C V kc ks pc lv (.int (zI n) :: rest) := by
  obtain ⟨⟨p, l, e, R, s, m, args, below, meth, c⟩, Γ, ⟨nL, mc, ms⟩, Q⟩ := C
  obtain ⟨hx, hb, hml, hown, hts, hO, hB0, hlk, hret, hmc, hms, hdf, hdl, hQ, rfl, rfl, rfl⟩ := X
  subst hn
  intro H locs cells slots ls hV hS hl hcc hs
  obtain ⟨W0, hL, hP, hD⟩ := hV
  have hO1 := hO
  obtain ⟨-, -, -, -, -, -, -, -, -, -, o11, -⟩ := hO1
  have hcl2 : (zI n).toNatClampNeg = n.toNat := zI_clamp h0.1 (by omega)
  refine va_newq hx hb hown (hts _ hcl) o11 hO.1 hP hD hS (fun q h => Nat.le_trans hB0 h) (by rw [← zI_0, zI_lt (by omega) (by omega)]; omega) hcl2 (by omega) (by omega) (by omega) hdg (fun q cA H1 hK1 hP1 hD1 hS1 => ?_)
  have hcA : cA = Γ.2.1 3 := by
    obtain ⟨-, k1, c1, -, -, -, e1⟩ := hK1.2 5 _ rfl
    obtain ⟨-, k2, c2, -, -, -, e2⟩ := hO.1.2 3 _ rfl
    exact Option.some.inj (e1.symm.trans e2)
  subst hcA
  exact kk q (zD_new hL hD1) H1 locs (cells + 1) (slots + n.toNat) ls (zH.push hL (zD_new hL hD1) hP1 hD1) hS1 hl (by omega) (by omega)
theorem zr_newI (X : zK C l0 Γ0 n0 own cc ws d ret Post) (n' tg : Nat) {index kc' ks' : Nat} {n : Int} (hcl : Cond.classLink own index "[I" ∈ ws) (h0 : 0 ≤ n ∧ n ≤ 100000) (hdg : decode cc pc = .ok (.anewarray index, 3)) (hn : pc + 3 = n') (hkc : kc' + 1 ≤ kc) (hks : ks' + n.toNat ≤ ks) (kk : ∀ q : Nat, V q = none → zG C (zu V q tg (zq Γ0.2.1 4 n.toNat (fun _ => none))) kc' ks' n' lv (.ref q :: rest)) : zG C V kc ks pc lv (.int (zI n) :: rest) := by
  obtain ⟨⟨p, l, e, R, s, m, args, below, meth, c⟩, Γ, ⟨nL, mc, ms⟩, Q⟩ := C
  obtain ⟨hx, hb, hml, hown, hts, hO, hB0, hlk, hret, hmc, hms, hdf, hdl, hQ, rfl, rfl, rfl⟩ := X
  subst hn
  intro H locs cells slots ls hV hS hl hcc hs
  obtain ⟨W0, hL, hP, hD⟩ := hV
  have hO1 := hO
  obtain ⟨-, -, -, -, -, -, -, -, -, -, -, o12, -⟩ := hO1
  have hcl2 : (zI n).toNatClampNeg = n.toNat := zI_clamp h0.1 (by omega)
  refine W.anewA (t := .int) hx hb hown (hts _ hcl) o12 rfl hdg rfl (by rw [← zI_0, zI_lt (by omega) (by omega)]; omega) (by omega) (by omega) (by omega) fun cA kA comp f1 f2 f3 f4 => ?_
  rw [hcl2]
  have hcA : cA = Γ.2.1 4 := Option.some.inj (f1.symm.trans (hO.1.2 4 _ rfl).2)
  subst hcA
  generalize hH1 : H.push ({ cls := Γ.2.1 4, slots := Array.replicate n.toNat .null, vm := .none } : Cell) = H1
  have z1 : H1.size = H.size + 1 := by rw [← hH1, Array.size_push]
  have e1 : H1[H.size]? = some (arrV (Γ.2.1 4) n.toNat (fun _ => .null)) := by rw [← hH1, Array.getElem?_push_size, ← arrV_new]
  have o1 : ∀ q : Nat, q < H.size → H1[q]? = H[q]? := fun q hq => by rw [← hH1, Array.getElem?_push, if_neg (Nat.ne_of_lt hq)]
  have hk : ∀ (k : Nat) (x : Nat × va_E), W0[k]? = some x → H1[x.1]? = H[x.1]? := fun k x hx => o1 x.1 ((hP k x hx).lt)
  have hP1 : va_P Γ.1 vwCl (W0 ++ [(H.size, .inl (Γ.2.1 4, n.toNat, .inr (.inr (.inr (.inr (fun _ => none))))))]) H1 := by
    refine (hP.kept hk).app (fun k x hx => ?_)
    have hz : k < 1 := (List.getElem?_eq_some_iff.mp hx).1
    rw [show k = 0 by omega] at hx
    cases hx
    show H1[H.size]? = some (vp_cell _ _)
    rw [vp_cell_q]
    exact e1
  have hD1 : va_D (zA Γ.2.2.2) (W0 ++ [(H.size, .inl (Γ.2.1 4, n.toNat, .inr (.inr (.inr (.inr (fun _ => none))))))]) := hD.push hP rfl (Nat.le_trans hB0 hS.1)
  exact kk H.size (zD_new hL hD1) H1 locs (cells + 1) (slots + n.toNat) ls (zH.push hL (zD_new hL hD1) hP1 hD1) ⟨Nat.le_trans hS.1 (by omega), fun x h1 h2 => (o1 x (Nat.lt_of_lt_of_le h1 hS.1)).trans (hS.2.1 x h1 h2), hS.2.2⟩ hl (by omega) (by omega)
theorem zr_aaldI (X : zK C l0 Γ0 n0 own cc ws d ret Post) (n' : Nat) {a tg n : Nat} {f : Nat → Option Nat} {i : Int} (v : Value) (hV : V a = some (tg, zq Γ0.2.1 4 n f)) (h0 : 0 ≤ i ∧ i < n ∧ i ≤ 2147483647) (hv : va_rf (f i.toNat) = v) (hdg : decode cc pc = .ok (.aaload, 1)) (hn : pc + 1 = n') (kk : zG C V kc ks n' lv (v :: rest)) : zG C V kc ks pc lv (.int (zI i) :: .ref a :: rest) := by
  obtain ⟨⟨p, l, e, R, s, m, args, below, meth, c⟩, Γ, ⟨nL, mc, ms⟩, Q⟩ := C
  obtain ⟨hx, hb, hml, hown, hts, hO, hB0, hlk, hret, hmc, hms, hdf, hdl, hQ, rfl, rfl, rfl⟩ := X
  subst hn
  subst hv
  have hVa := hV
  intro H locs cells slots ls hV hS hl hcc hs
  have hV0 := hV
  obtain ⟨W0, hL, hP, hD⟩ := hV
  obtain ⟨q0, hq⟩ := (hL _ _).mp (zd_of hVa)
  have hcl : (zI i).toNatClampNeg = i.toNat := zI_clamp h0.1 h0.2.2
  have hlt : i.toNat < n := by omega
  exact W.aald (v := va_rf (f i.toNat)) hx hb (hP q0 _ hq) ((hO.1.2 4 _ rfl).1 n (fun j => va_rf (f j))) rfl (fun q => by cases q) (by show ¬ (_ ∨ (arrV _ _ _).slots.size ≤ _); rw [arrV_size]; exact zI_in h0.1 h0.2.1 h0.2.2) (by show (arrV _ _ _).slots[_]? = _; rw [hcl, arrV_read _ _ hlt]) rfl rfl hdg (kk H locs cells slots ls hV0 hS hl hcc hs)
theorem zr_aastI (X : zK C l0 Γ0 n0 own cc ws d ret Post) (n' : Nat) {a tg n v tv nv : Nat} {f : Nat → Option Nat} {g : Nat → Int} {i : Int} (hV : V a = some (tg, zq Γ0.2.1 4 n f)) (hv : V v = some (tv, za Γ0.2.1 0 nv g)) (h0 : 0 ≤ i ∧ i < n ∧ i ≤ 2147483647) (hdg : decode cc pc = .ok (.aastore, 1)) (hn : pc + 1 = n') (kk : zG C (zu V a tg (zq Γ0.2.1 4 n (zg f i.toNat v))) kc ks n' lv rest) : zG C V kc ks pc lv (.ref v :: .int (zI i) :: .ref a :: rest) := by
  obtain ⟨⟨p, l, e, R, s, m, args, below, meth, c⟩, Γ, ⟨nL, mc, ms⟩, Q⟩ := C
  obtain ⟨hx, hb, hml, hown, hts, hO, hB0, hlk, hret, hmc, hms, hdf, hdl, hQ, rfl, rfl, rfl⟩ := X
  subst hn
  have hVa := hV
  intro H locs cells slots ls hV hS hl hcc hs
  obtain ⟨W0, hL, hP, hD⟩ := hV
  obtain ⟨q0, hq⟩ := (hL _ _).mp (zd_of hVa)
  obtain ⟨qk, hqk⟩ := (hL _ _).mp (zd_of hv)
  have hO1 := hO
  obtain ⟨-, -, -, -, -, -, -, -, -, -, -, o12, -⟩ := hO1
  have hcl : (zI i).toNatClampNeg = i.toNat := zI_clamp h0.1 h0.2.2
  have hlt : i.toNat < n := by omega
  obtain ⟨comp, cA, kA, f1, f2, f3, f4, f5⟩ := arrayOverA_spec o12
  have hcA : cA = Γ.2.1 4 := Option.some.inj (f5.symm.trans (hO.1.2 4 _ rfl).2)
  have hcm : comp = Γ.2.1 0 := Option.some.inj (f1.symm.trans (hO.1.2 0 _ rfl).2)
  subst hcA
  subst hcm
  obtain ⟨kI, hkI, -⟩ := Vm.findClass_spec f1
  refine W.aast hx hb (hP q0 _ hq) (fun q h => by cases h) (fun h => by cases h) f3 f4 rfl hkI ⟨by rw [← zI_0, zI_lt (by omega) (by omega)]; omega, by show _ < (arrV _ _ _).slots.size; rw [arrV_size, hcl]; exact hlt⟩ (hP qk _ hqk) (fun q h => by cases h) hkI (va_asg _ _) rfl rfl hdg fun H1 e z oq => ?_
  refine kk H1 _ cells slots ls ⟨_, by rw [zd_zu]; exact hL.set hD hq, hP.set hD hq ?_ oq, hD.set hq⟩ (hS.put z oq (hD.2 q0 _ hq)) hl hcc hs
  show H1[a]? = some (vp_cell _ _)
  rw [e, hcl]
  rw [vp_cell_q]
  refine congrArg some ?_
  refine (arrV_store _ _ _ _ _).trans ?_
  refine congrArg (arrV (Γ.2.1 4) n) (show (updV (fun j => va_rf (f j)) i.toNat (Value.ref v)) = (fun j => va_rf (zg f i.toNat v j)) from ?_)
  funext j
  by_cases hj : j = i.toNat
  · subst hj
    simp [updV, zg, va_rf]
  · simp [updV, zg, hj]
/-! for the JDK's own methods -/
theorem zI_b {x : Int} (hr : -128 ≤ x ∧ x ≤ 127) : (zI x).toInt8.toInt32 = zI x := zI_nar_b hr
theorem zI_fb {x : Int} (hr : -128 ≤ x ∧ x ≤ 127) : fits .byte (.int (zI x)) = true := by
  have h := pk_fb (zI x)
  rwa [zI_b hr] at h
theorem zI_nb {x : Int} (hr : -128 ≤ x ∧ x ≤ 127) : narrow .byte (.int (zI x)) = .int (zI x) := by
  have h := pk_nb (zI x)
  rwa [zI_b hr] at h
theorem zr_null (X : zK C l0 Γ0 n0 own cc ws d ret Post) (n' : Nat) (hdg : decode cc pc = .ok (.aconst_null, 1)) (hn : pc + 1 = n') (kk : zG C V kc ks n' lv (.null :: rest)) : zG C V kc ks pc lv rest := by
  obtain ⟨⟨p, l, e, R, s, m, args, below, meth, c⟩, Γ, ⟨nL, mc, ms⟩, Q⟩ := C
  obtain ⟨hx, hb, hml, hown, hts, hO, hB0, hlk, hret, hmc, hms, hdf, hdl, hQ, rfl, rfl, rfl⟩ := X
  subst hn
  intro H locs cells slots ls hV hS hl hcc hs
  exact lv_null hx hb hdg (kk H locs cells slots ls hV hS hl hcc hs)
theorem zr_ishl0 (X : zK C l0 Γ0 n0 own cc ws d ret Post) (n' : Nat) {x : Int32} (hdg : decode cc pc = .ok (.ishl, 1)) (hn : pc + 1 = n') (kk : zG C V kc ks n' lv (.int x :: rest)) : zG C V kc ks pc lv (.int (zI 0) :: .int x :: rest) := by
  obtain ⟨⟨p, l, e, R, s, m, args, below, meth, c⟩, Γ, ⟨nL, mc, ms⟩, Q⟩ := C
  obtain ⟨hx, hb, hml, hown, hts, hO, hB0, hlk, hret, hmc, hms, hdf, hdl, hQ, rfl, rfl, rfl⟩ := X
  subst hn
  intro H locs cells slots ls hV hS hl hcc hs
  have e : x <<< (zI 0 &&& 31) = x := by
    have e1 : (zI 0 &&& 31) = 0 := by decide +kernel
    rw [e1]
    simp
  exact lv_ishl hx hb hdg (by rw [e]; exact kk H locs cells slots ls hV hS hl hcc hs)
theorem zr_ishr0 (X : zK C l0 Γ0 n0 own cc ws d ret Post) (n' : Nat) {x : Int32} (hdg : decode cc pc = .ok (.ishr, 1)) (hn : pc + 1 = n') (kk : zG C V kc ks n' lv (.int x :: rest)) : zG C V kc ks pc lv (.int (zI 0) :: .int x :: rest) := by
  obtain ⟨⟨p, l, e, R, s, m, args, below, meth, c⟩, Γ, ⟨nL, mc, ms⟩, Q⟩ := C
  obtain ⟨hx, hb, hml, hown, hts, hO, hB0, hlk, hret, hmc, hms, hdf, hdl, hQ, rfl, rfl, rfl⟩ := X
  subst hn
  intro H locs cells slots ls hV hS hl hcc hs
  have e : x >>> (zI 0 &&& 31) = x := by
    have e1 : (zI 0 &&& 31) = 0 := by decide +kernel
    rw [e1]
    simp
  exact lv_ishr hx hb hdg (by rw [e]; exact kk H locs cells slots ls hV hS hl hcc hs)
theorem zr_getsD (X : zK C l0 Γ0 n0 own cc ws d ret Post) (n' i : Nat) {index : Nat} {nm : String} (hi : (i = 20 ∧ nm = "DigitOnes") ∨ (i = 21 ∧ nm = "DigitTens")) (hlink : Cond.fieldLink own index "java/lang/Integer" nm "[B" ∈ ws) (hdg : decode cc pc = .ok (.getstatic index, 3)) (hn : pc + 3 = n') (kk : zG C V kc ks n' lv (.ref (Γ0.2.2.1 i) :: rest)) : zG C V kc ks pc lv rest := by
  obtain ⟨⟨p, l, e, R, s, m, args, below, meth, c⟩, Γ, ⟨nL, mc, ms⟩, Q⟩ := C
  obtain ⟨hx, hb, hml, hown, hts, hO, hB0, hlk, hret, hmc, hms, hdf, hdl, hQ, rfl, rfl, rfl⟩ := X
  subst hn
  intro H locs cells slots ls hV hS hl hcc hs
  have hD : zDg Γ i nm s s.heap := by
    rcases hi with ⟨rfl, rfl⟩ | ⟨rfl, rfl⟩
    · exact hO.2.2.2.2.2.2.2.2.2.2.2.2.2.1
    · exact hO.2.2.2.2.2.2.2.2.2.2.2.2.2.2
  exact va_gets hx hb hD.1 hS hown (hts _ hlink) (fun _ h => h) hdg (kk H locs cells slots ls hV hS hl hcc hs)
theorem zr_baldD (X : zK C l0 Γ0 n0 own cc ws d ret Post) (n' i : Nat) {k : Int} (hi : i = 20 ∨ i = 21) (hk : 0 ≤ k ∧ k < 100) (hdg : decode cc pc = .ok (.baload, 1)) (hn : pc + 1 = n') (kk : ∀ x : Int, 48 ≤ x ∧ x ≤ 57 → zG C V kc ks n' lv (.int (zI x) :: rest)) : zG C V kc ks pc lv (.int (zI k) :: .ref (Γ0.2.2.1 i) :: rest) := by
  obtain ⟨⟨p, l, e, R, s, m, args, below, meth, c⟩, Γ, ⟨nL, mc, ms⟩, Q⟩ := C
  obtain ⟨hx, hb, hml, hown, hts, hO, hB0, hlk, hret, hmc, hms, hdf, hdl, hQ, rfl, rfl, rfl⟩ := X
  subst hn
  intro H locs cells slots ls hV hS hl hcc hs
  have hD : ∃ f : Nat → Int, (∀ j, 48 ≤ f j ∧ f j ≤ 57) ∧ va_T .byte (Γ.2.2.1 i) 100 (fun j => .int (zI (f j))) (zA Γ.2.2.2) s s.heap := by
    rcases hi with rfl | rfl
    · exact hO.2.2.2.2.2.2.2.2.2.2.2.2.2.1.2
    · exact hO.2.2.2.2.2.2.2.2.2.2.2.2.2.2.2
  obtain ⟨f, hf, hT⟩ := hD
  exact va_tb hx hb hT hS (zI_in hk.1 (by omega) (by omega)) rfl hdg (kk _ (hf _) H locs cells slots ls hV hS hl hcc hs)
/-- n values of f from place sp on, laid into g from place dp on -/
def zcp (f g : Nat → Int) (sp dp n : Nat) : Nat → Int := fun j => if dp ≤ j ∧ j < dp + n then f (sp + (j - dp)) else g j
theorem zr_copyb (X : zK C l0 Γ0 n0 own cc ws d ret Post) (n' : Nat) {index a0 a tg0 tg n0 n1 : Nat} {f g : Nat → Int} {sp dp n : Int} (h0 : V a0 = some (tg0, za Γ0.2.1 2 n0 f)) (h1 : V a = some (tg, za Γ0.2.1 2 n1 g)) (hbd : ∀ j, -128 ≤ f j ∧ f j ≤ 127) (hlink : Cond.methodLink own index arraycopyName ∈ ws) (hnat : Cond.native arraycopyName ∈ ws) (hstat : Cond.static arraycopyName ∈ ws) (hini : Cond.initialized "java/lang/System" ∈ ws)
    (hr : 0 ≤ sp ∧ 0 ≤ dp ∧ 0 ≤ n ∧ sp + n ≤ n0 ∧ dp + n ≤ n1 ∧ n0 ≤ 100000 ∧ n1 ≤ 100000) (hd : 2 ≤ d) (hcat : (rest.map fun v => v.category).sum ≤ 8) (hdg : decode cc pc = .ok (.invokestatic index, 3)) (hn : pc + 3 = n') (kk : zG C (zu V a tg (za Γ0.2.1 2 n1 (zcp f g sp.toNat dp.toNat n.toNat))) kc ks n' lv rest) : zG C V kc ks pc lv (.int (zI n) :: .int (zI dp) :: .ref a :: .int (zI sp) :: .ref a0 :: rest) := by
  obtain ⟨⟨p, l, e, R, s, m, args, below, meth, c⟩, Γ, ⟨nL, mc, ms⟩, Q⟩ := C
  obtain ⟨hx, hb, hml, hown, hts, hO, hB0, hlk, hret, hmc, hms, hdf, hdl, hQ, rfl, rfl, rfl⟩ := X
  subst hn
  intro H locs cells slots ls hV hS hl hcc hs
  obtain ⟨W0, hL, hP, hD⟩ := hV
  obtain ⟨q0, hq0⟩ := (hL _ _).mp (zd_of h0)
  obtain ⟨q1, hq1⟩ := (hL _ _).mp (zd_of h1)
  have c1 : (zI sp).toNatClampNeg = sp.toNat := zI_clamp hr.1 (by omega)
  have c2 : (zI dp).toNatClampNeg = dp.toNat := zI_clamp hr.2.1 (by omega)
  have c3 : (zI n).toNatClampNeg = n.toNat := zI_clamp hr.2.2.1 (by omega)
  have ng : ∀ z : Int, 0 ≤ z → z ≤ 100000 → ¬ zI z < 0 := fun z hz hz2 => by rw [← zI_0, zI_lt (by omega) (by omega)]; omega
  refine va_copyi hx hb (hml.trans hl.1.symm) hown (hts _ hlink) (hts _ hnat) (hts _ hstat) (hts _ hini) hO.1 hP hD hS q0 q1 2 2 (ty := .byte) hq0 hq1 rfl rfl rfl (ng _ hr.1 (by omega)) (ng _ hr.2.1 (by omega)) (ng _ hr.2.2.1 (by omega)) (by rw [c1, c3]; omega) (by rw [c2, c3]; omega) (fun i _ => zI_fb (hbd _)) (by omega) ?_ hdg (fun H1 locs1 hP1 hD1 hS1 => ?_)
  · have e : nativeFrameWords "java/lang/System" "arraycopy" 5 ≤ 60 := by decide +kernel
    omega
  · rw [c1, c2, c3] at hP1 hD1
    have e : va_cpy (fun j => zI (f j)) (fun j => zI (g j)) sp.toNat dp.toNat n.toNat = fun j => zI (zcp f g sp.toNat dp.toNat n.toNat j) := by
      funext j
      unfold va_cpy zcp
      split <;> rfl
    rw [e] at hP1 hD1
    exact kk H1 locs1 cells slots ls ⟨_, by rw [zd_zu]; exact hL.set hD hq1, hP1, hD1⟩ hS1 hl hcc hs
theorem zr_cloneB (X : zK C l0 Γ0 n0 own cc ws d ret Post) (n' tg : Nat) {index a tg0 n kc' ks' : Nat} {f : Nat → Int} (h0 : V a = some (tg0, za Γ0.2.1 2 n f)) (hbd : ∀ j, -128 ≤ f j ∧ f j ≤ 127) (hlink : Cond.methodLink own index ⟨"[B", "clone", "()Ljava/lang/Object;"⟩ ∈ ws) (hsame : Cond.sameMethod "[B" "java/lang/Object" "clone" "()Ljava/lang/Object;" ∈ ws) (hnat : Cond.native ⟨"java/lang/Object", "clone", "()Ljava/lang/Object;"⟩ ∈ ws) (hinst : Cond.instanceMethod ⟨"java/lang/Object", "clone", "()Ljava/lang/Object;"⟩ ∈ ws) (hsel : Cond.selects "[B" ⟨"[B", "clone", "()Ljava/lang/Object;"⟩ ⟨"java/lang/Object", "clone", "()Ljava/lang/Object;"⟩ ∈ ws)
    (hd : 2 ≤ d) (hcat : (rest.map fun v => v.category).sum ≤ 8) (hdg : decode cc pc = .ok (.invokevirtual index, 3)) (hn : pc + 3 = n') (hkc : kc' + 1 ≤ kc) (hks : ks' + n ≤ ks) (kk : ∀ q : Nat, V q = none → zG C (zu V q tg (za Γ0.2.1 2 n f)) kc' ks' n' lv (.ref q :: rest)) : zG C V kc ks pc lv (.ref a :: rest) := by
  obtain ⟨⟨p, l, e, R, s, m, args, below, meth, c⟩, Γ, ⟨nL, mc, ms⟩, Q⟩ := C
  obtain ⟨hx, hb, hml, hown, hts, hO, hB0, hlk, hret, hmc, hms, hdf, hdl, hQ, rfl, rfl, rfl⟩ := X
  subst hn
  intro H locs cells slots ls hV hS hl hcc hs
  obtain ⟨W0, hL, hP, hD⟩ := hV
  obtain ⟨q0, hq0⟩ := (hL _ _).mp (zd_of h0)
  have hO1 := hO
  obtain ⟨-, -, -, -, -, -, -, -, -, -, -, -, o13, -⟩ := hO1
  refine va_clone (ad := "[B") (ty := .byte) hx hb (hml.trans hl.1.symm) hown (hts _ hlink) (hts _ hsame) (hts _ hnat) (hts _ hinst) (hts _ hsel) o13 hO.1 hP hD hS (fun q h => Nat.le_trans hB0 h) q0 2 hq0 rfl (hO.1.2 2 _ rfl).2 (fun i v hv => ?_) (by omega) (by omega) (by omega) (by show slots + n ≤ _; omega) hdg (fun q H1 hK1 hP1 hD1 hS1 => kk q (zD_new hL hD1) H1 locs (cells + 1) (slots + n) ls (zH.push hL (zD_new hL hD1) hP1 hD1) hS1 hl (by omega) (by omega))
  exact va_fit (cA := Γ.2.1 2) (n := n) (F := fun j => .int (zI (f j))) (fun i _ => zI_fb (hbd i)) i v hv
theorem zr_castB (X : zK C l0 Γ0 n0 own cc ws d ret Post) (n' : Nat) {index a tg n : Nat} {f : Nat → Int} (h0 : V a = some (tg, za Γ0.2.1 2 n f)) (hlink : Cond.classLink own index "[B" ∈ ws) (hdg : decode cc pc = .ok (.checkcast index, 3)) (hn : pc + 3 = n') (kk : zG C V kc ks n' lv (.ref a :: rest)) : zG C V kc ks pc lv (.ref a :: rest) := by
  obtain ⟨⟨p, l, e, R, s, m, args, below, meth, c⟩, Γ, ⟨nL, mc, ms⟩, Q⟩ := C
  obtain ⟨hx, hb, hml, hown, hts, hO, hB0, hlk, hret, hmc, hms, hdf, hdl, hQ, rfl, rfl, rfl⟩ := X
  subst hn
  intro H locs cells slots ls hV hS hl hcc hs
  have hV0 := hV
  obtain ⟨W0, hL, hP, hD⟩ := hV
  obtain ⟨q0, hq0⟩ := (hL _ _).mp (zd_of h0)
  exact va_castA hx hb hown (hts _ hlink) hP q0 hq0 (hO.1.2 2 _ rfl).2 hdg (kk H locs cells slots ls hV0 hS hl hcc hs)
theorem zr_callSU (X : zK C l0 Γ0 n0 own cc ws d ret Post) (n' nA : Nat) {index maxL d' mc' ms' b ci tg N kc' ks' : Nat} {CC : String} {y : MethodName} {bytes : ByteArray} {rt : Option FieldType} {wsy wsy' : List Cond} {fs As : List Value} {P' : Option Value → zV → Prop} {TT : u_T} {st : List Value}
    (hM : zM l0 Γ0 d' y wsy mc' ms' V (.ref b :: As) P') (hT : GoodIn ws (va_wsSU own index y wsy)) (hw : wsy = Cond.code y bytes maxL rt :: wsy')
    (hd : y.name ≠ "<init>" ∧ (parseMethodDescriptor y.desc).map (fun d => d.parameters.length) = some nA) (hA : As.length = nA) (hdd : d' + 1 ≤ d ∧ maxL ≤ 41)
    (hV : V b = some (tg, .inr (ci, fs))) (hc : vwCl[ci]? = some (CC, TT, N)) (hst : st = As.reverse ++ .ref b :: rest) (hcat : (rest.map fun v => v.category).sum ≤ 8)
    (hdg : decode cc pc = .ok (.invokespecial index, 3)) (hn : pc + 3 = n') (hkc : kc' + mc' ≤ kc) (hks : ks' + ms' ≤ ks) (kk : ∀ (rv : Option Value) (V' : zV), P' rv V' → zG C V' kc' ks' n' lv (rv.toList ++ rest)) : zG C V kc ks pc lv st := by
  subst hst
  refine zRunG X (a := (Value.ref b :: As).toArray) (P' := P') (rest := rest) ?_ hn hkc hks kk
  clear kk
  obtain ⟨⟨p, l, e, R, s, m, args, below, meth, c⟩, Γ, ⟨nL, mc, ms⟩, Q⟩ := C
  obtain ⟨hx, hb, hml, hown, hts, hO, hB0, hlk, hret, hmc, hms, hdf, hdl, hQ, rfl, rfl, rfl⟩ := X
  intro H locs cells slots ls hH hS hl hcc hs
  have hcc : cells + mc' ≤ mc := hcc
  have hs : slots + ms' ≤ ms := hs
  have hH0 := hH
  obtain ⟨W0, hL, hP, hD⟩ := hH
  obtain ⟨q0, hq⟩ := (hL _ _).mp (zd_of hV)
  exact va_runSU (hO.1.1 ci _ hc).2 ⟨hx, hb, hml, hown, hts⟩ hM (va_cwSU nA hts hT hw rfl rfl hd (zrm hdd hdf hdl)) ⟨zPc.blind, va_recv hO.1 hP hc hq, fun U hU hW => ⟨rfl, by rw [hU]; exact Nat.le_trans hB0 hS.1, by rw [hU]; exact hH0, zO_call hO hS hU hW⟩⟩ rfl hA hl.1 rfl (lv_room hcat) hdg ⟨Nat.le_trans hcc hmc, Nat.le_trans hs hms⟩
theorem zr_callU2 (X : zK C l0 Γ0 n0 own cc ws d ret Post) (n' nA : Nat) {index maxL d' mc' ms' b ci tg N kc' ks' : Nat} {CC owner : String} {x y : MethodName} {bytes : ByteArray} {rt : Option FieldType} {wsy wsy' : List Cond} {fs As : List Value} {P' : Option Value → zV → Prop} {TT : u_T} {st : List Value}
    (hM : zM l0 Γ0 d' y wsy mc' ms' V (.ref b :: As) P') (hT : GoodIn ws (va_wsU own index CC owner x y wsy)) (hw : wsy = Cond.code y bytes maxL rt :: wsy') (hyx : y = ⟨owner, x.name, x.desc⟩)
    (hd : owner ≠ "java/lang/invoke/MethodHandle" ∧ owner ≠ "java/lang/invoke/VarHandle" ∧ (parseMethodDescriptor x.desc).map (fun d => d.parameters.length) = some nA) (hA : As.length = nA) (hdd : d' + 1 ≤ d ∧ maxL ≤ 41)
    (hV : V b = some (tg, .inr (ci, fs))) (hc : vwCl[ci]? = some (CC, TT, N)) (hst : st = As.reverse ++ .ref b :: rest) (hcat : (rest.map fun v => v.category).sum ≤ 8)
    (hdg : decode cc pc = .ok (.invokevirtual index, 3)) (hn : pc + 3 = n') (hkc : kc' + mc' ≤ kc) (hks : ks' + ms' ≤ ks) (kk : ∀ (rv : Option Value) (V' : zV), P' rv V' → zG C V' kc' ks' n' lv (rv.toList ++ rest)) : zG C V kc ks pc lv st := by
  subst hst
  refine zRunG X (a := (Value.ref b :: As).toArray) (P' := P') (rest := rest) ?_ hn hkc hks kk
  clear kk
  obtain ⟨⟨p, l, e, R, s, m, args, below, meth, c⟩, Γ, ⟨nL, mc, ms⟩, Q⟩ := C
  obtain ⟨hx, hb, hml, hown, hts, hO, hB0, hlk, hret, hmc, hms, hdf, hdl, hQ, rfl, rfl, rfl⟩ := X
  intro H locs cells slots ls hH hS hl hcc hs
  have hcc : cells + mc' ≤ mc := hcc
  have hs : slots + ms' ≤ ms := hs
  have hH0 := hH
  obtain ⟨W0, hL, hP, hD⟩ := hH
  obtain ⟨q0, hq⟩ := (hL _ _).mp (zd_of hV)
  exact va_runU ⟨hx, hb, hml, hown, hts⟩ hM (va_cwU nA hts hT hw rfl rfl hyx hd (zrm hdd hdf hdl)) ⟨zPc.blind, va_recv hO.1 hP hc hq, fun U hU hW => ⟨rfl, by rw [hU]; exact Nat.le_trans hB0 hS.1, by rw [hU]; exact hH0, zO_call hO hS hU hW⟩⟩ rfl hA hl.1 rfl (lv_room hcat) hdg ⟨Nat.le_trans hcc hmc, Nat.le_trans hs hms⟩
theorem zr_callO (X : zK C l0 Γ0 n0 own cc ws d ret Post) (n' nA : Nat) {index maxL d' mc' ms' b ci tg N kc' ks' m0 : Nat} {CC owner : String} {x y : MethodName} {bytes b0 : ByteArray} {rt r0 : Option FieldType} {wsy wsy' : List Cond} {fs As : List Value} {P' : Option Value → zV → Prop} {TT : u_T} {st : List Value}
    (hM : zM l0 Γ0 d' y wsy mc' ms' V (.ref b :: As) P') (hT : GoodIn ws (va_wsO own index CC owner x y wsy)) (hw : wsy = Cond.code y bytes maxL rt :: wsy') (h0 : Cond.code ⟨owner, x.name, x.desc⟩ b0 m0 r0 ∈ ws)
    (hd : owner ≠ "java/lang/invoke/MethodHandle" ∧ owner ≠ "java/lang/invoke/VarHandle" ∧ (parseMethodDescriptor x.desc).map (fun d => d.parameters.length) = some nA) (hA : As.length = nA) (hdd : d' + 1 ≤ d ∧ maxL ≤ 41)
    (hV : V b = some (tg, .inr (ci, fs))) (hc : vwCl[ci]? = some (CC, TT, N)) (hst : st = As.reverse ++ .ref b :: rest) (hcat : (rest.map fun v => v.category).sum ≤ 8)
    (hdg : decode cc pc = .ok (.invokevirtual index, 3)) (hn : pc + 3 = n') (hkc : kc' + mc' ≤ kc) (hks : ks' + ms' ≤ ks) (kk : ∀ (rv : Option Value) (V' : zV), P' rv V' → zG C V' kc' ks' n' lv (rv.toList ++ rest)) : zG C V kc ks pc lv st := by
  subst hst
  refine zRunG X (a := (Value.ref b :: As).toArray) (P' := P') (rest := rest) ?_ hn hkc hks kk
  clear kk
  obtain ⟨⟨p, l, e, R, s, m, args, below, meth, c⟩, Γ, ⟨nL, mc, ms⟩, Q⟩ := C
  obtain ⟨hx, hb, hml, hown, hts, hO, hB0, hlk, hret, hmc, hms, hdf, hdl, hQ, rfl, rfl, rfl⟩ := X
  intro H locs cells slots ls hH hS hl hcc hs
  have hcc : cells + mc' ≤ mc := hcc
  have hs : slots + ms' ≤ ms := hs
  have hH0 := hH
  obtain ⟨W0, hL, hP, hD⟩ := hH
  obtain ⟨q0, hq⟩ := (hL _ _).mp (zd_of hV)
  exact va_runU ⟨hx, hb, hml, hown, hts⟩ hM (va_cwO nA hts hT hw rfl rfl h0 hd (zrm hdd hdf hdl)) ⟨zPc.blind, va_recv hO.1 hP hc hq, fun U hU hW => ⟨rfl, by rw [hU]; exact Nat.le_trans hB0 hS.1, by rw [hU]; exact hH0, zO_call hO hS hU hW⟩⟩ rfl hA hl.1 rfl (lv_room hcat) hdg ⟨Nat.le_trans hcc hmc, Nat.le_trans hs hms⟩
theorem zbex {x : Int} (hr : 0 ≤ x ∧ x ≤ 255) : ∃ y : Int, (if x < 128 then x else x - 256) = y ∧ -128 ≤ y ∧ y ≤ 127 := by
  by_cases c : x < 128
  · exact ⟨x, if_pos c, by omega, by omega⟩
  · exact ⟨x - 256, if_neg c, by omega, by omega⟩
theorem zI_divn {x y : Int} (hx : 0 ≤ x ∧ x ≤ 2147483647) (hy : 0 < y ∧ y ≤ 2147483647) : zI (-x) / zI y = zI (-(x / y)) := by
  rw [← Int32.toInt_inj, Int32.toInt_div, zI_toInt (-x) (by omega), zI_toInt y (by omega)]
  have h1 : 0 ≤ x / y := Int.ediv_nonneg hx.1 (by omega)
  have h2 : x / y ≤ x := Int.ediv_le_self _ hx.1
  have h0 : (-x).tdiv y = -(x / y) := by rw [Int.neg_tdiv, Int.tdiv_eq_ediv_of_nonneg hx.1]
  rw [zI_toInt _ (by omega), h0, Int.bmod_eq_of_le] <;> omega
theorem zr_idivn (X : zK C l0 Γ0 n0 own cc ws d ret Post) (n' : Nat) {x y : Int} (hdg : decode cc pc = .ok (.idiv, 1)) (hn : pc + 1 = n') (hrx : 0 ≤ x ∧ x ≤ 2147483647) (hry : 0 < y ∧ y ≤ 2147483647) (kk : zG C V kc ks n' lv (.int (zI (-(x / y))) :: rest)) : zG C V kc ks pc lv (.int (zI y) :: .int (zI (-x)) :: rest) := by
  obtain ⟨⟨p, l, e, R, s, m, args, below, meth, c⟩, Γ, ⟨nL, mc, ms⟩, Q⟩ := C
  obtain ⟨hx, hb, hml, hown, hts, hO, hB0, hlk, hret, hmc, hms, hdf, hdl, hQ, rfl, rfl, rfl⟩ := X
  subst hn
  intro H locs cells slots ls hV hS hl hcc hs
  exact lv_idiv hx hb hdg (fun h => by rw [← zI_0, zI_eq (by omega) (by omega)] at h; omega) (by rw [zI_divn hrx hry]; exact kk H locs cells slots ls hV hS hl hcc hs)
theorem zr_ldcI (X : zK C l0 Γ0 n0 own cc ws d ret Post) (n' : Nat) {i : Nat} {v : Int} {w : Int32} (hw : Cond.constant own i w ∈ ws) (hv : w = zI v) (hdg : decode cc pc = .ok (.ldc i, 2)) (hn : pc + 2 = n') (kk : zG C V kc ks n' lv (.int (zI v) :: rest)) : zG C V kc ks pc lv rest := by
  subst hv
  exact zr_ldc X n' hdg hn hw kk
theorem zr_ldcwI (X : zK C l0 Γ0 n0 own cc ws d ret Post) (n' : Nat) {i : Nat} {v : Int} {w : Int32} (hw : Cond.constant own i w ∈ ws) (hv : w = zI v) (hdg : decode cc pc = .ok (.ldc_w i, 3)) (hn : pc + 3 = n') (kk : zG C V kc ks n' lv (.int (zI v) :: rest)) : zG C V kc ks pc lv rest := by
  subst hv
  exact zr_ldcw X n' hdg hn hw kk
theorem zdf_J0 : ∀ j, j < 4 → defaultValue (tyJ0 j) = vp_V [.null, .int (zI (0)), .int (zI (0)), .int (zI (0))] j := fun j hj => by
  match j, hj with
  | 0, _ => rfl
  | 1, _ => rfl
  | 2, _ => rfl
  | 3, _ => rfl
  | (k + 4), h => exact absurd h (by omega)
theorem zdf_J4 : ∀ j, j < 4 → defaultValue (tyJ4 j) = vp_V [.null, .int (zI (0)), .int (zI (0)), .int (zI (0))] j := fun j hj => by
  match j, hj with
  | 0, _ => rfl
  | 1, _ => rfl
  | 2, _ => rfl
  | 3, _ => rfl
  | (k + 4), h => exact absurd h (by omega)
theorem zdf_X0 : ∀ j, j < 3 → defaultValue (tyX0 j) = vp_V [.null, .null, .int (zI (0))] j := fun j hj => by
  match j, hj with
  | 0, _ => rfl
  | 1, _ => rfl
  | 2, _ => rfl
  | (k + 3), h => exact absurd h (by omega)
theorem zdf_X1 : ∀ j, j < 4 → defaultValue (tyX1 j) = vp_V [.null, .null, .null, .int (zI (0))] j := fun j hj => by
  match j, hj with
  | 0, _ => rfl
  | 1, _ => rfl
  | 2, _ => rfl
  | 3, _ => rfl
  | (k + 4), h => exact absurd h (by omega)
theorem zdf_X2 : ∀ j, j < 2 → defaultValue (tyX2 j) = vp_V [.null, .int (zI (0))] j := fun j hj => by
  match j, hj with
  | 0, _ => rfl
  | 1, _ => rfl
  | (k + 2), h => exact absurd h (by omega)
theorem zdf_X3 : ∀ j, j < 3 → defaultValue (tyX3 j) = vp_V [.null, .null, .int (zI (0))] j := fun j hj => by
  match j, hj with
  | 0, _ => rfl
  | 1, _ => rfl
  | 2, _ => rfl
  | (k + 3), h => exact absurd h (by omega)
theorem zdf_X5 : ∀ j, j < 6 → defaultValue (tyX5 j) = vp_V [.null, .int (zI (0)), .int (zI (0)), .int (zI (0)), .int (zI (0)), .int (zI (0))] j := fun j hj => by
  match j, hj with
  | 0, _ => rfl
  | 1, _ => rfl
  | 2, _ => rfl
  | 3, _ => rfl
  | 4, _ => rfl
  | 5, _ => rfl
  | (k + 6), h => exact absurd h (by omega)
theorem zdf_X6 : ∀ j, j < 14 → defaultValue (tyX6 j) = vp_V [.null, .null, .null, .null, .null, .null, .null, .null, .null, .null, .int (zI (0)), .int (zI (0)), .int (zI (0)), .int (zI (0))] j := fun j hj => by
  match j, hj with
  | 0, _ => rfl
  | 1, _ => rfl
  | 2, _ => rfl
  | 3, _ => rfl
  | 4, _ => rfl
  | 5, _ => rfl
  | 6, _ => rfl
  | 7, _ => rfl
  | 8, _ => rfl
  | 9, _ => rfl
  | 10, _ => rfl
  | 11, _ => rfl
  | 12, _ => rfl
  | 13, _ => rfl
  | (k + 14), h => exact absurd h (by omega)
theorem zdf_X7 : ∀ j, j < 2 → defaultValue (tyX7 j) = vp_V [.long 0, .null] j := fun j hj => by
  match j, hj with
  | 0, _ => rfl
  | 1, _ => rfl
  | (k + 2), h => exact absurd h (by omega)
theorem zdf_X8 : ∀ j, j < 11 → defaultValue (tyX8 j) = vp_V [.null, .int (zI (0)), .null, .null, .null, .null, .int (zI (0)), .int (zI (0)), .int (zI (0)), .null, .int (zI (0))] j := fun j hj => by
  match j, hj with
  | 0, _ => rfl
  | 1, _ => rfl
  | 2, _ => rfl
  | 3, _ => rfl
  | 4, _ => rfl
  | 5, _ => rfl
  | 6, _ => rfl
  | 7, _ => rfl
  | 8, _ => rfl
  | 9, _ => rfl
  | 10, _ => rfl
  | (k + 11), h => exact absurd h (by omega)
end ZR3
end
section
/-! searches: the first n signs of w end the first e signs of t -/
def zpr (w t : Nat → Int) (e n : Nat) : Prop := n ≤ e ∧ ∀ j, j < n → w j = t (e - n + j)
theorem zpr_0 {w t : Nat → Int} {e : Nat} : zpr w t e 0 := ⟨Nat.zero_le _, fun j hj => absurd hj (Nat.not_lt_zero _)⟩
/-- one more sign -/
theorem zpr_succ {w t : Nat → Int} {e n : Nat} : zpr w t (e + 1) (n + 1) ↔ zpr w t e n ∧ w n = t e := by
  constructor
  · intro ⟨h1, h2⟩
    refine ⟨⟨by omega, fun j hj => ?_⟩, ?_⟩
    · have := h2 j (by omega)
      rw [this]
      exact congrArg t (by omega)
    · have := h2 n (by omega)
      rw [this]
      exact congrArg t (by omega)
  · intro ⟨⟨h1, h2⟩, h3⟩
    refine ⟨by omega, fun j hj => ?_⟩
    by_cases c : j < n
    · rw [h2 j c]
      exact congrArg t (by omega)
    · rw [show j = n by omega, h3]
      exact congrArg t (by omega)
/-- a shorter one that ends the same signs ends the longer one -/
theorem zpr_in {w t : Nat → Int} {e n k : Nat} (hn : zpr w t e n) (hk : zpr w t e k) (h : k ≤ n) : zpr w w n k := by
  refine ⟨h, fun j hj => ?_⟩
  rw [hk.2 j hj, hn.2 (n - k + j) (by omega)]
  have := hn.1
  exact congrArg t (by omega)
theorem zpr_tr {w t : Nat → Int} {e n k : Nat} (hn : zpr w t e n) (hk : zpr w w n k) : zpr w t e k := by
  have h1 := hn.1
  have h2 := hk.1
  refine ⟨by omega, fun j hj => ?_⟩
  rw [hk.2 j hj, hn.2 (n - k + j) (by omega)]
  exact congrArg t (by omega)
/-- b is the greatest border of the first n signs -/
def zgb (w : Nat → Int) (n b : Nat) : Prop := (b < n ∨ (n = 0 ∧ b = 0)) ∧ zpr w w n b ∧ ∀ k, k < n → zpr w w n k → k ≤ b
theorem zgb_0 {w : Nat → Int} : zgb w 0 0 := ⟨Or.inr ⟨rfl, rfl⟩, zpr_0, fun k hk => absurd hk (Nat.not_lt_zero _)⟩
theorem zgb_1 {w : Nat → Int} : zgb w 1 0 := ⟨Or.inl (by decide), zpr_0, fun k hk _ => by omega⟩
theorem zgb.uni {w : Nat → Int} {n b c : Nat} (h : zgb w n b) (h' : zgb w n c) : b = c := by
  obtain ⟨a1, a2, a3⟩ := h
  obtain ⟨b1, b2, b3⟩ := h'
  rcases a1 with a1 | ⟨a1, a1'⟩
  · rcases b1 with b1 | ⟨b1, b1'⟩
    · have := a3 c b1 b2
      have := b3 b a1 a2
      omega
    · omega
  · rcases b1 with b1 | ⟨b1, b1'⟩
    · omega
    · omega
/-- M is the greatest number of first signs (at most top) that end the first e signs of t -/
def zgm (w t : Nat → Int) (top e M : Nat) : Prop := M ≤ top ∧ zpr w t e M ∧ ∀ k, k ≤ top → zpr w t e k → k ≤ M
/-- the state of the loop in grown: n is left, all greater ones fell -/
def zgl (w t : Nat → Int) (top e n : Nat) (s : Int) : Prop := n ≤ top ∧ zpr w t e n ∧ ∀ k, n < k → k ≤ top → zpr w t e k → w k ≠ s
theorem zgl.init {w t : Nat → Int} {top e M : Nat} {s : Int} (h : zgm w t top e M) : zgl w t top e M s := ⟨h.1, h.2.1, fun k h1 h2 h3 => absurd (h.2.2 k h2 h3) (by omega)⟩
theorem zgl.step {w t : Nat → Int} {top e n b : Nat} {s : Int} (h : zgl w t top e n s) (hb : zgb w n b) (hn : 0 < n) (hs : w n ≠ s) : zgl w t top e b s ∧ b < n := by
  obtain ⟨h1, h2, h3⟩ := h
  obtain ⟨b1, b2, b3⟩ := hb
  have hbn : b < n := by omega
  refine ⟨⟨by omega, zpr_tr h2 b2, fun k k1 k2 k3 => ?_⟩, hbn⟩
  by_cases c : n < k
  · exact h3 k c k2 k3
  · by_cases c2 : k = n
    · rw [c2]
      exact hs
    · exact absurd (b3 k (by omega) (zpr_in h2 k3 (by omega))) (by omega)
/-- at the end of the loop: it matches, or nothing does -/
theorem zgl.done {w t : Nat → Int} {m e n : Nat} (h : zgl w t m e n (t e)) (hm : w m ≠ t e) (hx : n = 0 ∨ w n = t e) : zgm w t m (e + 1) (if w n = t e then n + 1 else 0) := by
  obtain ⟨h1, h2, h3⟩ := h
  by_cases c : w n = t e
  · rw [if_pos c]
    have hnm : n ≠ m := fun q => hm (q ▸ c)
    refine ⟨by omega, zpr_succ.mpr ⟨h2, c⟩, fun k k1 k2 => ?_⟩
    cases k with
    | zero => omega
    | succ k =>
      obtain ⟨k3, k4⟩ := zpr_succ.mp k2
      by_cases q : n < k
      · exact absurd k4 (h3 k q (by omega) k3)
      · omega
  · rw [if_neg c]
    have n0 : n = 0 := hx.resolve_right c
    refine ⟨Nat.zero_le _, zpr_0, fun k k1 k2 => ?_⟩
    cases k with
    | zero => exact Nat.le_refl _
    | succ k =>
      obtain ⟨k3, k4⟩ := zpr_succ.mp k2
      by_cases q : n < k
      · exact absurd k4 (h3 k q (by omega) k3)
      · have : k = n := by omega
        rw [this] at k4
        exact absurd k4 c
/-- borders of a text: what is matched before sign e is the greatest border of the first e signs -/
theorem zgb_of_zgm {w : Nat → Int} {e M : Nat} (he : 0 < e) (h : zgm w w (e - 1) e M) : zgb w e M := ⟨Or.inl (by have := h.1; omega), h.2.1, fun k k1 k2 => h.2.2 k (by omega) k2⟩
theorem zgb.gm {w : Nat → Int} {e M : Nat} (he : 0 < e) (h : zgb w e M) : zgm w w (e - 1) e M := ⟨by have := h.1; omega, h.2.1, fun k k1 k2 => h.2.2 k (by omega) k2⟩
/-- the loop in grown while borders are measured -/
theorem zgl.bdone {w : Nat → Int} {e n : Nat} (he : 0 < e) (h : zgl w w (e - 1) e n (w e)) (hx : n = 0 ∨ w n = w e) : zgb w (e + 1) (if w n = w e then n + 1 else 0) := by
  obtain ⟨h1, h2, h3⟩ := h
  by_cases c : w n = w e
  · rw [if_pos c]
    refine ⟨Or.inl (by omega), zpr_succ.mpr ⟨h2, c⟩, fun k k1 k2 => ?_⟩
    cases k with
    | zero => omega
    | succ k =>
      obtain ⟨k3, k4⟩ := zpr_succ.mp k2
      by_cases q : n < k
      · exact absurd k4 (h3 k q (by omega) k3)
      · omega
  · rw [if_neg c]
    have n0 : n = 0 := hx.resolve_right c
    refine ⟨Or.inl (by omega), zpr_0, fun k k1 k2 => ?_⟩
    cases k with
    | zero => exact Nat.le_refl _
    | succ k =>
      obtain ⟨k3, k4⟩ := zpr_succ.mp k2
      by_cases q : n < k
      · exact absurd k4 (h3 k q (by omega) k3)
      · have : k = n := by omega
        rw [this] at k4
        exact absurd k4 c
/-- the word (m signs) lies in t at place p -/
abbrev zli (w t : Nat → Int) (m p : Nat) : Prop := ∀ j, j < m → t (p + j) = w j
theorem zli_of {w t : Nat → Int} {m e M : Nat} (h : zgm w t m e M) : (M = m ∧ m ≤ e ∧ zli w t m (e - m)) ∨ (M ≠ m ∧ ¬ (m ≤ e ∧ zli w t m (e - m))) := by
  obtain ⟨h1, h2, h3⟩ := h
  by_cases c : M = m
  · refine Or.inl ⟨c, ?_, fun j hj => ?_⟩
    · rw [← c]
      exact h2.1
    · rw [c] at h2
      exact (h2.2 j hj).symm
  · refine Or.inr ⟨c, fun ⟨q1, q2⟩ => ?_⟩
    have := h3 m (Nat.le_refl _) ⟨q1, fun j hj => (q2 j hj).symm⟩
    omega
/-- how many places below p there are at which the word lies -/
def zno (w t : Nat → Int) (m : Nat) : Nat → Nat
  | 0 => 0
  | p + 1 => zno w t m p + (if zli w t m p then 1 else 0)
theorem zno_in {w t : Nat → Int} {m p : Nat} (h : zli w t m p) : zno w t m (p + 1) = zno w t m p + 1 := by
  show zno w t m p + (if zli w t m p then 1 else 0) = _
  rw [if_pos h]
theorem zno_out {w t : Nat → Int} {m p : Nat} (h : ¬ zli w t m p) : zno w t m (p + 1) = zno w t m p := by
  show zno w t m p + (if zli w t m p then 1 else 0) = _
  rw [if_neg h]
  rfl
theorem zno_le {w t : Nat → Int} {m p : Nat} : zno w t m p ≤ p := by
  induction p with
  | zero => exact Nat.le_refl _
  | succ p ih =>
    by_cases h : zli w t m p
    · rw [zno_in h]
      omega
    · rw [zno_out h]
      omega
theorem zno_mono {w t : Nat → Int} {m p q : Nat} (h : p ≤ q) : zno w t m p ≤ zno w t m q := by
  induction q with
  | zero => rw [show p = 0 by omega]; exact Nat.le_refl _
  | succ q ih =>
    by_cases e : p = q + 1
    · rw [e]
      exact Nat.le_refl _
    · have := ih (by omega)
      by_cases h : zli w t m q
      · rw [zno_in h]
        omega
      · rw [zno_out h]
        omega
/-- y is the place with number k among the places below P -/
def zth (w t : Nat → Int) (m P : Nat) (k y : Int) : Prop := (y = -1 ∧ (k < 0 ∨ (zno w t m P : Int) ≤ k)) ∨ ∃ p : Nat, y = p ∧ p < P ∧ zli w t m p ∧ (zno w t m p : Int) = k
theorem zth.uni {w t : Nat → Int} {m P : Nat} {k y z : Int} (h : zth w t m P k y) (h' : zth w t m P k z) : y = z := by
  have key : ∀ p : Nat, p < P → zli w t m p → (zno w t m p : Int) = k → ¬ (k < 0 ∨ (zno w t m P : Int) ≤ k) := fun p a b c d => by
    have h1 := zno_mono (w := w) (t := t) (m := m) (show p + 1 ≤ P by omega)
    rw [zno_in b] at h1
    omega
  rcases h with ⟨e, a⟩ | ⟨p, e, a, b, c⟩
  · rcases h' with ⟨e', a'⟩ | ⟨p', e', a', b', c'⟩
    · omega
    · exact absurd a (key p' a' b' c')
  · rcases h' with ⟨e', a'⟩ | ⟨p', e', a', b', c'⟩
    · exact absurd a' (key p a b c)
    · rcases Nat.lt_trichotomy p p' with q | q | q
      · have h1 := zno_mono (w := w) (t := t) (m := m) (show p + 1 ≤ p' by omega)
        rw [zno_in b] at h1
        omega
      · omega
      · have h1 := zno_mono (w := w) (t := t) (m := m) (show p' + 1 ≤ p by omega)
        rw [zno_in b'] at h1
        omega
/-- the last place is the one with the greatest number -/
theorem zth_last {w t : Nat → Int} {m P p : Nat} (hp : p < P) (hl : zli w t m p) (hn : ∀ q, p < q → q < P → ¬ zli w t m q) : zth w t m P ((zno w t m P : Int) - 1) p := by
  refine Or.inr ⟨p, rfl, hp, hl, ?_⟩
  have go : ∀ q, p < q → q ≤ P → zno w t m q = zno w t m p + 1 := fun q => by
    induction q with
    | zero => intro a; omega
    | succ q ih =>
      intro a b
      by_cases e : p = q
      · rw [← e]
        exact zno_in hl
      · rw [zno_out (hn q (by omega) (by omega))]
        exact ih (by omega) (by omega)
  rw [go P hp (Nat.le_refl _)]
  omega
theorem zth_none {w t : Nat → Int} {m P : Nat} (hn : ∀ q, q < P → ¬ zli w t m q) : zno w t m P = 0 := by
  have go : ∀ q, q ≤ P → zno w t m q = 0 := fun q => by
    induction q with
    | zero => intro _; rfl
    | succ q ih => intro a; rw [zno_out (hn q (by omega))]; exact ih (by omega)
  exact go P (Nat.le_refl _)
/-- the row of places that were found below P -/
def zfo (w t : Nat → Int) (m P : Nat) (many : Int) (f : Nat → Int) : Prop := many = (zno w t m P : Int) ∧ ∀ p : Nat, p < P → zli w t m p → f (zno w t m p) = p
theorem zfo_0 {w t : Nat → Int} {m : Nat} {f : Nat → Int} : zfo w t m 0 0 f := ⟨rfl, fun p h => absurd h (Nat.not_lt_zero _)⟩
theorem zfo.put {w t : Nat → Int} {m P : Nat} {many : Int} {f f' : Nat → Int} (h : zfo w t m P many f) (hl : zli w t m P) (h1 : f' (zno w t m P) = P) (h2 : ∀ j, j ≠ zno w t m P → f' j = f j) : zfo w t m (P + 1) (many + 1) f' := by
  refine ⟨by rw [zno_in hl, h.1]; omega, fun p hp hq => ?_⟩
  by_cases e : p = P
  · rw [e]
    exact h1
  · have a := zno_mono (w := w) (t := t) (m := m) (show p + 1 ≤ P by omega)
    rw [zno_in hq] at a
    rw [h2 _ (by omega)]
    exact h.2 p (by omega) hq
theorem zfo.skip {w t : Nat → Int} {m P : Nat} {many : Int} {f : Nat → Int} (h : zfo w t m P many f) (hl : ¬ zli w t m P) : zfo w t m (P + 1) many f := by
  refine ⟨by rw [zno_out hl]; exact h.1, fun p hp hq => ?_⟩
  by_cases e : p = P
  · exact absurd (e ▸ hq) hl
  · exact h.2 p (by omega) hq
/-- what is asked of the row is the place with that number -/
theorem zfo.at {w t : Nat → Int} {m P : Nat} {many k : Int} {f : Nat → Int} (h : zfo w t m P many f) (hk : 0 ≤ k ∧ k < many) : zth w t m P k (f k.toNat) := by
  have go : ∀ q, q ≤ P → k < (zno w t m q : Int) → ∃ p, p < q ∧ zli w t m p ∧ (zno w t m p : Int) = k := fun q => by
    induction q with
    | zero => intro _ a; exact absurd (show k < 0 from a) (by omega)
    | succ q ih =>
      intro a b
      by_cases c : k < (zno w t m q : Int)
      · obtain ⟨p, p1, p2, p3⟩ := ih (by omega) c
        exact ⟨p, by omega, p2, p3⟩
      · by_cases d : zli w t m q
        · rw [zno_in d] at b
          exact ⟨q, by omega, d, by omega⟩
        · rw [zno_out d] at b
          exact absurd b c
  obtain ⟨p, p1, p2, p3⟩ := go P (Nat.le_refl _) (by rw [← h.1]; exact hk.2)
  refine Or.inr ⟨p, ?_, p1, p2, p3⟩
  rw [show k.toNat = zno w t m p by omega]
  exact h.2 p p1 p2
/-- one more sign of the text, by the number matched after it -/
theorem zfo.no {w t : Nat → Int} {M i q : Nat} {many : Int} {f : Nat → Int} (h : zfo w t M (i + 1 - M) many f) (hz : zgm w t M (i + 1) q) (hq : q ≠ M) : zfo w t M (i + 1 + 1 - M) many f := by
  rcases zli_of hz with ⟨a, -⟩ | ⟨-, a⟩
  · exact absurd a hq
  · by_cases c : M ≤ i + 1
    · rw [show i + 1 + 1 - M = (i + 1 - M) + 1 by omega]
      exact h.skip (fun b => a ⟨c, b⟩)
    · rw [show i + 1 + 1 - M = i + 1 - M by omega]
      exact h
theorem zfo.yes {w t : Nat → Int} {M i q : Nat} {many x : Int} {f f' : Nat → Int} (h : zfo w t M (i + 1 - M) many f) (hz : zgm w t M (i + 1) q) (hq : q = M) (hx : x = (i : Int) + 1 - (M : Int)) (h1 : f' many.toNat = x) (h2 : ∀ j, j ≠ many.toNat → f' j = f j) : zfo w t M (i + 1 + 1 - M) (many + 1) f' := by
  rcases zli_of hz with ⟨-, c, a⟩ | ⟨a, -⟩
  · rw [show i + 1 + 1 - M = (i + 1 - M) + 1 by omega]
    have e : many.toNat = zno w t M (i + 1 - M) := by rw [h.1]; exact Int.toNat_natCast _
    rw [e] at h1 h2
    exact h.put a (by rw [h1, hx]; omega) h2
  · exact absurd hq a
theorem zfo.le {w t : Nat → Int} {M P : Nat} {many : Int} {f : Nat → Int} (h : zfo w t M P many f) : 0 ≤ many ∧ many ≤ (P : Int) := by
  have := zno_le (w := w) (t := t) (m := M) (p := P)
  have := h.1
  omega
/-- before the first sign of the text -/
theorem zfo.one {w t : Nat → Int} {f f' : Nat → Int} (h1 : f' 0 = 0) (h2 : ∀ j, j ≠ 0 → f' j = f j) : zfo w t 0 1 1 f' :=
  (zfo_0 (w := w) (t := t) (m := 0) (f := f)).put (fun j hj => absurd hj (Nat.not_lt_zero _)) h1 h2
/-- what is asked, in or out of the row -/
theorem zfo.get {w t : Nat → Int} {m P : Nat} {many k : Int} {f : Nat → Int} (h : zfo w t m P many f) : zth w t m P k (if 0 ≤ k ∧ k < many then f k.toNat else -1) := by
  by_cases c : 0 ≤ k ∧ k < many
  · rw [if_pos c]
    exact h.at c
  · rw [if_neg c]
    exact Or.inl ⟨rfl, by rw [← h.1]; omega⟩
theorem zgm_0 {w t : Nat → Int} {M : Nat} : zgm w t M 0 0 := ⟨Nat.zero_le _, zpr_0, fun k _ h => by have := h.1; omega⟩
end
section
/-! class Window -/
/-- the numbers of a window fit together, and the row is n long -/
def zWb (st cap lim pos mk : Int) (n : Nat) : Prop := 0 ≤ st ∧ st + cap ≤ n ∧ 0 ≤ pos ∧ pos ≤ lim ∧ lim ≤ cap ∧ (mk = -9 ∨ 0 ≤ mk) ∧ mk ≤ pos ∧ n ≤ 100
set_option maxRecDepth 100000 in
set_option maxHeartbeats 4000000 in
theorem m_X5_size (l : Launch) (Γ : zGam) {V : zV} {w r tg : Nat} {st cap lim pos mk : Int} (hw : V w = some (tg, .inr (6, [.ref r, .int (zI st), .int (zI cap), .int (zI lim), .int (zI pos), .int (zI mk)]))) (hb : 0 ≤ pos ∧ pos ≤ lim ∧ lim ≤ 1000) : zM l Γ 0 yX5_size wsX5_size 0 0 V [.ref w] (fun rv V' => rv = some (.int (zI (lim - pos))) ∧ V' = V) := by
  have w0 : Cond.fieldLink RX5 25 "Sashwords$Window" "limit" "I" ∈ wsX5_size := by decide +kernel
  have iX5 : ∀ w ∈ u_ws RX5 TX5 6, w ∈ wsX5_size := by decide +kernel
  have w2 : Cond.fieldLink RX5 31 "Sashwords$Window" "position" "I" ∈ wsX5_size := by decide +kernel
  refine zM_of (cc := cX5_size) (nL := 1) (ret := (some .int)) (own := RX5) (by decide +kernel) rfl rfl (Nat.le_of_ble_eq_true rfl) (fun C X hi0 => ?_)
  show zG C V 0 0 0 [(0, .ref w)] []
  refine zr_aload_n X 1 0 dX5_size_0 rfl rfl ?_
  refine zr_get X 4 6 3 hw rfl iX5 (by decide) w0 rfl rfl dX5_size_1 rfl ?_
  refine zr_aload_n X 5 0 dX5_size_4 rfl rfl ?_
  refine zr_get X 8 6 4 hw rfl iX5 (by decide) w2 rfl rfl dX5_size_5 rfl ?_
  refine zr_isub X 9 dX5_size_8 rfl ?_
  exact zr_iret X rfl ⟨rfl, rfl⟩ dX5_size_9
set_option maxRecDepth 100000 in
set_option maxHeartbeats 4000000 in
theorem m_X5_atPlace (l : Launch) (Γ : zGam) {V : zV} {w r tg tr n : Nat} {st cap lim pos mk : Int} {f : Nat → Int} {p : Int} (hw : V w = some (tg, .inr (6, [.ref r, .int (zI st), .int (zI cap), .int (zI lim), .int (zI pos), .int (zI mk)]))) (hr : V r = some (tr, za Γ.2.1 1 n f)) (hb : zWb st cap lim pos mk n) (hp : -2147483648 ≤ p ∧ p ≤ 2147483647) : zM l Γ 0 yX5_atPlace wsX5_atPlace 0 0 V [.ref w, .int (zI (p))] (fun rv V' => rv = some (.int (zI (if 0 ≤ p ∧ p < lim then f (st + p).toNat else -9))) ∧ V' = V) := by
  obtain ⟨hb1, hb2, hb3, hb4, hb5, hb6, hb7, hb8⟩ := id hb
  have w0 : Cond.fieldLink RX5 25 "Sashwords$Window" "limit" "I" ∈ wsX5_atPlace := by decide +kernel
  have iX5 : ∀ w ∈ u_ws RX5 TX5 6, w ∈ wsX5_atPlace := by decide +kernel
  have w2 : Cond.fieldLink RX5 38 "Sashwords$Window" "start" "I" ∈ wsX5_atPlace := by decide +kernel
  have w3 : Cond.fieldLink RX5 15 "Sashwords$Window" "row" "[C" ∈ wsX5_atPlace := by decide +kernel
  refine zM_of (cc := cX5_atPlace) (nL := 3) (ret := (some .int)) (own := RX5) (by decide +kernel) rfl rfl (Nat.le_of_ble_eq_true rfl) (fun C X hi0 => ?_)
  show zG C V 0 0 0 [(0, .ref w), (1, .int (zI (p)))] []
  refine zr_iload_n X 1 1 dX5_atPlace_0 rfl rfl ?_
  refine zr_if_lt X 12 4 dX5_atPlace_1 rfl rfl (by omega) (fun bq1 => ?_) (fun bq1 => ?_)
  · refine zr_bipush X 14 (-9) dX5_atPlace_12 rfl (by decide) ?_
    exact zr_iret X rfl ⟨by rw [if_neg (by omega)], rfl⟩ dX5_atPlace_14
  · refine zr_iload_n X 5 1 dX5_atPlace_4 rfl rfl ?_
    refine zr_aload_n X 6 0 dX5_atPlace_5 rfl rfl ?_
    refine zr_get X 9 6 3 hw rfl iX5 (by decide) w0 rfl rfl dX5_atPlace_6 rfl ?_
    refine zr_icmp_lt X 15 12 dX5_atPlace_9 rfl rfl (by omega) (by omega) (fun bq2 => ?_) (fun bq2 => ?_)
    · refine zr_aload_n X 16 0 dX5_atPlace_15 rfl rfl ?_
      refine zr_get X 19 6 1 hw rfl iX5 (by decide) w2 rfl rfl dX5_atPlace_16 rfl ?_
      refine zr_iload_n X 20 1 dX5_atPlace_19 rfl rfl ?_
      refine zr_iadd X 21 dX5_atPlace_20 rfl ?_
      refine zr_istore_n X 22 [(2, .int (zI (st + p))), (0, .ref w), (1, .int (zI (p)))] dX5_atPlace_21 rfl (by decide) rfl ?_
      refine zr_iload_n X 23 0 dX5_atPlace_22 rfl rfl ?_
      refine zr_if_lt X 35 26 dX5_atPlace_23 rfl rfl (by omega) (fun bq3 => ?_) (fun bq3 => ?_)
      · refine zr_bipush X 37 (-9) dX5_atPlace_35 rfl (by decide) ?_
        refine zr_goto X 46 dX5_atPlace_37 rfl ?_
        exact zr_iret X rfl ⟨by rw [if_neg (by omega)], rfl⟩ dX5_atPlace_46
      · refine zr_iload_n X 27 0 dX5_atPlace_26 rfl rfl ?_
        refine zr_aload_n X 28 1 dX5_atPlace_27 rfl rfl ?_
        refine zr_get X 31 6 0 hw rfl iX5 (by decide) w3 rfl rfl dX5_atPlace_28 rfl ?_
        refine zr_alen X 32 1 hr (by decide) dX5_atPlace_31 rfl ?_
        refine zr_icmp_lt X 40 35 dX5_atPlace_32 rfl rfl (by omega) (by omega) (fun bq4 => ?_) (fun bq4 => ?_)
        · refine zr_aload_n X 41 1 dX5_atPlace_40 rfl rfl ?_
          refine zr_get X 44 6 0 hw rfl iX5 (by decide) w3 rfl rfl dX5_atPlace_41 rfl ?_
          refine zr_iload_n X 45 0 dX5_atPlace_44 rfl rfl ?_
          refine zr_cald X 46 hr (by omega) dX5_atPlace_45 rfl ?_
          exact zr_iret X rfl ⟨by rw [if_pos (by omega)], rfl⟩ dX5_atPlace_46
        · refine zr_bipush X 37 (-9) dX5_atPlace_35 rfl (by decide) ?_
          refine zr_goto X 46 dX5_atPlace_37 rfl ?_
          exact zr_iret X rfl ⟨by rw [if_neg (by omega)], rfl⟩ dX5_atPlace_46
    · refine zr_bipush X 14 (-9) dX5_atPlace_12 rfl (by decide) ?_
      exact zr_iret X rfl ⟨by rw [if_neg (by omega)], rfl⟩ dX5_atPlace_14
set_option maxRecDepth 100000 in
set_option maxHeartbeats 4000000 in
theorem m_X5_at (l : Launch) (Γ : zGam) {V : zV} {w r tg tr n : Nat} {st cap lim pos mk : Int} {f : Nat → Int} {k : Int} (hw : V w = some (tg, .inr (6, [.ref r, .int (zI st), .int (zI cap), .int (zI lim), .int (zI pos), .int (zI mk)]))) (hr : V r = some (tr, za Γ.2.1 1 n f)) (hb : zWb st cap lim pos mk n) (hp : -2147483648 ≤ k ∧ k ≤ 2147483647) : zM l Γ 1 yX5_at wsX5_at 0 0 V [.ref w, .int (zI (k))] (fun rv V' => rv = some (.int (zI (if 0 ≤ k ∧ k < lim - pos then f (st + pos + k).toNat else -9))) ∧ V' = V) := by
  obtain ⟨hb1, hb2, hb3, hb4, hb5, hb6, hb7, hb8⟩ := id hb
  have w0 : Cond.fieldLink RX5 25 "Sashwords$Window" "limit" "I" ∈ wsX5_at := by decide +kernel
  have iX5 : ∀ w ∈ u_ws RX5 TX5 6, w ∈ wsX5_at := by decide +kernel
  have w2 : Cond.fieldLink RX5 31 "Sashwords$Window" "position" "I" ∈ wsX5_at := by decide +kernel
  refine zM_of (cc := cX5_at) (nL := 2) (ret := (some .int)) (own := RX5) (by decide +kernel) rfl rfl (Nat.le_of_ble_eq_true rfl) (fun C X hi0 => ?_)
  show zG C V 0 0 0 [(0, .ref w), (1, .int (zI (k)))] []
  refine zr_iload_n X 1 1 dX5_at_0 rfl rfl ?_
  refine zr_if_lt X 17 4 dX5_at_1 rfl rfl (by omega) (fun bq1 => ?_) (fun bq1 => ?_)
  · refine zr_bipush X 19 (-9) dX5_at_17 rfl (by decide) ?_
    refine zr_goto X 32 dX5_at_19 rfl ?_
    exact zr_iret X rfl ⟨by rw [if_neg (by omega)], rfl⟩ dX5_at_32
  · refine zr_iload_n X 5 1 dX5_at_4 rfl rfl ?_
    refine zr_aload_n X 6 0 dX5_at_5 rfl rfl ?_
    refine zr_get X 9 6 3 hw rfl iX5 (by decide) w0 rfl rfl dX5_at_6 rfl ?_
    refine zr_aload_n X 10 0 dX5_at_9 rfl rfl ?_
    refine zr_get X 13 6 4 hw rfl iX5 (by decide) w2 rfl rfl dX5_at_10 rfl ?_
    refine zr_isub X 14 dX5_at_13 rfl ?_
    refine zr_icmp_lt X 22 17 dX5_at_14 rfl rfl (by omega) (by omega) (fun bq2 => ?_) (fun bq2 => ?_)
    · refine zr_aload_n X 23 0 dX5_at_22 rfl rfl ?_
      refine zr_aload_n X 24 0 dX5_at_23 rfl rfl ?_
      refine zr_get X 27 6 4 hw rfl iX5 (by decide) w2 rfl rfl dX5_at_24 rfl ?_
      refine zr_iload_n X 28 1 dX5_at_27 rfl rfl ?_
      refine zr_iadd X 29 dX5_at_28 rfl ?_
      refine zr_callV (kc' := 0) (ks' := 0) X 32 1 (m_X5_atPlace l Γ (p := pos + k) hw hr hb (by omega)) gX5_at_X5_atPlace rfl (by decide +kernel) rfl (by decide) hw rfl rfl (Nat.le_of_ble_eq_true rfl) dX5_at_29 rfl (by omega) (by omega) (fun rv3 V4 hp5 => ?_)
      rw [hp5.1, hp5.2]
      show zG C V 0 0 32 [(0, .ref w), (1, .int (zI (k)))] [.int (zI (if 0 ≤ (pos + k) ∧ (pos + k) < lim then f (st + (pos + k)).toNat else -9))]
      exact zr_iret X rfl ⟨by rw [if_pos (by omega), if_pos (by omega), Int.add_assoc], rfl⟩ dX5_at_32
    · refine zr_bipush X 19 (-9) dX5_at_17 rfl (by decide) ?_
      refine zr_goto X 32 dX5_at_19 rfl ?_
      exact zr_iret X rfl ⟨by rw [if_neg (by omega)], rfl⟩ dX5_at_32
set_option maxRecDepth 100000 in
set_option maxHeartbeats 4000000 in
theorem m_X5_goTo (l : Launch) (Γ : zGam) {V : zV} {w r tg : Nat} {st cap lim pos mk : Int} {p q : Int} (hw : V w = some (tg, .inr (6, [.ref r, .int (zI st), .int (zI cap), .int (zI lim), .int (zI pos), .int (zI mk)]))) : zM l Γ 0 yX5_goTo wsX5_goTo 0 0 V [.ref w, .int (zI (p)), .int (zI (q))] (fun rv V' => rv = none ∧ V' = zu V w tg (.inr (6, [.ref r, .int (zI (st)), .int (zI (cap)), .int (zI (q)), .int (zI (p)), .int (zI (-9))]))) := by
  have w0 : Cond.fieldLink RX5 31 "Sashwords$Window" "position" "I" ∈ wsX5_goTo := by decide +kernel
  have iX5 : ∀ w ∈ u_ws RX5 TX5 6, w ∈ wsX5_goTo := by decide +kernel
  have w2 : Cond.fieldLink RX5 25 "Sashwords$Window" "limit" "I" ∈ wsX5_goTo := by decide +kernel
  have w3 : Cond.fieldLink RX5 28 "Sashwords$Window" "mark" "I" ∈ wsX5_goTo := by decide +kernel
  refine zM_of (cc := cX5_goTo) (nL := 3) (ret := none) (own := RX5) (by decide +kernel) rfl rfl (Nat.le_of_ble_eq_true rfl) (fun C X hi0 => ?_)
  show zG C V 0 0 0 [(0, .ref w), (1, .int (zI (p))), (2, .int (zI (q)))] []
  refine zr_aload_n X 1 0 dX5_goTo_0 rfl rfl ?_
  refine zr_iload_n X 2 1 dX5_goTo_1 rfl rfl ?_
  refine zr_put X 5 6 4 [.ref r, .int (zI (st)), .int (zI (cap)), .int (zI (lim)), .int (zI (p)), .int (zI (mk))] tyX5 hw rfl iX5 tyX5_ok nmX5 (by decide) w0 rfl rfl rfl rfl (Nat.le_of_ble_eq_true rfl) rfl dX5_goTo_2 rfl ?_
  refine zr_aload_n X 6 0 dX5_goTo_5 rfl rfl ?_
  refine zr_iload_n X 7 2 dX5_goTo_6 rfl rfl ?_
  refine zr_put X 10 6 3 [.ref r, .int (zI (st)), .int (zI (cap)), .int (zI (q)), .int (zI (p)), .int (zI (mk))] tyX5 (zu_eq _ _ _ _) rfl iX5 tyX5_ok nmX5 (by decide) w2 rfl rfl rfl rfl (Nat.le_of_ble_eq_true rfl) rfl dX5_goTo_7 rfl ?_
  refine zr_view (zu_zu _ _ _ _ _ _) ?_
  refine zr_aload_n X 11 0 dX5_goTo_10 rfl rfl ?_
  refine zr_bipush X 13 (-9) dX5_goTo_11 rfl (by decide) ?_
  refine zr_put X 16 6 5 [.ref r, .int (zI (st)), .int (zI (cap)), .int (zI (q)), .int (zI (p)), .int (zI (-9))] tyX5 (zu_eq _ _ _ _) rfl iX5 tyX5_ok nmX5 (by decide) w3 rfl rfl rfl rfl (Nat.le_of_ble_eq_true rfl) rfl dX5_goTo_13 rfl ?_
  refine zr_view (zu_zu _ _ _ _ _ _) ?_
  exact zr_vret X rfl ⟨rfl, rfl⟩ dX5_goTo_16
set_option maxRecDepth 100000 in
set_option maxHeartbeats 4000000 in
theorem m_X5_setMark (l : Launch) (Γ : zGam) {V : zV} {w r tg : Nat} {st cap lim pos mk : Int} (hw : V w = some (tg, .inr (6, [.ref r, .int (zI st), .int (zI cap), .int (zI lim), .int (zI pos), .int (zI mk)]))) : zM l Γ 0 yX5_setMark wsX5_setMark 0 0 V [.ref w] (fun rv V' => rv = none ∧ V' = zu V w tg (.inr (6, [.ref r, .int (zI (st)), .int (zI (cap)), .int (zI (lim)), .int (zI (pos)), .int (zI (pos))]))) := by
  have w0 : Cond.fieldLink RX5 31 "Sashwords$Window" "position" "I" ∈ wsX5_setMark := by decide +kernel
  have iX5 : ∀ w ∈ u_ws RX5 TX5 6, w ∈ wsX5_setMark := by decide +kernel
  have w2 : Cond.fieldLink RX5 28 "Sashwords$Window" "mark" "I" ∈ wsX5_setMark := by decide +kernel
  refine zM_of (cc := cX5_setMark) (nL := 1) (ret := none) (own := RX5) (by decide +kernel) rfl rfl (Nat.le_of_ble_eq_true rfl) (fun C X hi0 => ?_)
  show zG C V 0 0 0 [(0, .ref w)] []
  refine zr_aload_n X 1 0 dX5_setMark_0 rfl rfl ?_
  refine zr_aload_n X 2 0 dX5_setMark_1 rfl rfl ?_
  refine zr_get X 5 6 4 hw rfl iX5 (by decide) w0 rfl rfl dX5_setMark_2 rfl ?_
  refine zr_put X 8 6 5 [.ref r, .int (zI (st)), .int (zI (cap)), .int (zI (lim)), .int (zI (pos)), .int (zI (pos))] tyX5 hw rfl iX5 tyX5_ok nmX5 (by decide) w2 rfl rfl rfl rfl (Nat.le_of_ble_eq_true rfl) rfl dX5_setMark_5 rfl ?_
  exact zr_vret X rfl ⟨rfl, rfl⟩ dX5_setMark_8
set_option maxRecDepth 100000 in
set_option maxHeartbeats 4000000 in
theorem m_X5_goToMark (l : Launch) (Γ : zGam) {V : zV} {w r tg : Nat} {st cap lim pos mk : Int} (hw : V w = some (tg, .inr (6, [.ref r, .int (zI st), .int (zI cap), .int (zI lim), .int (zI pos), .int (zI mk)]))) : zM l Γ 0 yX5_goToMark wsX5_goToMark 0 0 V [.ref w] (fun rv V' => rv = none ∧ V' = zu V w tg (.inr (6, [.ref r, .int (zI (st)), .int (zI (cap)), .int (zI (lim)), .int (zI (mk)), .int (zI (mk))]))) := by
  have w0 : Cond.fieldLink RX5 28 "Sashwords$Window" "mark" "I" ∈ wsX5_goToMark := by decide +kernel
  have iX5 : ∀ w ∈ u_ws RX5 TX5 6, w ∈ wsX5_goToMark := by decide +kernel
  have w2 : Cond.fieldLink RX5 31 "Sashwords$Window" "position" "I" ∈ wsX5_goToMark := by decide +kernel
  refine zM_of (cc := cX5_goToMark) (nL := 1) (ret := none) (own := RX5) (by decide +kernel) rfl rfl (Nat.le_of_ble_eq_true rfl) (fun C X hi0 => ?_)
  show zG C V 0 0 0 [(0, .ref w)] []
  refine zr_aload_n X 1 0 dX5_goToMark_0 rfl rfl ?_
  refine zr_aload_n X 2 0 dX5_goToMark_1 rfl rfl ?_
  refine zr_get X 5 6 5 hw rfl iX5 (by decide) w0 rfl rfl dX5_goToMark_2 rfl ?_
  refine zr_put X 8 6 4 [.ref r, .int (zI (st)), .int (zI (cap)), .int (zI (lim)), .int (zI (mk)), .int (zI (mk))] tyX5 hw rfl iX5 tyX5_ok nmX5 (by decide) w2 rfl rfl rfl rfl (Nat.le_of_ble_eq_true rfl) rfl dX5_goToMark_5 rfl ?_
  exact zr_vret X rfl ⟨rfl, rfl⟩ dX5_goToMark_8
set_option maxRecDepth 100000 in
set_option maxHeartbeats 4000000 in
theorem m_X5_store (l : Launch) (Γ : zGam) {V : zV} {w r tg tr n : Nat} {st cap lim pos mk : Int} {f : Nat → Int} {p x : Int} (hw : V w = some (tg, .inr (6, [.ref r, .int (zI st), .int (zI cap), .int (zI lim), .int (zI pos), .int (zI mk)]))) (hr : V r = some (tr, za Γ.2.1 1 n f)) (hp : 0 ≤ st + p ∧ st + p < n ∧ n ≤ 100 ∧ 0 ≤ st ∧ st ≤ 100 ∧ -100 ≤ p ∧ p ≤ 100 ∧ 0 ≤ x ∧ x ≤ 65535) : zM l Γ 0 yX5_store wsX5_store 0 0 V [.ref w, .int (zI (p)), .int (zI (x))] (fun rv V' => rv = none ∧ V' = zu V r tr (za Γ.2.1 1 n (zf f (st + p).toNat x))) := by
  have w0 : Cond.fieldLink RX5 38 "Sashwords$Window" "start" "I" ∈ wsX5_store := by decide +kernel
  have iX5 : ∀ w ∈ u_ws RX5 TX5 6, w ∈ wsX5_store := by decide +kernel
  have w2 : Cond.fieldLink RX5 15 "Sashwords$Window" "row" "[C" ∈ wsX5_store := by decide +kernel
  refine zM_of (cc := cX5_store) (nL := 4) (ret := none) (own := RX5) (by decide +kernel) rfl rfl (Nat.le_of_ble_eq_true rfl) (fun C X hi0 => ?_)
  show zG C V 0 0 0 [(0, .ref w), (1, .int (zI (p))), (2, .int (zI (x)))] []
  refine zr_aload_n X 1 0 dX5_store_0 rfl rfl ?_
  refine zr_get X 4 6 1 hw rfl iX5 (by decide) w0 rfl rfl dX5_store_1 rfl ?_
  refine zr_iload_n X 5 1 dX5_store_4 rfl rfl ?_
  refine zr_iadd X 6 dX5_store_5 rfl ?_
  refine zr_istore_n X 7 [(3, .int (zI (st + p))), (0, .ref w), (1, .int (zI (p))), (2, .int (zI (x)))] dX5_store_6 rfl (by decide) rfl ?_
  refine zr_iload_n X 8 0 dX5_store_7 rfl rfl ?_
  refine zr_if_lt X 28 11 dX5_store_8 rfl rfl (by omega) (fun bq1 => ?_) (fun bq1 => ?_)
  · exact zr_vret X rfl ⟨rfl, by omega⟩ dX5_store_28
  · refine zr_iload_n X 12 0 dX5_store_11 rfl rfl ?_
    refine zr_aload_n X 13 1 dX5_store_12 rfl rfl ?_
    refine zr_get X 16 6 0 hw rfl iX5 (by decide) w2 rfl rfl dX5_store_13 rfl ?_
    refine zr_alen X 17 1 hr (by decide) dX5_store_16 rfl ?_
    refine zr_icmp_ge X 28 20 dX5_store_17 rfl rfl (by omega) (by omega) (fun bq2 => ?_) (fun bq2 => ?_)
    · exact zr_vret X rfl ⟨rfl, by omega⟩ dX5_store_28
    · refine zr_aload_n X 21 1 dX5_store_20 rfl rfl ?_
      refine zr_get X 24 6 0 hw rfl iX5 (by decide) w2 rfl rfl dX5_store_21 rfl ?_
      refine zr_iload_n X 25 0 dX5_store_24 rfl rfl ?_
      refine zr_iload_n X 26 3 dX5_store_25 rfl rfl ?_
      refine zr_i2cI X 27 dX5_store_26 rfl (by omega) ?_
      refine zr_cast X 28 hr (by omega) (by omega) dX5_store_27 rfl ?_
      exact zr_vret X rfl ⟨rfl, rfl⟩ dX5_store_28
set_option maxRecDepth 100000 in
set_option maxHeartbeats 4000000 in
theorem m_X5_readSign (l : Launch) (Γ : zGam) {V : zV} {w r tg tr n : Nat} {st cap lim pos mk : Int} {f : Nat → Int} (hw : V w = some (tg, .inr (6, [.ref r, .int (zI st), .int (zI cap), .int (zI lim), .int (zI pos), .int (zI mk)]))) (hr : V r = some (tr, za Γ.2.1 1 n f)) (hb : zWb st cap lim pos mk n) (hlt : pos < lim) : zM l Γ 2 yX5_readSign wsX5_readSign 0 0 V [.ref w] (fun rv V' => rv = some (.int (zI (f (st + pos).toNat))) ∧ V' = zu V w tg (.inr (6, [.ref r, .int (zI (st)), .int (zI (cap)), .int (zI (lim)), .int (zI (pos + 1)), .int (zI (mk))]))) := by
  obtain ⟨hb1, hb2, hb3, hb4, hb5, hb6, hb7, hb8⟩ := id hb
  have w0 : Cond.fieldLink RX5 31 "Sashwords$Window" "position" "I" ∈ wsX5_readSign := by decide +kernel
  have iX5 : ∀ w ∈ u_ws RX5 TX5 6, w ∈ wsX5_readSign := by decide +kernel
  refine zM_of (cc := cX5_readSign) (nL := 2) (ret := (some .int)) (own := RX5) (by decide +kernel) rfl rfl (Nat.le_of_ble_eq_true rfl) (fun C X hi0 => ?_)
  show zG C V 0 0 0 [(0, .ref w)] []
  refine zr_aload_n X 1 0 dX5_readSign_0 rfl rfl ?_
  refine zr_iconst X 2 dX5_readSign_1 rfl ?_
  refine zr_callV (kc' := 0) (ks' := 0) X 5 1 (m_X5_at l Γ (k := 0) hw hr hb (by omega)) gX5_readSign_X5_at rfl (by decide +kernel) rfl (by decide) hw rfl rfl (Nat.le_of_ble_eq_true rfl) dX5_readSign_2 rfl (by omega) (by omega) (fun rv1 V2 hp3 => ?_)
  rw [hp3.1, hp3.2]
  show zG C V 0 0 5 [(0, .ref w)] [.int (zI (if 0 ≤ 0 ∧ 0 < lim - pos then f (st + pos + 0).toNat else -9))]
  refine zr_istore_n X 6 [(1, .int (zI (if 0 ≤ 0 ∧ 0 < lim - pos then f (st + pos + 0).toNat else -9))), (0, .ref w)] dX5_readSign_5 rfl (by decide) rfl ?_
  refine zr_aload_n X 7 1 dX5_readSign_6 rfl rfl ?_
  refine zr_callV (kc' := 0) (ks' := 0) X 10 0 (m_X5_size l Γ hw (by omega)) gX5_readSign_X5_size rfl (by decide +kernel) rfl (by decide) hw rfl rfl (Nat.le_of_ble_eq_true rfl) dX5_readSign_7 rfl (by omega) (by omega) (fun rv4 V5 hp6 => ?_)
  rw [hp6.1, hp6.2]
  show zG C V 0 0 10 [(1, .int (zI (if 0 ≤ 0 ∧ 0 < lim - pos then f (st + pos + 0).toNat else -9))), (0, .ref w)] [.int (zI (lim - pos))]
  refine zr_if_le X 23 13 dX5_readSign_10 rfl rfl (by omega) (fun bq7 => ?_) (fun bq7 => ?_)
  · refine zr_iload_n X 24 0 dX5_readSign_23 rfl rfl ?_
    exact zr_iret X rfl (by exfalso; omega) dX5_readSign_24
  · refine zr_aload_n X 14 1 dX5_readSign_13 rfl rfl ?_
    refine zr_dup X 15 dX5_readSign_14 rfl rfl ?_
    refine zr_get X 18 6 4 hw rfl iX5 (by decide) w0 rfl rfl dX5_readSign_15 rfl ?_
    refine zr_iconst X 19 dX5_readSign_18 rfl ?_
    refine zr_iadd X 20 dX5_readSign_19 rfl ?_
    refine zr_put X 23 6 4 [.ref r, .int (zI (st)), .int (zI (cap)), .int (zI (lim)), .int (zI (pos + 1)), .int (zI (mk))] tyX5 hw rfl iX5 tyX5_ok nmX5 (by decide) w0 rfl rfl rfl rfl (Nat.le_of_ble_eq_true rfl) rfl dX5_readSign_20 rfl ?_
    refine zr_iload_n X 24 0 dX5_readSign_23 rfl rfl ?_
    exact zr_iret X rfl ⟨by rw [if_pos (by omega), Int.add_zero], rfl⟩ dX5_readSign_24
set_option maxRecDepth 100000 in
set_option maxHeartbeats 4000000 in
theorem m_X5_writeSign_y (l : Launch) (Γ : zGam) {V : zV} {w r tg tr n : Nat} {st cap lim pos mk : Int} {f : Nat → Int} {x : Int} (hw : V w = some (tg, .inr (6, [.ref r, .int (zI st), .int (zI cap), .int (zI lim), .int (zI pos), .int (zI mk)]))) (hr : V r = some (tr, za Γ.2.1 1 n f)) (hb : zWb st cap lim pos mk n) (hx : 0 ≤ x ∧ x ≤ 255) (hlt : pos < lim) : zM l Γ 1 yX5_writeSign wsX5_writeSign 0 0 V [.ref w, .int (zI (x))] (fun rv V' => rv = some (.int (zI 1)) ∧ V' = zu (zu V r tr (za Γ.2.1 1 n (zf f (st + pos).toNat x))) w tg (.inr (6, [.ref r, .int (zI (st)), .int (zI (cap)), .int (zI (lim)), .int (zI (pos + 1)), .int (zI (mk))]))) := by
  obtain ⟨hb1, hb2, hb3, hb4, hb5, hb6, hb7, hb8⟩ := id hb
  have w0 : Cond.fieldLink RX5 31 "Sashwords$Window" "position" "I" ∈ wsX5_writeSign := by decide +kernel
  have iX5 : ∀ w ∈ u_ws RX5 TX5 6, w ∈ wsX5_writeSign := by decide +kernel
  refine zM_of (cc := cX5_writeSign) (nL := 2) (ret := (some .boolean)) (own := RX5) (by decide +kernel) rfl rfl (Nat.le_of_ble_eq_true rfl) (fun C X hi0 => ?_)
  show zG C V 0 0 0 [(0, .ref w), (1, .int (zI (x)))] []
  refine zr_aload_n X 1 0 dX5_writeSign_0 rfl rfl ?_
  refine zr_callV (kc' := 0) (ks' := 0) X 4 0 (m_X5_size l Γ hw (by omega)) gX5_writeSign_X5_size rfl (by decide +kernel) rfl (by decide) hw rfl rfl (Nat.le_of_ble_eq_true rfl) dX5_writeSign_1 rfl (by omega) (by omega) (fun rv1 V2 hp3 => ?_)
  rw [hp3.1, hp3.2]
  show zG C V 0 0 4 [(0, .ref w), (1, .int (zI (x)))] [.int (zI (lim - pos))]
  refine zr_if_gt X 9 7 dX5_writeSign_4 rfl rfl (by omega) (fun bq4 => ?_) (fun bq4 => ?_)
  · refine zr_aload_n X 10 0 dX5_writeSign_9 rfl rfl ?_
    refine zr_aload_n X 11 0 dX5_writeSign_10 rfl rfl ?_
    refine zr_get X 14 6 4 hw rfl iX5 (by decide) w0 rfl rfl dX5_writeSign_11 rfl ?_
    refine zr_iload_n X 15 1 dX5_writeSign_14 rfl rfl ?_
    refine zr_callV (kc' := 0) (ks' := 0) X 18 2 (m_X5_store l Γ (p := pos) (x := x) hw hr (by omega)) gX5_writeSign_X5_store rfl (by decide +kernel) rfl (by decide) hw rfl rfl (Nat.le_of_ble_eq_true rfl) dX5_writeSign_15 rfl (by omega) (by omega) (fun rv5 V6 hp7 => ?_)
    rw [hp7.1, hp7.2]
    show zG C (zu V r tr (za Γ.2.1 1 n (zf f (st + pos).toNat x))) 0 0 18 [(0, .ref w), (1, .int (zI (x)))] []
    refine zr_aload_n X 19 0 dX5_writeSign_18 rfl rfl ?_
    refine zr_dup X 20 dX5_writeSign_19 rfl rfl ?_
    refine zr_get X 23 6 4 ((zu_ne (zne_oa hw hr)).trans hw) rfl iX5 (by decide) w0 rfl rfl dX5_writeSign_20 rfl ?_
    refine zr_iconst X 24 dX5_writeSign_23 rfl ?_
    refine zr_iadd X 25 dX5_writeSign_24 rfl ?_
    refine zr_put X 28 6 4 [.ref r, .int (zI (st)), .int (zI (cap)), .int (zI (lim)), .int (zI (pos + 1)), .int (zI (mk))] tyX5 ((zu_ne (zne_oa hw hr)).trans hw) rfl iX5 tyX5_ok nmX5 (by decide) w0 rfl rfl rfl rfl (Nat.le_of_ble_eq_true rfl) rfl dX5_writeSign_25 rfl ?_
    refine zr_iconst X 29 dX5_writeSign_28 rfl ?_
    exact zr_zret X rfl rfl ⟨rfl, rfl⟩ dX5_writeSign_29
  · exfalso
    omega
set_option maxRecDepth 100000 in
set_option maxHeartbeats 4000000 in
theorem m_X5_writeSign_n (l : Launch) (Γ : zGam) {V : zV} {w r tg : Nat} {st cap lim pos mk : Int} {x : Int} (hw : V w = some (tg, .inr (6, [.ref r, .int (zI st), .int (zI cap), .int (zI lim), .int (zI pos), .int (zI mk)]))) (hlt : pos = lim ∧ 0 ≤ pos ∧ lim ≤ 1000) : zM l Γ 1 yX5_writeSign wsX5_writeSign 0 0 V [.ref w, .int (zI (x))] (fun rv V' => rv = some (.int (zI 0)) ∧ V' = V) := by
  refine zM_of (cc := cX5_writeSign) (nL := 2) (ret := (some .boolean)) (own := RX5) (by decide +kernel) rfl rfl (Nat.le_of_ble_eq_true rfl) (fun C X hi0 => ?_)
  show zG C V 0 0 0 [(0, .ref w), (1, .int (zI (x)))] []
  refine zr_aload_n X 1 0 dX5_writeSign_0 rfl rfl ?_
  refine zr_callV (kc' := 0) (ks' := 0) X 4 0 (m_X5_size l Γ hw (by omega)) gX5_writeSign_X5_size rfl (by decide +kernel) rfl (by decide) hw rfl rfl (Nat.le_of_ble_eq_true rfl) dX5_writeSign_1 rfl (by omega) (by omega) (fun rv1 V2 hp3 => ?_)
  rw [hp3.1, hp3.2]
  show zG C V 0 0 4 [(0, .ref w), (1, .int (zI (x)))] [.int (zI (lim - pos))]
  refine zr_if_gt X 9 7 dX5_writeSign_4 rfl rfl (by omega) (fun bq4 => ?_) (fun bq4 => ?_)
  · exfalso
    omega
  · refine zr_iconst X 8 dX5_writeSign_7 rfl ?_
    exact zr_zret X rfl rfl ⟨rfl, rfl⟩ dX5_writeSign_8
set_option maxRecDepth 100000 in
set_option maxHeartbeats 4000000 in
theorem m_X5_becomeLike_ne (l : Launch) (Γ : zGam) {V : zV} {w o r r0 tg to : Nat} {st cap lim pos mk st0 cap0 lim0 pos0 mk0 : Int} (hw : V w = some (tg, .inr (6, [.ref r0, .int (zI st0), .int (zI cap0), .int (zI lim0), .int (zI pos0), .int (zI mk0)]))) (ho : V o = some (to, .inr (6, [.ref r, .int (zI st), .int (zI cap), .int (zI lim), .int (zI pos), .int (zI mk)]))) (hne : w ≠ o) : zM l Γ 0 yX5_becomeLike wsX5_becomeLike 0 0 V [.ref w, .ref o] (fun rv V' => rv = none ∧ V' = zu V w tg (.inr (6, [.ref r, .int (zI (st)), .int (zI (cap)), .int (zI (lim)), .int (zI (pos)), .int (zI (mk))]))) := by
  have w0 : Cond.fieldLink RX5 15 "Sashwords$Window" "row" "[C" ∈ wsX5_becomeLike := by decide +kernel
  have iX5 : ∀ w ∈ u_ws RX5 TX5 6, w ∈ wsX5_becomeLike := by decide +kernel
  have w2 : Cond.fieldLink RX5 38 "Sashwords$Window" "start" "I" ∈ wsX5_becomeLike := by decide +kernel
  have w3 : Cond.fieldLink RX5 21 "Sashwords$Window" "capacity" "I" ∈ wsX5_becomeLike := by decide +kernel
  have w4 : Cond.fieldLink RX5 25 "Sashwords$Window" "limit" "I" ∈ wsX5_becomeLike := by decide +kernel
  have w5 : Cond.fieldLink RX5 31 "Sashwords$Window" "position" "I" ∈ wsX5_becomeLike := by decide +kernel
  have w6 : Cond.fieldLink RX5 28 "Sashwords$Window" "mark" "I" ∈ wsX5_becomeLike := by decide +kernel
  refine zM_of (cc := cX5_becomeLike) (nL := 2) (ret := none) (own := RX5) (by decide +kernel) rfl rfl (Nat.le_of_ble_eq_true rfl) (fun C X hi0 => ?_)
  show zG C V 0 0 0 [(0, .ref w), (1, .ref o)] []
  refine zr_aload_n X 1 0 dX5_becomeLike_0 rfl rfl ?_
  refine zr_aload_n X 2 1 dX5_becomeLike_1 rfl rfl ?_
  refine zr_get X 5 6 0 ho rfl iX5 (by decide) w0 rfl rfl dX5_becomeLike_2 rfl ?_
  refine zr_put X 8 6 0 [.ref r, .int (zI (st0)), .int (zI (cap0)), .int (zI (lim0)), .int (zI (pos0)), .int (zI (mk0))] tyX5 hw rfl iX5 tyX5_ok nmX5 (by decide) w0 rfl rfl rfl rfl (Nat.le_of_ble_eq_true rfl) rfl dX5_becomeLike_5 rfl ?_
  refine zr_aload_n X 9 0 dX5_becomeLike_8 rfl rfl ?_
  refine zr_aload_n X 10 1 dX5_becomeLike_9 rfl rfl ?_
  refine zr_get X 13 6 1 ((zu_ne (Ne.symm hne)).trans ho) rfl iX5 (by decide) w2 rfl rfl dX5_becomeLike_10 rfl ?_
  refine zr_put X 16 6 1 [.ref r, .int (zI (st)), .int (zI (cap0)), .int (zI (lim0)), .int (zI (pos0)), .int (zI (mk0))] tyX5 (zu_eq _ _ _ _) rfl iX5 tyX5_ok nmX5 (by decide) w2 rfl rfl rfl rfl (Nat.le_of_ble_eq_true rfl) rfl dX5_becomeLike_13 rfl ?_
  refine zr_view (zu_zu _ _ _ _ _ _) ?_
  refine zr_aload_n X 17 0 dX5_becomeLike_16 rfl rfl ?_
  refine zr_aload_n X 18 1 dX5_becomeLike_17 rfl rfl ?_
  refine zr_get X 21 6 2 ((zu_ne (Ne.symm hne)).trans ho) rfl iX5 (by decide) w3 rfl rfl dX5_becomeLike_18 rfl ?_
  refine zr_put X 24 6 2 [.ref r, .int (zI (st)), .int (zI (cap)), .int (zI (lim0)), .int (zI (pos0)), .int (zI (mk0))] tyX5 (zu_eq _ _ _ _) rfl iX5 tyX5_ok nmX5 (by decide) w3 rfl rfl rfl rfl (Nat.le_of_ble_eq_true rfl) rfl dX5_becomeLike_21 rfl ?_
  refine zr_view (zu_zu _ _ _ _ _ _) ?_
  refine zr_aload_n X 25 0 dX5_becomeLike_24 rfl rfl ?_
  refine zr_aload_n X 26 1 dX5_becomeLike_25 rfl rfl ?_
  refine zr_get X 29 6 3 ((zu_ne (Ne.symm hne)).trans ho) rfl iX5 (by decide) w4 rfl rfl dX5_becomeLike_26 rfl ?_
  refine zr_put X 32 6 3 [.ref r, .int (zI (st)), .int (zI (cap)), .int (zI (lim)), .int (zI (pos0)), .int (zI (mk0))] tyX5 (zu_eq _ _ _ _) rfl iX5 tyX5_ok nmX5 (by decide) w4 rfl rfl rfl rfl (Nat.le_of_ble_eq_true rfl) rfl dX5_becomeLike_29 rfl ?_
  refine zr_view (zu_zu _ _ _ _ _ _) ?_
  refine zr_aload_n X 33 0 dX5_becomeLike_32 rfl rfl ?_
  refine zr_aload_n X 34 1 dX5_becomeLike_33 rfl rfl ?_
  refine zr_get X 37 6 4 ((zu_ne (Ne.symm hne)).trans ho) rfl iX5 (by decide) w5 rfl rfl dX5_becomeLike_34 rfl ?_
  refine zr_put X 40 6 4 [.ref r, .int (zI (st)), .int (zI (cap)), .int (zI (lim)), .int (zI (pos)), .int (zI (mk0))] tyX5 (zu_eq _ _ _ _) rfl iX5 tyX5_ok nmX5 (by decide) w5 rfl rfl rfl rfl (Nat.le_of_ble_eq_true rfl) rfl dX5_becomeLike_37 rfl ?_
  refine zr_view (zu_zu _ _ _ _ _ _) ?_
  refine zr_aload_n X 41 0 dX5_becomeLike_40 rfl rfl ?_
  refine zr_aload_n X 42 1 dX5_becomeLike_41 rfl rfl ?_
  refine zr_get X 45 6 5 ((zu_ne (Ne.symm hne)).trans ho) rfl iX5 (by decide) w6 rfl rfl dX5_becomeLike_42 rfl ?_
  refine zr_put X 48 6 5 [.ref r, .int (zI (st)), .int (zI (cap)), .int (zI (lim)), .int (zI (pos)), .int (zI (mk))] tyX5 (zu_eq _ _ _ _) rfl iX5 tyX5_ok nmX5 (by decide) w6 rfl rfl rfl rfl (Nat.le_of_ble_eq_true rfl) rfl dX5_becomeLike_45 rfl ?_
  refine zr_view (zu_zu _ _ _ _ _ _) ?_
  exact zr_vret X rfl ⟨rfl, rfl⟩ dX5_becomeLike_48
set_option maxRecDepth 100000 in
set_option maxHeartbeats 4000000 in
theorem m_X5_becomeLike_eq (l : Launch) (Γ : zGam) {V : zV} {w r tg : Nat} {st cap lim pos mk : Int} (hw : V w = some (tg, .inr (6, [.ref r, .int (zI st), .int (zI cap), .int (zI lim), .int (zI pos), .int (zI mk)]))) : zM l Γ 0 yX5_becomeLike wsX5_becomeLike 0 0 V [.ref w, .ref w] (fun rv V' => rv = none ∧ V' = V) := by
  have w0 : Cond.fieldLink RX5 15 "Sashwords$Window" "row" "[C" ∈ wsX5_becomeLike := by decide +kernel
  have iX5 : ∀ w ∈ u_ws RX5 TX5 6, w ∈ wsX5_becomeLike := by decide +kernel
  have w2 : Cond.fieldLink RX5 38 "Sashwords$Window" "start" "I" ∈ wsX5_becomeLike := by decide +kernel
  have w3 : Cond.fieldLink RX5 21 "Sashwords$Window" "capacity" "I" ∈ wsX5_becomeLike := by decide +kernel
  have w4 : Cond.fieldLink RX5 25 "Sashwords$Window" "limit" "I" ∈ wsX5_becomeLike := by decide +kernel
  have w5 : Cond.fieldLink RX5 31 "Sashwords$Window" "position" "I" ∈ wsX5_becomeLike := by decide +kernel
  have w6 : Cond.fieldLink RX5 28 "Sashwords$Window" "mark" "I" ∈ wsX5_becomeLike := by decide +kernel
  refine zM_of (cc := cX5_becomeLike) (nL := 2) (ret := none) (own := RX5) (by decide +kernel) rfl rfl (Nat.le_of_ble_eq_true rfl) (fun C X hi0 => ?_)
  show zG C V 0 0 0 [(0, .ref w), (1, .ref w)] []
  refine zr_aload_n X 1 0 dX5_becomeLike_0 rfl rfl ?_
  refine zr_aload_n X 2 1 dX5_becomeLike_1 rfl rfl ?_
  refine zr_get X 5 6 0 hw rfl iX5 (by decide) w0 rfl rfl dX5_becomeLike_2 rfl ?_
  refine zr_put X 8 6 0 [.ref r, .int (zI (st)), .int (zI (cap)), .int (zI (lim)), .int (zI (pos)), .int (zI (mk))] tyX5 hw rfl iX5 tyX5_ok nmX5 (by decide) w0 rfl rfl rfl rfl (Nat.le_of_ble_eq_true rfl) rfl dX5_becomeLike_5 rfl ?_
  refine zr_aload_n X 9 0 dX5_becomeLike_8 rfl rfl ?_
  refine zr_aload_n X 10 1 dX5_becomeLike_9 rfl rfl ?_
  refine zr_get X 13 6 1 (zu_eq _ _ _ _) rfl iX5 (by decide) w2 rfl rfl dX5_becomeLike_10 rfl ?_
  refine zr_put X 16 6 1 [.ref r, .int (zI (st)), .int (zI (cap)), .int (zI (lim)), .int (zI (pos)), .int (zI (mk))] tyX5 (zu_eq _ _ _ _) rfl iX5 tyX5_ok nmX5 (by decide) w2 rfl rfl rfl rfl (Nat.le_of_ble_eq_true rfl) rfl dX5_becomeLike_13 rfl ?_
  refine zr_view (zu_zu _ _ _ _ _ _) ?_
  refine zr_aload_n X 17 0 dX5_becomeLike_16 rfl rfl ?_
  refine zr_aload_n X 18 1 dX5_becomeLike_17 rfl rfl ?_
  refine zr_get X 21 6 2 (zu_eq _ _ _ _) rfl iX5 (by decide) w3 rfl rfl dX5_becomeLike_18 rfl ?_
  refine zr_put X 24 6 2 [.ref r, .int (zI (st)), .int (zI (cap)), .int (zI (lim)), .int (zI (pos)), .int (zI (mk))] tyX5 (zu_eq _ _ _ _) rfl iX5 tyX5_ok nmX5 (by decide) w3 rfl rfl rfl rfl (Nat.le_of_ble_eq_true rfl) rfl dX5_becomeLike_21 rfl ?_
  refine zr_view (zu_zu _ _ _ _ _ _) ?_
  refine zr_aload_n X 25 0 dX5_becomeLike_24 rfl rfl ?_
  refine zr_aload_n X 26 1 dX5_becomeLike_25 rfl rfl ?_
  refine zr_get X 29 6 3 (zu_eq _ _ _ _) rfl iX5 (by decide) w4 rfl rfl dX5_becomeLike_26 rfl ?_
  refine zr_put X 32 6 3 [.ref r, .int (zI (st)), .int (zI (cap)), .int (zI (lim)), .int (zI (pos)), .int (zI (mk))] tyX5 (zu_eq _ _ _ _) rfl iX5 tyX5_ok nmX5 (by decide) w4 rfl rfl rfl rfl (Nat.le_of_ble_eq_true rfl) rfl dX5_becomeLike_29 rfl ?_
  refine zr_view (zu_zu _ _ _ _ _ _) ?_
  refine zr_aload_n X 33 0 dX5_becomeLike_32 rfl rfl ?_
  refine zr_aload_n X 34 1 dX5_becomeLike_33 rfl rfl ?_
  refine zr_get X 37 6 4 (zu_eq _ _ _ _) rfl iX5 (by decide) w5 rfl rfl dX5_becomeLike_34 rfl ?_
  refine zr_put X 40 6 4 [.ref r, .int (zI (st)), .int (zI (cap)), .int (zI (lim)), .int (zI (pos)), .int (zI (mk))] tyX5 (zu_eq _ _ _ _) rfl iX5 tyX5_ok nmX5 (by decide) w5 rfl rfl rfl rfl (Nat.le_of_ble_eq_true rfl) rfl dX5_becomeLike_37 rfl ?_
  refine zr_view (zu_zu _ _ _ _ _ _) ?_
  refine zr_aload_n X 41 0 dX5_becomeLike_40 rfl rfl ?_
  refine zr_aload_n X 42 1 dX5_becomeLike_41 rfl rfl ?_
  refine zr_get X 45 6 5 (zu_eq _ _ _ _) rfl iX5 (by decide) w6 rfl rfl dX5_becomeLike_42 rfl ?_
  refine zr_put X 48 6 5 [.ref r, .int (zI (st)), .int (zI (cap)), .int (zI (lim)), .int (zI (pos)), .int (zI (mk))] tyX5 (zu_eq _ _ _ _) rfl iX5 tyX5_ok nmX5 (by decide) w6 rfl rfl rfl rfl (Nat.le_of_ble_eq_true rfl) rfl dX5_becomeLike_45 rfl ?_
  refine zr_view (zu_zu _ _ _ _ _ _) ?_
  exact zr_vret X rfl ⟨rfl, zu_id hw⟩ dX5_becomeLike_48
set_option maxRecDepth 100000 in
set_option maxHeartbeats 4000000 in
theorem m_X5_becomeSlice_ne (l : Launch) (Γ : zGam) {V : zV} {w o r r0 tg to : Nat} {st cap lim pos mk st0 cap0 lim0 pos0 mk0 : Int} (hw : V w = some (tg, .inr (6, [.ref r0, .int (zI st0), .int (zI cap0), .int (zI lim0), .int (zI pos0), .int (zI mk0)]))) (ho : V o = some (to, .inr (6, [.ref r, .int (zI st), .int (zI cap), .int (zI lim), .int (zI pos), .int (zI mk)]))) (hne : w ≠ o) (hb : 0 ≤ pos ∧ pos ≤ lim ∧ lim ≤ 1000) : zM l Γ 1 yX5_becomeSlice wsX5_becomeSlice 0 0 V [.ref w, .ref o] (fun rv V' => rv = none ∧ V' = zu V w tg (.inr (6, [.ref r, .int (zI (st + pos)), .int (zI (lim - pos)), .int (zI (lim - pos)), .int (zI (0)), .int (zI (-9))]))) := by
  have w0 : Cond.fieldLink RX5 15 "Sashwords$Window" "row" "[C" ∈ wsX5_becomeSlice := by decide +kernel
  have iX5 : ∀ w ∈ u_ws RX5 TX5 6, w ∈ wsX5_becomeSlice := by decide +kernel
  have w2 : Cond.fieldLink RX5 38 "Sashwords$Window" "start" "I" ∈ wsX5_becomeSlice := by decide +kernel
  have w3 : Cond.fieldLink RX5 31 "Sashwords$Window" "position" "I" ∈ wsX5_becomeSlice := by decide +kernel
  have w4 : Cond.fieldLink RX5 21 "Sashwords$Window" "capacity" "I" ∈ wsX5_becomeSlice := by decide +kernel
  refine zM_of (cc := cX5_becomeSlice) (nL := 3) (ret := none) (own := RX5) (by decide +kernel) rfl rfl (Nat.le_of_ble_eq_true rfl) (fun C X hi0 => ?_)
  show zG C V 0 0 0 [(0, .ref w), (1, .ref o)] []
  refine zr_aload_n X 1 1 dX5_becomeSlice_0 rfl rfl ?_
  refine zr_callV (kc' := 0) (ks' := 0) X 4 0 (m_X5_size l Γ ho (by omega)) gX5_becomeSlice_X5_size rfl (by decide +kernel) rfl (by decide) ho rfl rfl (Nat.le_of_ble_eq_true rfl) dX5_becomeSlice_1 rfl (by omega) (by omega) (fun rv1 V2 hp3 => ?_)
  rw [hp3.1, hp3.2]
  show zG C V 0 0 4 [(0, .ref w), (1, .ref o)] [.int (zI (lim - pos))]
  refine zr_istore_n X 5 [(2, .int (zI (lim - pos))), (0, .ref w), (1, .ref o)] dX5_becomeSlice_4 rfl (by decide) rfl ?_
  refine zr_aload_n X 6 1 dX5_becomeSlice_5 rfl rfl ?_
  refine zr_aload_n X 7 2 dX5_becomeSlice_6 rfl rfl ?_
  refine zr_get X 10 6 0 ho rfl iX5 (by decide) w0 rfl rfl dX5_becomeSlice_7 rfl ?_
  refine zr_put X 13 6 0 [.ref r, .int (zI (st0)), .int (zI (cap0)), .int (zI (lim0)), .int (zI (pos0)), .int (zI (mk0))] tyX5 hw rfl iX5 tyX5_ok nmX5 (by decide) w0 rfl rfl rfl rfl (Nat.le_of_ble_eq_true rfl) rfl dX5_becomeSlice_10 rfl ?_
  refine zr_aload_n X 14 1 dX5_becomeSlice_13 rfl rfl ?_
  refine zr_aload_n X 15 2 dX5_becomeSlice_14 rfl rfl ?_
  refine zr_get X 18 6 1 ((zu_ne (Ne.symm hne)).trans ho) rfl iX5 (by decide) w2 rfl rfl dX5_becomeSlice_15 rfl ?_
  refine zr_aload_n X 19 2 dX5_becomeSlice_18 rfl rfl ?_
  refine zr_get X 22 6 4 ((zu_ne (Ne.symm hne)).trans ho) rfl iX5 (by decide) w3 rfl rfl dX5_becomeSlice_19 rfl ?_
  refine zr_iadd X 23 dX5_becomeSlice_22 rfl ?_
  refine zr_put X 26 6 1 [.ref r, .int (zI (st + pos)), .int (zI (cap0)), .int (zI (lim0)), .int (zI (pos0)), .int (zI (mk0))] tyX5 (zu_eq _ _ _ _) rfl iX5 tyX5_ok nmX5 (by decide) w2 rfl rfl rfl rfl (Nat.le_of_ble_eq_true rfl) rfl dX5_becomeSlice_23 rfl ?_
  refine zr_view (zu_zu _ _ _ _ _ _) ?_
  refine zr_aload_n X 27 1 dX5_becomeSlice_26 rfl rfl ?_
  refine zr_iload_n X 28 0 dX5_becomeSlice_27 rfl rfl ?_
  refine zr_put X 31 6 2 [.ref r, .int (zI (st + pos)), .int (zI (lim - pos)), .int (zI (lim0)), .int (zI (pos0)), .int (zI (mk0))] tyX5 (zu_eq _ _ _ _) rfl iX5 tyX5_ok nmX5 (by decide) w4 rfl rfl rfl rfl (Nat.le_of_ble_eq_true rfl) rfl dX5_becomeSlice_28 rfl ?_
  refine zr_view (zu_zu _ _ _ _ _ _) ?_
  refine zr_aload_n X 32 1 dX5_becomeSlice_31 rfl rfl ?_
  refine zr_iconst X 33 dX5_becomeSlice_32 rfl ?_
  refine zr_iload_n X 34 0 dX5_becomeSlice_33 rfl rfl ?_
  refine zr_callV (kc' := 0) (ks' := 0) X 37 2 (m_X5_goTo l Γ (p := 0) (q := lim - pos) (zu_eq _ _ _ _)) gX5_becomeSlice_X5_goTo rfl (by decide +kernel) rfl (by decide) (zu_eq _ _ _ _) rfl rfl (Nat.le_of_ble_eq_true rfl) dX5_becomeSlice_34 rfl (by omega) (by omega) (fun rv4 V5 hp6 => ?_)
  rw [hp6.1, hp6.2]
  rw [zu_zu]
  show zG C (zu V w tg (.inr (6, [.ref r, .int (zI (st + pos)), .int (zI (lim - pos)), .int (zI (lim - pos)), .int (zI (0)), .int (zI (-9))]))) 0 0 37 [(2, .int (zI (lim - pos))), (0, .ref w), (1, .ref o)] []
  exact zr_vret X rfl ⟨rfl, rfl⟩ dX5_becomeSlice_37
set_option maxRecDepth 100000 in
set_option maxHeartbeats 4000000 in
theorem m_X5_becomeSlice_eq (l : Launch) (Γ : zGam) {V : zV} {w r tg : Nat} {st cap lim pos mk : Int} (hw : V w = some (tg, .inr (6, [.ref r, .int (zI st), .int (zI cap), .int (zI lim), .int (zI pos), .int (zI mk)]))) (hb : 0 ≤ pos ∧ pos ≤ lim ∧ lim ≤ 1000) : zM l Γ 1 yX5_becomeSlice wsX5_becomeSlice 0 0 V [.ref w, .ref w] (fun rv V' => rv = none ∧ V' = zu V w tg (.inr (6, [.ref r, .int (zI (st + pos)), .int (zI (lim - pos)), .int (zI (lim - pos)), .int (zI (0)), .int (zI (-9))]))) := by
  have w0 : Cond.fieldLink RX5 15 "Sashwords$Window" "row" "[C" ∈ wsX5_becomeSlice := by decide +kernel
  have iX5 : ∀ w ∈ u_ws RX5 TX5 6, w ∈ wsX5_becomeSlice := by decide +kernel
  have w2 : Cond.fieldLink RX5 38 "Sashwords$Window" "start" "I" ∈ wsX5_becomeSlice := by decide +kernel
  have w3 : Cond.fieldLink RX5 31 "Sashwords$Window" "position" "I" ∈ wsX5_becomeSlice := by decide +kernel
  have w4 : Cond.fieldLink RX5 21 "Sashwords$Window" "capacity" "I" ∈ wsX5_becomeSlice := by decide +kernel
  refine zM_of (cc := cX5_becomeSlice) (nL := 3) (ret := none) (own := RX5) (by decide +kernel) rfl rfl (Nat.le_of_ble_eq_true rfl) (fun C X hi0 => ?_)
  show zG C V 0 0 0 [(0, .ref w), (1, .ref w)] []
  refine zr_aload_n X 1 1 dX5_becomeSlice_0 rfl rfl ?_
  refine zr_callV (kc' := 0) (ks' := 0) X 4 0 (m_X5_size l Γ hw (by omega)) gX5_becomeSlice_X5_size rfl (by decide +kernel) rfl (by decide) hw rfl rfl (Nat.le_of_ble_eq_true rfl) dX5_becomeSlice_1 rfl (by omega) (by omega) (fun rv1 V2 hp3 => ?_)
  rw [hp3.1, hp3.2]
  show zG C V 0 0 4 [(0, .ref w), (1, .ref w)] [.int (zI (lim - pos))]
  refine zr_istore_n X 5 [(2, .int (zI (lim - pos))), (0, .ref w), (1, .ref w)] dX5_becomeSlice_4 rfl (by decide) rfl ?_
  refine zr_aload_n X 6 1 dX5_becomeSlice_5 rfl rfl ?_
  refine zr_aload_n X 7 2 dX5_becomeSlice_6 rfl rfl ?_
  refine zr_get X 10 6 0 hw rfl iX5 (by decide) w0 rfl rfl dX5_becomeSlice_7 rfl ?_
  refine zr_put X 13 6 0 [.ref r, .int (zI (st)), .int (zI (cap)), .int (zI (lim)), .int (zI (pos)), .int (zI (mk))] tyX5 hw rfl iX5 tyX5_ok nmX5 (by decide) w0 rfl rfl rfl rfl (Nat.le_of_ble_eq_true rfl) rfl dX5_becomeSlice_10 rfl ?_
  refine zr_aload_n X 14 1 dX5_becomeSlice_13 rfl rfl ?_
  refine zr_aload_n X 15 2 dX5_becomeSlice_14 rfl rfl ?_
  refine zr_get X 18 6 1 (zu_eq _ _ _ _) rfl iX5 (by decide) w2 rfl rfl dX5_becomeSlice_15 rfl ?_
  refine zr_aload_n X 19 2 dX5_becomeSlice_18 rfl rfl ?_
  refine zr_get X 22 6 4 (zu_eq _ _ _ _) rfl iX5 (by decide) w3 rfl rfl dX5_becomeSlice_19 rfl ?_
  refine zr_iadd X 23 dX5_becomeSlice_22 rfl ?_
  refine zr_put X 26 6 1 [.ref r, .int (zI (st + pos)), .int (zI (cap)), .int (zI (lim)), .int (zI (pos)), .int (zI (mk))] tyX5 (zu_eq _ _ _ _) rfl iX5 tyX5_ok nmX5 (by decide) w2 rfl rfl rfl rfl (Nat.le_of_ble_eq_true rfl) rfl dX5_becomeSlice_23 rfl ?_
  refine zr_view (zu_zu _ _ _ _ _ _) ?_
  refine zr_aload_n X 27 1 dX5_becomeSlice_26 rfl rfl ?_
  refine zr_iload_n X 28 0 dX5_becomeSlice_27 rfl rfl ?_
  refine zr_put X 31 6 2 [.ref r, .int (zI (st + pos)), .int (zI (lim - pos)), .int (zI (lim)), .int (zI (pos)), .int (zI (mk))] tyX5 (zu_eq _ _ _ _) rfl iX5 tyX5_ok nmX5 (by decide) w4 rfl rfl rfl rfl (Nat.le_of_ble_eq_true rfl) rfl dX5_becomeSlice_28 rfl ?_
  refine zr_view (zu_zu _ _ _ _ _ _) ?_
  refine zr_aload_n X 32 1 dX5_becomeSlice_31 rfl rfl ?_
  refine zr_iconst X 33 dX5_becomeSlice_32 rfl ?_
  refine zr_iload_n X 34 0 dX5_becomeSlice_33 rfl rfl ?_
  refine zr_callV (kc' := 0) (ks' := 0) X 37 2 (m_X5_goTo l Γ (p := 0) (q := lim - pos) (zu_eq _ _ _ _)) gX5_becomeSlice_X5_goTo rfl (by decide +kernel) rfl (by decide) (zu_eq _ _ _ _) rfl rfl (Nat.le_of_ble_eq_true rfl) dX5_becomeSlice_34 rfl (by omega) (by omega) (fun rv4 V5 hp6 => ?_)
  rw [hp6.1, hp6.2]
  rw [zu_zu]
  show zG C (zu V w tg (.inr (6, [.ref r, .int (zI (st + pos)), .int (zI (lim - pos)), .int (zI (lim - pos)), .int (zI (0)), .int (zI (-9))]))) 0 0 37 [(2, .int (zI (lim - pos))), (0, .ref w), (1, .ref w)] []
  exact zr_vret X rfl ⟨rfl, rfl⟩ dX5_becomeSlice_37
set_option maxRecDepth 100000 in
set_option maxHeartbeats 4000000 in
theorem m_X5_becomePart_ne (l : Launch) (Γ : zGam) {V : zV} {w o r r0 tg to : Nat} {st cap lim pos mk st0 cap0 lim0 pos0 mk0 : Int} {a b : Int} (hw : V w = some (tg, .inr (6, [.ref r0, .int (zI st0), .int (zI cap0), .int (zI lim0), .int (zI pos0), .int (zI mk0)]))) (ho : V o = some (to, .inr (6, [.ref r, .int (zI st), .int (zI cap), .int (zI lim), .int (zI pos), .int (zI mk)]))) (hne : w ≠ o) : zM l Γ 0 yX5_becomePart wsX5_becomePart 0 0 V [.ref w, .ref o, .int (zI (a)), .int (zI (b))] (fun rv V' => rv = none ∧ V' = zu V w tg (.inr (6, [.ref r, .int (zI (st)), .int (zI (cap)), .int (zI (pos + b)), .int (zI (pos + a)), .int (zI (pos + a))]))) := by
  have w0 : Cond.fieldLink RX5 31 "Sashwords$Window" "position" "I" ∈ wsX5_becomePart := by decide +kernel
  have iX5 : ∀ w ∈ u_ws RX5 TX5 6, w ∈ wsX5_becomePart := by decide +kernel
  have w2 : Cond.fieldLink RX5 15 "Sashwords$Window" "row" "[C" ∈ wsX5_becomePart := by decide +kernel
  have w3 : Cond.fieldLink RX5 38 "Sashwords$Window" "start" "I" ∈ wsX5_becomePart := by decide +kernel
  have w4 : Cond.fieldLink RX5 21 "Sashwords$Window" "capacity" "I" ∈ wsX5_becomePart := by decide +kernel
  have w5 : Cond.fieldLink RX5 25 "Sashwords$Window" "limit" "I" ∈ wsX5_becomePart := by decide +kernel
  have w6 : Cond.fieldLink RX5 28 "Sashwords$Window" "mark" "I" ∈ wsX5_becomePart := by decide +kernel
  refine zM_of (cc := cX5_becomePart) (nL := 5) (ret := none) (own := RX5) (by decide +kernel) rfl rfl (Nat.le_of_ble_eq_true rfl) (fun C X hi0 => ?_)
  show zG C V 0 0 0 [(0, .ref w), (1, .ref o), (2, .int (zI (a))), (3, .int (zI (b)))] []
  refine zr_aload_n X 1 1 dX5_becomePart_0 rfl rfl ?_
  refine zr_get X 4 6 4 ho rfl iX5 (by decide) w0 rfl rfl dX5_becomePart_1 rfl ?_
  refine zr_istore X 6 [(4, .int (zI (pos))), (0, .ref w), (1, .ref o), (2, .int (zI (a))), (3, .int (zI (b)))] dX5_becomePart_4 rfl (by decide) rfl ?_
  refine zr_aload_n X 7 1 dX5_becomePart_6 rfl rfl ?_
  refine zr_aload_n X 8 2 dX5_becomePart_7 rfl rfl ?_
  refine zr_get X 11 6 0 ho rfl iX5 (by decide) w2 rfl rfl dX5_becomePart_8 rfl ?_
  refine zr_put X 14 6 0 [.ref r, .int (zI (st0)), .int (zI (cap0)), .int (zI (lim0)), .int (zI (pos0)), .int (zI (mk0))] tyX5 hw rfl iX5 tyX5_ok nmX5 (by decide) w2 rfl rfl rfl rfl (Nat.le_of_ble_eq_true rfl) rfl dX5_becomePart_11 rfl ?_
  refine zr_aload_n X 15 1 dX5_becomePart_14 rfl rfl ?_
  refine zr_aload_n X 16 2 dX5_becomePart_15 rfl rfl ?_
  refine zr_get X 19 6 1 ((zu_ne (Ne.symm hne)).trans ho) rfl iX5 (by decide) w3 rfl rfl dX5_becomePart_16 rfl ?_
  refine zr_put X 22 6 1 [.ref r, .int (zI (st)), .int (zI (cap0)), .int (zI (lim0)), .int (zI (pos0)), .int (zI (mk0))] tyX5 (zu_eq _ _ _ _) rfl iX5 tyX5_ok nmX5 (by decide) w3 rfl rfl rfl rfl (Nat.le_of_ble_eq_true rfl) rfl dX5_becomePart_19 rfl ?_
  refine zr_view (zu_zu _ _ _ _ _ _) ?_
  refine zr_aload_n X 23 1 dX5_becomePart_22 rfl rfl ?_
  refine zr_aload_n X 24 2 dX5_becomePart_23 rfl rfl ?_
  refine zr_get X 27 6 2 ((zu_ne (Ne.symm hne)).trans ho) rfl iX5 (by decide) w4 rfl rfl dX5_becomePart_24 rfl ?_
  refine zr_put X 30 6 2 [.ref r, .int (zI (st)), .int (zI (cap)), .int (zI (lim0)), .int (zI (pos0)), .int (zI (mk0))] tyX5 (zu_eq _ _ _ _) rfl iX5 tyX5_ok nmX5 (by decide) w4 rfl rfl rfl rfl (Nat.le_of_ble_eq_true rfl) rfl dX5_becomePart_27 rfl ?_
  refine zr_view (zu_zu _ _ _ _ _ _) ?_
  refine zr_aload_n X 31 1 dX5_becomePart_30 rfl rfl ?_
  refine zr_iload X 33 0 dX5_becomePart_31 rfl rfl ?_
  refine zr_iload_n X 34 3 dX5_becomePart_33 rfl rfl ?_
  refine zr_iadd X 35 dX5_becomePart_34 rfl ?_
  refine zr_put X 38 6 4 [.ref r, .int (zI (st)), .int (zI (cap)), .int (zI (lim0)), .int (zI (pos + a)), .int (zI (mk0))] tyX5 (zu_eq _ _ _ _) rfl iX5 tyX5_ok nmX5 (by decide) w0 rfl rfl rfl rfl (Nat.le_of_ble_eq_true rfl) rfl dX5_becomePart_35 rfl ?_
  refine zr_view (zu_zu _ _ _ _ _ _) ?_
  refine zr_aload_n X 39 1 dX5_becomePart_38 rfl rfl ?_
  refine zr_iload X 41 0 dX5_becomePart_39 rfl rfl ?_
  refine zr_iload_n X 42 4 dX5_becomePart_41 rfl rfl ?_
  refine zr_iadd X 43 dX5_becomePart_42 rfl ?_
  refine zr_put X 46 6 3 [.ref r, .int (zI (st)), .int (zI (cap)), .int (zI (pos + b)), .int (zI (pos + a)), .int (zI (mk0))] tyX5 (zu_eq _ _ _ _) rfl iX5 tyX5_ok nmX5 (by decide) w5 rfl rfl rfl rfl (Nat.le_of_ble_eq_true rfl) rfl dX5_becomePart_43 rfl ?_
  refine zr_view (zu_zu _ _ _ _ _ _) ?_
  refine zr_aload_n X 47 1 dX5_becomePart_46 rfl rfl ?_
  refine zr_aload_n X 48 1 dX5_becomePart_47 rfl rfl ?_
  refine zr_get X 51 6 4 (zu_eq _ _ _ _) rfl iX5 (by decide) w0 rfl rfl dX5_becomePart_48 rfl ?_
  refine zr_put X 54 6 5 [.ref r, .int (zI (st)), .int (zI (cap)), .int (zI (pos + b)), .int (zI (pos + a)), .int (zI (pos + a))] tyX5 (zu_eq _ _ _ _) rfl iX5 tyX5_ok nmX5 (by decide) w6 rfl rfl rfl rfl (Nat.le_of_ble_eq_true rfl) rfl dX5_becomePart_51 rfl ?_
  refine zr_view (zu_zu _ _ _ _ _ _) ?_
  exact zr_vret X rfl ⟨rfl, rfl⟩ dX5_becomePart_54
set_option maxRecDepth 100000 in
set_option maxHeartbeats 4000000 in
theorem m_X5_becomePart_eq (l : Launch) (Γ : zGam) {V : zV} {w r tg : Nat} {st cap lim pos mk : Int} {a b : Int} (hw : V w = some (tg, .inr (6, [.ref r, .int (zI st), .int (zI cap), .int (zI lim), .int (zI pos), .int (zI mk)]))) : zM l Γ 0 yX5_becomePart wsX5_becomePart 0 0 V [.ref w, .ref w, .int (zI (a)), .int (zI (b))] (fun rv V' => rv = none ∧ V' = zu V w tg (.inr (6, [.ref r, .int (zI (st)), .int (zI (cap)), .int (zI (pos + b)), .int (zI (pos + a)), .int (zI (pos + a))]))) := by
  have w0 : Cond.fieldLink RX5 31 "Sashwords$Window" "position" "I" ∈ wsX5_becomePart := by decide +kernel
  have iX5 : ∀ w ∈ u_ws RX5 TX5 6, w ∈ wsX5_becomePart := by decide +kernel
  have w2 : Cond.fieldLink RX5 15 "Sashwords$Window" "row" "[C" ∈ wsX5_becomePart := by decide +kernel
  have w3 : Cond.fieldLink RX5 38 "Sashwords$Window" "start" "I" ∈ wsX5_becomePart := by decide +kernel
  have w4 : Cond.fieldLink RX5 21 "Sashwords$Window" "capacity" "I" ∈ wsX5_becomePart := by decide +kernel
  have w5 : Cond.fieldLink RX5 25 "Sashwords$Window" "limit" "I" ∈ wsX5_becomePart := by decide +kernel
  have w6 : Cond.fieldLink RX5 28 "Sashwords$Window" "mark" "I" ∈ wsX5_becomePart := by decide +kernel
  refine zM_of (cc := cX5_becomePart) (nL := 5) (ret := none) (own := RX5) (by decide +kernel) rfl rfl (Nat.le_of_ble_eq_true rfl) (fun C X hi0 => ?_)
  show zG C V 0 0 0 [(0, .ref w), (1, .ref w), (2, .int (zI (a))), (3, .int (zI (b)))] []
  refine zr_aload_n X 1 1 dX5_becomePart_0 rfl rfl ?_
  refine zr_get X 4 6 4 hw rfl iX5 (by decide) w0 rfl rfl dX5_becomePart_1 rfl ?_
  refine zr_istore X 6 [(4, .int (zI (pos))), (0, .ref w), (1, .ref w), (2, .int (zI (a))), (3, .int (zI (b)))] dX5_becomePart_4 rfl (by decide) rfl ?_
  refine zr_aload_n X 7 1 dX5_becomePart_6 rfl rfl ?_
  refine zr_aload_n X 8 2 dX5_becomePart_7 rfl rfl ?_
  refine zr_get X 11 6 0 hw rfl iX5 (by decide) w2 rfl rfl dX5_becomePart_8 rfl ?_
  refine zr_put X 14 6 0 [.ref r, .int (zI (st)), .int (zI (cap)), .int (zI (lim)), .int (zI (pos)), .int (zI (mk))] tyX5 hw rfl iX5 tyX5_ok nmX5 (by decide) w2 rfl rfl rfl rfl (Nat.le_of_ble_eq_true rfl) rfl dX5_becomePart_11 rfl ?_
  refine zr_aload_n X 15 1 dX5_becomePart_14 rfl rfl ?_
  refine zr_aload_n X 16 2 dX5_becomePart_15 rfl rfl ?_
  refine zr_get X 19 6 1 (zu_eq _ _ _ _) rfl iX5 (by decide) w3 rfl rfl dX5_becomePart_16 rfl ?_
  refine zr_put X 22 6 1 [.ref r, .int (zI (st)), .int (zI (cap)), .int (zI (lim)), .int (zI (pos)), .int (zI (mk))] tyX5 (zu_eq _ _ _ _) rfl iX5 tyX5_ok nmX5 (by decide) w3 rfl rfl rfl rfl (Nat.le_of_ble_eq_true rfl) rfl dX5_becomePart_19 rfl ?_
  refine zr_view (zu_zu _ _ _ _ _ _) ?_
  refine zr_aload_n X 23 1 dX5_becomePart_22 rfl rfl ?_
  refine zr_aload_n X 24 2 dX5_becomePart_23 rfl rfl ?_
  refine zr_get X 27 6 2 (zu_eq _ _ _ _) rfl iX5 (by decide) w4 rfl rfl dX5_becomePart_24 rfl ?_
  refine zr_put X 30 6 2 [.ref r, .int (zI (st)), .int (zI (cap)), .int (zI (lim)), .int (zI (pos)), .int (zI (mk))] tyX5 (zu_eq _ _ _ _) rfl iX5 tyX5_ok nmX5 (by decide) w4 rfl rfl rfl rfl (Nat.le_of_ble_eq_true rfl) rfl dX5_becomePart_27 rfl ?_
  refine zr_view (zu_zu _ _ _ _ _ _) ?_
  refine zr_aload_n X 31 1 dX5_becomePart_30 rfl rfl ?_
  refine zr_iload X 33 0 dX5_becomePart_31 rfl rfl ?_
  refine zr_iload_n X 34 3 dX5_becomePart_33 rfl rfl ?_
  refine zr_iadd X 35 dX5_becomePart_34 rfl ?_
  refine zr_put X 38 6 4 [.ref r, .int (zI (st)), .int (zI (cap)), .int (zI (lim)), .int (zI (pos + a)), .int (zI (mk))] tyX5 (zu_eq _ _ _ _) rfl iX5 tyX5_ok nmX5 (by decide) w0 rfl rfl rfl rfl (Nat.le_of_ble_eq_true rfl) rfl dX5_becomePart_35 rfl ?_
  refine zr_view (zu_zu _ _ _ _ _ _) ?_
  refine zr_aload_n X 39 1 dX5_becomePart_38 rfl rfl ?_
  refine zr_iload X 41 0 dX5_becomePart_39 rfl rfl ?_
  refine zr_iload_n X 42 4 dX5_becomePart_41 rfl rfl ?_
  refine zr_iadd X 43 dX5_becomePart_42 rfl ?_
  refine zr_put X 46 6 3 [.ref r, .int (zI (st)), .int (zI (cap)), .int (zI (pos + b)), .int (zI (pos + a)), .int (zI (mk))] tyX5 (zu_eq _ _ _ _) rfl iX5 tyX5_ok nmX5 (by decide) w5 rfl rfl rfl rfl (Nat.le_of_ble_eq_true rfl) rfl dX5_becomePart_43 rfl ?_
  refine zr_view (zu_zu _ _ _ _ _ _) ?_
  refine zr_aload_n X 47 1 dX5_becomePart_46 rfl rfl ?_
  refine zr_aload_n X 48 1 dX5_becomePart_47 rfl rfl ?_
  refine zr_get X 51 6 4 (zu_eq _ _ _ _) rfl iX5 (by decide) w0 rfl rfl dX5_becomePart_48 rfl ?_
  refine zr_put X 54 6 5 [.ref r, .int (zI (st)), .int (zI (cap)), .int (zI (pos + b)), .int (zI (pos + a)), .int (zI (pos + a))] tyX5 (zu_eq _ _ _ _) rfl iX5 tyX5_ok nmX5 (by decide) w6 rfl rfl rfl rfl (Nat.le_of_ble_eq_true rfl) rfl dX5_becomePart_51 rfl ?_
  refine zr_view (zu_zu _ _ _ _ _ _) ?_
  exact zr_vret X rfl ⟨rfl, rfl⟩ dX5_becomePart_54
set_option maxRecDepth 100000 in
set_option maxHeartbeats 4000000 in
theorem m_X5_isOrdered (l : Launch) (Γ : zGam) {V : zV} {w r tg n : Nat} {st cap lim pos mk : Int} (hw : V w = some (tg, .inr (6, [.ref r, .int (zI st), .int (zI cap), .int (zI lim), .int (zI pos), .int (zI mk)]))) (hb : zWb st cap lim pos mk n) : zM l Γ 0 yX5_isOrdered wsX5_isOrdered 0 0 V [.ref w] (fun rv V' => rv = some (.int (zI 1)) ∧ V' = V) := by
  obtain ⟨hb1, hb2, hb3, hb4, hb5, hb6, hb7, hb8⟩ := id hb
  have w0 : Cond.fieldLink RX5 28 "Sashwords$Window" "mark" "I" ∈ wsX5_isOrdered := by decide +kernel
  have iX5 : ∀ w ∈ u_ws RX5 TX5 6, w ∈ wsX5_isOrdered := by decide +kernel
  have w2 : Cond.fieldLink RX5 31 "Sashwords$Window" "position" "I" ∈ wsX5_isOrdered := by decide +kernel
  have w3 : Cond.fieldLink RX5 25 "Sashwords$Window" "limit" "I" ∈ wsX5_isOrdered := by decide +kernel
  have w4 : Cond.fieldLink RX5 21 "Sashwords$Window" "capacity" "I" ∈ wsX5_isOrdered := by decide +kernel
  refine zM_of (cc := cX5_isOrdered) (nL := 2) (ret := (some .boolean)) (own := RX5) (by decide +kernel) rfl rfl (Nat.le_of_ble_eq_true rfl) (fun C X hi0 => ?_)
  show zG C V 0 0 0 [(0, .ref w)] []
  refine zr_aload_n X 1 0 dX5_isOrdered_0 rfl rfl ?_
  refine zr_get X 4 6 5 hw rfl iX5 (by decide) w0 rfl rfl dX5_isOrdered_1 rfl ?_
  refine zr_bipush X 6 (-9) dX5_isOrdered_4 rfl (by decide) ?_
  refine zr_icmp_eq X 28 9 dX5_isOrdered_6 rfl rfl (by omega) (by omega) (fun bq1 => ?_) (fun bq1 => ?_)
  · refine zr_iconst X 29 dX5_isOrdered_28 rfl ?_
    refine zr_goto X 33 dX5_isOrdered_29 rfl ?_
    refine zr_istore_n X 34 [(1, .int (zI (1))), (0, .ref w)] dX5_isOrdered_33 rfl (by decide) rfl ?_
    refine zr_iload_n X 35 0 dX5_isOrdered_34 rfl rfl ?_
    refine zr_if_eq X 72 38 dX5_isOrdered_35 rfl rfl (by omega) (fun bq2 => absurd bq2 (by omega)) (fun bq2 => ?_)
    refine zr_iconst X 39 dX5_isOrdered_38 rfl ?_
    refine zr_aload_n X 40 1 dX5_isOrdered_39 rfl rfl ?_
    refine zr_get X 43 6 4 hw rfl iX5 (by decide) w2 rfl rfl dX5_isOrdered_40 rfl ?_
    refine zr_icmp_gt X 72 46 dX5_isOrdered_43 rfl rfl (by omega) (by omega) (fun bq3 => ?_) (fun bq3 => ?_)
    · refine zr_iconst X 73 dX5_isOrdered_72 rfl ?_
      exact zr_zret X rfl rfl (by exfalso; omega) dX5_isOrdered_73
    · refine zr_aload_n X 47 1 dX5_isOrdered_46 rfl rfl ?_
      refine zr_get X 50 6 4 hw rfl iX5 (by decide) w2 rfl rfl dX5_isOrdered_47 rfl ?_
      refine zr_aload_n X 51 1 dX5_isOrdered_50 rfl rfl ?_
      refine zr_get X 54 6 3 hw rfl iX5 (by decide) w3 rfl rfl dX5_isOrdered_51 rfl ?_
      refine zr_icmp_gt X 72 57 dX5_isOrdered_54 rfl rfl (by omega) (by omega) (fun bq4 => ?_) (fun bq4 => ?_)
      · refine zr_iconst X 73 dX5_isOrdered_72 rfl ?_
        exact zr_zret X rfl rfl (by exfalso; omega) dX5_isOrdered_73
      · refine zr_aload_n X 58 1 dX5_isOrdered_57 rfl rfl ?_
        refine zr_get X 61 6 3 hw rfl iX5 (by decide) w3 rfl rfl dX5_isOrdered_58 rfl ?_
        refine zr_aload_n X 62 1 dX5_isOrdered_61 rfl rfl ?_
        refine zr_get X 65 6 2 hw rfl iX5 (by decide) w4 rfl rfl dX5_isOrdered_62 rfl ?_
        refine zr_icmp_gt X 72 68 dX5_isOrdered_65 rfl rfl (by omega) (by omega) (fun bq5 => ?_) (fun bq5 => ?_)
        · refine zr_iconst X 73 dX5_isOrdered_72 rfl ?_
          exact zr_zret X rfl rfl (by exfalso; omega) dX5_isOrdered_73
        · refine zr_iconst X 69 dX5_isOrdered_68 rfl ?_
          refine zr_goto X 73 dX5_isOrdered_69 rfl ?_
          exact zr_zret X rfl rfl ⟨rfl, rfl⟩ dX5_isOrdered_73
  · refine zr_iconst X 10 dX5_isOrdered_9 rfl ?_
    refine zr_aload_n X 11 0 dX5_isOrdered_10 rfl rfl ?_
    refine zr_get X 14 6 5 hw rfl iX5 (by decide) w0 rfl rfl dX5_isOrdered_11 rfl ?_
    refine zr_icmp_gt X 32 17 dX5_isOrdered_14 rfl rfl (by omega) (by omega) (fun bq6 => ?_) (fun bq6 => ?_)
    · refine zr_iconst X 33 dX5_isOrdered_32 rfl ?_
      refine zr_istore_n X 34 [(1, .int (zI (0))), (0, .ref w)] dX5_isOrdered_33 rfl (by decide) rfl ?_
      refine zr_iload_n X 35 0 dX5_isOrdered_34 rfl rfl ?_
      refine zr_if_eq X 72 38 dX5_isOrdered_35 rfl rfl (by omega) (fun bq7 => ?_) (fun bq7 => absurd bq7 (by omega))
      refine zr_iconst X 73 dX5_isOrdered_72 rfl ?_
      exact zr_zret X rfl rfl (by exfalso; omega) dX5_isOrdered_73
    · refine zr_aload_n X 18 0 dX5_isOrdered_17 rfl rfl ?_
      refine zr_get X 21 6 5 hw rfl iX5 (by decide) w0 rfl rfl dX5_isOrdered_18 rfl ?_
      refine zr_aload_n X 22 0 dX5_isOrdered_21 rfl rfl ?_
      refine zr_get X 25 6 4 hw rfl iX5 (by decide) w2 rfl rfl dX5_isOrdered_22 rfl ?_
      refine zr_icmp_gt X 32 28 dX5_isOrdered_25 rfl rfl (by omega) (by omega) (fun bq8 => ?_) (fun bq8 => ?_)
      · refine zr_iconst X 33 dX5_isOrdered_32 rfl ?_
        refine zr_istore_n X 34 [(1, .int (zI (0))), (0, .ref w)] dX5_isOrdered_33 rfl (by decide) rfl ?_
        refine zr_iload_n X 35 0 dX5_isOrdered_34 rfl rfl ?_
        refine zr_if_eq X 72 38 dX5_isOrdered_35 rfl rfl (by omega) (fun bq9 => ?_) (fun bq9 => absurd bq9 (by omega))
        refine zr_iconst X 73 dX5_isOrdered_72 rfl ?_
        exact zr_zret X rfl rfl (by exfalso; omega) dX5_isOrdered_73
      · refine zr_iconst X 29 dX5_isOrdered_28 rfl ?_
        refine zr_goto X 33 dX5_isOrdered_29 rfl ?_
        refine zr_istore_n X 34 [(1, .int (zI (1))), (0, .ref w)] dX5_isOrdered_33 rfl (by decide) rfl ?_
        refine zr_iload_n X 35 0 dX5_isOrdered_34 rfl rfl ?_
        refine zr_if_eq X 72 38 dX5_isOrdered_35 rfl rfl (by omega) (fun bq10 => absurd bq10 (by omega)) (fun bq10 => ?_)
        refine zr_iconst X 39 dX5_isOrdered_38 rfl ?_
        refine zr_aload_n X 40 1 dX5_isOrdered_39 rfl rfl ?_
        refine zr_get X 43 6 4 hw rfl iX5 (by decide) w2 rfl rfl dX5_isOrdered_40 rfl ?_
        refine zr_icmp_gt X 72 46 dX5_isOrdered_43 rfl rfl (by omega) (by omega) (fun bq11 => ?_) (fun bq11 => ?_)
        · refine zr_iconst X 73 dX5_isOrdered_72 rfl ?_
          exact zr_zret X rfl rfl (by exfalso; omega) dX5_isOrdered_73
        · refine zr_aload_n X 47 1 dX5_isOrdered_46 rfl rfl ?_
          refine zr_get X 50 6 4 hw rfl iX5 (by decide) w2 rfl rfl dX5_isOrdered_47 rfl ?_
          refine zr_aload_n X 51 1 dX5_isOrdered_50 rfl rfl ?_
          refine zr_get X 54 6 3 hw rfl iX5 (by decide) w3 rfl rfl dX5_isOrdered_51 rfl ?_
          refine zr_icmp_gt X 72 57 dX5_isOrdered_54 rfl rfl (by omega) (by omega) (fun bq12 => ?_) (fun bq12 => ?_)
          · refine zr_iconst X 73 dX5_isOrdered_72 rfl ?_
            exact zr_zret X rfl rfl (by exfalso; omega) dX5_isOrdered_73
          · refine zr_aload_n X 58 1 dX5_isOrdered_57 rfl rfl ?_
            refine zr_get X 61 6 3 hw rfl iX5 (by decide) w3 rfl rfl dX5_isOrdered_58 rfl ?_
            refine zr_aload_n X 62 1 dX5_isOrdered_61 rfl rfl ?_
            refine zr_get X 65 6 2 hw rfl iX5 (by decide) w4 rfl rfl dX5_isOrdered_62 rfl ?_
            refine zr_icmp_gt X 72 68 dX5_isOrdered_65 rfl rfl (by omega) (by omega) (fun bq13 => ?_) (fun bq13 => ?_)
            · refine zr_iconst X 73 dX5_isOrdered_72 rfl ?_
              exact zr_zret X rfl rfl (by exfalso; omega) dX5_isOrdered_73
            · refine zr_iconst X 69 dX5_isOrdered_68 rfl ?_
              refine zr_goto X 73 dX5_isOrdered_69 rfl ?_
              exact zr_zret X rfl rfl ⟨rfl, rfl⟩ dX5_isOrdered_73
end
section
/-! class Script -/
/-- signs -/
def zc (f : Nat → Int) : Prop := ∀ j, 0 ≤ f j ∧ f j ≤ 255
theorem zc_zf {f : Nat → Int} (h : zc f) {i : Nat} {x : Int} (hx : 0 ≤ x ∧ x ≤ 255) : zc (zf f i x) := by
  intro j
  unfold zf
  split
  · exact hx
  · exact h j
theorem zc_zero : zc (fun _ => 0) := fun _ => ⟨Int.le_refl _, (by decide : (0 : Int) ≤ 255)⟩
set_option maxRecDepth 100000 in
set_option maxHeartbeats 4000000 in
theorem m_X2_size (l : Launch) (Γ : zGam) {V : zV} {b g tb : Nat} {len : Int} (hb : V b = some (tb, .inr (4, [.ref g, .int (zI len)]))) : zM l Γ 0 yX2_size wsX2_size 0 0 V [.ref b] (fun rv V' => rv = some (.int (zI len)) ∧ V' = V) := by
  have w0 : Cond.fieldLink RX2 21 "Sashwords$Script" "length" "I" ∈ wsX2_size := by decide +kernel
  have iX2 : ∀ w ∈ u_ws RX2 TX2 2, w ∈ wsX2_size := by decide +kernel
  refine zM_of (cc := cX2_size) (nL := 1) (ret := (some .int)) (own := RX2) (by decide +kernel) rfl rfl (Nat.le_of_ble_eq_true rfl) (fun C X hi0 => ?_)
  show zG C V 0 0 0 [(0, .ref b)] []
  refine zr_aload_n X 1 0 dX2_size_0 rfl rfl ?_
  refine zr_get X 4 4 1 hb rfl iX2 (by decide) w0 rfl rfl dX2_size_1 rfl ?_
  exact zr_iret X rfl ⟨rfl, rfl⟩ dX2_size_4
set_option maxRecDepth 100000 in
set_option maxHeartbeats 4000000 in
theorem m_X2_at (l : Launch) (Γ : zGam) {V : zV} {b g tb tg n : Nat} {len : Int} {f : Nat → Int} {k : Int} (hb : V b = some (tb, .inr (4, [.ref g, .int (zI len)]))) (hg : V g = some (tg, za Γ.2.1 1 n f)) (hn : 0 ≤ len ∧ len ≤ n ∧ n ≤ 1000) (hk : -2147483648 ≤ k ∧ k ≤ 2147483647) : zM l Γ 0 yX2_at wsX2_at 0 0 V [.ref b, .int (zI (k))] (fun rv V' => rv = some (.int (zI (if 0 ≤ k ∧ k < len then f k.toNat else -9))) ∧ V' = V) := by
  have w0 : Cond.fieldLink RX2 21 "Sashwords$Script" "length" "I" ∈ wsX2_at := by decide +kernel
  have iX2 : ∀ w ∈ u_ws RX2 TX2 2, w ∈ wsX2_at := by decide +kernel
  have w2 : Cond.fieldLink RX2 15 "Sashwords$Script" "signs" "[C" ∈ wsX2_at := by decide +kernel
  refine zM_of (cc := cX2_at) (nL := 2) (ret := (some .int)) (own := RX2) (by decide +kernel) rfl rfl (Nat.le_of_ble_eq_true rfl) (fun C X hi0 => ?_)
  show zG C V 0 0 0 [(0, .ref b), (1, .int (zI (k)))] []
  refine zr_iload_n X 1 1 dX2_at_0 rfl rfl ?_
  refine zr_if_lt X 21 4 dX2_at_1 rfl rfl (by omega) (fun bq1 => ?_) (fun bq1 => ?_)
  · refine zr_bipush X 23 (-9) dX2_at_21 rfl (by decide) ?_
    refine zr_goto X 32 dX2_at_23 rfl ?_
    exact zr_iret X rfl ⟨by rw [if_neg (by omega)], rfl⟩ dX2_at_32
  · refine zr_iload_n X 5 1 dX2_at_4 rfl rfl ?_
    refine zr_aload_n X 6 0 dX2_at_5 rfl rfl ?_
    refine zr_get X 9 4 1 hb rfl iX2 (by decide) w0 rfl rfl dX2_at_6 rfl ?_
    refine zr_icmp_ge X 21 12 dX2_at_9 rfl rfl (by omega) (by omega) (fun bq2 => ?_) (fun bq2 => ?_)
    · refine zr_bipush X 23 (-9) dX2_at_21 rfl (by decide) ?_
      refine zr_goto X 32 dX2_at_23 rfl ?_
      exact zr_iret X rfl ⟨by rw [if_neg (by omega)], rfl⟩ dX2_at_32
    · refine zr_iload_n X 13 1 dX2_at_12 rfl rfl ?_
      refine zr_aload_n X 14 0 dX2_at_13 rfl rfl ?_
      refine zr_get X 17 4 0 hb rfl iX2 (by decide) w2 rfl rfl dX2_at_14 rfl ?_
      refine zr_alen X 18 1 hg (by decide) dX2_at_17 rfl ?_
      refine zr_icmp_lt X 26 21 dX2_at_18 rfl rfl (by omega) (by omega) (fun bq3 => ?_) (fun bq3 => ?_)
      · refine zr_aload_n X 27 0 dX2_at_26 rfl rfl ?_
        refine zr_get X 30 4 0 hb rfl iX2 (by decide) w2 rfl rfl dX2_at_27 rfl ?_
        refine zr_iload_n X 31 1 dX2_at_30 rfl rfl ?_
        refine zr_cald X 32 hg (by omega) dX2_at_31 rfl ?_
        exact zr_iret X rfl ⟨by rw [if_pos (by omega)], rfl⟩ dX2_at_32
      · refine zr_bipush X 23 (-9) dX2_at_21 rfl (by decide) ?_
        refine zr_goto X 32 dX2_at_23 rfl ?_
        exact zr_iret X rfl ⟨by rw [if_neg (by omega)], rfl⟩ dX2_at_32
set_option maxRecDepth 100000 in
set_option maxHeartbeats 4000000 in
theorem m_X2_isFull (l : Launch) (Γ : zGam) {V : zV} {b g tb tg n : Nat} {len : Int} {f : Nat → Int} (hb : V b = some (tb, .inr (4, [.ref g, .int (zI len)]))) (hg : V g = some (tg, za Γ.2.1 1 n f)) (hn : 0 ≤ len ∧ len ≤ n ∧ n ≤ 1000) : zM l Γ 0 yX2_isFull wsX2_isFull 0 0 V [.ref b] (fun rv V' => rv = some (.int (zI (if (n : Int) ≤ len then 1 else 0))) ∧ V' = V) := by
  have w0 : Cond.fieldLink RX2 21 "Sashwords$Script" "length" "I" ∈ wsX2_isFull := by decide +kernel
  have iX2 : ∀ w ∈ u_ws RX2 TX2 2, w ∈ wsX2_isFull := by decide +kernel
  have w2 : Cond.fieldLink RX2 15 "Sashwords$Script" "signs" "[C" ∈ wsX2_isFull := by decide +kernel
  refine zM_of (cc := cX2_isFull) (nL := 1) (ret := (some .boolean)) (own := RX2) (by decide +kernel) rfl rfl (Nat.le_of_ble_eq_true rfl) (fun C X hi0 => ?_)
  show zG C V 0 0 0 [(0, .ref b)] []
  refine zr_aload_n X 1 0 dX2_isFull_0 rfl rfl ?_
  refine zr_get X 4 4 1 hb rfl iX2 (by decide) w0 rfl rfl dX2_isFull_1 rfl ?_
  refine zr_aload_n X 5 0 dX2_isFull_4 rfl rfl ?_
  refine zr_get X 8 4 0 hb rfl iX2 (by decide) w2 rfl rfl dX2_isFull_5 rfl ?_
  refine zr_alen X 9 1 hg (by decide) dX2_isFull_8 rfl ?_
  refine zr_icmp_lt X 16 12 dX2_isFull_9 rfl rfl (by omega) (by omega) (fun bq1 => ?_) (fun bq1 => ?_)
  · refine zr_iconst X 17 dX2_isFull_16 rfl ?_
    exact zr_zret X rfl rfl ⟨by rw [if_neg (by omega)], rfl⟩ dX2_isFull_17
  · refine zr_iconst X 13 dX2_isFull_12 rfl ?_
    refine zr_goto X 17 dX2_isFull_13 rfl ?_
    exact zr_zret X rfl rfl ⟨by rw [if_pos (by omega)], rfl⟩ dX2_isFull_17
set_option maxRecDepth 100000 in
set_option maxHeartbeats 4000000 in
theorem m_X2_clear (l : Launch) (Γ : zGam) {V : zV} {b g tb : Nat} {len : Int} (hb : V b = some (tb, .inr (4, [.ref g, .int (zI len)]))) : zM l Γ 0 yX2_clear wsX2_clear 0 0 V [.ref b] (fun rv V' => rv = none ∧ V' = zu V b tb (.inr (4, [.ref g, .int (zI 0)]))) := by
  have w0 : Cond.fieldLink RX2 21 "Sashwords$Script" "length" "I" ∈ wsX2_clear := by decide +kernel
  have iX2 : ∀ w ∈ u_ws RX2 TX2 2, w ∈ wsX2_clear := by decide +kernel
  refine zM_of (cc := cX2_clear) (nL := 1) (ret := none) (own := RX2) (by decide +kernel) rfl rfl (Nat.le_of_ble_eq_true rfl) (fun C X hi0 => ?_)
  show zG C V 0 0 0 [(0, .ref b)] []
  refine zr_aload_n X 1 0 dX2_clear_0 rfl rfl ?_
  refine zr_iconst X 2 dX2_clear_1 rfl ?_
  refine zr_put X 5 4 1 [.ref g, .int (zI (0))] tyX2 hb rfl iX2 tyX2_ok nmX2 (by decide) w0 rfl rfl rfl rfl (Nat.le_of_ble_eq_true rfl) rfl dX2_clear_2 rfl ?_
  exact zr_vret X rfl ⟨rfl, rfl⟩ dX2_clear_5
set_option maxRecDepth 100000 in
set_option maxHeartbeats 4000000 in
theorem m_X2_add (l : Launch) (Γ : zGam) {V : zV} {b g tb tg n : Nat} {len : Int} {f : Nat → Int} {x : Int} (hb : V b = some (tb, .inr (4, [.ref g, .int (zI len)]))) (hg : V g = some (tg, za Γ.2.1 1 n f)) (hn : 0 ≤ len ∧ len ≤ n ∧ n ≤ 1000) (hx : 0 ≤ x ∧ x ≤ 255) (hlt : len < n) : zM l Γ 0 yX2_add wsX2_add 0 0 V [.ref b, .int (zI (x))] (fun rv V' => rv = none ∧ V' = zu (zu V g tg (za Γ.2.1 1 n (zf f len.toNat x))) b tb (.inr (4, [.ref g, .int (zI (len + 1))]))) := by
  have w0 : Cond.fieldLink RX2 21 "Sashwords$Script" "length" "I" ∈ wsX2_add := by decide +kernel
  have iX2 : ∀ w ∈ u_ws RX2 TX2 2, w ∈ wsX2_add := by decide +kernel
  have w2 : Cond.fieldLink RX2 15 "Sashwords$Script" "signs" "[C" ∈ wsX2_add := by decide +kernel
  refine zM_of (cc := cX2_add) (nL := 2) (ret := none) (own := RX2) (by decide +kernel) rfl rfl (Nat.le_of_ble_eq_true rfl) (fun C X hi0 => ?_)
  show zG C V 0 0 0 [(0, .ref b), (1, .int (zI (x)))] []
  refine zr_aload_n X 1 0 dX2_add_0 rfl rfl ?_
  refine zr_get X 4 4 1 hb rfl iX2 (by decide) w0 rfl rfl dX2_add_1 rfl ?_
  refine zr_if_lt X 40 7 dX2_add_4 rfl rfl (by omega) (fun bq1 => ?_) (fun bq1 => ?_)
  · exact zr_vret X rfl (by exfalso; omega) dX2_add_40
  · refine zr_aload_n X 8 0 dX2_add_7 rfl rfl ?_
    refine zr_get X 11 4 1 hb rfl iX2 (by decide) w0 rfl rfl dX2_add_8 rfl ?_
    refine zr_aload_n X 12 0 dX2_add_11 rfl rfl ?_
    refine zr_get X 15 4 0 hb rfl iX2 (by decide) w2 rfl rfl dX2_add_12 rfl ?_
    refine zr_alen X 16 1 hg (by decide) dX2_add_15 rfl ?_
    refine zr_icmp_ge X 40 19 dX2_add_16 rfl rfl (by omega) (by omega) (fun bq2 => ?_) (fun bq2 => ?_)
    · exact zr_vret X rfl (by exfalso; omega) dX2_add_40
    · refine zr_aload_n X 20 0 dX2_add_19 rfl rfl ?_
      refine zr_get X 23 4 0 hb rfl iX2 (by decide) w2 rfl rfl dX2_add_20 rfl ?_
      refine zr_aload_n X 24 0 dX2_add_23 rfl rfl ?_
      refine zr_get X 27 4 1 hb rfl iX2 (by decide) w0 rfl rfl dX2_add_24 rfl ?_
      refine zr_iload_n X 28 1 dX2_add_27 rfl rfl ?_
      refine zr_i2cI X 29 dX2_add_28 rfl (by omega) ?_
      refine zr_cast X 30 hg (by omega) (by omega) dX2_add_29 rfl ?_
      refine zr_aload_n X 31 0 dX2_add_30 rfl rfl ?_
      refine zr_dup X 32 dX2_add_31 rfl rfl ?_
      refine zr_get X 35 4 1 ((zu_ne (zne_oa hb hg)).trans hb) rfl iX2 (by decide) w0 rfl rfl dX2_add_32 rfl ?_
      refine zr_iconst X 36 dX2_add_35 rfl ?_
      refine zr_iadd X 37 dX2_add_36 rfl ?_
      refine zr_put X 40 4 1 [.ref g, .int (zI (len + 1))] tyX2 ((zu_ne (zne_oa hb hg)).trans hb) rfl iX2 tyX2_ok nmX2 (by decide) w0 rfl rfl rfl rfl (Nat.le_of_ble_eq_true rfl) rfl dX2_add_37 rfl ?_
      exact zr_vret X rfl ⟨rfl, rfl⟩ dX2_add_40
set_option maxRecDepth 100000 in
set_option maxHeartbeats 4000000 in
theorem m_X2_exchange (l : Launch) (Γ : zGam) {V : zV} {b g tb tg n : Nat} {len : Int} {f : Nat → Int} {p x : Int} (hb : V b = some (tb, .inr (4, [.ref g, .int (zI len)]))) (hg : V g = some (tg, za Γ.2.1 1 n f)) (hn : 0 ≤ len ∧ len ≤ n ∧ n ≤ 1000) (hx : 0 ≤ x ∧ x ≤ 255) (hp : 0 ≤ p ∧ p < len) : zM l Γ 1 yX2_exchange wsX2_exchange 0 0 V [.ref b, .int (zI (p)), .int (zI (x))] (fun rv V' => rv = some (.int (zI (f p.toNat))) ∧ V' = zu V g tg (za Γ.2.1 1 n (zf f p.toNat x))) := by
  have w0 : Cond.fieldLink RX2 15 "Sashwords$Script" "signs" "[C" ∈ wsX2_exchange := by decide +kernel
  have iX2 : ∀ w ∈ u_ws RX2 TX2 2, w ∈ wsX2_exchange := by decide +kernel
  refine zM_of (cc := cX2_exchange) (nL := 4) (ret := (some .int)) (own := RX2) (by decide +kernel) rfl rfl (Nat.le_of_ble_eq_true rfl) (fun C X hi0 => ?_)
  show zG C V 0 0 0 [(0, .ref b), (1, .int (zI (p))), (2, .int (zI (x)))] []
  refine zr_aload_n X 1 0 dX2_exchange_0 rfl rfl ?_
  refine zr_iload_n X 2 1 dX2_exchange_1 rfl rfl ?_
  refine zr_callV (kc' := 0) (ks' := 0) X 5 1 (m_X2_at l Γ (k := p) hb hg hn (by omega)) gX2_exchange_X2_at rfl (by decide +kernel) rfl (by decide) hb rfl rfl (Nat.le_of_ble_eq_true rfl) dX2_exchange_2 rfl (by omega) (by omega) (fun rv1 V2 hp3 => ?_)
  rw [hp3.1, hp3.2]
  rw [if_pos (show (0 : Int) ≤ p ∧ p < len by omega)]
  show zG C V 0 0 5 [(0, .ref b), (1, .int (zI (p))), (2, .int (zI (x)))] [.int (zI (f p.toNat))]
  refine zr_istore_n X 6 [(3, .int (zI (f p.toNat))), (0, .ref b), (1, .int (zI (p))), (2, .int (zI (x)))] dX2_exchange_5 rfl (by decide) rfl ?_
  refine zr_iload_n X 7 2 dX2_exchange_6 rfl rfl ?_
  refine zr_if_lt X 27 10 dX2_exchange_7 rfl rfl (by omega) (fun bq4 => ?_) (fun bq4 => ?_)
  · refine zr_iload_n X 28 0 dX2_exchange_27 rfl rfl ?_
    exact zr_iret X rfl (by exfalso; omega) dX2_exchange_28
  · refine zr_iload_n X 11 2 dX2_exchange_10 rfl rfl ?_
    refine zr_aload_n X 12 1 dX2_exchange_11 rfl rfl ?_
    refine zr_get X 15 4 0 hb rfl iX2 (by decide) w0 rfl rfl dX2_exchange_12 rfl ?_
    refine zr_alen X 16 1 hg (by decide) dX2_exchange_15 rfl ?_
    refine zr_icmp_ge X 27 19 dX2_exchange_16 rfl rfl (by omega) (by omega) (fun bq5 => ?_) (fun bq5 => ?_)
    · refine zr_iload_n X 28 0 dX2_exchange_27 rfl rfl ?_
      exact zr_iret X rfl (by exfalso; omega) dX2_exchange_28
    · refine zr_aload_n X 20 1 dX2_exchange_19 rfl rfl ?_
      refine zr_get X 23 4 0 hb rfl iX2 (by decide) w0 rfl rfl dX2_exchange_20 rfl ?_
      refine zr_iload_n X 24 2 dX2_exchange_23 rfl rfl ?_
      refine zr_iload_n X 25 3 dX2_exchange_24 rfl rfl ?_
      refine zr_i2cI X 26 dX2_exchange_25 rfl (by omega) ?_
      refine zr_cast X 27 hg (by omega) (by omega) dX2_exchange_26 rfl ?_
      refine zr_iload_n X 28 0 dX2_exchange_27 rfl rfl ?_
      exact zr_iret X rfl ⟨rfl, rfl⟩ dX2_exchange_28
/-- what stands at o (and, of signs, at r) is a text of m signs, h the sign at each place -/
def zTx (Γ : zGam) (V : zV) (o r : Nat) (m : Int) (h : Int → Int) : Prop :=
  (∃ (to tr n : Nat) (st cap lim pos mk : Int) (f : Nat → Int), V o = some (to, .inr (6, [.ref r, .int (zI st), .int (zI cap), .int (zI lim), .int (zI pos), .int (zI mk)])) ∧ V r = some (tr, za Γ.2.1 1 n f) ∧ zWb st cap lim pos mk n ∧ zc f ∧ m = lim - pos ∧ h = fun k => f (st + pos + k).toNat) ∨
  (∃ (to tr n : Nat) (f : Nat → Int), V o = some (to, .inr (4, [.ref r, .int (zI m)])) ∧ V r = some (tr, za Γ.2.1 1 n f) ∧ (0 ≤ m ∧ m ≤ n ∧ n ≤ 1000) ∧ zc f ∧ h = fun k => f k.toNat)
theorem zTx.rg {Γ : zGam} {V : zV} {o r : Nat} {m : Int} {h : Int → Int} (hT : zTx Γ V o r m h) : 0 ≤ m ∧ m ≤ 1000 ∧ ∀ k, 0 ≤ h k ∧ h k ≤ 255 := by
  rcases hT with ⟨to, tr, n, st, cap, lim, pos, mk, f, h1, h2, h3, h4, h5, h6⟩ | ⟨to, tr, n, f, h1, h2, h3, h4, h5⟩
  · obtain ⟨b1, b2, b3, b4, b5, b6, b7, b8⟩ := h3
    exact ⟨by omega, by omega, fun k => by rw [h6]; exact h4 _⟩
  · exact ⟨by omega, by omega, fun k => by rw [h5]; exact h4 _⟩
theorem zTx.kept {Γ : zGam} {V V' : zV} {o r : Nat} {m : Int} {h : Int → Int} (hT : zTx Γ V o r m h) (h1 : V' o = V o) (h2 : V' r = V r) : zTx Γ V' o r m h := by
  unfold zTx
  rw [h1, h2]
  exact hT
theorem zTx_if {m : Int} {h : Int → Int} (hh : ∀ k, 0 ≤ h k ∧ h k ≤ 255) (k : Int) : ∃ x : Int, (if 0 ≤ k ∧ k < m then h k else -9) = x ∧ -9 ≤ x ∧ x ≤ 255 ∧ (0 ≤ x → 0 ≤ k ∧ k < m) := by
  have h1 := hh k
  by_cases c : 0 ≤ k ∧ k < m
  · exact ⟨h k, if_pos c, by omega, by omega, fun _ => c⟩
  · exact ⟨-9, if_neg c, by omega, by omega, fun h => by omega⟩
section ZTX
variable {C : zC} {l0 : Launch} {Γ0 : zGam} {n0 : Nat} {own : String} {cc : ByteArray} {ws : List Cond} {d : Nat} {ret : Option FieldType} {Post : Option Value → zV → Prop} {V : zV} {kc ks pc : Nat} {lv : List (Nat × Value)} {rest : List Value}
theorem zr_txSize (X : zK C l0 Γ0 n0 own cc ws d ret Post) (n' : Nat) {index o r : Nat} {m : Int} {h : Int → Int} (hT : zTx Γ0 V o r m h) (g5 : GoodIn ws (va_wsU own index RX5 "Sashwords$Text" ⟨"Sashwords$Text", "size", "()I"⟩ yX5_size wsX5_size)) (g2 : GoodIn ws (va_wsU own index RX2 "Sashwords$Text" ⟨"Sashwords$Text", "size", "()I"⟩ yX2_size wsX2_size)) (hd : 2 ≤ d) (hcat : (rest.map fun v => v.category).sum ≤ 8) (hdg : decode cc pc = .ok (.invokevirtual index, 3)) (hn : pc + 3 = n') (kk : zG C V kc ks n' lv (.int (zI m) :: rest)) : zG C V kc ks pc lv (.ref o :: rest) := by
  rcases hT with ⟨to, tr, n, st, cap, lim, pos, mk, f, h1, h2, h3, h4, h5, h6⟩ | ⟨to, tr, n, f, h1, h2, h3, h4, h5⟩
  · obtain ⟨b1, b2, b3, b4, b5, b6, b7, b8⟩ := h3
    refine zr_callU (kc' := kc) (ks' := ks) X n' 0 (m_X5_size l0 Γ0 h1 (by omega)) g5 rfl (by decide) (by decide +kernel) rfl (by omega) h1 rfl rfl hcat hdg hn (by omega) (by omega) (fun rv V1 hp => ?_)
    rw [hp.1, hp.2, ← h5]
    exact kk
  · refine zr_callU (kc' := kc) (ks' := ks) X n' 0 (m_X2_size l0 Γ0 h1) g2 rfl (by decide) (by decide +kernel) rfl (by omega) h1 rfl rfl hcat hdg hn (by omega) (by omega) (fun rv V1 hp => ?_)
    rw [hp.1, hp.2]
    exact kk
theorem zr_txAt (X : zK C l0 Γ0 n0 own cc ws d ret Post) (n' : Nat) {index o r : Nat} {m k : Int} {h : Int → Int} (hT : zTx Γ0 V o r m h) (hk : -2147483648 ≤ k ∧ k ≤ 2147483647) (g5 : GoodIn ws (va_wsU own index RX5 "Sashwords$Text" ⟨"Sashwords$Text", "at", "(I)I"⟩ yX5_at wsX5_at)) (g2 : GoodIn ws (va_wsU own index RX2 "Sashwords$Text" ⟨"Sashwords$Text", "at", "(I)I"⟩ yX2_at wsX2_at)) (hd : 3 ≤ d) (hcat : (rest.map fun v => v.category).sum ≤ 8) (hdg : decode cc pc = .ok (.invokevirtual index, 3)) (hn : pc + 3 = n') (kk : zG C V kc ks n' lv (.int (zI (if 0 ≤ k ∧ k < m then h k else -9)) :: rest)) : zG C V kc ks pc lv (.int (zI k) :: .ref o :: rest) := by
  rcases hT with ⟨to, tr, n, st, cap, lim, pos, mk, f, h1, h2, h3, h4, h5, h6⟩ | ⟨to, tr, n, f, h1, h2, h3, h4, h5⟩
  · refine zr_callU (As := [.int (zI k)]) (kc' := kc) (ks' := ks) X n' 1 (m_X5_at l0 Γ0 (k := k) h1 h2 h3 hk) g5 rfl (by decide) (by decide +kernel) rfl (by omega) h1 rfl rfl hcat hdg hn (by omega) (by omega) (fun rv V1 hp => ?_)
    rw [hp.1, hp.2]
    rw [h5, h6] at kk
    exact kk
  · refine zr_callU (As := [.int (zI k)]) (kc' := kc) (ks' := ks) X n' 1 (m_X2_at l0 Γ0 (k := k) h1 h2 h3 hk) g2 rfl (by decide) (by decide +kernel) rfl (by omega) h1 rfl rfl hcat hdg hn (by omega) (by omega) (fun rv V1 hp => ?_)
    rw [hp.1, hp.2]
    rw [h5] at kk
    exact kk
end ZTX
theorem zr_acmp_eq {C : zC} {l0 : Launch} {Γ0 : zGam} {n0 : Nat} {own : String} {cc : ByteArray} {ws : List Cond} {d : Nat} {ret : Option FieldType} {Post : Option Value → zV → Prop} {V : zV} {kc ks pc : Nat} {lv : List (Nat × Value)} {rest : List Value} (X : zK C l0 Γ0 n0 own cc ws d ret Post) (n1 n2 : Nat) {off : Int} {x y : Nat} (hdg : decode cc pc = .ok (.if_acmp .eq off, 3)) (ht : (pc : Int) + off = (n1 : Int)) (hn : pc + 3 = n2) (kt : x = y → zG C V kc ks n1 lv rest) (kf : ¬ x = y → zG C V kc ks n2 lv rest) : zG C V kc ks pc lv (.ref y :: .ref x :: rest) := by
  obtain ⟨⟨p, l, e, R, s, m, args, below, meth, c⟩, Γ, ⟨nL, mc, ms⟩, Q⟩ := C
  subst hn
  intro H locs cells slots ls hV hS hl hc hs
  exact lv_acmp_eq (rx := some x) (ry := some y) X.1 X.2.1 hdg ht (fun h => kt (Option.some.inj h) H locs cells slots ls hV hS hl hc hs) (fun h => kf (fun q => h (congrArg some q)) H locs cells slots ls hV hS hl hc hs)
theorem zswp {V : zV} {g b tg tb : Nat} {x y z : va_E} (hbg : b ≠ g) : zu (zu (zu V b tb y) g tg x) b tb z = zu (zu V g tg x) b tb z := by
  rw [zu_swap V hbg, zu_zu]
set_option maxRecDepth 100000 in
set_option maxHeartbeats 4000000 in
theorem m_X2_becomeText_eq (l : Launch) (Γ : zGam) {V : zV} {b g tb : Nat} {len : Int} (hb : V b = some (tb, .inr (4, [.ref g, .int (zI len)]))) : zM l Γ 5 yX2_becomeText wsX2_becomeText 0 0 V [.ref b, .ref b] (fun rv V' => rv = none ∧ V' = V) := by
  refine zM_of (cc := cX2_becomeText) (nL := 2) (ret := none) (own := RX2) (by decide +kernel) rfl rfl (Nat.le_of_ble_eq_true rfl) (fun C X hi0 => ?_)
  show zG C V 0 0 0 [(0, .ref b), (1, .ref b)] []
  refine zr_aload_n X 1 1 dX2_becomeText_0 rfl rfl ?_
  refine zr_aload_n X 2 0 dX2_becomeText_1 rfl rfl ?_
  refine zr_acmp_eq X 14 5 dX2_becomeText_2 rfl rfl (fun bq1 => ?_) (fun bq1 => ?_)
  · skip
    exact zr_vret X rfl ⟨rfl, rfl⟩ dX2_becomeText_14
  · exact absurd rfl bq1
theorem zc_zf2 {f : Nat → Int} (h : zc f) {x : Int} (hx : 0 ≤ x ∧ x ≤ 255) {i : Nat} (j : Nat) : 0 ≤ zf f i x j ∧ zf f i x j ≤ 255 := zc_zf h hx j
set_option maxRecDepth 100000 in
set_option maxHeartbeats 4000000 in
theorem m_X2_takeFirst (l : Launch) (Γ : zGam) {V : zV} {b g tb tg n : Nat} {len : Int} {f : Nat → Int} (hb : V b = some (tb, .inr (4, [.ref g, .int (zI len)]))) (hg : V g = some (tg, za Γ.2.1 1 n f)) (hn : 0 ≤ len ∧ len ≤ n ∧ n ≤ 1000) (hc : zc f) (hlt : 0 < len) : zM l Γ 3 yX2_takeFirst wsX2_takeFirst 0 0 V [.ref b] (fun rv V' => rv = some (.int (zI (f 0))) ∧ ∃ f', zc f' ∧ V' = zu (zu V g tg (za Γ.2.1 1 n f')) b tb (.inr (4, [.ref g, .int (zI (len - 1))]))) := by
  have w0 : Cond.fieldLink RX2 21 "Sashwords$Script" "length" "I" ∈ wsX2_takeFirst := by decide +kernel
  have iX2 : ∀ w ∈ u_ws RX2 TX2 2, w ∈ wsX2_takeFirst := by decide +kernel
  have w2 : Cond.methodLink RX2 9 Lib.Math.max.name ∈ wsX2_takeFirst := by decide +kernel
  have w3 : Cond.static Lib.Math.max.name ∈ wsX2_takeFirst := by decide +kernel
  have w4 : Cond.initialized "java/lang/Math" ∈ wsX2_takeFirst := by decide +kernel
  have w5 : Cond.code Lib.Math.max.name Lib.Math.max.code 2 (some .int) ∈ wsX2_takeFirst := by decide +kernel
  refine zM_of (cc := cX2_takeFirst) (nL := 3) (ret := (some .int)) (own := RX2) (by decide +kernel) rfl rfl (Nat.le_of_ble_eq_true rfl) (fun C X hi0 => ?_)
  show zG C V 0 0 0 [(0, .ref b)] []
  refine zr_aload_n X 1 0 dX2_takeFirst_0 rfl rfl ?_
  refine zr_iconst X 2 dX2_takeFirst_1 rfl ?_
  refine zr_callV (kc' := 0) (ks' := 0) X 5 1 (m_X2_at l Γ (k := 0) hb hg hn (by omega)) gX2_takeFirst_X2_at rfl (by decide +kernel) rfl (by decide) hb rfl rfl (Nat.le_of_ble_eq_true rfl) dX2_takeFirst_2 rfl (by omega) (by omega) (fun rv1 V2 hp3 => ?_)
  rw [hp3.1, hp3.2]
  rw [if_pos (show (0 : Int) ≤ 0 ∧ 0 < len by omega)]
  show zG C V 0 0 5 [(0, .ref b)] [.int (zI (f (0 : Int).toNat))]
  refine zr_istore_n X 6 [(1, .int (zI (f (0 : Int).toNat))), (0, .ref b)] dX2_takeFirst_5 rfl (by decide) rfl ?_
  refine zr_iconst X 7 dX2_takeFirst_6 rfl ?_
  refine zr_istore_n X 8 [(2, .int (zI (1))), (1, .int (zI (f (0 : Int).toNat))), (0, .ref b)] dX2_takeFirst_7 rfl (by decide) rfl ?_
  refine zr_view (V' := zu V g tg (za Γ.2.1 1 n f)) (zu_id hg).symm ?_
  have loop : ∀ (N : Nat) (f1 : Nat → Int) (k : Int), zc f1 ∧ 1 ≤ k ∧ k ≤ len → (len - k).toNat = N → zG C (zu V g tg (za Γ.2.1 1 n f1)) 0 0 8 [(2, .int (zI (k))), (1, .int (zI ((f 0)))), (0, .ref b)] [] := by
    intro N
    induction N using Nat.strongRecOn with
    | _ N ih =>
    intro f1 k hI hN
    obtain ⟨hI1, hI2, hI3⟩ := id hI
    refine zr_iload_n X 9 0 dX2_takeFirst_8 rfl rfl ?_
    refine zr_aload_n X 10 2 dX2_takeFirst_9 rfl rfl ?_
    refine zr_get X 13 4 1 ((zu_ne (zne_oa hb hg)).trans hb) rfl iX2 (by decide) w0 rfl rfl dX2_takeFirst_10 rfl ?_
    refine zr_icmp_ge X 35 16 dX2_takeFirst_13 rfl rfl (by omega) (by omega) (fun bq4 => ?_) (fun bq4 => ?_)
    · refine zr_aload_n X 36 2 dX2_takeFirst_35 rfl rfl ?_
      refine zr_aload_n X 37 2 dX2_takeFirst_36 rfl rfl ?_
      refine zr_get X 40 4 1 ((zu_ne (zne_oa hb hg)).trans hb) rfl iX2 (by decide) w0 rfl rfl dX2_takeFirst_37 rfl ?_
      refine zr_iconst X 41 dX2_takeFirst_40 rfl ?_
      refine zr_isub X 42 dX2_takeFirst_41 rfl ?_
      refine zr_iconst X 43 dX2_takeFirst_42 rfl ?_
      refine zr_mmax X 46 (len - 1) w2 w3 w4 w5 (by decide) (Nat.le_of_ble_eq_true rfl) (by omega) (by omega) (by split <;> omega) dX2_takeFirst_43 rfl ?_
      refine zr_put X 49 4 1 [.ref g, .int (zI (len - 1))] tyX2 ((zu_ne (zne_oa hb hg)).trans hb) rfl iX2 tyX2_ok nmX2 (by decide) w0 rfl rfl rfl rfl (Nat.le_of_ble_eq_true rfl) rfl dX2_takeFirst_46 rfl ?_
      refine zr_iload_n X 50 1 dX2_takeFirst_49 rfl rfl ?_
      exact zr_iret X rfl ⟨rfl, f1, hI1, rfl⟩ dX2_takeFirst_50
    · refine zr_aload_n X 17 2 dX2_takeFirst_16 rfl rfl ?_
      refine zr_iload_n X 18 0 dX2_takeFirst_17 rfl rfl ?_
      refine zr_iconst X 19 dX2_takeFirst_18 rfl ?_
      refine zr_isub X 20 dX2_takeFirst_19 rfl ?_
      refine zr_aload_n X 21 2 dX2_takeFirst_20 rfl rfl ?_
      refine zr_iload_n X 22 0 dX2_takeFirst_21 rfl rfl ?_
      refine zr_callV (kc' := 0) (ks' := 0) X 25 1 (m_X2_at l Γ (k := k) ((zu_ne (zne_oa hb hg)).trans hb) (zu_eq _ _ _ _) hn (by omega)) gX2_takeFirst_X2_at rfl (by decide +kernel) rfl (by decide) ((zu_ne (zne_oa hb hg)).trans hb) rfl rfl (Nat.le_of_ble_eq_true rfl) dX2_takeFirst_22 rfl (by omega) (by omega) (fun rv5 V6 hp7 => ?_)
      rw [hp7.1, hp7.2]
      rw [if_pos (show (0 : Int) ≤ k ∧ k < len by omega)]
      show zG C (zu V g tg (za Γ.2.1 1 n f1)) 0 0 25 [(2, .int (zI (k))), (1, .int (zI ((f 0)))), (0, .ref b)] [.int (zI (f1 k.toNat)), .int (zI (k - 1)), .ref b]
      refine zr_callV (kc' := 0) (ks' := 0) X 28 2 (m_X2_exchange l Γ (p := k - 1) (x := f1 k.toNat) ((zu_ne (zne_oa hb hg)).trans hb) (zu_eq _ _ _ _) (by omega) (hI1 _) (by omega)) gX2_takeFirst_X2_exchange rfl (by decide +kernel) rfl (by decide) ((zu_ne (zne_oa hb hg)).trans hb) rfl rfl (Nat.le_of_ble_eq_true rfl) dX2_takeFirst_25 rfl (by omega) (by omega) (fun rv8 V9 hp10 => ?_)
      rw [hp10.1, hp10.2]
      rw [zu_zu]
      show zG C (zu V g tg (za Γ.2.1 1 n (zf f1 (k - 1).toNat (f1 k.toNat)))) 0 0 28 [(2, .int (zI (k))), (1, .int (zI ((f 0)))), (0, .ref b)] [.int (zI (f1 (k - 1).toNat))]
      refine zr_pop X 29 dX2_takeFirst_28 rfl rfl ?_
      refine zr_iinc X 32 0 [(2, .int (zI (k + 1))), (1, .int (zI ((f 0)))), (0, .ref b)] dX2_takeFirst_29 rfl rfl (by decide) rfl ?_
      refine zr_goto X 8 dX2_takeFirst_32 rfl ?_
      exact ih _ (by omega) (zf f1 (k - 1).toNat (f1 k.toNat)) (k + 1) ⟨zc_zf hI1 (hI1 _), by omega, by omega⟩ rfl
  exact loop _ f 1 ⟨hc, by omega, by omega⟩ rfl
/-! contents: what the loops over rows make, exactly -/
def zap (f : Nat → Int) (len m : Int) (h : Int → Int) : Nat → Int := fun j => if len ≤ (j : Int) ∧ (j : Int) < len + m then h ((j : Int) - len) else f j
theorem zap_0 {f : Nat → Int} {len : Int} {h : Int → Int} : zap f len 0 h = f := by
  funext j
  unfold zap
  rw [if_neg (by omega)]
theorem zap_step {f : Nat → Int} {len k : Int} {h : Int → Int} (h0 : 0 ≤ len ∧ 0 ≤ k) : zf (zap f len k h) (len + k).toNat (h k) = zap f len (k + 1) h := by
  funext j
  unfold zf zap
  by_cases e : j = (len + k).toNat
  · rw [if_pos e, if_pos (by omega)]
    congr 1
    omega
  · rw [if_neg e]
    by_cases c : len ≤ (j : Int) ∧ (j : Int) < len + k
    · rw [if_pos c, if_pos (by omega)]
    · rw [if_neg c, if_neg (by omega)]
def zmv (f : Nat → Int) (st k pos : Int) : Nat → Int := fun j => if st ≤ (j : Int) ∧ (j : Int) < st + k then f (j + pos.toNat) else f j
theorem zmv_0 {f : Nat → Int} {st pos : Int} : zmv f st 0 pos = f := by
  funext j
  unfold zmv
  rw [if_neg (by omega)]
theorem zmv_step {f : Nat → Int} {st k pos : Int} (h0 : 0 ≤ st ∧ 0 ≤ k ∧ 0 ≤ pos) : zf (zmv f st k pos) (st + k).toNat (zmv f st k pos (st + pos + k).toNat) = zmv f st (k + 1) pos := by
  funext j
  unfold zf zmv
  by_cases e : j = (st + k).toNat
  · rw [if_pos e, if_neg (by omega), if_pos (by omega)]
    congr 1
    omega
  · rw [if_neg e]
    by_cases c : st ≤ (j : Int) ∧ (j : Int) < st + k
    · rw [if_pos c, if_pos (by omega)]
    · rw [if_neg c, if_neg (by omega)]
def zrv (f : Nat → Int) (len k : Int) : Nat → Int := fun j => if (j : Int) < len ∧ ((j : Int) < k ∨ len - k ≤ (j : Int)) then f (len - 1 - (j : Int)).toNat else f j
theorem zrv_0 {f : Nat → Int} {len : Int} : zrv f len 0 = f := by
  funext j
  unfold zrv
  rw [if_neg (by omega)]
theorem zrv_step {f : Nat → Int} {len k : Int} (h0 : 0 ≤ k ∧ k < len / 2 ∧ 0 ≤ len) : zf (zf (zrv f len k) k.toNat (zrv f len k (len - 1 - k).toNat)) (len - 1 - k).toNat (zrv f len k k.toNat) = zrv f len (k + 1) := by
  funext j
  by_cases e : j = (len - 1 - k).toNat
  · unfold zf zrv
    rw [if_pos e, if_neg (by omega), if_pos (by omega)]
    congr 1
    omega
  · by_cases e2 : j = k.toNat
    · unfold zf zrv
      rw [if_neg e, if_pos e2, if_neg (by omega), if_pos (by omega)]
      congr 1
      omega
    · unfold zf zrv
      rw [if_neg e, if_neg e2]
      by_cases c : (j : Int) < len ∧ ((j : Int) < k ∨ len - k ≤ (j : Int))
      · rw [if_pos c, if_pos (by omega)]
      · rw [if_neg c, if_neg (by omega)]
theorem zrv_end {f : Nat → Int} {len : Int} {k : Int} (hk : k = len / 2) {j : Nat} (hj : (j : Int) < len) : zrv f len k j = f (len - 1 - (j : Int)).toNat := by
  unfold zrv
  by_cases c : (j : Int) < len ∧ ((j : Int) < k ∨ len - k ≤ (j : Int))
  · rw [if_pos c]
  · rw [if_neg c]
    congr 1
    omega
theorem zap_zc {f : Nat → Int} {len m : Int} {h : Int → Int} (hc : zc f) (hh : ∀ k, 0 ≤ h k ∧ h k ≤ 255) : zc (zap f len m h) := fun j => by
  unfold zap
  split
  · exact hh _
  · exact hc j
set_option maxRecDepth 100000 in
set_option maxHeartbeats 4000000 in
theorem m_X2_append (l : Launch) (Γ : zGam) {V : zV} {b g tb tg n : Nat} {len : Int} {f : Nat → Int} {o r : Nat} {m : Int} {h : Int → Int} (hb : V b = some (tb, .inr (4, [.ref g, .int (zI len)]))) (hg : V g = some (tg, za Γ.2.1 1 n f)) (hn : 0 ≤ len ∧ len ≤ n ∧ n ≤ 1000) (hT : zTx Γ V o r m h) (hob : o ≠ b) (hog : o ≠ g) (hrb : r ≠ b) (hrg : r ≠ g) (hm : len + m ≤ n) (hc : zc f) : zM l Γ 4 yX2_append wsX2_append 0 0 V [.ref b, .ref o] (fun rv V' => rv = none ∧ V' = zu (zu V g tg (za Γ.2.1 1 n (zap f len m h))) b tb (.inr (4, [.ref g, .int (zI (len + m))]))) := by
  have hTr := hT.rg
  have hbg : b ≠ g := zne_oa hb hg
  have hrg2 : ∀ k, 0 ≤ h k ∧ h k ≤ 255 := hTr.2.2
  refine zM_of (cc := cX2_append) (nL := 4) (ret := none) (own := RX2) (by decide +kernel) rfl rfl (Nat.le_of_ble_eq_true rfl) (fun C X hi0 => ?_)
  show zG C V 0 0 0 [(0, .ref b), (1, .ref o)] []
  refine zr_aload_n X 1 1 dX2_append_0 rfl rfl ?_
  refine zr_txSize X 4 hT gX2_append_X5_size_u25X5 gX2_append_X2_size_u25X2 (by decide) (Nat.le_of_ble_eq_true rfl) dX2_append_1 rfl ?_
  refine zr_istore_n X 5 [(2, .int (zI (m))), (0, .ref b), (1, .ref o)] dX2_append_4 rfl (by decide) rfl ?_
  refine zr_iconst X 6 dX2_append_5 rfl ?_
  refine zr_istore_n X 7 [(3, .int (zI (0))), (2, .int (zI (m))), (0, .ref b), (1, .ref o)] dX2_append_6 rfl (by decide) rfl ?_
  refine zr_view (V' := zu (zu V g tg (za Γ.2.1 1 n (zap f len 0 h))) b tb (.inr (4, [.ref g, .int (zI (len + 0))]))) (by rw [zap_0, zu_id hg, Int.add_zero, zu_id hb]) ?_
  refine zr_sub [0, 1, 3, 2] [(3, .int (zI (0))), (2, .int (zI (m))), (1, .ref o), (0, .ref b)] rfl ?_
  have loop : ∀ (N : Nat) (k : Int), 0 ≤ k ∧ k ≤ m → (m - k).toNat = N → zG C (zu (zu V g tg (za Γ.2.1 1 n (zap f len k h))) b tb (.inr (4, [.ref g, .int (zI (len + k))]))) 0 0 7 [(3, .int (zI (k))), (2, .int (zI (m))), (1, .ref o), (0, .ref b)] [] := by
    intro N
    induction N using Nat.strongRecOn with
    | _ N ih =>
    intro k hI hN
    obtain ⟨hI2, hI3⟩ := id hI
    refine zr_iload_n X 8 0 dX2_append_7 rfl rfl ?_
    refine zr_iload_n X 9 1 dX2_append_8 rfl rfl ?_
    refine zr_icmp_ge X 27 12 dX2_append_9 rfl rfl (by omega) (by omega) (fun bq1 => ?_) (fun bq1 => ?_)
    · exact zr_vret X rfl ⟨rfl, by rw [show k = m by omega]⟩ dX2_append_27
    · refine zr_aload_n X 13 3 dX2_append_12 rfl rfl ?_
      refine zr_aload_n X 14 2 dX2_append_13 rfl rfl ?_
      refine zr_iload_n X 15 0 dX2_append_14 rfl rfl ?_
      refine zr_txAt X 18 (hT.kept (by simp [zu, hob, hog]) (by simp [zu, hrb, hrg])) (by omega) gX2_append_X5_at_u29X5 gX2_append_X2_at_u29X2 (by decide) (Nat.le_of_ble_eq_true rfl) dX2_append_15 rfl ?_
      rw [if_pos (show 0 ≤ k ∧ k < m by omega)]
      have hx2 := hTr.2.2 k
      show zG C (zu (zu V g tg (za Γ.2.1 1 n (zap f len k h))) b tb (.inr (4, [.ref g, .int (zI (len + k))]))) 0 0 18 [(3, .int (zI (k))), (2, .int (zI (m))), (1, .ref o), (0, .ref b)] [.int (zI (h k)), .ref b]
      refine zr_callV (kc' := 0) (ks' := 0) X 21 1 (m_X2_add l Γ (x := h k) (zu_eq _ _ _ _) ((zu_ne (Ne.symm (zne_oa hb hg))).trans (zu_eq _ _ _ _)) (by omega) (hTr.2.2 _) (by omega)) gX2_append_X2_add rfl (by decide +kernel) rfl (by decide) (zu_eq _ _ _ _) rfl rfl (Nat.le_of_ble_eq_true rfl) dX2_append_18 rfl (by omega) (by omega) (fun rv3 V4 hp5 => ?_)
      rw [hp5.1, hp5.2]
      show zG C (zu (zu (zu (zu V g tg (za Γ.2.1 1 n (zap f len k h))) b tb (.inr (4, [.ref g, .int (zI (len + k))]))) g tg (za Γ.2.1 1 n (zf (zap f len k h) (len + k).toNat (h k)))) b tb (.inr (4, [.ref g, .int (zI ((len + k) + 1))]))) 0 0 21 [(3, .int (zI (k))), (2, .int (zI (m))), (1, .ref o), (0, .ref b)] []
      refine zr_iinc X 24 0 [(3, .int (zI (k + 1))), (2, .int (zI (m))), (1, .ref o), (0, .ref b)] dX2_append_21 rfl rfl (by decide) rfl ?_
      refine zr_goto X 7 dX2_append_24 rfl ?_
      refine zr_view (V' := (zu (zu V g tg (za Γ.2.1 1 n (zf (zap f len k h) (len + k).toNat (h k)))) b tb (.inr (4, [.ref g, .int (zI (len + (k + 1)))])))) (by
          funext z
          simp only [zu]
          by_cases e0 : z = g
          · subst e0; simp [hbg, Ne.symm hbg, Int.add_assoc]
          by_cases e1 : z = b
          · subst e1; simp [hbg, Ne.symm hbg, Int.add_assoc]
          simp [e0, e1]) ?_
      rw [zap_step ⟨by omega, by omega⟩]
      exact ih _ (by omega) (k + 1) ⟨by omega, by omega⟩ rfl
  exact loop _ 0 ⟨by omega, by omega⟩ rfl
set_option maxRecDepth 100000 in
set_option maxHeartbeats 4000000 in
theorem m_X2_becomeText (l : Launch) (Γ : zGam) {V : zV} {b g tb tg n : Nat} {len : Int} {f : Nat → Int} {o r : Nat} {m : Int} {h : Int → Int} (hb : V b = some (tb, .inr (4, [.ref g, .int (zI len)]))) (hg : V g = some (tg, za Γ.2.1 1 n f)) (hn : 0 ≤ len ∧ len ≤ n ∧ n ≤ 1000) (hT : zTx Γ V o r m h) (hob : o ≠ b) (hog : o ≠ g) (hrb : r ≠ b) (hrg : r ≠ g) (hm : m ≤ n) (hc : zc f) : zM l Γ 5 yX2_becomeText wsX2_becomeText 0 0 V [.ref b, .ref o] (fun rv V' => rv = none ∧ V' = zu (zu V g tg (za Γ.2.1 1 n (zap f 0 m h))) b tb (.inr (4, [.ref g, .int (zI m)]))) := by
  have hTr := hT.rg
  have hbg : b ≠ g := zne_oa hb hg
  refine zM_of (cc := cX2_becomeText) (nL := 2) (ret := none) (own := RX2) (by decide +kernel) rfl rfl (Nat.le_of_ble_eq_true rfl) (fun C X hi0 => ?_)
  show zG C V 0 0 0 [(0, .ref b), (1, .ref o)] []
  refine zr_aload_n X 1 1 dX2_becomeText_0 rfl rfl ?_
  refine zr_aload_n X 2 0 dX2_becomeText_1 rfl rfl ?_
  refine zr_acmp_eq X 14 5 dX2_becomeText_2 rfl rfl (fun bq1 => ?_) (fun bq1 => ?_)
  · exact absurd bq1 hob
  · skip
    refine zr_aload_n X 6 0 dX2_becomeText_5 rfl rfl ?_
    refine zr_callV (kc' := 0) (ks' := 0) X 9 0 (m_X2_clear l Γ hb) gX2_becomeText_X2_clear rfl (by decide +kernel) rfl (by decide) hb rfl rfl (Nat.le_of_ble_eq_true rfl) dX2_becomeText_6 rfl (by omega) (by omega) (fun rv2 V3 hp4 => ?_)
    rw [hp4.1, hp4.2]
    show zG C (zu V b tb (.inr (4, [.ref g, .int (zI (0))]))) 0 0 9 [(0, .ref b), (1, .ref o)] []
    refine zr_aload_n X 10 0 dX2_becomeText_9 rfl rfl ?_
    refine zr_aload_n X 11 1 dX2_becomeText_10 rfl rfl ?_
    refine zr_callV (kc' := 0) (ks' := 0) X 14 1 (m_X2_append l Γ (zu_eq _ _ _ _) ((zu_ne (Ne.symm (zne_oa hb hg))).trans hg) (by omega) (hT.kept (by simp [zu, hob]) (by simp [zu, hrb])) hob hog hrb hrg (by omega) hc) gX2_becomeText_X2_append rfl (by decide +kernel) rfl (by decide) (zu_eq _ _ _ _) rfl rfl (Nat.le_of_ble_eq_true rfl) dX2_becomeText_11 rfl (by omega) (by omega) (fun rv5 V6 hp7 => ?_)
    obtain ⟨e8, e8b⟩ := hp7
    rw [e8, e8b]
    show zG C (zu (zu (zu V b tb (.inr (4, [.ref g, .int (zI (0))]))) g tg (za Γ.2.1 1 n (zap f 0 m h))) b tb (.inr (4, [.ref g, .int (zI (0 + m))]))) 0 0 14 [(0, .ref b), (1, .ref o)] []
    exact zr_vret X rfl ⟨rfl, by rw [Int.zero_add]; exact zswp hbg⟩ dX2_becomeText_14
theorem zrv_zc {f : Nat → Int} {len k : Int} (hc : zc f) : zc (zrv f len k) := fun j => by
  unfold zrv
  split
  · exact hc _
  · exact hc _
theorem zmv_zc {f : Nat → Int} {st k pos : Int} (hc : zc f) : zc (zmv f st k pos) := fun j => by
  unfold zmv
  split
  · exact hc _
  · exact hc _
set_option maxRecDepth 100000 in
set_option maxHeartbeats 4000000 in
theorem m_X2_turnRound (l : Launch) (Γ : zGam) {V : zV} {b g tb tg n : Nat} {len : Int} {f : Nat → Int} (hb : V b = some (tb, .inr (4, [.ref g, .int (zI len)]))) (hg : V g = some (tg, za Γ.2.1 1 n f)) (hn : 0 ≤ len ∧ len ≤ n ∧ n ≤ 1000) (hc : zc f) : zM l Γ 2 yX2_turnRound wsX2_turnRound 0 0 V [.ref b] (fun rv V' => rv = none ∧ V' = zu V g tg (za Γ.2.1 1 n (zrv f len (len / 2)))) := by
  have w0 : Cond.fieldLink RX2 21 "Sashwords$Script" "length" "I" ∈ wsX2_turnRound := by decide +kernel
  have iX2 : ∀ w ∈ u_ws RX2 TX2 2, w ∈ wsX2_turnRound := by decide +kernel
  refine zM_of (cc := cX2_turnRound) (nL := 3) (ret := none) (own := RX2) (by decide +kernel) rfl rfl (Nat.le_of_ble_eq_true rfl) (fun C X hi0 => ?_)
  show zG C V 0 0 0 [(0, .ref b)] []
  refine zr_iconst X 1 dX2_turnRound_0 rfl ?_
  refine zr_istore_n X 2 [(1, .int (zI (0))), (0, .ref b)] dX2_turnRound_1 rfl (by decide) rfl ?_
  refine zr_view (V' := zu V g tg (za Γ.2.1 1 n (zrv f len 0))) (by rw [zrv_0]; exact (zu_id hg).symm) ?_
  have loop : ∀ (N : Nat) (k : Int), 0 ≤ k ∧ k ≤ len / 2 → (len / 2 - k).toNat = N → zG C (zu V g tg (za Γ.2.1 1 n (zrv f len k))) 0 0 2 [(1, .int (zI (k))), (0, .ref b)] [] := by
    intro N
    induction N using Nat.strongRecOn with
    | _ N ih =>
    intro k hI hN
    obtain ⟨hI2, hI3⟩ := id hI
    have hI1 : zc (zrv f len k) := zrv_zc hc
    refine zr_iload_n X 3 0 dX2_turnRound_2 rfl rfl ?_
    refine zr_aload_n X 4 1 dX2_turnRound_3 rfl rfl ?_
    refine zr_get X 7 4 1 ((zu_ne (zne_oa hb hg)).trans hb) rfl iX2 (by decide) w0 rfl rfl dX2_turnRound_4 rfl ?_
    refine zr_iconst X 8 dX2_turnRound_7 rfl ?_
    refine zr_idiv X 9 dX2_turnRound_8 rfl (by omega) (by omega) ?_
    refine zr_icmp_ge X 43 12 dX2_turnRound_9 rfl rfl (by omega) (by omega) (fun bq1 => ?_) (fun bq1 => ?_)
    · exact zr_vret X rfl ⟨rfl, by rw [show k = len / 2 by omega]⟩ dX2_turnRound_43
    · refine zr_aload_n X 13 1 dX2_turnRound_12 rfl rfl ?_
      refine zr_get X 16 4 1 ((zu_ne (zne_oa hb hg)).trans hb) rfl iX2 (by decide) w0 rfl rfl dX2_turnRound_13 rfl ?_
      refine zr_iconst X 17 dX2_turnRound_16 rfl ?_
      refine zr_isub X 18 dX2_turnRound_17 rfl ?_
      refine zr_iload_n X 19 0 dX2_turnRound_18 rfl rfl ?_
      refine zr_isub X 20 dX2_turnRound_19 rfl ?_
      refine zr_istore_n X 21 [(2, .int (zI ((len - 1) - k))), (1, .int (zI (k))), (0, .ref b)] dX2_turnRound_20 rfl (by decide) rfl ?_
      refine zr_aload_n X 22 2 dX2_turnRound_21 rfl rfl ?_
      refine zr_iload_n X 23 0 dX2_turnRound_22 rfl rfl ?_
      refine zr_aload_n X 24 2 dX2_turnRound_23 rfl rfl ?_
      refine zr_iload_n X 25 1 dX2_turnRound_24 rfl rfl ?_
      refine zr_aload_n X 26 2 dX2_turnRound_25 rfl rfl ?_
      refine zr_iload_n X 27 0 dX2_turnRound_26 rfl rfl ?_
      refine zr_callV (kc' := 0) (ks' := 0) X 30 1 (m_X2_at l Γ (k := (len - 1) - k) ((zu_ne (zne_oa hb hg)).trans hb) (zu_eq _ _ _ _) hn (by omega)) gX2_turnRound_X2_at rfl (by decide +kernel) rfl (by decide) ((zu_ne (zne_oa hb hg)).trans hb) rfl rfl (Nat.le_of_ble_eq_true rfl) dX2_turnRound_27 rfl (by omega) (by omega) (fun rv2 V3 hp4 => ?_)
      rw [hp4.1, hp4.2]
      rw [if_pos (show (0 : Int) ≤ ((len - 1) - k) ∧ ((len - 1) - k) < len by omega)]
      show zG C (zu V g tg (za Γ.2.1 1 n (zrv f len k))) 0 0 30 [(2, .int (zI ((len - 1) - k))), (1, .int (zI (k))), (0, .ref b)] [.int (zI ((zrv f len k) ((len - 1) - k).toNat)), .int (zI (k)), .ref b, .int (zI ((len - 1) - k)), .ref b]
      refine zr_callV (kc' := 0) (ks' := 0) X 33 2 (m_X2_exchange l Γ (p := k) (x := (zrv f len k) ((len - 1) - k).toNat) ((zu_ne (zne_oa hb hg)).trans hb) (zu_eq _ _ _ _) (by omega) (hI1 _) (by omega)) gX2_turnRound_X2_exchange rfl (by decide +kernel) rfl (by decide) ((zu_ne (zne_oa hb hg)).trans hb) rfl rfl (Nat.le_of_ble_eq_true rfl) dX2_turnRound_30 rfl (by omega) (by omega) (fun rv5 V6 hp7 => ?_)
      rw [hp7.1, hp7.2]
      rw [zu_zu]
      show zG C (zu V g tg (za Γ.2.1 1 n (zf (zrv f len k) k.toNat ((zrv f len k) ((len - 1) - k).toNat)))) 0 0 33 [(2, .int (zI ((len - 1) - k))), (1, .int (zI (k))), (0, .ref b)] [.int (zI ((zrv f len k) k.toNat)), .int (zI ((len - 1) - k)), .ref b]
      refine zr_callV (kc' := 0) (ks' := 0) X 36 2 (m_X2_exchange l Γ (p := (len - 1) - k) (x := (zrv f len k) k.toNat) ((zu_ne (zne_oa hb hg)).trans hb) (zu_eq _ _ _ _) (by omega) (hI1 _) (by omega)) gX2_turnRound_X2_exchange rfl (by decide +kernel) rfl (by decide) ((zu_ne (zne_oa hb hg)).trans hb) rfl rfl (Nat.le_of_ble_eq_true rfl) dX2_turnRound_33 rfl (by omega) (by omega) (fun rv8 V9 hp10 => ?_)
      rw [hp10.1, hp10.2]
      rw [zu_zu]
      show zG C (zu V g tg (za Γ.2.1 1 n (zf (zf (zrv f len k) k.toNat ((zrv f len k) ((len - 1) - k).toNat)) ((len - 1) - k).toNat ((zrv f len k) k.toNat)))) 0 0 36 [(2, .int (zI ((len - 1) - k))), (1, .int (zI (k))), (0, .ref b)] [.int (zI ((zf (zrv f len k) k.toNat ((zrv f len k) ((len - 1) - k).toNat)) ((len - 1) - k).toNat))]
      refine zr_pop X 37 dX2_turnRound_36 rfl rfl ?_
      refine zr_iinc X 40 1 [(1, .int (zI (k + 1))), (2, .int (zI ((len - 1) - k))), (0, .ref b)] dX2_turnRound_37 rfl rfl (by decide) rfl ?_
      refine zr_goto X 2 dX2_turnRound_40 rfl ?_
      refine zr_sub [0, 2] [(1, .int (zI (k + 1))), (0, .ref b)] rfl ?_
      rw [zrv_step (by omega)]
      exact ih _ (by omega) (k + 1) ⟨by omega, by omega⟩ rfl
  exact loop _ 0 ⟨by omega, by omega⟩ rfl
end
