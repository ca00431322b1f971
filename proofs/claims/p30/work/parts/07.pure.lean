/-! pure rows of views; Math.max and min -/
theorem zu_zu (V : zV) (a t t' : Nat) (e e' : va_E) : zu (zu V a t e) a t' e' = zu V a t' e' := by
  funext b
  unfold zu
  by_cases h : b = a <;> simp [h]
theorem zu_swap (V : zV) {a b : Nat} (h : a ≠ b) (t t' : Nat) (e e' : va_E) : zu (zu V a t e) b t' e' = zu (zu V b t' e') a t e := by
  funext c
  unfold zu
  by_cases h1 : c = b
  · subst h1
    simp [Ne.symm h]
  · simp [h1]
theorem zu_id {V : zV} {a t : Nat} {e : va_E} (h : V a = some (t, e)) : zu V a t e = V := by
  funext b
  unfold zu
  by_cases h1 : b = a
  · subst h1
    simp [h]
  · simp [h1]
theorem zne_new {V : zV} {a b : Nat} {x : Nat × va_E} (ha : V a = some x) (hb : V b = none) : a ≠ b := fun h => by
  rw [h, hb] at ha
  cases ha
theorem zne_tag {V : zV} {a b t t' : Nat} {x y : va_E} (ha : V a = some (t, x)) (hb : V b = some (t', y)) (ht : t ≠ t') : a ≠ b := fun h => by
  rw [h, hb] at ha
  cases ha
  exact ht rfl
theorem zne_oa {V : zV} {a b t t' k n : Nat} {o : Nat × List Value} {aC : Nat → ClassId} {f : Nat → Int} (ha : V a = some (t, .inr o)) (hb : V b = some (t', za aC k n f)) : a ≠ b := fun h => by
  rw [h, hb] at ha
  cases ha
theorem zne_oq {V : zV} {a b t t' k n : Nat} {o : Nat × List Value} {aC : Nat → ClassId} {f : Nat → Option Nat} (ha : V a = some (t, .inr o)) (hb : V b = some (t', zq aC k n f)) : a ≠ b := fun h => by
  rw [h, hb] at ha
  cases ha
theorem zne_oo {V : zV} {a b t t' ci ci' : Nat} {fs fs' : List Value} (ha : V a = some (t, .inr (ci, fs))) (hb : V b = some (t', .inr (ci', fs'))) (hc : ci ≠ ci') : a ≠ b := fun h => by
  rw [h, hb] at ha
  cases ha
  exact hc rfl
section ZR3
variable {C : zC} {l0 : Launch} {Γ0 : zGam} {n0 : Nat} {own : String} {cc : ByteArray} {ws : List Cond} {d : Nat} {ret : Option FieldType} {Post : Option Value → zV → Prop} {V : zV} {kc ks pc : Nat} {lv : List (Nat × Value)} {rest : List Value}
theorem zr_mmax (X : zK C l0 Γ0 n0 own cc ws d ret Post) (n' : Nat) {index : Nat} {x y : Int} (z : Int) (hlink : Cond.methodLink own index Lib.Math.max.name ∈ ws) (hst : Cond.static Lib.Math.max.name ∈ ws) (hin : Cond.initialized "java/lang/Math" ∈ ws) (hco : Cond.code Lib.Math.max.name Lib.Math.max.code 2 (some .int) ∈ ws) (hd : 1 ≤ d) (hcat : (rest.map fun v => v.category).sum ≤ 8)
    (hrx : -2147483648 ≤ x ∧ x ≤ 2147483647) (hry : -2147483648 ≤ y ∧ y ≤ 2147483647) (hz : z = if x < y then y else x) (hdg : decode cc pc = .ok (.invokestatic index, 3)) (hn : pc + 3 = n') (kk : zG C V kc ks n' lv (.int (zI z) :: rest)) : zG C V kc ks pc lv (.int (zI y) :: .int (zI x) :: rest) := by
  obtain ⟨⟨p, l, e, R, s, m, args, below, meth, c⟩, Γ, ⟨nL, mc, ms⟩, Q⟩ := C
  obtain ⟨hx, hb, hml, hown, hts, hO, hB0, hlk, hret, hmc, hms, hdf, hdl, hQ, rfl, rfl, rfl⟩ := X
  subst hn
  intro H locs cells slots ls hV hS hl hcc hs
  refine va_mmax hx hb (hml.trans hl.1.symm) hown (hts _ hlink) (hts _ hst) (hts _ hin) (hts _ hco) (by omega) (by omega) (by omega) (by omega) hdg ?_
  have e : (if zI x < zI y then zI y else zI x : Int32) = zI z := by
    subst hz
    by_cases h : x < y
    · rw [if_pos h, if_pos ((zI_lt (by omega) (by omega)).mpr h)]
    · rw [if_neg h, if_neg (fun q => h ((zI_lt (by omega) (by omega)).mp q))]
  rw [e]
  exact kk H locs cells slots ls hV hS hl hcc hs
theorem zr_mmin (X : zK C l0 Γ0 n0 own cc ws d ret Post) (n' : Nat) {index : Nat} {x y : Int} (z : Int) (hlink : Cond.methodLink own index Lib.Math.min.name ∈ ws) (hst : Cond.static Lib.Math.min.name ∈ ws) (hin : Cond.initialized "java/lang/Math" ∈ ws) (hco : Cond.code Lib.Math.min.name Lib.Math.min.code 2 (some .int) ∈ ws) (hd : 1 ≤ d) (hcat : (rest.map fun v => v.category).sum ≤ 8)
    (hrx : -2147483648 ≤ x ∧ x ≤ 2147483647) (hry : -2147483648 ≤ y ∧ y ≤ 2147483647) (hz : z = if y < x then y else x) (hdg : decode cc pc = .ok (.invokestatic index, 3)) (hn : pc + 3 = n') (kk : zG C V kc ks n' lv (.int (zI z) :: rest)) : zG C V kc ks pc lv (.int (zI y) :: .int (zI x) :: rest) := by
  obtain ⟨⟨p, l, e, R, s, m, args, below, meth, c⟩, Γ, ⟨nL, mc, ms⟩, Q⟩ := C
  obtain ⟨hx, hb, hml, hown, hts, hO, hB0, hlk, hret, hmc, hms, hdf, hdl, hQ, rfl, rfl, rfl⟩ := X
  subst hn
  intro H locs cells slots ls hV hS hl hcc hs
  refine va_mmin hx hb (hml.trans hl.1.symm) hown (hts _ hlink) (hts _ hst) (hts _ hin) (hts _ hco) (by omega) (by omega) (by omega) (by omega) hdg ?_
  have e : (if zI y < zI x then zI y else zI x : Int32) = zI z := by
    subst hz
    by_cases h : y < x
    · rw [if_pos h, if_pos ((zI_lt (by omega) (by omega)).mpr h)]
    · rw [if_neg h, if_neg (fun q => h ((zI_lt (by omega) (by omega)).mp q))]
  rw [e]
  exact kk H locs cells slots ls hV hS hl hcc hs
/-! private members of nest mates -/
theorem zr_getN (X : zK C l0 Γ0 n0 own cc ws d ret Post) (n' ci k i : Nat) {index a tg N : Nat} {fs : List Value} {C' ref host : String} {T : u_T} {v : Value} (hV : V a = some (tg, .inr (ci, fs))) (hc : vwCl[ci]? = some (C', T, N)) (hin : ∀ w ∈ u_ws C' T N, w ∈ ws) (hk : k < N) (hz : zxf[i]? = some (own, index, ref, (T k).2.1, (T k).2.2.1, host)) (hsame : ref = (T k).1) (hv : fs[k]? = some v) (hdg : decode cc pc = .ok (.getfield index, 3)) (hn : pc + 3 = n') (kk : zG C V kc ks n' lv (v :: rest)) : zG C V kc ks pc lv (.ref a :: rest) := by
  obtain ⟨⟨p, l, e, R, s, m, args, below, meth, c⟩, Γ, ⟨nL, mc, ms⟩, Q⟩ := C
  obtain ⟨hx, hb, hml, hown, hts, hO, hB0, hlk, hret, hmc, hms, hdf, hdl, hQ, rfl, rfl, rfl⟩ := X
  subst hn
  subst hsame
  have hVa := hV
  intro H locs cells slots ls hV hS hl hcc hs
  have hV0 := hV
  obtain ⟨W0, hL, hP, hD⟩ := hV
  obtain ⟨q0, hq⟩ := (hL _ _).mp (zd_of hVa)
  have hO1 := hO
  obtain ⟨-, -, -, -, -, -, -, -, o9, -⟩ := hO1
  have o9i := o9 (own, index, (T k).1, (T k).2.1, (T k).2.2.1, host) (List.mem_of_getElem? hz)
  try dsimp only at o9i
  exact va_getN hx hb hts hin hown hO.1 hP q0 hq hc k hk (va_Nw.use rfl o9i) (fun _ h9 => h9) hv hdg (kk H locs cells slots ls hV0 hS hl hcc hs)
theorem zr_putN (X : zK C l0 Γ0 n0 own cc ws d ret Post) (n' ci k i : Nat) (fs' : List Value) {index a tg N : Nat} {fs : List Value} {C' ref host : String} {T : u_T} {v : Value} (ty0 : Nat → FieldType) (hV : V a = some (tg, .inr (ci, fs))) (hc : vwCl[ci]? = some (C', T, N)) (hin : ∀ w ∈ u_ws C' T N, w ∈ ws) (hty : ∀ k, k < N → parseFieldDescriptor (T k).2.2.1 = some (ty0 k)) (hnm : ∀ a, a < N → ∀ b, b < N → a ≠ b → (T a).2.1 ≠ (T b).2.1) (hk : k < N) (hz : zxf[i]? = some (own, index, ref, (T k).2.1, (T k).2.2.1, host)) (hsame : ref = (T k).1) (hfin : (T k).2.2.2 = false) (hnw : narrow (ty0 k) v = v) (hfit : fits (ty0 k) v = true) (hl : k < fs.length) (hfs : fs.set k v = fs') (hdg : decode cc pc = .ok (.putfield index, 3)) (hn : pc + 3 = n') (kk : zG C (zu V a tg (.inr (ci, fs'))) kc ks n' lv rest) : zG C V kc ks pc lv (v :: .ref a :: rest) := by
  obtain ⟨⟨p, l, e, R, s, m, args, below, meth, c⟩, Γ, ⟨nL, mc, ms⟩, Q⟩ := C
  obtain ⟨hx, hb, hml, hown, hts, hO, hB0, hlk, hret, hmc, hms, hdf, hdl, hQ, rfl, rfl, rfl⟩ := X
  subst hn
  subst hsame
  subst hfs
  have hVa := hV
  intro H locs cells slots ls hV hS hl' hcc hs
  obtain ⟨W0, hL, hP, hD⟩ := hV
  obtain ⟨q0, hq⟩ := (hL _ _).mp (zd_of hVa)
  have hO1 := hO
  obtain ⟨-, -, -, -, -, -, -, -, o9, -⟩ := hO1
  have o9i := o9 (own, index, (T k).1, (T k).2.1, (T k).2.2.1, host) (List.mem_of_getElem? hz)
  try dsimp only at o9i
  exact va_putN hx hb hts hin ty0 hty hnm hown hO.1 hP hD hS q0 hq hc k hk (va_Nw.use rfl o9i) (fun _ h9 => h9) hfin (hty k hk) hnw hfit hl hdg (fun H1 locs1 hP1 hD1 hS1 => kk H1 locs1 cells slots ls ⟨_, by rw [zd_zu]; exact hL.set hD hq, hP1, hD1⟩ hS1 hl' hcc hs)
theorem zr_callIN (X : zK C l0 Γ0 n0 own cc ws d ret Post) (n' nA i : Nat) {index maxL d' mc' ms' b kc' ks' : Nat} {host : String} {y : MethodName} {bytes : ByteArray} {wsy wsy' : List Cond} {As : List Value} {P' : Option Value → zV → Prop} {st : List Value}
    (hM : zM l0 Γ0 d' y wsy mc' ms' V (.ref b :: As) P') (hT : GoodIn ws wsy) (hw : wsy = Cond.code y bytes maxL none :: wsy') (hini : Cond.initialized y.cls ∈ ws) (hz : zxm[i]? = some (own, index, y, host)) (hin : Cond.instanceMethod y ∈ ws) (hy1 : y.name = "<init>")
    (hd : y.cls ≠ "java/lang/invoke/MethodHandle" ∧ y.cls ≠ "java/lang/invoke/VarHandle" ∧ (parseMethodDescriptor y.desc).map (fun d => d.parameters.length) = some nA) (hA : As.length = nA) (hdd : d' + 1 ≤ d ∧ maxL ≤ 41)
    (hst : st = As.reverse ++ .ref b :: rest) (hcat : (rest.map fun v => v.category).sum ≤ 8)
    (hdg : decode cc pc = .ok (.invokespecial index, 3)) (hn : pc + 3 = n') (hkc : kc' + mc' ≤ kc) (hks : ks' + ms' ≤ ks) (kk : ∀ (rv : Option Value) (V' : zV), P' rv V' → zG C V' kc' ks' n' lv (rv.toList ++ rest)) : zG C V kc ks pc lv st := by
  subst hst
  refine zRunG X (a := (Value.ref b :: As).toArray) (P' := P') (rest := rest) ?_ hn hkc hks kk
  clear kk
  obtain ⟨⟨p, l, e, R, s, m, args, below, meth, c⟩, Γ, ⟨nL, mc, ms⟩, Q⟩ := C
  obtain ⟨hx, hb, hml, hown, hts, hO, hB0, hlk, hret, hmc, hms, hdf, hdl, hQ, rfl, rfl, rfl⟩ := X
  intro H locs cells slots ls hH hS hl hcc hs
  have hcc : cells + mc' ≤ mc := hcc
  have hs : slots + ms' ≤ ms := hs
  have hO1 := hO
  obtain ⟨-, -, -, -, -, -, -, -, -, o10, -⟩ := hO1
  have o10i := o10 (own, index, y, host) (List.mem_of_getElem? hz)
  try dsimp only at o10i
  exact va_runIN ⟨hx, hb, hml, hown, hts⟩ hM ⟨va_cnB nA hts hT hw rfl rfl o10i (hts _ hini) hd (zrm hdd hdf hdl), hy1, hts _ hin⟩ ⟨zPc.blind, fun U hU hW => ⟨rfl, by rw [hU]; exact Nat.le_trans hB0 hS.1, by rw [hU]; exact hH, zO_call hO hS hU hW⟩⟩ rfl hA hl.1 rfl (lv_room hcat) hdg ⟨Nat.le_trans hcc hmc, Nat.le_trans hs hms⟩
theorem zr_callSNst (X : zK C l0 Γ0 n0 own cc ws d ret Post) (n' nA i : Nat) {index maxL d' mc' ms' kc' ks' : Nat} {host : String} {y : MethodName} {bytes : ByteArray} {rt : Option FieldType} {wsy wsy' : List Cond} {As : List Value} {P' : Option Value → zV → Prop} {st : List Value}
    (hM : zM l0 Γ0 d' y wsy mc' ms' V As P') (hT : GoodIn ws wsy) (hw : wsy = Cond.code y bytes maxL rt :: wsy') (hini : Cond.initialized y.cls ∈ ws) (hz : zxm[i]? = some (own, index, y, host)) (hsta : Cond.static y ∈ ws)
    (hd : y.cls ≠ "java/lang/invoke/MethodHandle" ∧ y.cls ≠ "java/lang/invoke/VarHandle" ∧ (parseMethodDescriptor y.desc).map (fun d => d.parameters.length) = some nA) (hA : As.length = nA) (hdd : d' + 1 ≤ d ∧ maxL ≤ 41)
    (hst : st = As.reverse ++ rest) (hcat : (rest.map fun v => v.category).sum ≤ 8)
    (hdg : decode cc pc = .ok (.invokestatic index, 3)) (hn : pc + 3 = n') (hkc : kc' + mc' ≤ kc) (hks : ks' + ms' ≤ ks) (kk : ∀ (rv : Option Value) (V' : zV), P' rv V' → zG C V' kc' ks' n' lv (rv.toList ++ rest)) : zG C V kc ks pc lv st := by
  subst hst
  refine zRunG X (a := As.toArray) (P' := P') (rest := rest) ?_ hn hkc hks kk
  clear kk
  obtain ⟨⟨p, l, e, R, s, m, args, below, meth, c⟩, Γ, ⟨nL, mc, ms⟩, Q⟩ := C
  obtain ⟨hx, hb, hml, hown, hts, hO, hB0, hlk, hret, hmc, hms, hdf, hdl, hQ, rfl, rfl, rfl⟩ := X
  intro H locs cells slots ls hH hS hl hcc hs
  have hcc : cells + mc' ≤ mc := hcc
  have hs : slots + ms' ≤ ms := hs
  have hO1 := hO
  obtain ⟨-, -, -, -, -, -, -, -, -, o10, -⟩ := hO1
  have o10i := o10 (own, index, y, host) (List.mem_of_getElem? hz)
  try dsimp only at o10i
  exact va_runSN ⟨hx, hb, hml, hown, hts⟩ hM ⟨va_cnB nA hts hT hw rfl rfl o10i (hts _ hini) hd (zrm hdd hdf hdl), hts _ hsta, trivial⟩ ⟨zPc.blind, fun U hU hW => ⟨rfl, by rw [hU]; exact Nat.le_trans hB0 hS.1, by rw [hU]; exact hH, zO_call hO hS hU hW⟩⟩ rfl hA hl.1 rfl (lv_room hcat) hdg ⟨Nat.le_trans hcc hmc, Nat.le_trans hs hms⟩
/-! arrays of windows, arrays of int arrays -/
theorem zr_newq (X : zK C l0 Γ0 n0 own cc ws d ret Post) (n' tg : Nat) {index kc' ks' : Nat} {n : Int} (hcl : Cond.classLink own index RX5 ∈ ws) (h0 : 0 ≤ n ∧ n ≤ 100000) (hdg : decode cc pc = .ok (.anewarray index, 3)) (hn : pc + 3 = n') (hkc : kc' + 1 ≤ kc) (hks : ks' + n.toNat ≤ ks) (kk : ∀ q : Nat, V q = none → zG C (zu V q tg (zq Γ0.2.1 3 n.toNat (fun _ => none))) kc' ks' n' lv (.ref q :: rest)) : zG C V kc ks pc lv (.int (zI n) :: rest) := by
  obtain ⟨⟨p, l, e, R, s, m, args, below, meth, c⟩, Γ, ⟨nL, mc, ms⟩, Q⟩ := C
  obtain ⟨hx, hb, hml, hown, hts, hO, hB0, hlk, hret, hmc, hms, hdf, hdl, hQ, rfl, rfl, rfl⟩ := X
  subst hn
  intro H locs cells slots ls hV hS hl hcc hs
  obtain ⟨W0, hL, hP, hD⟩ := hV
  have hO1 := hO
  obtain ⟨-, -, -, -, -, -, -, -, -, -, o11, -⟩ := hO1
  have hcl2 : (zI n).toNatClampNeg = n.toNat := zI_clamp h0.1 (by omega)
  refine va_newq hx hb hown (hts _ hcl) o11 hO.1 hP hD hS (fun q h => Nat.le_trans hB0 h) (by rw [← zI_0, zI_lt (by omega) (by omega)]; omega) hcl2 (by omega) (by omega) (by omega) hdg (fun q cA H1 hK1 hP1 hD1 hS1 => ?_)
  have hcA : cA = Γ.2.1 3 := by
    obtain ⟨-, k1, c1, -, -, -, e1⟩ := hK1.2 5 _ rfl
    obtain ⟨-, k2, c2, -, -, -, e2⟩ := hO.1.2 3 _ rfl
    exact Option.some.inj (e1.symm.trans e2)
  subst hcA
  exact kk q (zD_new hL hD1) H1 locs (cells + 1) (slots + n.toNat) ls (zH.push hL (zD_new hL hD1) hP1 hD1) hS1 hl (by omega) (by omega)
theorem zr_newI (X : zK C l0 Γ0 n0 own cc ws d ret Post) (n' tg : Nat) {index kc' ks' : Nat} {n : Int} (hcl : Cond.classLink own index "[I" ∈ ws) (h0 : 0 ≤ n ∧ n ≤ 100000) (hdg : decode cc pc = .ok (.anewarray index, 3)) (hn : pc + 3 = n') (hkc : kc' + 1 ≤ kc) (hks : ks' + n.toNat ≤ ks) (kk : ∀ q : Nat, V q = none → zG C (zu V q tg (zq Γ0.2.1 4 n.toNat (fun _ => none))) kc' ks' n' lv (.ref q :: rest)) : zG C V kc ks pc lv (.int (zI n) :: rest) := by
  obtain ⟨⟨p, l, e, R, s, m, args, below, meth, c⟩, Γ, ⟨nL, mc, ms⟩, Q⟩ := C
  obtain ⟨hx, hb, hml, hown, hts, hO, hB0, hlk, hret, hmc, hms, hdf, hdl, hQ, rfl, rfl, rfl⟩ := X
  subst hn
  intro H locs cells slots ls hV hS hl hcc hs
  obtain ⟨W0, hL, hP, hD⟩ := hV
  have hO1 := hO
  obtain ⟨-, -, -, -, -, -, -, -, -, -, -, o12, -⟩ := hO1
  have hcl2 : (zI n).toNatClampNeg = n.toNat := zI_clamp h0.1 (by omega)
  refine W.anewA (t := .int) hx hb hown (hts _ hcl) o12 rfl hdg rfl (by rw [← zI_0, zI_lt (by omega) (by omega)]; omega) (by omega) (by omega) (by omega) fun cA kA comp f1 f2 f3 f4 => ?_
  rw [hcl2]
  have hcA : cA = Γ.2.1 4 := Option.some.inj (f1.symm.trans (hO.1.2 4 _ rfl).2)
  subst hcA
  generalize hH1 : H.push ({ cls := Γ.2.1 4, slots := Array.replicate n.toNat .null, vm := .none } : Cell) = H1
  have z1 : H1.size = H.size + 1 := by rw [← hH1, Array.size_push]
  have e1 : H1[H.size]? = some (arrV (Γ.2.1 4) n.toNat (fun _ => .null)) := by rw [← hH1, Array.getElem?_push_size, ← arrV_new]
  have o1 : ∀ q : Nat, q < H.size → H1[q]? = H[q]? := fun q hq => by rw [← hH1, Array.getElem?_push, if_neg (Nat.ne_of_lt hq)]
  have hk : ∀ (k : Nat) (x : Nat × va_E), W0[k]? = some x → H1[x.1]? = H[x.1]? := fun k x hx => o1 x.1 ((hP k x hx).lt)
  have hP1 : va_P Γ.1 vwCl (W0 ++ [(H.size, .inl (Γ.2.1 4, n.toNat, .inr (.inr (.inr (.inr (fun _ => none))))))]) H1 := by
    refine (hP.kept hk).app (fun k x hx => ?_)
    have hz : k < 1 := (List.getElem?_eq_some_iff.mp hx).1
    rw [show k = 0 by omega] at hx
    cases hx
    show H1[H.size]? = some (vp_cell _ _)
    rw [vp_cell_q]
    exact e1
  have hD1 : va_D (zA Γ.2.2.2) (W0 ++ [(H.size, .inl (Γ.2.1 4, n.toNat, .inr (.inr (.inr (.inr (fun _ => none))))))]) := hD.push hP rfl (Nat.le_trans hB0 hS.1)
  exact kk H.size (zD_new hL hD1) H1 locs (cells + 1) (slots + n.toNat) ls (zH.push hL (zD_new hL hD1) hP1 hD1) ⟨Nat.le_trans hS.1 (by omega), fun x h1 h2 => (o1 x (Nat.lt_of_lt_of_le h1 hS.1)).trans (hS.2.1 x h1 h2), hS.2.2⟩ hl (by omega) (by omega)
theorem zr_aaldI (X : zK C l0 Γ0 n0 own cc ws d ret Post) (n' : Nat) {a tg n : Nat} {f : Nat → Option Nat} {i : Int} (v : Value) (hV : V a = some (tg, zq Γ0.2.1 4 n f)) (h0 : 0 ≤ i ∧ i < n ∧ i ≤ 2147483647) (hv : va_rf (f i.toNat) = v) (hdg : decode cc pc = .ok (.aaload, 1)) (hn : pc + 1 = n') (kk : zG C V kc ks n' lv (v :: rest)) : zG C V kc ks pc lv (.int (zI i) :: .ref a :: rest) := by
  obtain ⟨⟨p, l, e, R, s, m, args, below, meth, c⟩, Γ, ⟨nL, mc, ms⟩, Q⟩ := C
  obtain ⟨hx, hb, hml, hown, hts, hO, hB0, hlk, hret, hmc, hms, hdf, hdl, hQ, rfl, rfl, rfl⟩ := X
  subst hn
  subst hv
  have hVa := hV
  intro H locs cells slots ls hV hS hl hcc hs
  have hV0 := hV
  obtain ⟨W0, hL, hP, hD⟩ := hV
  obtain ⟨q0, hq⟩ := (hL _ _).mp (zd_of hVa)
  have hcl : (zI i).toNatClampNeg = i.toNat := zI_clamp h0.1 h0.2.2
  have hlt : i.toNat < n := by omega
  exact W.aald (v := va_rf (f i.toNat)) hx hb (hP q0 _ hq) ((hO.1.2 4 _ rfl).1 n (fun j => va_rf (f j))) rfl (fun q => by cases q) (by show ¬ (_ ∨ (arrV _ _ _).slots.size ≤ _); rw [arrV_size]; exact zI_in h0.1 h0.2.1 h0.2.2) (by show (arrV _ _ _).slots[_]? = _; rw [hcl, arrV_read _ _ hlt]) rfl rfl hdg (kk H locs cells slots ls hV0 hS hl hcc hs)
theorem zr_aastI (X : zK C l0 Γ0 n0 own cc ws d ret Post) (n' : Nat) {a tg n v tv nv : Nat} {f : Nat → Option Nat} {g : Nat → Int} {i : Int} (hV : V a = some (tg, zq Γ0.2.1 4 n f)) (hv : V v = some (tv, za Γ0.2.1 0 nv g)) (h0 : 0 ≤ i ∧ i < n ∧ i ≤ 2147483647) (hdg : decode cc pc = .ok (.aastore, 1)) (hn : pc + 1 = n') (kk : zG C (zu V a tg (zq Γ0.2.1 4 n (zg f i.toNat v))) kc ks n' lv rest) : zG C V kc ks pc lv (.ref v :: .int (zI i) :: .ref a :: rest) := by
  obtain ⟨⟨p, l, e, R, s, m, args, below, meth, c⟩, Γ, ⟨nL, mc, ms⟩, Q⟩ := C
  obtain ⟨hx, hb, hml, hown, hts, hO, hB0, hlk, hret, hmc, hms, hdf, hdl, hQ, rfl, rfl, rfl⟩ := X
  subst hn
  have hVa := hV
  intro H locs cells slots ls hV hS hl hcc hs
  obtain ⟨W0, hL, hP, hD⟩ := hV
  obtain ⟨q0, hq⟩ := (hL _ _).mp (zd_of hVa)
  obtain ⟨qk, hqk⟩ := (hL _ _).mp (zd_of hv)
  have hO1 := hO
  obtain ⟨-, -, -, -, -, -, -, -, -, -, -, o12, -⟩ := hO1
  have hcl : (zI i).toNatClampNeg = i.toNat := zI_clamp h0.1 h0.2.2
  have hlt : i.toNat < n := by omega
  obtain ⟨comp, cA, kA, f1, f2, f3, f4, f5⟩ := arrayOverA_spec o12
  have hcA : cA = Γ.2.1 4 := Option.some.inj (f5.symm.trans (hO.1.2 4 _ rfl).2)
  have hcm : comp = Γ.2.1 0 := Option.some.inj (f1.symm.trans (hO.1.2 0 _ rfl).2)
  subst hcA
  subst hcm
  obtain ⟨kI, hkI, -⟩ := Vm.findClass_spec f1
  refine W.aast hx hb (hP q0 _ hq) (fun q h => by cases h) (fun h => by cases h) f3 f4 rfl hkI ⟨by rw [← zI_0, zI_lt (by omega) (by omega)]; omega, by show _ < (arrV _ _ _).slots.size; rw [arrV_size, hcl]; exact hlt⟩ (hP qk _ hqk) (fun q h => by cases h) hkI (va_asg _ _) rfl rfl hdg fun H1 e z oq => ?_
  refine kk H1 _ cells slots ls ⟨_, by rw [zd_zu]; exact hL.set hD hq, hP.set hD hq ?_ oq, hD.set hq⟩ (hS.put z oq (hD.2 q0 _ hq)) hl hcc hs
  show H1[a]? = some (vp_cell _ _)
  rw [e, hcl]
  rw [vp_cell_q]
  refine congrArg some ?_
  refine (arrV_store _ _ _ _ _).trans ?_
  refine congrArg (arrV (Γ.2.1 4) n) (show (updV (fun j => va_rf (f j)) i.toNat (Value.ref v)) = (fun j => va_rf (zg f i.toNat v j)) from ?_)
  funext j
  by_cases hj : j = i.toNat
  · subst hj
    simp [updV, zg, va_rf]
  · simp [updV, zg, hj]
/-! for the JDK's own methods -/
theorem zI_b {x : Int} (hr : -128 ≤ x ∧ x ≤ 127) : (zI x).toInt8.toInt32 = zI x := zI_nar_b hr
theorem zI_fb {x : Int} (hr : -128 ≤ x ∧ x ≤ 127) : fits .byte (.int (zI x)) = true := by
  have h := pk_fb (zI x)
  rwa [zI_b hr] at h
theorem zI_nb {x : Int} (hr : -128 ≤ x ∧ x ≤ 127) : narrow .byte (.int (zI x)) = .int (zI x) := by
  have h := pk_nb (zI x)
  rwa [zI_b hr] at h
theorem zr_null (X : zK C l0 Γ0 n0 own cc ws d ret Post) (n' : Nat) (hdg : decode cc pc = .ok (.aconst_null, 1)) (hn : pc + 1 = n') (kk : zG C V kc ks n' lv (.null :: rest)) : zG C V kc ks pc lv rest := by
  obtain ⟨⟨p, l, e, R, s, m, args, below, meth, c⟩, Γ, ⟨nL, mc, ms⟩, Q⟩ := C
  obtain ⟨hx, hb, hml, hown, hts, hO, hB0, hlk, hret, hmc, hms, hdf, hdl, hQ, rfl, rfl, rfl⟩ := X
  subst hn
  intro H locs cells slots ls hV hS hl hcc hs
  exact lv_null hx hb hdg (kk H locs cells slots ls hV hS hl hcc hs)
theorem zr_ishl0 (X : zK C l0 Γ0 n0 own cc ws d ret Post) (n' : Nat) {x : Int32} (hdg : decode cc pc = .ok (.ishl, 1)) (hn : pc + 1 = n') (kk : zG C V kc ks n' lv (.int x :: rest)) : zG C V kc ks pc lv (.int (zI 0) :: .int x :: rest) := by
  obtain ⟨⟨p, l, e, R, s, m, args, below, meth, c⟩, Γ, ⟨nL, mc, ms⟩, Q⟩ := C
  obtain ⟨hx, hb, hml, hown, hts, hO, hB0, hlk, hret, hmc, hms, hdf, hdl, hQ, rfl, rfl, rfl⟩ := X
  subst hn
  intro H locs cells slots ls hV hS hl hcc hs
  have e : x <<< (zI 0 &&& 31) = x := by
    have e1 : (zI 0 &&& 31) = 0 := by decide +kernel
    rw [e1]
    simp
  exact lv_ishl hx hb hdg (by rw [e]; exact kk H locs cells slots ls hV hS hl hcc hs)
theorem zr_ishr0 (X : zK C l0 Γ0 n0 own cc ws d ret Post) (n' : Nat) {x : Int32} (hdg : decode cc pc = .ok (.ishr, 1)) (hn : pc + 1 = n') (kk : zG C V kc ks n' lv (.int x :: rest)) : zG C V kc ks pc lv (.int (zI 0) :: .int x :: rest) := by
  obtain ⟨⟨p, l, e, R, s, m, args, below, meth, c⟩, Γ, ⟨nL, mc, ms⟩, Q⟩ := C
  obtain ⟨hx, hb, hml, hown, hts, hO, hB0, hlk, hret, hmc, hms, hdf, hdl, hQ, rfl, rfl, rfl⟩ := X
  subst hn
  intro H locs cells slots ls hV hS hl hcc hs
  have e : x >>> (zI 0 &&& 31) = x := by
    have e1 : (zI 0 &&& 31) = 0 := by decide +kernel
    rw [e1]
    simp
  exact lv_ishr hx hb hdg (by rw [e]; exact kk H locs cells slots ls hV hS hl hcc hs)
theorem zr_getsD (X : zK C l0 Γ0 n0 own cc ws d ret Post) (n' i : Nat) {index : Nat} {nm : String} (hi : (i = 20 ∧ nm = "DigitOnes") ∨ (i = 21 ∧ nm = "DigitTens")) (hlink : Cond.fieldLink own index "java/lang/Integer" nm "[B" ∈ ws) (hdg : decode cc pc = .ok (.getstatic index, 3)) (hn : pc + 3 = n') (kk : zG C V kc ks n' lv (.ref (Γ0.2.2.1 i) :: rest)) : zG C V kc ks pc lv rest := by
  obtain ⟨⟨p, l, e, R, s, m, args, below, meth, c⟩, Γ, ⟨nL, mc, ms⟩, Q⟩ := C
  obtain ⟨hx, hb, hml, hown, hts, hO, hB0, hlk, hret, hmc, hms, hdf, hdl, hQ, rfl, rfl, rfl⟩ := X
  subst hn
  intro H locs cells slots ls hV hS hl hcc hs
  have hD : zDg Γ i nm s s.heap := by
    rcases hi with ⟨rfl, rfl⟩ | ⟨rfl, rfl⟩
    · exact hO.2.2.2.2.2.2.2.2.2.2.2.2.2.1
    · exact hO.2.2.2.2.2.2.2.2.2.2.2.2.2.2
  exact va_gets hx hb hD.1 hS hown (hts _ hlink) (fun _ h => h) hdg (kk H locs cells slots ls hV hS hl hcc hs)
theorem zr_baldD (X : zK C l0 Γ0 n0 own cc ws d ret Post) (n' i : Nat) {k : Int} (hi : i = 20 ∨ i = 21) (hk : 0 ≤ k ∧ k < 100) (hdg : decode cc pc = .ok (.baload, 1)) (hn : pc + 1 = n') (kk : ∀ x : Int, 48 ≤ x ∧ x ≤ 57 → zG C V kc ks n' lv (.int (zI x) :: rest)) : zG C V kc ks pc lv (.int (zI k) :: .ref (Γ0.2.2.1 i) :: rest) := by
  obtain ⟨⟨p, l, e, R, s, m, args, below, meth, c⟩, Γ, ⟨nL, mc, ms⟩, Q⟩ := C
  obtain ⟨hx, hb, hml, hown, hts, hO, hB0, hlk, hret, hmc, hms, hdf, hdl, hQ, rfl, rfl, rfl⟩ := X
  subst hn
  intro H locs cells slots ls hV hS hl hcc hs
  have hD : ∃ f : Nat → Int, (∀ j, 48 ≤ f j ∧ f j ≤ 57) ∧ va_T .byte (Γ.2.2.1 i) 100 (fun j => .int (zI (f j))) (zA Γ.2.2.2) s s.heap := by
    rcases hi with rfl | rfl
    · exact hO.2.2.2.2.2.2.2.2.2.2.2.2.2.1.2
    · exact hO.2.2.2.2.2.2.2.2.2.2.2.2.2.2.2
  obtain ⟨f, hf, hT⟩ := hD
  exact va_tb hx hb hT hS (zI_in hk.1 (by omega) (by omega)) rfl hdg (kk _ (hf _) H locs cells slots ls hV hS hl hcc hs)
/-- n values of f from place sp on, laid into g from place dp on -/
def zcp (f g : Nat → Int) (sp dp n : Nat) : Nat → Int := fun j => if dp ≤ j ∧ j < dp + n then f (sp + (j - dp)) else g j
theorem zr_copyb (X : zK C l0 Γ0 n0 own cc ws d ret Post) (n' : Nat) {index a0 a tg0 tg n0 n1 : Nat} {f g : Nat → Int} {sp dp n : Int} (h0 : V a0 = some (tg0, za Γ0.2.1 2 n0 f)) (h1 : V a = some (tg, za Γ0.2.1 2 n1 g)) (hbd : ∀ j, -128 ≤ f j ∧ f j ≤ 127) (hlink : Cond.methodLink own index arraycopyName ∈ ws) (hnat : Cond.native arraycopyName ∈ ws) (hstat : Cond.static arraycopyName ∈ ws) (hini : Cond.initialized "java/lang/System" ∈ ws)
    (hr : 0 ≤ sp ∧ 0 ≤ dp ∧ 0 ≤ n ∧ sp + n ≤ n0 ∧ dp + n ≤ n1 ∧ n0 ≤ 100000 ∧ n1 ≤ 100000) (hd : 2 ≤ d) (hcat : (rest.map fun v => v.category).sum ≤ 8) (hdg : decode cc pc = .ok (.invokestatic index, 3)) (hn : pc + 3 = n') (kk : zG C (zu V a tg (za Γ0.2.1 2 n1 (zcp f g sp.toNat dp.toNat n.toNat))) kc ks n' lv rest) : zG C V kc ks pc lv (.int (zI n) :: .int (zI dp) :: .ref a :: .int (zI sp) :: .ref a0 :: rest) := by
  obtain ⟨⟨p, l, e, R, s, m, args, below, meth, c⟩, Γ, ⟨nL, mc, ms⟩, Q⟩ := C
  obtain ⟨hx, hb, hml, hown, hts, hO, hB0, hlk, hret, hmc, hms, hdf, hdl, hQ, rfl, rfl, rfl⟩ := X
  subst hn
  intro H locs cells slots ls hV hS hl hcc hs
  obtain ⟨W0, hL, hP, hD⟩ := hV
  obtain ⟨q0, hq0⟩ := (hL _ _).mp (zd_of h0)
  obtain ⟨q1, hq1⟩ := (hL _ _).mp (zd_of h1)
  have c1 : (zI sp).toNatClampNeg = sp.toNat := zI_clamp hr.1 (by omega)
  have c2 : (zI dp).toNatClampNeg = dp.toNat := zI_clamp hr.2.1 (by omega)
  have c3 : (zI n).toNatClampNeg = n.toNat := zI_clamp hr.2.2.1 (by omega)
  have ng : ∀ z : Int, 0 ≤ z → z ≤ 100000 → ¬ zI z < 0 := fun z hz hz2 => by rw [← zI_0, zI_lt (by omega) (by omega)]; omega
  refine va_copyi hx hb (hml.trans hl.1.symm) hown (hts _ hlink) (hts _ hnat) (hts _ hstat) (hts _ hini) hO.1 hP hD hS q0 q1 2 2 (ty := .byte) hq0 hq1 rfl rfl rfl (ng _ hr.1 (by omega)) (ng _ hr.2.1 (by omega)) (ng _ hr.2.2.1 (by omega)) (by rw [c1, c3]; omega) (by rw [c2, c3]; omega) (fun i _ => zI_fb (hbd _)) (by omega) ?_ hdg (fun H1 locs1 hP1 hD1 hS1 => ?_)
  · have e : nativeFrameWords "java/lang/System" "arraycopy" 5 ≤ 60 := by decide +kernel
    omega
  · rw [c1, c2, c3] at hP1 hD1
    have e : va_cpy (fun j => zI (f j)) (fun j => zI (g j)) sp.toNat dp.toNat n.toNat = fun j => zI (zcp f g sp.toNat dp.toNat n.toNat j) := by
      funext j
      unfold va_cpy zcp
      split <;> rfl
    rw [e] at hP1 hD1
    exact kk H1 locs1 cells slots ls ⟨_, by rw [zd_zu]; exact hL.set hD hq1, hP1, hD1⟩ hS1 hl hcc hs
theorem zr_cloneB (X : zK C l0 Γ0 n0 own cc ws d ret Post) (n' tg : Nat) {index a tg0 n kc' ks' : Nat} {f : Nat → Int} (h0 : V a = some (tg0, za Γ0.2.1 2 n f)) (hbd : ∀ j, -128 ≤ f j ∧ f j ≤ 127) (hlink : Cond.methodLink own index ⟨"[B", "clone", "()Ljava/lang/Object;"⟩ ∈ ws) (hsame : Cond.sameMethod "[B" "java/lang/Object" "clone" "()Ljava/lang/Object;" ∈ ws) (hnat : Cond.native ⟨"java/lang/Object", "clone", "()Ljava/lang/Object;"⟩ ∈ ws) (hinst : Cond.instanceMethod ⟨"java/lang/Object", "clone", "()Ljava/lang/Object;"⟩ ∈ ws) (hsel : Cond.selects "[B" ⟨"[B", "clone", "()Ljava/lang/Object;"⟩ ⟨"java/lang/Object", "clone", "()Ljava/lang/Object;"⟩ ∈ ws)
    (hd : 2 ≤ d) (hcat : (rest.map fun v => v.category).sum ≤ 8) (hdg : decode cc pc = .ok (.invokevirtual index, 3)) (hn : pc + 3 = n') (hkc : kc' + 1 ≤ kc) (hks : ks' + n ≤ ks) (kk : ∀ q : Nat, V q = none → zG C (zu V q tg (za Γ0.2.1 2 n f)) kc' ks' n' lv (.ref q :: rest)) : zG C V kc ks pc lv (.ref a :: rest) := by
  obtain ⟨⟨p, l, e, R, s, m, args, below, meth, c⟩, Γ, ⟨nL, mc, ms⟩, Q⟩ := C
  obtain ⟨hx, hb, hml, hown, hts, hO, hB0, hlk, hret, hmc, hms, hdf, hdl, hQ, rfl, rfl, rfl⟩ := X
  subst hn
  intro H locs cells slots ls hV hS hl hcc hs
  obtain ⟨W0, hL, hP, hD⟩ := hV
  obtain ⟨q0, hq0⟩ := (hL _ _).mp (zd_of h0)
  have hO1 := hO
  obtain ⟨-, -, -, -, -, -, -, -, -, -, -, -, o13, -⟩ := hO1
  refine va_clone (ad := "[B") (ty := .byte) hx hb (hml.trans hl.1.symm) hown (hts _ hlink) (hts _ hsame) (hts _ hnat) (hts _ hinst) (hts _ hsel) o13 hO.1 hP hD hS (fun q h => Nat.le_trans hB0 h) q0 2 hq0 rfl (hO.1.2 2 _ rfl).2 (fun i v hv => ?_) (by omega) (by omega) (by omega) (by show slots + n ≤ _; omega) hdg (fun q H1 hK1 hP1 hD1 hS1 => kk q (zD_new hL hD1) H1 locs (cells + 1) (slots + n) ls (zH.push hL (zD_new hL hD1) hP1 hD1) hS1 hl (by omega) (by omega))
  exact va_fit (cA := Γ.2.1 2) (n := n) (F := fun j => .int (zI (f j))) (fun i _ => zI_fb (hbd i)) i v hv
theorem zr_castB (X : zK C l0 Γ0 n0 own cc ws d ret Post) (n' : Nat) {index a tg n : Nat} {f : Nat → Int} (h0 : V a = some (tg, za Γ0.2.1 2 n f)) (hlink : Cond.classLink own index "[B" ∈ ws) (hdg : decode cc pc = .ok (.checkcast index, 3)) (hn : pc + 3 = n') (kk : zG C V kc ks n' lv (.ref a :: rest)) : zG C V kc ks pc lv (.ref a :: rest) := by
  obtain ⟨⟨p, l, e, R, s, m, args, below, meth, c⟩, Γ, ⟨nL, mc, ms⟩, Q⟩ := C
  obtain ⟨hx, hb, hml, hown, hts, hO, hB0, hlk, hret, hmc, hms, hdf, hdl, hQ, rfl, rfl, rfl⟩ := X
  subst hn
  intro H locs cells slots ls hV hS hl hcc hs
  have hV0 := hV
  obtain ⟨W0, hL, hP, hD⟩ := hV
  obtain ⟨q0, hq0⟩ := (hL _ _).mp (zd_of h0)
  exact va_castA hx hb hown (hts _ hlink) hP q0 hq0 (hO.1.2 2 _ rfl).2 hdg (kk H locs cells slots ls hV0 hS hl hcc hs)
theorem zr_callSU (X : zK C l0 Γ0 n0 own cc ws d ret Post) (n' nA : Nat) {index maxL d' mc' ms' b ci tg N kc' ks' : Nat} {CC : String} {y : MethodName} {bytes : ByteArray} {rt : Option FieldType} {wsy wsy' : List Cond} {fs As : List Value} {P' : Option Value → zV → Prop} {TT : u_T} {st : List Value}
    (hM : zM l0 Γ0 d' y wsy mc' ms' V (.ref b :: As) P') (hT : GoodIn ws (va_wsSU own index y wsy)) (hw : wsy = Cond.code y bytes maxL rt :: wsy')
    (hd : y.name ≠ "<init>" ∧ (parseMethodDescriptor y.desc).map (fun d => d.parameters.length) = some nA) (hA : As.length = nA) (hdd : d' + 1 ≤ d ∧ maxL ≤ 41)
    (hV : V b = some (tg, .inr (ci, fs))) (hc : vwCl[ci]? = some (CC, TT, N)) (hst : st = As.reverse ++ .ref b :: rest) (hcat : (rest.map fun v => v.category).sum ≤ 8)
    (hdg : decode cc pc = .ok (.invokespecial index, 3)) (hn : pc + 3 = n') (hkc : kc' + mc' ≤ kc) (hks : ks' + ms' ≤ ks) (kk : ∀ (rv : Option Value) (V' : zV), P' rv V' → zG C V' kc' ks' n' lv (rv.toList ++ rest)) : zG C V kc ks pc lv st := by
  subst hst
  refine zRunG X (a := (Value.ref b :: As).toArray) (P' := P') (rest := rest) ?_ hn hkc hks kk
  clear kk
  obtain ⟨⟨p, l, e, R, s, m, args, below, meth, c⟩, Γ, ⟨nL, mc, ms⟩, Q⟩ := C
  obtain ⟨hx, hb, hml, hown, hts, hO, hB0, hlk, hret, hmc, hms, hdf, hdl, hQ, rfl, rfl, rfl⟩ := X
  intro H locs cells slots ls hH hS hl hcc hs
  have hcc : cells + mc' ≤ mc := hcc
  have hs : slots + ms' ≤ ms := hs
  have hH0 := hH
  obtain ⟨W0, hL, hP, hD⟩ := hH
  obtain ⟨q0, hq⟩ := (hL _ _).mp (zd_of hV)
  exact va_runSU (hO.1.1 ci _ hc).2 ⟨hx, hb, hml, hown, hts⟩ hM (va_cwSU nA hts hT hw rfl rfl hd (zrm hdd hdf hdl)) ⟨zPc.blind, va_recv hO.1 hP hc hq, fun U hU hW => ⟨rfl, by rw [hU]; exact Nat.le_trans hB0 hS.1, by rw [hU]; exact hH0, zO_call hO hS hU hW⟩⟩ rfl hA hl.1 rfl (lv_room hcat) hdg ⟨Nat.le_trans hcc hmc, Nat.le_trans hs hms⟩
theorem zr_callU2 (X : zK C l0 Γ0 n0 own cc ws d ret Post) (n' nA : Nat) {index maxL d' mc' ms' b ci tg N kc' ks' : Nat} {CC owner : String} {x y : MethodName} {bytes : ByteArray} {rt : Option FieldType} {wsy wsy' : List Cond} {fs As : List Value} {P' : Option Value → zV → Prop} {TT : u_T} {st : List Value}
    (hM : zM l0 Γ0 d' y wsy mc' ms' V (.ref b :: As) P') (hT : GoodIn ws (va_wsU own index CC owner x y wsy)) (hw : wsy = Cond.code y bytes maxL rt :: wsy') (hyx : y = ⟨owner, x.name, x.desc⟩)
    (hd : owner ≠ "java/lang/invoke/MethodHandle" ∧ owner ≠ "java/lang/invoke/VarHandle" ∧ (parseMethodDescriptor x.desc).map (fun d => d.parameters.length) = some nA) (hA : As.length = nA) (hdd : d' + 1 ≤ d ∧ maxL ≤ 41)
    (hV : V b = some (tg, .inr (ci, fs))) (hc : vwCl[ci]? = some (CC, TT, N)) (hst : st = As.reverse ++ .ref b :: rest) (hcat : (rest.map fun v => v.category).sum ≤ 8)
    (hdg : decode cc pc = .ok (.invokevirtual index, 3)) (hn : pc + 3 = n') (hkc : kc' + mc' ≤ kc) (hks : ks' + ms' ≤ ks) (kk : ∀ (rv : Option Value) (V' : zV), P' rv V' → zG C V' kc' ks' n' lv (rv.toList ++ rest)) : zG C V kc ks pc lv st := by
  subst hst
  refine zRunG X (a := (Value.ref b :: As).toArray) (P' := P') (rest := rest) ?_ hn hkc hks kk
  clear kk
  obtain ⟨⟨p, l, e, R, s, m, args, below, meth, c⟩, Γ, ⟨nL, mc, ms⟩, Q⟩ := C
  obtain ⟨hx, hb, hml, hown, hts, hO, hB0, hlk, hret, hmc, hms, hdf, hdl, hQ, rfl, rfl, rfl⟩ := X
  intro H locs cells slots ls hH hS hl hcc hs
  have hcc : cells + mc' ≤ mc := hcc
  have hs : slots + ms' ≤ ms := hs
  have hH0 := hH
  obtain ⟨W0, hL, hP, hD⟩ := hH
  obtain ⟨q0, hq⟩ := (hL _ _).mp (zd_of hV)
  exact va_runU ⟨hx, hb, hml, hown, hts⟩ hM (va_cwU nA hts hT hw rfl rfl hyx hd (zrm hdd hdf hdl)) ⟨zPc.blind, va_recv hO.1 hP hc hq, fun U hU hW => ⟨rfl, by rw [hU]; exact Nat.le_trans hB0 hS.1, by rw [hU]; exact hH0, zO_call hO hS hU hW⟩⟩ rfl hA hl.1 rfl (lv_room hcat) hdg ⟨Nat.le_trans hcc hmc, Nat.le_trans hs hms⟩
theorem zr_callO (X : zK C l0 Γ0 n0 own cc ws d ret Post) (n' nA : Nat) {index maxL d' mc' ms' b ci tg N kc' ks' m0 : Nat} {CC owner : String} {x y : MethodName} {bytes b0 : ByteArray} {rt r0 : Option FieldType} {wsy wsy' : List Cond} {fs As : List Value} {P' : Option Value → zV → Prop} {TT : u_T} {st : List Value}
    (hM : zM l0 Γ0 d' y wsy mc' ms' V (.ref b :: As) P') (hT : GoodIn ws (va_wsO own index CC owner x y wsy)) (hw : wsy = Cond.code y bytes maxL rt :: wsy') (h0 : Cond.code ⟨owner, x.name, x.desc⟩ b0 m0 r0 ∈ ws)
    (hd : owner ≠ "java/lang/invoke/MethodHandle" ∧ owner ≠ "java/lang/invoke/VarHandle" ∧ (parseMethodDescriptor x.desc).map (fun d => d.parameters.length) = some nA) (hA : As.length = nA) (hdd : d' + 1 ≤ d ∧ maxL ≤ 41)
    (hV : V b = some (tg, .inr (ci, fs))) (hc : vwCl[ci]? = some (CC, TT, N)) (hst : st = As.reverse ++ .ref b :: rest) (hcat : (rest.map fun v => v.category).sum ≤ 8)
    (hdg : decode cc pc = .ok (.invokevirtual index, 3)) (hn : pc + 3 = n') (hkc : kc' + mc' ≤ kc) (hks : ks' + ms' ≤ ks) (kk : ∀ (rv : Option Value) (V' : zV), P' rv V' → zG C V' kc' ks' n' lv (rv.toList ++ rest)) : zG C V kc ks pc lv st := by
  subst hst
  refine zRunG X (a := (Value.ref b :: As).toArray) (P' := P') (rest := rest) ?_ hn hkc hks kk
  clear kk
  obtain ⟨⟨p, l, e, R, s, m, args, below, meth, c⟩, Γ, ⟨nL, mc, ms⟩, Q⟩ := C
  obtain ⟨hx, hb, hml, hown, hts, hO, hB0, hlk, hret, hmc, hms, hdf, hdl, hQ, rfl, rfl, rfl⟩ := X
  intro H locs cells slots ls hH hS hl hcc hs
  have hcc : cells + mc' ≤ mc := hcc
  have hs : slots + ms' ≤ ms := hs
  have hH0 := hH
  obtain ⟨W0, hL, hP, hD⟩ := hH
  obtain ⟨q0, hq⟩ := (hL _ _).mp (zd_of hV)
  exact va_runU ⟨hx, hb, hml, hown, hts⟩ hM (va_cwO nA hts hT hw rfl rfl h0 hd (zrm hdd hdf hdl)) ⟨zPc.blind, va_recv hO.1 hP hc hq, fun U hU hW => ⟨rfl, by rw [hU]; exact Nat.le_trans hB0 hS.1, by rw [hU]; exact hH0, zO_call hO hS hU hW⟩⟩ rfl hA hl.1 rfl (lv_room hcat) hdg ⟨Nat.le_trans hcc hmc, Nat.le_trans hs hms⟩
theorem zbex {x : Int} (hr : 0 ≤ x ∧ x ≤ 255) : ∃ y : Int, (if x < 128 then x else x - 256) = y ∧ -128 ≤ y ∧ y ≤ 127 := by
  by_cases c : x < 128
  · exact ⟨x, if_pos c, by omega, by omega⟩
  · exact ⟨x - 256, if_neg c, by omega, by omega⟩
theorem zI_divn {x y : Int} (hx : 0 ≤ x ∧ x ≤ 2147483647) (hy : 0 < y ∧ y ≤ 2147483647) : zI (-x) / zI y = zI (-(x / y)) := by
  rw [← Int32.toInt_inj, Int32.toInt_div, zI_toInt (-x) (by omega), zI_toInt y (by omega)]
  have h1 : 0 ≤ x / y := Int.ediv_nonneg hx.1 (by omega)
  have h2 : x / y ≤ x := Int.ediv_le_self _ hx.1
  have h0 : (-x).tdiv y = -(x / y) := by rw [Int.neg_tdiv, Int.tdiv_eq_ediv_of_nonneg hx.1]
  rw [zI_toInt _ (by omega), h0, Int.bmod_eq_of_le] <;> omega
theorem zr_idivn (X : zK C l0 Γ0 n0 own cc ws d ret Post) (n' : Nat) {x y : Int} (hdg : decode cc pc = .ok (.idiv, 1)) (hn : pc + 1 = n') (hrx : 0 ≤ x ∧ x ≤ 2147483647) (hry : 0 < y ∧ y ≤ 2147483647) (kk : zG C V kc ks n' lv (.int (zI (-(x / y))) :: rest)) : zG C V kc ks pc lv (.int (zI y) :: .int (zI (-x)) :: rest) := by
  obtain ⟨⟨p, l, e, R, s, m, args, below, meth, c⟩, Γ, ⟨nL, mc, ms⟩, Q⟩ := C
  obtain ⟨hx, hb, hml, hown, hts, hO, hB0, hlk, hret, hmc, hms, hdf, hdl, hQ, rfl, rfl, rfl⟩ := X
  subst hn
  intro H locs cells slots ls hV hS hl hcc hs
  exact lv_idiv hx hb hdg (fun h => by rw [← zI_0, zI_eq (by omega) (by omega)] at h; omega) (by rw [zI_divn hrx hry]; exact kk H locs cells slots ls hV hS hl hcc hs)
theorem zr_ldcI (X : zK C l0 Γ0 n0 own cc ws d ret Post) (n' : Nat) {i : Nat} {v : Int} {w : Int32} (hw : Cond.constant own i w ∈ ws) (hv : w = zI v) (hdg : decode cc pc = .ok (.ldc i, 2)) (hn : pc + 2 = n') (kk : zG C V kc ks n' lv (.int (zI v) :: rest)) : zG C V kc ks pc lv rest := by
  subst hv
  exact zr_ldc X n' hdg hn hw kk
theorem zr_ldcwI (X : zK C l0 Γ0 n0 own cc ws d ret Post) (n' : Nat) {i : Nat} {v : Int} {w : Int32} (hw : Cond.constant own i w ∈ ws) (hv : w = zI v) (hdg : decode cc pc = .ok (.ldc_w i, 3)) (hn : pc + 3 = n') (kk : zG C V kc ks n' lv (.int (zI v) :: rest)) : zG C V kc ks pc lv rest := by
  subst hv
  exact zr_ldcw X n' hdg hn hw kk
theorem zdf_J0 : ∀ j, j < 4 → defaultValue (tyJ0 j) = vp_V [.null, .int (zI (0)), .int (zI (0)), .int (zI (0))] j := fun j hj => by
  match j, hj with
  | 0, _ => rfl
  | 1, _ => rfl
  | 2, _ => rfl
  | 3, _ => rfl
  | (k + 4), h => exact absurd h (by omega)
theorem zdf_J4 : ∀ j, j < 4 → defaultValue (tyJ4 j) = vp_V [.null, .int (zI (0)), .int (zI (0)), .int (zI (0))] j := fun j hj => by
  match j, hj with
  | 0, _ => rfl
  | 1, _ => rfl
  | 2, _ => rfl
  | 3, _ => rfl
  | (k + 4), h => exact absurd h (by omega)
theorem zdf_X0 : ∀ j, j < 3 → defaultValue (tyX0 j) = vp_V [.null, .null, .int (zI (0))] j := fun j hj => by
  match j, hj with
  | 0, _ => rfl
  | 1, _ => rfl
  | 2, _ => rfl
  | (k + 3), h => exact absurd h (by omega)
theorem zdf_X1 : ∀ j, j < 4 → defaultValue (tyX1 j) = vp_V [.null, .null, .null, .int (zI (0))] j := fun j hj => by
  match j, hj with
  | 0, _ => rfl
  | 1, _ => rfl
  | 2, _ => rfl
  | 3, _ => rfl
  | (k + 4), h => exact absurd h (by omega)
theorem zdf_X2 : ∀ j, j < 2 → defaultValue (tyX2 j) = vp_V [.null, .int (zI (0))] j := fun j hj => by
  match j, hj with
  | 0, _ => rfl
  | 1, _ => rfl
  | (k + 2), h => exact absurd h (by omega)
theorem zdf_X3 : ∀ j, j < 3 → defaultValue (tyX3 j) = vp_V [.null, .null, .int (zI (0))] j := fun j hj => by
  match j, hj with
  | 0, _ => rfl
  | 1, _ => rfl
  | 2, _ => rfl
  | (k + 3), h => exact absurd h (by omega)
theorem zdf_X5 : ∀ j, j < 6 → defaultValue (tyX5 j) = vp_V [.null, .int (zI (0)), .int (zI (0)), .int (zI (0)), .int (zI (0)), .int (zI (0))] j := fun j hj => by
  match j, hj with
  | 0, _ => rfl
  | 1, _ => rfl
  | 2, _ => rfl
  | 3, _ => rfl
  | 4, _ => rfl
  | 5, _ => rfl
  | (k + 6), h => exact absurd h (by omega)
theorem zdf_X6 : ∀ j, j < 14 → defaultValue (tyX6 j) = vp_V [.null, .null, .null, .null, .null, .null, .null, .null, .null, .null, .int (zI (0)), .int (zI (0)), .int (zI (0)), .int (zI (0))] j := fun j hj => by
  match j, hj with
  | 0, _ => rfl
  | 1, _ => rfl
  | 2, _ => rfl
  | 3, _ => rfl
  | 4, _ => rfl
  | 5, _ => rfl
  | 6, _ => rfl
  | 7, _ => rfl
  | 8, _ => rfl
  | 9, _ => rfl
  | 10, _ => rfl
  | 11, _ => rfl
  | 12, _ => rfl
  | 13, _ => rfl
  | (k + 14), h => exact absurd h (by omega)
theorem zdf_X7 : ∀ j, j < 2 → defaultValue (tyX7 j) = vp_V [.long 0, .null] j := fun j hj => by
  match j, hj with
  | 0, _ => rfl
  | 1, _ => rfl
  | (k + 2), h => exact absurd h (by omega)
theorem zdf_X8 : ∀ j, j < 11 → defaultValue (tyX8 j) = vp_V [.null, .int (zI (0)), .null, .null, .null, .null, .int (zI (0)), .int (zI (0)), .int (zI (0)), .null, .int (zI (0))] j := fun j hj => by
  match j, hj with
  | 0, _ => rfl
  | 1, _ => rfl
  | 2, _ => rfl
  | 3, _ => rfl
  | 4, _ => rfl
  | 5, _ => rfl
  | 6, _ => rfl
  | 7, _ => rfl
  | 8, _ => rfl
  | 9, _ => rfl
  | 10, _ => rfl
  | (k + 11), h => exact absurd h (by omega)
end ZR3
