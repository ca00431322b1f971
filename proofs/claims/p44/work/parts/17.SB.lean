section
/-! builders as a whole; calls on objects whose cell is not named -/
/-- an object of class ci lies at b -/
def zCl (V : zV) (b ci : Nat) : Prop := ∃ (tg : Nat) (fs : List Value), V b = some (tg, .inr (ci, fs))
theorem zSB.cl {Γ : zGam} {V : zV} {b cap : Nat} {cnt : Int} (h : zSB Γ V b cnt cap) : zCl V b 1 := by
  obtain ⟨v, mb, f, h1, -⟩ := h
  exact ⟨_, _, h1⟩
theorem zSB.rg {Γ : zGam} {V : zV} {b cap : Nat} {cnt : Int} (h : zSB Γ V b cnt cap) : 0 ≤ cnt ∧ cnt ≤ cap ∧ cap ≤ 3000 := by
  obtain ⟨v, mb, f, h1, h2, h3, h4, h5, h6⟩ := h
  exact ⟨h4, h5, h6⟩
theorem zsb_app_c (l : Launch) (Γ : zGam) {V : zV} {b cap : Nat} {cnt x : Int} (h : zSB Γ V b cnt cap) (hx : 0 ≤ x ∧ x ≤ 255) {cap' c k : Nat} (hg : (cnt + 1 ≤ cap ∧ cap' = cap ∧ c = 0 ∧ k = 0) ∨ ((cap : Int) < cnt + 1 ∧ cap ≤ 1400 ∧ cap' = 2 * cap + 2 ∧ c = 1 ∧ k = 2 * cap + 2)) : zM l Γ 6 yJ4_append_cf468 wsJ4_append_cf468 c k V [.ref b, .int (zI x)] (fun rv V' => rv = some (.ref b) ∧ zSB Γ V' b (cnt + 1) cap' ∧ zfr V V') := by
  obtain ⟨v, mb, f, h1, h2, h3, h4, h5, h6⟩ := h
  rcases hg with ⟨g1, rfl, rfl, rfl⟩ | ⟨g1, g2, rfl, rfl, rfl⟩
  · exact m_J4_append_c_n l Γ h1 h2 ⟨h4, h5, h6⟩ h3 hx g1
  · have e : (2 * (cap : Int) + 2).toNat = 2 * cap + 2 := by omega
    have k := m_J4_append_c_y l Γ h1 h2 ⟨h4, h5, g2⟩ h3 hx g1
    rw [e] at k
    exact k
theorem zsb_app_i (l : Launch) (Γ : zGam) {V : zV} {b cap : Nat} {cnt x q : Int} (h : zSB Γ V b cnt cap) (hx : 0 ≤ x ∧ x ≤ 1000) (hq : ((x < 10 ∧ q = 1) ∨ (10 ≤ x ∧ x < 100 ∧ q = 2) ∨ (100 ≤ x ∧ x < 1000 ∧ q = 3) ∨ (1000 ≤ x ∧ q = 4))) {cap' c k : Nat} (hg : (cnt + q ≤ cap ∧ cap' = cap ∧ c = 0 ∧ k = 0) ∨ ((cap : Int) < cnt + q ∧ 4 ≤ cap ∧ cap ≤ 1400 ∧ cap' = 2 * cap + 2 ∧ c = 1 ∧ k = 2 * cap + 2)) : zM l Γ 6 yJ4_append_bf812 wsJ4_append_bf812 c k V [.ref b, .int (zI x)] (fun rv V' => rv = some (.ref b) ∧ zSB Γ V' b (cnt + q) cap' ∧ zfr V V') := by
  obtain ⟨v, mb, f, h1, h2, h3, h4, h5, h6⟩ := h
  rcases hg with ⟨g1, rfl, rfl, rfl⟩ | ⟨g1, g4, g2, rfl, rfl, rfl⟩
  · exact m_J4_append_i_n l Γ h1 h2 ⟨h4, h5, h6⟩ h3 hx hq g1
  · have e : (2 * (cap : Int) + 2).toNat = 2 * cap + 2 := by omega
    have k := m_J4_append_i_y l Γ h1 h2 ⟨h4, h5, g2⟩ g4 h3 hx hq g1
    rw [e] at k
    exact k
theorem zsb_str (l : Launch) (Γ : zGam) {V : zV} {b cap : Nat} {cnt : Int} (h : zSB Γ V b cnt cap) : zM l Γ 7 yJ4_toString_0e30d wsJ4_toString_0e30d 2 (cnt.toNat + 4) V [.ref b] (fun rv V' => ∃ z, rv = some (.ref z) ∧ V z = none ∧ zfr V V') := by
  obtain ⟨v, mb, f, h1, h2, h3, h4, h5, h6⟩ := h
  exact m_J4_toString_0e30d l Γ h1 h2 ⟨h4, h5, h6⟩ h3
/-- how a builder grows: what it costs -/
theorem zgrow (cnt q : Int) (cap : Nat) (h : 0 ≤ cnt ∧ cnt ≤ cap ∧ cap ≤ 1400) (hq : 1 ≤ q ∧ q ≤ 4) (h4 : 4 ≤ cap) : ∃ cap' c k : Nat, ((cnt + q ≤ cap ∧ cap' = cap ∧ c = 0 ∧ k = 0) ∨ ((cap : Int) < cnt + q ∧ 4 ≤ cap ∧ cap ≤ 1400 ∧ cap' = 2 * cap + 2 ∧ c = 1 ∧ k = 2 * cap + 2)) := by
  by_cases c : cnt + q ≤ cap
  · exact ⟨cap, 0, 0, Or.inl ⟨c, rfl, rfl, rfl⟩⟩
  · exact ⟨2 * cap + 2, 1, 2 * cap + 2, Or.inr ⟨by omega, h4, h.2.2, rfl, rfl, rfl⟩⟩
theorem zgrow1 (cnt : Int) (cap : Nat) (h : 0 ≤ cnt ∧ cnt ≤ cap ∧ cap ≤ 1400) : ∃ cap' c k : Nat, ((cnt + 1 ≤ cap ∧ cap' = cap ∧ c = 0 ∧ k = 0) ∨ ((cap : Int) < cnt + 1 ∧ cap ≤ 1400 ∧ cap' = 2 * cap + 2 ∧ c = 1 ∧ k = 2 * cap + 2)) := by
  by_cases c : cnt + 1 ≤ cap
  · exact ⟨cap, 0, 0, Or.inl ⟨c, rfl, rfl, rfl⟩⟩
  · exact ⟨2 * cap + 2, 1, 2 * cap + 2, Or.inr ⟨by omega, h.2.2, rfl, rfl, rfl⟩⟩
theorem zM.imp {l : Launch} {Γ : zGam} {d : Nat} {y : MethodName} {ws : List Cond} {mc ms : Nat} {V : zV} {av : List Value} {Post Post' : Option Value → zV → Prop} (h : zM l Γ d y ws mc ms V av Post) (hi : ∀ rv V', Post rv V' → Post' rv V') : zM l Γ d y ws mc ms V av Post' := by
  intro p e ha hc hk s m args below hf happ hP hK
  obtain ⟨k, o, h1, h2, h3, ⟨⟨rv, V', g1, g2, g3⟩, g4⟩, h5⟩ := h p e ha hc hk s m args below hf happ hP hK
  exact ⟨k, o, h1, h2, h3, ⟨⟨rv, V', g1, hi rv V' g2, g3⟩, g4⟩, h5⟩
section ZRE
variable {C : zC} {l0 : Launch} {Γ0 : zGam} {n0 : Nat} {own : String} {cc : ByteArray} {ws : List Cond} {d : Nat} {ret : Option FieldType} {Post : Option Value → zV → Prop} {PX : String → zV → Prop} {V : zV} {kc ks pc : Nat} {lv : List (Nat × Value)} {rest : List Value}
theorem zr_callVe (X : zK C l0 Γ0 n0 own cc ws d ret Post) (n' nA : Nat) {index maxL d' mc' ms' b ci N kc' ks' : Nat} {CC : String} {y : MethodName} {bytes : ByteArray} {rt : Option FieldType} {wsy wsy' : List Cond} {As : List Value} {P' : Option Value → zV → Prop} {TT : u_T} {st : List Value}
    (hM : zM l0 Γ0 d' y wsy mc' ms' V (.ref b :: As) P') (hT : GoodIn ws (wsV own index CC y wsy)) (hw : wsy = Cond.code y bytes maxL rt :: wsy')
    (hd : y.cls = CC ∧ y.cls ≠ "java/lang/invoke/MethodHandle" ∧ y.cls ≠ "java/lang/invoke/VarHandle" ∧ (parseMethodDescriptor y.desc).map (fun d => d.parameters.length) = some nA) (hA : As.length = nA) (hdd : d' + 1 ≤ d ∧ maxL ≤ 41)
    (hV : zCl V b ci) (hc : vwCl[ci]? = some (CC, TT, N)) (hst : st = As.reverse ++ .ref b :: rest) (hcat : (rest.map fun v => v.category).sum ≤ 8)
    (hdg : decode cc pc = .ok (.invokevirtual index, 3)) (hn : pc + 3 = n') (hkc : kc' + mc' ≤ kc) (hks : ks' + ms' ≤ ks) (kk : ∀ (rv : Option Value) (V' : zV), P' rv V' → zG C V' kc' ks' n' lv (rv.toList ++ rest)) : zG C V kc ks pc lv st := by
  obtain ⟨tg, fs, hV⟩ := hV
  exact zr_callV X n' nA hM hT hw hd hA hdd hV hc hst hcat hdg hn hkc hks kk
theorem zr_callVNe (X : zK C l0 Γ0 n0 own cc ws d ret Post) (Y : zY C Post PX) (n' nA : Nat) {index maxL d' mc' ms' b ci N kc' ks' : Nat} {CC : String} {y : MethodName} {bytes : ByteArray} {rt : Option FieldType} {wsy wsy' : List Cond} {As : List Value} {P' : Option Value → zV → Prop} {PX' : String → zV → Prop} {TT : u_T} {st : List Value}
    (hM : zN l0 Γ0 d' y wsy mc' ms' V (.ref b :: As) P' PX') (hT : GoodIn ws (wsV own index CC y wsy)) (hw : wsy = Cond.code y bytes maxL rt :: wsy')
    (hd : y.cls = CC ∧ y.cls ≠ "java/lang/invoke/MethodHandle" ∧ y.cls ≠ "java/lang/invoke/VarHandle" ∧ (parseMethodDescriptor y.desc).map (fun d => d.parameters.length) = some nA) (hA : As.length = nA) (hdd : d' + 1 ≤ d ∧ maxL ≤ 41)
    (hV : zCl V b ci) (hc : vwCl[ci]? = some (CC, TT, N)) (hst : st = As.reverse ++ .ref b :: rest) (hcat : (rest.map fun v => v.category).sum ≤ 8)
    (hdg : decode cc pc = .ok (.invokevirtual index, 3)) (hn : pc + 3 = n') (hkc : kc' + mc' ≤ kc) (hks : ks' + ms' ≤ ks) (hpx : ∀ E V', PX' E V' → PX E V') (kk : ∀ (rv : Option Value) (V' : zV), P' rv V' → zG C V' kc' ks' n' lv (rv.toList ++ rest)) : zG C V kc ks pc lv st := by
  obtain ⟨tg, fs, hV⟩ := hV
  exact zr_callVN X Y n' nA hM hT hw hd hA hdd hV hc hst hcat hdg hn hkc hks hpx kk
theorem zr_callVCe (X : zK C l0 Γ0 n0 own cc ws d ret Post) (n' nA : Nat) {index maxL d' mc' ms' b ci N kc' ks' : Nat} {CC : String} {y : MethodName} {bytes : ByteArray} {rt : Option FieldType} {wsy wsy' : List Cond} {As : List Value} {P' : Option Value → zV → Prop} {PX' : String → zV → Prop} {TT : u_T} {st : List Value}
    (hM : zN l0 Γ0 d' y wsy mc' ms' V (.ref b :: As) P' PX') (hT : GoodIn ws (wsV own index CC y wsy)) (hw : wsy = Cond.code y bytes maxL rt :: wsy')
    (hd : y.cls = CC ∧ y.cls ≠ "java/lang/invoke/MethodHandle" ∧ y.cls ≠ "java/lang/invoke/VarHandle" ∧ (parseMethodDescriptor y.desc).map (fun d => d.parameters.length) = some nA) (hA : As.length = nA) (hdd : d' + 1 ≤ d ∧ maxL ≤ 41)
    (hV : zCl V b ci) (hc : vwCl[ci]? = some (CC, TT, N)) (hst : st = As.reverse ++ .ref b :: rest) (hcat : (rest.map fun v => v.category).sum ≤ 8)
    (hdg : decode cc pc = .ok (.invokevirtual index, 3)) (hn : pc + 3 = n') (hkc : kc' + mc' ≤ kc) (hks : ks' + ms' ≤ ks) (kx : ∀ E V', PX' E V' → zGX C V' kc' ks' pc lv E) (kk : ∀ (rv : Option Value) (V' : zV), P' rv V' → zG C V' kc' ks' n' lv (rv.toList ++ rest)) : zG C V kc ks pc lv st := by
  obtain ⟨tg, fs, hV⟩ := hV
  exact zr_callVC X n' nA hM hT hw hd hA hdd hV hc hst hcat hdg hn hkc hks kx kk
end ZRE
end
section
/-! the state of a Sashwords object: its cells by their marks, its numbers in σ -/
def zag (P : Nat → Prop) (V V' : zV) : Prop := ∀ (a t : Nat) (e : va_E), V a = some (t, e) → P t → V' a = some (t, e)
theorem zag.rf {P : Nat → Prop} {V : zV} : zag P V V := fun _ _ _ h _ => h
theorem zag.tr {P : Nat → Prop} {V V' V'' : zV} (h : zag P V V') (h' : zag P V' V'') : zag P V V'' := fun a t e h1 h2 => h' a t e (h a t e h1 h2) h2
theorem zag.mono {P Q : Nat → Prop} {V V' : zV} (h : zag P V V') (hq : ∀ t, Q t → P t) : zag Q V V' := fun a t e h1 h2 => h a t e h1 (hq t h2)
theorem zag.set {P : Nat → Prop} {V V' : zV} (h : zag P V V') {b t0 t : Nat} {e0 e : va_E} (hb : V' b = some (t0, e0)) (hp : ¬ P t0) : zag P V (zu V' b t e) := fun a t1 e1 h1 h2 => by
  have h3 := h a t1 e1 h1 h2
  have hne : a ≠ b := fun q => by
    rw [q, hb] at h3
    cases h3
    exact hp h2
  rw [zu_ne hne]
  exact h3
theorem zag.new {P : Nat → Prop} {V V' : zV} (h : zag P V V') {b t : Nat} {e : va_E} (hb : V' b = none) : zag P V (zu V' b t e) := fun a t1 e1 h1 h2 => by
  have h3 := h a t1 e1 h1 h2
  have hne : a ≠ b := fun q => by
    rw [q, hb] at h3
    cases h3
  rw [zu_ne hne]
  exact h3
def zWi (Γ : zGam) (V : zV) (tag w : Nat) (cap lim pos mk : Int) : Prop := ∃ (r n : Nat) (st : Int) (f : Nat → Int), V w = some (tag, .inr (6, [.ref r, .int (zI st), .int (zI cap), .int (zI lim), .int (zI pos), .int (zI mk)])) ∧ V r = some (50, za Γ.2.1 1 n f) ∧ zWb st cap lim pos mk n ∧ zc f ∧ cap ≤ 40
def zSc (Γ : zGam) (V : zV) (tb b tg g n : Nat) (len : Int) : Prop := ∃ f : Nat → Int, V b = some (tb, .inr (4, [.ref g, .int (zI len)])) ∧ V g = some (tg, za Γ.2.1 1 n f) ∧ zc f ∧ 0 ≤ len ∧ len ≤ n
def zBo (Γ : zGam) (V : zV) (tt t ta ga tc ca : Nat) : Prop := ∃ (lk : Int) (gf cf : Nat → Int), V t = some (tt, .inr (2, [.ref ga, .ref ca, .int (zI lk)])) ∧ V ga = some (ta, za Γ.2.1 0 81 gf) ∧ V ca = some (tc, za Γ.2.1 0 80 cf) ∧ zbd gf ∧ zbd cf ∧ 0 ≤ lk ∧ lk ≤ 80 ∧ zb1 gf
/-- a seeker that holds these places -/
def zSkx (Γ : zGam) (V : zV) (tk k tp pl bo : Nat) (mn : Int) (pf : Nat → Int) : Prop := V k = some (tk, .inr (5, [.ref bo, .ref pl, .int (zI mn)])) ∧ V pl = some (tp, za Γ.2.1 0 81 pf) ∧ zpl pf ∧ 0 ≤ mn ∧ mn ≤ 81
/-- borders that are known -/
def zBox (Γ : zGam) (V : zV) (tt t ta ga : Nat) (gf : Nat → Int) : Prop := ∃ (lk : Int) (ca : Nat), V t = some (tt, .inr (2, [.ref ga, .ref ca, .int (zI lk)])) ∧ V ga = some (ta, za Γ.2.1 0 81 gf) ∧ zbd gf
def zSk (Γ : zGam) (V : zV) (tk k tp pl bo : Nat) : Prop := ∃ (mn : Int) (pf : Nat → Int), V k = some (tk, .inr (5, [.ref bo, .ref pl, .int (zI mn)])) ∧ V pl = some (tp, za Γ.2.1 0 81 pf) ∧ zpl pf ∧ 0 ≤ mn ∧ mn ≤ 81
theorem zWi.kept {Γ : zGam} {V V' : zV} {P : Nat → Prop} {tag w : Nat} {cap lim pos mk : Int} (h : zWi Γ V tag w cap lim pos mk) (ha : zag P V V') (h1 : P tag) (h2 : P 50) : zWi Γ V' tag w cap lim pos mk := by
  obtain ⟨r, n, st, f, a, b, c⟩ := h
  exact ⟨r, n, st, f, ha _ _ _ a h1, ha _ _ _ b h2, c⟩
theorem zSc.kept {Γ : zGam} {V V' : zV} {P : Nat → Prop} {tb b tg g n : Nat} {len : Int} (h : zSc Γ V tb b tg g n len) (ha : zag P V V') (h1 : P tb) (h2 : P tg) : zSc Γ V' tb b tg g n len := by
  obtain ⟨f, a, b, c⟩ := h
  exact ⟨f, ha _ _ _ a h1, ha _ _ _ b h2, c⟩
theorem zBo.kept {Γ : zGam} {V V' : zV} {P : Nat → Prop} {tt t ta ga tc ca : Nat} (h : zBo Γ V tt t ta ga tc ca) (ha : zag P V V') (h1 : P tt) (h2 : P ta) (h3 : P tc) : zBo Γ V' tt t ta ga tc ca := by
  obtain ⟨lk, gf, cf, a, b, c, d⟩ := h
  exact ⟨lk, gf, cf, ha _ _ _ a h1, ha _ _ _ b h2, ha _ _ _ c h3, d⟩
theorem zSk.kept {Γ : zGam} {V V' : zV} {P : Nat → Prop} {tk k tp pl bo : Nat} (h : zSk Γ V tk k tp pl bo) (ha : zag P V V') (h1 : P tk) (h2 : P tp) : zSk Γ V' tk k tp pl bo := by
  obtain ⟨mn, pf, a, b, c⟩ := h
  exact ⟨mn, pf, ha _ _ _ a h1, ha _ _ _ b h2, c⟩
/-- rows may change their signs -/
def z50 (Γ : zGam) (V V' : zV) : Prop := ∀ (a n : Nat) (f : Nat → Int), V a = some (50, za Γ.2.1 1 n f) → zc f → ∃ f' : Nat → Int, V' a = some (50, za Γ.2.1 1 n f') ∧ zc f'
theorem zWi.row {Γ : zGam} {V V' : zV} {P : Nat → Prop} {tag w : Nat} {cap lim pos mk : Int} (h : zWi Γ V tag w cap lim pos mk) (ha : zag P V V') (h1 : P tag) (h2 : z50 Γ V V') : zWi Γ V' tag w cap lim pos mk := by
  obtain ⟨r, n, st, f, a, b, c, d, e⟩ := h
  obtain ⟨f', b', d'⟩ := h2 r n f b d
  exact ⟨r, n, st, f', ha _ _ _ a h1, b', c, d', e⟩
theorem z50.of {Γ : zGam} {V V' : zV} {P : Nat → Prop} (ha : zag P V V') (h : P 50) : z50 Γ V V' := fun a n f h1 h2 => ⟨f, ha _ _ _ h1 h, h2⟩
theorem z50.set {Γ : zGam} {V : zV} {r n : Nat} {f f' : Nat → Int} (hr : V r = some (50, za Γ.2.1 1 n f)) (hf : zc f') : z50 Γ V (zu V r 50 (za Γ.2.1 1 n f')) := fun a n1 f1 h1 h2 => by
  by_cases h : a = r
  · subst h
    have e : za Γ.2.1 1 n1 f1 = za Γ.2.1 1 n f := by
      rw [h1] at hr
      exact (Prod.mk.inj (Option.some.inj hr)).2
    have en : n1 = n := (Prod.mk.inj (Prod.mk.inj (Sum.inl.inj e)).2).1
    subst en
    exact ⟨f', zu_eq _ _ _ _, hf⟩
  · exact ⟨f1, by rw [zu_ne h]; exact h1, h2⟩
/-- the cell of the object itself: its tallies are the numbers 30 to 33 -/
def zXc (ad : Nat → Nat) (a b c d : Int) : va_E := .inr (7, [.ref (ad 2), .ref (ad 20), .ref (ad 22), .ref (ad 24), .ref (ad 16), .ref (ad 31), .ref (ad 33), .ref (ad 35), .ref (ad 40), .ref (ad 45), .int (zI a), .int (zI b), .int (zI c), .int (zI d)])
def zPi (ad : Nat → Nat) (wd : Int) : va_E := .inr (3, [.ref (ad 25), .ref (ad 27), .ref (ad 29), .int (zI wd)])
def zSx (V : zV) (ad : Nat → Nat) (σ : Nat → Int) : Prop := V (ad 1) = some (1, zXc ad (σ 30) (σ 31) (σ 32) (σ 33))
def zSa (Γ : zGam) (V : zV) (ad : Nat → Nat) : Prop := V (ad 2) = some (2, zq Γ.2.1 3 6 (fun i => some (ad (10 + i))))
def zSw (Γ : zGam) (V : zV) (ad : Nat → Nat) (σ : Nat → Int) : Prop := ∀ i, i < 6 → zWi Γ V (10 + i) (ad (10 + i)) (σ (4 * i)) (σ (4 * i + 1)) (σ (4 * i + 2)) (σ (4 * i + 3))
def zSd (Γ : zGam) (V : zV) (ad : Nat → Nat) : Prop := ∃ c l p m : Int, zWi Γ V 16 (ad 16) c l p m
def zSt (Γ : zGam) (V : zV) (ad : Nat → Nat) (σ : Nat → Int) : Prop := zSc Γ V 20 (ad 20) 21 (ad 21) 80 (σ 24) ∧ zSc Γ V 22 (ad 22) 23 (ad 23) 80 (σ 25) ∧ (∃ n, zSc Γ V 31 (ad 31) 32 (ad 32) 80 n) ∧ (∃ n, zSc Γ V 33 (ad 33) 34 (ad 34) 80 n)
def zSp (Γ : zGam) (V : zV) (ad : Nat → Nat) (σ : Nat → Int) : Prop := V (ad 24) = some (24, zPi ad (σ 26)) ∧ zSc Γ V 25 (ad 25) 26 (ad 26) 8 (σ 27) ∧ zSc Γ V 27 (ad 27) 28 (ad 28) 160 (σ 28) ∧ zSc Γ V 29 (ad 29) 30 (ad 30) 160 (σ 29) ∧ 1 ≤ σ 26 ∧ σ 26 ≤ 8 ∧ σ 27 ≤ σ 26 ∧ σ 29 + σ 27 = σ 28
def zSf (Γ : zGam) (V : zV) (ad : Nat → Nat) : Prop := zSk Γ V 35 (ad 35) 39 (ad 39) (ad 36) ∧ zBo Γ V 36 (ad 36) 37 (ad 37) 38 (ad 38) ∧ zSk Γ V 40 (ad 40) 44 (ad 44) (ad 41) ∧ zBo Γ V 41 (ad 41) 42 (ad 42) 43 (ad 43) ∧ zBo Γ V 45 (ad 45) 46 (ad 46) 47 (ad 47)
def zS0 (Γ : zGam) (V : zV) (ad : Nat → Nat) (σ : Nat → Int) : Prop := zSx V ad σ ∧ zSa Γ V ad ∧ zSw Γ V ad σ ∧ zSd Γ V ad ∧ zSt Γ V ad σ ∧ zSp Γ V ad σ ∧ zSf Γ V ad
theorem zSx.kept {V V' : zV} {ad : Nat → Nat} {σ : Nat → Int} {P : Nat → Prop} (h : zSx V ad σ) (ha : zag P V V') (hp : P 1) : zSx V' ad σ := ha _ _ _ h hp
theorem zSa.kept {Γ : zGam} {V V' : zV} {ad : Nat → Nat} {P : Nat → Prop} (h : zSa Γ V ad) (ha : zag P V V') (hp : P 2) : zSa Γ V' ad := ha _ _ _ h hp
theorem zSw.kept {Γ : zGam} {V V' : zV} {ad : Nat → Nat} {σ : Nat → Int} {P : Nat → Prop} (h : zSw Γ V ad σ) (ha : zag P V V') (hp : ∀ i, i < 6 → P (10 + i)) (h5 : z50 Γ V V') : zSw Γ V' ad σ := fun i hi => (h i hi).row ha (hp i hi) h5
theorem zSd.kept {Γ : zGam} {V V' : zV} {ad : Nat → Nat} {P : Nat → Prop} (h : zSd Γ V ad) (ha : zag P V V') (hp : P 16) (h5 : z50 Γ V V') : zSd Γ V' ad := by
  obtain ⟨c, l, p, m, h⟩ := h
  exact ⟨c, l, p, m, h.row ha hp h5⟩
theorem zSt.kept {Γ : zGam} {V V' : zV} {ad : Nat → Nat} {σ : Nat → Int} {P : Nat → Prop} (h : zSt Γ V ad σ) (ha : zag P V V') (h0 : P 20) (h1 : P 21) (h2 : P 22) (h3 : P 23) (h4 : P 31) (h5 : P 32) (h6 : P 33) (h7 : P 34) : zSt Γ V' ad σ := by
  obtain ⟨a, b, ⟨n, c⟩, ⟨n2, d⟩⟩ := h
  exact ⟨a.kept ha h0 h1, b.kept ha h2 h3, ⟨n, c.kept ha h4 h5⟩, ⟨n2, d.kept ha h6 h7⟩⟩
theorem zSp.kept {Γ : zGam} {V V' : zV} {ad : Nat → Nat} {σ : Nat → Int} {P : Nat → Prop} (h : zSp Γ V ad σ) (ha : zag P V V') (h0 : P 24) (h1 : P 25) (h2 : P 26) (h3 : P 27) (h4 : P 28) (h5 : P 29) (h6 : P 30) : zSp Γ V' ad σ := by
  obtain ⟨a, b, c, d, e⟩ := h
  exact ⟨ha _ _ _ a h0, b.kept ha h1 h2, c.kept ha h3 h4, d.kept ha h5 h6, e⟩
theorem zSf.kept {Γ : zGam} {V V' : zV} {ad : Nat → Nat} {P : Nat → Prop} (h : zSf Γ V ad) (ha : zag P V V') (hp : ∀ t, 35 ≤ t → t ≤ 47 → P t) : zSf Γ V' ad := by
  obtain ⟨a, b, c, d, e⟩ := h
  exact ⟨a.kept ha (hp _ (by omega) (by omega)) (hp _ (by omega) (by omega)), b.kept ha (hp _ (by omega) (by omega)) (hp _ (by omega) (by omega)) (hp _ (by omega) (by omega)), c.kept ha (hp _ (by omega) (by omega)) (hp _ (by omega) (by omega)), d.kept ha (hp _ (by omega) (by omega)) (hp _ (by omega) (by omega)) (hp _ (by omega) (by omega)), e.kept ha (hp _ (by omega) (by omega)) (hp _ (by omega) (by omega)) (hp _ (by omega) (by omega))⟩
/-- nothing of the object's own changes -/
theorem zS0.kept {Γ : zGam} {V V' : zV} {ad : Nat → Nat} {σ : Nat → Int} {P : Nat → Prop} (h : zS0 Γ V ad σ) (ha : zag P V V') (hp : ∀ t, 1 ≤ t → t ≤ 50 → t ≠ 7 → P t) : zS0 Γ V' ad σ := by
  obtain ⟨a, b, c, d, e, f, g⟩ := h
  have q : ∀ t, 10 ≤ t → t ≤ 50 → P t := fun t h1 h2 => hp t (by omega) h2 (by omega)
  exact ⟨a.kept ha (hp 1 (by omega) (by omega) (by omega)), b.kept ha (hp 2 (by omega) (by omega) (by omega)), c.kept ha (fun i hi => q _ (by omega) (by omega)) (.of ha (q _ (by omega) (by omega))), d.kept ha (q _ (by omega) (by omega)) (.of ha (q _ (by omega) (by omega))),
    e.kept ha (q _ (by omega) (by omega)) (q _ (by omega) (by omega)) (q _ (by omega) (by omega)) (q _ (by omega) (by omega)) (q _ (by omega) (by omega)) (q _ (by omega) (by omega)) (q _ (by omega) (by omega)) (q _ (by omega) (by omega)),
    f.kept ha (q _ (by omega) (by omega)) (q _ (by omega) (by omega)) (q _ (by omega) (by omega)) (q _ (by omega) (by omega)) (q _ (by omega) (by omega)) (q _ (by omega) (by omega)) (q _ (by omega) (by omega)), g.kept ha (fun t h1 h2 => q t (by omega) (by omega))⟩
/-! the contents -/
/-- the tape: a window's row lies on it from ba on, a window begins at σ (40 + i), the tape ends at σ 46; the sign at a place is σ (1000 + the place) -/
def zCw (Γ : zGam) (V : zV) (ad : Nat → Nat) (σ : Nat → Int) (rr nn ba : Nat → Nat) : Prop := (∀ i, i < 6 → ∃ (st : Int) (f : Nat → Int), V (ad (10 + i)) = some (10 + i, .inr (6, [.ref (rr i), .int (zI st), .int (zI (σ (4 * i))), .int (zI (σ (4 * i + 1))), .int (zI (σ (4 * i + 2))), .int (zI (σ (4 * i + 3)))])) ∧ V (rr i) = some (50, za Γ.2.1 1 (nn i) f) ∧ zWb st (σ (4 * i)) (σ (4 * i + 1)) (σ (4 * i + 2)) (σ (4 * i + 3)) (nn i) ∧ zc f ∧ σ (4 * i) ≤ 40 ∧ (ba i : Int) + st = σ (40 + i) ∧ ((ba i + nn i : Nat) : Int) ≤ σ 46 ∧ ∀ k, k < nn i → f k = σ (1000 + (ba i + k))) ∧ ∀ i j, i < 6 → j < 6 → (rr i = rr j ∧ nn i = nn j ∧ ba i = ba j) ∨ (rr i ≠ rr j ∧ (ba i + nn i ≤ ba j ∨ ba j + nn j ≤ ba i))
def zCb (Γ : zGam) (V : zV) (g tg : Nat) (len : Int) (σ : Nat → Int) (B : Nat) : Prop := ∃ f : Nat → Int, V g = some (tg, za Γ.2.1 1 80 f) ∧ zc f ∧ ∀ k : Nat, k < 80 → (k : Int) < len → f k = σ (B + k)
def zCt (Γ : zGam) (V : zV) (ad : Nat → Nat) (σ : Nat → Int) : Prop := ((∃ rr nn ba : Nat → Nat, zCw Γ V ad σ rr nn ba) ∧ ∀ a : Nat, σ 46 ≤ (a : Int) → σ (1000 + a) = 0) ∧ zCb Γ V (ad 21) 21 (σ 24) σ 100 ∧ zCb Γ V (ad 23) 23 (σ 25) σ 200
/-- the places of σ that tell the contents -/
def zj (j : Nat) : Prop := j < 26 ∨ (40 ≤ j ∧ j ≤ 46) ∨ 100 ≤ j
theorem zCb.kept {Γ : zGam} {V V' : zV} {P : Nat → Prop} {g tg B : Nat} {len : Int} {σ : Nat → Int} (h : zCb Γ V g tg len σ B) (ha : zag P V V') (hp : P tg) : zCb Γ V' g tg len σ B := by
  obtain ⟨f, h1, h2⟩ := h
  exact ⟨f, ha _ _ _ h1 hp, h2⟩
theorem zCw.kept {Γ : zGam} {V V' : zV} {ad : Nat → Nat} {σ : Nat → Int} {P : Nat → Prop} {rr nn ba : Nat → Nat} (h : zCw Γ V ad σ rr nn ba) (ha : zag P V V') (hp : ∀ i, i < 6 → P (10 + i)) (h5 : P 50) : zCw Γ V' ad σ rr nn ba := by
  refine ⟨fun i hi => ?_, h.2⟩
  obtain ⟨st, f, h1, h2, h3⟩ := h.1 i hi
  exact ⟨st, f, ha _ _ _ h1 (hp i hi), ha _ _ _ h2 h5, h3⟩
theorem zCw.sig {Γ : zGam} {V : zV} {ad : Nat → Nat} {σ σ' : Nat → Int} {rr nn ba : Nat → Nat} (h : zCw Γ V ad σ rr nn ba) (he : ∀ j, zj j → σ' j = σ j) : zCw Γ V ad σ' rr nn ba := by
  refine ⟨fun i hi => ?_, h.2⟩
  obtain ⟨st, f, h1, h2, h3, h4, h5, h6, h7, h8⟩ := h.1 i hi
  have e : ∀ k, k < 4 → σ' (4 * i + k) = σ (4 * i + k) := fun k hk => he _ (Or.inl (by omega))
  have e0 : σ' (4 * i) = σ (4 * i) := e 0 (by omega)
  refine ⟨st, f, ?_, h2, ?_, h4, ?_, ?_, ?_, fun k hk => ?_⟩
  · rw [e0, e 1 (by omega), e 2 (by omega), e 3 (by omega)]
    exact h1
  · rw [e0, e 1 (by omega), e 2 (by omega), e 3 (by omega)]
    exact h3
  · rw [e0]
    exact h5
  · rw [he _ (Or.inr (Or.inl (by omega)))]
    exact h6
  · rw [he _ (Or.inr (Or.inl (by omega)))]
    exact h7
  · rw [he _ (Or.inr (Or.inr (by omega)))]
    exact h8 k hk
theorem zCb.sig {Γ : zGam} {V : zV} {g tg B : Nat} {len len' : Int} {σ σ' : Nat → Int} (h : zCb Γ V g tg len σ B) (hB : 100 ≤ B) (hl : len' = len) (he : ∀ j, zj j → σ' j = σ j) : zCb Γ V g tg len' σ' B := by
  subst hl
  obtain ⟨f, h1, h0, h2⟩ := h
  exact ⟨f, h1, h0, fun k h8 hk => by rw [he _ (Or.inr (Or.inr (by omega)))]; exact h2 k h8 hk⟩
theorem zCt.kept {Γ : zGam} {V V' : zV} {ad : Nat → Nat} {σ : Nat → Int} {P : Nat → Prop} (h : zCt Γ V ad σ) (ha : zag P V V') (hp : ∀ t, (10 ≤ t ∧ t ≤ 15) ∨ t = 21 ∨ t = 23 ∨ t = 50 → P t) : zCt Γ V' ad σ := by
  obtain ⟨⟨⟨rr, nn, ba, w⟩, z⟩, b, k⟩ := h
  exact ⟨⟨⟨rr, nn, ba, w.kept ha (fun i hi => hp _ (by omega)) (hp _ (by omega))⟩, z⟩, b.kept ha (hp _ (by omega)), k.kept ha (hp _ (by omega))⟩
theorem zCt.sig {Γ : zGam} {V : zV} {ad : Nat → Nat} {σ σ' : Nat → Int} (h : zCt Γ V ad σ) (he : ∀ j, zj j → σ' j = σ j) : zCt Γ V ad σ' := by
  obtain ⟨⟨⟨rr, nn, ba, w⟩, z⟩, b, k⟩ := h
  exact ⟨⟨⟨rr, nn, ba, w.sig he⟩, fun a h2 => by
    rw [he 46 (Or.inr (Or.inl (by omega)))] at h2
    rw [he _ (Or.inr (Or.inr (by omega)))]
    exact z a h2⟩, b.sig (by decide) (he _ (Or.inl (by decide))) he, k.sig (by decide) (he _ (Or.inl (by decide))) he⟩
def zS (Γ : zGam) (V : zV) (ad : Nat → Nat) (σ : Nat → Int) : Prop := zSx V ad σ ∧ (zSa Γ V ad ∧ zCt Γ V ad σ) ∧ zSw Γ V ad σ ∧ zSd Γ V ad ∧ zSt Γ V ad σ ∧ zSp Γ V ad σ ∧ zSf Γ V ad
theorem zS.c0 {Γ : zGam} {V : zV} {ad : Nat → Nat} {σ : Nat → Int} (h : zS Γ V ad σ) : zS0 Γ V ad σ := ⟨h.1, h.2.1.1, h.2.2⟩
theorem zS.ct {Γ : zGam} {V : zV} {ad : Nat → Nat} {σ : Nat → Int} (h : zS Γ V ad σ) : zCt Γ V ad σ := h.2.1.2
theorem zS0.mk {Γ : zGam} {V : zV} {ad : Nat → Nat} {σ : Nat → Int} (h : zS0 Γ V ad σ) (c : zCt Γ V ad σ) : zS Γ V ad σ := ⟨h.1, ⟨h.2.1, c⟩, h.2.2⟩
theorem zS.kept {Γ : zGam} {V V' : zV} {ad : Nat → Nat} {σ : Nat → Int} {P : Nat → Prop} (h : zS Γ V ad σ) (ha : zag P V V') (hp : ∀ t, 1 ≤ t → t ≤ 50 → t ≠ 7 → P t) : zS Γ V' ad σ := (h.c0.kept ha hp).mk (h.ct.kept ha (fun t ht => hp t (by omega) (by omega) (by omega)))
end
section
set_option maxRecDepth 100000 in
set_option maxHeartbeats 4000000 in
theorem m_X5_moveTextToFront (l : Launch) (Γ : zGam) {V : zV} {w r tg tr n : Nat} {st cap lim pos mk : Int} {f : Nat → Int} (hw : V w = some (tg, .inr (6, [.ref r, .int (zI st), .int (zI cap), .int (zI lim), .int (zI pos), .int (zI mk)]))) (hr : V r = some (tr, za Γ.2.1 1 n f)) (hb : zWb st cap lim pos mk n) (hcf : zc f) : zM l Γ 3 yX5_moveTextToFront wsX5_moveTextToFront 0 0 V [.ref w] (fun rv V' => rv = none ∧ V' = zu (zu V r tr (za Γ.2.1 1 n (zmv f st (lim - pos) pos))) w tg (.inr (6, [.ref r, .int (zI (st)), .int (zI (cap)), .int (zI (cap)), .int (zI (lim - pos)), .int (zI (-9))]))) := by
  obtain ⟨hb1, hb2, hb3, hb4, hb5, hb6, hb7, hb8⟩ := id hb
  have hwr : w ≠ r := zne_oa hw hr
  have w0 : Cond.fieldLink RX5 21 "Sashwords$Window" "capacity" "I" ∈ wsX5_moveTextToFront := by decide +kernel
  have iX5 : ∀ w ∈ u_ws RX5 TX5 6, w ∈ wsX5_moveTextToFront := by decide +kernel
  refine zM_of (cc := cX5_moveTextToFront) (nL := 3) (ret := none) (own := RX5) (by decide +kernel) rfl rfl (Nat.le_of_ble_eq_true rfl) (fun C X hi0 => ?_)
  show zG C V 0 0 0 [(0, .ref w)] []
  refine zr_aload_n X 1 0 dX5_moveTextToFront_0 rfl rfl ?_
  refine zr_callV (kc' := 0) (ks' := 0) X 4 0 (m_X5_size l Γ hw (by omega)) gX5_moveTextToFront_X5_size rfl (by decide +kernel) rfl (by decide) hw rfl rfl (Nat.le_of_ble_eq_true rfl) dX5_moveTextToFront_1 rfl (by omega) (by omega) (fun rv1 V2 hp3 => ?_)
  rw [hp3.1, hp3.2]
  show zG C V 0 0 4 [(0, .ref w)] [.int (zI (lim - pos))]
  refine zr_istore_n X 5 [(1, .int (zI (lim - pos))), (0, .ref w)] dX5_moveTextToFront_4 rfl (by decide) rfl ?_
  refine zr_iconst X 6 dX5_moveTextToFront_5 rfl ?_
  refine zr_istore_n X 7 [(2, .int (zI (0))), (1, .int (zI (lim - pos))), (0, .ref w)] dX5_moveTextToFront_6 rfl (by decide) rfl ?_
  refine zr_view (V' := zu V r tr (za Γ.2.1 1 n (zmv f st 0 pos))) (by rw [zmv_0]; exact (zu_id hr).symm) ?_
  have loop : ∀ (N : Nat) (k : Int), 0 ≤ k ∧ k ≤ lim - pos → (lim - pos - k).toNat = N → zG C (zu V r tr (za Γ.2.1 1 n (zmv f st k pos))) 0 0 7 [(2, .int (zI (k))), (1, .int (zI (lim - pos))), (0, .ref w)] [] := by
    intro N
    induction N using Nat.strongRecOn with
    | _ N ih =>
    intro k hI hN
    obtain ⟨hI2, hI3⟩ := id hI
    have hI1 : zc (zmv f st k pos) := zmv_zc hcf
    refine zr_iload_n X 8 0 dX5_moveTextToFront_7 rfl rfl ?_
    refine zr_iload_n X 9 1 dX5_moveTextToFront_8 rfl rfl ?_
    refine zr_icmp_ge X 28 12 dX5_moveTextToFront_9 rfl rfl (by omega) (by omega) (fun bq4 => ?_) (fun bq4 => ?_)
    · refine zr_aload_n X 29 2 dX5_moveTextToFront_28 rfl rfl ?_
      refine zr_iload_n X 30 1 dX5_moveTextToFront_29 rfl rfl ?_
      refine zr_aload_n X 31 2 dX5_moveTextToFront_30 rfl rfl ?_
      refine zr_get X 34 6 2 ((zu_ne (zne_oa hw hr)).trans hw) rfl iX5 (by decide) w0 rfl rfl dX5_moveTextToFront_31 rfl ?_
      refine zr_callV (kc' := 0) (ks' := 0) X 37 2 (m_X5_goTo l Γ (p := lim - pos) (q := cap) ((zu_ne (zne_oa hw hr)).trans hw)) gX5_moveTextToFront_X5_goTo rfl (by decide +kernel) rfl (by decide) ((zu_ne (zne_oa hw hr)).trans hw) rfl rfl (Nat.le_of_ble_eq_true rfl) dX5_moveTextToFront_34 rfl (by omega) (by omega) (fun rv5 V6 hp7 => ?_)
      rw [hp7.1, hp7.2]
      show zG C (zu (zu V r tr (za Γ.2.1 1 n (zmv f st k pos))) w tg (.inr (6, [.ref r, .int (zI (st)), .int (zI (cap)), .int (zI (cap)), .int (zI (lim - pos)), .int (zI (-9))]))) 0 0 37 [(2, .int (zI (k))), (1, .int (zI (lim - pos))), (0, .ref w)] []
      exact zr_vret X rfl ⟨rfl, by rw [show k = lim - pos by omega]⟩ dX5_moveTextToFront_37
    · refine zr_aload_n X 13 2 dX5_moveTextToFront_12 rfl rfl ?_
      refine zr_iload_n X 14 0 dX5_moveTextToFront_13 rfl rfl ?_
      refine zr_aload_n X 15 2 dX5_moveTextToFront_14 rfl rfl ?_
      refine zr_iload_n X 16 0 dX5_moveTextToFront_15 rfl rfl ?_
      refine zr_callV (kc' := 0) (ks' := 0) X 19 1 (m_X5_at l Γ (k := k) ((zu_ne (zne_oa hw hr)).trans hw) (zu_eq _ _ _ _) hb (by omega)) gX5_moveTextToFront_X5_at rfl (by decide +kernel) rfl (by decide) ((zu_ne (zne_oa hw hr)).trans hw) rfl rfl (Nat.le_of_ble_eq_true rfl) dX5_moveTextToFront_16 rfl (by omega) (by omega) (fun rv8 V9 hp10 => ?_)
      rw [hp10.1, hp10.2]
      rw [if_pos (show 0 ≤ k ∧ k < lim - pos by omega)]
      have hxx := hI1 (st + pos + k).toNat
      show zG C (zu V r tr (za Γ.2.1 1 n (zmv f st k pos))) 0 0 19 [(2, .int (zI (k))), (1, .int (zI (lim - pos))), (0, .ref w)] [.int (zI ((zmv f st k pos) (st + pos + k).toNat)), .int (zI (k)), .ref w]
      refine zr_callV (kc' := 0) (ks' := 0) X 22 2 (m_X5_store l Γ (p := k) (x := (zmv f st k pos) (st + pos + k).toNat) ((zu_ne (zne_oa hw hr)).trans hw) (zu_eq _ _ _ _) (by omega)) gX5_moveTextToFront_X5_store rfl (by decide +kernel) rfl (by decide) ((zu_ne (zne_oa hw hr)).trans hw) rfl rfl (Nat.le_of_ble_eq_true rfl) dX5_moveTextToFront_19 rfl (by omega) (by omega) (fun rv11 V12 hp13 => ?_)
      rw [hp13.1, hp13.2]
      rw [zu_zu]
      show zG C (zu V r tr (za Γ.2.1 1 n (zf (zmv f st k pos) (st + k).toNat ((zmv f st k pos) (st + pos + k).toNat)))) 0 0 22 [(2, .int (zI (k))), (1, .int (zI (lim - pos))), (0, .ref w)] []
      refine zr_iinc X 25 0 [(2, .int (zI (k + 1))), (1, .int (zI (lim - pos))), (0, .ref w)] dX5_moveTextToFront_22 rfl rfl (by decide) rfl ?_
      refine zr_goto X 7 dX5_moveTextToFront_25 rfl ?_
      rw [zmv_step (by omega)]
      exact ih _ (by omega) (k + 1) ⟨by omega, by omega⟩ rfl
  exact loop _ 0 ⟨by omega, by omega⟩ rfl
/-! Window: what makes rows, and moving text to the front; the constructor of Text and of Script and Window -/
set_option maxRecDepth 100000 in
set_option maxHeartbeats 4000000 in
theorem m_X5_becomeNew (l : Launch) (Γ : zGam) {V : zV} {w r tg : Nat} {st cap lim pos mk : Int} {z : Int} (hw : V w = some (tg, .inr (6, [.ref r, .int (zI st), .int (zI cap), .int (zI lim), .int (zI pos), .int (zI mk)]))) (hz : 0 ≤ z ∧ z ≤ 40) : zM l Γ 2 yX5_becomeNew wsX5_becomeNew 1 z.toNat V [.ref w, .int (zI (z))] (fun rv V' => rv = none ∧ ∃ q, V q = none ∧ V' = zu (zu V q 50 (za Γ.2.1 1 z.toNat (fun _ => 0))) w tg (.inr (6, [.ref q, .int (zI (0)), .int (zI (((z.toNat : Nat) : Int))), .int (zI (((z.toNat : Nat) : Int))), .int (zI (0)), .int (zI (-9))]))) := by
  have w0 : Cond.methodLink RX5 9 Lib.Math.max.name ∈ wsX5_becomeNew := by decide +kernel
  have w1 : Cond.static Lib.Math.max.name ∈ wsX5_becomeNew := by decide +kernel
  have w2 : Cond.initialized "java/lang/Math" ∈ wsX5_becomeNew := by decide +kernel
  have w3 : Cond.code Lib.Math.max.name Lib.Math.max.code 2 (some .int) ∈ wsX5_becomeNew := by decide +kernel
  have w4 : Cond.arrayClass .char ∈ wsX5_becomeNew := by decide +kernel
  have w5 : Cond.fieldLink RX5 15 "Sashwords$Window" "row" "[C" ∈ wsX5_becomeNew := by decide +kernel
  have iX5 : ∀ w ∈ u_ws RX5 TX5 6, w ∈ wsX5_becomeNew := by decide +kernel
  have w7 : Cond.fieldLink RX5 38 "Sashwords$Window" "start" "I" ∈ wsX5_becomeNew := by decide +kernel
  have w8 : Cond.fieldLink RX5 21 "Sashwords$Window" "capacity" "I" ∈ wsX5_becomeNew := by decide +kernel
  refine zM_of (cc := cX5_becomeNew) (nL := 2) (ret := none) (own := RX5) (by decide +kernel) rfl rfl (Nat.le_of_ble_eq_true rfl) (fun C X hi0 => ?_)
  show zG C V 1 z.toNat 0 [(0, .ref w), (1, .int (zI (z)))] []
  refine zr_aload_n X 1 0 dX5_becomeNew_0 rfl rfl ?_
  refine zr_iload_n X 2 1 dX5_becomeNew_1 rfl rfl ?_
  refine zr_iconst X 3 dX5_becomeNew_2 rfl ?_
  refine zr_mmax X 6 (z) w0 w1 w2 w3 (by decide) (Nat.le_of_ble_eq_true rfl) (by omega) (by omega) (by split <;> omega) dX5_becomeNew_3 rfl ?_
  refine zr_newac (kc' := (1 - 1)) (ks' := (z.toNat - (z).toNat)) X 8 50 w4 (by omega) dX5_becomeNew_6 rfl (by omega) (by omega) (fun q1 hq2 => ?_)
  refine zr_put X 11 6 0 [.ref q1, .int (zI (st)), .int (zI (cap)), .int (zI (lim)), .int (zI (pos)), .int (zI (mk))] tyX5 ((zu_ne (zne_new hw hq2)).trans hw) rfl iX5 tyX5_ok nmX5 (by decide) w5 rfl rfl rfl rfl (Nat.le_of_ble_eq_true rfl) rfl dX5_becomeNew_8 rfl ?_
  refine zr_aload_n X 12 0 dX5_becomeNew_11 rfl rfl ?_
  refine zr_iconst X 13 dX5_becomeNew_12 rfl ?_
  refine zr_put X 16 6 1 [.ref q1, .int (zI (0)), .int (zI (cap)), .int (zI (lim)), .int (zI (pos)), .int (zI (mk))] tyX5 (zu_eq _ _ _ _) rfl iX5 tyX5_ok nmX5 (by decide) w7 rfl rfl rfl rfl (Nat.le_of_ble_eq_true rfl) rfl dX5_becomeNew_13 rfl ?_
  refine zr_view (zu_zu _ _ _ _ _ _) ?_
  refine zr_aload_n X 17 0 dX5_becomeNew_16 rfl rfl ?_
  refine zr_aload_n X 18 0 dX5_becomeNew_17 rfl rfl ?_
  refine zr_get X 21 6 0 (zu_eq _ _ _ _) rfl iX5 (by decide) w5 rfl rfl dX5_becomeNew_18 rfl ?_
  refine zr_alen X 22 1 ((zu_ne (Ne.symm (zne_new hw hq2))).trans (zu_eq _ _ _ _)) (by decide) dX5_becomeNew_21 rfl ?_
  refine zr_put X 25 6 2 [.ref q1, .int (zI (0)), .int (zI (((z).toNat : Nat))), .int (zI (lim)), .int (zI (pos)), .int (zI (mk))] tyX5 (zu_eq _ _ _ _) rfl iX5 tyX5_ok nmX5 (by decide) w8 rfl rfl rfl rfl (Nat.le_of_ble_eq_true rfl) rfl dX5_becomeNew_22 rfl ?_
  refine zr_view (zu_zu _ _ _ _ _ _) ?_
  refine zr_aload_n X 26 0 dX5_becomeNew_25 rfl rfl ?_
  refine zr_iconst X 27 dX5_becomeNew_26 rfl ?_
  refine zr_aload_n X 28 0 dX5_becomeNew_27 rfl rfl ?_
  refine zr_get X 31 6 2 (zu_eq _ _ _ _) rfl iX5 (by decide) w8 rfl rfl dX5_becomeNew_28 rfl ?_
  refine zr_callV (kc' := (1 - 1)) (ks' := (z.toNat - (z).toNat)) X 34 2 (m_X5_goTo l Γ (p := 0) (q := ((z).toNat : Nat)) (zu_eq _ _ _ _)) gX5_becomeNew_X5_goTo rfl (by decide +kernel) rfl (by decide) (zu_eq _ _ _ _) rfl rfl (Nat.le_of_ble_eq_true rfl) dX5_becomeNew_31 rfl (by omega) (by omega) (fun rv3 V4 hp5 => ?_)
  rw [hp5.1, hp5.2]
  rw [zu_zu]
  show zG C (zu (zu V q1 50 (za Γ.2.1 1 ((z).toNat) (fun _ => 0))) w tg (.inr (6, [.ref q1, .int (zI (0)), .int (zI (((z).toNat : Nat))), .int (zI (((z).toNat : Nat))), .int (zI (0)), .int (zI (-9))]))) (1 - 1) (z.toNat - (z).toNat) 34 [(0, .ref w), (1, .int (zI (z)))] []
  exact zr_vret X rfl ⟨rfl, q1, hq2, rfl⟩ dX5_becomeNew_34
end
section
/-! windows as a whole -/
def zWs (Γ : zGam) (V V' : zV) (tw w : Nat) (c l p m : Int) : Prop := zWi Γ V' tw w c l p m ∧ zag (fun t => t ≠ tw ∧ t ≠ 50) V V' ∧ z50 Γ V V'
theorem zWi.cl {Γ : zGam} {V : zV} {tw w : Nat} {c l p m : Int} (h : zWi Γ V tw w c l p m) : zCl V w 6 := by
  obtain ⟨r, n, st, f, h1, -⟩ := h
  exact ⟨_, _, h1⟩
theorem zWi.rg {Γ : zGam} {V : zV} {tw w : Nat} {c l p m : Int} (h : zWi Γ V tw w c l p m) : 0 ≤ p ∧ p ≤ l ∧ l ≤ c ∧ c ≤ 40 ∧ (m = -9 ∨ 0 ≤ m) ∧ m ≤ p := by
  obtain ⟨r, n, st, f, h1, h2, ⟨a1, a2, a3, a4, a5, a6, a7, a8⟩, h4, h5⟩ := h
  exact ⟨a3, a4, a5, h5, a6, a7⟩
theorem zWs.one {Γ : zGam} {V : zV} {tw w r n : Nat} {c l p m st : Int} {f : Nat → Int} {e0 : va_E} (h1 : V w = some (tw, e0)) (h2 : V r = some (50, za Γ.2.1 1 n f)) (htw : tw ≠ 50) (hb : zWb st c l p m n) (hc : zc f) (h40 : c ≤ 40) : zWs Γ V (zu V w tw (.inr (6, [.ref r, .int (zI st), .int (zI c), .int (zI l), .int (zI p), .int (zI m)]))) tw w c l p m := by
  have hne : r ≠ w := Ne.symm (zne_tag h1 h2 htw)
  exact ⟨⟨r, n, st, f, zu_eq _ _ _ _, (zu_ne hne).trans h2, hb, hc, h40⟩, zag.rf.set h1 (fun q => q.1 rfl), z50.of (P := fun t => t ≠ tw) (zag.rf.set h1 (fun q => q rfl)) (Ne.symm htw)⟩
def zWn (Γ : zGam) (V V' : zV) (tw w : Nat) (c l p m : Int) : Prop := zWs Γ V V' tw w c l p m ∧ zag (fun t => t ≠ tw) V V'
theorem zWn.one {Γ : zGam} {V : zV} {tw w r n : Nat} {c l p m st : Int} {f : Nat → Int} {e0 : va_E} (h1 : V w = some (tw, e0)) (h2 : V r = some (50, za Γ.2.1 1 n f)) (htw : tw ≠ 50) (hb : zWb st c l p m n) (hc : zc f) (h40 : c ≤ 40) : zWn Γ V (zu V w tw (.inr (6, [.ref r, .int (zI st), .int (zI c), .int (zI l), .int (zI p), .int (zI m)]))) tw w c l p m := ⟨zWs.one h1 h2 htw hb hc h40, zag.rf.set h1 (fun q => q rfl)⟩
theorem zWs.two {Γ : zGam} {V : zV} {tw w r n : Nat} {c l p m st : Int} {f f' : Nat → Int} {e0 : va_E} (h1 : V w = some (tw, e0)) (h2 : V r = some (50, za Γ.2.1 1 n f)) (htw : tw ≠ 50) (hb : zWb st c l p m n) (hc : zc f') (h40 : c ≤ 40) : zWs Γ V (zu (zu V r 50 (za Γ.2.1 1 n f')) w tw (.inr (6, [.ref r, .int (zI st), .int (zI c), .int (zI l), .int (zI p), .int (zI m)]))) tw w c l p m := by
  have hne : w ≠ r := zne_tag h1 h2 htw
  have g1 : zu V r 50 (za Γ.2.1 1 n f') w = some (tw, e0) := (zu_ne hne).trans h1
  have g2 : zu V r 50 (za Γ.2.1 1 n f') r = some (50, za Γ.2.1 1 n f') := zu_eq _ _ _ _
  obtain ⟨a, b, c1⟩ := zWs.one (Γ := Γ) g1 g2 htw hb hc h40
  refine ⟨a, (zag.rf.set h2 (fun q => q.2 rfl)).tr b, ?_⟩
  intro q n1 f1 hq1 hq2
  obtain ⟨f2, k1, k2⟩ := z50.set h2 hc q n1 f1 hq1 hq2
  exact c1 q n1 f2 k1 k2
section ZE
variable (l0 : Launch) (Γ : zGam) {V : zV} {tw w : Nat} {c l p m : Int}
theorem e_size (h : zWi Γ V tw w c l p m) : zM l0 Γ 0 yX5_size wsX5_size 0 0 V [.ref w] (fun rv V' => rv = some (.int (zI (l - p))) ∧ V' = V) := by
  obtain ⟨r, n, st, f, h1, h2, h3, h4, h5⟩ := h
  obtain ⟨a1, a2, a3, a4, a5, a6, a7, a8⟩ := id h3
  exact m_X5_size l0 Γ h1 (by omega)
theorem e_at (h : zWi Γ V tw w c l p m) {k : Int} (hk : -2147483648 ≤ k ∧ k ≤ 2147483647) : zM l0 Γ 1 yX5_at wsX5_at 0 0 V [.ref w, .int (zI k)] (fun rv V' => ∃ x : Int, rv = some (.int (zI x)) ∧ V' = V ∧ -9 ≤ x ∧ x ≤ 255 ∧ (0 ≤ k ∧ k < l - p → 0 ≤ x) ∧ (¬ (0 ≤ k ∧ k < l - p) → x = -9)) := by
  obtain ⟨r, n, st, f, h1, h2, h3, h4, h5⟩ := h
  refine (m_X5_at l0 Γ h1 h2 h3 hk).imp (fun rv V' hp => ?_)
  obtain ⟨e1, e2⟩ := hp
  have hf := h4 (st + p + k).toNat
  refine ⟨_, e1, e2, ?_⟩
  by_cases c : 0 ≤ k ∧ k < l - p
  · rw [if_pos c]
    exact ⟨by omega, by omega, fun _ => hf.1, fun q => absurd c q⟩
  · rw [if_neg c]
    exact ⟨by omega, by omega, fun q => absurd q c, fun _ => rfl⟩
theorem e_atPlace (h : zWi Γ V tw w c l p m) {k : Int} (hk : -2147483648 ≤ k ∧ k ≤ 2147483647) : zM l0 Γ 0 yX5_atPlace wsX5_atPlace 0 0 V [.ref w, .int (zI k)] (fun rv V' => ∃ x : Int, rv = some (.int (zI x)) ∧ V' = V ∧ -9 ≤ x ∧ x ≤ 255 ∧ (0 ≤ k ∧ k < l → 0 ≤ x) ∧ (¬ (0 ≤ k ∧ k < l) → x = -9)) := by
  obtain ⟨r, n, st, f, h1, h2, h3, h4, h5⟩ := h
  refine (m_X5_atPlace l0 Γ h1 h2 h3 hk).imp (fun rv V' hp => ?_)
  obtain ⟨e1, e2⟩ := hp
  have hf := h4 (st + k).toNat
  refine ⟨_, e1, e2, ?_⟩
  by_cases c : 0 ≤ k ∧ k < l
  · rw [if_pos c]
    exact ⟨by omega, by omega, fun _ => hf.1, fun q => absurd c q⟩
  · rw [if_neg c]
    exact ⟨by omega, by omega, fun q => absurd q c, fun _ => rfl⟩
theorem e_write_y (h : zWi Γ V tw w c l p m) (htw : tw ≠ 50) {x : Int} (hx : 0 ≤ x ∧ x ≤ 255) (hlt : p < l) : zM l0 Γ 1 yX5_writeSign wsX5_writeSign 0 0 V [.ref w, .int (zI x)] (fun rv V' => rv = some (.int (zI 1)) ∧ zWs Γ V V' tw w c l (p + 1) m) := by
  obtain ⟨r, n, st, f, h1, h2, h3, h4, h5⟩ := h
  refine (m_X5_writeSign_y l0 Γ h1 h2 h3 hx hlt).imp (fun rv V' hp => ?_)
  obtain ⟨a1, a2, a3, a4, a5, a6, a7, a8⟩ := id h3
  refine ⟨hp.1, ?_⟩
  rw [hp.2]
  exact zWs.two h1 h2 htw ⟨by omega, by omega, by omega, by omega, by omega, a6, by omega, a8⟩ (zc_zf h4 hx) h5
theorem e_write_n (h : zWi Γ V tw w c l p m) {x : Int} (hlt : ¬ p < l) : zM l0 Γ 1 yX5_writeSign wsX5_writeSign 0 0 V [.ref w, .int (zI x)] (fun rv V' => rv = some (.int (zI 0)) ∧ V' = V) := by
  obtain ⟨r, n, st, f, h1, h2, h3, h4, h5⟩ := h
  obtain ⟨a1, a2, a3, a4, a5, a6, a7, a8⟩ := id h3
  exact m_X5_writeSign_n l0 Γ h1 (by omega)
theorem e_read (h : zWi Γ V tw w c l p m) (htw : tw ≠ 50) (hlt : p < l) : zM l0 Γ 2 yX5_readSign wsX5_readSign 0 0 V [.ref w] (fun rv V' => ∃ x : Int, rv = some (.int (zI x)) ∧ 0 ≤ x ∧ x ≤ 255 ∧ zWn Γ V V' tw w c l (p + 1) m) := by
  obtain ⟨r, n, st, f, h1, h2, h3, h4, h5⟩ := h
  refine (m_X5_readSign l0 Γ h1 h2 h3 hlt).imp (fun rv V' hp => ?_)
  obtain ⟨a1, a2, a3, a4, a5, a6, a7, a8⟩ := id h3
  refine ⟨_, hp.1, (h4 _).1, (h4 _).2, ?_⟩
  rw [hp.2]
  exact zWn.one h1 h2 htw ⟨by omega, by omega, by omega, by omega, by omega, a6, by omega, a8⟩ h4 h5
theorem e_goTo (h : zWi Γ V tw w c l p m) (htw : tw ≠ 50) {a b : Int} (hab : 0 ≤ a ∧ a ≤ b ∧ b ≤ c) : zM l0 Γ 0 yX5_goTo wsX5_goTo 0 0 V [.ref w, .int (zI a), .int (zI b)] (fun rv V' => rv = none ∧ zWn Γ V V' tw w c b a (-9)) := by
  obtain ⟨r, n, st, f, h1, h2, h3, h4, h5⟩ := h
  refine (m_X5_goTo l0 Γ h1).imp (fun rv V' hp => ?_)
  obtain ⟨a1, a2, a3, a4, a5, a6, a7, a8⟩ := id h3
  refine ⟨hp.1, ?_⟩
  rw [hp.2]
  exact zWn.one h1 h2 htw ⟨by omega, by omega, by omega, by omega, by omega, Or.inl rfl, by omega, a8⟩ h4 h5
theorem e_setMark (h : zWi Γ V tw w c l p m) (htw : tw ≠ 50) : zM l0 Γ 0 yX5_setMark wsX5_setMark 0 0 V [.ref w] (fun rv V' => rv = none ∧ zWn Γ V V' tw w c l p p) := by
  obtain ⟨r, n, st, f, h1, h2, h3, h4, h5⟩ := h
  refine (m_X5_setMark l0 Γ h1).imp (fun rv V' hp => ?_)
  obtain ⟨a1, a2, a3, a4, a5, a6, a7, a8⟩ := id h3
  refine ⟨hp.1, ?_⟩
  rw [hp.2]
  exact zWn.one h1 h2 htw ⟨by omega, by omega, by omega, by omega, by omega, Or.inr a3, by omega, a8⟩ h4 h5
theorem e_goToMark (h : zWi Γ V tw w c l p m) (htw : tw ≠ 50) (hm : m ≠ -9) : zM l0 Γ 0 yX5_goToMark wsX5_goToMark 0 0 V [.ref w] (fun rv V' => rv = none ∧ zWn Γ V V' tw w c l m m) := by
  obtain ⟨r, n, st, f, h1, h2, h3, h4, h5⟩ := h
  refine (m_X5_goToMark l0 Γ h1).imp (fun rv V' hp => ?_)
  obtain ⟨a1, a2, a3, a4, a5, a6, a7, a8⟩ := id h3
  refine ⟨hp.1, ?_⟩
  rw [hp.2]
  exact zWn.one h1 h2 htw ⟨by omega, by omega, by omega, by omega, by omega, a6, by omega, a8⟩ h4 h5
theorem e_becomeNew (h : zWi Γ V tw w c l p m) (htw : tw ≠ 50) {z : Int} (hz : 0 ≤ z ∧ z ≤ 40) : zM l0 Γ 2 yX5_becomeNew wsX5_becomeNew 1 z.toNat V [.ref w, .int (zI z)] (fun rv V' => rv = none ∧ zWs Γ V V' tw w z z 0 (-9)) := by
  obtain ⟨r, n, st, f, h1, h2, h3, h4, h5⟩ := h
  refine (m_X5_becomeNew l0 Γ h1 hz).imp (fun rv V' hp => ?_)
  obtain ⟨e1, q, hq, e2⟩ := hp
  refine ⟨e1, ?_⟩
  rw [e2]
  have ez : ((z.toNat : Nat) : Int) = z := by omega
  have g1 : zu V q 50 (za Γ.2.1 1 z.toNat (fun _ => 0)) w = some (tw, _) := (zu_ne (zne_new h1 hq)).trans h1
  have g2 : zu V q 50 (za Γ.2.1 1 z.toNat (fun _ => 0)) q = some (50, za Γ.2.1 1 z.toNat (fun _ => 0)) := zu_eq _ _ _ _
  rw [ez]
  obtain ⟨a, b, c1⟩ := zWs.one (Γ := Γ) (st := 0) (c := z) (l := z) (p := 0) (m := -9) g1 g2 htw ⟨by omega, by omega, by omega, by omega, by omega, Or.inl rfl, by omega, by omega⟩ zc_zero hz.2
  have hn : zag (fun _ => True) V (zu V q 50 (za Γ.2.1 1 z.toNat (fun _ => 0))) := zag.rf.new hq
  refine ⟨a, (hn.mono (fun _ _ => trivial)).tr b, ?_⟩
  intro q1 n1 f1 hq1 hq2
  exact c1 q1 n1 f1 (hn _ _ _ hq1 trivial) hq2
theorem e_move (h : zWi Γ V tw w c l p m) (htw : tw ≠ 50) : zM l0 Γ 3 yX5_moveTextToFront wsX5_moveTextToFront 0 0 V [.ref w] (fun rv V' => rv = none ∧ zWs Γ V V' tw w c c (l - p) (-9)) := by
  obtain ⟨r, n, st, f, h1, h2, h3, h4, h5⟩ := h
  refine (m_X5_moveTextToFront l0 Γ h1 h2 h3 h4).imp (fun rv V' hp => ?_)
  obtain ⟨a1, a2, a3, a4, a5, a6, a7, a8⟩ := id h3
  obtain ⟨e1, e2⟩ := hp
  refine ⟨e1, ?_⟩
  rw [e2]
  exact zWs.two h1 h2 htw ⟨by omega, by omega, by omega, by omega, by omega, Or.inl rfl, by omega, a8⟩ (zmv_zc h4) h5
theorem e_isOrdered (h : zWi Γ V tw w c l p m) : zM l0 Γ 0 yX5_isOrdered wsX5_isOrdered 0 0 V [.ref w] (fun rv V' => rv = some (.int (zI 1)) ∧ V' = V) := by
  obtain ⟨r, n, st, f, h1, h2, h3, h4, h5⟩ := h
  exact m_X5_isOrdered l0 Γ h1 h3
variable {to o : Nat} {c' l' p' m' : Int}
theorem e_like (h : zWi Γ V tw w c l p m) (h' : zWi Γ V to o c' l' p' m') (htw : tw ≠ 50) (hne : w ≠ o) : zM l0 Γ 0 yX5_becomeLike wsX5_becomeLike 0 0 V [.ref w, .ref o] (fun rv V' => rv = none ∧ zWn Γ V V' tw w c' l' p' m') := by
  obtain ⟨r, n, st, f, h1, h2, h3, h4, h5⟩ := h
  obtain ⟨r', n', st', f', h1', h2', h3', h4', h5'⟩ := h'
  refine (m_X5_becomeLike_ne l0 Γ h1 h1' hne).imp (fun rv V' hp => ?_)
  refine ⟨hp.1, ?_⟩
  rw [hp.2]
  exact zWn.one h1 h2' htw h3' h4' h5'
theorem e_like_eq (h : zWi Γ V tw w c l p m) : zM l0 Γ 0 yX5_becomeLike wsX5_becomeLike 0 0 V [.ref w, .ref w] (fun rv V' => rv = none ∧ V' = V) := by
  obtain ⟨r, n, st, f, h1, h2, h3, h4, h5⟩ := h
  exact m_X5_becomeLike_eq l0 Γ h1
theorem e_slice (h : zWi Γ V tw w c l p m) (h' : zWi Γ V to o c' l' p' m') (htw : tw ≠ 50) (hne : w ≠ o) : zM l0 Γ 1 yX5_becomeSlice wsX5_becomeSlice 0 0 V [.ref w, .ref o] (fun rv V' => rv = none ∧ zWn Γ V V' tw w (l' - p') (l' - p') 0 (-9)) := by
  obtain ⟨r, n, st, f, h1, h2, h3, h4, h5⟩ := h
  obtain ⟨r', n', st', f', h1', h2', h3', h4', h5'⟩ := h'
  obtain ⟨a1, a2, a3, a4, a5, a6, a7, a8⟩ := id h3'
  refine (m_X5_becomeSlice_ne l0 Γ h1 h1' hne (by omega)).imp (fun rv V' hp => ?_)
  refine ⟨hp.1, ?_⟩
  rw [hp.2]
  exact zWn.one h1 h2' htw ⟨by omega, by omega, by omega, by omega, by omega, Or.inl rfl, by omega, a8⟩ h4' (by omega)
theorem e_slice_eq (h : zWi Γ V tw w c l p m) (htw : tw ≠ 50) : zM l0 Γ 1 yX5_becomeSlice wsX5_becomeSlice 0 0 V [.ref w, .ref w] (fun rv V' => rv = none ∧ zWn Γ V V' tw w (l - p) (l - p) 0 (-9)) := by
  obtain ⟨r, n, st, f, h1, h2, h3, h4, h5⟩ := h
  obtain ⟨a1, a2, a3, a4, a5, a6, a7, a8⟩ := id h3
  refine (m_X5_becomeSlice_eq l0 Γ h1 (by omega)).imp (fun rv V' hp => ?_)
  refine ⟨hp.1, ?_⟩
  rw [hp.2]
  exact zWn.one h1 h2 htw ⟨by omega, by omega, by omega, by omega, by omega, Or.inl rfl, by omega, a8⟩ h4 (by omega)
theorem e_part (h : zWi Γ V tw w c l p m) (h' : zWi Γ V to o c' l' p' m') (htw : tw ≠ 50) (hne : w ≠ o) {a b : Int} (hab : 0 ≤ a ∧ a ≤ b ∧ b ≤ l' - p') : zM l0 Γ 0 yX5_becomePart wsX5_becomePart 0 0 V [.ref w, .ref o, .int (zI a), .int (zI b)] (fun rv V' => rv = none ∧ zWn Γ V V' tw w c' (p' + b) (p' + a) (p' + a)) := by
  obtain ⟨r, n, st, f, h1, h2, h3, h4, h5⟩ := h
  obtain ⟨r', n', st', f', h1', h2', h3', h4', h5'⟩ := h'
  obtain ⟨a1, a2, a3, a4, a5, a6, a7, a8⟩ := id h3'
  refine (m_X5_becomePart_ne l0 Γ h1 h1' hne).imp (fun rv V' hp => ?_)
  refine ⟨hp.1, ?_⟩
  rw [hp.2]
  exact zWn.one h1 h2' htw ⟨by omega, by omega, by omega, by omega, by omega, by omega, by omega, a8⟩ h4' h5'
theorem e_part_eq (h : zWi Γ V tw w c l p m) (htw : tw ≠ 50) {a b : Int} (hab : 0 ≤ a ∧ a ≤ b ∧ b ≤ l - p) : zM l0 Γ 0 yX5_becomePart wsX5_becomePart 0 0 V [.ref w, .ref w, .int (zI a), .int (zI b)] (fun rv V' => rv = none ∧ zWn Γ V V' tw w c (p + b) (p + a) (p + a)) := by
  obtain ⟨r, n, st, f, h1, h2, h3, h4, h5⟩ := h
  obtain ⟨a1, a2, a3, a4, a5, a6, a7, a8⟩ := id h3
  refine (m_X5_becomePart_eq l0 Γ h1).imp (fun rv V' hp => ?_)
  refine ⟨hp.1, ?_⟩
  rw [hp.2]
  exact zWn.one h1 h2 htw ⟨by omega, by omega, by omega, by omega, by omega, by omega, by omega, a8⟩ h4 h5
end ZE
/-! the object's state moves on -/
def zw4 (σ : Nat → Int) (i : Nat) (c l p m : Int) : Nat → Int := fun j => if j = 4 * i then c else if j = 4 * i + 1 then l else if j = 4 * i + 2 then p else if j = 4 * i + 3 then m else σ j
def zx4 (σ : Nat → Int) (a b c d : Int) : Nat → Int := fun j => if j = 30 then a else if j = 31 then b else if j = 32 then c else if j = 33 then d else σ j
theorem zw4_hi {σ : Nat → Int} {i : Nat} {c l p m : Int} (hi : i < 6) {j : Nat} (hj : 24 ≤ j) : zw4 σ i c l p m j = σ j := by
  unfold zw4
  rw [if_neg (by omega), if_neg (by omega), if_neg (by omega), if_neg (by omega)]
theorem zx4_lo {σ : Nat → Int} {a b c d : Int} {j : Nat} (hj : j < 30) : zx4 σ a b c d j = σ j := by
  unfold zx4
  rw [if_neg (by omega), if_neg (by omega), if_neg (by omega), if_neg (by omega)]
/-- the class's cells apart, nothing changes -/
def zfx (V V' : zV) : Prop := zag (fun t => 60 ≤ t ∨ t = 5) V V'
theorem zS0.setW {Γ : zGam} {V V' : zV} {ad : Nat → Nat} {σ : Nat → Int} (h : zS0 Γ V ad σ) {i : Nat} (hi : i < 6) {c l p m : Int} (hw : zWs Γ V V' (10 + i) (ad (10 + i)) c l p m) : zS0 Γ V' ad (zw4 σ i c l p m) ∧ zfx V V' := by
  obtain ⟨hw1, ha, h5⟩ := hw
  obtain ⟨a, b, w, d, t, q, f⟩ := h
  have e : ∀ j, 24 ≤ j → zw4 σ i c l p m j = σ j := fun j hj => zw4_hi hi hj
  refine ⟨⟨?_, b.kept ha (by omega), ?_, d.kept ha (by omega) h5, ?_, ?_, f.kept ha (fun t h1 h2 => by omega)⟩, ha.mono (fun t ht => by omega)⟩
  · unfold zSx
    rw [e 30 (by omega), e 31 (by omega), e 32 (by omega), e 33 (by omega)]
    exact a.kept ha (by omega)
  · intro j hj
    by_cases hji : j = i
    · subst hji
      have e0 : zw4 σ j c l p m (4 * j) = c := by unfold zw4; rw [if_pos rfl]
      have e1 : zw4 σ j c l p m (4 * j + 1) = l := by unfold zw4; rw [if_neg (by omega), if_pos rfl]
      have e2 : zw4 σ j c l p m (4 * j + 2) = p := by unfold zw4; rw [if_neg (by omega), if_neg (by omega), if_pos rfl]
      have e3 : zw4 σ j c l p m (4 * j + 3) = m := by unfold zw4; rw [if_neg (by omega), if_neg (by omega), if_neg (by omega), if_pos rfl]
      rw [e0, e1, e2, e3]
      exact hw1
    · have ej : ∀ k, k < 4 → zw4 σ i c l p m (4 * j + k) = σ (4 * j + k) := by
        intro k hk
        unfold zw4
        rw [if_neg (by omega), if_neg (by omega), if_neg (by omega), if_neg (by omega)]
      have e0 := ej 0 (by omega)
      rw [Nat.add_zero] at e0
      rw [e0, ej 1 (by omega), ej 2 (by omega), ej 3 (by omega)]
      exact (w j hj).row ha (by omega) h5
  · unfold zSt
    rw [e 24 (by omega), e 25 (by omega)]
    exact t.kept ha (by omega) (by omega) (by omega) (by omega) (by omega) (by omega) (by omega) (by omega)
  · unfold zSp
    rw [e 26 (by omega), e 27 (by omega), e 28 (by omega), e 29 (by omega)]
    exact q.kept ha (by omega) (by omega) (by omega) (by omega) (by omega) (by omega) (by omega)
theorem zS0.setD {Γ : zGam} {V V' : zV} {ad : Nat → Nat} {σ : Nat → Int} (h : zS0 Γ V ad σ) {c l p m : Int} (hw : zWs Γ V V' 16 (ad 16) c l p m) : zS0 Γ V' ad σ ∧ zfx V V' := by
  obtain ⟨hw1, ha, h5⟩ := hw
  obtain ⟨a, b, w, d, t, q, f⟩ := h
  exact ⟨⟨a.kept ha (by omega), b.kept ha (by omega), w.kept ha (fun i hi => by omega) h5, ⟨c, l, p, m, hw1⟩, t.kept ha (by omega) (by omega) (by omega) (by omega) (by omega) (by omega) (by omega) (by omega), q.kept ha (by omega) (by omega) (by omega) (by omega) (by omega) (by omega) (by omega), f.kept ha (fun t h1 h2 => by omega)⟩, ha.mono (fun t ht => by omega)⟩
theorem zS0.setX {Γ : zGam} {V : zV} {ad : Nat → Nat} {σ : Nat → Int} (h : zS0 Γ V ad σ) (x1 x2 x3 x4 : Int) : zS0 Γ (zu V (ad 1) 1 (zXc ad x1 x2 x3 x4)) ad (zx4 σ x1 x2 x3 x4) ∧ zfx V (zu V (ad 1) 1 (zXc ad x1 x2 x3 x4)) := by
  obtain ⟨a, b, w, d, t, q, f⟩ := h
  have ha : zag (fun t => t ≠ 1) V (zu V (ad 1) 1 (zXc ad x1 x2 x3 x4)) := zag.rf.set a (fun q => q rfl)
  have e : ∀ j, j < 30 → zx4 σ x1 x2 x3 x4 j = σ j := fun j hj => zx4_lo hj
  refine ⟨⟨?_, b.kept ha (by omega), ?_, d.kept ha (by omega) (.of ha (by omega)), ?_, ?_, f.kept ha (fun t h1 h2 => by omega)⟩, ha.mono (fun t ht => by omega)⟩
  · unfold zSx zx4
    exact zu_eq _ _ _ _
  · intro j hj
    rw [e _ (by omega), e _ (by omega), e _ (by omega), e _ (by omega)]
    exact (w j hj).row ha (by omega) (.of ha (by omega))
  · unfold zSt
    rw [e 24 (by omega), e 25 (by omega)]
    exact t.kept ha (by omega) (by omega) (by omega) (by omega) (by omega) (by omega) (by omega) (by omega)
  · unfold zSp
    rw [e 26 (by omega), e 27 (by omega), e 28 (by omega), e 29 (by omega)]
    exact q.kept ha (by omega) (by omega) (by omega) (by omega) (by omega) (by omega) (by omega)
theorem zS.setD {Γ : zGam} {V V' : zV} {ad : Nat → Nat} {σ : Nat → Int} (h : zS Γ V ad σ) {c l p m : Int} (hw : zWn Γ V V' 16 (ad 16) c l p m) : zS Γ V' ad σ ∧ zfx V V' :=
  ⟨(h.c0.setD hw.1).1.mk (h.ct.kept hw.2 (fun t ht => by omega)), (h.c0.setD hw.1).2⟩
theorem zS.setX {Γ : zGam} {V : zV} {ad : Nat → Nat} {σ : Nat → Int} (h : zS Γ V ad σ) (x1 x2 x3 x4 : Int) : zS Γ (zu V (ad 1) 1 (zXc ad x1 x2 x3 x4)) ad (zx4 σ x1 x2 x3 x4) ∧ zfx V (zu V (ad 1) 1 (zXc ad x1 x2 x3 x4)) := by
  have ha : zag (fun t => t ≠ 1) V (zu V (ad 1) 1 (zXc ad x1 x2 x3 x4)) := zag.rf.set h.1 (fun q => q rfl)
  refine ⟨(h.c0.setX x1 x2 x3 x4).1.mk ((h.ct.kept ha (fun t ht => by omega)).sig (fun j hj => ?_)), (h.c0.setX x1 x2 x3 x4).2⟩
  unfold zj at hj
  unfold zx4
  rw [if_neg (by omega), if_neg (by omega), if_neg (by omega), if_neg (by omega)]
end
section
/-! contents move with the windows -/
/-- a window is laid over a row that lies on the tape -/
theorem zCt.setC {Γ : zGam} {V V' : zV} {ad : Nat → Nat} {σ : Nat → Int} (h : zCt Γ V ad σ) {rr nn ba : Nat → Nat} (w : zCw Γ V ad σ rr nn ba) {i j : Nat} (hi : i < 6) (hj : j < 6) {st c l p m s : Int} (hb : zWb st c l p m (nn j)) (h40 : c ≤ 40) (ha : zag (fun t => t ≠ 10 + i) V V') (hV : V' (ad (10 + i)) = some (10 + i, .inr (6, [.ref (rr j), .int (zI st), .int (zI c), .int (zI l), .int (zI p), .int (zI m)]))) (hs : (ba j : Int) + st = s) : zCt Γ V' ad (zf (zw4 σ i c l p m) (40 + i) s) := by
  have e : ∀ x, 24 ≤ x → x ≠ 40 + i → zf (zw4 σ i c l p m) (40 + i) s x = σ x := fun x h1 h2 => by
    unfold zf
    rw [if_neg h2]
    exact zw4_hi hi h1
  obtain ⟨⟨-, z⟩, b, k⟩ := h
  refine ⟨⟨⟨fun q => rr (if q = i then j else q), fun q => nn (if q = i then j else q), fun q => ba (if q = i then j else q), fun q hq => ?_, fun x y hx hy => ?_⟩, fun a h2 => ?_⟩, ?_, ?_⟩
  · by_cases hqi : q = i
    · subst hqi
      obtain ⟨st0, f, h1, h2, h3, h4, h5, h6, h7, h8⟩ := w.1 j hj
      have e0 : zf (zw4 σ q c l p m) (40 + q) s (4 * q) = c := by unfold zf zw4; rw [if_neg (by omega), if_pos rfl]
      have e1 : zf (zw4 σ q c l p m) (40 + q) s (4 * q + 1) = l := by unfold zf zw4; rw [if_neg (by omega), if_neg (by omega), if_pos rfl]
      have e2 : zf (zw4 σ q c l p m) (40 + q) s (4 * q + 2) = p := by unfold zf zw4; rw [if_neg (by omega), if_neg (by omega), if_neg (by omega), if_pos rfl]
      have e3 : zf (zw4 σ q c l p m) (40 + q) s (4 * q + 3) = m := by unfold zf zw4; rw [if_neg (by omega), if_neg (by omega), if_neg (by omega), if_neg (by omega), if_pos rfl]
      dsimp only
      rw [if_pos rfl, e0, e1, e2, e3, e 46 (by omega) (by omega)]
      refine ⟨st, f, hV, ha _ _ _ h2 (by omega), hb, h4, h40, ?_, h7, fun x hx => ?_⟩
      · unfold zf
        rw [if_pos rfl]
        exact hs
      · rw [e _ (by omega) (by omega)]
        exact h8 x hx
    · obtain ⟨st0, f, h1, h2, h3, h4, h5, h6, h7, h8⟩ := w.1 q hq
      have ej : ∀ x, x < 4 → zf (zw4 σ i c l p m) (40 + i) s (4 * q + x) = σ (4 * q + x) := fun x hx => by
        unfold zf zw4
        rw [if_neg (by omega), if_neg (by omega), if_neg (by omega), if_neg (by omega), if_neg (by omega)]
      have e0 : zf (zw4 σ i c l p m) (40 + i) s (4 * q) = σ (4 * q) := ej 0 (by omega)
      dsimp only
      rw [if_neg hqi, e0, ej 1 (by omega), ej 2 (by omega), ej 3 (by omega), e 46 (by omega) (by omega), e (40 + q) (by omega) (by omega)]
      exact ⟨st0, f, ha _ _ _ h1 (by omega), ha _ _ _ h2 (by omega), h3, h4, h5, h6, h7, fun x hx => by rw [e _ (by omega) (by omega)]; exact h8 x hx⟩
  · exact w.2 _ _ (by split <;> assumption) (by split <;> assumption)
  · rw [e 46 (by omega) (by omega)] at h2
    rw [e _ (by omega) (by omega)]
    exact z a h2
  · rw [e 24 (by omega) (by omega)]
    obtain ⟨f, h1, h0, h2⟩ := b
    exact ⟨f, ha _ _ _ h1 (by omega), h0, fun x h8 hx => by rw [e _ (by omega) (by omega)]; exact h2 x h8 hx⟩
  · rw [e 25 (by omega) (by omega)]
    obtain ⟨f, h1, h0, h2⟩ := k
    exact ⟨f, ha _ _ _ h1 (by omega), h0, fun x h8 hx => by rw [e _ (by omega) (by omega)]; exact h2 x h8 hx⟩
/-- a row is written -/
theorem zCt.setR {Γ : zGam} {V V' : zV} {ad : Nat → Nat} {σ σ' : Nat → Int} (h : zCt Γ V ad σ) {rr nn ba : Nat → Nat} (w : zCw Γ V ad σ rr nn ba) {i : Nat} (hi : i < 6) {f' : Nat → Int} (hf : zc f') (ha : zag (fun t => t ≠ 50) V V') (hV : V' (rr i) = some (50, za Γ.2.1 1 (nn i) f')) (hr : ∀ (r n : Nat) (f : Nat → Int), r ≠ rr i → V r = some (50, za Γ.2.1 1 n f) → V' r = some (50, za Γ.2.1 1 n f))
    (h1 : ∀ x, x < nn i → σ' (1000 + (ba i + x)) = f' x) (h2 : ∀ a : Nat, a < ba i ∨ ba i + nn i ≤ a → σ' (1000 + a) = σ (1000 + a)) (h3 : ∀ j, j < 1000 → σ' j = σ j) : zCt Γ V' ad σ' := by
  obtain ⟨⟨-, z⟩, b, k⟩ := h
  refine ⟨⟨⟨rr, nn, ba, fun q hq => ?_, w.2⟩, fun a h4 => ?_⟩, ?_, ?_⟩
  · obtain ⟨st, f, k1, k2, k3, k4, k5, k6, k7, k8⟩ := w.1 q hq
    rw [h3 _ (by omega), h3 _ (by omega), h3 _ (by omega), h3 _ (by omega), h3 46 (by omega), h3 (40 + q) (by omega)]
    rcases w.2 q i hq hi with ⟨r1, r2, r3⟩ | ⟨r1, r2⟩
    · refine ⟨st, f', ha _ _ _ k1 (by omega), by rw [r1, r2]; exact hV, k3, hf, k5, k6, k7, fun x hx => ?_⟩
      rw [r3]
      exact (h1 x (by omega)).symm
    · refine ⟨st, f, ha _ _ _ k1 (by omega), hr _ _ _ r1 k2, k3, k4, k5, k6, k7, fun x hx => ?_⟩
      rw [h2 _ (by omega)]
      exact k8 x hx
  · obtain ⟨st, f, k1, k2, k3, k4, k5, k6, k7, k8⟩ := w.1 i hi
    rw [h3 46 (by omega)] at h4
    rw [h2 _ (by omega)]
    exact z a h4
  · rw [h3 24 (by omega)]
    obtain ⟨f, k1, k0, k2⟩ := b
    exact ⟨f, ha _ _ _ k1 (by omega), k0, fun x h8 hx => by rw [h3 _ (by omega)]; exact k2 x h8 hx⟩
  · rw [h3 25 (by omega)]
    obtain ⟨f, k1, k0, k2⟩ := k
    exact ⟨f, ha _ _ _ k1 (by omega), k0, fun x h8 hx => by rw [h3 _ (by omega)]; exact k2 x h8 hx⟩
/-- a new row lies behind the tape -/
theorem zCt.setN {Γ : zGam} {V V' : zV} {ad : Nat → Nat} {σ : Nat → Int} (h : zCt Γ V ad σ) {i : Nat} (hi : i < 6) {r' : Nat} {z : Int} (hz : 0 ≤ z ∧ z ≤ 40) (hn : V r' = none) (ha : zag (fun t => t ≠ 10 + i) V V') (hV : V' (ad (10 + i)) = some (10 + i, .inr (6, [.ref r', .int (zI 0), .int (zI z), .int (zI z), .int (zI 0), .int (zI (-9))]))) (hr : V' r' = some (50, za Γ.2.1 1 z.toNat (fun _ => 0))) : zCt Γ V' ad (zf (zf (zw4 σ i z z 0 (-9)) (40 + i) (σ 46)) 46 (σ 46 + z)) := by
  have e : ∀ x, 24 ≤ x → x ≠ 40 + i → x ≠ 46 → zf (zf (zw4 σ i z z 0 (-9)) (40 + i) (σ 46)) 46 (σ 46 + z) x = σ x := fun x h1 h2 h3 => by
    unfold zf
    rw [if_neg h3, if_neg h2]
    exact zw4_hi hi h1
  have e46 : zf (zf (zw4 σ i z z 0 (-9)) (40 + i) (σ 46)) 46 (σ 46 + z) 46 = σ 46 + z := if_pos rfl
  have e40 : zf (zf (zw4 σ i z z 0 (-9)) (40 + i) (σ 46)) 46 (σ 46 + z) (40 + i) = σ 46 := by
    unfold zf
    rw [if_neg (by omega), if_pos rfl]
  obtain ⟨⟨⟨rr, nn, ba, w⟩, zz⟩, b, k⟩ := h
  obtain ⟨st9, f9, q1, q2, q3, q4, q5, q6, q7, q8⟩ := w.1 i hi
  have hne : ∀ q, q < 6 → rr q ≠ r' := fun q hq he => by
    obtain ⟨st, f, h1, h2, -⟩ := w.1 q hq
    rw [he, hn] at h2
    cases h2
  refine ⟨⟨⟨fun q => if q = i then r' else rr q, fun q => if q = i then z.toNat else nn q, fun q => if q = i then (σ 46).toNat else ba q, fun q hq => ?_, fun x y hx hy => ?_⟩, fun a h2 => ?_⟩, ?_, ?_⟩
  · by_cases hqi : q = i
    · subst hqi
      have e0 : zf (zf (zw4 σ q z z 0 (-9)) (40 + q) (σ 46)) 46 (σ 46 + z) (4 * q) = z := by unfold zf zw4; rw [if_neg (by omega), if_neg (by omega), if_pos rfl]
      have e1 : zf (zf (zw4 σ q z z 0 (-9)) (40 + q) (σ 46)) 46 (σ 46 + z) (4 * q + 1) = z := by unfold zf zw4; rw [if_neg (by omega), if_neg (by omega), if_neg (by omega), if_pos rfl]
      have e2 : zf (zf (zw4 σ q z z 0 (-9)) (40 + q) (σ 46)) 46 (σ 46 + z) (4 * q + 2) = 0 := by unfold zf zw4; rw [if_neg (by omega), if_neg (by omega), if_neg (by omega), if_neg (by omega), if_pos rfl]
      have e3 : zf (zf (zw4 σ q z z 0 (-9)) (40 + q) (σ 46)) 46 (σ 46 + z) (4 * q + 3) = -9 := by unfold zf zw4; rw [if_neg (by omega), if_neg (by omega), if_neg (by omega), if_neg (by omega), if_neg (by omega), if_pos rfl]
      dsimp only
      rw [if_pos rfl, if_pos rfl, if_pos rfl, e0, e1, e2, e3, e40, e46]
      refine ⟨0, fun _ => 0, hV, hr, ⟨by omega, by omega, by omega, by omega, by omega, by omega, by omega, by omega⟩, zc_zero, by omega, by omega, by omega, fun x hx => ?_⟩
      rw [e _ (by omega) (by omega) (by omega)]
      exact (zz _ (by omega)).symm
    · obtain ⟨st0, f, h1, h2, h3, h4, h5, h6, h7, h8⟩ := w.1 q hq
      have ej : ∀ x, x < 4 → zf (zf (zw4 σ i z z 0 (-9)) (40 + i) (σ 46)) 46 (σ 46 + z) (4 * q + x) = σ (4 * q + x) := fun x hx => by
        unfold zf zw4
        rw [if_neg (by omega), if_neg (by omega), if_neg (by omega), if_neg (by omega), if_neg (by omega), if_neg (by omega)]
      have e0 : zf (zf (zw4 σ i z z 0 (-9)) (40 + i) (σ 46)) 46 (σ 46 + z) (4 * q) = σ (4 * q) := ej 0 (by omega)
      dsimp only
      rw [if_neg hqi, if_neg hqi, if_neg hqi, e0, ej 1 (by omega), ej 2 (by omega), ej 3 (by omega), e46, e (40 + q) (by omega) (by omega) (by omega)]
      exact ⟨st0, f, ha _ _ _ h1 (by omega), ha _ _ _ h2 (by omega), h3, h4, h5, h6, by omega, fun x hx => by rw [e _ (by omega) (by omega) (by omega)]; exact h8 x hx⟩
  · dsimp only
    by_cases hxi : x = i
    · by_cases hyi : y = i
      · rw [if_pos hxi, if_pos hxi, if_pos hxi, if_pos hyi, if_pos hyi, if_pos hyi]
        exact Or.inl ⟨rfl, rfl, rfl⟩
      · obtain ⟨st0, f, h1, h2, h3, h4, h5, h6, h7, h8⟩ := w.1 y hy
        rw [if_pos hxi, if_pos hxi, if_pos hxi, if_neg hyi, if_neg hyi, if_neg hyi]
        exact Or.inr ⟨(hne y hy).symm, by omega⟩
    · by_cases hyi : y = i
      · obtain ⟨st0, f, h1, h2, h3, h4, h5, h6, h7, h8⟩ := w.1 x hx
        rw [if_neg hxi, if_neg hxi, if_neg hxi, if_pos hyi, if_pos hyi, if_pos hyi]
        exact Or.inr ⟨hne x hx, by omega⟩
      · rw [if_neg hxi, if_neg hxi, if_neg hxi, if_neg hyi, if_neg hyi, if_neg hyi]
        exact w.2 x y hx hy
  · rw [e46] at h2
    rw [e _ (by omega) (by omega) (by omega)]
    exact zz a (by omega)
  · rw [e 24 (by omega) (by omega) (by omega)]
    obtain ⟨f, h1, h0, h2⟩ := b
    exact ⟨f, ha _ _ _ h1 (by omega), h0, fun x h8 hx => by rw [e _ (by omega) (by omega) (by omega)]; exact h2 x h8 hx⟩
  · rw [e 25 (by omega) (by omega) (by omega)]
    obtain ⟨f, h1, h0, h2⟩ := k
    exact ⟨f, ha _ _ _ h1 (by omega), h0, fun x h8 hx => by rw [e _ (by omega) (by omega) (by omega)]; exact h2 x h8 hx⟩
theorem zS0.sig {Γ : zGam} {V : zV} {ad : Nat → Nat} {σ σ' : Nat → Int} (h : zS0 Γ V ad σ) (he : ∀ j, j < 36 → σ' j = σ j) : zS0 Γ V ad σ' := by
  obtain ⟨a, b, w, d, t, q, f⟩ := h
  refine ⟨?_, b, fun i hi => ?_, d, ?_, ?_, f⟩
  · unfold zSx
    rw [he 30 (by omega), he 31 (by omega), he 32 (by omega), he 33 (by omega)]
    exact a
  · rw [he _ (by omega), he _ (by omega), he _ (by omega), he _ (by omega)]
    exact w i hi
  · unfold zSt
    rw [he 24 (by omega), he 25 (by omega)]
    exact t
  · unfold zSp
    rw [he 26 (by omega), he 27 (by omega), he 28 (by omega), he 29 (by omega)]
    exact q
/-- the place of a sign of the tape -/
def zTp (a : Int) : Nat := 1000 + a.toNat
theorem zst_id {σ : Nat → Int} {i : Nat} {c l p m s : Int} (hi : i < 6) (hs : s = σ (40 + i)) : zf (zw4 σ i c l p m) (40 + i) s = zw4 σ i c l p m := by
  subst hs
  funext j
  unfold zf
  by_cases h : j = 40 + i
  · rw [if_pos h, h, zw4_hi hi (by omega)]
  · rw [if_neg h]
theorem zS.setC {Γ : zGam} {V V' : zV} {ad : Nat → Nat} {σ : Nat → Int} (h : zS Γ V ad σ) {rr nn ba : Nat → Nat} (w : zCw Γ V ad σ rr nn ba) {i j : Nat} (hi : i < 6) (hj : j < 6) {st c l p m s : Int} (hb : zWb st c l p m (nn j)) (h40 : c ≤ 40) (hV : V' = zu V (ad (10 + i)) (10 + i) (.inr (6, [.ref (rr j), .int (zI st), .int (zI c), .int (zI l), .int (zI p), .int (zI m)]))) (hs : (ba j : Int) + st = s) : zS Γ V' ad (zf (zw4 σ i c l p m) (40 + i) s) ∧ zfx V V' ∧ zWs Γ V V' (10 + i) (ad (10 + i)) c l p m := by
  obtain ⟨sti, fi, h1, -⟩ := w.1 i hi
  obtain ⟨stj, fj, k1, k2, k3, k4, -⟩ := w.1 j hj
  have hw : zWn Γ V V' (10 + i) (ad (10 + i)) c l p m := by
    subst hV
    exact zWn.one h1 k2 (by omega) hb k4 h40
  obtain ⟨g1, g2⟩ := h.c0.setW hi hw.1
  refine ⟨(g1.sig (fun x hx => ?_)).mk (h.ct.setC w hi hj hb h40 hw.2 (by subst hV; exact zu_eq _ _ _ _) hs), g2, hw.1⟩
  unfold zf
  rw [if_neg (by omega)]
theorem zS.cw {Γ : zGam} {V : zV} {ad : Nat → Nat} {σ : Nat → Int} (h : zS Γ V ad σ) : ∃ rr nn ba, zCw Γ V ad σ rr nn ba := h.2.1.2.1.1
theorem zS.cst {Γ : zGam} {V : zV} {ad : Nat → Nat} {σ : Nat → Int} (h : zS Γ V ad σ) {i : Nat} (hi : i < 6) : 0 ≤ σ (40 + i) := by
  obtain ⟨rr, nn, ba, w⟩ := h.cw
  obtain ⟨st, f, h1, h2, h3, h4, h5, h6, -⟩ := w.1 i hi
  have := h3.1
  omega
theorem zS.rng {Γ : zGam} {V : zV} {ad : Nat → Nat} {σ : Nat → Int} (h : zS Γ V ad σ) {i : Nat} (hi : i < 6) {k : Int} (hk : 0 ≤ k ∧ k < σ (4 * i)) : 0 ≤ σ (zTp (σ (40 + i) + k)) ∧ σ (zTp (σ (40 + i) + k)) ≤ 255 := by
  obtain ⟨rr, nn, ba, w⟩ := h.cw
  obtain ⟨st, f, h1, h2, h3, h4, h5, h6, h7, h8⟩ := w.1 i hi
  obtain ⟨a1, a2, a3, a4, a5, a6, a7, a8⟩ := id h3
  have e : zTp (σ (40 + i) + k) = 1000 + (ba i + (st + k).toNat) := by unfold zTp; omega
  rw [e, ← h8 _ (by omega)]
  exact h4 _
section ZK
variable (l0 : Launch) (Γ : zGam) {V : zV} {ad : Nat → Nat} {σ : Nat → Int} {i : Nat}
theorem k_goTo (hS : zS Γ V ad σ) (hi : i < 6) {a b : Int} (hab : 0 ≤ a ∧ a ≤ b ∧ b ≤ σ (4 * i)) : zM l0 Γ 0 yX5_goTo wsX5_goTo 0 0 V [.ref (ad (10 + i)), .int (zI a), .int (zI b)] (fun rv V' => rv = none ∧ zS Γ V' ad (zw4 σ i (σ (4 * i)) b a (-9)) ∧ zfx V V' ∧ zWs Γ V V' (10 + i) (ad (10 + i)) (σ (4 * i)) (b) (a) (-9)) := by
  obtain ⟨rr, nn, ba, w⟩ := hS.cw
  obtain ⟨st, f, h1, h2, h3, h4, h5, h6, h7, h8⟩ := w.1 i hi
  obtain ⟨a1, a2, a3, a4, a5, a6, a7, a8⟩ := id h3
  refine (m_X5_goTo l0 Γ (p := a) (q := b) h1).imp (fun rv V' hp => ?_)
  have g := hS.setC w hi hi (st := st) (c := σ (4 * i)) (l := b) (p := a) (m := -9) (s := σ (40 + i)) ⟨by omega, by omega, by omega, by omega, by omega, Or.inl rfl, by omega, a8⟩ (by omega) hp.2 (by omega)
  rw [zst_id hi rfl] at g
  exact ⟨hp.1, g⟩
theorem k_setMark (hS : zS Γ V ad σ) (hi : i < 6) : zM l0 Γ 0 yX5_setMark wsX5_setMark 0 0 V [.ref (ad (10 + i))] (fun rv V' => rv = none ∧ zS Γ V' ad (zw4 σ i (σ (4 * i)) (σ (4 * i + 1)) (σ (4 * i + 2)) (σ (4 * i + 2))) ∧ zfx V V' ∧ zWs Γ V V' (10 + i) (ad (10 + i)) (σ (4 * i)) (σ (4 * i + 1)) (σ (4 * i + 2)) (σ (4 * i + 2))) := by
  obtain ⟨rr, nn, ba, w⟩ := hS.cw
  obtain ⟨st, f, h1, h2, h3, h4, h5, h6, h7, h8⟩ := w.1 i hi
  obtain ⟨a1, a2, a3, a4, a5, a6, a7, a8⟩ := id h3
  refine (m_X5_setMark l0 Γ h1).imp (fun rv V' hp => ?_)
  have g := hS.setC w hi hi (st := st) (c := σ (4 * i)) (l := σ (4 * i + 1)) (p := σ (4 * i + 2)) (m := σ (4 * i + 2)) (s := σ (40 + i)) ⟨by omega, by omega, by omega, by omega, by omega, Or.inr a3, by omega, a8⟩ (by omega) hp.2 (by omega)
  rw [zst_id hi rfl] at g
  exact ⟨hp.1, g⟩
theorem k_goToMark (hS : zS Γ V ad σ) (hi : i < 6) (hm : σ (4 * i + 3) ≠ -9) : zM l0 Γ 0 yX5_goToMark wsX5_goToMark 0 0 V [.ref (ad (10 + i))] (fun rv V' => rv = none ∧ zS Γ V' ad (zw4 σ i (σ (4 * i)) (σ (4 * i + 1)) (σ (4 * i + 3)) (σ (4 * i + 3))) ∧ zfx V V' ∧ zWs Γ V V' (10 + i) (ad (10 + i)) (σ (4 * i)) (σ (4 * i + 1)) (σ (4 * i + 3)) (σ (4 * i + 3))) := by
  obtain ⟨rr, nn, ba, w⟩ := hS.cw
  obtain ⟨st, f, h1, h2, h3, h4, h5, h6, h7, h8⟩ := w.1 i hi
  obtain ⟨a1, a2, a3, a4, a5, a6, a7, a8⟩ := id h3
  refine (m_X5_goToMark l0 Γ h1).imp (fun rv V' hp => ?_)
  have g := hS.setC w hi hi (st := st) (c := σ (4 * i)) (l := σ (4 * i + 1)) (p := σ (4 * i + 3)) (m := σ (4 * i + 3)) (s := σ (40 + i)) ⟨by omega, by omega, by omega, by omega, by omega, a6, by omega, a8⟩ (by omega) hp.2 (by omega)
  rw [zst_id hi rfl] at g
  exact ⟨hp.1, g⟩
theorem zT_at {σ : Nat → Int} {s st p : Int} {b : Nat} {k : Int} (hs : (b : Int) + st = s) (h0 : 0 ≤ st + k) : zTp (s + k) = 1000 + (b + (st + k).toNat) := by
  unfold zTp
  omega
theorem k_read (hS : zS Γ V ad σ) (hi : i < 6) (hlt : σ (4 * i + 2) < σ (4 * i + 1)) : zM l0 Γ 2 yX5_readSign wsX5_readSign 0 0 V [.ref (ad (10 + i))] (fun rv V' => rv = some (.int (zI (σ (zTp (σ (40 + i) + σ (4 * i + 2)))))) ∧ zS Γ V' ad (zw4 σ i (σ (4 * i)) (σ (4 * i + 1)) (σ (4 * i + 2) + 1) (σ (4 * i + 3))) ∧ zfx V V' ∧ zWs Γ V V' (10 + i) (ad (10 + i)) (σ (4 * i)) (σ (4 * i + 1)) (σ (4 * i + 2) + 1) (σ (4 * i + 3))) := by
  obtain ⟨rr, nn, ba, w⟩ := hS.cw
  obtain ⟨st, f, h1, h2, h3, h4, h5, h6, h7, h8⟩ := w.1 i hi
  obtain ⟨a1, a2, a3, a4, a5, a6, a7, a8⟩ := id h3
  refine (m_X5_readSign l0 Γ h1 h2 h3 hlt).imp (fun rv V' hp => ?_)
  have g := hS.setC w hi hi (st := st) (c := σ (4 * i)) (l := σ (4 * i + 1)) (p := σ (4 * i + 2) + 1) (m := σ (4 * i + 3)) (s := σ (40 + i)) ⟨by omega, by omega, by omega, by omega, by omega, a6, by omega, a8⟩ (by omega) hp.2 (by omega)
  rw [zst_id hi rfl] at g
  refine ⟨?_, g⟩
  rw [hp.1, zT_at (σ := σ) (p := 0) h6 (by omega), ← h8 _ (by omega)]
theorem k_at (hS : zS Γ V ad σ) (hi : i < 6) {k : Int} (hk : -2147483648 ≤ k ∧ k ≤ 2147483647) : zM l0 Γ 1 yX5_at wsX5_at 0 0 V [.ref (ad (10 + i)), .int (zI k)] (fun rv V' => rv = some (.int (zI (if 0 ≤ k ∧ k < σ (4 * i + 1) - σ (4 * i + 2) then σ (zTp (σ (40 + i) + (σ (4 * i + 2) + k))) else -9))) ∧ V' = V) := by
  obtain ⟨rr, nn, ba, w⟩ := hS.cw
  obtain ⟨st, f, h1, h2, h3, h4, h5, h6, h7, h8⟩ := w.1 i hi
  obtain ⟨a1, a2, a3, a4, a5, a6, a7, a8⟩ := id h3
  refine (m_X5_at l0 Γ h1 h2 h3 hk).imp (fun rv V' hp => ⟨?_, hp.2⟩)
  rw [hp.1]
  by_cases c : 0 ≤ k ∧ k < σ (4 * i + 1) - σ (4 * i + 2)
  · rw [if_pos c, if_pos c, zT_at (σ := σ) (p := 0) h6 (by omega), ← h8 _ (by omega), Int.add_assoc]
  · rw [if_neg c, if_neg c]
theorem k_atPlace (hS : zS Γ V ad σ) (hi : i < 6) {k : Int} (hk : -2147483648 ≤ k ∧ k ≤ 2147483647) : zM l0 Γ 0 yX5_atPlace wsX5_atPlace 0 0 V [.ref (ad (10 + i)), .int (zI k)] (fun rv V' => rv = some (.int (zI (if 0 ≤ k ∧ k < σ (4 * i + 1) then σ (zTp (σ (40 + i) + k)) else -9))) ∧ V' = V) := by
  obtain ⟨rr, nn, ba, w⟩ := hS.cw
  obtain ⟨st, f, h1, h2, h3, h4, h5, h6, h7, h8⟩ := w.1 i hi
  obtain ⟨a1, a2, a3, a4, a5, a6, a7, a8⟩ := id h3
  refine (m_X5_atPlace l0 Γ h1 h2 h3 hk).imp (fun rv V' hp => ⟨?_, hp.2⟩)
  rw [hp.1]
  by_cases c : 0 ≤ k ∧ k < σ (4 * i + 1)
  · rw [if_pos c, if_pos c, zT_at (σ := σ) (p := 0) h6 (by omega), ← h8 _ (by omega)]
  · rw [if_neg c, if_neg c]
/-- a row is written, and the window moves -/
theorem zS.setR {Γ : zGam} {V V' : zV} {ad : Nat → Nat} {σ σ' : Nat → Int} (h : zS Γ V ad σ) {rr nn ba : Nat → Nat} (w : zCw Γ V ad σ rr nn ba) {i : Nat} (hi : i < 6) {f' : Nat → Int} (hf : zc f') {st l p m : Int} (hb : zWb st (σ (4 * i)) l p m (nn i)) (hs : (ba i : Int) + st = σ (40 + i)) (hV : V' = zu (zu V (rr i) 50 (za Γ.2.1 1 (nn i) f')) (ad (10 + i)) (10 + i) (.inr (6, [.ref (rr i), .int (zI st), .int (zI (σ (4 * i))), .int (zI l), .int (zI p), .int (zI m)])))
    (h1 : ∀ x, x < nn i → σ' (1000 + (ba i + x)) = f' x) (h2 : ∀ a : Nat, a < ba i ∨ ba i + nn i ≤ a → σ' (1000 + a) = σ (1000 + a)) (h3 : ∀ j, j < 1000 → σ' j = zw4 σ i (σ (4 * i)) l p m j) : zS Γ V' ad σ' ∧ zfx V V' ∧ zWs Γ V V' (10 + i) (ad (10 + i)) (σ (4 * i)) l p m := by
  obtain ⟨sti, fi, k1, k2, k3, k4, k5, k6, k7, k8⟩ := w.1 i hi
  have hw : zWs Γ V V' (10 + i) (ad (10 + i)) (σ (4 * i)) l p m := by
    subst hV
    exact zWs.two k1 k2 (by omega) hb hf k5
  obtain ⟨g1, g2⟩ := h.c0.setW hi hw
  have hne : ad (10 + i) ≠ rr i := zne_oa k1 k2
  -- the row first
  obtain ⟨W, hW⟩ : ∃ z : zV, z = zu V (rr i) 50 (za Γ.2.1 1 (nn i) f') := ⟨_, rfl⟩
  obtain ⟨ρ, hρ⟩ : ∃ z : Nat → Int, z = fun j => if j < 1000 then σ j else σ' j := ⟨_, rfl⟩
  have r1 : ∀ j, j < 1000 → ρ j = σ j := fun j hj => by rw [hρ]; exact if_pos hj
  have r2 : ∀ j, ¬ j < 1000 → ρ j = σ' j := fun j hj => by rw [hρ]; exact if_neg hj
  have ha : zag (fun t => t ≠ 50) V W := by rw [hW]; exact zag.rf.set k2 (fun q => q rfl)
  have c1 : zCt Γ W ad ρ := h.ct.setR w hi hf ha (by rw [hW]; exact zu_eq _ _ _ _) (fun r n f hr h9 => by rw [hW, zu_ne hr]; exact h9) (fun x hx => by rw [r2 _ (by omega)]; exact h1 x hx) (fun a h9 => by rw [r2 _ (by omega)]; exact h2 a h9) r1
  have w1 : zCw Γ W ad ρ rr nn ba := by
    refine ⟨fun q hq => ?_, w.2⟩
    obtain ⟨st0, f0, q1, q2, q3, q4, q5, q6, q7, q8⟩ := w.1 q hq
    rw [r1 _ (by omega), r1 _ (by omega), r1 _ (by omega), r1 _ (by omega), r1 46 (by omega), r1 (40 + q) (by omega)]
    rcases w.2 q i hq hi with ⟨e1, e2, e3⟩ | ⟨e1, e2⟩
    · refine ⟨st0, f', ha _ _ _ q1 (by omega), by rw [hW, e1, e2]; exact zu_eq _ _ _ _, q3, hf, q5, q6, q7, fun x hx => ?_⟩
      rw [e3, r2 _ (by omega)]
      exact (h1 x (by omega)).symm
    · refine ⟨st0, f0, ha _ _ _ q1 (by omega), by rw [hW, zu_ne e1]; exact q2, q3, q4, q5, q6, q7, fun x hx => ?_⟩
      rw [r2 _ (by omega), h2 _ (by omega)]
      exact q8 x hx
  have r4 : ρ (4 * i) = σ (4 * i) := r1 _ (by omega)
  have hVW : V' = zu W (ad (10 + i)) (10 + i) (.inr (6, [.ref (rr i), .int (zI st), .int (zI (ρ (4 * i))), .int (zI l), .int (zI p), .int (zI m)])) := by rw [hV, hW, r4]
  have c2 := c1.setC w1 hi hi (V' := V') (st := st) (c := ρ (4 * i)) (l := l) (p := p) (m := m) (s := ρ (40 + i)) (by rw [r4]; exact hb) (by rw [r4]; exact k5) (by rw [hVW]; exact zag.rf.set (by rw [hW, zu_ne hne]; exact k1) (fun q => q rfl)) (by rw [hVW]; exact zu_eq _ _ _ _) (by rw [r1 _ (by omega)]; exact hs)
  rw [zst_id hi rfl, r4] at c2
  have e5 : zw4 ρ i (σ (4 * i)) l p m = σ' := by
    funext j
    by_cases hj : j < 1000
    · rw [h3 j hj]
      unfold zw4
      rw [r1 j hj]
    · rw [zw4_hi hi (by omega), r2 j hj]
  rw [e5] at c2
  exact ⟨(g1.sig (fun x hx => h3 x (by omega))).mk c2, g2, hw⟩
theorem k_write_y (hS : zS Γ V ad σ) (hi : i < 6) {x : Int} (hx : 0 ≤ x ∧ x ≤ 255) (hlt : σ (4 * i + 2) < σ (4 * i + 1)) : zM l0 Γ 1 yX5_writeSign wsX5_writeSign 0 0 V [.ref (ad (10 + i)), .int (zI x)] (fun rv V' => rv = some (.int (zI 1)) ∧ zS Γ V' ad (zf (zw4 σ i (σ (4 * i)) (σ (4 * i + 1)) (σ (4 * i + 2) + 1) (σ (4 * i + 3))) (zTp (σ (40 + i) + σ (4 * i + 2))) x) ∧ zfx V V' ∧ zWs Γ V V' (10 + i) (ad (10 + i)) (σ (4 * i)) (σ (4 * i + 1)) (σ (4 * i + 2) + 1) (σ (4 * i + 3))) := by
  obtain ⟨rr, nn, ba, w⟩ := hS.cw
  obtain ⟨st, f, h1, h2, h3, h4, h5, h6, h7, h8⟩ := w.1 i hi
  obtain ⟨a1, a2, a3, a4, a5, a6, a7, a8⟩ := id h3
  refine (m_X5_writeSign_y l0 Γ h1 h2 h3 hx hlt).imp (fun rv V' hp => ?_)
  have e1 : zTp (σ (40 + i) + σ (4 * i + 2)) = 1000 + (ba i + (st + σ (4 * i + 2)).toNat) := zT_at (σ := σ) (p := 0) h6 (by omega)
  refine ⟨hp.1, hS.setR w hi (f' := zf f (st + σ (4 * i + 2)).toNat x) (zc_zf h4 hx) ⟨by omega, by omega, by omega, by omega, by omega, a6, by omega, a8⟩ h6 hp.2 (fun y hy => ?_) (fun a ha => ?_) (fun j hj => ?_)⟩
  · rw [e1]
    unfold zf
    by_cases c : y = (st + σ (4 * i + 2)).toNat
    · rw [if_pos c, if_pos (by omega)]
    · rw [if_neg c, if_neg (by omega), zw4_hi hi (by omega)]
      exact (h8 y hy).symm
  · rw [e1]
    unfold zf
    rw [if_neg (by omega), zw4_hi hi (by omega)]
  · rw [e1]
    unfold zf
    rw [if_neg (by omega)]
def zmt (σ : Nat → Int) (s n p : Nat) : Nat → Int := fun j => if 1000 + s ≤ j ∧ j < 1000 + s + n then σ (j + p) else σ j
theorem k_move (hS : zS Γ V ad σ) (hi : i < 6) : zM l0 Γ 3 yX5_moveTextToFront wsX5_moveTextToFront 0 0 V [.ref (ad (10 + i))] (fun rv V' => rv = none ∧ zS Γ V' ad (zmt (zw4 σ i (σ (4 * i)) (σ (4 * i)) (σ (4 * i + 1) - σ (4 * i + 2)) (-9)) (σ (40 + i)).toNat (σ (4 * i + 1) - σ (4 * i + 2)).toNat (σ (4 * i + 2)).toNat) ∧ zfx V V' ∧ zWs Γ V V' (10 + i) (ad (10 + i)) (σ (4 * i)) (σ (4 * i)) (σ (4 * i + 1) - σ (4 * i + 2)) (-9)) := by
  obtain ⟨rr, nn, ba, w⟩ := hS.cw
  obtain ⟨st, f, h1, h2, h3, h4, h5, h6, h7, h8⟩ := w.1 i hi
  obtain ⟨a1, a2, a3, a4, a5, a6, a7, a8⟩ := id h3
  refine (m_X5_moveTextToFront l0 Γ h1 h2 h3 h4).imp (fun rv V' hp => ?_)
  refine ⟨hp.1, hS.setR w hi (f' := zmv f st (σ (4 * i + 1) - σ (4 * i + 2)) (σ (4 * i + 2))) (zmv_zc h4) ⟨by omega, by omega, by omega, by omega, by omega, Or.inl rfl, by omega, a8⟩ h6 hp.2 (fun y hy => ?_) (fun a ha => ?_) (fun j hj => ?_)⟩
  · unfold zmt zmv
    by_cases c : st ≤ (y : Int) ∧ (y : Int) < st + (σ (4 * i + 1) - σ (4 * i + 2))
    · rw [if_pos c, if_pos (by omega), zw4_hi hi (by omega), h8 _ (by omega)]
      congr 1
      omega
    · rw [if_neg c, if_neg (by omega), zw4_hi hi (by omega)]
      exact (h8 y hy).symm
  · unfold zmt
    rw [if_neg (by omega), zw4_hi hi (by omega)]
  · unfold zmt
    rw [if_neg (by omega)]
theorem k_like (hS : zS Γ V ad σ) (hi : i < 6) {j : Nat} (hj : j < 6) (hij : j ≠ i) : zM l0 Γ 0 yX5_becomeLike wsX5_becomeLike 0 0 V [.ref (ad (10 + i)), .ref (ad (10 + j))] (fun rv V' => rv = none ∧ zS Γ V' ad (zf (zw4 σ i (σ (4 * j)) (σ (4 * j + 1)) (σ (4 * j + 2)) (σ (4 * j + 3))) (40 + i) (σ (40 + j))) ∧ zfx V V' ∧ zWs Γ V V' (10 + i) (ad (10 + i)) (σ (4 * j)) (σ (4 * j + 1)) (σ (4 * j + 2)) (σ (4 * j + 3))) := by
  obtain ⟨rr, nn, ba, w⟩ := hS.cw
  obtain ⟨st, f, h1, h2, h3, h4, h5, h6, h7, h8⟩ := w.1 i hi
  obtain ⟨a1, a2, a3, a4, a5, a6, a7, a8⟩ := id h3
  obtain ⟨stj, fj, k1, k2, k3, k4, k5, k6, k7, k8⟩ := w.1 j hj
  obtain ⟨b1, b2, b3, b4, b5, b6, b7, b8⟩ := id k3
  have hne : ad (10 + i) ≠ ad (10 + j) := zne_tag h1 k1 (by omega)
  refine (m_X5_becomeLike_ne l0 Γ h1 k1 hne).imp (fun rv V' hp => ?_)
  exact ⟨hp.1, hS.setC w hi hj k3 k5 hp.2 k6⟩
theorem k_slice (hS : zS Γ V ad σ) (hi : i < 6) {j : Nat} (hj : j < 6) (hij : j ≠ i) : zM l0 Γ 1 yX5_becomeSlice wsX5_becomeSlice 0 0 V [.ref (ad (10 + i)), .ref (ad (10 + j))] (fun rv V' => rv = none ∧ zS Γ V' ad (zf (zw4 σ i (σ (4 * j + 1) - σ (4 * j + 2)) (σ (4 * j + 1) - σ (4 * j + 2)) 0 (-9)) (40 + i) (σ (40 + j) + σ (4 * j + 2))) ∧ zfx V V' ∧ zWs Γ V V' (10 + i) (ad (10 + i)) (σ (4 * j + 1) - σ (4 * j + 2)) (σ (4 * j + 1) - σ (4 * j + 2)) (0) (-9)) := by
  obtain ⟨rr, nn, ba, w⟩ := hS.cw
  obtain ⟨st, f, h1, h2, h3, h4, h5, h6, h7, h8⟩ := w.1 i hi
  obtain ⟨a1, a2, a3, a4, a5, a6, a7, a8⟩ := id h3
  obtain ⟨stj, fj, k1, k2, k3, k4, k5, k6, k7, k8⟩ := w.1 j hj
  obtain ⟨b1, b2, b3, b4, b5, b6, b7, b8⟩ := id k3
  have hne : ad (10 + i) ≠ ad (10 + j) := zne_tag h1 k1 (by omega)
  refine (m_X5_becomeSlice_ne l0 Γ h1 k1 hne (by omega)).imp (fun rv V' hp => ?_)
  exact ⟨hp.1, hS.setC w hi hj ⟨by omega, by omega, by omega, by omega, by omega, Or.inl rfl, by omega, b8⟩ (by omega) hp.2 (by omega)⟩
theorem k_slice_eq (hS : zS Γ V ad σ) (hi : i < 6) : zM l0 Γ 1 yX5_becomeSlice wsX5_becomeSlice 0 0 V [.ref (ad (10 + i)), .ref (ad (10 + i))] (fun rv V' => rv = none ∧ zS Γ V' ad (zf (zw4 σ i (σ (4 * i + 1) - σ (4 * i + 2)) (σ (4 * i + 1) - σ (4 * i + 2)) 0 (-9)) (40 + i) (σ (40 + i) + σ (4 * i + 2))) ∧ zfx V V' ∧ zWs Γ V V' (10 + i) (ad (10 + i)) (σ (4 * i + 1) - σ (4 * i + 2)) (σ (4 * i + 1) - σ (4 * i + 2)) (0) (-9)) := by
  obtain ⟨rr, nn, ba, w⟩ := hS.cw
  obtain ⟨st, f, h1, h2, h3, h4, h5, h6, h7, h8⟩ := w.1 i hi
  obtain ⟨a1, a2, a3, a4, a5, a6, a7, a8⟩ := id h3
  refine (m_X5_becomeSlice_eq l0 Γ h1 (by omega)).imp (fun rv V' hp => ?_)
  exact ⟨hp.1, hS.setC w hi hi ⟨by omega, by omega, by omega, by omega, by omega, Or.inl rfl, by omega, a8⟩ (by omega) hp.2 (by omega)⟩
theorem k_part (hS : zS Γ V ad σ) (hi : i < 6) {j : Nat} (hj : j < 6) (hij : j ≠ i) {a b : Int} (hab : 0 ≤ a ∧ a ≤ b ∧ b ≤ σ (4 * j + 1) - σ (4 * j + 2)) : zM l0 Γ 0 yX5_becomePart wsX5_becomePart 0 0 V [.ref (ad (10 + i)), .ref (ad (10 + j)), .int (zI a), .int (zI b)] (fun rv V' => rv = none ∧ zS Γ V' ad (zf (zw4 σ i (σ (4 * j)) (σ (4 * j + 2) + b) (σ (4 * j + 2) + a) (σ (4 * j + 2) + a)) (40 + i) (σ (40 + j))) ∧ zfx V V' ∧ zWs Γ V V' (10 + i) (ad (10 + i)) (σ (4 * j)) (σ (4 * j + 2) + b) (σ (4 * j + 2) + a) (σ (4 * j + 2) + a)) := by
  obtain ⟨rr, nn, ba, w⟩ := hS.cw
  obtain ⟨st, f, h1, h2, h3, h4, h5, h6, h7, h8⟩ := w.1 i hi
  obtain ⟨a1, a2, a3, a4, a5, a6, a7, a8⟩ := id h3
  obtain ⟨stj, fj, k1, k2, k3, k4, k5, k6, k7, k8⟩ := w.1 j hj
  obtain ⟨b1, b2, b3, b4, b5, b6, b7, b8⟩ := id k3
  have hne : ad (10 + i) ≠ ad (10 + j) := zne_tag h1 k1 (by omega)
  refine (m_X5_becomePart_ne l0 Γ (a := a) (b := b) h1 k1 hne).imp (fun rv V' hp => ?_)
  exact ⟨hp.1, hS.setC w hi hj ⟨by omega, by omega, by omega, by omega, by omega, by omega, by omega, b8⟩ (by omega) hp.2 k6⟩
theorem k_part_eq (hS : zS Γ V ad σ) (hi : i < 6) {a b : Int} (hab : 0 ≤ a ∧ a ≤ b ∧ b ≤ σ (4 * i + 1) - σ (4 * i + 2)) : zM l0 Γ 0 yX5_becomePart wsX5_becomePart 0 0 V [.ref (ad (10 + i)), .ref (ad (10 + i)), .int (zI a), .int (zI b)] (fun rv V' => rv = none ∧ zS Γ V' ad (zf (zw4 σ i (σ (4 * i)) (σ (4 * i + 2) + b) (σ (4 * i + 2) + a) (σ (4 * i + 2) + a)) (40 + i) (σ (40 + i))) ∧ zfx V V' ∧ zWs Γ V V' (10 + i) (ad (10 + i)) (σ (4 * i)) (σ (4 * i + 2) + b) (σ (4 * i + 2) + a) (σ (4 * i + 2) + a)) := by
  obtain ⟨rr, nn, ba, w⟩ := hS.cw
  obtain ⟨st, f, h1, h2, h3, h4, h5, h6, h7, h8⟩ := w.1 i hi
  obtain ⟨a1, a2, a3, a4, a5, a6, a7, a8⟩ := id h3
  refine (m_X5_becomePart_eq l0 Γ (a := a) (b := b) h1).imp (fun rv V' hp => ?_)
  exact ⟨hp.1, hS.setC w hi hi ⟨by omega, by omega, by omega, by omega, by omega, by omega, by omega, a8⟩ (by omega) hp.2 h6⟩
theorem k_new_ws {Γ : zGam} {V V' : zV} {ad : Nat → Nat} {i : Nat} {z : Int} {q : Nat} {e0 : va_E} (hi : i < 6) (h1 : V (ad (10 + i)) = some (10 + i, e0)) (hq : V q = none) (hz : 0 ≤ z ∧ z ≤ 40) (e2 : V' = zu (zu V q 50 (za Γ.2.1 1 z.toNat (fun _ => 0))) (ad (10 + i)) (10 + i) (.inr (6, [.ref q, .int (zI 0), .int (zI z), .int (zI z), .int (zI 0), .int (zI (-9))]))) : zWs Γ V V' (10 + i) (ad (10 + i)) z z 0 (-9) := by
  have hnq : ad (10 + i) ≠ q := fun he => by
    rw [he, hq] at h1
    cases h1
  subst e2
  have ha : zag (fun t => t ≠ 10 + i) V (zu (zu V q 50 (za Γ.2.1 1 z.toNat (fun _ => 0))) (ad (10 + i)) (10 + i) (.inr (6, [.ref q, .int (zI 0), .int (zI z), .int (zI z), .int (zI 0), .int (zI (-9))]))) := (zag.rf.new hq).set ((zu_ne hnq).trans h1) (fun h9 => h9 rfl)
  exact ⟨⟨q, z.toNat, 0, fun _ => 0, zu_eq _ _ _ _, (zu_ne (Ne.symm hnq)).trans (zu_eq _ _ _ _), ⟨by omega, by omega, by omega, by omega, by omega, Or.inl rfl, by omega, by omega⟩, zc_zero, by omega⟩, ha.mono (fun t ht => ht.1), .of ha (by omega)⟩
theorem k_becomeNew (hS : zS Γ V ad σ) (hi : i < 6) {z : Int} (hz : 0 ≤ z ∧ z ≤ 40) : zM l0 Γ 2 yX5_becomeNew wsX5_becomeNew 1 z.toNat V [.ref (ad (10 + i)), .int (zI z)] (fun rv V' => rv = none ∧ zS Γ V' ad (zf (zf (zw4 σ i z z 0 (-9)) (40 + i) (σ 46)) 46 (σ 46 + z)) ∧ zfx V V' ∧ zWs Γ V V' (10 + i) (ad (10 + i)) (z) (z) (0) (-9)) := by
  obtain ⟨rr, nn, ba, w⟩ := hS.cw
  obtain ⟨st, f, h1, h2, h3, h4, h5, h6, h7, h8⟩ := w.1 i hi
  obtain ⟨a1, a2, a3, a4, a5, a6, a7, a8⟩ := id h3
  refine (m_X5_becomeNew l0 Γ (z := z) h1 hz).imp (fun rv V' hp => ?_)
  obtain ⟨e1, q, hq, e2⟩ := hp
  have ez : ((z.toNat : Nat) : Int) = z := by omega
  rw [ez] at e2
  have hnq : ad (10 + i) ≠ q := fun he => by
    rw [he, hq] at h1
    cases h1
  have hw : zWs Γ V V' (10 + i) (ad (10 + i)) z z 0 (-9) := k_new_ws hi h1 hq hz e2
  have ha : zag (fun t => t ≠ 10 + i) V V' := by
    rw [e2]
    exact (zag.rf.new hq).set ((zu_ne hnq).trans h1) (fun h9 => h9 rfl)
  obtain ⟨g1, g2⟩ := hS.c0.setW hi hw
  refine ⟨e1, (g1.sig (fun x hx => ?_)).mk (hS.ct.setN hi hz hq ha (by rw [e2]; exact zu_eq _ _ _ _) (by rw [e2, zu_ne (Ne.symm hnq)]; exact zu_eq _ _ _ _)), g2, hw⟩
  unfold zf
  rw [if_neg (by omega), if_neg (by omega)]
end ZK
end
section
/-! Sashwords: the helpers -/
abbrev zIO : String := "java/lang/IndexOutOfBoundsException"
abbrev zIA : String := "java/lang/IllegalArgumentException"
abbrev zIS : String := "java/lang/IllegalStateException"
def zdn (σ : Nat → Int) : Nat → Int := zx4 σ (σ 30 + 1) (σ 31) (σ 32) (σ 33)
def zrf (σ : Nat → Int) : Nat → Int := zx4 σ (σ 30) (σ 31 + 1) (σ 32) (σ 33)
/-- the address of a source -/
def zso (ad : Nat → Nat) (q : Int) : Nat := if q < 6 then ad (10 + q.toNat) else if q = 6 then ad 20 else ad 22
/-- how many signs it has -/
def zsz (σ : Nat → Int) (q : Int) : Int := if q < 6 then σ (4 * q.toNat + 1) - σ (4 * q.toNat + 2) else if q = 6 then σ 24 else σ 25
set_option maxRecDepth 100000 in
set_option maxHeartbeats 4000000 in
theorem m_X6_windowOf (l : Launch) (hlt : l.stackTraces = false) (Γ : zGam) {V : zV} {ad : Nat → Nat} {σ : Nat → Int} {q : Int} (hS : zS Γ V ad σ) (hq : -2147483648 ≤ q ∧ q ≤ 2147483647) : zN l Γ 6 yX6_windowOf wsX6_windowOf 1 6 V [.ref (ad 1), .int (zI (q))] (fun rv V' => (0 ≤ q ∧ q < 6) ∧ rv = some (.ref (ad (10 + q.toNat))) ∧ V' = V) (fun E V' => E = zIO ∧ ¬ (0 ≤ q ∧ q < 6) ∧ V' = V) := by
  have w0 : Cond.classLink RX6 302 "java/lang/IndexOutOfBoundsException" ∈ wsX6_windowOf := by decide +kernel
  have w1 : Cond.initialized "java/lang/IndexOutOfBoundsException" ∈ wsX6_windowOf := by decide +kernel
  have w2 : Cond.fieldLink RX6 11 "Sashwords" "windows" "[LSashwords$Window;" ∈ wsX6_windowOf := by decide +kernel
  have iX6 : ∀ w ∈ u_ws RX6 TX6 14, w ∈ wsX6_windowOf := by decide +kernel
  refine zN_of (cc := cX6_windowOf) (nL := 2) (ret := (some (.object "Sashwords$Window"))) (own := RX6) hlt (by decide +kernel) rfl rfl (Nat.le_of_ble_eq_true rfl) (fun C X Y => ?_)
  have hx1 : V (ad 1) = some (1, .inr (7, [.ref (ad 2), .ref (ad 20), .ref (ad 22), .ref (ad 24), .ref (ad 16), .ref (ad 31), .ref (ad 33), .ref (ad 35), .ref (ad 40), .ref (ad 45), .int (zI (σ 30)), .int (zI (σ 31)), .int (zI (σ 32)), .int (zI (σ 33))])) := hS.1
  show zG C V 1 6 0 [(0, .ref (ad 1)), (1, .int (zI (q)))] []
  refine zr_iload_n X 1 1 dX6_windowOf_0 rfl rfl ?_
  refine zr_if_lt X 13 4 dX6_windowOf_1 rfl rfl (by omega) (fun bq2 => ?_) (fun bq2 => ?_)
  · exact zr_throw X Y 0 (names := ["java/lang/RuntimeException", "java/lang/Exception"]) rfl (by decide +kernel) (by decide +kernel) (by decide) w0 w1 (fun w h => List.mem_cons_of_mem _ (List.mem_append_right _ h)) (by decide +kernel) (by decide +kernel) (by decide +kernel) (by decide) dX6_windowOf_13 dX6_windowOf_16 dX6_windowOf_17 dX6_windowOf_20 dX6_windowOf_23 (Nat.le_of_ble_eq_true rfl) (by omega) (by omega) ⟨rfl, by omega, rfl⟩
  · refine zr_iload_n X 5 1 dX6_windowOf_4 rfl rfl ?_
    refine zr_aload_n X 6 0 dX6_windowOf_5 rfl rfl ?_
    refine zr_get X 9 7 0 hx1 rfl iX6 (by decide) w2 rfl rfl dX6_windowOf_6 rfl ?_
    refine zr_alenq X 10 3 hS.2.1.1 (by decide) dX6_windowOf_9 rfl ?_
    refine zr_icmp_lt X 24 13 dX6_windowOf_10 rfl rfl (by omega) (by omega) (fun bq3 => ?_) (fun bq3 => ?_)
    · refine zr_aload_n X 25 0 dX6_windowOf_24 rfl rfl ?_
      refine zr_get X 28 7 0 hx1 rfl iX6 (by decide) w2 rfl rfl dX6_windowOf_25 rfl ?_
      refine zr_iload_n X 29 1 dX6_windowOf_28 rfl rfl ?_
      refine zr_aald X 30 (.ref (ad (10 + (q).toNat))) hS.2.1.1 (by omega) rfl dX6_windowOf_29 rfl ?_
      exact zr_aret X rfl (Or.inl ⟨_, rfl⟩) ⟨by omega, rfl, rfl⟩ dX6_windowOf_30
    · exact zr_throw X Y 0 (names := ["java/lang/RuntimeException", "java/lang/Exception"]) rfl (by decide +kernel) (by decide +kernel) (by decide) w0 w1 (fun w h => List.mem_cons_of_mem _ (List.mem_append_right _ h)) (by decide +kernel) (by decide +kernel) (by decide +kernel) (by decide) dX6_windowOf_13 dX6_windowOf_16 dX6_windowOf_17 dX6_windowOf_20 dX6_windowOf_23 (Nat.le_of_ble_eq_true rfl) (by omega) (by omega) ⟨rfl, by omega, rfl⟩
set_option maxRecDepth 100000 in
set_option maxHeartbeats 4000000 in
theorem m_X6_sourceOf (l : Launch) (hlt : l.stackTraces = false) (Γ : zGam) {V : zV} {ad : Nat → Nat} {σ : Nat → Int} {q : Int} (hS : zS Γ V ad σ) (hq : -2147483648 ≤ q ∧ q ≤ 2147483647) : zN l Γ 6 yX6_sourceOf wsX6_sourceOf 1 6 V [.ref (ad 1), .int (zI (q))] (fun rv V' => (0 ≤ q ∧ q ≤ 7) ∧ rv = some (.ref (zso ad q)) ∧ V' = V) (fun E V' => E = zIO ∧ ¬ (0 ≤ q ∧ q ≤ 7) ∧ V' = V) := by
  have w0 : Cond.classLink RX6 302 "java/lang/IndexOutOfBoundsException" ∈ wsX6_sourceOf := by decide +kernel
  have w1 : Cond.initialized "java/lang/IndexOutOfBoundsException" ∈ wsX6_sourceOf := by decide +kernel
  have w2 : Cond.fieldLink RX6 11 "Sashwords" "windows" "[LSashwords$Window;" ∈ wsX6_sourceOf := by decide +kernel
  have iX6 : ∀ w ∈ u_ws RX6 TX6 14, w ∈ wsX6_sourceOf := by decide +kernel
  have w4 : Cond.fieldLink RX6 24 "Sashwords" "kept" "LSashwords$Script;" ∈ wsX6_sourceOf := by decide +kernel
  have w5 : Cond.fieldLink RX6 20 "Sashwords" "builder" "LSashwords$Script;" ∈ wsX6_sourceOf := by decide +kernel
  refine zN_of (cc := cX6_sourceOf) (nL := 2) (ret := (some (.object "Sashwords$Text"))) (own := RX6) hlt (by decide +kernel) rfl rfl (Nat.le_of_ble_eq_true rfl) (fun C X Y => ?_)
  have hx1 : V (ad 1) = some (1, .inr (7, [.ref (ad 2), .ref (ad 20), .ref (ad 22), .ref (ad 24), .ref (ad 16), .ref (ad 31), .ref (ad 33), .ref (ad 35), .ref (ad 40), .ref (ad 45), .int (zI (σ 30)), .int (zI (σ 31)), .int (zI (σ 32)), .int (zI (σ 33))])) := hS.1
  show zG C V 1 6 0 [(0, .ref (ad 1)), (1, .int (zI (q)))] []
  refine zr_iload_n X 1 1 dX6_sourceOf_0 rfl rfl ?_
  refine zr_if_lt X 10 4 dX6_sourceOf_1 rfl rfl (by omega) (fun bq2 => ?_) (fun bq2 => ?_)
  · exact zr_throw X Y 1 (names := ["java/lang/RuntimeException", "java/lang/Exception"]) rfl (by decide +kernel) (by decide +kernel) (by decide) w0 w1 (fun w h => List.mem_cons_of_mem _ (List.mem_append_right _ h)) (by decide +kernel) (by decide +kernel) (by decide +kernel) (by decide) dX6_sourceOf_10 dX6_sourceOf_13 dX6_sourceOf_14 dX6_sourceOf_17 dX6_sourceOf_20 (Nat.le_of_ble_eq_true rfl) (by omega) (by omega) ⟨rfl, by omega, rfl⟩
  · refine zr_iload_n X 5 1 dX6_sourceOf_4 rfl rfl ?_
    refine zr_bipush X 7 (7) dX6_sourceOf_5 rfl (by decide) ?_
    refine zr_icmp_le X 21 10 dX6_sourceOf_7 rfl rfl (by omega) (by omega) (fun bq3 => ?_) (fun bq3 => ?_)
    · refine zr_iload_n X 22 1 dX6_sourceOf_21 rfl rfl ?_
      refine zr_aload_n X 23 0 dX6_sourceOf_22 rfl rfl ?_
      refine zr_get X 26 7 0 hx1 rfl iX6 (by decide) w2 rfl rfl dX6_sourceOf_23 rfl ?_
      refine zr_alenq X 27 3 hS.2.1.1 (by decide) dX6_sourceOf_26 rfl ?_
      refine zr_icmp_ge X 37 30 dX6_sourceOf_27 rfl rfl (by omega) (by omega) (fun bq4 => ?_) (fun bq4 => ?_)
      · refine zr_iload_n X 38 1 dX6_sourceOf_37 rfl rfl ?_
        refine zr_bipush X 40 (6) dX6_sourceOf_38 rfl (by decide) ?_
        refine zr_icmp_ne X 50 43 dX6_sourceOf_40 rfl rfl (by omega) (by omega) (fun bq5 => ?_) (fun bq5 => ?_)
        · refine zr_aload_n X 51 0 dX6_sourceOf_50 rfl rfl ?_
          refine zr_get X 54 7 2 hx1 rfl iX6 (by decide) w4 rfl rfl dX6_sourceOf_51 rfl ?_
          exact zr_aret X rfl (Or.inl ⟨_, rfl⟩) ⟨by omega, by unfold zso; rw [if_neg (by omega), if_neg (by omega)], rfl⟩ dX6_sourceOf_54
        · refine zr_aload_n X 44 0 dX6_sourceOf_43 rfl rfl ?_
          refine zr_get X 47 7 1 hx1 rfl iX6 (by decide) w5 rfl rfl dX6_sourceOf_44 rfl ?_
          refine zr_goto X 54 dX6_sourceOf_47 rfl ?_
          exact zr_aret X rfl (Or.inl ⟨_, rfl⟩) ⟨by omega, by unfold zso; rw [if_neg (by omega), if_pos (by omega)], rfl⟩ dX6_sourceOf_54
      · refine zr_aload_n X 31 0 dX6_sourceOf_30 rfl rfl ?_
        refine zr_get X 34 7 0 hx1 rfl iX6 (by decide) w2 rfl rfl dX6_sourceOf_31 rfl ?_
        refine zr_iload_n X 35 1 dX6_sourceOf_34 rfl rfl ?_
        refine zr_aald X 36 (.ref (ad (10 + (q).toNat))) hS.2.1.1 (by omega) rfl dX6_sourceOf_35 rfl ?_
        exact zr_aret X rfl (Or.inl ⟨_, rfl⟩) ⟨by omega, by unfold zso; rw [if_pos (by omega)], rfl⟩ dX6_sourceOf_36
    · exact zr_throw X Y 1 (names := ["java/lang/RuntimeException", "java/lang/Exception"]) rfl (by decide +kernel) (by decide +kernel) (by decide) w0 w1 (fun w h => List.mem_cons_of_mem _ (List.mem_append_right _ h)) (by decide +kernel) (by decide +kernel) (by decide +kernel) (by decide) dX6_sourceOf_10 dX6_sourceOf_13 dX6_sourceOf_14 dX6_sourceOf_17 dX6_sourceOf_20 (Nat.le_of_ble_eq_true rfl) (by omega) (by omega) ⟨rfl, by omega, rfl⟩
set_option maxRecDepth 100000 in
set_option maxHeartbeats 4000000 in
theorem m_X6_requirePlace (l : Launch) (hlt : l.stackTraces = false) (Γ : zGam) {V : zV} {p n : Int} (hp : -2147483648 ≤ p ∧ p ≤ 2147483647) (hn : 0 ≤ n ∧ n ≤ 1000) : zN l Γ 6 yX6_requirePlace wsX6_requirePlace 1 6 V [.int (zI (p)), .int (zI (n))] (fun rv V' => (0 ≤ p ∧ p < n) ∧ rv = none ∧ V' = V) (fun E V' => E = zIO ∧ ¬ (0 ≤ p ∧ p < n) ∧ V' = V) := by
  have w0 : Cond.classLink RX6 302 "java/lang/IndexOutOfBoundsException" ∈ wsX6_requirePlace := by decide +kernel
  have w1 : Cond.initialized "java/lang/IndexOutOfBoundsException" ∈ wsX6_requirePlace := by decide +kernel
  refine zN_of (cc := cX6_requirePlace) (nL := 2) (ret := none) (own := RX6) hlt (by decide +kernel) rfl rfl (Nat.le_of_ble_eq_true rfl) (fun C X Y => ?_)
  show zG C V 1 6 0 [(0, .int (zI (p))), (1, .int (zI (n)))] []
  refine zr_iload_n X 1 0 dX6_requirePlace_0 rfl rfl ?_
  refine zr_if_lt X 9 4 dX6_requirePlace_1 rfl rfl (by omega) (fun bq1 => ?_) (fun bq1 => ?_)
  · exact zr_throw X Y 2 (names := ["java/lang/RuntimeException", "java/lang/Exception"]) rfl (by decide +kernel) (by decide +kernel) (by decide) w0 w1 (fun w h => List.mem_cons_of_mem _ (List.mem_append_right _ h)) (by decide +kernel) (by decide +kernel) (by decide +kernel) (by decide) dX6_requirePlace_9 dX6_requirePlace_12 dX6_requirePlace_13 dX6_requirePlace_16 dX6_requirePlace_19 (Nat.le_of_ble_eq_true rfl) (by omega) (by omega) ⟨rfl, by omega, rfl⟩
  · refine zr_iload_n X 5 0 dX6_requirePlace_4 rfl rfl ?_
    refine zr_iload_n X 6 1 dX6_requirePlace_5 rfl rfl ?_
    refine zr_icmp_lt X 20 9 dX6_requirePlace_6 rfl rfl (by omega) (by omega) (fun bq2 => ?_) (fun bq2 => ?_)
    · exact zr_vret X rfl ⟨by omega, rfl, rfl⟩ dX6_requirePlace_20
    · exact zr_throw X Y 2 (names := ["java/lang/RuntimeException", "java/lang/Exception"]) rfl (by decide +kernel) (by decide +kernel) (by decide) w0 w1 (fun w h => List.mem_cons_of_mem _ (List.mem_append_right _ h)) (by decide +kernel) (by decide +kernel) (by decide +kernel) (by decide) dX6_requirePlace_9 dX6_requirePlace_12 dX6_requirePlace_13 dX6_requirePlace_16 dX6_requirePlace_19 (Nat.le_of_ble_eq_true rfl) (by omega) (by omega) ⟨rfl, by omega, rfl⟩
set_option maxRecDepth 100000 in
set_option maxHeartbeats 4000000 in
theorem m_X6_require (l : Launch) (hlt : l.stackTraces = false) (Γ : zGam) {V : zV} {b : Int} (hb : b = 0 ∨ b = 1) : zN l Γ 6 yX6_require wsX6_require 1 6 V [.int (zI (b))] (fun rv V' => b = 1 ∧ rv = none ∧ V' = V) (fun E V' => E = zIA ∧ b = 0 ∧ V' = V) := by
  have w0 : Cond.classLink RX6 313 "java/lang/IllegalArgumentException" ∈ wsX6_require := by decide +kernel
  have w1 : Cond.initialized "java/lang/IllegalArgumentException" ∈ wsX6_require := by decide +kernel
  refine zN_of (cc := cX6_require) (nL := 1) (ret := none) (own := RX6) hlt (by decide +kernel) rfl rfl (Nat.le_of_ble_eq_true rfl) (fun C X Y => ?_)
  show zG C V 1 6 0 [(0, .int (zI (b)))] []
  refine zr_iload_n X 1 0 dX6_require_0 rfl rfl ?_
  refine zr_if_ne X 15 4 dX6_require_1 rfl rfl (by omega) (fun bq1 => ?_) (fun bq1 => ?_)
  · exact zr_vret X rfl ⟨by omega, rfl, rfl⟩ dX6_require_15
  · exact zr_throw X Y 3 (names := ["java/lang/RuntimeException", "java/lang/Exception"]) rfl (by decide +kernel) (by decide +kernel) (by decide) w0 w1 (fun w h => List.mem_cons_of_mem _ (List.mem_append_right _ h)) (by decide +kernel) (by decide +kernel) (by decide +kernel) (by decide) dX6_require_4 dX6_require_7 dX6_require_8 dX6_require_11 dX6_require_14 (Nat.le_of_ble_eq_true rfl) (by omega) (by omega) ⟨rfl, by omega, rfl⟩
set_option maxRecDepth 100000 in
set_option maxHeartbeats 4000000 in
theorem m_X6_requireWithin (l : Launch) (hlt : l.stackTraces = false) (Γ : zGam) {V : zV} {x a b : Int} (hx : -2147483648 ≤ x ∧ x ≤ 2147483647) (ha : -2147483648 ≤ a ∧ a ≤ 2147483647) (hb : -2147483648 ≤ b ∧ b ≤ 2147483647) : zN l Γ 6 yX6_requireWithin wsX6_requireWithin 1 6 V [.int (zI (x)), .int (zI (a)), .int (zI (b))] (fun rv V' => (a ≤ x ∧ x ≤ b) ∧ rv = none ∧ V' = V) (fun E V' => E = zIA ∧ ¬ (a ≤ x ∧ x ≤ b) ∧ V' = V) := by
  have w0 : Cond.classLink RX6 313 "java/lang/IllegalArgumentException" ∈ wsX6_requireWithin := by decide +kernel
  have w1 : Cond.initialized "java/lang/IllegalArgumentException" ∈ wsX6_requireWithin := by decide +kernel
  refine zN_of (cc := cX6_requireWithin) (nL := 3) (ret := none) (own := RX6) hlt (by decide +kernel) rfl rfl (Nat.le_of_ble_eq_true rfl) (fun C X Y => ?_)
  show zG C V 1 6 0 [(0, .int (zI (x))), (1, .int (zI (a))), (2, .int (zI (b)))] []
  refine zr_iload_n X 1 0 dX6_requireWithin_0 rfl rfl ?_
  refine zr_iload_n X 2 1 dX6_requireWithin_1 rfl rfl ?_
  refine zr_icmp_lt X 10 5 dX6_requireWithin_2 rfl rfl (by omega) (by omega) (fun bq1 => ?_) (fun bq1 => ?_)
  · exact zr_throw X Y 4 (names := ["java/lang/RuntimeException", "java/lang/Exception"]) rfl (by decide +kernel) (by decide +kernel) (by decide) w0 w1 (fun w h => List.mem_cons_of_mem _ (List.mem_append_right _ h)) (by decide +kernel) (by decide +kernel) (by decide +kernel) (by decide) dX6_requireWithin_10 dX6_requireWithin_13 dX6_requireWithin_14 dX6_requireWithin_17 dX6_requireWithin_20 (Nat.le_of_ble_eq_true rfl) (by omega) (by omega) ⟨rfl, by omega, rfl⟩
  · refine zr_iload_n X 6 0 dX6_requireWithin_5 rfl rfl ?_
    refine zr_iload_n X 7 2 dX6_requireWithin_6 rfl rfl ?_
    refine zr_icmp_le X 21 10 dX6_requireWithin_7 rfl rfl (by omega) (by omega) (fun bq2 => ?_) (fun bq2 => ?_)
    · exact zr_vret X rfl ⟨by omega, rfl, rfl⟩ dX6_requireWithin_21
    · exact zr_throw X Y 4 (names := ["java/lang/RuntimeException", "java/lang/Exception"]) rfl (by decide +kernel) (by decide +kernel) (by decide) w0 w1 (fun w h => List.mem_cons_of_mem _ (List.mem_append_right _ h)) (by decide +kernel) (by decide +kernel) (by decide +kernel) (by decide) dX6_requireWithin_10 dX6_requireWithin_13 dX6_requireWithin_14 dX6_requireWithin_17 dX6_requireWithin_20 (Nat.le_of_ble_eq_true rfl) (by omega) (by omega) ⟨rfl, by omega, rfl⟩
set_option maxRecDepth 100000 in
set_option maxHeartbeats 4000000 in
theorem m_X6_requireRoom (l : Launch) (hlt : l.stackTraces = false) (Γ : zGam) {V : zV} {x b : Int} (hx : -2147483648 ≤ x ∧ x ≤ 2147483647) (hb : -2147483648 ≤ b ∧ b ≤ 2147483647) : zN l Γ 6 yX6_requireRoom wsX6_requireRoom 1 6 V [.int (zI (x)), .int (zI (b))] (fun rv V' => x ≤ b ∧ rv = none ∧ V' = V) (fun E V' => E = zIS ∧ ¬ (x ≤ b) ∧ V' = V) := by
  have w0 : Cond.classLink RX6 323 "java/lang/IllegalStateException" ∈ wsX6_requireRoom := by decide +kernel
  have w1 : Cond.initialized "java/lang/IllegalStateException" ∈ wsX6_requireRoom := by decide +kernel
  refine zN_of (cc := cX6_requireRoom) (nL := 2) (ret := none) (own := RX6) hlt (by decide +kernel) rfl rfl (Nat.le_of_ble_eq_true rfl) (fun C X Y => ?_)
  show zG C V 1 6 0 [(0, .int (zI (x))), (1, .int (zI (b)))] []
  refine zr_iload_n X 1 0 dX6_requireRoom_0 rfl rfl ?_
  refine zr_iload_n X 2 1 dX6_requireRoom_1 rfl rfl ?_
  refine zr_icmp_le X 16 5 dX6_requireRoom_2 rfl rfl (by omega) (by omega) (fun bq1 => ?_) (fun bq1 => ?_)
  · exact zr_vret X rfl ⟨by omega, rfl, rfl⟩ dX6_requireRoom_16
  · exact zr_throw X Y 5 (names := ["java/lang/RuntimeException", "java/lang/Exception"]) rfl (by decide +kernel) (by decide +kernel) (by decide) w0 w1 (fun w h => List.mem_cons_of_mem _ (List.mem_append_right _ h)) (by decide +kernel) (by decide +kernel) (by decide +kernel) (by decide) dX6_requireRoom_5 dX6_requireRoom_8 dX6_requireRoom_9 dX6_requireRoom_12 dX6_requireRoom_15 (Nat.le_of_ble_eq_true rfl) (by omega) (by omega) ⟨rfl, by omega, rfl⟩
set_option maxRecDepth 100000 in
set_option maxHeartbeats 4000000 in
theorem m_X6_requireLetters (l : Launch) (hlt : l.stackTraces = false) (Γ : zGam) {V : zV} {x k : Int} (hx : -2147483648 ≤ x ∧ x ≤ 2147483647) (hk : -2147483648 ≤ k ∧ k ≤ 2147483647) : zN l Γ 7 yX6_requireLetters wsX6_requireLetters 2 12 V [.int (zI (x)), .int (zI (k))] (fun rv V' => (0 ≤ x ∧ 0 ≤ k ∧ k ≤ 20) ∧ rv = none ∧ V' = V) (fun E V' => E = zIA ∧ ¬ (0 ≤ x ∧ 0 ≤ k ∧ k ≤ 20) ∧ V' = V) := by
  have w0 : Cond.constant RX6 322 (2147483647) ∈ wsX6_requireLetters := by decide +kernel
  refine zN_of (cc := cX6_requireLetters) (nL := 2) (ret := none) (own := RX6) hlt (by decide +kernel) rfl rfl (Nat.le_of_ble_eq_true rfl) (fun C X Y => ?_)
  show zG C V 2 12 0 [(0, .int (zI (x))), (1, .int (zI (k)))] []
  refine zr_iload_n X 1 0 dX6_requireLetters_0 rfl rfl ?_
  refine zr_iconst X 2 dX6_requireLetters_1 rfl ?_
  refine zr_ldcwI X 5 (v := 2147483647) w0 rfl dX6_requireLetters_2 rfl ?_
  refine zr_callSN (kc' := 2 - 1) (ks' := 12 - 6) X Y 8 3 (m_X6_requireWithin l hlt Γ (V := V) (x := x) (a := 0) (b := 2147483647) (by omega) (by omega) (by omega)) gX6_requireLetters_X6_requireWithin rfl (by decide +kernel) rfl (by decide) rfl (Nat.le_of_ble_eq_true rfl) dX6_requireLetters_5 rfl (by omega) (by omega) (fun E W hX => ⟨hX.1, by have := hX.2.1; omega, hX.2.2⟩) (fun rv1 V2 hp3 => ?_)
  obtain ⟨hp3a, hp3b, hp3c⟩ := hp3
  rw [hp3b, hp3c]
  show zG C V (2 - 1) (12 - 6) 8 [(0, .int (zI (x))), (1, .int (zI (k)))] []
  refine zr_iload_n X 9 1 dX6_requireLetters_8 rfl rfl ?_
  refine zr_iconst X 10 dX6_requireLetters_9 rfl ?_
  refine zr_bipush X 12 (20) dX6_requireLetters_10 rfl (by decide) ?_
  refine zr_callSN (kc' := (2 - 1) - 1) (ks' := (12 - 6) - 6) X Y 15 3 (m_X6_requireWithin l hlt Γ (V := V) (x := k) (a := 0) (b := 20) (by omega) (by omega) (by omega)) gX6_requireLetters_X6_requireWithin rfl (by decide +kernel) rfl (by decide) rfl (Nat.le_of_ble_eq_true rfl) dX6_requireLetters_12 rfl (by omega) (by omega) (fun E W hX => ⟨hX.1, by have := hX.2.1; omega, hX.2.2⟩) (fun rv4 V5 hp6 => ?_)
  obtain ⟨hp6a, hp6b, hp6c⟩ := hp6
  rw [hp6b, hp6c]
  show zG C V ((2 - 1) - 1) ((12 - 6) - 6) 15 [(0, .int (zI (x))), (1, .int (zI (k)))] []
  exact zr_vret X rfl ⟨by omega, rfl, rfl⟩ dX6_requireLetters_15
set_option maxRecDepth 100000 in
set_option maxHeartbeats 4000000 in
theorem m_X6_isStretch (l : Launch) (Γ : zGam) {V : zV} {a b n : Int} (ha : -2147483648 ≤ a ∧ a ≤ 2147483647) (hb : -2147483648 ≤ b ∧ b ≤ 2147483647) (hn : -2147483648 ≤ n ∧ n ≤ 2147483647) : zM l Γ 0 yX6_isStretch wsX6_isStretch 0 0 V [.int (zI (a)), .int (zI (b)), .int (zI (n))] (fun rv V' => (∃ x : Int, rv = some (.int (zI x)) ∧ ((x = 1 ∧ 0 ≤ a ∧ a ≤ b ∧ b ≤ n) ∨ (x = 0 ∧ ¬ (0 ≤ a ∧ a ≤ b ∧ b ≤ n)))) ∧ V' = V) := by
  refine zM_of (cc := cX6_isStretch) (nL := 3) (ret := (some .boolean)) (own := RX6) (by decide +kernel) rfl rfl (Nat.le_of_ble_eq_true rfl) (fun C X hi0 => ?_)
  show zG C V 0 0 0 [(0, .int (zI (a))), (1, .int (zI (b))), (2, .int (zI (n)))] []
  refine zr_iconst X 1 dX6_isStretch_0 rfl ?_
  refine zr_iload_n X 2 0 dX6_isStretch_1 rfl rfl ?_
  refine zr_icmp_gt X 19 5 dX6_isStretch_2 rfl rfl (by omega) (by omega) (fun bq1 => ?_) (fun bq1 => ?_)
  · refine zr_iconst X 20 dX6_isStretch_19 rfl ?_
    exact zr_zret X rfl rfl ⟨⟨0, rfl, by omega⟩, rfl⟩ dX6_isStretch_20
  · refine zr_iload_n X 6 0 dX6_isStretch_5 rfl rfl ?_
    refine zr_iload_n X 7 1 dX6_isStretch_6 rfl rfl ?_
    refine zr_icmp_gt X 19 10 dX6_isStretch_7 rfl rfl (by omega) (by omega) (fun bq2 => ?_) (fun bq2 => ?_)
    · refine zr_iconst X 20 dX6_isStretch_19 rfl ?_
      exact zr_zret X rfl rfl ⟨⟨0, rfl, by omega⟩, rfl⟩ dX6_isStretch_20
    · refine zr_iload_n X 11 1 dX6_isStretch_10 rfl rfl ?_
      refine zr_iload_n X 12 2 dX6_isStretch_11 rfl rfl ?_
      refine zr_icmp_gt X 19 15 dX6_isStretch_12 rfl rfl (by omega) (by omega) (fun bq3 => ?_) (fun bq3 => ?_)
      · refine zr_iconst X 20 dX6_isStretch_19 rfl ?_
        exact zr_zret X rfl rfl ⟨⟨0, rfl, by omega⟩, rfl⟩ dX6_isStretch_20
      · refine zr_iconst X 16 dX6_isStretch_15 rfl ?_
        refine zr_goto X 20 dX6_isStretch_16 rfl ?_
        exact zr_zret X rfl rfl ⟨⟨1, rfl, by omega⟩, rfl⟩ dX6_isStretch_20
set_option maxRecDepth 100000 in
set_option maxHeartbeats 4000000 in
theorem m_X6_lowestLetter (l : Launch) (Γ : zGam) {V : zV} {x : Int} (hx : 0 ≤ x ∧ x ≤ 2147483647) : zM l Γ 0 yX6_lowestLetter wsX6_lowestLetter 0 0 V [.int (zI (x))] (fun rv V' => rv = some (.int (zI (97 + x % 3))) ∧ V' = V) := by
  refine zM_of (cc := cX6_lowestLetter) (nL := 1) (ret := (some .int)) (own := RX6) (by decide +kernel) rfl rfl (Nat.le_of_ble_eq_true rfl) (fun C X hi0 => ?_)
  show zG C V 0 0 0 [(0, .int (zI (x)))] []
  refine zr_bipush X 2 (97) dX6_lowestLetter_0 rfl (by decide) ?_
  refine zr_iload_n X 3 0 dX6_lowestLetter_2 rfl rfl ?_
  refine zr_iconst X 4 dX6_lowestLetter_3 rfl ?_
  refine zr_irem X 5 dX6_lowestLetter_4 rfl (by omega) (by omega) ?_
  refine zr_iadd X 6 dX6_lowestLetter_5 rfl ?_
  exact zr_iret X rfl ⟨rfl, rfl⟩ dX6_lowestLetter_6
set_option maxRecDepth 100000 in
set_option maxHeartbeats 4000000 in
theorem m_X6_done (l : Launch) (Γ : zGam) {V : zV} {ad : Nat → Nat} {σ : Nat → Int} {y : Int32} (hS : zS Γ V ad σ) : zM l Γ 0 yX6_done wsX6_done 0 0 V [.ref (ad 1), .int (y)] (fun rv V' => rv = some (.int y) ∧ zS Γ V' ad (zdn σ) ∧ zfx V V') := by
  have w0 : Cond.fieldLink RX6 328 "Sashwords" "actsDone" "I" ∈ wsX6_done := by decide +kernel
  have iX6 : ∀ w ∈ u_ws RX6 TX6 14, w ∈ wsX6_done := by decide +kernel
  refine zM_of (cc := cX6_done) (nL := 2) (ret := (some .int)) (own := RX6) (by decide +kernel) rfl rfl (Nat.le_of_ble_eq_true rfl) (fun C X hi0 => ?_)
  have hx1 : V (ad 1) = some (1, .inr (7, [.ref (ad 2), .ref (ad 20), .ref (ad 22), .ref (ad 24), .ref (ad 16), .ref (ad 31), .ref (ad 33), .ref (ad 35), .ref (ad 40), .ref (ad 45), .int (zI (σ 30)), .int (zI (σ 31)), .int (zI (σ 32)), .int (zI (σ 33))])) := hS.1
  show zG C V 0 0 0 [(0, .ref (ad 1)), (1, .int (y))] []
  refine zr_aload_n X 1 0 dX6_done_0 rfl rfl ?_
  refine zr_dup X 2 dX6_done_1 rfl rfl ?_
  refine zr_get X 5 7 10 hx1 rfl iX6 (by decide) w0 rfl rfl dX6_done_2 rfl ?_
  refine zr_iconst X 6 dX6_done_5 rfl ?_
  refine zr_iadd X 7 dX6_done_6 rfl ?_
  refine zr_put X 10 7 10 [.ref (ad 2), .ref (ad 20), .ref (ad 22), .ref (ad 24), .ref (ad 16), .ref (ad 31), .ref (ad 33), .ref (ad 35), .ref (ad 40), .ref (ad 45), .int (zI ((σ 30) + 1)), .int (zI (σ 31)), .int (zI (σ 32)), .int (zI (σ 33))] tyX6 hx1 rfl iX6 tyX6_ok nmX6 (by decide) w0 rfl rfl rfl rfl (Nat.le_of_ble_eq_true rfl) rfl dX6_done_7 rfl ?_
  refine zr_iload_n X 11 1 dX6_done_10 rfl rfl ?_
  exact zr_iret X rfl ⟨rfl, hS.setX (σ 30 + 1) (σ 31) (σ 32) (σ 33)⟩ dX6_done_11
set_option maxRecDepth 100000 in
set_option maxHeartbeats 4000000 in
theorem m_X6_done_ (l : Launch) (Γ : zGam) {V : zV} {ad : Nat → Nat} {σ : Nat → Int} {y : Nat} (hS : zS Γ V ad σ) : zM l Γ 0 yX6_done_ wsX6_done_ 0 0 V [.ref (ad 1), .ref y] (fun rv V' => rv = some (.ref y) ∧ zS Γ V' ad (zdn σ) ∧ zfx V V') := by
  have w0 : Cond.fieldLink RX6 328 "Sashwords" "actsDone" "I" ∈ wsX6_done_ := by decide +kernel
  have iX6 : ∀ w ∈ u_ws RX6 TX6 14, w ∈ wsX6_done_ := by decide +kernel
  refine zM_of (cc := cX6_done_) (nL := 2) (ret := (some (.object "java/lang/String"))) (own := RX6) (by decide +kernel) rfl rfl (Nat.le_of_ble_eq_true rfl) (fun C X hi0 => ?_)
  have hx1 : V (ad 1) = some (1, .inr (7, [.ref (ad 2), .ref (ad 20), .ref (ad 22), .ref (ad 24), .ref (ad 16), .ref (ad 31), .ref (ad 33), .ref (ad 35), .ref (ad 40), .ref (ad 45), .int (zI (σ 30)), .int (zI (σ 31)), .int (zI (σ 32)), .int (zI (σ 33))])) := hS.1
  show zG C V 0 0 0 [(0, .ref (ad 1)), (1, .ref y)] []
  refine zr_aload_n X 1 0 dX6_done__0 rfl rfl ?_
  refine zr_dup X 2 dX6_done__1 rfl rfl ?_
  refine zr_get X 5 7 10 hx1 rfl iX6 (by decide) w0 rfl rfl dX6_done__2 rfl ?_
  refine zr_iconst X 6 dX6_done__5 rfl ?_
  refine zr_iadd X 7 dX6_done__6 rfl ?_
  refine zr_put X 10 7 10 [.ref (ad 2), .ref (ad 20), .ref (ad 22), .ref (ad 24), .ref (ad 16), .ref (ad 31), .ref (ad 33), .ref (ad 35), .ref (ad 40), .ref (ad 45), .int (zI ((σ 30) + 1)), .int (zI (σ 31)), .int (zI (σ 32)), .int (zI (σ 33))] tyX6 hx1 rfl iX6 tyX6_ok nmX6 (by decide) w0 rfl rfl rfl rfl (Nat.le_of_ble_eq_true rfl) rfl dX6_done__7 rfl ?_
  refine zr_aload_n X 11 1 dX6_done__10 rfl rfl ?_
  exact zr_aret X rfl (Or.inl ⟨_, rfl⟩) ⟨rfl, hS.setX (σ 30 + 1) (σ 31) (σ 32) (σ 33)⟩ dX6_done__11
set_option maxRecDepth 100000 in
set_option maxHeartbeats 4000000 in
theorem m_X6_refused (l : Launch) (Γ : zGam) {V : zV} {ad : Nat → Nat} {σ : Nat → Int} (hS : zS Γ V ad σ) : zM l Γ 0 yX6_refused wsX6_refused 0 0 V [.ref (ad 1)] (fun rv V' => rv = some (.int (zI (-9))) ∧ zS Γ V' ad (zrf σ) ∧ zfx V V') := by
  have w0 : Cond.fieldLink RX6 331 "Sashwords" "actsRefused" "I" ∈ wsX6_refused := by decide +kernel
  have iX6 : ∀ w ∈ u_ws RX6 TX6 14, w ∈ wsX6_refused := by decide +kernel
  refine zM_of (cc := cX6_refused) (nL := 1) (ret := (some .int)) (own := RX6) (by decide +kernel) rfl rfl (Nat.le_of_ble_eq_true rfl) (fun C X hi0 => ?_)
  have hx1 : V (ad 1) = some (1, .inr (7, [.ref (ad 2), .ref (ad 20), .ref (ad 22), .ref (ad 24), .ref (ad 16), .ref (ad 31), .ref (ad 33), .ref (ad 35), .ref (ad 40), .ref (ad 45), .int (zI (σ 30)), .int (zI (σ 31)), .int (zI (σ 32)), .int (zI (σ 33))])) := hS.1
  show zG C V 0 0 0 [(0, .ref (ad 1))] []
  refine zr_aload_n X 1 0 dX6_refused_0 rfl rfl ?_
  refine zr_dup X 2 dX6_refused_1 rfl rfl ?_
  refine zr_get X 5 7 11 hx1 rfl iX6 (by decide) w0 rfl rfl dX6_refused_2 rfl ?_
  refine zr_iconst X 6 dX6_refused_5 rfl ?_
  refine zr_iadd X 7 dX6_refused_6 rfl ?_
  refine zr_put X 10 7 11 [.ref (ad 2), .ref (ad 20), .ref (ad 22), .ref (ad 24), .ref (ad 16), .ref (ad 31), .ref (ad 33), .ref (ad 35), .ref (ad 40), .ref (ad 45), .int (zI (σ 30)), .int (zI ((σ 31) + 1)), .int (zI (σ 32)), .int (zI (σ 33))] tyX6 hx1 rfl iX6 tyX6_ok nmX6 (by decide) w0 rfl rfl rfl rfl (Nat.le_of_ble_eq_true rfl) rfl dX6_refused_7 rfl ?_
  refine zr_bipush X 12 (-9) dX6_refused_10 rfl (by decide) ?_
  exact zr_iret X rfl ⟨rfl, hS.setX (σ 30) (σ 31 + 1) (σ 32) (σ 33)⟩ dX6_refused_12
set_option maxRecDepth 100000 in
set_option maxHeartbeats 4000000 in
theorem m_X6_knock (l : Launch) (Γ : zGam) {V : zV} {ad : Nat → Nat} {σ : Nat → Int} (hS : zS Γ V ad σ) : zM l Γ 0 yX6_knock wsX6_knock 0 0 V [.ref (ad 1)] (fun rv V' => rv = some (.int (zI (σ 32 + 1))) ∧ zS Γ V' ad (zx4 σ (σ 30) (σ 31) (σ 32 + 1) (σ 33)) ∧ zfx V V') := by
  have w0 : Cond.fieldLink RX6 262 "Sashwords" "knocks" "I" ∈ wsX6_knock := by decide +kernel
  have iX6 : ∀ w ∈ u_ws RX6 TX6 14, w ∈ wsX6_knock := by decide +kernel
  refine zM_of (cc := cX6_knock) (nL := 1) (ret := (some .int)) (own := RX6) (by decide +kernel) rfl rfl (Nat.le_of_ble_eq_true rfl) (fun C X hi0 => ?_)
  have hx1 : V (ad 1) = some (1, .inr (7, [.ref (ad 2), .ref (ad 20), .ref (ad 22), .ref (ad 24), .ref (ad 16), .ref (ad 31), .ref (ad 33), .ref (ad 35), .ref (ad 40), .ref (ad 45), .int (zI (σ 30)), .int (zI (σ 31)), .int (zI (σ 32)), .int (zI (σ 33))])) := hS.1
  show zG C V 0 0 0 [(0, .ref (ad 1))] []
  refine zr_aload_n X 1 0 dX6_knock_0 rfl rfl ?_
  refine zr_dup X 2 dX6_knock_1 rfl rfl ?_
  refine zr_get X 5 7 12 hx1 rfl iX6 (by decide) w0 rfl rfl dX6_knock_2 rfl ?_
  refine zr_iconst X 6 dX6_knock_5 rfl ?_
  refine zr_iadd X 7 dX6_knock_6 rfl ?_
  refine zr_put X 10 7 12 [.ref (ad 2), .ref (ad 20), .ref (ad 22), .ref (ad 24), .ref (ad 16), .ref (ad 31), .ref (ad 33), .ref (ad 35), .ref (ad 40), .ref (ad 45), .int (zI (σ 30)), .int (zI (σ 31)), .int (zI ((σ 32) + 1)), .int (zI (σ 33))] tyX6 hx1 rfl iX6 tyX6_ok nmX6 (by decide) w0 rfl rfl rfl rfl (Nat.le_of_ble_eq_true rfl) rfl dX6_knock_7 rfl ?_
  refine zr_aload_n X 11 0 dX6_knock_10 rfl rfl ?_
  refine zr_get X 14 7 12 (zu_eq _ _ _ _) rfl iX6 (by decide) w0 rfl rfl dX6_knock_11 rfl ?_
  exact zr_iret X rfl ⟨rfl, hS.setX (σ 30) (σ 31) (σ 32 + 1) (σ 33)⟩ dX6_knock_14
end
section
/-! Script.append of itself, exactly -/
theorem zap_lo {f : Nat → Int} {len k : Int} {h : Int → Int} (h0 : 0 ≤ k ∧ k < len) : zap f len k h k.toNat = f k.toNat := by
  unfold zap
  rw [if_neg (by omega)]
set_option maxRecDepth 100000 in
set_option maxHeartbeats 4000000 in
theorem m_X2_append_eq (l : Launch) (Γ : zGam) {V : zV} {b g tb tg n : Nat} {len : Int} {f : Nat → Int} (hb : V b = some (tb, .inr (4, [.ref g, .int (zI len)]))) (hg : V g = some (tg, za Γ.2.1 1 n f)) (hn : 0 ≤ len ∧ len ≤ n ∧ n ≤ 1000) (hm : len + len ≤ n) (hc : zc f) : zM l Γ 4 yX2_append wsX2_append 0 0 V [.ref b, .ref b] (fun rv V' => rv = none ∧ V' = zu (zu V g tg (za Γ.2.1 1 n (zap f len len (fun j => f j.toNat)))) b tb (.inr (4, [.ref g, .int (zI (len + len))]))) := by
  have hbg : b ≠ g := zne_oa hb hg
  refine zM_of (cc := cX2_append) (nL := 4) (ret := none) (own := RX2) (by decide +kernel) rfl rfl (Nat.le_of_ble_eq_true rfl) (fun C X hi0 => ?_)
  show zG C V 0 0 0 [(0, .ref b), (1, .ref b)] []
  refine zr_aload_n X 1 1 dX2_append_0 rfl rfl ?_
  refine zr_txSize X 4 (Or.inr ⟨tb, tg, n, f, hb, hg, by omega, hc, rfl⟩) gX2_append_X5_size_u25X5 gX2_append_X2_size_u25X2 (by decide) (Nat.le_of_ble_eq_true rfl) dX2_append_1 rfl ?_
  refine zr_istore_n X 5 [(2, .int (zI (len))), (0, .ref b), (1, .ref b)] dX2_append_4 rfl (by decide) rfl ?_
  refine zr_iconst X 6 dX2_append_5 rfl ?_
  refine zr_istore_n X 7 [(3, .int (zI (0))), (2, .int (zI (len))), (0, .ref b), (1, .ref b)] dX2_append_6 rfl (by decide) rfl ?_
  refine zr_view (V' := zu (zu V g tg (za Γ.2.1 1 n (zap f len 0 (fun j => f j.toNat)))) b tb (.inr (4, [.ref g, .int (zI (len + 0))]))) (by rw [zap_0, zu_id hg, Int.add_zero, zu_id hb]) ?_
  refine zr_sub [0, 1, 3, 2] [(3, .int (zI (0))), (2, .int (zI (len))), (1, .ref b), (0, .ref b)] rfl ?_
  have loop : ∀ (N : Nat) (k : Int), 0 ≤ k ∧ k ≤ len → (len - k).toNat = N → zG C (zu (zu V g tg (za Γ.2.1 1 n (zap f len k (fun j => f j.toNat)))) b tb (.inr (4, [.ref g, .int (zI (len + k))]))) 0 0 7 [(3, .int (zI (k))), (2, .int (zI (len))), (1, .ref b), (0, .ref b)] [] := by
    intro N
    induction N using Nat.strongRecOn with
    | _ N ih =>
    intro k hI hN
    obtain ⟨hI2, hI3⟩ := id hI
    have hI1 : zc (zap f len k (fun j => f j.toNat)) := zap_zc hc (fun j => hc _)
    refine zr_iload_n X 8 0 dX2_append_7 rfl rfl ?_
    refine zr_iload_n X 9 1 dX2_append_8 rfl rfl ?_
    refine zr_icmp_ge X 27 12 dX2_append_9 rfl rfl (by omega) (by omega) (fun bq1 => ?_) (fun bq1 => ?_)
    · exact zr_vret X rfl ⟨rfl, by rw [show k = len by omega]⟩ dX2_append_27
    · refine zr_aload_n X 13 3 dX2_append_12 rfl rfl ?_
      refine zr_aload_n X 14 2 dX2_append_13 rfl rfl ?_
      refine zr_iload_n X 15 0 dX2_append_14 rfl rfl ?_
      refine zr_txAt X 18 (Or.inr ⟨tb, tg, n, zap f len k (fun j => f j.toNat), (zu_eq _ _ _ _), ((zu_ne (Ne.symm (zne_oa hb hg))).trans (zu_eq _ _ _ _)), by omega, hI1, rfl⟩) (by omega) gX2_append_X5_at_u29X5 gX2_append_X2_at_u29X2 (by decide) (Nat.le_of_ble_eq_true rfl) dX2_append_15 rfl ?_
      rw [if_pos (show 0 ≤ k ∧ k < len + k by omega)]
      have hx2 := (fun k => hI1 k.toNat) k
      show zG C (zu (zu V g tg (za Γ.2.1 1 n (zap f len k (fun j => f j.toNat)))) b tb (.inr (4, [.ref g, .int (zI (len + k))]))) 0 0 18 [(3, .int (zI (k))), (2, .int (zI (len))), (1, .ref b), (0, .ref b)] [.int (zI ((fun k_ => (zap f len k (fun j => f j.toNat)) k_.toNat) k)), .ref b]
      show zG C (zu (zu V g tg (za Γ.2.1 1 n (zap f len k (fun j => f j.toNat)))) b tb (.inr (4, [.ref g, .int (zI (len + k))]))) 0 0 18 [(3, .int (zI (k))), (2, .int (zI (len))), (1, .ref b), (0, .ref b)] [.int (zI ((zap f len k (fun j => f j.toNat)) k.toNat)), .ref b]
      rw [zap_lo (by omega)]
      refine zr_callV (kc' := 0) (ks' := 0) X 21 1 (m_X2_add l Γ (x := f k.toNat) (zu_eq _ _ _ _) ((zu_ne (Ne.symm (zne_oa hb hg))).trans (zu_eq _ _ _ _)) (by omega) (hc _) (by omega)) gX2_append_X2_add rfl (by decide +kernel) rfl (by decide) (zu_eq _ _ _ _) rfl rfl (Nat.le_of_ble_eq_true rfl) dX2_append_18 rfl (by omega) (by omega) (fun rv3 V4 hp5 => ?_)
      rw [hp5.1, hp5.2]
      show zG C (zu (zu (zu (zu V g tg (za Γ.2.1 1 n (zap f len k (fun j => f j.toNat)))) b tb (.inr (4, [.ref g, .int (zI (len + k))]))) g tg (za Γ.2.1 1 n (zf (zap f len k (fun j => f j.toNat)) (len + k).toNat (f k.toNat)))) b tb (.inr (4, [.ref g, .int (zI (len + k + 1))]))) 0 0 21 [(3, .int (zI (k))), (2, .int (zI (len))), (1, .ref b), (0, .ref b)] []
      refine zr_iinc X 24 0 [(3, .int (zI (k + 1))), (2, .int (zI (len))), (1, .ref b), (0, .ref b)] dX2_append_21 rfl rfl (by decide) rfl ?_
      refine zr_goto X 7 dX2_append_24 rfl ?_
      refine zr_view (V' := (zu (zu V g tg (za Γ.2.1 1 n (zf (zap f len k (fun j => f j.toNat)) (len + k).toNat (f k.toNat)))) b tb (.inr (4, [.ref g, .int (zI (len + (k + 1)))])))) (by
          funext z
          simp only [zu]
          by_cases e0 : z = g
          · subst e0; simp [hbg, Ne.symm hbg, Int.add_assoc]
          by_cases e1 : z = b
          · subst e1; simp [hbg, Ne.symm hbg, Int.add_assoc]
          simp [e0, e1]) ?_
      rw [zap_step (h := fun j => f j.toNat) ⟨by omega, by omega⟩]
      exact ih _ (by omega) (k + 1) ⟨by omega, by omega⟩ rfl
  exact loop _ 0 ⟨by omega, by omega⟩ rfl
/-! scripts as a whole -/
def zSs (Γ : zGam) (V V' : zV) (tb b tg g n : Nat) (len : Int) : Prop := zSc Γ V' tb b tg g n len ∧ zag (fun t => t ≠ tb ∧ t ≠ tg) V V'
theorem zSc.cl {Γ : zGam} {V : zV} {tb b tg g n : Nat} {len : Int} (h : zSc Γ V tb b tg g n len) : zCl V b 4 := by
  obtain ⟨f, h1, -⟩ := h
  exact ⟨_, _, h1⟩
theorem zSc.rg {Γ : zGam} {V : zV} {tb b tg g n : Nat} {len : Int} (h : zSc Γ V tb b tg g n len) : 0 ≤ len ∧ len ≤ n := by
  obtain ⟨f, h1, h2, h3, h4, h5⟩ := h
  exact ⟨h4, h5⟩
theorem zSs.two {Γ : zGam} {V : zV} {tb b tg g n : Nat} {len : Int} {f f' : Nat → Int} {e0 : va_E} (h1 : V b = some (tb, e0)) (h2 : V g = some (tg, za Γ.2.1 1 n f)) (hne : b ≠ g) (hc : zc f') (hl : 0 ≤ len ∧ len ≤ n) : zSs Γ V (zu (zu V g tg (za Γ.2.1 1 n f')) b tb (.inr (4, [.ref g, .int (zI len)]))) tb b tg g n len :=
  ⟨⟨f', zu_eq _ _ _ _, (zu_ne (Ne.symm hne)).trans (zu_eq _ _ _ _), hc, hl.1, hl.2⟩, (zag.rf.set h2 (fun q => q.2 rfl)).set ((zu_ne hne).trans h1) (fun q => q.1 rfl)⟩
theorem zSs.row {Γ : zGam} {V : zV} {tb b tg g n : Nat} {len : Int} {f f' : Nat → Int} (h1 : V b = some (tb, .inr (4, [.ref g, .int (zI len)]))) (h2 : V g = some (tg, za Γ.2.1 1 n f)) (hne : b ≠ g) (hc : zc f') (hl : 0 ≤ len ∧ len ≤ n) : zSs Γ V (zu V g tg (za Γ.2.1 1 n f')) tb b tg g n len :=
  ⟨⟨f', (zu_ne hne).trans h1, zu_eq _ _ _ _, hc, hl.1, hl.2⟩, zag.rf.set h2 (fun q => q.2 rfl)⟩
theorem zSs.tr {Γ : zGam} {V V' V'' : zV} {tb b tg g n : Nat} {len len' : Int} (h : zSs Γ V V' tb b tg g n len) (h' : zSs Γ V' V'' tb b tg g n len') : zSs Γ V V'' tb b tg g n len' := ⟨h'.1, h.2.tr h'.2⟩
section ZF
variable (l0 : Launch) (Γ : zGam) {V : zV} {tb b tg g n : Nat} {len : Int}
theorem f_size (h : zSc Γ V tb b tg g n len) : zM l0 Γ 0 yX2_size wsX2_size 0 0 V [.ref b] (fun rv V' => rv = some (.int (zI len)) ∧ V' = V) := by
  obtain ⟨f, h1, h2, h3, h4, h5⟩ := h
  exact m_X2_size l0 Γ h1
theorem f_at (h : zSc Γ V tb b tg g n len) (hn : n ≤ 1000) {k : Int} (hk : -2147483648 ≤ k ∧ k ≤ 2147483647) : zM l0 Γ 0 yX2_at wsX2_at 0 0 V [.ref b, .int (zI k)] (fun rv V' => ∃ x : Int, rv = some (.int (zI x)) ∧ V' = V ∧ -9 ≤ x ∧ x ≤ 255 ∧ (0 ≤ k ∧ k < len → 0 ≤ x)) := by
  obtain ⟨f, h1, h2, h3, h4, h5⟩ := h
  refine (m_X2_at l0 Γ h1 h2 ⟨h4, h5, hn⟩ hk).imp (fun rv V' hp => ?_)
  have hf := h3 k.toNat
  refine ⟨_, hp.1, hp.2, ?_⟩
  by_cases c : 0 ≤ k ∧ k < len
  · rw [if_pos c]
    exact ⟨by omega, by omega, fun _ => hf.1⟩
  · rw [if_neg c]
    exact ⟨by omega, by omega, fun q => absurd q c⟩
theorem f_clear (h : zSc Γ V tb b tg g n len) (ht : tb ≠ tg) : zM l0 Γ 0 yX2_clear wsX2_clear 0 0 V [.ref b] (fun rv V' => rv = none ∧ zSs Γ V V' tb b tg g n 0) := by
  obtain ⟨f, h1, h2, h3, h4, h5⟩ := h
  refine (m_X2_clear l0 Γ h1).imp (fun rv V' hp => ⟨hp.1, ?_⟩)
  have k := zSs.two (len := 0) h1 h2 (zne_tag h1 h2 ht) h3 ⟨Int.le_refl _, by omega⟩
  rw [zu_id h2] at k
  rw [hp.2]
  exact k
theorem f_add (h : zSc Γ V tb b tg g n len) (ht : tb ≠ tg) (hn : n ≤ 1000) {x : Int} (hx : 0 ≤ x ∧ x ≤ 255) (hlt : len < n) : zM l0 Γ 0 yX2_add wsX2_add 0 0 V [.ref b, .int (zI x)] (fun rv V' => rv = none ∧ zSs Γ V V' tb b tg g n (len + 1)) := by
  obtain ⟨f, h1, h2, h3, h4, h5⟩ := h
  refine (m_X2_add l0 Γ h1 h2 ⟨h4, h5, hn⟩ hx hlt).imp (fun rv V' hp => ⟨hp.1, ?_⟩)
  rw [hp.2]
  exact zSs.two h1 h2 (zne_tag h1 h2 ht) (zc_zf h3 hx) ⟨by omega, by omega⟩
theorem f_exchange (h : zSc Γ V tb b tg g n len) (ht : tb ≠ tg) (hn : n ≤ 1000) {p x : Int} (hx : 0 ≤ x ∧ x ≤ 255) (hp : 0 ≤ p ∧ p < len) : zM l0 Γ 1 yX2_exchange wsX2_exchange 0 0 V [.ref b, .int (zI p), .int (zI x)] (fun rv V' => ∃ y : Int, rv = some (.int (zI y)) ∧ 0 ≤ y ∧ y ≤ 255 ∧ zSs Γ V V' tb b tg g n len) := by
  obtain ⟨f, h1, h2, h3, h4, h5⟩ := h
  refine (m_X2_exchange l0 Γ h1 h2 ⟨h4, h5, hn⟩ hx hp).imp (fun rv V' hq => ⟨_, hq.1, (h3 _).1, (h3 _).2, ?_⟩)
  rw [hq.2]
  exact zSs.row h1 h2 (zne_tag h1 h2 ht) (zc_zf h3 hx) ⟨h4, h5⟩
theorem f_turn (h : zSc Γ V tb b tg g n len) (ht : tb ≠ tg) (hn : n ≤ 1000) : zM l0 Γ 2 yX2_turnRound wsX2_turnRound 0 0 V [.ref b] (fun rv V' => rv = none ∧ zSs Γ V V' tb b tg g n len) := by
  obtain ⟨f, h1, h2, h3, h4, h5⟩ := h
  refine (m_X2_turnRound l0 Γ h1 h2 ⟨h4, h5, hn⟩ h3).imp (fun rv V' hp => ?_)
  obtain ⟨e1, e2⟩ := hp
  rw [e2]
  exact ⟨e1, zSs.row h1 h2 (zne_tag h1 h2 ht) (zrv_zc h3) ⟨h4, h5⟩⟩
variable {o r : Nat} {m : Int} {h' : Int → Int}
theorem f_append (h : zSc Γ V tb b tg g n len) (ht : tb ≠ tg) (hn : n ≤ 1000) (hT : zTx Γ V o r m h') (hob : o ≠ b) (hog : o ≠ g) (hrb : r ≠ b) (hrg : r ≠ g) (hm : len + m ≤ n) : zM l0 Γ 4 yX2_append wsX2_append 0 0 V [.ref b, .ref o] (fun rv V' => rv = none ∧ zSs Γ V V' tb b tg g n (len + m)) := by
  obtain ⟨f, h1, h2, h3, h4, h5⟩ := h
  have hr := hT.rg
  refine (m_X2_append l0 Γ h1 h2 ⟨h4, h5, hn⟩ hT hob hog hrb hrg hm h3).imp (fun rv V' hp => ?_)
  obtain ⟨e1, e2⟩ := hp
  rw [e2]
  exact ⟨e1, zSs.two h1 h2 (zne_tag h1 h2 ht) (zap_zc h3 hr.2.2) ⟨by omega, hm⟩⟩
theorem f_append_eq (h : zSc Γ V tb b tg g n len) (ht : tb ≠ tg) (hn : n ≤ 1000) (hm : len + len ≤ n) : zM l0 Γ 4 yX2_append wsX2_append 0 0 V [.ref b, .ref b] (fun rv V' => rv = none ∧ zSs Γ V V' tb b tg g n (len + len)) := by
  obtain ⟨f, h1, h2, h3, h4, h5⟩ := h
  refine (m_X2_append_eq l0 Γ h1 h2 ⟨h4, h5, hn⟩ hm h3).imp (fun rv V' hp => ?_)
  obtain ⟨e1, e2⟩ := hp
  rw [e2]
  exact ⟨e1, zSs.two h1 h2 (zne_tag h1 h2 ht) (zap_zc h3 (fun j => h3 _)) ⟨by omega, hm⟩⟩
theorem f_becomeText (h : zSc Γ V tb b tg g n len) (ht : tb ≠ tg) (hn : n ≤ 1000) (hT : zTx Γ V o r m h') (hob : o ≠ b) (hog : o ≠ g) (hrb : r ≠ b) (hrg : r ≠ g) (hm : m ≤ n) : zM l0 Γ 5 yX2_becomeText wsX2_becomeText 0 0 V [.ref b, .ref o] (fun rv V' => rv = none ∧ zSs Γ V V' tb b tg g n m) := by
  obtain ⟨f, h1, h2, h3, h4, h5⟩ := h
  have hr := hT.rg
  refine (m_X2_becomeText l0 Γ h1 h2 ⟨h4, h5, hn⟩ hT hob hog hrb hrg hm h3).imp (fun rv V' hp => ?_)
  obtain ⟨e1, e2⟩ := hp
  rw [e2]
  exact ⟨e1, zSs.two h1 h2 (zne_tag h1 h2 ht) (zap_zc h3 hr.2.2) ⟨hr.1, hm⟩⟩
theorem f_becomeText_eq (h : zSc Γ V tb b tg g n len) : zM l0 Γ 5 yX2_becomeText wsX2_becomeText 0 0 V [.ref b, .ref b] (fun rv V' => rv = none ∧ V' = V) := by
  obtain ⟨f, h1, h2, h3, h4, h5⟩ := h
  exact m_X2_becomeText_eq l0 Γ h1
end ZF
/-! the sources' texts; moves of the state -/
/-- the signs of a source -/
def zsg (σ : Nat → Int) (q : Int) (k : Nat) : Int := if q < 6 then σ (zTp (σ (40 + q.toNat) + σ (4 * q.toNat + 2) + (k : Int))) else if q = 6 then σ (100 + k) else σ (200 + k)
theorem zS.txt {Γ : zGam} {V : zV} {ad : Nat → Nat} {σ : Nat → Int} (h : zS Γ V ad σ) {q : Int} (hq : 0 ≤ q ∧ q ≤ 7) : ∃ (r to tr : Nat) (e e' : va_E) (h' : Int → Int), zTx Γ V (zso ad q) r (zsz σ q) h' ∧ V (zso ad q) = some (to, e) ∧ V r = some (tr, e') ∧ ((10 ≤ to ∧ to ≤ 15 ∧ tr = 50 ∧ q < 6) ∨ (to = 20 ∧ tr = 21 ∧ q = 6) ∨ (to = 22 ∧ tr = 23 ∧ q = 7)) ∧ 0 ≤ zsz σ q ∧ zsz σ q ≤ 80 ∧ ∀ k : Nat, (k : Int) < zsz σ q → h' (k : Int) = zsg σ q k := by
  obtain ⟨a, b, w0, d, t, p, f0⟩ := id h
  by_cases hq6 : q < 6
  · obtain ⟨rr, nn, ba, w⟩ := h.cw
    obtain ⟨st, f, h1, h2, h3, h4, h5, h6, h7, h8⟩ := w.1 q.toNat (by omega)
    obtain ⟨a1, a2, a3, a4, a5, a6, a7, a8⟩ := id h3
    have e1 : zso ad q = ad (10 + q.toNat) := if_pos hq6
    have e2 : zsz σ q = σ (4 * q.toNat + 1) - σ (4 * q.toNat + 2) := if_pos hq6
    rw [e1, e2]
    refine ⟨_, _, _, _, _, _, Or.inl ⟨_, _, _, st, _, _, _, _, f, h1, h2, h3, h4, rfl, rfl⟩, h1, h2, Or.inl ⟨by omega, by omega, rfl, hq6⟩, by omega, by omega, fun k hk => ?_⟩
    have e3 : zsg σ q k = σ (zTp (σ (40 + q.toNat) + σ (4 * q.toNat + 2) + (k : Int))) := if_pos hq6
    have e4 : σ (40 + q.toNat) + σ (4 * q.toNat + 2) + (k : Int) = σ (40 + q.toNat) + (σ (4 * q.toNat + 2) + (k : Int)) := Int.add_assoc _ _ _
    rw [e3, e4, zT_at (σ := σ) (p := 0) h6 (by omega), ← h8 _ (by omega)]
    show f (st + σ (4 * q.toNat + 2) + (k : Int)).toNat = _
    congr 2
    exact Int.add_assoc _ _ _
  · by_cases h7 : q = 6
    · obtain ⟨f, h1, -, -, h4, h5⟩ := t.1
      obtain ⟨fc, h2, h3, c2⟩ := b.2.2.1
      have e1 : zso ad q = ad 20 := by unfold zso; rw [if_neg hq6, if_pos h7]
      have e2 : zsz σ q = σ 24 := by unfold zsz; rw [if_neg hq6, if_pos h7]
      rw [e1, e2]
      exact ⟨_, _, _, _, _, _, Or.inr ⟨_, _, _, fc, h1, h2, ⟨h4, h5, by decide⟩, h3, rfl⟩, h1, h2, Or.inr (Or.inl ⟨rfl, rfl, h7⟩), h4, by omega, fun k hk => by
        have e3 : zsg σ q k = σ (100 + k) := by unfold zsg; rw [if_neg hq6, if_pos h7]
        rw [e3, ← c2 k (by omega) hk]
        rfl⟩
    · obtain ⟨f, h1, -, -, h4, h5⟩ := t.2.1
      obtain ⟨fc, h2, h3, c2⟩ := b.2.2.2
      have e1 : zso ad q = ad 22 := by unfold zso; rw [if_neg hq6, if_neg h7]
      have e2 : zsz σ q = σ 25 := by unfold zsz; rw [if_neg hq6, if_neg h7]
      rw [e1, e2]
      exact ⟨_, _, _, _, _, _, Or.inr ⟨_, _, _, fc, h1, h2, ⟨h4, h5, by decide⟩, h3, rfl⟩, h1, h2, Or.inr (Or.inr ⟨rfl, rfl, by omega⟩), h4, by omega, fun k hk => by
        have e3 : zsg σ q k = σ (200 + k) := by unfold zsg; rw [if_neg hq6, if_neg h7]
        rw [e3, ← c2 k (by omega) hk]
        rfl⟩
theorem zf_ne {f : Nat → Int} {i j : Nat} {x : Int} (h : j ≠ i) : zf f i x j = f j := if_neg h
theorem zf_eq {f : Nat → Int} {i : Nat} {x : Int} : zf f i x i = x := if_pos rfl
theorem zS0.setB {Γ : zGam} {V V' : zV} {ad : Nat → Nat} {σ : Nat → Int} (h : zS0 Γ V ad σ) {len : Int} (hb : zSs Γ V V' 20 (ad 20) 21 (ad 21) 80 len) : zS0 Γ V' ad (zf σ 24 len) ∧ zfx V V' := by
  obtain ⟨h1, ha⟩ := hb
  obtain ⟨a, b, w, d, t, p, f⟩ := h
  have e : ∀ j, j ≠ 24 → zf σ 24 len j = σ j := fun j hj => zf_ne hj
  have h5 : z50 Γ V V' := .of ha (by omega)
  refine ⟨⟨?_, b.kept ha (by omega), ?_, d.kept ha (by omega) h5, ⟨by rw [zf_eq]; exact h1, ?_, ?_, ?_⟩, ?_, f.kept ha (fun t h1 h2 => by omega)⟩, ha.mono (fun t ht => by omega)⟩
  · unfold zSx
    rw [e 30 (by omega), e 31 (by omega), e 32 (by omega), e 33 (by omega)]
    exact a.kept ha (by omega)
  · intro j hj
    rw [e _ (by omega), e _ (by omega), e _ (by omega), e _ (by omega)]
    exact (w j hj).row ha (by omega) h5
  · rw [e 25 (by omega)]
    exact t.2.1.kept ha (by omega) (by omega)
  · obtain ⟨n, k⟩ := t.2.2.1
    exact ⟨n, k.kept ha (by omega) (by omega)⟩
  · obtain ⟨n, k⟩ := t.2.2.2
    exact ⟨n, k.kept ha (by omega) (by omega)⟩
  · unfold zSp
    rw [e 26 (by omega), e 27 (by omega), e 28 (by omega), e 29 (by omega)]
    exact p.kept ha (by omega) (by omega) (by omega) (by omega) (by omega) (by omega) (by omega)
theorem zS0.setK {Γ : zGam} {V V' : zV} {ad : Nat → Nat} {σ : Nat → Int} (h : zS0 Γ V ad σ) {len : Int} (hb : zSs Γ V V' 22 (ad 22) 23 (ad 23) 80 len) : zS0 Γ V' ad (zf σ 25 len) ∧ zfx V V' := by
  obtain ⟨h1, ha⟩ := hb
  obtain ⟨a, b, w, d, t, p, f⟩ := h
  have e : ∀ j, j ≠ 25 → zf σ 25 len j = σ j := fun j hj => zf_ne hj
  have h5 : z50 Γ V V' := .of ha (by omega)
  refine ⟨⟨?_, b.kept ha (by omega), ?_, d.kept ha (by omega) h5, ⟨?_, by rw [zf_eq]; exact h1, ?_, ?_⟩, ?_, f.kept ha (fun t h1 h2 => by omega)⟩, ha.mono (fun t ht => by omega)⟩
  · unfold zSx
    rw [e 30 (by omega), e 31 (by omega), e 32 (by omega), e 33 (by omega)]
    exact a.kept ha (by omega)
  · intro j hj
    rw [e _ (by omega), e _ (by omega), e _ (by omega), e _ (by omega)]
    exact (w j hj).row ha (by omega) h5
  · rw [e 24 (by omega)]
    exact t.1.kept ha (by omega) (by omega)
  · obtain ⟨n, k⟩ := t.2.2.1
    exact ⟨n, k.kept ha (by omega) (by omega)⟩
  · obtain ⟨n, k⟩ := t.2.2.2
    exact ⟨n, k.kept ha (by omega) (by omega)⟩
  · unfold zSp
    rw [e 26 (by omega), e 27 (by omega), e 28 (by omega), e 29 (by omega)]
    exact p.kept ha (by omega) (by omega) (by omega) (by omega) (by omega) (by omega) (by omega)
theorem zS0.setDr {Γ : zGam} {V V' : zV} {ad : Nat → Nat} {σ : Nat → Int} (h : zS0 Γ V ad σ) {len : Int} (hb : zSs Γ V V' 31 (ad 31) 32 (ad 32) 80 len) : zS0 Γ V' ad σ ∧ zfx V V' := by
  obtain ⟨h1, ha⟩ := hb
  obtain ⟨a, b, w, d, t, p, f⟩ := h
  have h5 : z50 Γ V V' := .of ha (by omega)
  obtain ⟨n, k⟩ := t.2.2.2
  exact ⟨⟨a.kept ha (by omega), b.kept ha (by omega), w.kept ha (fun i hi => by omega) h5, d.kept ha (by omega) h5, ⟨t.1.kept ha (by omega) (by omega), t.2.1.kept ha (by omega) (by omega), ⟨len, h1⟩, ⟨n, k.kept ha (by omega) (by omega)⟩⟩, p.kept ha (by omega) (by omega) (by omega) (by omega) (by omega) (by omega) (by omega), f.kept ha (fun t h1 h2 => by omega)⟩, ha.mono (fun t ht => by omega)⟩
theorem zS0.setSd {Γ : zGam} {V V' : zV} {ad : Nat → Nat} {σ : Nat → Int} (h : zS0 Γ V ad σ) {len : Int} (hb : zSs Γ V V' 33 (ad 33) 34 (ad 34) 80 len) : zS0 Γ V' ad σ ∧ zfx V V' := by
  obtain ⟨h1, ha⟩ := hb
  obtain ⟨a, b, w, d, t, p, f⟩ := h
  have h5 : z50 Γ V V' := .of ha (by omega)
  obtain ⟨n, k⟩ := t.2.2.1
  exact ⟨⟨a.kept ha (by omega), b.kept ha (by omega), w.kept ha (fun i hi => by omega) h5, d.kept ha (by omega) h5, ⟨t.1.kept ha (by omega) (by omega), t.2.1.kept ha (by omega) (by omega), ⟨n, k.kept ha (by omega) (by omega)⟩, ⟨len, h1⟩⟩, p.kept ha (by omega) (by omega) (by omega) (by omega) (by omega) (by omega) (by omega), f.kept ha (fun t h1 h2 => by omega)⟩, ha.mono (fun t ht => by omega)⟩
/-- the seekers and the table move, nothing else -/
theorem zS0.setF {Γ : zGam} {V V' : zV} {ad : Nat → Nat} {σ : Nat → Int} (h : zS0 Γ V ad σ) (ha : zag (fun t => ¬ (35 ≤ t ∧ t ≤ 47)) V V') (hf : zSf Γ V' ad) : zS0 Γ V' ad σ ∧ zfx V V' := by
  obtain ⟨a, b, w, d, t, p, f⟩ := h
  have h5 : z50 Γ V V' := .of ha (by omega)
  exact ⟨⟨a.kept ha (by omega), b.kept ha (by omega), w.kept ha (fun i hi => by omega) h5, d.kept ha (by omega) h5, t.kept ha (by omega) (by omega) (by omega) (by omega) (by omega) (by omega) (by omega) (by omega), p.kept ha (by omega) (by omega) (by omega) (by omega) (by omega) (by omega) (by omega), hf⟩, ha.mono (fun t ht => by omega)⟩
/-- the pipe moves, nothing else -/
theorem zS0.setP {Γ : zGam} {V V' : zV} {ad : Nat → Nat} {σ σ' : Nat → Int} (h : zS0 Γ V ad σ) (ha : zag (fun t => ¬ (24 ≤ t ∧ t ≤ 30)) V V') (hp : zSp Γ V' ad σ') (he : ∀ j, ¬ (26 ≤ j ∧ j ≤ 29) → σ' j = σ j) : zS0 Γ V' ad σ' ∧ zfx V V' := by
  obtain ⟨a, b, w, d, t, p, f⟩ := h
  have h5 : z50 Γ V V' := .of ha (by omega)
  refine ⟨⟨?_, b.kept ha (by omega), ?_, d.kept ha (by omega) h5, ?_, hp, f.kept ha (fun t h1 h2 => by omega)⟩, ha.mono (fun t ht => by omega)⟩
  · unfold zSx
    rw [he 30 (by omega), he 31 (by omega), he 32 (by omega), he 33 (by omega)]
    exact a.kept ha (by omega)
  · intro j hj
    rw [he _ (by omega), he _ (by omega), he _ (by omega), he _ (by omega)]
    exact (w j hj).row ha (by omega) h5
  · unfold zSt
    rw [he 24 (by omega), he 25 (by omega)]
    exact t.kept ha (by omega) (by omega) (by omega) (by omega) (by omega) (by omega) (by omega) (by omega)
end
section
/-! contents: builder and kept text -/
theorem zS.setDr {Γ : zGam} {V V' : zV} {ad : Nat → Nat} {σ : Nat → Int} (h : zS Γ V ad σ) {len : Int} (hb : zSs Γ V V' 31 (ad 31) 32 (ad 32) 80 len) : zS Γ V' ad σ ∧ zfx V V' := ⟨(h.c0.setDr hb).1.mk (h.ct.kept hb.2 (fun t ht => by omega)), (h.c0.setDr hb).2⟩
theorem zS.setSd {Γ : zGam} {V V' : zV} {ad : Nat → Nat} {σ : Nat → Int} (h : zS Γ V ad σ) {len : Int} (hb : zSs Γ V V' 33 (ad 33) 34 (ad 34) 80 len) : zS Γ V' ad σ ∧ zfx V V' := ⟨(h.c0.setSd hb).1.mk (h.ct.kept hb.2 (fun t ht => by omega)), (h.c0.setSd hb).2⟩
theorem zS.setF {Γ : zGam} {V V' : zV} {ad : Nat → Nat} {σ : Nat → Int} (h : zS Γ V ad σ) (ha : zag (fun t => ¬ (35 ≤ t ∧ t ≤ 47)) V V') (hf : zSf Γ V' ad) : zS Γ V' ad σ ∧ zfx V V' := ⟨(h.c0.setF ha hf).1.mk (h.ct.kept ha (fun t ht => by omega)), (h.c0.setF ha hf).2⟩
theorem zS.setP {Γ : zGam} {V V' : zV} {ad : Nat → Nat} {σ σ' : Nat → Int} (h : zS Γ V ad σ) (ha : zag (fun t => ¬ (24 ≤ t ∧ t ≤ 30)) V V') (hp : zSp Γ V' ad σ') (he : ∀ j, ¬ (26 ≤ j ∧ j ≤ 29) → σ' j = σ j) : zS Γ V' ad σ' ∧ zfx V V' := ⟨(h.c0.setP ha hp he).1.mk ((h.ct.kept ha (fun t ht => by omega)).sig (fun j hj => he j (by unfold zj at hj; omega))), (h.c0.setP ha hp he).2⟩
theorem zCw.sig2 {Γ : zGam} {V : zV} {ad : Nat → Nat} {σ σ' : Nat → Int} {rr nn ba : Nat → Nat} (h : zCw Γ V ad σ rr nn ba) (he : ∀ j, (j < 24 ∨ (40 ≤ j ∧ j ≤ 46) ∨ 1000 ≤ j) → σ' j = σ j) : zCw Γ V ad σ' rr nn ba := by
  refine ⟨fun i hi => ?_, h.2⟩
  obtain ⟨st, f, h1, h2, h3, h4, h5, h6, h7, h8⟩ := h.1 i hi
  rw [he _ (by omega), he _ (by omega), he _ (by omega), he _ (by omega), he 46 (by omega), he (40 + i) (by omega)]
  exact ⟨st, f, h1, h2, h3, h4, h5, h6, h7, fun k hk => by rw [he _ (by omega)]; exact h8 k hk⟩
/-- signs are laid into a text -/
def zly (σ : Nat → Int) (B n : Nat) (g : Nat → Int) : Nat → Int := fun j => if B ≤ j ∧ j < B + n then g (j - B) else σ j
theorem zly_ne {σ : Nat → Int} {B n : Nat} {g : Nat → Int} {j : Nat} (h : ¬ (B ≤ j ∧ j < B + n)) : zly σ B n g j = σ j := if_neg h
theorem zly_at {σ : Nat → Int} {B n : Nat} {g : Nat → Int} {k : Nat} (h : k < n) : zly σ B n g (B + k) = g k := by
  unfold zly
  rw [if_pos (by omega)]
  congr 1
  omega
/-- a text is turned round -/
def zrt (σ : Nat → Int) (n : Nat) : Nat → Int := fun j => if 100 ≤ j ∧ j < 100 + n then σ (100 + (n - 1 - (j - 100))) else σ j
theorem zS.setB {Γ : zGam} {V V' : zV} {ad : Nat → Nat} {σ σ' : Nat → Int} (h : zS Γ V ad σ) {len : Int} {f' : Nat → Int} (hb : zSs Γ V V' 20 (ad 20) 21 (ad 21) 80 len) (hf : V' (ad 21) = some (21, za Γ.2.1 1 80 f')) (hc : zc f') (h1 : ∀ k : Nat, k < 80 → (k : Int) < len → f' k = σ' (100 + k)) (h2 : σ' 24 = len) (h3 : ∀ j, j ≠ 24 → ¬ (100 ≤ j ∧ j < 100 + 80) → σ' j = σ j) : zS Γ V' ad σ' ∧ zfx V V' := by
  obtain ⟨g1, g2⟩ := h.c0.setB hb
  refine ⟨(g1.sig (fun j hj => ?_)).mk ?_, g2⟩
  · by_cases e : j = 24
    · rw [e, h2, zf_eq]
    · rw [zf_ne e]
      exact h3 j e (by omega)
  · obtain ⟨⟨⟨rr, nn, ba, w⟩, z⟩, b, k⟩ := h.ct
    have ha := hb.2
    refine ⟨⟨⟨rr, nn, ba, (w.kept ha (fun i hi => by omega) (by omega)).sig2 (fun j hj => h3 j (by omega) (by omega))⟩, fun a h4 => ?_⟩, ?_, ?_⟩
    · rw [h3 46 (by omega) (by omega)] at h4
      rw [h3 _ (by omega) (by omega)]
      exact z a h4
    · rw [h2]
      exact ⟨f', hf, hc, h1⟩
    · obtain ⟨f, k1, k0, k2⟩ := k
      rw [h3 25 (by omega) (by omega)]
      exact ⟨f, ha _ _ _ k1 (by omega), k0, fun x h8 hx => by rw [h3 _ (by omega) (by omega)]; exact k2 x h8 hx⟩
theorem zS.setK {Γ : zGam} {V V' : zV} {ad : Nat → Nat} {σ σ' : Nat → Int} (h : zS Γ V ad σ) {len : Int} {f' : Nat → Int} (hb : zSs Γ V V' 22 (ad 22) 23 (ad 23) 80 len) (hf : V' (ad 23) = some (23, za Γ.2.1 1 80 f')) (hc : zc f') (h1 : ∀ k : Nat, k < 80 → (k : Int) < len → f' k = σ' (200 + k)) (h2 : σ' 25 = len) (h3 : ∀ j, j ≠ 25 → ¬ (200 ≤ j ∧ j < 200 + 80) → σ' j = σ j) : zS Γ V' ad σ' ∧ zfx V V' := by
  obtain ⟨g1, g2⟩ := h.c0.setK hb
  refine ⟨(g1.sig (fun j hj => ?_)).mk ?_, g2⟩
  · by_cases e : j = 25
    · rw [e, h2, zf_eq]
    · rw [zf_ne e]
      exact h3 j e (by omega)
  · obtain ⟨⟨⟨rr, nn, ba, w⟩, z⟩, b, k⟩ := h.ct
    have ha := hb.2
    refine ⟨⟨⟨rr, nn, ba, (w.kept ha (fun i hi => by omega) (by omega)).sig2 (fun j hj => h3 j (by omega) (by omega))⟩, fun a h4 => ?_⟩, ?_, ?_⟩
    · rw [h3 46 (by omega) (by omega)] at h4
      rw [h3 _ (by omega) (by omega)]
      exact z a h4
    · obtain ⟨f, k1, k0, k2⟩ := b
      rw [h3 24 (by omega) (by omega)]
      exact ⟨f, ha _ _ _ k1 (by omega), k0, fun x h8 hx => by rw [h3 _ (by omega) (by omega)]; exact k2 x h8 hx⟩
    · rw [h2]
      exact ⟨f', hf, hc, h1⟩
section ZG2
variable (l0 : Launch) (Γ : zGam) {V : zV} {ad : Nat → Nat} {σ : Nat → Int}
theorem gB_text (hS : zS Γ V ad σ) {o r : Nat} {m : Int} {h' : Int → Int} {q : Int} (hT : zTx Γ V o r m h') (hob : o ≠ ad 20) (hog : o ≠ ad 21) (hrb : r ≠ ad 20) (hrg : r ≠ ad 21) (hm : m ≤ 80) (hg : ∀ k : Nat, (k : Int) < m → h' (k : Int) = zsg σ q k) : zM l0 Γ 5 yX2_becomeText wsX2_becomeText 0 0 V [.ref (ad 20), .ref o] (fun rv V' => rv = none ∧ zS Γ V' ad (zly (zf σ 24 m) 100 m.toNat (zsg σ q)) ∧ zfx V V') := by
  obtain ⟨fz, h1, -, -, h4, h5⟩ := hS.2.2.2.2.1.1
  obtain ⟨f, h2, h3, c2⟩ := hS.ct.2.1
  have hne : ad 20 ≠ ad 21 := zne_tag h1 h2 (by decide)
  have hr := hT.rg
  refine (m_X2_becomeText l0 Γ h1 h2 ⟨h4, h5, by decide⟩ hT hob hog hrb hrg hm h3).imp (fun rv V' hp => ?_)
  obtain ⟨e1, e2⟩ := hp
  refine ⟨e1, hS.setB (len := m) (f' := zap f 0 m h') ?_ ?_ (zap_zc h3 hr.2.2) (fun k h8 hk => ?_) ?_ (fun j j1 j2 => ?_)⟩
  · rw [e2]
    exact zSs.two h1 h2 hne (zap_zc h3 hr.2.2) ⟨hr.1, hm⟩
  · rw [e2, zu_ne (Ne.symm hne)]
    exact zu_eq _ _ _ _
  · rw [zly_at (by omega), ← hg k hk]
    unfold zap
    rw [if_pos (by omega), Int.sub_zero]
  · rw [zly_ne (by omega)]
    exact zf_eq
  · rw [zly_ne (by omega), zf_ne j1]
theorem gK_text (hS : zS Γ V ad σ) {o r : Nat} {m : Int} {h' : Int → Int} {q : Int} (hT : zTx Γ V o r m h') (hob : o ≠ ad 22) (hog : o ≠ ad 23) (hrb : r ≠ ad 22) (hrg : r ≠ ad 23) (hm : m ≤ 80) (hg : ∀ k : Nat, (k : Int) < m → h' (k : Int) = zsg σ q k) : zM l0 Γ 5 yX2_becomeText wsX2_becomeText 0 0 V [.ref (ad 22), .ref o] (fun rv V' => rv = none ∧ zS Γ V' ad (zly (zf σ 25 m) 200 m.toNat (zsg σ q)) ∧ zfx V V') := by
  obtain ⟨fz, h1, -, -, h4, h5⟩ := hS.2.2.2.2.1.2.1
  obtain ⟨f, h2, h3, c2⟩ := hS.ct.2.2
  have hne : ad 22 ≠ ad 23 := zne_tag h1 h2 (by decide)
  have hr := hT.rg
  refine (m_X2_becomeText l0 Γ h1 h2 ⟨h4, h5, by decide⟩ hT hob hog hrb hrg hm h3).imp (fun rv V' hp => ?_)
  obtain ⟨e1, e2⟩ := hp
  refine ⟨e1, hS.setK (len := m) (f' := zap f 0 m h') ?_ ?_ (zap_zc h3 hr.2.2) (fun k h8 hk => ?_) ?_ (fun j j1 j2 => ?_)⟩
  · rw [e2]
    exact zSs.two h1 h2 hne (zap_zc h3 hr.2.2) ⟨hr.1, hm⟩
  · rw [e2, zu_ne (Ne.symm hne)]
    exact zu_eq _ _ _ _
  · rw [zly_at (by omega), ← hg k hk]
    unfold zap
    rw [if_pos (by omega), Int.sub_zero]
  · rw [zly_ne (by omega)]
    exact zf_eq
  · rw [zly_ne (by omega), zf_ne j1]
theorem gB_append (hS : zS Γ V ad σ) {o r : Nat} {m : Int} {h' : Int → Int} {q : Int} (hT : zTx Γ V o r m h') (hob : o ≠ ad 20) (hog : o ≠ ad 21) (hrb : r ≠ ad 20) (hrg : r ≠ ad 21) (hm : σ 24 + m ≤ 80) (hg : ∀ k : Nat, (k : Int) < m → h' (k : Int) = zsg σ q k) : zM l0 Γ 4 yX2_append wsX2_append 0 0 V [.ref (ad 20), .ref o] (fun rv V' => rv = none ∧ zS Γ V' ad (zly (zf σ 24 (σ 24 + m)) (100 + (σ 24).toNat) m.toNat (zsg σ q)) ∧ zfx V V') := by
  obtain ⟨fz, h1, -, -, h4, h5⟩ := hS.2.2.2.2.1.1
  obtain ⟨f, h2, h3, c2⟩ := hS.ct.2.1
  have hne : ad 20 ≠ ad 21 := zne_tag h1 h2 (by decide)
  have hr := hT.rg
  refine (m_X2_append l0 Γ h1 h2 ⟨h4, h5, by decide⟩ hT hob hog hrb hrg hm h3).imp (fun rv V' hp => ?_)
  obtain ⟨e1, e2⟩ := hp
  refine ⟨e1, hS.setB (len := σ 24 + m) (f' := zap f (σ 24) m h') ?_ ?_ (zap_zc h3 hr.2.2) (fun k h8 hk => ?_) ?_ (fun j j1 j2 => ?_)⟩
  · rw [e2]
    exact zSs.two h1 h2 hne (zap_zc h3 hr.2.2) ⟨by omega, hm⟩
  · rw [e2, zu_ne (Ne.symm hne)]
    exact zu_eq _ _ _ _
  · by_cases c : k < (σ 24).toNat
    · rw [zly_ne (by omega), zf_ne (by omega), ← c2 k h8 (by omega)]
      unfold zap
      rw [if_neg (by omega)]
    · have e : 100 + k = 100 + (σ 24).toNat + (k - (σ 24).toNat) := by omega
      rw [e, zly_at (by omega), ← hg _ (by omega)]
      unfold zap
      rw [if_pos (by omega)]
      congr 1
      omega
  · rw [zly_ne (by omega)]
    exact zf_eq
  · rw [zly_ne (by omega), zf_ne j1]
theorem gB_append_eq (hS : zS Γ V ad σ) (hm : σ 24 + σ 24 ≤ 80) : zM l0 Γ 4 yX2_append wsX2_append 0 0 V [.ref (ad 20), .ref (ad 20)] (fun rv V' => rv = none ∧ zS Γ V' ad (zly (zf σ 24 (σ 24 + σ 24)) (100 + (σ 24).toNat) (σ 24).toNat (zsg σ 6)) ∧ zfx V V') := by
  obtain ⟨fz, h1, -, -, h4, h5⟩ := hS.2.2.2.2.1.1
  obtain ⟨f, h2, h3, c2⟩ := hS.ct.2.1
  have hne : ad 20 ≠ ad 21 := zne_tag h1 h2 (by decide)
  refine (m_X2_append_eq l0 Γ h1 h2 ⟨h4, h5, by decide⟩ hm h3).imp (fun rv V' hp => ?_)
  obtain ⟨e1, e2⟩ := hp
  refine ⟨e1, hS.setB (len := σ 24 + σ 24) (f' := zap f (σ 24) (σ 24) (fun j => f j.toNat)) ?_ ?_ (zap_zc h3 (fun j => h3 _)) (fun k h8 hk => ?_) ?_ (fun j j1 j2 => ?_)⟩
  · rw [e2]
    exact zSs.two h1 h2 hne (zap_zc h3 (fun j => h3 _)) ⟨by omega, hm⟩
  · rw [e2, zu_ne (Ne.symm hne)]
    exact zu_eq _ _ _ _
  · by_cases c : k < (σ 24).toNat
    · rw [zly_ne (by omega), zf_ne (by omega), ← c2 k h8 (by omega)]
      unfold zap
      rw [if_neg (by omega)]
    · have e : 100 + k = 100 + (σ 24).toNat + (k - (σ 24).toNat) := by omega
      have e6 : zsg σ 6 (k - (σ 24).toNat) = σ (100 + (k - (σ 24).toNat)) := by
        unfold zsg
        rw [if_neg (by decide), if_pos rfl]
      rw [e, zly_at (by omega), e6, ← c2 _ (by omega) (by omega)]
      unfold zap
      rw [if_pos (by omega)]
      show f _ = f _
      congr 1
      omega
  · rw [zly_ne (by omega)]
    exact zf_eq
  · rw [zly_ne (by omega), zf_ne j1]
theorem gB_turn (hS : zS Γ V ad σ) : zM l0 Γ 2 yX2_turnRound wsX2_turnRound 0 0 V [.ref (ad 20)] (fun rv V' => rv = none ∧ zS Γ V' ad (zrt σ (σ 24).toNat) ∧ zfx V V') := by
  obtain ⟨fz, h1, -, -, h4, h5⟩ := hS.2.2.2.2.1.1
  obtain ⟨f, h2, h3, c2⟩ := hS.ct.2.1
  have hne : ad 20 ≠ ad 21 := zne_tag h1 h2 (by decide)
  refine (m_X2_turnRound l0 Γ h1 h2 ⟨h4, h5, by decide⟩ h3).imp (fun rv V' hp => ?_)
  obtain ⟨e1, e2⟩ := hp
  refine ⟨e1, hS.setB (len := σ 24) (f' := zrv f (σ 24) (σ 24 / 2)) ?_ ?_ (zrv_zc h3) (fun k h8 hk => ?_) ?_ (fun j j1 j2 => ?_)⟩
  · rw [e2]
    exact zSs.row h1 h2 hne (zrv_zc h3) ⟨h4, h5⟩
  · rw [e2]
    exact zu_eq _ _ _ _
  · rw [zrv_end rfl hk, c2 _ (by omega) (by omega)]
    unfold zrt
    rw [if_pos (by omega)]
    congr 1
    omega
  · unfold zrt
    rw [if_neg (by omega)]
  · unfold zrt
    rw [if_neg (by omega)]
theorem gB_exch (hS : zS Γ V ad σ) {p x : Int} (hx : 0 ≤ x ∧ x ≤ 255) (hp : 0 ≤ p ∧ p < σ 24) : zM l0 Γ 1 yX2_exchange wsX2_exchange 0 0 V [.ref (ad 20), .int (zI p), .int (zI x)] (fun rv V' => rv = some (.int (zI (σ (100 + p.toNat)))) ∧ zS Γ V' ad (zf σ (100 + p.toNat) x) ∧ zfx V V') := by
  obtain ⟨fz, h1, -, -, h4, h5⟩ := hS.2.2.2.2.1.1
  obtain ⟨f, h2, h3, c2⟩ := hS.ct.2.1
  have hne : ad 20 ≠ ad 21 := zne_tag h1 h2 (by decide)
  refine (m_X2_exchange l0 Γ h1 h2 ⟨h4, h5, by decide⟩ hx hp).imp (fun rv V' hq => ?_)
  obtain ⟨e1, e2⟩ := hq
  refine ⟨?_, hS.setB (len := σ 24) (f' := zf f p.toNat x) ?_ ?_ (zc_zf h3 hx) (fun k h8 hk => ?_) ?_ (fun j j1 j2 => ?_)⟩
  · rw [e1, c2 _ (by omega) (by omega)]
  · rw [e2]
    exact zSs.row h1 h2 hne (zc_zf h3 hx) ⟨h4, h5⟩
  · rw [e2]
    exact zu_eq _ _ _ _
  · unfold zf
    by_cases c : k = p.toNat
    · rw [if_pos c, if_pos (by omega)]
    · rw [if_neg c, if_neg (by omega)]
      exact c2 k h8 hk
  · exact zf_ne (by omega)
  · exact zf_ne (by omega)
end ZG2
end
