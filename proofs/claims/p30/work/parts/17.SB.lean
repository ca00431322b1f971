/-! builders as a whole; calls on objects whose cell is not named -/
/-- an object of class ci lies at b -/
def zCl (V : zV) (b ci : Nat) : Prop := ∃ (tg : Nat) (fs : List Value), V b = some (tg, .inr (ci, fs))
theorem zSB.cl {Γ : zGam} {V : zV} {b cap : Nat} {cnt : Int} (h : zSB Γ V b cnt cap) : zCl V b 1 := by
  obtain ⟨v, mb, f, h1, -⟩ := h
  exact ⟨_, _, h1⟩
theorem zSB.rg {Γ : zGam} {V : zV} {b cap : Nat} {cnt : Int} (h : zSB Γ V b cnt cap) : 0 ≤ cnt ∧ cnt ≤ cap ∧ cap ≤ 3000 := by
  obtain ⟨v, mb, f, h1, h2, h3, h4, h5, h6⟩ := h
  exact ⟨h4, h5, h6⟩
theorem zsb_app_c (l : Launch) (Γ : zGam) {V : zV} {b cap : Nat} {cnt x : Int} (h : zSB Γ V b cnt cap) (hx : 0 ≤ x ∧ x ≤ 255) {cap' c k : Nat} (hg : (cnt + 1 ≤ cap ∧ cap' = cap ∧ c = 0 ∧ k = 0) ∨ ((cap : Int) < cnt + 1 ∧ cap ≤ 1400 ∧ cap' = 2 * cap + 2 ∧ c = 1 ∧ k = 2 * cap + 2)) : zM l Γ 6 yJ4_append_cf468 wsJ4_append_cf468 c k V [.ref b, .int (zI x)] (fun rv V' => rv = some (.ref b) ∧ zSB Γ V' b (cnt + 1) cap' ∧ zfr V V') := by
  obtain ⟨v, mb, f, h1, h2, h3, h4, h5, h6⟩ := h
  rcases hg with ⟨g1, rfl, rfl, rfl⟩ | ⟨g1, g2, rfl, rfl, rfl⟩
  · exact m_J4_append_c_n l Γ h1 h2 ⟨h4, h5, h6⟩ h3 hx g1
  · have e : (2 * (cap : Int) + 2).toNat = 2 * cap + 2 := by omega
    have k := m_J4_append_c_y l Γ h1 h2 ⟨h4, h5, g2⟩ h3 hx g1
    rw [e] at k
    exact k
theorem zsb_app_i (l : Launch) (Γ : zGam) {V : zV} {b cap : Nat} {cnt x q : Int} (h : zSB Γ V b cnt cap) (hx : 0 ≤ x ∧ x ≤ 1000) (hq : ((x < 10 ∧ q = 1) ∨ (10 ≤ x ∧ x < 100 ∧ q = 2) ∨ (100 ≤ x ∧ x < 1000 ∧ q = 3) ∨ (1000 ≤ x ∧ q = 4))) {cap' c k : Nat} (hg : (cnt + q ≤ cap ∧ cap' = cap ∧ c = 0 ∧ k = 0) ∨ ((cap : Int) < cnt + q ∧ 4 ≤ cap ∧ cap ≤ 1400 ∧ cap' = 2 * cap + 2 ∧ c = 1 ∧ k = 2 * cap + 2)) : zM l Γ 6 yJ4_append_bf812 wsJ4_append_bf812 c k V [.ref b, .int (zI x)] (fun rv V' => rv = some (.ref b) ∧ zSB Γ V' b (cnt + q) cap' ∧ zfr V V') := by
  obtain ⟨v, mb, f, h1, h2, h3, h4, h5, h6⟩ := h
  rcases hg with ⟨g1, rfl, rfl, rfl⟩ | ⟨g1, g4, g2, rfl, rfl, rfl⟩
  · exact m_J4_append_i_n l Γ h1 h2 ⟨h4, h5, h6⟩ h3 hx hq g1
  · have e : (2 * (cap : Int) + 2).toNat = 2 * cap + 2 := by omega
    have k := m_J4_append_i_y l Γ h1 h2 ⟨h4, h5, g2⟩ g4 h3 hx hq g1
    rw [e] at k
    exact k
theorem zsb_str (l : Launch) (Γ : zGam) {V : zV} {b cap : Nat} {cnt : Int} (h : zSB Γ V b cnt cap) : zM l Γ 7 yJ4_toString_0e30d wsJ4_toString_0e30d 2 (cnt.toNat + 4) V [.ref b] (fun rv V' => ∃ z, rv = some (.ref z) ∧ V z = none ∧ zfr V V') := by
  obtain ⟨v, mb, f, h1, h2, h3, h4, h5, h6⟩ := h
  exact m_J4_toString_0e30d l Γ h1 h2 ⟨h4, h5, h6⟩ h3
/-- how a builder grows: what it costs -/
theorem zgrow (cnt q : Int) (cap : Nat) (h : 0 ≤ cnt ∧ cnt ≤ cap ∧ cap ≤ 1400) (hq : 1 ≤ q ∧ q ≤ 4) (h4 : 4 ≤ cap) : ∃ cap' c k : Nat, ((cnt + q ≤ cap ∧ cap' = cap ∧ c = 0 ∧ k = 0) ∨ ((cap : Int) < cnt + q ∧ 4 ≤ cap ∧ cap ≤ 1400 ∧ cap' = 2 * cap + 2 ∧ c = 1 ∧ k = 2 * cap + 2)) := by
  by_cases c : cnt + q ≤ cap
  · exact ⟨cap, 0, 0, Or.inl ⟨c, rfl, rfl, rfl⟩⟩
  · exact ⟨2 * cap + 2, 1, 2 * cap + 2, Or.inr ⟨by omega, h4, h.2.2, rfl, rfl, rfl⟩⟩
theorem zgrow1 (cnt : Int) (cap : Nat) (h : 0 ≤ cnt ∧ cnt ≤ cap ∧ cap ≤ 1400) : ∃ cap' c k : Nat, ((cnt + 1 ≤ cap ∧ cap' = cap ∧ c = 0 ∧ k = 0) ∨ ((cap : Int) < cnt + 1 ∧ cap ≤ 1400 ∧ cap' = 2 * cap + 2 ∧ c = 1 ∧ k = 2 * cap + 2)) := by
  by_cases c : cnt + 1 ≤ cap
  · exact ⟨cap, 0, 0, Or.inl ⟨c, rfl, rfl, rfl⟩⟩
  · exact ⟨2 * cap + 2, 1, 2 * cap + 2, Or.inr ⟨by omega, h.2.2, rfl, rfl, rfl⟩⟩
theorem zM.imp {l : Launch} {Γ : zGam} {d : Nat} {y : MethodName} {ws : List Cond} {mc ms : Nat} {V : zV} {av : List Value} {Post Post' : Option Value → zV → Prop} (h : zM l Γ d y ws mc ms V av Post) (hi : ∀ rv V', Post rv V' → Post' rv V') : zM l Γ d y ws mc ms V av Post' := by
  intro p e ha hc hk s m args below hf happ hP hK
  obtain ⟨k, o, h1, h2, h3, ⟨⟨rv, V', g1, g2, g3⟩, g4⟩, h5⟩ := h p e ha hc hk s m args below hf happ hP hK
  exact ⟨k, o, h1, h2, h3, ⟨⟨rv, V', g1, hi rv V' g2, g3⟩, g4⟩, h5⟩
section ZRE
variable {C : zC} {l0 : Launch} {Γ0 : zGam} {n0 : Nat} {own : String} {cc : ByteArray} {ws : List Cond} {d : Nat} {ret : Option FieldType} {Post : Option Value → zV → Prop} {PX : String → zV → Prop} {V : zV} {kc ks pc : Nat} {lv : List (Nat × Value)} {rest : List Value}
theorem zr_callVe (X : zK C l0 Γ0 n0 own cc ws d ret Post) (n' nA : Nat) {index maxL d' mc' ms' b ci N kc' ks' : Nat} {CC : String} {y : MethodName} {bytes : ByteArray} {rt : Option FieldType} {wsy wsy' : List Cond} {As : List Value} {P' : Option Value → zV → Prop} {TT : u_T} {st : List Value}
    (hM : zM l0 Γ0 d' y wsy mc' ms' V (.ref b :: As) P') (hT : GoodIn ws (wsV own index CC y wsy)) (hw : wsy = Cond.code y bytes maxL rt :: wsy')
    (hd : y.cls = CC ∧ y.cls ≠ "java/lang/invoke/MethodHandle" ∧ y.cls ≠ "java/lang/invoke/VarHandle" ∧ (parseMethodDescriptor y.desc).map (fun d => d.parameters.length) = some nA) (hA : As.length = nA) (hdd : d' + 1 ≤ d ∧ maxL ≤ 41)
    (hV : zCl V b ci) (hc : vwCl[ci]? = some (CC, TT, N)) (hst : st = As.reverse ++ .ref b :: rest) (hcat : (rest.map fun v => v.category).sum ≤ 8)
    (hdg : decode cc pc = .ok (.invokevirtual index, 3)) (hn : pc + 3 = n') (hkc : kc' + mc' ≤ kc) (hks : ks' + ms' ≤ ks) (kk : ∀ (rv : Option Value) (V' : zV), P' rv V' → zG C V' kc' ks' n' lv (rv.toList ++ rest)) : zG C V kc ks pc lv st := by
  obtain ⟨tg, fs, hV⟩ := hV
  exact zr_callV X n' nA hM hT hw hd hA hdd hV hc hst hcat hdg hn hkc hks kk
theorem zr_callVNe (X : zK C l0 Γ0 n0 own cc ws d ret Post) (Y : zY C Post PX) (n' nA : Nat) {index maxL d' mc' ms' b ci N kc' ks' : Nat} {CC : String} {y : MethodName} {bytes : ByteArray} {rt : Option FieldType} {wsy wsy' : List Cond} {As : List Value} {P' : Option Value → zV → Prop} {PX' : String → zV → Prop} {TT : u_T} {st : List Value}
    (hM : zN l0 Γ0 d' y wsy mc' ms' V (.ref b :: As) P' PX') (hT : GoodIn ws (wsV own index CC y wsy)) (hw : wsy = Cond.code y bytes maxL rt :: wsy')
    (hd : y.cls = CC ∧ y.cls ≠ "java/lang/invoke/MethodHandle" ∧ y.cls ≠ "java/lang/invoke/VarHandle" ∧ (parseMethodDescriptor y.desc).map (fun d => d.parameters.length) = some nA) (hA : As.length = nA) (hdd : d' + 1 ≤ d ∧ maxL ≤ 41)
    (hV : zCl V b ci) (hc : vwCl[ci]? = some (CC, TT, N)) (hst : st = As.reverse ++ .ref b :: rest) (hcat : (rest.map fun v => v.category).sum ≤ 8)
    (hdg : decode cc pc = .ok (.invokevirtual index, 3)) (hn : pc + 3 = n') (hkc : kc' + mc' ≤ kc) (hks : ks' + ms' ≤ ks) (hpx : ∀ E V', PX' E V' → PX E V') (kk : ∀ (rv : Option Value) (V' : zV), P' rv V' → zG C V' kc' ks' n' lv (rv.toList ++ rest)) : zG C V kc ks pc lv st := by
  obtain ⟨tg, fs, hV⟩ := hV
  exact zr_callVN X Y n' nA hM hT hw hd hA hdd hV hc hst hcat hdg hn hkc hks hpx kk
theorem zr_callVCe (X : zK C l0 Γ0 n0 own cc ws d ret Post) (n' nA : Nat) {index maxL d' mc' ms' b ci N kc' ks' : Nat} {CC : String} {y : MethodName} {bytes : ByteArray} {rt : Option FieldType} {wsy wsy' : List Cond} {As : List Value} {P' : Option Value → zV → Prop} {PX' : String → zV → Prop} {TT : u_T} {st : List Value}
    (hM : zN l0 Γ0 d' y wsy mc' ms' V (.ref b :: As) P' PX') (hT : GoodIn ws (wsV own index CC y wsy)) (hw : wsy = Cond.code y bytes maxL rt :: wsy')
    (hd : y.cls = CC ∧ y.cls ≠ "java/lang/invoke/MethodHandle" ∧ y.cls ≠ "java/lang/invoke/VarHandle" ∧ (parseMethodDescriptor y.desc).map (fun d => d.parameters.length) = some nA) (hA : As.length = nA) (hdd : d' + 1 ≤ d ∧ maxL ≤ 41)
    (hV : zCl V b ci) (hc : vwCl[ci]? = some (CC, TT, N)) (hst : st = As.reverse ++ .ref b :: rest) (hcat : (rest.map fun v => v.category).sum ≤ 8)
    (hdg : decode cc pc = .ok (.invokevirtual index, 3)) (hn : pc + 3 = n') (hkc : kc' + mc' ≤ kc) (hks : ks' + ms' ≤ ks) (kx : ∀ E V', PX' E V' → zGX C V' kc' ks' pc lv E) (kk : ∀ (rv : Option Value) (V' : zV), P' rv V' → zG C V' kc' ks' n' lv (rv.toList ++ rest)) : zG C V kc ks pc lv st := by
  obtain ⟨tg, fs, hV⟩ := hV
  exact zr_callVC X n' nA hM hT hw hd hA hdd hV hc hst hcat hdg hn hkc hks kx kk
end ZRE
