/-! borders and seekers as a whole; marks instead of inequalities -/
section ZGG
variable (l0 : Launch) (Γ : zGam) {V : zV}
theorem f_becomeTextT {tb b tg g n to tr o r : Nat} {len m : Int} {h' : Int → Int} {e e' : va_E} (h : zSc Γ V tb b tg g n len) (ht : tb ≠ tg) (hn : n ≤ 1000) (hT : zTx Γ V o r m h') (ho : V o = some (to, e)) (hr : V r = some (tr, e')) (hne : to ≠ tb ∧ to ≠ tg ∧ tr ≠ tb ∧ tr ≠ tg) (hm : m ≤ n) : zM l0 Γ 5 yX2_becomeText wsX2_becomeText 0 0 V [.ref b, .ref o] (fun rv V' => rv = none ∧ zSs Γ V V' tb b tg g n m) := by
  obtain ⟨f, h1, h2, h3⟩ := id h
  exact f_becomeText l0 Γ h ht hn hT (zne_tag ho h1 hne.1) (zne_tag ho h2 hne.2.1) (zne_tag hr h1 hne.2.2.1) (zne_tag hr h2 hne.2.2.2) hm
theorem f_appendT {tb b tg g n to tr o r : Nat} {len m : Int} {h' : Int → Int} {e e' : va_E} (h : zSc Γ V tb b tg g n len) (ht : tb ≠ tg) (hn : n ≤ 1000) (hT : zTx Γ V o r m h') (ho : V o = some (to, e)) (hr : V r = some (tr, e')) (hne : to ≠ tb ∧ to ≠ tg ∧ tr ≠ tb ∧ tr ≠ tg) (hm : len + m ≤ n) : zM l0 Γ 4 yX2_append wsX2_append 0 0 V [.ref b, .ref o] (fun rv V' => rv = none ∧ zSs Γ V V' tb b tg g n (len + m)) := by
  obtain ⟨f, h1, h2, h3⟩ := id h
  exact f_append l0 Γ h ht hn hT (zne_tag ho h1 hne.1) (zne_tag ho h2 hne.2.1) (zne_tag hr h1 hne.2.2.1) (zne_tag hr h2 hne.2.2.2) hm
theorem zBo.cl {tt t ta ga tc ca : Nat} (h : zBo Γ V tt t ta ga tc ca) : zCl V t 2 := by
  obtain ⟨lk, gf, cf, h1, -⟩ := h
  exact ⟨_, _, h1⟩
theorem zSk.cl {tk k tp pl bo : Nat} (h : zSk Γ V tk k tp pl bo) : zCl V k 5 := by
  obtain ⟨mn, pf, h1, -⟩ := h
  exact ⟨_, _, h1⟩
variable {tt t ta ga tc ca to tr o r : Nat} {m : Int} {h' : Int → Int} {e e' : va_E}
theorem g_greatestOf (h : zBo Γ V tt t ta ga tc ca) {k : Int} (hk : -2147483648 ≤ k ∧ k ≤ 2147483647) : zM l0 Γ 0 yX0_greatestOf wsX0_greatestOf 0 0 V [.ref t, .int (zI k)] (fun rv V' => ∃ x : Int, rv = some (.int (zI x)) ∧ V' = V ∧ 0 ≤ x ∧ x ≤ 1000) := by
  obtain ⟨lk, gf, cf, h1, h2, h3, h4, h5, h6, h7⟩ := h
  refine (m_X0_greatestOf l0 Γ h1 h2 hk).imp (fun rv V' hp => ?_)
  obtain ⟨x, hx, hxa, hxb⟩ := zbd_if h4 k
  exact ⟨x, by rw [← hx]; exact hp.1, hp.2, hxa, hxb⟩
theorem g_linkAt (h : zBo Γ V tt t ta ga tc ca) {k : Int} (hk : -2147483648 ≤ k ∧ k ≤ 2147483647) : zM l0 Γ 0 yX0_linkAt wsX0_linkAt 0 0 V [.ref t, .int (zI k)] (fun rv V' => ∃ x : Int, rv = some (.int (zI x)) ∧ V' = V ∧ -1 ≤ x ∧ x ≤ 1000) := by
  obtain ⟨lk, gf, cf, h1, h2, h3, h4, h5, h6, h7⟩ := h
  refine (m_X0_linkAt l0 Γ h1 h3 ⟨hk.1, hk.2, h6, h7⟩).imp (fun rv V' hp => ?_)
  have hc := h5 k.toNat
  refine ⟨_, hp.1, hp.2, ?_⟩
  by_cases c : 0 ≤ k ∧ k < lk
  · rw [if_pos c]
    omega
  · rw [if_neg c]
    omega
theorem g_measure (h : zBo Γ V tt t ta ga tc ca) (hT : zTx Γ V o r m h') (ho : V o = some (to, e)) (hr : V r = some (tr, e')) (hne : to ≠ ta ∧ tr ≠ ta ∧ tt ≠ ta ∧ tc ≠ ta) : zM l0 Γ 6 yX0_measure wsX0_measure 0 0 V [.ref t, .ref o] (fun rv V' => rv = none ∧ zBo Γ V' tt t ta ga tc ca ∧ zag (fun x => x ≠ ta) V V') := by
  obtain ⟨lk, gf, cf, h1, h2, h3, h4, h5, h6, h7⟩ := h
  refine (m_X0_measure l0 Γ h1 h2 h4 hT (zne_tag ho h2 hne.1) (zne_tag hr h2 hne.2.1)).imp (fun rv V' hp => ?_)
  obtain ⟨e1, g', hg, e2⟩ := hp
  have ha : zag (fun x => x ≠ ta) V V' := by
    rw [e2]
    exact zag.rf.set h2 (fun q => q rfl)
  refine ⟨e1, ⟨lk, g', cf, ha _ _ _ h1 hne.2.2.1, ?_, ha _ _ _ h3 hne.2.2.2, hg, h5, h6, h7⟩, ha⟩
  rw [e2]
  exact zu_eq _ _ _ _
theorem g_measureChain (h : zBo Γ V tt t ta ga tc ca) (hT : zTx Γ V o r m h') (ho : V o = some (to, e)) (hr : V r = some (tr, e')) (hne : to ≠ ta ∧ tr ≠ ta ∧ to ≠ tc ∧ tr ≠ tc ∧ to ≠ tt ∧ tr ≠ tt ∧ ta ≠ tc ∧ tt ≠ ta ∧ tt ≠ tc) : zM l0 Γ 7 yX0_measureChain wsX0_measureChain 0 0 V [.ref t, .ref o] (fun rv V' => rv = none ∧ zBo Γ V' tt t ta ga tc ca ∧ zag (fun x => x ≠ ta ∧ x ≠ tc ∧ x ≠ tt) V V') := by
  obtain ⟨n1, n2, n3, n4, n5, n6, n7, n8, n9⟩ := hne
  obtain ⟨lk, gf, cf, h1, h2, h3, h4, h5, h6, h7⟩ := h
  have ngc : ga ≠ ca := zne_tag h2 h3 n7
  have ntg : t ≠ ga := zne_tag h1 h2 n8
  have ntc : t ≠ ca := zne_tag h1 h3 n9
  refine (m_X0_measureChain l0 Γ h1 h2 h3 h4 h5 hT (zne_tag ho h2 n1) (zne_tag hr h2 n2) (zne_tag ho h3 n3) (zne_tag hr h3 n4) (zne_tag ho h1 n5) (zne_tag hr h1 n6) ngc).imp (fun rv V' hp => ?_)
  obtain ⟨e1, g', c', k', hg, hc, k1, k2, e2⟩ := hp
  refine ⟨e1, ⟨k', g', c', ?_, ?_, ?_, hg, hc, k1, k2⟩, ?_⟩
  · rw [e2]
    exact zu_eq _ _ _ _
  · rw [e2, zu_ne (Ne.symm ntg), zu_ne ngc]
    exact zu_eq _ _ _ _
  · rw [e2, zu_ne (Ne.symm ntc)]
    exact zu_eq _ _ _ _
  · rw [e2]
    exact ((zag.rf.set h2 (fun q => q.1 rfl)).set ((zu_ne (Ne.symm ngc)).trans h3) (fun q => q.2.1 rfl)).set ((zu_ne ntc).trans ((zu_ne ntg).trans h1)) (fun q => q.2.2 rfl)
variable {tk k tp pl bo : Nat}
theorem g_foundAt (h : zSk Γ V tk k tp pl bo) {q : Int} (hq : -2147483648 ≤ q ∧ q ≤ 2147483647) : zM l0 Γ 0 yX3_foundAt wsX3_foundAt 0 0 V [.ref k, .int (zI q)] (fun rv V' => ∃ x : Int, rv = some (.int (zI x)) ∧ V' = V ∧ -2000 ≤ x ∧ x ≤ 2000) := by
  obtain ⟨mn, pf, h1, h2, h3, h4, h5⟩ := h
  refine (m_X3_foundAt l0 Γ h1 h2 ⟨h4, h5⟩ hq).imp (fun rv V' hp => ?_)
  have hc := h3 q.toNat
  refine ⟨_, hp.1, hp.2, ?_⟩
  by_cases c : 0 ≤ q ∧ q < mn
  · rw [if_pos c]
    exact hc
  · rw [if_neg c]
    omega
theorem g_seek {to2 tr2 o2 r2 : Nat} {m2 : Int} {h2' : Int → Int} {e2 e2' : va_E} (hk : zSk Γ V tk k tp pl t) (h : zBo Γ V tt t ta ga tc ca) (hT : zTx Γ V o r m h') (ho : V o = some (to, e)) (hr : V r = some (tr, e')) (hT2 : zTx Γ V o2 r2 m2 h2') (ho2 : V o2 = some (to2, e2)) (hr2 : V r2 = some (tr2, e2'))
    (hne : to ≠ tk ∧ to ≠ ta ∧ to ≠ tp ∧ tr ≠ tk ∧ tr ≠ ta ∧ tr ≠ tp) (hne2 : to2 ≠ tk ∧ to2 ≠ ta ∧ to2 ≠ tp ∧ tr2 ≠ tk ∧ tr2 ≠ ta ∧ tr2 ≠ tp) (hn3 : ta ≠ tp ∧ tk ≠ ta ∧ tk ≠ tp ∧ tt ≠ ta ∧ tt ≠ tp ∧ tt ≠ tk ∧ tc ≠ ta ∧ tc ≠ tp ∧ tc ≠ tk) :
    zM l0 Γ 7 yX3_seek wsX3_seek 0 0 V [.ref k, .ref o, .ref o2] (fun rv V' => rv = none ∧ zSk Γ V' tk k tp pl t ∧ zBo Γ V' tt t ta ga tc ca ∧ zag (fun x => x ≠ ta ∧ x ≠ tp ∧ x ≠ tk) V V') := by
  obtain ⟨mn, pf, k1, k2, k3, k4, k5⟩ := hk
  obtain ⟨lk, gf, cf, h1, h2, h3, h4, h5, h6, h7⟩ := h
  obtain ⟨a1, a2, a3, a4, a5, a6⟩ := hne
  obtain ⟨b1, b2, b3, b4, b5, b6⟩ := hne2
  obtain ⟨c1, c2, c3, c4, c5, c6, c7, c8, c9⟩ := hn3
  have ngp : ga ≠ pl := zne_tag h2 k2 c1
  have nkg : k ≠ ga := zne_tag k1 h2 c2
  have nkp : k ≠ pl := zne_tag k1 k2 c3
  refine (m_X3_seek l0 Γ k1 k2 ⟨k4, k5⟩ h1 h2 h4 k3 ngp hT hT2 (zne_tag ho k1 a1) (zne_tag ho h2 a2) (zne_tag ho k2 a3) (zne_tag hr k1 a4) (zne_tag hr h2 a5) (zne_tag hr k2 a6) (zne_tag ho2 k1 b1) (zne_tag ho2 h2 b2) (zne_tag ho2 k2 b3) (zne_tag hr2 k1 b4) (zne_tag hr2 h2 b5) (zne_tag hr2 k2 b6)).imp (fun rv V' hp => ?_)
  obtain ⟨e1, g', p', m', hg, hp', q1, q2, e3⟩ := hp
  have ha : zag (fun x => x ≠ ta ∧ x ≠ tp ∧ x ≠ tk) V V' := by
    rw [e3]
    exact ((zag.rf.set h2 (fun q => q.1 rfl)).set ((zu_ne (Ne.symm ngp)).trans k2) (fun q => q.2.1 rfl)).set ((zu_ne nkp).trans ((zu_ne nkg).trans k1)) (fun q => q.2.2 rfl)
  refine ⟨e1, ⟨m', p', ?_, ?_, hp', q1, q2⟩, ⟨lk, g', cf, ha _ _ _ h1 ⟨c4, c5, c6⟩, ?_, ha _ _ _ h3 ⟨c7, c8, c9⟩, hg, h5, h6, h7⟩, ha⟩
  · rw [e3]
    exact zu_eq _ _ _ _
  · rw [e3, zu_ne (Ne.symm nkp)]
    exact zu_eq _ _ _ _
  · rw [e3, zu_ne (Ne.symm nkg), zu_ne ngp]
    exact zu_eq _ _ _ _
end ZGG
/-! the seekers' moves in the whole state -/
theorem zS.table {Γ : zGam} {V V' : zV} {ad : Nat → Nat} {σ : Nat → Int} (h : zS Γ V ad σ) (hb : zBo Γ V' 45 (ad 45) 46 (ad 46) 47 (ad 47)) (ha : zag (fun x => x ≠ 46 ∧ x ≠ 47 ∧ x ≠ 45) V V') : zS Γ V' ad σ ∧ zfx V V' := by
  obtain ⟨f1, f2, f3, f4, f5⟩ := h.2.2.2.2.2.2
  exact h.setF (ha.mono (fun t ht => by omega)) ⟨f1.kept ha (by first | with_reducible assumption | decide | omega) (by first | with_reducible assumption | decide | omega), f2.kept ha (by first | with_reducible assumption | decide | omega) (by first | with_reducible assumption | decide | omega) (by first | with_reducible assumption | decide | omega), f3.kept ha (by first | with_reducible assumption | decide | omega) (by first | with_reducible assumption | decide | omega), f4.kept ha (by first | with_reducible assumption | decide | omega) (by first | with_reducible assumption | decide | omega) (by first | with_reducible assumption | decide | omega), hb⟩
theorem zS.road {Γ : zGam} {V V' : zV} {ad : Nat → Nat} {σ : Nat → Int} (h : zS Γ V ad σ) (hk : zSk Γ V' 35 (ad 35) 39 (ad 39) (ad 36)) (hb : zBo Γ V' 36 (ad 36) 37 (ad 37) 38 (ad 38)) (ha : zag (fun x => x ≠ 37 ∧ x ≠ 39 ∧ x ≠ 35) V V') : zS Γ V' ad σ ∧ zfx V V' := by
  obtain ⟨f1, f2, f3, f4, f5⟩ := h.2.2.2.2.2.2
  exact h.setF (ha.mono (fun t ht => by omega)) ⟨hk, hb, f3.kept ha (by first | with_reducible assumption | decide | omega) (by first | with_reducible assumption | decide | omega), f4.kept ha (by first | with_reducible assumption | decide | omega) (by first | with_reducible assumption | decide | omega) (by first | with_reducible assumption | decide | omega), f5.kept ha (by first | with_reducible assumption | decide | omega) (by first | with_reducible assumption | decide | omega) (by first | with_reducible assumption | decide | omega)⟩
theorem zS.road2 {Γ : zGam} {V V' : zV} {ad : Nat → Nat} {σ : Nat → Int} (h : zS Γ V ad σ) (hk : zSk Γ V' 40 (ad 40) 44 (ad 44) (ad 41)) (hb : zBo Γ V' 41 (ad 41) 42 (ad 42) 43 (ad 43)) (ha : zag (fun x => x ≠ 42 ∧ x ≠ 44 ∧ x ≠ 40) V V') : zS Γ V' ad σ ∧ zfx V V' := by
  obtain ⟨f1, f2, f3, f4, f5⟩ := h.2.2.2.2.2.2
  exact h.setF (ha.mono (fun t ht => by omega)) ⟨f1.kept ha (by first | with_reducible assumption | decide | omega) (by first | with_reducible assumption | decide | omega), f2.kept ha (by first | with_reducible assumption | decide | omega) (by first | with_reducible assumption | decide | omega) (by first | with_reducible assumption | decide | omega), hk, hb, f5.kept ha (by first | with_reducible assumption | decide | omega) (by first | with_reducible assumption | decide | omega) (by first | with_reducible assumption | decide | omega)⟩
theorem zf_id {f : Nat → Int} {i : Nat} : zf f i (f i) = f := by
  funext j
  unfold zf
  by_cases h : j = i
  · rw [if_pos h, h]
  · rw [if_neg h]
