/-! windows as a whole -/
def zWs (Γ : zGam) (V V' : zV) (tw w : Nat) (c l p m : Int) : Prop := zWi Γ V' tw w c l p m ∧ zag (fun t => t ≠ tw ∧ t ≠ 50) V V' ∧ z50 Γ V V'
theorem zWi.cl {Γ : zGam} {V : zV} {tw w : Nat} {c l p m : Int} (h : zWi Γ V tw w c l p m) : zCl V w 6 := by
  obtain ⟨r, n, st, f, h1, -⟩ := h
  exact ⟨_, _, h1⟩
theorem zWi.rg {Γ : zGam} {V : zV} {tw w : Nat} {c l p m : Int} (h : zWi Γ V tw w c l p m) : 0 ≤ p ∧ p ≤ l ∧ l ≤ c ∧ c ≤ 40 ∧ (m = -9 ∨ 0 ≤ m) ∧ m ≤ p := by
  obtain ⟨r, n, st, f, h1, h2, ⟨a1, a2, a3, a4, a5, a6, a7, a8⟩, h4, h5⟩ := h
  exact ⟨a3, a4, a5, h5, a6, a7⟩
theorem zWs.one {Γ : zGam} {V : zV} {tw w r n : Nat} {c l p m st : Int} {f : Nat → Int} {e0 : va_E} (h1 : V w = some (tw, e0)) (h2 : V r = some (50, za Γ.2.1 1 n f)) (htw : tw ≠ 50) (hb : zWb st c l p m n) (hc : zc f) (h40 : c ≤ 40) : zWs Γ V (zu V w tw (.inr (6, [.ref r, .int (zI st), .int (zI c), .int (zI l), .int (zI p), .int (zI m)]))) tw w c l p m := by
  have hne : r ≠ w := Ne.symm (zne_tag h1 h2 htw)
  exact ⟨⟨r, n, st, f, zu_eq _ _ _ _, (zu_ne hne).trans h2, hb, hc, h40⟩, zag.rf.set h1 (fun q => q.1 rfl), z50.of (P := fun t => t ≠ tw) (zag.rf.set h1 (fun q => q rfl)) (Ne.symm htw)⟩
theorem zWs.two {Γ : zGam} {V : zV} {tw w r n : Nat} {c l p m st : Int} {f f' : Nat → Int} {e0 : va_E} (h1 : V w = some (tw, e0)) (h2 : V r = some (50, za Γ.2.1 1 n f)) (htw : tw ≠ 50) (hb : zWb st c l p m n) (hc : zc f') (h40 : c ≤ 40) : zWs Γ V (zu (zu V r 50 (za Γ.2.1 1 n f')) w tw (.inr (6, [.ref r, .int (zI st), .int (zI c), .int (zI l), .int (zI p), .int (zI m)]))) tw w c l p m := by
  have hne : w ≠ r := zne_tag h1 h2 htw
  have g1 : zu V r 50 (za Γ.2.1 1 n f') w = some (tw, e0) := (zu_ne hne).trans h1
  have g2 : zu V r 50 (za Γ.2.1 1 n f') r = some (50, za Γ.2.1 1 n f') := zu_eq _ _ _ _
  obtain ⟨a, b, c1⟩ := zWs.one (Γ := Γ) g1 g2 htw hb hc h40
  refine ⟨a, (zag.rf.set h2 (fun q => q.2 rfl)).tr b, ?_⟩
  intro q n1 f1 hq1 hq2
  obtain ⟨f2, k1, k2⟩ := z50.set h2 hc q n1 f1 hq1 hq2
  exact c1 q n1 f2 k1 k2
section ZE
variable (l0 : Launch) (Γ : zGam) {V : zV} {tw w : Nat} {c l p m : Int}
theorem e_size (h : zWi Γ V tw w c l p m) : zM l0 Γ 0 yX5_size wsX5_size 0 0 V [.ref w] (fun rv V' => rv = some (.int (zI (l - p))) ∧ V' = V) := by
  obtain ⟨r, n, st, f, h1, h2, h3, h4, h5⟩ := h
  obtain ⟨a1, a2, a3, a4, a5, a6, a7, a8⟩ := id h3
  exact m_X5_size l0 Γ h1 (by first | with_reducible assumption | decide | omega)
theorem e_at (h : zWi Γ V tw w c l p m) {k : Int} (hk : -2147483648 ≤ k ∧ k ≤ 2147483647) : zM l0 Γ 1 yX5_at wsX5_at 0 0 V [.ref w, .int (zI k)] (fun rv V' => ∃ x : Int, rv = some (.int (zI x)) ∧ V' = V ∧ -9 ≤ x ∧ x ≤ 255 ∧ (0 ≤ k ∧ k < l - p → 0 ≤ x) ∧ (¬ (0 ≤ k ∧ k < l - p) → x = -9)) := by
  obtain ⟨r, n, st, f, h1, h2, h3, h4, h5⟩ := h
  refine (m_X5_at l0 Γ h1 h2 h3 hk).imp (fun rv V' hp => ?_)
  obtain ⟨e1, e2⟩ := hp
  have hf := h4 (st + p + k).toNat
  refine ⟨_, e1, e2, ?_⟩
  by_cases c : 0 ≤ k ∧ k < l - p
  · rw [if_pos c]
    exact ⟨by omega, by omega, fun _ => hf.1, fun q => absurd c q⟩
  · rw [if_neg c]
    exact ⟨by omega, by omega, fun q => absurd q c, fun _ => rfl⟩
theorem e_atPlace (h : zWi Γ V tw w c l p m) {k : Int} (hk : -2147483648 ≤ k ∧ k ≤ 2147483647) : zM l0 Γ 0 yX5_atPlace wsX5_atPlace 0 0 V [.ref w, .int (zI k)] (fun rv V' => ∃ x : Int, rv = some (.int (zI x)) ∧ V' = V ∧ -9 ≤ x ∧ x ≤ 255 ∧ (0 ≤ k ∧ k < l → 0 ≤ x) ∧ (¬ (0 ≤ k ∧ k < l) → x = -9)) := by
  obtain ⟨r, n, st, f, h1, h2, h3, h4, h5⟩ := h
  refine (m_X5_atPlace l0 Γ h1 h2 h3 hk).imp (fun rv V' hp => ?_)
  obtain ⟨e1, e2⟩ := hp
  have hf := h4 (st + k).toNat
  refine ⟨_, e1, e2, ?_⟩
  by_cases c : 0 ≤ k ∧ k < l
  · rw [if_pos c]
    exact ⟨by omega, by omega, fun _ => hf.1, fun q => absurd c q⟩
  · rw [if_neg c]
    exact ⟨by omega, by omega, fun q => absurd q c, fun _ => rfl⟩
theorem e_write_y (h : zWi Γ V tw w c l p m) (htw : tw ≠ 50) {x : Int} (hx : 0 ≤ x ∧ x ≤ 255) (hlt : p < l) : zM l0 Γ 1 yX5_writeSign wsX5_writeSign 0 0 V [.ref w, .int (zI x)] (fun rv V' => rv = some (.int (zI 1)) ∧ zWs Γ V V' tw w c l (p + 1) m) := by
  obtain ⟨r, n, st, f, h1, h2, h3, h4, h5⟩ := h
  refine (m_X5_writeSign_y l0 Γ h1 h2 h3 hx hlt).imp (fun rv V' hp => ?_)
  obtain ⟨a1, a2, a3, a4, a5, a6, a7, a8⟩ := id h3
  refine ⟨hp.1, ?_⟩
  rw [hp.2]
  exact zWs.two h1 h2 htw ⟨by omega, by omega, by omega, by omega, by omega, a6, by omega, a8⟩ (zc_zf h4 hx) h5
theorem e_write_n (h : zWi Γ V tw w c l p m) {x : Int} (hlt : ¬ p < l) : zM l0 Γ 1 yX5_writeSign wsX5_writeSign 0 0 V [.ref w, .int (zI x)] (fun rv V' => rv = some (.int (zI 0)) ∧ V' = V) := by
  obtain ⟨r, n, st, f, h1, h2, h3, h4, h5⟩ := h
  obtain ⟨a1, a2, a3, a4, a5, a6, a7, a8⟩ := id h3
  exact m_X5_writeSign_n l0 Γ h1 (by first | with_reducible assumption | decide | omega)
theorem e_read (h : zWi Γ V tw w c l p m) (htw : tw ≠ 50) (hlt : p < l) : zM l0 Γ 2 yX5_readSign wsX5_readSign 0 0 V [.ref w] (fun rv V' => ∃ x : Int, rv = some (.int (zI x)) ∧ 0 ≤ x ∧ x ≤ 255 ∧ zWs Γ V V' tw w c l (p + 1) m) := by
  obtain ⟨r, n, st, f, h1, h2, h3, h4, h5⟩ := h
  refine (m_X5_readSign l0 Γ h1 h2 h3 hlt).imp (fun rv V' hp => ?_)
  obtain ⟨a1, a2, a3, a4, a5, a6, a7, a8⟩ := id h3
  refine ⟨_, hp.1, (h4 _).1, (h4 _).2, ?_⟩
  rw [hp.2]
  exact zWs.one h1 h2 htw ⟨by omega, by omega, by omega, by omega, by omega, a6, by omega, a8⟩ h4 h5
theorem e_goTo (h : zWi Γ V tw w c l p m) (htw : tw ≠ 50) {a b : Int} (hab : 0 ≤ a ∧ a ≤ b ∧ b ≤ c) : zM l0 Γ 0 yX5_goTo wsX5_goTo 0 0 V [.ref w, .int (zI a), .int (zI b)] (fun rv V' => rv = none ∧ zWs Γ V V' tw w c b a (-9)) := by
  obtain ⟨r, n, st, f, h1, h2, h3, h4, h5⟩ := h
  refine (m_X5_goTo l0 Γ h1).imp (fun rv V' hp => ?_)
  obtain ⟨a1, a2, a3, a4, a5, a6, a7, a8⟩ := id h3
  refine ⟨hp.1, ?_⟩
  rw [hp.2]
  exact zWs.one h1 h2 htw ⟨by omega, by omega, by omega, by omega, by omega, Or.inl rfl, by omega, a8⟩ h4 h5
theorem e_setMark (h : zWi Γ V tw w c l p m) (htw : tw ≠ 50) : zM l0 Γ 0 yX5_setMark wsX5_setMark 0 0 V [.ref w] (fun rv V' => rv = none ∧ zWs Γ V V' tw w c l p p) := by
  obtain ⟨r, n, st, f, h1, h2, h3, h4, h5⟩ := h
  refine (m_X5_setMark l0 Γ h1).imp (fun rv V' hp => ?_)
  obtain ⟨a1, a2, a3, a4, a5, a6, a7, a8⟩ := id h3
  refine ⟨hp.1, ?_⟩
  rw [hp.2]
  exact zWs.one h1 h2 htw ⟨by omega, by omega, by omega, by omega, by omega, Or.inr a3, by omega, a8⟩ h4 h5
theorem e_goToMark (h : zWi Γ V tw w c l p m) (htw : tw ≠ 50) (hm : m ≠ -9) : zM l0 Γ 0 yX5_goToMark wsX5_goToMark 0 0 V [.ref w] (fun rv V' => rv = none ∧ zWs Γ V V' tw w c l m m) := by
  obtain ⟨r, n, st, f, h1, h2, h3, h4, h5⟩ := h
  refine (m_X5_goToMark l0 Γ h1).imp (fun rv V' hp => ?_)
  obtain ⟨a1, a2, a3, a4, a5, a6, a7, a8⟩ := id h3
  refine ⟨hp.1, ?_⟩
  rw [hp.2]
  exact zWs.one h1 h2 htw ⟨by omega, by omega, by omega, by omega, by omega, a6, by omega, a8⟩ h4 h5
theorem e_becomeNew (h : zWi Γ V tw w c l p m) (htw : tw ≠ 50) {z : Int} (hz : 0 ≤ z ∧ z ≤ 40) : zM l0 Γ 2 yX5_becomeNew wsX5_becomeNew 1 z.toNat V [.ref w, .int (zI z)] (fun rv V' => rv = none ∧ zWs Γ V V' tw w z z 0 (-9)) := by
  obtain ⟨r, n, st, f, h1, h2, h3, h4, h5⟩ := h
  refine (m_X5_becomeNew l0 Γ h1 hz).imp (fun rv V' hp => ?_)
  obtain ⟨e1, q, hq, e2⟩ := hp
  refine ⟨e1, ?_⟩
  rw [e2]
  have ez : ((z.toNat : Nat) : Int) = z := by omega
  have g1 : zu V q 50 (za Γ.2.1 1 z.toNat (fun _ => 0)) w = some (tw, _) := (zu_ne (zne_new h1 hq)).trans h1
  have g2 : zu V q 50 (za Γ.2.1 1 z.toNat (fun _ => 0)) q = some (50, za Γ.2.1 1 z.toNat (fun _ => 0)) := zu_eq _ _ _ _
  rw [ez]
  obtain ⟨a, b, c1⟩ := zWs.one (Γ := Γ) (st := 0) (c := z) (l := z) (p := 0) (m := -9) g1 g2 htw ⟨by omega, by omega, by omega, by omega, by omega, Or.inl rfl, by omega, by omega⟩ zc_zero hz.2
  have hn : zag (fun _ => True) V (zu V q 50 (za Γ.2.1 1 z.toNat (fun _ => 0))) := zag.rf.new hq
  refine ⟨a, (hn.mono (fun _ _ => trivial)).tr b, ?_⟩
  intro q1 n1 f1 hq1 hq2
  exact c1 q1 n1 f1 (hn _ _ _ hq1 trivial) hq2
theorem e_move (h : zWi Γ V tw w c l p m) (htw : tw ≠ 50) : zM l0 Γ 3 yX5_moveTextToFront wsX5_moveTextToFront 0 0 V [.ref w] (fun rv V' => rv = none ∧ zWs Γ V V' tw w c c (l - p) (-9)) := by
  obtain ⟨r, n, st, f, h1, h2, h3, h4, h5⟩ := h
  refine (m_X5_moveTextToFront l0 Γ h1 h2 h3 h4).imp (fun rv V' hp => ?_)
  obtain ⟨a1, a2, a3, a4, a5, a6, a7, a8⟩ := id h3
  obtain ⟨e1, g', hg, e2⟩ := hp
  refine ⟨e1, ?_⟩
  rw [e2]
  exact zWs.two h1 h2 htw ⟨by omega, by omega, by omega, by omega, by omega, Or.inl rfl, by omega, a8⟩ hg h5
theorem e_isOrdered (h : zWi Γ V tw w c l p m) : zM l0 Γ 0 yX5_isOrdered wsX5_isOrdered 0 0 V [.ref w] (fun rv V' => rv = some (.int (zI 1)) ∧ V' = V) := by
  obtain ⟨r, n, st, f, h1, h2, h3, h4, h5⟩ := h
  exact m_X5_isOrdered l0 Γ h1 h3
variable {to o : Nat} {c' l' p' m' : Int}
theorem e_like (h : zWi Γ V tw w c l p m) (h' : zWi Γ V to o c' l' p' m') (htw : tw ≠ 50) (hne : w ≠ o) : zM l0 Γ 0 yX5_becomeLike wsX5_becomeLike 0 0 V [.ref w, .ref o] (fun rv V' => rv = none ∧ zWs Γ V V' tw w c' l' p' m') := by
  obtain ⟨r, n, st, f, h1, h2, h3, h4, h5⟩ := h
  obtain ⟨r', n', st', f', h1', h2', h3', h4', h5'⟩ := h'
  refine (m_X5_becomeLike_ne l0 Γ h1 h1' hne).imp (fun rv V' hp => ?_)
  refine ⟨hp.1, ?_⟩
  rw [hp.2]
  exact zWs.one h1 h2' htw h3' h4' h5'
theorem e_like_eq (h : zWi Γ V tw w c l p m) : zM l0 Γ 0 yX5_becomeLike wsX5_becomeLike 0 0 V [.ref w, .ref w] (fun rv V' => rv = none ∧ V' = V) := by
  obtain ⟨r, n, st, f, h1, h2, h3, h4, h5⟩ := h
  exact m_X5_becomeLike_eq l0 Γ h1
theorem e_slice (h : zWi Γ V tw w c l p m) (h' : zWi Γ V to o c' l' p' m') (htw : tw ≠ 50) (hne : w ≠ o) : zM l0 Γ 1 yX5_becomeSlice wsX5_becomeSlice 0 0 V [.ref w, .ref o] (fun rv V' => rv = none ∧ zWs Γ V V' tw w (l' - p') (l' - p') 0 (-9)) := by
  obtain ⟨r, n, st, f, h1, h2, h3, h4, h5⟩ := h
  obtain ⟨r', n', st', f', h1', h2', h3', h4', h5'⟩ := h'
  obtain ⟨a1, a2, a3, a4, a5, a6, a7, a8⟩ := id h3'
  refine (m_X5_becomeSlice_ne l0 Γ h1 h1' hne (by first | with_reducible assumption | decide | omega)).imp (fun rv V' hp => ?_)
  refine ⟨hp.1, ?_⟩
  rw [hp.2]
  exact zWs.one h1 h2' htw ⟨by omega, by omega, by omega, by omega, by omega, Or.inl rfl, by omega, a8⟩ h4' (by first | with_reducible assumption | decide | omega)
theorem e_slice_eq (h : zWi Γ V tw w c l p m) (htw : tw ≠ 50) : zM l0 Γ 1 yX5_becomeSlice wsX5_becomeSlice 0 0 V [.ref w, .ref w] (fun rv V' => rv = none ∧ zWs Γ V V' tw w (l - p) (l - p) 0 (-9)) := by
  obtain ⟨r, n, st, f, h1, h2, h3, h4, h5⟩ := h
  obtain ⟨a1, a2, a3, a4, a5, a6, a7, a8⟩ := id h3
  refine (m_X5_becomeSlice_eq l0 Γ h1 (by first | with_reducible assumption | decide | omega)).imp (fun rv V' hp => ?_)
  refine ⟨hp.1, ?_⟩
  rw [hp.2]
  exact zWs.one h1 h2 htw ⟨by omega, by omega, by omega, by omega, by omega, Or.inl rfl, by omega, a8⟩ h4 (by first | with_reducible assumption | decide | omega)
theorem e_part (h : zWi Γ V tw w c l p m) (h' : zWi Γ V to o c' l' p' m') (htw : tw ≠ 50) (hne : w ≠ o) {a b : Int} (hab : 0 ≤ a ∧ a ≤ b ∧ b ≤ l' - p') : zM l0 Γ 0 yX5_becomePart wsX5_becomePart 0 0 V [.ref w, .ref o, .int (zI a), .int (zI b)] (fun rv V' => rv = none ∧ zWs Γ V V' tw w c' (p' + b) (p' + a) (p' + a)) := by
  obtain ⟨r, n, st, f, h1, h2, h3, h4, h5⟩ := h
  obtain ⟨r', n', st', f', h1', h2', h3', h4', h5'⟩ := h'
  obtain ⟨a1, a2, a3, a4, a5, a6, a7, a8⟩ := id h3'
  refine (m_X5_becomePart_ne l0 Γ h1 h1' hne).imp (fun rv V' hp => ?_)
  refine ⟨hp.1, ?_⟩
  rw [hp.2]
  exact zWs.one h1 h2' htw ⟨by omega, by omega, by omega, by omega, by omega, by omega, by omega, a8⟩ h4' h5'
theorem e_part_eq (h : zWi Γ V tw w c l p m) (htw : tw ≠ 50) {a b : Int} (hab : 0 ≤ a ∧ a ≤ b ∧ b ≤ l - p) : zM l0 Γ 0 yX5_becomePart wsX5_becomePart 0 0 V [.ref w, .ref w, .int (zI a), .int (zI b)] (fun rv V' => rv = none ∧ zWs Γ V V' tw w c (p + b) (p + a) (p + a)) := by
  obtain ⟨r, n, st, f, h1, h2, h3, h4, h5⟩ := h
  obtain ⟨a1, a2, a3, a4, a5, a6, a7, a8⟩ := id h3
  refine (m_X5_becomePart_eq l0 Γ h1).imp (fun rv V' hp => ?_)
  refine ⟨hp.1, ?_⟩
  rw [hp.2]
  exact zWs.one h1 h2 htw ⟨by omega, by omega, by omega, by omega, by omega, by omega, by omega, a8⟩ h4 h5
end ZE
/-! the object's state moves on -/
def zw4 (σ : Nat → Int) (i : Nat) (c l p m : Int) : Nat → Int := fun j => if j = 4 * i then c else if j = 4 * i + 1 then l else if j = 4 * i + 2 then p else if j = 4 * i + 3 then m else σ j
def zx4 (σ : Nat → Int) (a b c d : Int) : Nat → Int := fun j => if j = 30 then a else if j = 31 then b else if j = 32 then c else if j = 33 then d else σ j
theorem zw4_hi {σ : Nat → Int} {i : Nat} {c l p m : Int} (hi : i < 6) {j : Nat} (hj : 24 ≤ j) : zw4 σ i c l p m j = σ j := by
  unfold zw4
  rw [if_neg (by first | with_reducible assumption | decide | omega), if_neg (by first | with_reducible assumption | decide | omega), if_neg (by first | with_reducible assumption | decide | omega), if_neg (by first | with_reducible assumption | decide | omega)]
theorem zx4_lo {σ : Nat → Int} {a b c d : Int} {j : Nat} (hj : j < 30) : zx4 σ a b c d j = σ j := by
  unfold zx4
  rw [if_neg (by first | with_reducible assumption | decide | omega), if_neg (by first | with_reducible assumption | decide | omega), if_neg (by first | with_reducible assumption | decide | omega), if_neg (by first | with_reducible assumption | decide | omega)]
/-- the class's cells apart, nothing changes -/
def zfx (V V' : zV) : Prop := zag (fun t => 60 ≤ t ∨ t = 5) V V'
theorem zS.setW {Γ : zGam} {V V' : zV} {ad : Nat → Nat} {σ : Nat → Int} (h : zS Γ V ad σ) {i : Nat} (hi : i < 6) {c l p m : Int} (hw : zWs Γ V V' (10 + i) (ad (10 + i)) c l p m) : zS Γ V' ad (zw4 σ i c l p m) ∧ zfx V V' := by
  obtain ⟨hw1, ha, h5⟩ := hw
  obtain ⟨a, b, w, d, t, q, f⟩ := h
  have e : ∀ j, 24 ≤ j → zw4 σ i c l p m j = σ j := fun j hj => zw4_hi hi hj
  refine ⟨⟨?_, b.kept ha (by first | with_reducible assumption | decide | omega), ?_, d.kept ha (by first | with_reducible assumption | decide | omega) h5, ?_, ?_, f.kept ha (fun t h1 h2 => by omega)⟩, ha.mono (fun t ht => by omega)⟩
  · unfold zSx
    rw [e 30 (by first | with_reducible assumption | decide | omega), e 31 (by first | with_reducible assumption | decide | omega), e 32 (by first | with_reducible assumption | decide | omega), e 33 (by first | with_reducible assumption | decide | omega)]
    exact a.kept ha (by first | with_reducible assumption | decide | omega)
  · intro j hj
    by_cases hji : j = i
    · subst hji
      have e0 : zw4 σ j c l p m (4 * j) = c := by unfold zw4; rw [if_pos rfl]
      have e1 : zw4 σ j c l p m (4 * j + 1) = l := by unfold zw4; rw [if_neg (by first | with_reducible assumption | decide | omega), if_pos rfl]
      have e2 : zw4 σ j c l p m (4 * j + 2) = p := by unfold zw4; rw [if_neg (by first | with_reducible assumption | decide | omega), if_neg (by first | with_reducible assumption | decide | omega), if_pos rfl]
      have e3 : zw4 σ j c l p m (4 * j + 3) = m := by unfold zw4; rw [if_neg (by first | with_reducible assumption | decide | omega), if_neg (by first | with_reducible assumption | decide | omega), if_neg (by first | with_reducible assumption | decide | omega), if_pos rfl]
      rw [e0, e1, e2, e3]
      exact hw1
    · have ej : ∀ k, k < 4 → zw4 σ i c l p m (4 * j + k) = σ (4 * j + k) := by
        intro k hk
        unfold zw4
        rw [if_neg (by first | with_reducible assumption | decide | omega), if_neg (by first | with_reducible assumption | decide | omega), if_neg (by first | with_reducible assumption | decide | omega), if_neg (by first | with_reducible assumption | decide | omega)]
      have e0 := ej 0 (by first | with_reducible assumption | decide | omega)
      rw [Nat.add_zero] at e0
      rw [e0, ej 1 (by first | with_reducible assumption | decide | omega), ej 2 (by first | with_reducible assumption | decide | omega), ej 3 (by first | with_reducible assumption | decide | omega)]
      exact (w j hj).row ha (by first | with_reducible assumption | decide | omega) h5
  · unfold zSt
    rw [e 24 (by first | with_reducible assumption | decide | omega), e 25 (by first | with_reducible assumption | decide | omega)]
    exact t.kept ha (by first | with_reducible assumption | decide | omega) (by first | with_reducible assumption | decide | omega) (by first | with_reducible assumption | decide | omega) (by first | with_reducible assumption | decide | omega) (by first | with_reducible assumption | decide | omega) (by first | with_reducible assumption | decide | omega) (by first | with_reducible assumption | decide | omega) (by first | with_reducible assumption | decide | omega)
  · unfold zSp
    rw [e 26 (by first | with_reducible assumption | decide | omega), e 27 (by first | with_reducible assumption | decide | omega), e 28 (by first | with_reducible assumption | decide | omega), e 29 (by first | with_reducible assumption | decide | omega)]
    exact q.kept ha (by first | with_reducible assumption | decide | omega) (by first | with_reducible assumption | decide | omega) (by first | with_reducible assumption | decide | omega) (by first | with_reducible assumption | decide | omega) (by first | with_reducible assumption | decide | omega) (by first | with_reducible assumption | decide | omega) (by first | with_reducible assumption | decide | omega)
theorem zS.setD {Γ : zGam} {V V' : zV} {ad : Nat → Nat} {σ : Nat → Int} (h : zS Γ V ad σ) {c l p m : Int} (hw : zWs Γ V V' 16 (ad 16) c l p m) : zS Γ V' ad σ ∧ zfx V V' := by
  obtain ⟨hw1, ha, h5⟩ := hw
  obtain ⟨a, b, w, d, t, q, f⟩ := h
  exact ⟨⟨a.kept ha (by first | with_reducible assumption | decide | omega), b.kept ha (by first | with_reducible assumption | decide | omega), w.kept ha (fun i hi => by omega) h5, ⟨c, l, p, m, hw1⟩, t.kept ha (by first | with_reducible assumption | decide | omega) (by first | with_reducible assumption | decide | omega) (by first | with_reducible assumption | decide | omega) (by first | with_reducible assumption | decide | omega) (by first | with_reducible assumption | decide | omega) (by first | with_reducible assumption | decide | omega) (by first | with_reducible assumption | decide | omega) (by first | with_reducible assumption | decide | omega), q.kept ha (by first | with_reducible assumption | decide | omega) (by first | with_reducible assumption | decide | omega) (by first | with_reducible assumption | decide | omega) (by first | with_reducible assumption | decide | omega) (by first | with_reducible assumption | decide | omega) (by first | with_reducible assumption | decide | omega) (by first | with_reducible assumption | decide | omega), f.kept ha (fun t h1 h2 => by omega)⟩, ha.mono (fun t ht => by omega)⟩
theorem zS.setX {Γ : zGam} {V : zV} {ad : Nat → Nat} {σ : Nat → Int} (h : zS Γ V ad σ) (x1 x2 x3 x4 : Int) : zS Γ (zu V (ad 1) 1 (zXc ad x1 x2 x3 x4)) ad (zx4 σ x1 x2 x3 x4) ∧ zfx V (zu V (ad 1) 1 (zXc ad x1 x2 x3 x4)) := by
  obtain ⟨a, b, w, d, t, q, f⟩ := h
  have ha : zag (fun t => t ≠ 1) V (zu V (ad 1) 1 (zXc ad x1 x2 x3 x4)) := zag.rf.set a (fun q => q rfl)
  have e : ∀ j, j < 30 → zx4 σ x1 x2 x3 x4 j = σ j := fun j hj => zx4_lo hj
  refine ⟨⟨?_, b.kept ha (by first | with_reducible assumption | decide | omega), ?_, d.kept ha (by first | with_reducible assumption | decide | omega) (.of ha (by first | with_reducible assumption | decide | omega)), ?_, ?_, f.kept ha (fun t h1 h2 => by omega)⟩, ha.mono (fun t ht => by omega)⟩
  · unfold zSx zx4
    exact zu_eq _ _ _ _
  · intro j hj
    rw [e _ (by first | with_reducible assumption | decide | omega), e _ (by first | with_reducible assumption | decide | omega), e _ (by first | with_reducible assumption | decide | omega), e _ (by first | with_reducible assumption | decide | omega)]
    exact (w j hj).row ha (by first | with_reducible assumption | decide | omega) (.of ha (by first | with_reducible assumption | decide | omega))
  · unfold zSt
    rw [e 24 (by first | with_reducible assumption | decide | omega), e 25 (by first | with_reducible assumption | decide | omega)]
    exact t.kept ha (by first | with_reducible assumption | decide | omega) (by first | with_reducible assumption | decide | omega) (by first | with_reducible assumption | decide | omega) (by first | with_reducible assumption | decide | omega) (by first | with_reducible assumption | decide | omega) (by first | with_reducible assumption | decide | omega) (by first | with_reducible assumption | decide | omega) (by first | with_reducible assumption | decide | omega)
  · unfold zSp
    rw [e 26 (by first | with_reducible assumption | decide | omega), e 27 (by first | with_reducible assumption | decide | omega), e 28 (by first | with_reducible assumption | decide | omega), e 29 (by first | with_reducible assumption | decide | omega)]
    exact q.kept ha (by first | with_reducible assumption | decide | omega) (by first | with_reducible assumption | decide | omega) (by first | with_reducible assumption | decide | omega) (by first | with_reducible assumption | decide | omega) (by first | with_reducible assumption | decide | omega) (by first | with_reducible assumption | decide | omega) (by first | with_reducible assumption | decide | omega)
