/-! contents of windows and scripts, spelled out -/
/-- a window whose places below its limit hold the signs s -/
def zWg (Γ : zGam) (V : zV) (tw w : Nat) (c l p m : Int) (s : Int → Int) : Prop := ∃ (r n : Nat) (st : Int) (f : Nat → Int), V w = some (tw, .inr (6, [.ref r, .int (zI st), .int (zI c), .int (zI l), .int (zI p), .int (zI m)])) ∧ V r = some (50, za Γ.2.1 1 n f) ∧ zWb st c l p m n ∧ zc f ∧ c ≤ 40 ∧ ∀ k : Int, 0 ≤ k → k < l → f (st + k).toNat = s k
theorem zWg.wi {Γ : zGam} {V : zV} {tw w : Nat} {c l p m : Int} {s : Int → Int} (h : zWg Γ V tw w c l p m s) : zWi Γ V tw w c l p m := by
  obtain ⟨r, n, st, f, h1, h2, h3, h4, h5, h6⟩ := h
  exact ⟨r, n, st, f, h1, h2, h3, h4, h5⟩
theorem zWg.kept {Γ : zGam} {V V' : zV} {P : Nat → Prop} {tw w : Nat} {c l p m : Int} {s : Int → Int} (h : zWg Γ V tw w c l p m s) (ha : zag P V V') (h1 : P tw) (h2 : P 50) : zWg Γ V' tw w c l p m s := by
  obtain ⟨r, n, st, f, a, b, d⟩ := h
  exact ⟨r, n, st, f, ha _ _ _ a h1, ha _ _ _ b h2, d⟩
/-- the sign at a place of a window -/
def zws (σ : Nat → Int) (i : Nat) : Int → Int := fun k => σ (zTp (σ (40 + i) + k))
theorem zS.wg {Γ : zGam} {V : zV} {ad : Nat → Nat} {σ : Nat → Int} (h : zS Γ V ad σ) {i : Nat} (hi : i < 6) : zWg Γ V (10 + i) (ad (10 + i)) (σ (4 * i)) (σ (4 * i + 1)) (σ (4 * i + 2)) (σ (4 * i + 3)) (zws σ i) := by
  obtain ⟨rr, nn, ba, w⟩ := h.cw
  obtain ⟨st, f, h1, h2, h3, h4, h5, h6, h7, h8⟩ := w.1 i hi
  obtain ⟨a1, a2, a3, a4, a5, a6, a7, a8⟩ := id h3
  refine ⟨_, _, st, f, h1, h2, h3, h4, h5, fun k k1 k2 => ?_⟩
  have e := zT_at (σ := σ) (p := 0) h6 (show 0 ≤ st + k by omega)
  show _ = σ (zTp (σ (40 + i) + k))
  rw [e]
  exact h8 _ (by omega)
theorem zWg.tx {Γ : zGam} {V : zV} {tw w : Nat} {c l p m : Int} {s : Int → Int} (h : zWg Γ V tw w c l p m s) : ∃ (r : Nat) (e e' : va_E) (h' : Int → Int), zTx Γ V w r (l - p) h' ∧ V w = some (tw, e) ∧ V r = some (50, e') ∧ ∀ k : Int, 0 ≤ k → k < l - p → h' k = s (p + k) := by
  obtain ⟨r, n, st, f, h1, h2, h3, h4, h5, h6⟩ := h
  obtain ⟨a1, a2, a3, a4, a5, a6, a7, a8⟩ := id h3
  refine ⟨r, _, _, _, Or.inl ⟨_, _, n, st, _, _, _, _, f, h1, h2, h3, h4, rfl, rfl⟩, h1, h2, fun k k1 k2 => ?_⟩
  show f (st + p + k).toNat = _
  rw [Int.add_assoc]
  exact h6 _ (by omega) (by omega)
theorem zWg.one {Γ : zGam} {V : zV} {tw w r n : Nat} {c l p m st : Int} {f : Nat → Int} {s : Int → Int} {e0 : va_E} (h1 : V w = some (tw, e0)) (h2 : V r = some (50, za Γ.2.1 1 n f)) (htw : tw ≠ 50) (hb : zWb st c l p m n) (hc : zc f) (h40 : c ≤ 40) (hs : ∀ k : Int, 0 ≤ k → k < l → f (st + k).toNat = s k) : zWg Γ (zu V w tw (.inr (6, [.ref r, .int (zI st), .int (zI c), .int (zI l), .int (zI p), .int (zI m)]))) tw w c l p m s :=
  ⟨r, n, st, f, zu_eq _ _ _ _, (zu_ne (Ne.symm (zne_tag h1 h2 htw))).trans h2, hb, hc, h40, hs⟩
section ZYG
variable (l0 : Launch) (Γ : zGam) {V : zV} {tw w : Nat} {c l p m : Int} {to o : Nat} {c' l' p' m' : Int} {s : Int → Int}
theorem e_likeG (h : zWi Γ V tw w c l p m) (h' : zWg Γ V to o c' l' p' m' s) (htw : tw ≠ 50) (hne : w ≠ o) : zM l0 Γ 0 yX5_becomeLike wsX5_becomeLike 0 0 V [.ref w, .ref o] (fun rv V' => rv = none ∧ zWn Γ V V' tw w c' l' p' m' ∧ zWg Γ V' tw w c' l' p' m' s) := by
  obtain ⟨r, n, st, f, h1, h2, h3, h4, h5⟩ := h
  obtain ⟨r', n', st', f', h1', h2', h3', h4', h5', h6'⟩ := h'
  refine (m_X5_becomeLike_ne l0 Γ h1 h1' hne).imp (fun rv V' hp => ?_)
  refine ⟨hp.1, ?_⟩
  rw [hp.2]
  exact ⟨zWn.one h1 h2' htw h3' h4' h5', zWg.one h1 h2' htw h3' h4' h5' h6'⟩
theorem e_partG (h : zWi Γ V tw w c l p m) (h' : zWg Γ V to o c' l' p' m' s) (htw : tw ≠ 50) (hne : w ≠ o) {a b : Int} (hab : 0 ≤ a ∧ a ≤ b ∧ b ≤ l' - p') : zM l0 Γ 0 yX5_becomePart wsX5_becomePart 0 0 V [.ref w, .ref o, .int (zI a), .int (zI b)] (fun rv V' => rv = none ∧ zWn Γ V V' tw w c' (p' + b) (p' + a) (p' + a) ∧ zWg Γ V' tw w c' (p' + b) (p' + a) (p' + a) s) := by
  obtain ⟨r, n, st, f, h1, h2, h3, h4, h5⟩ := h
  obtain ⟨r', n', st', f', h1', h2', h3', h4', h5', h6'⟩ := h'
  obtain ⟨a1, a2, a3, a4, a5, a6, a7, a8⟩ := id h3'
  refine (m_X5_becomePart_ne l0 Γ h1 h1' hne).imp (fun rv V' hp => ?_)
  refine ⟨hp.1, ?_⟩
  rw [hp.2]
  have hb : zWb st' c' (p' + b) (p' + a) (p' + a) n' := ⟨by omega, by omega, by omega, by omega, by omega, by omega, by omega, a8⟩
  exact ⟨zWn.one h1 h2' htw hb h4' h5', zWg.one h1 h2' htw hb h4' h5' (fun k k1 k2 => h6' k k1 (by omega))⟩
theorem e_readG (h : zWg Γ V tw w c l p m s) (htw : tw ≠ 50) (hlt : p < l) : zM l0 Γ 2 yX5_readSign wsX5_readSign 0 0 V [.ref w] (fun rv V' => rv = some (.int (zI (s p))) ∧ 0 ≤ s p ∧ s p ≤ 255 ∧ zWn Γ V V' tw w c l (p + 1) m ∧ zWg Γ V' tw w c l (p + 1) m s) := by
  obtain ⟨r, n, st, f, h1, h2, h3, h4, h5, h6⟩ := h
  obtain ⟨a1, a2, a3, a4, a5, a6, a7, a8⟩ := id h3
  refine (m_X5_readSign l0 Γ h1 h2 h3 hlt).imp (fun rv V' hp => ?_)
  have e := h6 p a3 hlt
  have hf := h4 (st + p).toNat
  rw [e] at hp hf
  refine ⟨hp.1, hf.1, hf.2, ?_⟩
  rw [hp.2]
  have hb : zWb st c l (p + 1) m n := ⟨by omega, by omega, by omega, by omega, by omega, a6, by omega, a8⟩
  exact ⟨zWn.one h1 h2 htw hb h4 h5, zWg.one h1 h2 htw hb h4 h5 h6⟩
theorem e_atPlaceG (h : zWg Γ V tw w c l p m s) {k : Int} (hk : 0 ≤ k ∧ k < l) : zM l0 Γ 0 yX5_atPlace wsX5_atPlace 0 0 V [.ref w, .int (zI k)] (fun rv V' => rv = some (.int (zI (s k))) ∧ V' = V ∧ 0 ≤ s k ∧ s k ≤ 255) := by
  obtain ⟨r, n, st, f, h1, h2, h3, h4, h5, h6⟩ := h
  obtain ⟨a1, a2, a3, a4, a5, a6, a7, a8⟩ := id h3
  refine (m_X5_atPlace l0 Γ h1 h2 h3 (by omega)).imp (fun rv V' hp => ?_)
  have e := h6 k hk.1 hk.2
  have hf := h4 (st + k).toNat
  rw [if_pos hk, e] at hp
  rw [e] at hf
  exact ⟨hp.1, hp.2, hf.1, hf.2⟩
/-- a script whose row is known -/
def zSq (Γ : zGam) (V : zV) (tb b tg g n : Nat) (len : Int) (f : Nat → Int) : Prop := V b = some (tb, .inr (4, [.ref g, .int (zI len)])) ∧ V g = some (tg, za Γ.2.1 1 n f) ∧ zc f ∧ 0 ≤ len ∧ len ≤ n
theorem zSq.sc {Γ : zGam} {V : zV} {tb b tg g n : Nat} {len : Int} {f : Nat → Int} (h : zSq Γ V tb b tg g n len f) : zSc Γ V tb b tg g n len := ⟨f, h⟩
theorem zSc.sq {Γ : zGam} {V : zV} {tb b tg g n : Nat} {len : Int} (h : zSc Γ V tb b tg g n len) : ∃ f : Nat → Int, zSq Γ V tb b tg g n len f := h
theorem zSq.kept {Γ : zGam} {V V' : zV} {P : Nat → Prop} {tb b tg g n : Nat} {len : Int} {f : Nat → Int} (h : zSq Γ V tb b tg g n len f) (ha : zag P V V') (h1 : P tb) (h2 : P tg) : zSq Γ V' tb b tg g n len f := ⟨ha _ _ _ h.1 h1, ha _ _ _ h.2.1 h2, h.2.2⟩
theorem zSq.tx {Γ : zGam} {V : zV} {tb b tg g n : Nat} {len : Int} {f : Nat → Int} (h : zSq Γ V tb b tg g n len f) (hn : n ≤ 1000) : ∃ e e' : va_E, zTx Γ V b g len (fun k => f k.toNat) ∧ V b = some (tb, e) ∧ V g = some (tg, e') := by
  obtain ⟨h1, h2, h3, h4, h5⟩ := h
  exact ⟨_, _, Or.inr ⟨_, _, n, f, h1, h2, ⟨h4, h5, hn⟩, h3, rfl⟩, h1, h2⟩
theorem zSq.two {V : zV} {tb b tg g n : Nat} {len : Int} {f f' : Nat → Int} {e0 : va_E} (h1 : V b = some (tb, e0)) (h2 : V g = some (tg, za Γ.2.1 1 n f)) (hne : b ≠ g) (hc : zc f') (hl : 0 ≤ len ∧ len ≤ n) : zSq Γ (zu (zu V g tg (za Γ.2.1 1 n f')) b tb (.inr (4, [.ref g, .int (zI len)]))) tb b tg g n len f' :=
  ⟨zu_eq _ _ _ _, (zu_ne (Ne.symm hne)).trans (zu_eq _ _ _ _), hc, hl.1, hl.2⟩
variable {tb b tg g n : Nat} {len : Int} {f : Nat → Int}
theorem q_clear (h : zSq Γ V tb b tg g n len f) (ht : tb ≠ tg) : zM l0 Γ 0 yX2_clear wsX2_clear 0 0 V [.ref b] (fun rv V' => rv = none ∧ zSq Γ V' tb b tg g n 0 f ∧ zSs Γ V V' tb b tg g n 0) := by
  obtain ⟨h1, h2, h3, h4, h5⟩ := h
  refine (m_X2_clear l0 Γ h1).imp (fun rv V' hp => ⟨hp.1, ?_⟩)
  have hne := zne_tag h1 h2 ht
  have k := zSs.two (len := 0) h1 h2 hne h3 ⟨Int.le_refl _, by omega⟩
  have q := zSq.two Γ (len := 0) h1 h2 hne h3 ⟨Int.le_refl _, by omega⟩
  rw [zu_id h2] at k q
  rw [hp.2]
  exact ⟨q, k⟩
theorem q_add (h : zSq Γ V tb b tg g n len f) (ht : tb ≠ tg) (hn : n ≤ 1000) {x : Int} (hx : 0 ≤ x ∧ x ≤ 255) (hlt : len < n) : zM l0 Γ 0 yX2_add wsX2_add 0 0 V [.ref b, .int (zI x)] (fun rv V' => rv = none ∧ zSq Γ V' tb b tg g n (len + 1) (zf f len.toNat x) ∧ zSs Γ V V' tb b tg g n (len + 1)) := by
  obtain ⟨h1, h2, h3, h4, h5⟩ := h
  refine (m_X2_add l0 Γ h1 h2 ⟨h4, h5, hn⟩ hx hlt).imp (fun rv V' hp => ⟨hp.1, ?_⟩)
  rw [hp.2]
  have hne := zne_tag h1 h2 ht
  exact ⟨zSq.two Γ h1 h2 hne (zc_zf h3 hx) ⟨by omega, by omega⟩, zSs.two h1 h2 hne (zc_zf h3 hx) ⟨by omega, by omega⟩⟩
variable {r tr to2 : Nat} {k2 : Int} {h' : Int → Int} {e e' : va_E}
theorem q_append (h : zSq Γ V tb b tg g n len f) (ht : tb ≠ tg) (hn : n ≤ 1000) (hT : zTx Γ V o r k2 h') (ho : V o = some (to2, e)) (hr : V r = some (tr, e')) (hne : to2 ≠ tb ∧ to2 ≠ tg ∧ tr ≠ tb ∧ tr ≠ tg) (hm : len + k2 ≤ n) : zM l0 Γ 4 yX2_append wsX2_append 0 0 V [.ref b, .ref o] (fun rv V' => rv = none ∧ zSq Γ V' tb b tg g n (len + k2) (zap f len k2 h') ∧ zSs Γ V V' tb b tg g n (len + k2)) := by
  obtain ⟨h1, h2, h3, h4, h5⟩ := h
  have hg := hT.rg
  refine (m_X2_append l0 Γ h1 h2 ⟨h4, h5, hn⟩ hT (zne_tag ho h1 hne.1) (zne_tag ho h2 hne.2.1) (zne_tag hr h1 hne.2.2.1) (zne_tag hr h2 hne.2.2.2) hm h3).imp (fun rv V' hp => ?_)
  obtain ⟨e1, e2⟩ := hp
  rw [e2]
  have hn9 := zne_tag h1 h2 ht
  exact ⟨e1, zSq.two Γ h1 h2 hn9 (zap_zc h3 hg.2.2) ⟨by omega, hm⟩, zSs.two h1 h2 hn9 (zap_zc h3 hg.2.2) ⟨by omega, hm⟩⟩
theorem q_becomeText (h : zSq Γ V tb b tg g n len f) (ht : tb ≠ tg) (hn : n ≤ 1000) (hT : zTx Γ V o r k2 h') (ho : V o = some (to2, e)) (hr : V r = some (tr, e')) (hne : to2 ≠ tb ∧ to2 ≠ tg ∧ tr ≠ tb ∧ tr ≠ tg) (hm : k2 ≤ n) : zM l0 Γ 5 yX2_becomeText wsX2_becomeText 0 0 V [.ref b, .ref o] (fun rv V' => rv = none ∧ zSq Γ V' tb b tg g n k2 (zap f 0 k2 h') ∧ zSs Γ V V' tb b tg g n k2) := by
  obtain ⟨h1, h2, h3, h4, h5⟩ := h
  have hg := hT.rg
  refine (m_X2_becomeText l0 Γ h1 h2 ⟨h4, h5, hn⟩ hT (zne_tag ho h1 hne.1) (zne_tag ho h2 hne.2.1) (zne_tag hr h1 hne.2.2.1) (zne_tag hr h2 hne.2.2.2) hm h3).imp (fun rv V' hp => ?_)
  obtain ⟨e1, e2⟩ := hp
  rw [e2]
  have hn9 := zne_tag h1 h2 ht
  exact ⟨e1, zSq.two Γ h1 h2 hn9 (zap_zc h3 hg.2.2) ⟨hg.1, hm⟩, zSs.two h1 h2 hn9 (zap_zc h3 hg.2.2) ⟨hg.1, hm⟩⟩
end ZYG
/-- the first n signs of a row are those at the places from P on -/
def zdc (f : Nat → Int) (n : Int) (s : Int → Int) (P : Int) : Prop := ∀ j : Nat, (j : Int) < n → f j = s (P + (j : Int))
theorem zdc_0 {f : Nat → Int} {s : Int → Int} {P : Int} : zdc f 0 s P := fun j hj => absurd hj (by omega)
theorem zdc.add {f : Nat → Int} {n p P x : Int} {s : Int → Int} (h : zdc f n s P) (hn : 0 ≤ n) (hx : x = s p) (e : p = P + n) : zdc (zf f n.toNat x) (n + 1) s P := fun j hj => by
  unfold zf
  by_cases c : j = n.toNat
  · rw [if_pos c, hx, e]
    exact congrArg s (by omega)
  · rw [if_neg c]
    exact h j (by omega)
theorem zdc.app {f : Nat → Int} {n p P m : Int} {s h' : Int → Int} (h : zdc f n s P) (hn : 0 ≤ n) (hs : ∀ k : Int, 0 ≤ k → k < m → h' k = s (p + k)) (e : p = P + n) : zdc (zap f n m h') (n + m) s P := fun j hj => by
  unfold zap
  by_cases c : n ≤ (j : Int) ∧ (j : Int) < n + m
  · rw [if_pos c, hs _ (by omega) (by omega), e]
    exact congrArg s (by omega)
  · rw [if_neg c]
    exact h j (by omega)
