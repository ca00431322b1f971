/-! the model's state -/
def zr5 (a b c d e : Int) : Nat → Int := fun j => if j = 0 then a else if j = 1 then b else if j = 2 then c else if j = 3 then d else if j = 4 then e else 0
theorem zr5_2 {a b c d e x : Int} : zf (zr5 a b c d e) 2 x = zr5 a b x d e := by
  funext j
  unfold zf zr5
  by_cases h : j = 2
  · simp [h]
  · simp [h]
theorem zr5_3 {a b c d e x : Int} : zf (zr5 a b c d e) 3 x = zr5 a b c x e := by
  funext j
  unfold zf zr5
  by_cases h : j = 3
  · simp [h]
  · simp [h]
theorem zr5_4 {a b c d e x : Int} : zf (zr5 a b c d e) 4 x = zr5 a b c d x := by
  funext j
  unfold zf zr5
  by_cases h : j = 4
  · simp [h]
  · simp [h]
theorem zr5_new {a b c d e : Int} : zf (zf (zf (zf (zf (fun _ => 0) 0 a) 1 b) 2 c) 3 d) 4 e = zr5 a b c d e := by
  funext j
  unfold zf zr5
  by_cases h4 : j = 4
  · simp [h4]
  · by_cases h3 : j = 3
    · simp [h3]
    · by_cases h2 : j = 2
      · simp [h2]
      · by_cases h1 : j = 1
        · simp [h1]
        · by_cases h0 : j = 0
          · simp [h0]
          · simp [h0, h1, h2, h3, h4]
def zmu (md : Nat → Nat) (k q : Nat) : Nat → Nat := fun t => if t = k then q else md t
theorem zmu_eq {md : Nat → Nat} {k q : Nat} : zmu md k q k = q := if_pos rfl
theorem zmu_ne {md : Nat → Nat} {k q t : Nat} (h : t ≠ k) : zmu md k q t = md t := if_neg h
/-- a row of ints of the model -/
def zAr (Γ : zGam) (V : zV) (tag a n : Nat) : Prop := ∃ f : Nat → Int, V a = some (tag, za Γ.2.1 0 n f) ∧ zc f
theorem zAr.kept {Γ : zGam} {V V' : zV} {Q : Nat → Prop} {tag a n : Nat} (h : zAr Γ V tag a n) (ha : zag Q V V') (hq : Q tag) : zAr Γ V' tag a n := by
  obtain ⟨f, h1, h2⟩ := h
  exact ⟨f, ha _ _ _ h1 hq, h2⟩
def zMc (c md : Nat → Nat) (en sz i o th : Int) : va_E := .inr (9, [.ref (md 61), .int (zI en), .ref (c 62), .ref (md 63), .ref (md 64), .ref (c 65), .int (zI sz), .int (zI i), .int (zI o), .ref (c 66), .int (zI th)])
/-- a window of the model -/
def zWm (Γ : zGam) (V : zV) (tag w : Nat) (en c l p m st mk : Int) : Prop := V w = some (tag, za Γ.2.1 0 5 (zr5 st c l p mk)) ∧ 0 ≤ st ∧ st + c ≤ en ∧ 0 ≤ p ∧ p ≤ l ∧ l ≤ c ∧ c ≤ 40 ∧ ((m = -9 ∧ mk = -1) ∨ (m = mk ∧ 0 ≤ mk)) ∧ m ≤ p
theorem zWm.kept {Γ : zGam} {V V' : zV} {Q : Nat → Prop} {tag w : Nat} {en c l p m st mk : Int} (h : zWm Γ V tag w en c l p m st mk) (ha : zag Q V V') (hq : Q tag) : zWm Γ V' tag w en c l p m st mk := ⟨ha _ _ _ h.1 hq, h.2⟩
theorem zWm.more {Γ : zGam} {V : zV} {tag w : Nat} {en en' c l p m st mk : Int} (h : zWm Γ V tag w en c l p m st mk) (he : en ≤ en') : zWm Γ V tag w en' c l p m st mk := ⟨h.1, h.2.1, by have := h.2.2.1; omega, h.2.2.2⟩
def zTm (V : zV) (c md : Nat → Nat) (τ κ : Nat → Int) : Prop := V (c 60) = some (60, zMc c md (κ 0) (τ 26) (τ 28) (τ 29) (τ 36))
def zTi (Γ : zGam) (V : zV) (c md : Nat → Nat) : Prop := V (c 62) = some (62, zq Γ.2.1 4 6 (fun i => some (md (70 + i))))
def zTw (Γ : zGam) (V : zV) (md : Nat → Nat) (τ κ : Nat → Int) : Prop := ∀ i, i < 6 → zWm Γ V (70 + i) (md (70 + i)) (κ 0) (τ (4 * i)) (τ (4 * i + 1)) (τ (4 * i + 2)) (τ (4 * i + 3)) (κ (10 + i)) (κ (20 + i))
def zTl (Γ : zGam) (V : zV) (a : Nat) (τ : Nat → Int) : Prop := ∃ f : Nat → Int, V a = some (66, za Γ.2.1 0 4 f) ∧ f 0 = τ 30 ∧ f 1 = τ 31 ∧ f 2 = τ 32 ∧ f 3 = τ 33
def zTn (τ κ : Nat → Int) (E : Int) : Prop := (0 ≤ κ 0 ∧ κ 0 ≤ κ 1 ∧ κ 0 ≤ E ∧ κ 1 ≤ 7000) ∧ (0 ≤ τ 24 ∧ τ 24 ≤ 80 ∧ 0 ≤ τ 25 ∧ τ 25 ≤ 80) ∧ 1 ≤ τ 26 ∧ τ 26 ≤ 8 ∧ 0 ≤ τ 29 ∧ τ 29 ≤ τ 28 ∧ τ 28 ≤ 160 ∧ τ 27 ≤ τ 26 ∧ τ 27 = τ 28 - τ 29
def zMo (Γ : zGam) (V : zV) (c md : Nat → Nat) (τ κ : Nat → Int) (E : Int) : Prop := zTm V c md τ κ ∧ zAr Γ V 61 (md 61) (κ 1).toNat ∧ zTi Γ V c md ∧ zTw Γ V md τ κ ∧ zAr Γ V 63 (md 63) (τ 24).toNat ∧ zAr Γ V 64 (md 64) (τ 25).toNat ∧ zAr Γ V 65 (c 65) 160 ∧ zTl Γ V (c 66) τ ∧ zTn τ κ E
theorem zTl.kept {Γ : zGam} {V V' : zV} {Q : Nat → Prop} {a : Nat} {τ : Nat → Int} (h : zTl Γ V a τ) (ha : zag Q V V') (hq : Q 66) : zTl Γ V' a τ := by
  obtain ⟨f, h1, h2⟩ := h
  exact ⟨f, ha _ _ _ h1 hq, h2⟩
theorem zMo.kept {Γ : zGam} {V V' : zV} {c md : Nat → Nat} {τ κ : Nat → Int} {E : Int} {Q : Nat → Prop} (h : zMo Γ V c md τ κ E) (ha : zag Q V V') (hq : ∀ t, 60 ≤ t → t ≤ 75 → Q t) : zMo Γ V' c md τ κ E := by
  obtain ⟨h1, h2, h3, h4, h5, h6, h7, h8, h9⟩ := h
  exact ⟨ha _ _ _ h1 (hq _ (by first | with_reducible assumption | decide | omega) (by first | with_reducible assumption | decide | omega)), h2.kept ha (hq _ (by first | with_reducible assumption | decide | omega) (by first | with_reducible assumption | decide | omega)), ha _ _ _ h3 (hq _ (by first | with_reducible assumption | decide | omega) (by first | with_reducible assumption | decide | omega)), fun i hi => (h4 i hi).kept ha (hq _ (by first | with_reducible assumption | decide | omega) (by first | with_reducible assumption | decide | omega)), h5.kept ha (hq _ (by first | with_reducible assumption | decide | omega) (by first | with_reducible assumption | decide | omega)), h6.kept ha (hq _ (by first | with_reducible assumption | decide | omega) (by first | with_reducible assumption | decide | omega)), h7.kept ha (hq _ (by first | with_reducible assumption | decide | omega) (by first | with_reducible assumption | decide | omega)), h8.kept ha (hq _ (by first | with_reducible assumption | decide | omega) (by first | with_reducible assumption | decide | omega)), h9⟩
theorem zMo.w {Γ : zGam} {V : zV} {c md : Nat → Nat} {τ κ : Nat → Int} {E : Int} (h : zMo Γ V c md τ κ E) {i : Nat} (hi : i < 6) : zWm Γ V (70 + i) (md (70 + i)) (κ 0) (τ (4 * i)) (τ (4 * i + 1)) (τ (4 * i + 2)) (τ (4 * i + 3)) (κ (10 + i)) (κ (20 + i)) := h.2.2.2.1 i hi
theorem zMo.n {Γ : zGam} {V : zV} {c md : Nat → Nat} {τ κ : Nat → Int} {E : Int} (h : zMo Γ V c md τ κ E) : zTn τ κ E := h.2.2.2.2.2.2.2.2
theorem zMo.le {Γ : zGam} {V : zV} {c md : Nat → Nat} {τ κ : Nat → Int} {E E' : Int} (h : zMo Γ V c md τ κ E) (he : E ≤ E') : zMo Γ V c md τ κ E' := by
  obtain ⟨h1, h2, h3, h4, h5, h6, h7, h8, ⟨h9, h10, h11, h12⟩, h13⟩ := h
  exact ⟨h1, h2, h3, h4, h5, h6, h7, h8, ⟨h9, h10, by omega, h12⟩, h13⟩
/-- the pipe's numbers and the thrown one -/
def zmf (τ : Nat → Int) (sz i o th : Int) : Nat → Int := fun j => if j = 26 then sz else if j = 27 then i - o else if j = 28 then i else if j = 29 then o else if j = 36 then th else τ j
theorem zmf_ne {τ : Nat → Int} {sz i o th : Int} {j : Nat} (h : ¬ (26 ≤ j ∧ j ≤ 29) ∧ j ≠ 36) : zmf τ sz i o th j = τ j := by
  unfold zmf
  rw [if_neg (by first | with_reducible assumption | decide | omega), if_neg (by first | with_reducible assumption | decide | omega), if_neg (by first | with_reducible assumption | decide | omega), if_neg (by first | with_reducible assumption | decide | omega), if_neg (by first | with_reducible assumption | decide | omega)]
theorem zag.one {V : zV} {a t : Nat} {e e' : va_E} (h : V a = some (t, e)) : zag (fun x => x ≠ t) V (zu V a t e') := zag.rf.set h (fun q => q rfl)
section ZTS
variable {Γ : zGam} {V : zV} {c md : Nat → Nat} {τ κ : Nat → Int} {E : Int}
theorem zMo.setM (h : zMo Γ V c md τ κ E) (sz i o th : Int) (hn : 1 ≤ sz ∧ sz ≤ 8 ∧ 0 ≤ o ∧ o ≤ i ∧ i ≤ 160 ∧ i - o ≤ sz) : zMo Γ (zu V (c 60) 60 (zMc c md (κ 0) sz i o th)) c md (zmf τ sz i o th) κ E ∧ zag (fun x => x ≠ 60) V (zu V (c 60) 60 (zMc c md (κ 0) sz i o th)) := by
  obtain ⟨h1, h2, h3, h4, h5, h6, h7, ⟨f, h8, k0, k1, k2, k3⟩, n1, n2, n3⟩ := h
  have ha := zag.one (e' := zMc c md (κ 0) sz i o th) h1
  refine ⟨⟨zu_eq _ _ _ _, h2.kept ha (by decide), ha _ _ _ h3 (by decide), fun i hi => ?_, h5.kept ha (by decide), h6.kept ha (by decide), h7.kept ha (by decide), ⟨f, ha _ _ _ h8 (by decide), k0, k1, k2, k3⟩, n1, n2, ?_⟩, ha⟩
  · have k := (h4 i hi).kept ha (by first | with_reducible assumption | decide | omega)
    rw [zmf_ne (by first | with_reducible assumption | decide | omega), zmf_ne (by first | with_reducible assumption | decide | omega), zmf_ne (by first | with_reducible assumption | decide | omega), zmf_ne (by first | with_reducible assumption | decide | omega)]
    exact k
  · exact ⟨hn.1, hn.2.1, hn.2.2.1, hn.2.2.2.1, hn.2.2.2.2.1, hn.2.2.2.2.2, rfl⟩
theorem zMo.setTal (h : zMo Γ V c md τ κ E) {f : Nat → Int} (hf : V (c 66) = some (66, za Γ.2.1 0 4 f)) (hv : f 0 = τ 30 ∧ f 1 = τ 31 ∧ f 2 = τ 32 ∧ f 3 = τ 33) (k : Nat) (hk : k < 4) (x : Int) : zMo Γ (zu V (c 66) 66 (za Γ.2.1 0 4 (zf f k x))) c md (zf τ (30 + k) x) κ E ∧ zag (fun x => x ≠ 66) V (zu V (c 66) 66 (za Γ.2.1 0 4 (zf f k x))) := by
  obtain ⟨h1, h2, h3, h4, h5, h6, h7, -, n1, n2, n3⟩ := h
  have ha := zag.one (e' := za Γ.2.1 0 4 (zf f k x)) hf
  have e : ∀ j, (j < 30 ∨ 34 ≤ j) → zf τ (30 + k) x j = τ j := fun j hj => zf_ne (by first | with_reducible assumption | decide | omega)
  refine ⟨⟨?_, h2.kept ha (by decide), ha _ _ _ h3 (by decide), fun i hi => ?_, ?_, ?_, h7.kept ha (by decide), ⟨_, zu_eq _ _ _ _, ?_⟩, n1, ?_, ?_⟩, ha⟩
  · unfold zTm
    rw [e 26 (by first | with_reducible assumption | decide | omega), e 28 (by first | with_reducible assumption | decide | omega), e 29 (by first | with_reducible assumption | decide | omega), e 36 (by first | with_reducible assumption | decide | omega)]
    exact ha _ _ _ h1 (by decide)
  · have q := (h4 i hi).kept ha (by first | with_reducible assumption | decide | omega)
    rw [e _ (by first | with_reducible assumption | decide | omega), e _ (by first | with_reducible assumption | decide | omega), e _ (by first | with_reducible assumption | decide | omega), e _ (by first | with_reducible assumption | decide | omega)]
    exact q
  · rw [e 24 (by first | with_reducible assumption | decide | omega)]
    exact h5.kept ha (by decide)
  · rw [e 25 (by first | with_reducible assumption | decide | omega)]
    exact h6.kept ha (by decide)
  · obtain ⟨v0, v1, v2, v3⟩ := hv
    rcases (by omega : k = 0 ∨ k = 1 ∨ k = 2 ∨ k = 3) with rfl | rfl | rfl | rfl
    · exact ⟨rfl, v1, v2, v3⟩
    · exact ⟨v0, rfl, v2, v3⟩
    · exact ⟨v0, v1, rfl, v3⟩
    · exact ⟨v0, v1, v2, rfl⟩
  · rw [e 24 (by first | with_reducible assumption | decide | omega), e 25 (by first | with_reducible assumption | decide | omega)]
    exact n2
  · rw [e 26 (by first | with_reducible assumption | decide | omega), e 27 (by first | with_reducible assumption | decide | omega), e 28 (by first | with_reducible assumption | decide | omega), e 29 (by first | with_reducible assumption | decide | omega)]
    exact n3
theorem zMo.setTape (h : zMo Γ V c md τ κ E) {f : Nat → Int} (hf : zc f) : zMo Γ (zu V (md 61) 61 (za Γ.2.1 0 (κ 1).toNat f)) c md τ κ E ∧ zag (fun x => x ≠ 61) V (zu V (md 61) 61 (za Γ.2.1 0 (κ 1).toNat f)) := by
  obtain ⟨h1, ⟨f0, h2, -⟩, h3, h4, h5, h6, h7, h8, h9⟩ := h
  have ha := zag.one (e' := za Γ.2.1 0 (κ 1).toNat f) h2
  exact ⟨⟨ha _ _ _ h1 (by decide), ⟨f, zu_eq _ _ _ _, hf⟩, ha _ _ _ h3 (by decide), fun i hi => (h4 i hi).kept ha (by first | with_reducible assumption | decide | omega), h5.kept ha (by decide), h6.kept ha (by decide), h7.kept ha (by decide), h8.kept ha (by decide), h9⟩, ha⟩
theorem zMo.setSent (h : zMo Γ V c md τ κ E) {f : Nat → Int} (hf : zc f) : zMo Γ (zu V (c 65) 65 (za Γ.2.1 0 160 f)) c md τ κ E ∧ zag (fun x => x ≠ 65) V (zu V (c 65) 65 (za Γ.2.1 0 160 f)) := by
  obtain ⟨h1, h2, h3, h4, h5, h6, ⟨f0, h7, -⟩, h8, h9⟩ := h
  have ha := zag.one (e' := za Γ.2.1 0 160 f) h7
  exact ⟨⟨ha _ _ _ h1 (by decide), h2.kept ha (by decide), ha _ _ _ h3 (by decide), fun i hi => (h4 i hi).kept ha (by first | with_reducible assumption | decide | omega), h5.kept ha (by decide), h6.kept ha (by decide), ⟨f, zu_eq _ _ _ _, hf⟩, h8.kept ha (by decide), h9⟩, ha⟩
theorem zMo.setBuilt (h : zMo Γ V c md τ κ E) {f : Nat → Int} (hf : zc f) : zMo Γ (zu V (md 63) 63 (za Γ.2.1 0 (τ 24).toNat f)) c md τ κ E ∧ zag (fun x => x ≠ 63) V (zu V (md 63) 63 (za Γ.2.1 0 (τ 24).toNat f)) := by
  obtain ⟨h1, h2, h3, h4, ⟨f0, h5, -⟩, h6, h7, h8, h9⟩ := h
  have ha := zag.one (e' := za Γ.2.1 0 (τ 24).toNat f) h5
  exact ⟨⟨ha _ _ _ h1 (by decide), h2.kept ha (by decide), ha _ _ _ h3 (by decide), fun i hi => (h4 i hi).kept ha (by first | with_reducible assumption | decide | omega), ⟨f, zu_eq _ _ _ _, hf⟩, h6.kept ha (by decide), h7.kept ha (by decide), h8.kept ha (by decide), h9⟩, ha⟩
theorem zMo.setW (h : zMo Γ V c md τ κ E) {i : Nat} (hi : i < 6) (l p m mk : Int) (hn : 0 ≤ p ∧ p ≤ l ∧ l ≤ τ (4 * i) ∧ ((m = -9 ∧ mk = -1) ∨ (m = mk ∧ 0 ≤ mk)) ∧ m ≤ p) : zMo Γ (zu V (md (70 + i)) (70 + i) (za Γ.2.1 0 5 (zr5 (κ (10 + i)) (τ (4 * i)) l p mk))) c md (zw4 τ i (τ (4 * i)) l p m) (zf κ (20 + i) mk) E ∧ zag (fun x => x ≠ 70 + i) V (zu V (md (70 + i)) (70 + i) (za Γ.2.1 0 5 (zr5 (κ (10 + i)) (τ (4 * i)) l p mk))) := by
  obtain ⟨h1, h2, h3, h4, h5, h6, h7, h8, n1, n2, n3⟩ := h
  have hw := h4 i hi
  have ha := zag.one (e' := za Γ.2.1 0 5 (zr5 (κ (10 + i)) (τ (4 * i)) l p mk)) hw.1
  have e : ∀ j, 24 ≤ j → zw4 τ i (τ (4 * i)) l p m j = τ j := fun j hj => by
    unfold zw4
    rw [if_neg (by first | with_reducible assumption | decide | omega), if_neg (by first | with_reducible assumption | decide | omega), if_neg (by first | with_reducible assumption | decide | omega), if_neg (by first | with_reducible assumption | decide | omega)]
  have ek : ∀ j, j < 20 → zf κ (20 + i) mk j = κ j := fun j hj => zf_ne (by first | with_reducible assumption | decide | omega)
  refine ⟨⟨?_, ?_, ha _ _ _ h3 (by first | with_reducible assumption | decide | omega), fun j hj => ?_, ?_, ?_, h7.kept ha (by first | with_reducible assumption | decide | omega), ?_, ?_, ?_, ?_⟩, ha⟩
  · unfold zTm
    rw [e 26 (by first | with_reducible assumption | decide | omega), e 28 (by first | with_reducible assumption | decide | omega), e 29 (by first | with_reducible assumption | decide | omega), e 36 (by first | with_reducible assumption | decide | omega), ek 0 (by first | with_reducible assumption | decide | omega)]
    exact ha _ _ _ h1 (by first | with_reducible assumption | decide | omega)
  · rw [ek 1 (by first | with_reducible assumption | decide | omega)]
    exact h2.kept ha (by first | with_reducible assumption | decide | omega)
  · by_cases hj2 : j = i
    · subst hj2
      rw [zw4_0, zw4_1, zw4_2, zw4_3, ek 0 (by first | with_reducible assumption | decide | omega), ek _ (by first | with_reducible assumption | decide | omega), zf_eq]
      exact ⟨zu_eq _ _ _ _, hw.2.1, hw.2.2.1, hn.1, hn.2.1, hn.2.2.1, hw.2.2.2.2.2.2.1, hn.2.2.2⟩
    · rw [zw4_ne0 hj2, zw4_ne hj2 (by first | with_reducible assumption | decide | omega), zw4_ne hj2 (by first | with_reducible assumption | decide | omega), zw4_ne hj2 (by first | with_reducible assumption | decide | omega), ek 0 (by first | with_reducible assumption | decide | omega), ek _ (by first | with_reducible assumption | decide | omega), zf_ne (by first | with_reducible assumption | decide | omega)]
      exact (h4 j hj).kept ha (by first | with_reducible assumption | decide | omega)
  · rw [e 24 (by first | with_reducible assumption | decide | omega)]
    exact h5.kept ha (by first | with_reducible assumption | decide | omega)
  · rw [e 25 (by first | with_reducible assumption | decide | omega)]
    exact h6.kept ha (by first | with_reducible assumption | decide | omega)
  · obtain ⟨f, k, k0, k1, k2, k3⟩ := h8
    exact ⟨f, ha _ _ _ k (by first | with_reducible assumption | decide | omega), by rw [e 30 (by first | with_reducible assumption | decide | omega)]; exact k0, by rw [e 31 (by first | with_reducible assumption | decide | omega)]; exact k1, by rw [e 32 (by first | with_reducible assumption | decide | omega)]; exact k2, by rw [e 33 (by first | with_reducible assumption | decide | omega)]; exact k3⟩
  · rw [ek 0 (by first | with_reducible assumption | decide | omega), ek 1 (by first | with_reducible assumption | decide | omega)]
    exact n1
  · rw [e 24 (by first | with_reducible assumption | decide | omega), e 25 (by first | with_reducible assumption | decide | omega)]
    exact n2
  · rw [e 26 (by first | with_reducible assumption | decide | omega), e 27 (by first | with_reducible assumption | decide | omega), e 28 (by first | with_reducible assumption | decide | omega), e 29 (by first | with_reducible assumption | decide | omega)]
    exact n3
theorem zMo.newB (h : zMo Γ V c md τ κ E) {q n : Nat} (hq : zAr Γ V 63 q n) (hn : n ≤ 80) : zMo Γ (zu V (c 60) 60 (zMc c (zmu md 63 q) (κ 0) (τ 26) (τ 28) (τ 29) (τ 36))) c (zmu md 63 q) (zf τ 24 n) κ E ∧ zag (fun x => x ≠ 60) V (zu V (c 60) 60 (zMc c (zmu md 63 q) (κ 0) (τ 26) (τ 28) (τ 29) (τ 36))) := by
  obtain ⟨h1, h2, h3, h4, h5, h6, h7, h8, n1, n2, n3⟩ := h
  have ha := zag.one (e' := zMc c (zmu md 63 q) (κ 0) (τ 26) (τ 28) (τ 29) (τ 36)) h1
  have e : ∀ j, j ≠ 24 → zf τ 24 n j = τ j := fun j hj => zf_ne hj
  refine ⟨⟨?_, h2.kept ha (by decide), ?_, fun i hi => ?_, ?_, ?_, h7.kept ha (by decide), ?_, n1, ?_, ?_⟩, ha⟩
  · unfold zTm
    rw [e 26 (by first | with_reducible assumption | decide | omega), e 28 (by first | with_reducible assumption | decide | omega), e 29 (by first | with_reducible assumption | decide | omega), e 36 (by first | with_reducible assumption | decide | omega)]
    exact zu_eq _ _ _ _
  · have e2 : (fun i => some (zmu md 63 q (70 + i))) = (fun i => some (md (70 + i))) := funext fun i => by rw [zmu_ne (by first | with_reducible assumption | decide | omega)]
    unfold zTi
    rw [e2]
    exact ha _ _ _ h3 (by decide)
  · have k := (h4 i hi).kept ha (by first | with_reducible assumption | decide | omega)
    rw [e _ (by first | with_reducible assumption | decide | omega), e _ (by first | with_reducible assumption | decide | omega), e _ (by first | with_reducible assumption | decide | omega), e _ (by first | with_reducible assumption | decide | omega), zmu_ne (by first | with_reducible assumption | decide | omega)]
    exact k
  · rw [zf_eq, Int.toNat_natCast]
    exact hq.kept ha (by decide)
  · rw [e 25 (by first | with_reducible assumption | decide | omega)]
    exact h6.kept ha (by decide)
  · obtain ⟨f, k, k0, k1, k2, k3⟩ := h8
    exact ⟨f, ha _ _ _ k (by decide), by rw [e 30 (by first | with_reducible assumption | decide | omega)]; exact k0, by rw [e 31 (by first | with_reducible assumption | decide | omega)]; exact k1, by rw [e 32 (by first | with_reducible assumption | decide | omega)]; exact k2, by rw [e 33 (by first | with_reducible assumption | decide | omega)]; exact k3⟩
  · rw [zf_eq, e 25 (by first | with_reducible assumption | decide | omega)]
    omega
  · rw [e 26 (by first | with_reducible assumption | decide | omega), e 27 (by first | with_reducible assumption | decide | omega), e 28 (by first | with_reducible assumption | decide | omega), e 29 (by first | with_reducible assumption | decide | omega)]
    exact n3
theorem zMo.newK (h : zMo Γ V c md τ κ E) {q n : Nat} (hq : zAr Γ V 64 q n) (hn : n ≤ 80) : zMo Γ (zu V (c 60) 60 (zMc c (zmu md 64 q) (κ 0) (τ 26) (τ 28) (τ 29) (τ 36))) c (zmu md 64 q) (zf τ 25 n) κ E ∧ zag (fun x => x ≠ 60) V (zu V (c 60) 60 (zMc c (zmu md 64 q) (κ 0) (τ 26) (τ 28) (τ 29) (τ 36))) := by
  obtain ⟨h1, h2, h3, h4, h5, h6, h7, h8, n1, n2, n3⟩ := h
  have ha := zag.one (e' := zMc c (zmu md 64 q) (κ 0) (τ 26) (τ 28) (τ 29) (τ 36)) h1
  have e : ∀ j, j ≠ 25 → zf τ 25 n j = τ j := fun j hj => zf_ne hj
  refine ⟨⟨?_, h2.kept ha (by decide), ?_, fun i hi => ?_, ?_, ?_, h7.kept ha (by decide), ?_, n1, ?_, ?_⟩, ha⟩
  · unfold zTm
    rw [e 26 (by first | with_reducible assumption | decide | omega), e 28 (by first | with_reducible assumption | decide | omega), e 29 (by first | with_reducible assumption | decide | omega), e 36 (by first | with_reducible assumption | decide | omega)]
    exact zu_eq _ _ _ _
  · have e2 : (fun i => some (zmu md 64 q (70 + i))) = (fun i => some (md (70 + i))) := funext fun i => by rw [zmu_ne (by first | with_reducible assumption | decide | omega)]
    unfold zTi
    rw [e2]
    exact ha _ _ _ h3 (by decide)
  · have k := (h4 i hi).kept ha (by first | with_reducible assumption | decide | omega)
    rw [e _ (by first | with_reducible assumption | decide | omega), e _ (by first | with_reducible assumption | decide | omega), e _ (by first | with_reducible assumption | decide | omega), e _ (by first | with_reducible assumption | decide | omega), zmu_ne (by first | with_reducible assumption | decide | omega)]
    exact k
  · rw [e 24 (by first | with_reducible assumption | decide | omega)]
    exact h5.kept ha (by decide)
  · rw [zf_eq, Int.toNat_natCast]
    exact hq.kept ha (by decide)
  · obtain ⟨f, k, k0, k1, k2, k3⟩ := h8
    exact ⟨f, ha _ _ _ k (by decide), by rw [e 30 (by first | with_reducible assumption | decide | omega)]; exact k0, by rw [e 31 (by first | with_reducible assumption | decide | omega)]; exact k1, by rw [e 32 (by first | with_reducible assumption | decide | omega)]; exact k2, by rw [e 33 (by first | with_reducible assumption | decide | omega)]; exact k3⟩
  · rw [zf_eq, e 24 (by first | with_reducible assumption | decide | omega)]
    omega
  · rw [e 26 (by first | with_reducible assumption | decide | omega), e 27 (by first | with_reducible assumption | decide | omega), e 28 (by first | with_reducible assumption | decide | omega), e 29 (by first | with_reducible assumption | decide | omega)]
    exact n3
/-- a window's row is another one -/
theorem zMo.newW (h : zMo Γ V c md τ κ E) {i q : Nat} (hi : i < 6) {cp l p m st mk : Int} (hq : zWm Γ V (70 + i) q (κ 0) cp l p m st mk) : zMo Γ (zu V (c 62) 62 (zq Γ.2.1 4 6 (zg (fun j => some (md (70 + j))) i q))) c (zmu md (70 + i) q) (zw4 τ i cp l p m) (zf (zf κ (10 + i) st) (20 + i) mk) E ∧ zag (fun x => x ≠ 62) V (zu V (c 62) 62 (zq Γ.2.1 4 6 (zg (fun j => some (md (70 + j))) i q))) := by
  obtain ⟨h1, h2, h3, h4, h5, h6, h7, h8, n1, n2, n3⟩ := h
  have ha := zag.one (e' := zq Γ.2.1 4 6 (zg (fun j => some (md (70 + j))) i q)) h3
  have e : ∀ j, 24 ≤ j → zw4 τ i cp l p m j = τ j := fun j hj => by
    unfold zw4
    rw [if_neg (by first | with_reducible assumption | decide | omega), if_neg (by first | with_reducible assumption | decide | omega), if_neg (by first | with_reducible assumption | decide | omega), if_neg (by first | with_reducible assumption | decide | omega)]
  have ek : ∀ j, j < 10 → zf (zf κ (10 + i) st) (20 + i) mk j = κ j := fun j hj => by rw [zf_ne (by first | with_reducible assumption | decide | omega), zf_ne (by first | with_reducible assumption | decide | omega)]
  refine ⟨⟨?_, ?_, ?_, fun j hj => ?_, ?_, ?_, h7.kept ha (by decide), ?_, ?_, ?_, ?_⟩, ha⟩
  · unfold zTm zMc
    rw [e 26 (by first | with_reducible assumption | decide | omega), e 28 (by first | with_reducible assumption | decide | omega), e 29 (by first | with_reducible assumption | decide | omega), e 36 (by first | with_reducible assumption | decide | omega), ek 0 (by first | with_reducible assumption | decide | omega), zmu_ne (by first | with_reducible assumption | decide | omega), zmu_ne (by first | with_reducible assumption | decide | omega), zmu_ne (by first | with_reducible assumption | decide | omega)]
    exact ha _ _ _ h1 (by decide)
  · rw [ek 1 (by first | with_reducible assumption | decide | omega), zmu_ne (by first | with_reducible assumption | decide | omega)]
    exact h2.kept ha (by decide)
  · have e2 : (fun j => some (zmu md (70 + i) q (70 + j))) = zg (fun j => some (md (70 + j))) i q := funext fun j => by
      unfold zg
      by_cases hj : j = i
      · rw [if_pos hj, hj, zmu_eq]
      · rw [if_neg hj, zmu_ne (by first | with_reducible assumption | decide | omega)]
    unfold zTi
    rw [e2]
    exact zu_eq _ _ _ _
  · by_cases hj2 : j = i
    · subst hj2
      rw [zw4_0, zw4_1, zw4_2, zw4_3, ek 0 (by first | with_reducible assumption | decide | omega), zmu_eq, zf_eq, zf_ne (by first | with_reducible assumption | decide | omega), zf_eq]
      exact hq.kept ha (by first | with_reducible assumption | decide | omega)
    · rw [zw4_ne0 hj2, zw4_ne hj2 (by first | with_reducible assumption | decide | omega), zw4_ne hj2 (by first | with_reducible assumption | decide | omega), zw4_ne hj2 (by first | with_reducible assumption | decide | omega), ek 0 (by first | with_reducible assumption | decide | omega), zmu_ne (by first | with_reducible assumption | decide | omega), zf_ne (by first | with_reducible assumption | decide | omega), zf_ne (by first | with_reducible assumption | decide | omega), zf_ne (by first | with_reducible assumption | decide | omega), zf_ne (by first | with_reducible assumption | decide | omega)]
      exact (h4 j hj).kept ha (by first | with_reducible assumption | decide | omega)
  · rw [e 24 (by first | with_reducible assumption | decide | omega), zmu_ne (by first | with_reducible assumption | decide | omega)]
    exact h5.kept ha (by decide)
  · rw [e 25 (by first | with_reducible assumption | decide | omega), zmu_ne (by first | with_reducible assumption | decide | omega)]
    exact h6.kept ha (by decide)
  · obtain ⟨f, k, k0, k1, k2, k3⟩ := h8
    exact ⟨f, ha _ _ _ k (by decide), by rw [e 30 (by first | with_reducible assumption | decide | omega)]; exact k0, by rw [e 31 (by first | with_reducible assumption | decide | omega)]; exact k1, by rw [e 32 (by first | with_reducible assumption | decide | omega)]; exact k2, by rw [e 33 (by first | with_reducible assumption | decide | omega)]; exact k3⟩
  · rw [ek 0 (by first | with_reducible assumption | decide | omega), ek 1 (by first | with_reducible assumption | decide | omega)]
    exact n1
  · rw [e 24 (by first | with_reducible assumption | decide | omega), e 25 (by first | with_reducible assumption | decide | omega)]
    exact n2
  · rw [e 26 (by first | with_reducible assumption | decide | omega), e 27 (by first | with_reducible assumption | decide | omega), e 28 (by first | with_reducible assumption | decide | omega), e 29 (by first | with_reducible assumption | decide | omega)]
    exact n3
/-- the end moves, the tape may be another one -/
theorem zMo.grow (h : zMo Γ V c md τ κ E) {q n : Nat} {en E' : Int} (hq : zAr Γ V 61 q n) (hn : κ 0 ≤ en ∧ en ≤ n ∧ en ≤ E' ∧ n ≤ 7000) : zMo Γ (zu V (c 60) 60 (zMc c (zmu md 61 q) en (τ 26) (τ 28) (τ 29) (τ 36))) c (zmu md 61 q) τ (zf (zf κ 0 en) 1 n) E' ∧ zag (fun x => x ≠ 60) V (zu V (c 60) 60 (zMc c (zmu md 61 q) en (τ 26) (τ 28) (τ 29) (τ 36))) := by
  obtain ⟨h1, h2, h3, h4, h5, h6, h7, h8, n1, n2, n3⟩ := h
  have ha := zag.one (e' := zMc c (zmu md 61 q) en (τ 26) (τ 28) (τ 29) (τ 36)) h1
  have e1 : zf (zf κ 0 en) 1 n 1 = (n : Int) := zf_eq
  have e0 : zf (zf κ 0 en) 1 n 0 = en := rfl
  refine ⟨⟨zu_eq _ _ _ _, ?_, ?_, fun i hi => ?_, h5.kept ha (by decide), h6.kept ha (by decide), h7.kept ha (by decide), h8.kept ha (by decide), ?_, n2, n3⟩, ha⟩
  · rw [e1, Int.toNat_natCast]
    exact hq.kept ha (by decide)
  · have e2 : (fun i => some (zmu md 61 q (70 + i))) = (fun i => some (md (70 + i))) := funext fun i => by rw [zmu_ne (by first | with_reducible assumption | decide | omega)]
    unfold zTi
    rw [e2]
    exact ha _ _ _ h3 (by decide)
  · have k := ((h4 i hi).kept ha (by first | with_reducible assumption | decide | omega)).more hn.1
    rw [zmu_ne (by first | with_reducible assumption | decide | omega), e0, zf_ne (by first | with_reducible assumption | decide | omega), zf_ne (by first | with_reducible assumption | decide | omega), zf_ne (by first | with_reducible assumption | decide | omega), zf_ne (by first | with_reducible assumption | decide | omega)]
    exact k
  · rw [e1, e0]
    omega
end ZTS
theorem zr_copyw {C : zC} {l0 : Launch} {Γ0 : zGam} {n0 : Nat} {own : String} {cc : ByteArray} {ws : List Cond} {d : Nat} {ret : Option FieldType} {Post : Option Value → zV → Prop} {V : zV} {kc ks pc : Nat} {lv : List (Nat × Value)} {rest : List Value} (X : zK C l0 Γ0 n0 own cc ws d ret Post) (n' : Nat) {index a0 a tg0 tg n0 n1 : Nat} {f g : Nat → Int} {sp dp n : Int} (h0 : V a0 = some (tg0, za Γ0.2.1 0 n0 f)) (h1 : V a = some (tg, za Γ0.2.1 0 n1 g)) (hlink : Cond.methodLink own index arraycopyName ∈ ws) (hnat : Cond.native arraycopyName ∈ ws) (hstat : Cond.static arraycopyName ∈ ws) (hini : Cond.initialized "java/lang/System" ∈ ws)
    (hr : 0 ≤ sp ∧ 0 ≤ dp ∧ 0 ≤ n ∧ sp + n ≤ n0 ∧ dp + n ≤ n1 ∧ n0 ≤ 100000 ∧ n1 ≤ 100000) (hd : 2 ≤ d) (hcat : (rest.map fun v => v.category).sum ≤ 8) (hdg : decode cc pc = .ok (.invokestatic index, 3)) (hn : pc + 3 = n') (kk : zG C (zu V a tg (za Γ0.2.1 0 n1 (zcp f g sp.toNat dp.toNat n.toNat))) kc ks n' lv rest) : zG C V kc ks pc lv (.int (zI n) :: .int (zI dp) :: .ref a :: .int (zI sp) :: .ref a0 :: rest) := by
  obtain ⟨⟨p, l, e, R, s, m, args, below, meth, c⟩, Γ, ⟨nL, mc, ms⟩, Q⟩ := C
  obtain ⟨hx, hb, hml, hown, hts, hO, hB0, hlk, hret, hmc, hms, hdf, hdl, hQ, rfl, rfl, rfl⟩ := X
  subst hn
  intro H locs cells slots ls hV hS hl hcc hs
  obtain ⟨W0, hL, hP, hD⟩ := hV
  obtain ⟨q0, hq0⟩ := (hL _ _).mp (zd_of h0)
  obtain ⟨q1, hq1⟩ := (hL _ _).mp (zd_of h1)
  have c1 : (zI sp).toNatClampNeg = sp.toNat := zI_clamp hr.1 (by first | with_reducible assumption | decide | omega)
  have c2 : (zI dp).toNatClampNeg = dp.toNat := zI_clamp hr.2.1 (by first | with_reducible assumption | decide | omega)
  have c3 : (zI n).toNatClampNeg = n.toNat := zI_clamp hr.2.2.1 (by first | with_reducible assumption | decide | omega)
  have ng : ∀ z : Int, 0 ≤ z → z ≤ 100000 → ¬ zI z < 0 := fun z hz hz2 => by rw [← zI_0, zI_lt (by first | with_reducible assumption | decide | omega) (by first | with_reducible assumption | decide | omega)]; omega
  refine va_copyi hx hb (hml.trans hl.1.symm) hown (hts _ hlink) (hts _ hnat) (hts _ hstat) (hts _ hini) hO.1 hP hD hS q0 q1 0 0 (ty := .int) hq0 hq1 rfl rfl rfl (ng _ hr.1 (by first | with_reducible assumption | decide | omega)) (ng _ hr.2.1 (by first | with_reducible assumption | decide | omega)) (ng _ hr.2.2.1 (by first | with_reducible assumption | decide | omega)) (by rw [c1, c3]; omega) (by rw [c2, c3]; omega) (fun i _ => rfl) (by first | with_reducible assumption | decide | omega) ?_ hdg (fun H1 locs1 hP1 hD1 hS1 => ?_)
  · have e : nativeFrameWords "java/lang/System" "arraycopy" 5 ≤ 60 := by decide +kernel
    omega
  · rw [c1, c2, c3] at hP1 hD1
    have e : va_cpy (fun j => zI (f j)) (fun j => zI (g j)) sp.toNat dp.toNat n.toNat = fun j => zI (zcp f g sp.toNat dp.toNat n.toNat j) := by
      funext j
      unfold va_cpy zcp
      split <;> rfl
    rw [e] at hP1 hD1
    exact kk H1 locs1 cells slots ls ⟨_, by rw [zd_zu]; exact hL.set hD hq1, hP1, hD1⟩ hS1 hl hcc hs
theorem zc_zcp {f g : Nat → Int} (hf : zc f) (hg : zc g) {a b n : Nat} : zc (zcp f g a b n) := by
  intro j
  unfold zcp
  split
  · exact hf _
  · exact hg _
