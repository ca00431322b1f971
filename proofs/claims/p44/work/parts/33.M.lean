section
/-! the model's state -/
def zr5 (a b c d e : Int) : Nat → Int := fun j => if j = 0 then a else if j = 1 then b else if j = 2 then c else if j = 3 then d else if j = 4 then e else 0
theorem zr5_2 {a b c d e x : Int} : zf (zr5 a b c d e) 2 x = zr5 a b x d e := by
  funext j
  unfold zf zr5
  by_cases h : j = 2
  · simp [h]
  · simp [h]
theorem zr5_3 {a b c d e x : Int} : zf (zr5 a b c d e) 3 x = zr5 a b c x e := by
  funext j
  unfold zf zr5
  by_cases h : j = 3
  · simp [h]
  · simp [h]
theorem zr5_4 {a b c d e x : Int} : zf (zr5 a b c d e) 4 x = zr5 a b c d x := by
  funext j
  unfold zf zr5
  by_cases h : j = 4
  · simp [h]
  · simp [h]
theorem zr5_new {a b c d e : Int} : zf (zf (zf (zf (zf (fun _ => 0) 0 a) 1 b) 2 c) 3 d) 4 e = zr5 a b c d e := by
  funext j
  unfold zf zr5
  by_cases h4 : j = 4
  · simp [h4]
  · by_cases h3 : j = 3
    · simp [h3]
    · by_cases h2 : j = 2
      · simp [h2]
      · by_cases h1 : j = 1
        · simp [h1]
        · by_cases h0 : j = 0
          · simp [h0]
          · simp [h0, h1, h2, h3, h4]
def zmu (md : Nat → Nat) (k q : Nat) : Nat → Nat := fun t => if t = k then q else md t
theorem zmu_eq {md : Nat → Nat} {k q : Nat} : zmu md k q k = q := if_pos rfl
theorem zmu_ne {md : Nat → Nat} {k q t : Nat} (h : t ≠ k) : zmu md k q t = md t := if_neg h
/-- a row of ints of the model -/
def zAr (Γ : zGam) (V : zV) (tag a n : Nat) : Prop := ∃ f : Nat → Int, V a = some (tag, za Γ.2.1 0 n f) ∧ zc f
theorem zAr.kept {Γ : zGam} {V V' : zV} {Q : Nat → Prop} {tag a n : Nat} (h : zAr Γ V tag a n) (ha : zag Q V V') (hq : Q tag) : zAr Γ V' tag a n := by
  obtain ⟨f, h1, h2⟩ := h
  exact ⟨f, ha _ _ _ h1 hq, h2⟩
def zMc (c md : Nat → Nat) (en sz i o th : Int) : va_E := .inr (9, [.ref (md 61), .int (zI en), .ref (c 62), .ref (md 63), .ref (md 64), .ref (c 65), .int (zI sz), .int (zI i), .int (zI o), .ref (c 66), .int (zI th)])
/-- a window of the model -/
def zWm (Γ : zGam) (V : zV) (tag w : Nat) (en c l p m st mk : Int) : Prop := V w = some (tag, za Γ.2.1 0 5 (zr5 st c l p mk)) ∧ 0 ≤ st ∧ st + c ≤ en ∧ 0 ≤ p ∧ p ≤ l ∧ l ≤ c ∧ c ≤ 40 ∧ ((m = -9 ∧ mk = -1) ∨ (m = mk ∧ 0 ≤ mk)) ∧ m ≤ p
theorem zWm.kept {Γ : zGam} {V V' : zV} {Q : Nat → Prop} {tag w : Nat} {en c l p m st mk : Int} (h : zWm Γ V tag w en c l p m st mk) (ha : zag Q V V') (hq : Q tag) : zWm Γ V' tag w en c l p m st mk := ⟨ha _ _ _ h.1 hq, h.2⟩
theorem zWm.more {Γ : zGam} {V : zV} {tag w : Nat} {en en' c l p m st mk : Int} (h : zWm Γ V tag w en c l p m st mk) (he : en ≤ en') : zWm Γ V tag w en' c l p m st mk := ⟨h.1, h.2.1, by have := h.2.2.1; omega, h.2.2.2⟩
def zTm (V : zV) (c md : Nat → Nat) (τ κ : Nat → Int) : Prop := V (c 60) = some (60, zMc c md (κ 0) (τ 26) (τ 28) (τ 29) (τ 36))
def zTi (Γ : zGam) (V : zV) (c md : Nat → Nat) : Prop := V (c 62) = some (62, zq Γ.2.1 4 6 (fun i => some (md (70 + i))))
def zTw (Γ : zGam) (V : zV) (md : Nat → Nat) (τ κ : Nat → Int) : Prop := ∀ i, i < 6 → zWm Γ V (70 + i) (md (70 + i)) (κ 0) (τ (4 * i)) (τ (4 * i + 1)) (τ (4 * i + 2)) (τ (4 * i + 3)) (κ (10 + i)) (κ (20 + i))
def zTl (Γ : zGam) (V : zV) (a : Nat) (τ : Nat → Int) : Prop := ∃ f : Nat → Int, V a = some (66, za Γ.2.1 0 4 f) ∧ f 0 = τ 30 ∧ f 1 = τ 31 ∧ f 2 = τ 32 ∧ f 3 = τ 33
def zTn (τ κ : Nat → Int) (E : Int) : Prop := (0 ≤ κ 0 ∧ κ 0 ≤ κ 1 ∧ κ 0 ≤ E ∧ κ 1 ≤ 7000) ∧ (0 ≤ τ 24 ∧ τ 24 ≤ 80 ∧ 0 ≤ τ 25 ∧ τ 25 ≤ 80) ∧ 1 ≤ τ 26 ∧ τ 26 ≤ 8 ∧ 0 ≤ τ 29 ∧ τ 29 ≤ τ 28 ∧ τ 28 ≤ 160 ∧ τ 27 ≤ τ 26 ∧ τ 27 = τ 28 - τ 29
def zMo0 (Γ : zGam) (V : zV) (c md : Nat → Nat) (τ κ : Nat → Int) (E : Int) : Prop := zTm V c md τ κ ∧ zAr Γ V 61 (md 61) (κ 1).toNat ∧ zTi Γ V c md ∧ zTw Γ V md τ κ ∧ zAr Γ V 63 (md 63) (τ 24).toNat ∧ zAr Γ V 64 (md 64) (τ 25).toNat ∧ zAr Γ V 65 (c 65) 160 ∧ zTl Γ V (c 66) τ ∧ zTn τ κ E
theorem zTl.kept {Γ : zGam} {V V' : zV} {Q : Nat → Prop} {a : Nat} {τ : Nat → Int} (h : zTl Γ V a τ) (ha : zag Q V V') (hq : Q 66) : zTl Γ V' a τ := by
  obtain ⟨f, h1, h2⟩ := h
  exact ⟨f, ha _ _ _ h1 hq, h2⟩
theorem zMo0.kept {Γ : zGam} {V V' : zV} {c md : Nat → Nat} {τ κ : Nat → Int} {E : Int} {Q : Nat → Prop} (h : zMo0 Γ V c md τ κ E) (ha : zag Q V V') (hq : ∀ t, 60 ≤ t → t ≤ 75 → Q t) : zMo0 Γ V' c md τ κ E := by
  obtain ⟨h1, h2, h3, h4, h5, h6, h7, h8, h9⟩ := h
  exact ⟨ha _ _ _ h1 (hq _ (by omega) (by omega)), h2.kept ha (hq _ (by omega) (by omega)), ha _ _ _ h3 (hq _ (by omega) (by omega)), fun i hi => (h4 i hi).kept ha (hq _ (by omega) (by omega)), h5.kept ha (hq _ (by omega) (by omega)), h6.kept ha (hq _ (by omega) (by omega)), h7.kept ha (hq _ (by omega) (by omega)), h8.kept ha (hq _ (by omega) (by omega)), h9⟩
theorem zMo0.w {Γ : zGam} {V : zV} {c md : Nat → Nat} {τ κ : Nat → Int} {E : Int} (h : zMo0 Γ V c md τ κ E) {i : Nat} (hi : i < 6) : zWm Γ V (70 + i) (md (70 + i)) (κ 0) (τ (4 * i)) (τ (4 * i + 1)) (τ (4 * i + 2)) (τ (4 * i + 3)) (κ (10 + i)) (κ (20 + i)) := h.2.2.2.1 i hi
theorem zMo0.n {Γ : zGam} {V : zV} {c md : Nat → Nat} {τ κ : Nat → Int} {E : Int} (h : zMo0 Γ V c md τ κ E) : zTn τ κ E := h.2.2.2.2.2.2.2.2
theorem zMo0.le {Γ : zGam} {V : zV} {c md : Nat → Nat} {τ κ : Nat → Int} {E E' : Int} (h : zMo0 Γ V c md τ κ E) (he : E ≤ E') : zMo0 Γ V c md τ κ E' := by
  obtain ⟨h1, h2, h3, h4, h5, h6, h7, h8, ⟨h9, h10, h11, h12⟩, h13⟩ := h
  exact ⟨h1, h2, h3, h4, h5, h6, h7, h8, ⟨h9, h10, by omega, h12⟩, h13⟩
/-- the pipe's numbers and the thrown one -/
def zmf (τ : Nat → Int) (sz i o th : Int) : Nat → Int := fun j => if j = 26 then sz else if j = 27 then i - o else if j = 28 then i else if j = 29 then o else if j = 36 then th else τ j
theorem zmf_ne {τ : Nat → Int} {sz i o th : Int} {j : Nat} (h : ¬ (26 ≤ j ∧ j ≤ 29) ∧ j ≠ 36) : zmf τ sz i o th j = τ j := by
  unfold zmf
  rw [if_neg (by omega), if_neg (by omega), if_neg (by omega), if_neg (by omega), if_neg (by omega)]
theorem zag.one {V : zV} {a t : Nat} {e e' : va_E} (h : V a = some (t, e)) : zag (fun x => x ≠ t) V (zu V a t e') := zag.rf.set h (fun q => q rfl)
section ZTS
variable {Γ : zGam} {V : zV} {c md : Nat → Nat} {τ κ : Nat → Int} {E : Int}
theorem zMo0.setM (h : zMo0 Γ V c md τ κ E) (sz i o th : Int) (hn : 1 ≤ sz ∧ sz ≤ 8 ∧ 0 ≤ o ∧ o ≤ i ∧ i ≤ 160 ∧ i - o ≤ sz) : zMo0 Γ (zu V (c 60) 60 (zMc c md (κ 0) sz i o th)) c md (zmf τ sz i o th) κ E ∧ zag (fun x => x ≠ 60) V (zu V (c 60) 60 (zMc c md (κ 0) sz i o th)) := by
  obtain ⟨h1, h2, h3, h4, h5, h6, h7, ⟨f, h8, k0, k1, k2, k3⟩, n1, n2, n3⟩ := h
  have ha := zag.one (e' := zMc c md (κ 0) sz i o th) h1
  refine ⟨⟨zu_eq _ _ _ _, h2.kept ha (by decide), ha _ _ _ h3 (by decide), fun i hi => ?_, h5.kept ha (by decide), h6.kept ha (by decide), h7.kept ha (by decide), ⟨f, ha _ _ _ h8 (by decide), k0, k1, k2, k3⟩, n1, n2, ?_⟩, ha⟩
  · have k := (h4 i hi).kept ha (by omega)
    rw [zmf_ne (by omega), zmf_ne (by omega), zmf_ne (by omega), zmf_ne (by omega)]
    exact k
  · exact ⟨hn.1, hn.2.1, hn.2.2.1, hn.2.2.2.1, hn.2.2.2.2.1, hn.2.2.2.2.2, rfl⟩
theorem zMo0.setTal (h : zMo0 Γ V c md τ κ E) {f : Nat → Int} (hf : V (c 66) = some (66, za Γ.2.1 0 4 f)) (hv : f 0 = τ 30 ∧ f 1 = τ 31 ∧ f 2 = τ 32 ∧ f 3 = τ 33) (k : Nat) (hk : k < 4) (x : Int) : zMo0 Γ (zu V (c 66) 66 (za Γ.2.1 0 4 (zf f k x))) c md (zf τ (30 + k) x) κ E ∧ zag (fun x => x ≠ 66) V (zu V (c 66) 66 (za Γ.2.1 0 4 (zf f k x))) := by
  obtain ⟨h1, h2, h3, h4, h5, h6, h7, -, n1, n2, n3⟩ := h
  have ha := zag.one (e' := za Γ.2.1 0 4 (zf f k x)) hf
  have e : ∀ j, (j < 30 ∨ 34 ≤ j) → zf τ (30 + k) x j = τ j := fun j hj => zf_ne (by omega)
  refine ⟨⟨?_, h2.kept ha (by decide), ha _ _ _ h3 (by decide), fun i hi => ?_, ?_, ?_, h7.kept ha (by decide), ⟨_, zu_eq _ _ _ _, ?_⟩, n1, ?_, ?_⟩, ha⟩
  · unfold zTm
    rw [e 26 (by omega), e 28 (by omega), e 29 (by omega), e 36 (by omega)]
    exact ha _ _ _ h1 (by decide)
  · have q := (h4 i hi).kept ha (by omega)
    rw [e _ (by omega), e _ (by omega), e _ (by omega), e _ (by omega)]
    exact q
  · rw [e 24 (by omega)]
    exact h5.kept ha (by decide)
  · rw [e 25 (by omega)]
    exact h6.kept ha (by decide)
  · obtain ⟨v0, v1, v2, v3⟩ := hv
    rcases (by omega : k = 0 ∨ k = 1 ∨ k = 2 ∨ k = 3) with rfl | rfl | rfl | rfl
    · exact ⟨rfl, v1, v2, v3⟩
    · exact ⟨v0, rfl, v2, v3⟩
    · exact ⟨v0, v1, rfl, v3⟩
    · exact ⟨v0, v1, v2, rfl⟩
  · rw [e 24 (by omega), e 25 (by omega)]
    exact n2
  · rw [e 26 (by omega), e 27 (by omega), e 28 (by omega), e 29 (by omega)]
    exact n3
theorem zMo0.setTape (h : zMo0 Γ V c md τ κ E) {f : Nat → Int} (hf : zc f) : zMo0 Γ (zu V (md 61) 61 (za Γ.2.1 0 (κ 1).toNat f)) c md τ κ E ∧ zag (fun x => x ≠ 61) V (zu V (md 61) 61 (za Γ.2.1 0 (κ 1).toNat f)) := by
  obtain ⟨h1, ⟨f0, h2, -⟩, h3, h4, h5, h6, h7, h8, h9⟩ := h
  have ha := zag.one (e' := za Γ.2.1 0 (κ 1).toNat f) h2
  exact ⟨⟨ha _ _ _ h1 (by decide), ⟨f, zu_eq _ _ _ _, hf⟩, ha _ _ _ h3 (by decide), fun i hi => (h4 i hi).kept ha (by omega), h5.kept ha (by decide), h6.kept ha (by decide), h7.kept ha (by decide), h8.kept ha (by decide), h9⟩, ha⟩
theorem zMo0.setSent (h : zMo0 Γ V c md τ κ E) {f : Nat → Int} (hf : zc f) : zMo0 Γ (zu V (c 65) 65 (za Γ.2.1 0 160 f)) c md τ κ E ∧ zag (fun x => x ≠ 65) V (zu V (c 65) 65 (za Γ.2.1 0 160 f)) := by
  obtain ⟨h1, h2, h3, h4, h5, h6, ⟨f0, h7, -⟩, h8, h9⟩ := h
  have ha := zag.one (e' := za Γ.2.1 0 160 f) h7
  exact ⟨⟨ha _ _ _ h1 (by decide), h2.kept ha (by decide), ha _ _ _ h3 (by decide), fun i hi => (h4 i hi).kept ha (by omega), h5.kept ha (by decide), h6.kept ha (by decide), ⟨f, zu_eq _ _ _ _, hf⟩, h8.kept ha (by decide), h9⟩, ha⟩
theorem zMo0.setBuilt (h : zMo0 Γ V c md τ κ E) {f : Nat → Int} (hf : zc f) : zMo0 Γ (zu V (md 63) 63 (za Γ.2.1 0 (τ 24).toNat f)) c md τ κ E ∧ zag (fun x => x ≠ 63) V (zu V (md 63) 63 (za Γ.2.1 0 (τ 24).toNat f)) := by
  obtain ⟨h1, h2, h3, h4, ⟨f0, h5, -⟩, h6, h7, h8, h9⟩ := h
  have ha := zag.one (e' := za Γ.2.1 0 (τ 24).toNat f) h5
  exact ⟨⟨ha _ _ _ h1 (by decide), h2.kept ha (by decide), ha _ _ _ h3 (by decide), fun i hi => (h4 i hi).kept ha (by omega), ⟨f, zu_eq _ _ _ _, hf⟩, h6.kept ha (by decide), h7.kept ha (by decide), h8.kept ha (by decide), h9⟩, ha⟩
theorem zMo0.setW (h : zMo0 Γ V c md τ κ E) {i : Nat} (hi : i < 6) (l p m mk : Int) (hn : 0 ≤ p ∧ p ≤ l ∧ l ≤ τ (4 * i) ∧ ((m = -9 ∧ mk = -1) ∨ (m = mk ∧ 0 ≤ mk)) ∧ m ≤ p) : zMo0 Γ (zu V (md (70 + i)) (70 + i) (za Γ.2.1 0 5 (zr5 (κ (10 + i)) (τ (4 * i)) l p mk))) c md (zw4 τ i (τ (4 * i)) l p m) (zf κ (20 + i) mk) E ∧ zag (fun x => x ≠ 70 + i) V (zu V (md (70 + i)) (70 + i) (za Γ.2.1 0 5 (zr5 (κ (10 + i)) (τ (4 * i)) l p mk))) := by
  obtain ⟨h1, h2, h3, h4, h5, h6, h7, h8, n1, n2, n3⟩ := h
  have hw := h4 i hi
  have ha := zag.one (e' := za Γ.2.1 0 5 (zr5 (κ (10 + i)) (τ (4 * i)) l p mk)) hw.1
  have e : ∀ j, 24 ≤ j → zw4 τ i (τ (4 * i)) l p m j = τ j := fun j hj => by
    unfold zw4
    rw [if_neg (by omega), if_neg (by omega), if_neg (by omega), if_neg (by omega)]
  have ek : ∀ j, j < 20 → zf κ (20 + i) mk j = κ j := fun j hj => zf_ne (by omega)
  refine ⟨⟨?_, ?_, ha _ _ _ h3 (by omega), fun j hj => ?_, ?_, ?_, h7.kept ha (by omega), ?_, ?_, ?_, ?_⟩, ha⟩
  · unfold zTm
    rw [e 26 (by omega), e 28 (by omega), e 29 (by omega), e 36 (by omega), ek 0 (by omega)]
    exact ha _ _ _ h1 (by omega)
  · rw [ek 1 (by omega)]
    exact h2.kept ha (by omega)
  · by_cases hj2 : j = i
    · subst hj2
      rw [zw4_0, zw4_1, zw4_2, zw4_3, ek 0 (by omega), ek _ (by omega), zf_eq]
      exact ⟨zu_eq _ _ _ _, hw.2.1, hw.2.2.1, hn.1, hn.2.1, hn.2.2.1, hw.2.2.2.2.2.2.1, hn.2.2.2⟩
    · rw [zw4_ne0 hj2, zw4_ne hj2 (by omega), zw4_ne hj2 (by omega), zw4_ne hj2 (by omega), ek 0 (by omega), ek _ (by omega), zf_ne (by omega)]
      exact (h4 j hj).kept ha (by omega)
  · rw [e 24 (by omega)]
    exact h5.kept ha (by omega)
  · rw [e 25 (by omega)]
    exact h6.kept ha (by omega)
  · obtain ⟨f, k, k0, k1, k2, k3⟩ := h8
    exact ⟨f, ha _ _ _ k (by omega), by rw [e 30 (by omega)]; exact k0, by rw [e 31 (by omega)]; exact k1, by rw [e 32 (by omega)]; exact k2, by rw [e 33 (by omega)]; exact k3⟩
  · rw [ek 0 (by omega), ek 1 (by omega)]
    exact n1
  · rw [e 24 (by omega), e 25 (by omega)]
    exact n2
  · rw [e 26 (by omega), e 27 (by omega), e 28 (by omega), e 29 (by omega)]
    exact n3
theorem zMo0.newB (h : zMo0 Γ V c md τ κ E) {q n : Nat} (hq : zAr Γ V 63 q n) (hn : n ≤ 80) : zMo0 Γ (zu V (c 60) 60 (zMc c (zmu md 63 q) (κ 0) (τ 26) (τ 28) (τ 29) (τ 36))) c (zmu md 63 q) (zf τ 24 n) κ E ∧ zag (fun x => x ≠ 60) V (zu V (c 60) 60 (zMc c (zmu md 63 q) (κ 0) (τ 26) (τ 28) (τ 29) (τ 36))) := by
  obtain ⟨h1, h2, h3, h4, h5, h6, h7, h8, n1, n2, n3⟩ := h
  have ha := zag.one (e' := zMc c (zmu md 63 q) (κ 0) (τ 26) (τ 28) (τ 29) (τ 36)) h1
  have e : ∀ j, j ≠ 24 → zf τ 24 n j = τ j := fun j hj => zf_ne hj
  refine ⟨⟨?_, h2.kept ha (by decide), ?_, fun i hi => ?_, ?_, ?_, h7.kept ha (by decide), ?_, n1, ?_, ?_⟩, ha⟩
  · unfold zTm
    rw [e 26 (by omega), e 28 (by omega), e 29 (by omega), e 36 (by omega)]
    exact zu_eq _ _ _ _
  · have e2 : (fun i => some (zmu md 63 q (70 + i))) = (fun i => some (md (70 + i))) := funext fun i => by rw [zmu_ne (by omega)]
    unfold zTi
    rw [e2]
    exact ha _ _ _ h3 (by decide)
  · have k := (h4 i hi).kept ha (by omega)
    rw [e _ (by omega), e _ (by omega), e _ (by omega), e _ (by omega), zmu_ne (by omega)]
    exact k
  · rw [zf_eq, Int.toNat_natCast]
    exact hq.kept ha (by decide)
  · rw [e 25 (by omega)]
    exact h6.kept ha (by decide)
  · obtain ⟨f, k, k0, k1, k2, k3⟩ := h8
    exact ⟨f, ha _ _ _ k (by decide), by rw [e 30 (by omega)]; exact k0, by rw [e 31 (by omega)]; exact k1, by rw [e 32 (by omega)]; exact k2, by rw [e 33 (by omega)]; exact k3⟩
  · rw [zf_eq, e 25 (by omega)]
    omega
  · rw [e 26 (by omega), e 27 (by omega), e 28 (by omega), e 29 (by omega)]
    exact n3
theorem zMo0.newK (h : zMo0 Γ V c md τ κ E) {q n : Nat} (hq : zAr Γ V 64 q n) (hn : n ≤ 80) : zMo0 Γ (zu V (c 60) 60 (zMc c (zmu md 64 q) (κ 0) (τ 26) (τ 28) (τ 29) (τ 36))) c (zmu md 64 q) (zf τ 25 n) κ E ∧ zag (fun x => x ≠ 60) V (zu V (c 60) 60 (zMc c (zmu md 64 q) (κ 0) (τ 26) (τ 28) (τ 29) (τ 36))) := by
  obtain ⟨h1, h2, h3, h4, h5, h6, h7, h8, n1, n2, n3⟩ := h
  have ha := zag.one (e' := zMc c (zmu md 64 q) (κ 0) (τ 26) (τ 28) (τ 29) (τ 36)) h1
  have e : ∀ j, j ≠ 25 → zf τ 25 n j = τ j := fun j hj => zf_ne hj
  refine ⟨⟨?_, h2.kept ha (by decide), ?_, fun i hi => ?_, ?_, ?_, h7.kept ha (by decide), ?_, n1, ?_, ?_⟩, ha⟩
  · unfold zTm
    rw [e 26 (by omega), e 28 (by omega), e 29 (by omega), e 36 (by omega)]
    exact zu_eq _ _ _ _
  · have e2 : (fun i => some (zmu md 64 q (70 + i))) = (fun i => some (md (70 + i))) := funext fun i => by rw [zmu_ne (by omega)]
    unfold zTi
    rw [e2]
    exact ha _ _ _ h3 (by decide)
  · have k := (h4 i hi).kept ha (by omega)
    rw [e _ (by omega), e _ (by omega), e _ (by omega), e _ (by omega), zmu_ne (by omega)]
    exact k
  · rw [e 24 (by omega)]
    exact h5.kept ha (by decide)
  · rw [zf_eq, Int.toNat_natCast]
    exact hq.kept ha (by decide)
  · obtain ⟨f, k, k0, k1, k2, k3⟩ := h8
    exact ⟨f, ha _ _ _ k (by decide), by rw [e 30 (by omega)]; exact k0, by rw [e 31 (by omega)]; exact k1, by rw [e 32 (by omega)]; exact k2, by rw [e 33 (by omega)]; exact k3⟩
  · rw [zf_eq, e 24 (by omega)]
    omega
  · rw [e 26 (by omega), e 27 (by omega), e 28 (by omega), e 29 (by omega)]
    exact n3
/-- a window's row is another one -/
theorem zMo0.newW (h : zMo0 Γ V c md τ κ E) {i q : Nat} (hi : i < 6) {cp l p m st mk : Int} (hq : zWm Γ V (70 + i) q (κ 0) cp l p m st mk) : zMo0 Γ (zu V (c 62) 62 (zq Γ.2.1 4 6 (zg (fun j => some (md (70 + j))) i q))) c (zmu md (70 + i) q) (zw4 τ i cp l p m) (zf (zf κ (10 + i) st) (20 + i) mk) E ∧ zag (fun x => x ≠ 62) V (zu V (c 62) 62 (zq Γ.2.1 4 6 (zg (fun j => some (md (70 + j))) i q))) := by
  obtain ⟨h1, h2, h3, h4, h5, h6, h7, h8, n1, n2, n3⟩ := h
  have ha := zag.one (e' := zq Γ.2.1 4 6 (zg (fun j => some (md (70 + j))) i q)) h3
  have e : ∀ j, 24 ≤ j → zw4 τ i cp l p m j = τ j := fun j hj => by
    unfold zw4
    rw [if_neg (by omega), if_neg (by omega), if_neg (by omega), if_neg (by omega)]
  have ek : ∀ j, j < 10 → zf (zf κ (10 + i) st) (20 + i) mk j = κ j := fun j hj => by rw [zf_ne (by omega), zf_ne (by omega)]
  refine ⟨⟨?_, ?_, ?_, fun j hj => ?_, ?_, ?_, h7.kept ha (by decide), ?_, ?_, ?_, ?_⟩, ha⟩
  · unfold zTm zMc
    rw [e 26 (by omega), e 28 (by omega), e 29 (by omega), e 36 (by omega), ek 0 (by omega), zmu_ne (by omega), zmu_ne (by omega), zmu_ne (by omega)]
    exact ha _ _ _ h1 (by decide)
  · rw [ek 1 (by omega), zmu_ne (by omega)]
    exact h2.kept ha (by decide)
  · have e2 : (fun j => some (zmu md (70 + i) q (70 + j))) = zg (fun j => some (md (70 + j))) i q := funext fun j => by
      unfold zg
      by_cases hj : j = i
      · rw [if_pos hj, hj, zmu_eq]
      · rw [if_neg hj, zmu_ne (by omega)]
    unfold zTi
    rw [e2]
    exact zu_eq _ _ _ _
  · by_cases hj2 : j = i
    · subst hj2
      rw [zw4_0, zw4_1, zw4_2, zw4_3, ek 0 (by omega), zmu_eq, zf_eq, zf_ne (by omega), zf_eq]
      exact hq.kept ha (by omega)
    · rw [zw4_ne0 hj2, zw4_ne hj2 (by omega), zw4_ne hj2 (by omega), zw4_ne hj2 (by omega), ek 0 (by omega), zmu_ne (by omega), zf_ne (by omega), zf_ne (by omega), zf_ne (by omega), zf_ne (by omega)]
      exact (h4 j hj).kept ha (by omega)
  · rw [e 24 (by omega), zmu_ne (by omega)]
    exact h5.kept ha (by decide)
  · rw [e 25 (by omega), zmu_ne (by omega)]
    exact h6.kept ha (by decide)
  · obtain ⟨f, k, k0, k1, k2, k3⟩ := h8
    exact ⟨f, ha _ _ _ k (by decide), by rw [e 30 (by omega)]; exact k0, by rw [e 31 (by omega)]; exact k1, by rw [e 32 (by omega)]; exact k2, by rw [e 33 (by omega)]; exact k3⟩
  · rw [ek 0 (by omega), ek 1 (by omega)]
    exact n1
  · rw [e 24 (by omega), e 25 (by omega)]
    exact n2
  · rw [e 26 (by omega), e 27 (by omega), e 28 (by omega), e 29 (by omega)]
    exact n3
/-- the end moves, the tape may be another one -/
theorem zMo0.grow (h : zMo0 Γ V c md τ κ E) {q n : Nat} {en E' : Int} (hq : zAr Γ V 61 q n) (hn : κ 0 ≤ en ∧ en ≤ n ∧ en ≤ E' ∧ n ≤ 7000) : zMo0 Γ (zu V (c 60) 60 (zMc c (zmu md 61 q) en (τ 26) (τ 28) (τ 29) (τ 36))) c (zmu md 61 q) τ (zf (zf κ 0 en) 1 n) E' ∧ zag (fun x => x ≠ 60) V (zu V (c 60) 60 (zMc c (zmu md 61 q) en (τ 26) (τ 28) (τ 29) (τ 36))) := by
  obtain ⟨h1, h2, h3, h4, h5, h6, h7, h8, n1, n2, n3⟩ := h
  have ha := zag.one (e' := zMc c (zmu md 61 q) en (τ 26) (τ 28) (τ 29) (τ 36)) h1
  have e1 : zf (zf κ 0 en) 1 n 1 = (n : Int) := zf_eq
  have e0 : zf (zf κ 0 en) 1 n 0 = en := rfl
  refine ⟨⟨zu_eq _ _ _ _, ?_, ?_, fun i hi => ?_, h5.kept ha (by decide), h6.kept ha (by decide), h7.kept ha (by decide), h8.kept ha (by decide), ?_, n2, n3⟩, ha⟩
  · rw [e1, Int.toNat_natCast]
    exact hq.kept ha (by decide)
  · have e2 : (fun i => some (zmu md 61 q (70 + i))) = (fun i => some (md (70 + i))) := funext fun i => by rw [zmu_ne (by omega)]
    unfold zTi
    rw [e2]
    exact ha _ _ _ h3 (by decide)
  · have k := ((h4 i hi).kept ha (by omega)).more hn.1
    rw [zmu_ne (by omega), e0, zf_ne (by omega), zf_ne (by omega), zf_ne (by omega), zf_ne (by omega)]
    exact k
  · rw [e1, e0]
    omega
end ZTS
/-! the model's contents: its tape, built and kept text, as they stand in τ -/
def zMk (Γ : zGam) (V : zV) (md : Nat → Nat) (τ κ : Nat → Int) : Prop := (∃ f : Nat → Int, V (md 61) = some (61, za Γ.2.1 0 (κ 1).toNat f) ∧ zc f ∧ ∀ a : Nat, a < (κ 1).toNat → f a = τ (1000 + a)) ∧ (∀ a : Nat, τ 46 ≤ (a : Int) → τ (1000 + a) = 0) ∧ (κ 0 = τ 46 ∧ ∀ i, i < 6 → κ (10 + i) = τ (40 + i)) ∧ (∃ f : Nat → Int, V (md 63) = some (63, za Γ.2.1 0 (τ 24).toNat f) ∧ zc f ∧ ∀ k : Nat, k < 80 → k < (τ 24).toNat → f k = τ (100 + k)) ∧ (∃ f : Nat → Int, V (md 64) = some (64, za Γ.2.1 0 (τ 25).toNat f) ∧ zc f ∧ ∀ k : Nat, k < 80 → k < (τ 25).toNat → f k = τ (200 + k))
def zMo (Γ : zGam) (V : zV) (c md : Nat → Nat) (τ κ : Nat → Int) (E : Int) : Prop := zTm V c md τ κ ∧ zAr Γ V 61 (md 61) (κ 1).toNat ∧ zTi Γ V c md ∧ zTw Γ V md τ κ ∧ zAr Γ V 63 (md 63) (τ 24).toNat ∧ zAr Γ V 64 (md 64) (τ 25).toNat ∧ zAr Γ V 65 (c 65) 160 ∧ zTl Γ V (c 66) τ ∧ zTn τ κ E ∧ zMk Γ V md τ κ
section ZMK
variable {Γ : zGam} {V V' : zV} {c md : Nat → Nat} {τ τ' κ : Nat → Int} {E : Int}
theorem zMo.c0 (h : zMo Γ V c md τ κ E) : zMo0 Γ V c md τ κ E := ⟨h.1, h.2.1, h.2.2.1, h.2.2.2.1, h.2.2.2.2.1, h.2.2.2.2.2.1, h.2.2.2.2.2.2.1, h.2.2.2.2.2.2.2.1, h.2.2.2.2.2.2.2.2.1⟩
theorem zMo.ct (h : zMo Γ V c md τ κ E) : zMk Γ V md τ κ := h.2.2.2.2.2.2.2.2.2
theorem zMo0.mk (h : zMo0 Γ V c md τ κ E) (k : zMk Γ V md τ κ) : zMo Γ V c md τ κ E := ⟨h.1, h.2.1, h.2.2.1, h.2.2.2.1, h.2.2.2.2.1, h.2.2.2.2.2.1, h.2.2.2.2.2.2.1, h.2.2.2.2.2.2.2.1, h.2.2.2.2.2.2.2.2, k⟩
theorem zMo.n (h : zMo Γ V c md τ κ E) : zTn τ κ E := h.2.2.2.2.2.2.2.2.1
theorem zMo.w (h : zMo Γ V c md τ κ E) {i : Nat} (hi : i < 6) : zWm Γ V (70 + i) (md (70 + i)) (κ 0) (τ (4 * i)) (τ (4 * i + 1)) (τ (4 * i + 2)) (τ (4 * i + 3)) (κ (10 + i)) (κ (20 + i)) := h.2.2.2.1 i hi
theorem zMk.kept {Q : Nat → Prop} (h : zMk Γ V md τ κ) (ha : zag Q V V') (h1 : Q 61) (h2 : Q 63) (h3 : Q 64) : zMk Γ V' md τ κ := by
  obtain ⟨⟨f, a1, a2⟩, b, d, ⟨g, e1, e2⟩, ⟨k, l1, l2⟩⟩ := h
  exact ⟨⟨f, ha _ _ _ a1 h1, a2⟩, b, d, ⟨g, ha _ _ _ e1 h2, e2⟩, ⟨k, ha _ _ _ l1 h3, l2⟩⟩
theorem zMk.sig (h : zMk Γ V md τ κ) (he : ∀ j, (j = 24 ∨ j = 25 ∨ (40 ≤ j ∧ j ≤ 46) ∨ 100 ≤ j) → τ' j = τ j) : zMk Γ V md τ' κ := by
  obtain ⟨⟨f, a1, a0, a2⟩, b, ⟨d1, d2⟩, ⟨g, e1, e0, e2⟩, ⟨k, l1, l0, l2⟩⟩ := h
  refine ⟨⟨f, a1, a0, fun a ha => by rw [he _ (by omega)]; exact a2 a ha⟩, fun a ha => ?_, ⟨by rw [he _ (by omega)]; exact d1, fun i hi => by rw [he _ (by omega)]; exact d2 i hi⟩, ⟨g, ?_, e0, fun x h8 hx => ?_⟩, ⟨k, ?_, l0, fun x h8 hx => ?_⟩⟩
  · rw [he 46 (by omega)] at ha
    rw [he _ (by omega)]
    exact b a ha
  · rw [he 24 (by omega)]
    exact e1
  · rw [he 24 (by omega)] at hx
    rw [he _ (by omega)]
    exact e2 x h8 hx
  · rw [he 25 (by omega)]
    exact l1
  · rw [he 25 (by omega)] at hx
    rw [he _ (by omega)]
    exact l2 x h8 hx
/-- the ghost numbers beyond ends and starts don't tell contents -/
theorem zMk.kap {κ' : Nat → Int} (h : zMk Γ V md τ κ) (he : ∀ j, j < 20 → κ' j = κ j) : zMk Γ V md τ κ' := by
  obtain ⟨a, b, ⟨d1, d2⟩, e⟩ := h
  refine ⟨?_, b, ⟨by rw [he 0 (by omega)]; exact d1, fun i hi => by rw [he _ (by omega)]; exact d2 i hi⟩, e⟩
  rw [he 1 (by omega)]
  exact a
theorem zMo.kept {Q : Nat → Prop} (h : zMo Γ V c md τ κ E) (ha : zag Q V V') (hq : ∀ t, 60 ≤ t → t ≤ 75 → Q t) : zMo Γ V' c md τ κ E := (h.c0.kept ha hq).mk (h.ct.kept ha (hq _ (by omega) (by omega)) (hq _ (by omega) (by omega)) (hq _ (by omega) (by omega)))
theorem zMo.le {E' : Int} (h : zMo Γ V c md τ κ E) (he : E ≤ E') : zMo Γ V c md τ κ E' := (h.c0.le he).mk h.ct
theorem zMo.setM (h : zMo Γ V c md τ κ E) (sz i o th : Int) (hn : 1 ≤ sz ∧ sz ≤ 8 ∧ 0 ≤ o ∧ o ≤ i ∧ i ≤ 160 ∧ i - o ≤ sz) : zMo Γ (zu V (c 60) 60 (zMc c md (κ 0) sz i o th)) c md (zmf τ sz i o th) κ E ∧ zag (fun x => x ≠ 60) V (zu V (c 60) 60 (zMc c md (κ 0) sz i o th)) := by
  obtain ⟨g1, g2⟩ := h.c0.setM sz i o th hn
  exact ⟨g1.mk ((h.ct.kept g2 (by decide) (by decide) (by decide)).sig (fun j hj => zmf_ne (by omega))), g2⟩
theorem zMo.setTal (h : zMo Γ V c md τ κ E) {f : Nat → Int} (hf : V (c 66) = some (66, za Γ.2.1 0 4 f)) (hv : f 0 = τ 30 ∧ f 1 = τ 31 ∧ f 2 = τ 32 ∧ f 3 = τ 33) (k : Nat) (hk : k < 4) (x : Int) : zMo Γ (zu V (c 66) 66 (za Γ.2.1 0 4 (zf f k x))) c md (zf τ (30 + k) x) κ E ∧ zag (fun x => x ≠ 66) V (zu V (c 66) 66 (za Γ.2.1 0 4 (zf f k x))) := by
  obtain ⟨g1, g2⟩ := h.c0.setTal hf hv k hk x
  exact ⟨g1.mk ((h.ct.kept g2 (by decide) (by decide) (by decide)).sig (fun j hj => zf_ne (by omega))), g2⟩
theorem zMo.setSent (h : zMo Γ V c md τ κ E) {f : Nat → Int} (hf : zc f) : zMo Γ (zu V (c 65) 65 (za Γ.2.1 0 160 f)) c md τ κ E ∧ zag (fun x => x ≠ 65) V (zu V (c 65) 65 (za Γ.2.1 0 160 f)) := by
  obtain ⟨g1, g2⟩ := h.c0.setSent hf
  exact ⟨g1.mk (h.ct.kept g2 (by decide) (by decide) (by decide)), g2⟩
theorem zMo.setW (h : zMo Γ V c md τ κ E) {i : Nat} (hi : i < 6) (l p m mk : Int) (hn : 0 ≤ p ∧ p ≤ l ∧ l ≤ τ (4 * i) ∧ ((m = -9 ∧ mk = -1) ∨ (m = mk ∧ 0 ≤ mk)) ∧ m ≤ p) : zMo Γ (zu V (md (70 + i)) (70 + i) (za Γ.2.1 0 5 (zr5 (κ (10 + i)) (τ (4 * i)) l p mk))) c md (zw4 τ i (τ (4 * i)) l p m) (zf κ (20 + i) mk) E ∧ zag (fun x => x ≠ 70 + i) V (zu V (md (70 + i)) (70 + i) (za Γ.2.1 0 5 (zr5 (κ (10 + i)) (τ (4 * i)) l p mk))) := by
  obtain ⟨g1, g2⟩ := h.c0.setW hi l p m mk hn
  exact ⟨g1.mk (((h.ct.kept g2 (by omega) (by omega) (by omega)).sig (fun j hj => zw4_hi hi (by omega))).kap (fun j hj => zf_ne (by omega))), g2⟩
/-- the tape is written at a place -/
theorem zMo.setTape (h : zMo Γ V c md τ κ E) {f : Nat → Int} (hV : V (md 61) = some (61, za Γ.2.1 0 (κ 1).toNat f)) (hc : zc f) {a : Int} (ha : 0 ≤ a ∧ a < κ 0) {x : Int} (hx : 0 ≤ x ∧ x ≤ 255) (hf : ∀ b : Nat, b < (κ 1).toNat → f b = τ (1000 + b)) : zMo Γ (zu V (md 61) 61 (za Γ.2.1 0 (κ 1).toNat (zf f a.toNat x))) c md (zf τ (zTp a) x) κ E ∧ zag (fun x => x ≠ 61) V (zu V (md 61) 61 (za Γ.2.1 0 (κ 1).toNat (zf f a.toNat x))) := by
  obtain ⟨g1, g2⟩ := h.c0.setTape (zc_zf hc hx (i := a.toNat))
  have hn := h.n.1
  have e : ∀ j, j < 1000 → zf τ (zTp a) x j = τ j := fun j hj => zf_ne (by unfold zTp; omega)
  refine ⟨zMo0.mk ?_ ?_, g2⟩
  · obtain ⟨h1, h2, h3, h4, h5, h6, h7, ⟨q, h8, k0, k1, k2, k3⟩, n1, n2, n3⟩ := g1
    refine ⟨?_, h2, h3, fun i hi => ?_, ?_, ?_, h7, ⟨q, h8, ?_, ?_, ?_, ?_⟩, n1, ?_, ?_⟩
    · unfold zTm
      rw [e 26 (by omega), e 28 (by omega), e 29 (by omega), e 36 (by omega)]
      exact h1
    · rw [e _ (by omega), e _ (by omega), e _ (by omega), e _ (by omega)]
      exact h4 i hi
    · rw [e 24 (by omega)]
      exact h5
    · rw [e 25 (by omega)]
      exact h6
    · rw [e 30 (by omega)]
      exact k0
    · rw [e 31 (by omega)]
      exact k1
    · rw [e 32 (by omega)]
      exact k2
    · rw [e 33 (by omega)]
      exact k3
    · rw [e 24 (by omega), e 25 (by omega)]
      exact n2
    · rw [e 26 (by omega), e 27 (by omega), e 28 (by omega), e 29 (by omega)]
      exact n3
  · obtain ⟨-, bz, ⟨d1, d2⟩, ⟨g, e1, e0, e2⟩, ⟨k, l1, l0, l2⟩⟩ := h.ct
    refine ⟨⟨_, zu_eq _ _ _ _, zc_zf hc hx, fun b hb => ?_⟩, fun b hb => ?_, ⟨by rw [e 46 (by omega)]; exact d1, fun i hi => by rw [e _ (by omega)]; exact d2 i hi⟩, ⟨g, ?_, e0, fun y h8 hy => ?_⟩, ⟨k, ?_, l0, fun y h8 hy => ?_⟩⟩
    · unfold zf
      by_cases q : b = a.toNat
      · rw [if_pos q, if_pos (by unfold zTp; omega)]
      · rw [if_neg q, if_neg (by unfold zTp; omega)]
        exact hf b hb
    · rw [e 46 (by omega)] at hb
      rw [zf_ne (by unfold zTp; omega)]
      exact bz b hb
    · rw [e 24 (by omega)]
      exact g2 _ _ _ e1 (by decide)
    · rw [e 24 (by omega)] at hy
      rw [e _ (by omega)]
      exact e2 y h8 hy
    · rw [e 25 (by omega)]
      exact g2 _ _ _ l1 (by decide)
    · rw [e 25 (by omega)] at hy
      rw [e _ (by omega)]
      exact l2 y h8 hy
end ZMK
section ZMK2
variable {Γ : zGam} {V V' : zV} {c md : Nat → Nat} {τ τ' κ : Nat → Int} {E : Int}
theorem zMo0.sig (h : zMo0 Γ V c md τ κ E) (e : ∀ j, j < 40 → τ' j = τ j) : zMo0 Γ V c md τ' κ E := by
  obtain ⟨h1, h2, h3, h4, h5, h6, h7, ⟨q, h8, k0, k1, k2, k3⟩, n1, n2, n3⟩ := h
  refine ⟨?_, h2, h3, fun i hi => ?_, ?_, ?_, h7, ⟨q, h8, ?_, ?_, ?_, ?_⟩, n1, ?_, ?_⟩
  · unfold zTm
    rw [e 26 (by omega), e 28 (by omega), e 29 (by omega), e 36 (by omega)]
    exact h1
  · rw [e _ (by omega), e _ (by omega), e _ (by omega), e _ (by omega)]
    exact h4 i hi
  · rw [e 24 (by omega)]
    exact h5
  · rw [e 25 (by omega)]
    exact h6
  · rw [e 30 (by omega)]
    exact k0
  · rw [e 31 (by omega)]
    exact k1
  · rw [e 32 (by omega)]
    exact k2
  · rw [e 33 (by omega)]
    exact k3
  · rw [e 24 (by omega), e 25 (by omega)]
    exact n2
  · rw [e 26 (by omega), e 27 (by omega), e 28 (by omega), e 29 (by omega)]
    exact n3
/-- a sign of the builder is another one -/
theorem zMo.setBuilt (h : zMo Γ V c md τ κ E) {f : Nat → Int} (hV : V (md 63) = some (63, za Γ.2.1 0 (τ 24).toNat f)) (hc : zc f) {p x : Int} (hp : 0 ≤ p ∧ p < τ 24) (hx : 0 ≤ x ∧ x ≤ 255) (hf : ∀ k : Nat, k < 80 → k < (τ 24).toNat → f k = τ (100 + k)) : zMo Γ (zu V (md 63) 63 (za Γ.2.1 0 (τ 24).toNat (zf f p.toNat x))) c md (zf τ (100 + p.toNat) x) κ E ∧ zag (fun x => x ≠ 63) V (zu V (md 63) 63 (za Γ.2.1 0 (τ 24).toNat (zf f p.toNat x))) := by
  obtain ⟨g1, g2⟩ := h.c0.setBuilt (zc_zf hc hx (i := p.toNat))
  have hn := h.n.2.1
  have e : ∀ j, j < 100 → zf τ (100 + p.toNat) x j = τ j := fun j hj => zf_ne (by omega)
  have e2 : ∀ j, 180 ≤ j → zf τ (100 + p.toNat) x j = τ j := fun j hj => zf_ne (by omega)
  refine ⟨(g1.sig (τ' := zf τ (100 + p.toNat) x) (fun j hj => e j (by omega))).mk ?_, g2⟩
  obtain ⟨⟨f0, a1, a0, a2⟩, bz, ⟨d1, d2⟩, -, ⟨k, l1, l0, l2⟩⟩ := h.ct
  refine ⟨⟨f0, g2 _ _ _ a1 (by decide), a0, fun a ha => by rw [e2 _ (by omega)]; exact a2 a ha⟩, fun a ha => ?_, ⟨by rw [e 46 (by omega)]; exact d1, fun i hi => by rw [e _ (by omega)]; exact d2 i hi⟩, ⟨zf f p.toNat x, ?_, zc_zf hc hx, fun y h8 hy => ?_⟩, ⟨k, ?_, l0, fun y h8 hy => ?_⟩⟩
  · rw [e 46 (by omega)] at ha
    rw [e2 _ (by omega)]
    exact bz a ha
  · rw [e 24 (by omega)]
    exact zu_eq _ _ _ _
  · rw [e 24 (by omega)] at hy
    unfold zf
    by_cases q : y = p.toNat
    · rw [if_pos q, if_pos (by omega)]
    · rw [if_neg q, if_neg (by omega)]
      exact hf y h8 hy
  · rw [e 25 (by omega)]
    exact g2 _ _ _ l1 (by decide)
  · rw [e 25 (by omega)] at hy
    rw [e2 _ (by omega)]
    exact l2 y h8 hy
theorem zMo.newB (h : zMo Γ V c md τ κ E) {q n : Nat} {f : Nat → Int} (hV : V q = some (63, za Γ.2.1 0 n f)) (hc : zc f) (hn : n ≤ 80) {g : Nat → Int} (hg : ∀ k, k < n → f k = g k) : zMo Γ (zu V (c 60) 60 (zMc c (zmu md 63 q) (κ 0) (τ 26) (τ 28) (τ 29) (τ 36))) c (zmu md 63 q) (zly (zf τ 24 n) 100 n g) κ E ∧ zag (fun x => x ≠ 60) V (zu V (c 60) 60 (zMc c (zmu md 63 q) (κ 0) (τ 26) (τ 28) (τ 29) (τ 36))) := by
  obtain ⟨g1, g2⟩ := h.c0.newB ⟨f, hV, hc⟩ hn
  have e : ∀ j, j ≠ 24 → ¬ (100 ≤ j ∧ j < 100 + n) → zly (zf τ 24 n) 100 n g j = τ j := fun j h1 h2 => by rw [zly_ne h2, zf_ne h1]
  have e9 : zly (zf τ 24 n) 100 n g 24 = n := by rw [zly_ne (by omega)]; exact zf_eq
  refine ⟨(g1.sig (τ' := zly (zf τ 24 n) 100 n g) (fun j hj => zly_ne (by omega))).mk ?_, g2⟩
  obtain ⟨⟨f0, a1, a0, a2⟩, bz, ⟨d1, d2⟩, ⟨gb, e1, e0, e2⟩, ⟨k, l1, l0, l2⟩⟩ := h.ct
  refine ⟨⟨f0, ?_, a0, fun a ha => by rw [e _ (by omega) (by omega)]; exact a2 a ha⟩, fun a ha => ?_, ⟨by rw [e 46 (by omega) (by omega)]; exact d1, fun i hi => by rw [e _ (by omega) (by omega)]; exact d2 i hi⟩, ?_, ?_⟩
  · rw [zmu_ne (by decide)]
    exact g2 _ _ _ a1 (by decide)
  · rw [e 46 (by omega) (by omega)] at ha
    rw [e _ (by omega) (by omega)]
    exact bz a ha
  · rw [e9, Int.toNat_natCast, zmu_eq]
    exact ⟨f, g2 _ _ _ hV (by decide), hc, fun y h8 hy => by rw [zly_at hy]; exact hg y hy⟩
  · rw [e 25 (by omega) (by omega), zmu_ne (by decide)]
    exact ⟨_, g2 _ _ _ l1 (by decide), l0, fun y h8 hy => by rw [e _ (by omega) (by omega)]; exact l2 y h8 hy⟩
theorem zMo.newK (h : zMo Γ V c md τ κ E) {q n : Nat} {f : Nat → Int} (hV : V q = some (64, za Γ.2.1 0 n f)) (hc : zc f) (hn : n ≤ 80) {g : Nat → Int} (hg : ∀ k, k < n → f k = g k) : zMo Γ (zu V (c 60) 60 (zMc c (zmu md 64 q) (κ 0) (τ 26) (τ 28) (τ 29) (τ 36))) c (zmu md 64 q) (zly (zf τ 25 n) 200 n g) κ E ∧ zag (fun x => x ≠ 60) V (zu V (c 60) 60 (zMc c (zmu md 64 q) (κ 0) (τ 26) (τ 28) (τ 29) (τ 36))) := by
  obtain ⟨g1, g2⟩ := h.c0.newK ⟨f, hV, hc⟩ hn
  have e : ∀ j, j ≠ 25 → ¬ (200 ≤ j ∧ j < 200 + n) → zly (zf τ 25 n) 200 n g j = τ j := fun j h1 h2 => by rw [zly_ne h2, zf_ne h1]
  have e9 : zly (zf τ 25 n) 200 n g 25 = n := by rw [zly_ne (by omega)]; exact zf_eq
  refine ⟨(g1.sig (τ' := zly (zf τ 25 n) 200 n g) (fun j hj => zly_ne (by omega))).mk ?_, g2⟩
  obtain ⟨⟨f0, a1, a0, a2⟩, bz, ⟨d1, d2⟩, ⟨gb, e1, e0, e2⟩, ⟨k, l1, l0, l2⟩⟩ := h.ct
  refine ⟨⟨f0, ?_, a0, fun a ha => by rw [e _ (by omega) (by omega)]; exact a2 a ha⟩, fun a ha => ?_, ⟨by rw [e 46 (by omega) (by omega)]; exact d1, fun i hi => by rw [e _ (by omega) (by omega)]; exact d2 i hi⟩, ?_, ?_⟩
  · rw [zmu_ne (by decide)]
    exact g2 _ _ _ a1 (by decide)
  · rw [e 46 (by omega) (by omega)] at ha
    rw [e _ (by omega) (by omega)]
    exact bz a ha
  · rw [e 24 (by omega) (by omega), zmu_ne (by decide)]
    exact ⟨_, g2 _ _ _ e1 (by decide), e0, fun y h8 hy => by rw [e _ (by omega) (by omega)]; exact e2 y h8 hy⟩
  · rw [e9, Int.toNat_natCast, zmu_eq]
    exact ⟨f, g2 _ _ _ hV (by decide), hc, fun y h8 hy => by rw [zly_at hy]; exact hg y hy⟩
theorem zMo.newW (h : zMo Γ V c md τ κ E) {i q : Nat} (hi : i < 6) {cp l p m st mk : Int} (hq : zWm Γ V (70 + i) q (κ 0) cp l p m st mk) : zMo Γ (zu V (c 62) 62 (zq Γ.2.1 4 6 (zg (fun j => some (md (70 + j))) i q))) c (zmu md (70 + i) q) (zf (zw4 τ i cp l p m) (40 + i) st) (zf (zf κ (10 + i) st) (20 + i) mk) E ∧ zag (fun x => x ≠ 62) V (zu V (c 62) 62 (zq Γ.2.1 4 6 (zg (fun j => some (md (70 + j))) i q))) := by
  obtain ⟨g1, g2⟩ := h.c0.newW hi hq
  have e : ∀ j, 24 ≤ j → j ≠ 40 + i → zf (zw4 τ i cp l p m) (40 + i) st j = τ j := fun j h1 h2 => by rw [zf_ne h2, zw4_hi hi h1]
  refine ⟨(g1.sig (τ' := zf (zw4 τ i cp l p m) (40 + i) st) (fun j hj => zf_ne (by omega))).mk ?_, g2⟩
  obtain ⟨⟨f0, a1, a0, a2⟩, bz, ⟨d1, d2⟩, ⟨gb, e1, e0, e2⟩, ⟨k, l1, l0, l2⟩⟩ := h.ct
  have ek : ∀ j, j < 10 → zf (zf κ (10 + i) st) (20 + i) mk j = κ j := fun j hj => by rw [zf_ne (by omega), zf_ne (by omega)]
  refine ⟨?_, fun a ha => ?_, ⟨?_, fun j hj => ?_⟩, ?_, ?_⟩
  · rw [ek 1 (by omega), zmu_ne (by omega)]
    exact ⟨f0, g2 _ _ _ a1 (by decide), a0, fun a ha => by rw [e _ (by omega) (by omega)]; exact a2 a ha⟩
  · rw [e 46 (by omega) (by omega)] at ha
    rw [e _ (by omega) (by omega)]
    exact bz a ha
  · rw [ek 0 (by omega), e 46 (by omega) (by omega)]
    exact d1
  · by_cases hj2 : j = i
    · rw [hj2, zf_ne (by omega), zf_eq, zf_eq]
    · rw [zf_ne (by omega), zf_ne (by omega), e _ (by omega) (by omega)]
      exact d2 j hj
  · rw [e 24 (by omega) (by omega), zmu_ne (by omega)]
    exact ⟨gb, g2 _ _ _ e1 (by decide), e0, fun y h8 hy => by rw [e _ (by omega) (by omega)]; exact e2 y h8 hy⟩
  · rw [e 25 (by omega) (by omega), zmu_ne (by omega)]
    exact ⟨k, g2 _ _ _ l1 (by decide), l0, fun y h8 hy => by rw [e _ (by omega) (by omega)]; exact l2 y h8 hy⟩
theorem zMo.grow (h : zMo Γ V c md τ κ E) {q n : Nat} {en E' : Int} {f : Nat → Int} (hV : V q = some (61, za Γ.2.1 0 n f)) (hc : zc f) (hf : ∀ a : Nat, a < n → f a = τ (1000 + a)) (hn : κ 0 ≤ en ∧ en ≤ n ∧ en ≤ E' ∧ n ≤ 7000) : zMo Γ (zu V (c 60) 60 (zMc c (zmu md 61 q) en (τ 26) (τ 28) (τ 29) (τ 36))) c (zmu md 61 q) (zf τ 46 en) (zf (zf κ 0 en) 1 n) E' ∧ zag (fun x => x ≠ 60) V (zu V (c 60) 60 (zMc c (zmu md 61 q) en (τ 26) (τ 28) (τ 29) (τ 36))) := by
  obtain ⟨g1, g2⟩ := h.c0.grow ⟨f, hV, hc⟩ hn
  have e : ∀ j, j ≠ 46 → zf τ 46 en j = τ j := fun j h1 => zf_ne h1
  have e1 : zf (zf κ 0 en) 1 n 1 = (n : Int) := zf_eq
  have e0 : zf (zf κ 0 en) 1 n 0 = en := rfl
  refine ⟨(g1.sig (τ' := zf τ 46 en) (fun j hj => zf_ne (by omega))).mk ?_, g2⟩
  obtain ⟨-, bz, ⟨d1, d2⟩, ⟨gb, x1, x0, x2⟩, ⟨k, l1, l0, l2⟩⟩ := h.ct
  refine ⟨?_, fun a ha => ?_, ⟨?_, fun j hj => ?_⟩, ?_, ?_⟩
  · rw [e1, Int.toNat_natCast, zmu_eq]
    exact ⟨f, g2 _ _ _ hV (by decide), hc, fun a ha => by rw [e _ (by omega)]; exact hf a ha⟩
  · rw [zf_eq] at ha
    rw [e _ (by omega)]
    exact bz a (by omega)
  · rw [e0, zf_eq]
  · rw [zf_ne (by omega), zf_ne (by omega), e _ (by omega)]
    exact d2 j hj
  · rw [e 24 (by omega), zmu_ne (by decide)]
    exact ⟨gb, g2 _ _ _ x1 (by decide), x0, fun y h8 hy => by rw [e _ (by omega)]; exact x2 y h8 hy⟩
  · rw [e 25 (by omega), zmu_ne (by decide)]
    exact ⟨k, g2 _ _ _ l1 (by decide), l0, fun y h8 hy => by rw [e _ (by omega)]; exact l2 y h8 hy⟩
end ZMK2
theorem zr_copyw {C : zC} {l0 : Launch} {Γ0 : zGam} {n0 : Nat} {own : String} {cc : ByteArray} {ws : List Cond} {d : Nat} {ret : Option FieldType} {Post : Option Value → zV → Prop} {V : zV} {kc ks pc : Nat} {lv : List (Nat × Value)} {rest : List Value} (X : zK C l0 Γ0 n0 own cc ws d ret Post) (n' : Nat) {index a0 a tg0 tg n0 n1 : Nat} {f g : Nat → Int} {sp dp n : Int} (h0 : V a0 = some (tg0, za Γ0.2.1 0 n0 f)) (h1 : V a = some (tg, za Γ0.2.1 0 n1 g)) (hlink : Cond.methodLink own index arraycopyName ∈ ws) (hnat : Cond.native arraycopyName ∈ ws) (hstat : Cond.static arraycopyName ∈ ws) (hini : Cond.initialized "java/lang/System" ∈ ws)
    (hr : 0 ≤ sp ∧ 0 ≤ dp ∧ 0 ≤ n ∧ sp + n ≤ n0 ∧ dp + n ≤ n1 ∧ n0 ≤ 100000 ∧ n1 ≤ 100000) (hd : 2 ≤ d) (hcat : (rest.map fun v => v.category).sum ≤ 8) (hdg : decode cc pc = .ok (.invokestatic index, 3)) (hn : pc + 3 = n') (kk : zG C (zu V a tg (za Γ0.2.1 0 n1 (zcp f g sp.toNat dp.toNat n.toNat))) kc ks n' lv rest) : zG C V kc ks pc lv (.int (zI n) :: .int (zI dp) :: .ref a :: .int (zI sp) :: .ref a0 :: rest) := by
  obtain ⟨⟨p, l, e, R, s, m, args, below, meth, c⟩, Γ, ⟨nL, mc, ms⟩, Q⟩ := C
  obtain ⟨hx, hb, hml, hown, hts, hO, hB0, hlk, hret, hmc, hms, hdf, hdl, hQ, rfl, rfl, rfl⟩ := X
  subst hn
  intro H locs cells slots ls hV hS hl hcc hs
  obtain ⟨W0, hL, hP, hD⟩ := hV
  obtain ⟨q0, hq0⟩ := (hL _ _).mp (zd_of h0)
  obtain ⟨q1, hq1⟩ := (hL _ _).mp (zd_of h1)
  have c1 : (zI sp).toNatClampNeg = sp.toNat := zI_clamp hr.1 (by omega)
  have c2 : (zI dp).toNatClampNeg = dp.toNat := zI_clamp hr.2.1 (by omega)
  have c3 : (zI n).toNatClampNeg = n.toNat := zI_clamp hr.2.2.1 (by omega)
  have ng : ∀ z : Int, 0 ≤ z → z ≤ 100000 → ¬ zI z < 0 := fun z hz hz2 => by rw [← zI_0, zI_lt (by omega) (by omega)]; omega
  refine va_copyi hx hb (hml.trans hl.1.symm) hown (hts _ hlink) (hts _ hnat) (hts _ hstat) (hts _ hini) hO.1 hP hD hS q0 q1 0 0 (ty := .int) hq0 hq1 rfl rfl rfl (ng _ hr.1 (by omega)) (ng _ hr.2.1 (by omega)) (ng _ hr.2.2.1 (by omega)) (by rw [c1, c3]; omega) (by rw [c2, c3]; omega) (fun i _ => rfl) (by omega) ?_ hdg (fun H1 locs1 hP1 hD1 hS1 => ?_)
  · have e : nativeFrameWords "java/lang/System" "arraycopy" 5 ≤ 60 := by decide +kernel
    omega
  · rw [c1, c2, c3] at hP1 hD1
    have e : va_cpy (fun j => zI (f j)) (fun j => zI (g j)) sp.toNat dp.toNat n.toNat = fun j => zI (zcp f g sp.toNat dp.toNat n.toNat j) := by
      funext j
      unfold va_cpy zcp
      split <;> rfl
    rw [e] at hP1 hD1
    exact kk H1 locs1 cells slots ls ⟨_, by rw [zd_zu]; exact hL.set hD hq1, hP1, hD1⟩ hS1 hl hcc hs
theorem zc_zcp {f g : Nat → Int} (hf : zc f) (hg : zc g) {a b n : Nat} : zc (zcp f g a b n) := by
  intro j
  unfold zcp
  split
  · exact hf _
  · exact hg _
end
section
/-! the model: its helpers -/
theorem zmf_36 {τ : Nat → Int} {k : Int} (h : τ 27 = τ 28 - τ 29) : zmf τ (τ 26) (τ 28) (τ 29) k = zf τ 36 k := by
  funext j
  unfold zmf zf
  by_cases h1 : j = 26
  · simp [h1]
  · by_cases h2 : j = 27
    · simp [h2, h]
    · by_cases h3 : j = 28
      · simp [h3]
      · by_cases h4 : j = 29
        · simp [h4]
        · simp [h1, h2, h3, h4]
theorem zdn_zf {τ : Nat → Int} : zf τ (30 + 0) (τ 30 + 1) = zdn τ := by
  funext j
  unfold zdn zx4 zf
  by_cases h1 : j = 30
  · simp [h1]
  · by_cases h2 : j = 31
    · simp [h2]
    · by_cases h3 : j = 32
      · simp [h3]
      · by_cases h4 : j = 33
        · simp [h4]
        · simp [h1, h2, h3, h4]
theorem zrf_zf {τ : Nat → Int} : zf τ (30 + 1) (τ 31 + 1) = zrf τ := by
  funext j
  unfold zrf zx4 zf
  by_cases h1 : j = 30
  · simp [h1]
  · by_cases h2 : j = 31
    · simp [h2]
    · by_cases h3 : j = 32
      · simp [h3]
      · by_cases h4 : j = 33
        · simp [h4]
        · simp [h1, h2, h3, h4]
theorem zv5_2 {V : zV} {a tg : Nat} {aC : Nat → ClassId} {x1 x2 x3 x4 x5 x : Int} : zu V a tg (za aC 0 5 (zf (zr5 x1 x2 x3 x4 x5) (2 : Int).toNat x)) = zu V a tg (za aC 0 5 (zr5 x1 x2 x x4 x5)) := by
  rw [show (2 : Int).toNat = 2 from rfl, zr5_2]
theorem zv5_3 {V : zV} {a tg : Nat} {aC : Nat → ClassId} {x1 x2 x3 x4 x5 x : Int} : zu V a tg (za aC 0 5 (zf (zr5 x1 x2 x3 x4 x5) (3 : Int).toNat x)) = zu V a tg (za aC 0 5 (zr5 x1 x2 x3 x x5)) := by
  rw [show (3 : Int).toNat = 3 from rfl, zr5_3]
theorem zv5_4 {V : zV} {a tg : Nat} {aC : Nat → ClassId} {x1 x2 x3 x4 x5 x : Int} : zu V a tg (za aC 0 5 (zf (zr5 x1 x2 x3 x4 x5) (4 : Int).toNat x)) = zu V a tg (za aC 0 5 (zr5 x1 x2 x3 x4 x)) := by
  rw [show (4 : Int).toNat = 4 from rfl, zr5_4]
theorem zv5_n {V : zV} {a tg : Nat} {aC : Nat → ClassId} {x1 x2 x3 x4 x5 : Int} : zu V a tg (za aC 0 5 (zf (zf (zf (zf (zf (fun _ => 0) (0 : Int).toNat x1) (1 : Int).toNat x2) (2 : Int).toNat x3) (3 : Int).toNat x4) (4 : Int).toNat x5)) = zu V a tg (za aC 0 5 (zr5 x1 x2 x3 x4 x5)) := congrArg (fun g => zu V a tg (za aC 0 5 g)) zr5_new
theorem znz {y : Int} (h : y = 0 ∨ y = 1) : narrow .boolean (.int (zI y)) = .int (zI y) := by
  rcases h with rfl | rfl <;> rfl
theorem zc.b {f : Nat → Int} (h : zc f) (j : Nat) : 0 ≤ f j ∧ f j ≤ 255 := h j
/-- what the model leaves as it is -/
def zfm (V V' : zV) : Prop := zag (fun t => t < 60 ∧ t ≠ 7) V V'
set_option maxRecDepth 100000 in
set_option maxHeartbeats 4000000 in
theorem m_X8_isNo (l : Launch) (Γ : zGam) {V : zV} {x a b : Int} (hx : -2147483648 ≤ x ∧ x ≤ 2147483647) (ha : -2147483648 ≤ a ∧ a ≤ 2147483647) (hb : -2147483648 ≤ b ∧ b ≤ 2147483647) : zM l Γ 0 yX8_isNo wsX8_isNo 0 0 V [.int (zI (x)), .int (zI (a)), .int (zI (b))] (fun rv V' => (∃ y : Int, rv = some (.int (zI y)) ∧ ((y = 0 ∧ a ≤ x ∧ x ≤ b) ∨ (y = 1 ∧ ¬ (a ≤ x ∧ x ≤ b)))) ∧ V' = V) := by
  refine zM_of (cc := cX8_isNo) (nL := 3) (ret := (some .boolean)) (own := RX8) (by decide +kernel) rfl rfl (Nat.le_of_ble_eq_true rfl) (fun C X hi0 => ?_)
  show zG C V 0 0 0 [(0, .int (zI (x))), (1, .int (zI (a))), (2, .int (zI (b)))] []
  refine zr_iload_n X 1 0 dX8_isNo_0 rfl rfl ?_
  refine zr_iload_n X 2 1 dX8_isNo_1 rfl rfl ?_
  refine zr_icmp_lt X 10 5 dX8_isNo_2 rfl rfl (by omega) (by omega) (fun bq1 => ?_) (fun bq1 => ?_)
  · refine zr_iconst X 11 dX8_isNo_10 rfl ?_
    refine zr_goto X 15 dX8_isNo_11 rfl ?_
    exact zr_zret X rfl rfl ⟨⟨1, rfl, by omega⟩, rfl⟩ dX8_isNo_15
  · refine zr_iload_n X 6 0 dX8_isNo_5 rfl rfl ?_
    refine zr_iload_n X 7 2 dX8_isNo_6 rfl rfl ?_
    refine zr_icmp_le X 14 10 dX8_isNo_7 rfl rfl (by omega) (by omega) (fun bq2 => ?_) (fun bq2 => ?_)
    · refine zr_iconst X 15 dX8_isNo_14 rfl ?_
      exact zr_zret X rfl rfl ⟨⟨0, rfl, by omega⟩, rfl⟩ dX8_isNo_15
    · refine zr_iconst X 11 dX8_isNo_10 rfl ?_
      refine zr_goto X 15 dX8_isNo_11 rfl ?_
      exact zr_zret X rfl rfl ⟨⟨1, rfl, by omega⟩, rfl⟩ dX8_isNo_15
set_option maxRecDepth 100000 in
set_option maxHeartbeats 4000000 in
theorem m_X8_isNoWindow (l : Launch) (Γ : zGam) {V : zV} {x : Int} (hx : -2147483648 ≤ x ∧ x ≤ 2147483647) : zM l Γ 1 yX8_isNoWindow wsX8_isNoWindow 0 0 V [.int (zI (x))] (fun rv V' => (∃ y : Int, rv = some (.int (zI y)) ∧ ((y = 0 ∧ 0 ≤ x ∧ x ≤ 5) ∨ (y = 1 ∧ ¬ (0 ≤ x ∧ x ≤ 5)))) ∧ V' = V) := by
  refine zM_of (cc := cX8_isNoWindow) (nL := 1) (ret := (some .boolean)) (own := RX8) (by decide +kernel) rfl rfl (Nat.le_of_ble_eq_true rfl) (fun C X hi0 => ?_)
  show zG C V 0 0 0 [(0, .int (zI (x)))] []
  refine zr_iload_n X 1 0 dX8_isNoWindow_0 rfl rfl ?_
  refine zr_iconst X 2 dX8_isNoWindow_1 rfl ?_
  refine zr_iconst X 3 dX8_isNoWindow_2 rfl ?_
  refine zr_callS (kc' := 0) (ks' := 0) X 6 3 (m_X8_isNo l Γ (V := V) (x := x) (a := 0) (b := 5) (by omega) (by omega) (by omega)) gX8_isNoWindow_X8_isNo rfl (by decide +kernel) rfl (by decide) rfl (Nat.le_of_ble_eq_true rfl) dX8_isNoWindow_3 rfl (by omega) (by omega) (fun rv1 V2 hp3 => ?_)
  obtain ⟨⟨no4, no4e, no4a⟩, no4v⟩ := hp3
  rw [no4e, no4v]
  show zG C V 0 0 6 [(0, .int (zI (x)))] [.int (zI (no4))]
  exact zr_zret X rfl (znz (by omega)) ⟨⟨no4, rfl, by omega⟩, rfl⟩ dX8_isNoWindow_6
set_option maxRecDepth 100000 in
set_option maxHeartbeats 4000000 in
theorem m_X8_isNoSource (l : Launch) (Γ : zGam) {V : zV} {x : Int} (hx : -2147483648 ≤ x ∧ x ≤ 2147483647) : zM l Γ 1 yX8_isNoSource wsX8_isNoSource 0 0 V [.int (zI (x))] (fun rv V' => (∃ y : Int, rv = some (.int (zI y)) ∧ ((y = 0 ∧ 0 ≤ x ∧ x ≤ 7) ∨ (y = 1 ∧ ¬ (0 ≤ x ∧ x ≤ 7)))) ∧ V' = V) := by
  refine zM_of (cc := cX8_isNoSource) (nL := 1) (ret := (some .boolean)) (own := RX8) (by decide +kernel) rfl rfl (Nat.le_of_ble_eq_true rfl) (fun C X hi0 => ?_)
  show zG C V 0 0 0 [(0, .int (zI (x)))] []
  refine zr_iload_n X 1 0 dX8_isNoSource_0 rfl rfl ?_
  refine zr_iconst X 2 dX8_isNoSource_1 rfl ?_
  refine zr_bipush X 4 (7) dX8_isNoSource_2 rfl (by decide) ?_
  refine zr_callS (kc' := 0) (ks' := 0) X 7 3 (m_X8_isNo l Γ (V := V) (x := x) (a := 0) (b := 7) (by omega) (by omega) (by omega)) gX8_isNoSource_X8_isNo rfl (by decide +kernel) rfl (by decide) rfl (Nat.le_of_ble_eq_true rfl) dX8_isNoSource_4 rfl (by omega) (by omega) (fun rv1 V2 hp3 => ?_)
  obtain ⟨⟨no4, no4e, no4a⟩, no4v⟩ := hp3
  rw [no4e, no4v]
  show zG C V 0 0 7 [(0, .int (zI (x)))] [.int (zI (no4))]
  exact zr_zret X rfl (znz (by omega)) ⟨⟨no4, rfl, by omega⟩, rfl⟩ dX8_isNoSource_7
set_option maxRecDepth 100000 in
set_option maxHeartbeats 4000000 in
theorem m_X8_length (l : Launch) (Γ : zGam) {V : zV} {w tg : Nat} {st cp li po mk : Int} (hw : V w = some (tg, za Γ.2.1 0 5 (zr5 st cp li po mk))) (hr : 0 ≤ po ∧ po ≤ li ∧ li ≤ 40) : zM l Γ 0 yX8_length wsX8_length 0 0 V [.ref w] (fun rv V' => rv = some (.int (zI (li - po))) ∧ V' = V) := by
  refine zM_of (cc := cX8_length) (nL := 1) (ret := (some .int)) (own := RX8) (by decide +kernel) rfl rfl (Nat.le_of_ble_eq_true rfl) (fun C X hi0 => ?_)
  show zG C V 0 0 0 [(0, .ref w)] []
  refine zr_aload_n X 1 0 dX8_length_0 rfl rfl ?_
  refine zr_iconst X 2 dX8_length_1 rfl ?_
  refine zr_iald X 3 hw (by omega) dX8_length_2 rfl ?_
  show zG C V 0 0 3 [(0, .ref w)] [.int (zI (li))]
  refine zr_aload_n X 4 0 dX8_length_3 rfl rfl ?_
  refine zr_iconst X 5 dX8_length_4 rfl ?_
  refine zr_iald X 6 hw (by omega) dX8_length_5 rfl ?_
  show zG C V 0 0 6 [(0, .ref w)] [.int (zI (po)), .int (zI (li))]
  refine zr_isub X 7 dX8_length_6 rfl ?_
  exact zr_iret X rfl ⟨rfl, rfl⟩ dX8_length_7
set_option maxRecDepth 100000 in
set_option maxHeartbeats 4000000 in
theorem m_X8_markOf (l : Launch) (Γ : zGam) {V : zV} {w tg : Nat} {st cp li po mk : Int} (hw : V w = some (tg, za Γ.2.1 0 5 (zr5 st cp li po mk))) (hr : 0 ≤ po ∧ po ≤ li ∧ li ≤ 40) (hmk : -1 ≤ mk ∧ mk ≤ 40) : zM l Γ 0 yX8_markOf wsX8_markOf 0 0 V [.ref w] (fun rv V' => (∃ y : Int, rv = some (.int (zI y)) ∧ ((mk < 0 ∧ y = -9) ∨ (0 ≤ mk ∧ y = mk))) ∧ V' = V) := by
  refine zM_of (cc := cX8_markOf) (nL := 1) (ret := (some .int)) (own := RX8) (by decide +kernel) rfl rfl (Nat.le_of_ble_eq_true rfl) (fun C X hi0 => ?_)
  show zG C V 0 0 0 [(0, .ref w)] []
  refine zr_aload_n X 1 0 dX8_markOf_0 rfl rfl ?_
  refine zr_iconst X 2 dX8_markOf_1 rfl ?_
  refine zr_iald X 3 hw (by omega) dX8_markOf_2 rfl ?_
  show zG C V 0 0 3 [(0, .ref w)] [.int (zI (mk))]
  refine zr_if_ge X 11 6 dX8_markOf_3 rfl rfl (by omega) (fun bq1 => ?_) (fun bq1 => ?_)
  · refine zr_aload_n X 12 0 dX8_markOf_11 rfl rfl ?_
    refine zr_iconst X 13 dX8_markOf_12 rfl ?_
    refine zr_iald X 14 hw (by omega) dX8_markOf_13 rfl ?_
    show zG C V 0 0 14 [(0, .ref w)] [.int (zI (mk))]
    exact zr_iret X rfl ⟨⟨mk, rfl, by omega⟩, rfl⟩ dX8_markOf_14
  · refine zr_bipush X 8 (-9) dX8_markOf_6 rfl (by decide) ?_
    refine zr_goto X 14 dX8_markOf_8 rfl ?_
    exact zr_iret X rfl ⟨⟨-9, rfl, by omega⟩, rfl⟩ dX8_markOf_14
set_option maxRecDepth 100000 in
set_option maxHeartbeats 4000000 in
theorem m_X8_place (l : Launch) (Γ : zGam) {V : zV} {w tg : Nat} {st cp li po mk : Int} {p1 l1 m1 : Int} (hw : V w = some (tg, za Γ.2.1 0 5 (zr5 st cp li po mk))) (hr : 0 ≤ po ∧ po ≤ li ∧ li ≤ 40) : zM l Γ 0 yX8_place wsX8_place 0 0 V [.ref w, .int (zI (p1)), .int (zI (l1)), .int (zI (m1))] (fun rv V' => rv = none ∧ V' = zu V w tg (za Γ.2.1 0 5 (zr5 st cp l1 p1 m1))) := by
  refine zM_of (cc := cX8_place) (nL := 4) (ret := none) (own := RX8) (by decide +kernel) rfl rfl (Nat.le_of_ble_eq_true rfl) (fun C X hi0 => ?_)
  show zG C V 0 0 0 [(0, .ref w), (1, .int (zI (p1))), (2, .int (zI (l1))), (3, .int (zI (m1)))] []
  refine zr_aload_n X 1 0 dX8_place_0 rfl rfl ?_
  refine zr_iconst X 2 dX8_place_1 rfl ?_
  refine zr_iload_n X 3 1 dX8_place_2 rfl rfl ?_
  refine zr_iast X 4 hw (by omega) dX8_place_3 rfl ?_
  refine zr_view zv5_3 ?_
  show zG C (zu V w tg (za Γ.2.1 0 5 (zr5 st cp li p1 mk))) 0 0 4 [(0, .ref w), (1, .int (zI (p1))), (2, .int (zI (l1))), (3, .int (zI (m1)))] []
  refine zr_aload_n X 5 0 dX8_place_4 rfl rfl ?_
  refine zr_iconst X 6 dX8_place_5 rfl ?_
  refine zr_iload_n X 7 2 dX8_place_6 rfl rfl ?_
  refine zr_iast X 8 (zu_eq _ _ _ _) (by omega) dX8_place_7 rfl ?_
  refine zr_view zv5_2 ?_
  refine zr_view (zu_zu _ _ _ _ _ _) ?_
  show zG C (zu V w tg (za Γ.2.1 0 5 (zr5 st cp l1 p1 mk))) 0 0 8 [(0, .ref w), (1, .int (zI (p1))), (2, .int (zI (l1))), (3, .int (zI (m1)))] []
  refine zr_aload_n X 9 0 dX8_place_8 rfl rfl ?_
  refine zr_iconst X 10 dX8_place_9 rfl ?_
  refine zr_iload_n X 11 3 dX8_place_10 rfl rfl ?_
  refine zr_iast X 12 (zu_eq _ _ _ _) (by omega) dX8_place_11 rfl ?_
  refine zr_view zv5_4 ?_
  refine zr_view (zu_zu _ _ _ _ _ _) ?_
  show zG C (zu V w tg (za Γ.2.1 0 5 (zr5 st cp l1 p1 m1))) 0 0 12 [(0, .ref w), (1, .int (zI (p1))), (2, .int (zI (l1))), (3, .int (zI (m1)))] []
  exact zr_vret X rfl ⟨rfl, rfl⟩ dX8_place_12
set_option maxRecDepth 100000 in
set_option maxHeartbeats 4000000 in
theorem m_X8_letter (l : Launch) (Γ : zGam) {V : zV} {x k : Int} (hx : 0 ≤ x ∧ x ≤ 2147483647) (hk : 0 ≤ k ∧ k ≤ 1000) : zM l Γ 0 yX8_letter wsX8_letter 0 0 V [.int (zI (x)), .int (zI (k))] (fun rv V' => (∃ y : Int, rv = some (.int (zI y)) ∧ 97 ≤ y ∧ y ≤ 99 ∧ y = 97 + zlt x k.toNat % 3) ∧ V' = V) := by
  refine zM_of (cc := cX8_letter) (nL := 4) (ret := (some .int)) (own := RX8) (by decide +kernel) rfl rfl (Nat.le_of_ble_eq_true rfl) (fun C X hi0 => ?_)
  show zG C V 0 0 0 [(0, .int (zI (x))), (1, .int (zI (k)))] []
  refine zr_iload_n X 1 0 dX8_letter_0 rfl rfl ?_
  refine zr_istore_n X 2 [(2, .int (zI (x))), (0, .int (zI (x))), (1, .int (zI (k)))] dX8_letter_1 rfl (by decide) rfl ?_
  refine zr_iconst X 3 dX8_letter_2 rfl ?_
  refine zr_istore_n X 4 [(3, .int (zI (0))), (2, .int (zI (x))), (0, .int (zI (x))), (1, .int (zI (k)))] dX8_letter_3 rfl (by decide) rfl ?_
  refine zr_sub [0, 1, 3, 2] [(3, .int (zI (0))), (2, .int (zI (x))), (1, .int (zI (k))), (0, .int (zI (x)))] rfl ?_
  have loop : ∀ (N : Nat) (x1 : Int) (j : Int), 0 ≤ x1 ∧ x1 ≤ 2147483647 ∧ 0 ≤ j ∧ j ≤ k ∧ x1 = zlt x j.toNat → (k - j).toNat = N → zG C V 0 0 4 [(3, .int (zI (j))), (2, .int (zI (x1))), (1, .int (zI (k))), (0, .int (zI (x)))] [] := by
    intro N
    induction N using Nat.strongRecOn with
    | _ N ih =>
    intro x1 j hI hN
    obtain ⟨hI1, hI2, hI3, hI4, hI5⟩ := id hI
    refine zr_iload_n X 5 0 dX8_letter_4 rfl rfl ?_
    refine zr_iload_n X 6 2 dX8_letter_5 rfl rfl ?_
    refine zr_icmp_ge X 19 9 dX8_letter_6 rfl rfl (by omega) (by omega) (fun bq1 => ?_) (fun bq1 => ?_)
    · refine zr_bipush X 21 (97) dX8_letter_19 rfl (by decide) ?_
      refine zr_iload_n X 22 1 dX8_letter_21 rfl rfl ?_
      refine zr_iconst X 23 dX8_letter_22 rfl ?_
      refine zr_irem X 24 dX8_letter_23 rfl (by omega) (by omega) ?_
      refine zr_iadd X 25 dX8_letter_24 rfl ?_
      exact zr_iret X rfl ⟨⟨97 + (x1 % 3), rfl, by omega, by omega, by rw [hI5, show j = k by omega]⟩, rfl⟩ dX8_letter_25
    · refine zr_iload_n X 10 1 dX8_letter_9 rfl rfl ?_
      refine zr_iconst X 11 dX8_letter_10 rfl ?_
      refine zr_idiv X 12 dX8_letter_11 rfl (by omega) (by omega) ?_
      refine zr_istore_n X 13 [(2, .int (zI (x1 / 3))), (3, .int (zI (j))), (1, .int (zI (k))), (0, .int (zI (x)))] dX8_letter_12 rfl (by decide) rfl ?_
      refine zr_iinc X 16 1 [(3, .int (zI (j + 1))), (2, .int (zI (x1 / 3))), (1, .int (zI (k))), (0, .int (zI (x)))] dX8_letter_13 rfl rfl (by decide) rfl ?_
      refine zr_goto X 4 dX8_letter_16 rfl ?_
      exact ih _ (by omega) (x1 / 3) (j + 1) ⟨by omega, by omega, by omega, by omega, by rw [hI5, show (j + 1).toNat = j.toNat + 1 by omega]; rfl⟩ rfl
  exact loop _ x 0 ⟨by omega, by omega, by omega, by omega, rfl⟩ rfl
set_option maxRecDepth 100000 in
set_option maxHeartbeats 4000000 in
theorem m_X8_told (l : Launch) (Γ : zGam) {V : zV}{a ta n : Nat} {f : Nat → Int} {fr to : Int} (ha : V a = some (ta, za Γ.2.1 0 n f)) (hac : zc f) (han : n ≤ 200) (h7 : ta ≠ 7) (hft : 0 ≤ fr ∧ fr ≤ 200 ∧ to ≤ n ∧ -1000 ≤ to ∧ to - fr ≤ 160) : zM l Γ 8 yX8_told wsX8_told 3010 6300 V [.ref a, .int (zI (fr)), .int (zI (to))] (fun rv V' => ∃ z : Nat, rv = some (.ref z) ∧ zfr V V') := by
  have w0 : Cond.classLink RX8 66 RJ4 ∈ wsX8_told := by decide +kernel
  have w1 : Cond.instantiable RJ4 4 ∈ wsX8_told := by decide +kernel
  have w2 : Cond.initialized RJ4 ∈ wsX8_told := by decide +kernel
  have iJ4 : ∀ w ∈ u_ws RJ4 TJ4 4, w ∈ wsX8_told := by decide +kernel
  have w4 : Cond.initialized yJ4_init_da8c8.cls ∈ wsX8_told := by decide +kernel
  have w5 : Cond.methodLink RX8 68 yJ4_init_da8c8 ∈ wsX8_told := by decide +kernel
  have w6 : Cond.instanceMethod yJ4_init_da8c8 ∈ wsX8_told := by decide +kernel
  refine zM_of (cc := cX8_told) (nL := 5) (ret := (some (.object "java/lang/String"))) (own := RX8) (by decide +kernel) rfl rfl (Nat.le_of_ble_eq_true rfl) (fun C X hi0 => ?_)
  show zG C V 3010 6300 0 [(0, .ref a), (1, .int (zI (fr))), (2, .int (zI (to)))] []
  refine zr_new (kc' := (3010 - 1)) (ks' := (6300 - 4)) X 3 1 7 [.null, .int (zI (0)), .int (zI (0)), .int (zI (0))] tyJ4 rfl iJ4 tyJ4_ok w0 w1 w2 (zdf_J4) dX8_told_0 rfl (by omega) (by omega) (fun q1 hq2 => ?_)
  refine zr_dup X 4 dX8_told_3 rfl rfl ?_
  refine zr_callI (kc' := (3010 - 1) - 1) (ks' := (6300 - 4) - 16) X 7 0 (m_J4_init_da8c8 l Γ (zu_eq _ _ _ _)) gX8_told_J4_init_da8c8 rfl w4 w5 w6 rfl (by decide +kernel) rfl (by decide) rfl (Nat.le_of_ble_eq_true rfl) dX8_told_4 rfl (by omega) (by omega) (fun rv3 V4 hp5 => ?_)
  obtain ⟨hp5e, hp5b, hp5f⟩ := hp5
  rw [hp5e]
  have ff6 : zfr V V4 := zag.tr (P := fun t => t ≠ 7) (zag.rf.new hq2) hp5f
  have ff7 := zag.tr (P := fun t => t ≠ 7) zag.rf ff6
  show zG C V4 ((3010 - 1) - 1) ((6300 - 4) - 16) 7 [(0, .ref a), (1, .int (zI (fr))), (2, .int (zI (to)))] [.ref q1]
  refine zr_astore_n X 8 [(3, .ref q1), (0, .ref a), (1, .int (zI (fr))), (2, .int (zI (to)))] dX8_told_7 rfl (by decide) rfl ?_
  refine zr_iload_n X 9 2 dX8_told_8 rfl rfl ?_
  refine zr_istore X 11 [(4, .int (zI (fr))), (3, .ref q1), (0, .ref a), (1, .int (zI (fr))), (2, .int (zI (to)))] dX8_told_9 rfl (by decide) rfl ?_
  refine zr_room (3002 - 16) (6200 - 2 * 16) (by omega) (by omega) ?_
  have hb8 : zSB Γ V4 q1 (fr - fr) 16 := by
    rw [Int.sub_self]
    exact hp5b
  refine zr_sub [0, 1, 4, 3, 2] [(4, .int (zI (fr))), (3, .ref q1), (2, .int (zI (to))), (1, .int (zI (fr))), (0, .ref a)] rfl ?_
  have loop : ∀ (N : Nat) (V1 : zV) (k : Int) (cap : Nat), zSB Γ V1 q1 (k - fr) cap ∧ zfr V V1 ∧ fr ≤ k ∧ (k ≤ to ∨ k = fr) ∧ 16 ≤ cap ∧ cap ≤ 900 → (to - k).toNat = N → zG C V1 (3002 - cap) (6200 - 2 * cap) 11 [(4, .int (zI (k))), (3, .ref q1), (2, .int (zI (to))), (1, .int (zI (fr))), (0, .ref a)] [] := by
    intro N
    induction N using Nat.strongRecOn with
    | _ N ih =>
    intro V1 k cap hI hN
    obtain ⟨hI1, hI2, hI3, hI4, hI5, hI6⟩ := id hI
    have ha1 := hI2 _ _ _ ha h7
    refine zr_iload X 13 0 dX8_told_11 rfl rfl ?_
    refine zr_iload_n X 14 2 dX8_told_13 rfl rfl ?_
    refine zr_icmp_ge X 33 17 dX8_told_14 rfl rfl (by omega) (by omega) (fun bq9 => ?_) (fun bq9 => ?_)
    · refine zr_aload_n X 34 1 dX8_told_33 rfl rfl ?_
      have hp12r := hI1.rg
      refine zr_callVe (kc' := 3002 - cap - 2) (ks' := 6200 - 2 * cap - ((k - fr).toNat + 4)) X 37 0 (zsb_str l Γ hI1) gX8_told_J4_toString_0e30d rfl (by decide +kernel) rfl (by decide) hI1.cl rfl rfl (Nat.le_of_ble_eq_true rfl) dX8_told_34 rfl (by omega) (by omega) (fun rv10 V11 hp12 => ?_)
      obtain ⟨hp12z, hp12e, hp12n, hp12f⟩ := hp12
      rw [hp12e]
      have ff13 := zag.tr (P := fun t => t ≠ 7) hI2 hp12f
      show zG C V11 (3002 - cap - 2) (6200 - 2 * cap - ((k - fr).toNat + 4)) 37 [(4, .int (zI (k))), (3, .ref q1), (2, .int (zI (to))), (1, .int (zI (fr))), (0, .ref a)] [.ref hp12z]
      exact zr_aret X rfl (Or.inl ⟨_, rfl⟩) ⟨_, rfl, ff13⟩ dX8_told_37
    · refine zr_aload_n X 18 1 dX8_told_17 rfl rfl ?_
      refine zr_aload_n X 19 4 dX8_told_18 rfl rfl ?_
      refine zr_iload X 21 0 dX8_told_19 rfl rfl ?_
      refine zr_iald X 22 ha1 (by omega) dX8_told_21 rfl ?_
      have zb14 := zc.b hac (k).toNat
      refine zr_i2cI X 23 dX8_told_22 rfl (by omega) ?_
      have gr18r := hI1.rg
      obtain ⟨gr18p, gr18c, gr18k, gr18⟩ := zgrow1w (k - fr) cap (by omega)
      refine zr_callVe (kc' := 3002 - cap - gr18c) (ks' := 6200 - 2 * cap - gr18k) X 26 1 (zsb_app_c l Γ hI1 (x := (f (k).toNat)) (by omega) gr18) gX8_told_J4_append_cf468 rfl (by decide +kernel) rfl (by decide) hI1.cl rfl rfl (Nat.le_of_ble_eq_true rfl) dX8_told_23 rfl (by omega) (by omega) (fun rv15 V16 hp17 => ?_)
      obtain ⟨hp17e, hp17b, hp17f⟩ := hp17
      rw [hp17e]
      have gr18s := hp17b.rg
      have ff19 := zag.tr (P := fun t => t ≠ 7) hI2 hp17f
      show zG C V16 (3002 - cap - gr18c) (6200 - 2 * cap - gr18k) 26 [(4, .int (zI (k))), (3, .ref q1), (2, .int (zI (to))), (1, .int (zI (fr))), (0, .ref a)] [.ref q1]
      refine zr_pop X 27 dX8_told_26 rfl rfl ?_
      refine zr_iinc X 30 0 [(4, .int (zI (k + 1))), (3, .ref q1), (2, .int (zI (to))), (1, .int (zI (fr))), (0, .ref a)] dX8_told_27 rfl rfl (by decide) rfl ?_
      refine zr_goto X 11 dX8_told_30 rfl ?_
      refine zr_room (3002 - gr18p) (6200 - 2 * gr18p) (by omega) (by omega) ?_
      have hb20 : zSB Γ V16 q1 (k + 1 - fr) gr18p := by
        rw [show k + 1 - fr = k - fr + 1 by omega]
        exact hp17b
      exact ih _ (by omega) V16 (k + 1) gr18p ⟨hb20, ff19, by omega, by omega, by omega, by omega⟩ rfl
  exact loop _ V4 fr 16 ⟨hb8, ff7, by omega, by omega, by omega, by omega⟩ rfl
def zjo (f h : Nat → Int) (n : Nat) (k : Int) : Nat → Int := fun j => if (j : Int) < k then (if j < n then f j else h (j - n)) else 0
theorem zjo_0 {f h : Nat → Int} {n : Nat} : zjo f h n 0 = fun _ => 0 := by
  funext j
  unfold zjo
  rw [if_neg (by omega)]
theorem zjo_step {f h : Nat → Int} {n : Nat} {k v : Int} (hk : 0 ≤ k) (hv : v = if k.toNat < n then f k.toNat else h (k.toNat - n)) : zf (zjo f h n k) k.toNat v = zjo f h n (k + 1) := by
  funext j
  unfold zf zjo
  by_cases e : j = k.toNat
  · rw [if_pos e, if_pos (by omega), hv, e]
  · rw [if_neg e]
    by_cases c : (j : Int) < k
    · rw [if_pos c, if_pos (c := (j : Int) < k + 1) (by omega)]
    · rw [if_neg c, if_neg (c := (j : Int) < k + 1) (by omega)]
theorem zjo_zc {f h : Nat → Int} {n : Nat} {k : Int} (hf : zc f) (hh : zc h) : zc (zjo f h n k) := fun j => by
  unfold zjo
  split
  · split
    · exact hf _
    · exact hh _
  · exact zc_zero j
theorem zjo_in {f h : Nat → Int} {n : Nat} {k : Int} {j : Nat} (hj : (j : Int) < k) : zjo f h n k j = if j < n then f j else h (j - n) := if_pos hj
set_option maxRecDepth 100000 in
set_option maxHeartbeats 4000000 in
theorem m_X8_joined (l : Launch) (Γ : zGam) {V : zV}{a ta n : Nat} {f : Nat → Int} {b tb m : Nat} {h : Nat → Int} {tg : Nat} (ha : V a = some (ta, za Γ.2.1 0 n f)) (hac : zc f) (han : n ≤ 200) (hb : V b = some (tb, za Γ.2.1 0 m h)) (hbc : zc h) (hbn : m ≤ 200) : zM l Γ 0 yX8_joined wsX8_joined 1 (n + m) V [.ref a, .ref b] (fun rv V' => ∃ (q : Nat) (f' : Nat → Int), rv = some (.ref q) ∧ V' q = some (tg, za Γ.2.1 0 (n + m) f') ∧ zc f' ∧ zag zal V V' ∧ ∀ j, j < n + m → f' j = if j < n then f j else h (j - n)) := by
  have w0 : Cond.arrayClass .int ∈ wsX8_joined := by decide +kernel
  refine zM_of (cc := cX8_joined) (nL := 4) (ret := (some (.array .int))) (own := RX8) (by decide +kernel) rfl rfl (Nat.le_of_ble_eq_true rfl) (fun C X hi0 => ?_)
  show zG C V 1 (n + m) 0 [(0, .ref a), (1, .ref b)] []
  refine zr_aload_n X 1 0 dX8_joined_0 rfl rfl ?_
  refine zr_alen X 2 0 ha (by decide) dX8_joined_1 rfl ?_
  refine zr_aload_n X 3 1 dX8_joined_2 rfl rfl ?_
  refine zr_alen X 4 0 hb (by decide) dX8_joined_3 rfl ?_
  refine zr_iadd X 5 dX8_joined_4 rfl ?_
  refine zr_newai (kc' := (1 - 1)) (ks' := ((n + m) - ((n : Nat) + (m : Nat) : Int).toNat)) X 7 tg w0 (by omega) dX8_joined_5 rfl (by omega) (by omega) (fun q1 hq2 => ?_)
  refine zr_astore_n X 8 [(2, .ref q1), (0, .ref a), (1, .ref b)] dX8_joined_7 rfl (by decide) rfl ?_
  refine zr_iconst X 9 dX8_joined_8 rfl ?_
  refine zr_istore_n X 10 [(3, .int (zI (0))), (2, .ref q1), (0, .ref a), (1, .ref b)] dX8_joined_9 rfl (by decide) rfl ?_
  refine zr_view (V' := zu V q1 tg (za Γ.2.1 0 (n + m) (zjo f h n 0))) (by rw [zjo_0, show ((n : Int) + (m : Int)).toNat = n + m by omega]) ?_
  refine zr_sub [0, 1, 3, 2] [(3, .int (zI (0))), (2, .ref q1), (1, .ref b), (0, .ref a)] rfl ?_
  have loop : ∀ (N : Nat) (k : Int), 0 ≤ k ∧ k ≤ ((n + m : Nat) : Int) → (((n + m : Nat) : Int) - k).toNat = N → zG C (zu V q1 tg (za Γ.2.1 0 (n + m) (zjo f h n k))) (1 - 1) ((n + m) - ((n : Nat) + (m : Nat) : Int).toNat) 10 [(3, .int (zI (k))), (2, .ref q1), (1, .ref b), (0, .ref a)] [] := by
    intro N
    induction N using Nat.strongRecOn with
    | _ N ih =>
    intro k hI hN
    obtain ⟨hI2, hI3⟩ := id hI
    refine zr_iload_n X 11 0 dX8_joined_10 rfl rfl ?_
    refine zr_aload_n X 12 1 dX8_joined_11 rfl rfl ?_
    refine zr_alen X 13 0 (zu_eq _ _ _ _) (by decide) dX8_joined_12 rfl ?_
    refine zr_icmp_ge X 43 16 dX8_joined_13 rfl rfl (by omega) (by omega) (fun bq3 => ?_) (fun bq3 => ?_)
    · refine zr_aload_n X 44 1 dX8_joined_43 rfl rfl ?_
      exact zr_aret X rfl (Or.inr ⟨_, rfl⟩) ⟨q1, zjo f h n k, rfl, zu_eq _ _ _ _, zjo_zc hac hbc, zag.rf.new hq2, fun j hj => zjo_in (by omega)⟩ dX8_joined_44
    · refine zr_aload_n X 17 1 dX8_joined_16 rfl rfl ?_
      refine zr_iload_n X 18 0 dX8_joined_17 rfl rfl ?_
      refine zr_iload_n X 19 0 dX8_joined_18 rfl rfl ?_
      refine zr_aload_n X 20 3 dX8_joined_19 rfl rfl ?_
      refine zr_alen X 21 0 ((zu_ne (zne_new ha hq2)).trans ha) (by decide) dX8_joined_20 rfl ?_
      refine zr_icmp_ge X 30 24 dX8_joined_21 rfl rfl (by omega) (by omega) (fun bq4 => ?_) (fun bq4 => ?_)
      · refine zr_aload_n X 31 2 dX8_joined_30 rfl rfl ?_
        refine zr_iload_n X 32 0 dX8_joined_31 rfl rfl ?_
        refine zr_aload_n X 33 3 dX8_joined_32 rfl rfl ?_
        refine zr_alen X 34 0 ((zu_ne (zne_new ha hq2)).trans ha) (by decide) dX8_joined_33 rfl ?_
        refine zr_isub X 35 dX8_joined_34 rfl ?_
        refine zr_iald X 36 ((zu_ne (zne_new hb hq2)).trans hb) (by omega) dX8_joined_35 rfl ?_
        have zb5 := zc.b hbc (k - (n : Nat)).toNat
        refine zr_iast X 37 (zu_eq _ _ _ _) (by omega) dX8_joined_36 rfl ?_
        refine zr_view (zu_zu _ _ _ _ _ _) ?_
        refine zr_iinc X 40 0 [(3, .int (zI (k + 1))), (2, .ref q1), (1, .ref b), (0, .ref a)] dX8_joined_37 rfl rfl (by decide) rfl ?_
        refine zr_goto X 10 dX8_joined_40 rfl ?_
        rw [zjo_step (by omega) (by first | (rw [if_pos (by omega)]) | (rw [if_neg (by omega)]; congr 1; omega))]
        exact ih _ (by omega) (k + 1) ⟨by omega, by omega⟩ rfl
      · refine zr_aload_n X 25 3 dX8_joined_24 rfl rfl ?_
        refine zr_iload_n X 26 0 dX8_joined_25 rfl rfl ?_
        refine zr_iald X 27 ((zu_ne (zne_new ha hq2)).trans ha) (by omega) dX8_joined_26 rfl ?_
        have zb6 := zc.b hac (k).toNat
        refine zr_goto X 36 dX8_joined_27 rfl ?_
        refine zr_iast X 37 (zu_eq _ _ _ _) (by omega) dX8_joined_36 rfl ?_
        refine zr_view (zu_zu _ _ _ _ _ _) ?_
        refine zr_iinc X 40 0 [(3, .int (zI (k + 1))), (2, .ref q1), (1, .ref b), (0, .ref a)] dX8_joined_37 rfl rfl (by decide) rfl ?_
        refine zr_goto X 10 dX8_joined_40 rfl ?_
        rw [zjo_step (by omega) (by first | (rw [if_pos (by omega)]) | (rw [if_neg (by omega)]; congr 1; omega))]
        exact ih _ (by omega) (k + 1) ⟨by omega, by omega⟩ rfl
  exact loop _ 0 ⟨by omega, by omega⟩ rfl
theorem zli_mk {f h : Nat → Int} {n m p : Nat} (hp : p + m ≤ n) (e : ∀ j : Nat, j < m → f (p + j) = h j) : zli (zwt (m : Int) h) (zwt (n : Int) f) m p := fun j hj => by
  unfold zwt
  rw [if_pos (by omega), if_pos (by omega)]
  exact e j hj
theorem zli_ne {f h : Nat → Int} {n m p k : Nat} (hp : p + m ≤ n) (hk : k < m) (e : f (p + k) ≠ h k) : ¬ zli (zwt (m : Int) h) (zwt (n : Int) f) m p := fun q => e (by
  have := q k hk
  unfold zwt at this
  rw [if_pos (by omega), if_pos (by omega)] at this
  exact this)
theorem zpr_mk {f : Nat → Int} {n m q : Nat} (hm : m ≤ n) (hq : q ≤ m) (e : ∀ j : Nat, j < q → f j = f (m - q + j)) : zpr (zwt (n : Int) f) (zwt (n : Int) f) m q := ⟨hq, fun j hj => by
  unfold zwt
  rw [if_pos (by omega), if_pos (by omega)]
  exact e j hj⟩
theorem zpr_ne {f : Nat → Int} {n m q k : Nat} (hm : m ≤ n) (hq : q ≤ m) (hk : k < q) (e : f k ≠ f (m - q + k)) : ¬ zpr (zwt (n : Int) f) (zwt (n : Int) f) m q := fun z => e (by
  have := z.2 k hk
  unfold zwt at this
  rw [if_pos (by omega), if_pos (by omega)] at this
  exact this)
/-- q is a border of the first mn signs -/
def zib (f : Nat → Int) (n : Nat) (mn q : Int) : Prop := q.toNat < mn.toNat ∧ zpr (zwt (n : Int) f) (zwt (n : Int) f) mn.toNat q.toNat
set_option maxRecDepth 100000 in
set_option maxHeartbeats 4000000 in
theorem m_X8_lies (l : Launch) (Γ : zGam) {V : zV}{a ta n : Nat} {f : Nat → Int} {b tb m : Nat} {h : Nat → Int} {p : Int} (ha : V a = some (ta, za Γ.2.1 0 n f)) (hac : zc f) (han : n ≤ 200) (hb : V b = some (tb, za Γ.2.1 0 m h)) (hbc : zc h) (hbn : m ≤ 200) (hp : 0 ≤ p ∧ p ≤ 1000) : zM l Γ 0 yX8_lies wsX8_lies 0 0 V [.ref a, .ref b, .int (zI (p))] (fun rv V' => (∃ y : Int, rv = some (.int (zI y)) ∧ ((y = 1 ∧ p.toNat + m ≤ n ∧ zli (zwt (m : Int) h) (zwt (n : Int) f) m p.toNat) ∨ (y = 0 ∧ ¬ (p.toNat + m ≤ n ∧ zli (zwt (m : Int) h) (zwt (n : Int) f) m p.toNat)))) ∧ V' = V) := by
  refine zM_of (cc := cX8_lies) (nL := 4) (ret := (some .boolean)) (own := RX8) (by decide +kernel) rfl rfl (Nat.le_of_ble_eq_true rfl) (fun C X hi0 => ?_)
  show zG C V 0 0 0 [(0, .ref a), (1, .ref b), (2, .int (zI (p)))] []
  refine zr_iload_n X 1 2 dX8_lies_0 rfl rfl ?_
  refine zr_aload_n X 2 1 dX8_lies_1 rfl rfl ?_
  refine zr_alen X 3 0 hb (by decide) dX8_lies_2 rfl ?_
  refine zr_iadd X 4 dX8_lies_3 rfl ?_
  refine zr_aload_n X 5 0 dX8_lies_4 rfl rfl ?_
  refine zr_alen X 6 0 ha (by decide) dX8_lies_5 rfl ?_
  refine zr_icmp_le X 11 9 dX8_lies_6 rfl rfl (by omega) (by omega) (fun bq1 => ?_) (fun bq1 => ?_)
  · refine zr_iconst X 12 dX8_lies_11 rfl ?_
    refine zr_istore_n X 13 [(3, .int (zI (0))), (0, .ref a), (1, .ref b), (2, .int (zI (p)))] dX8_lies_12 rfl (by decide) rfl ?_
    refine zr_sub [0, 3, 2, 1] [(3, .int (zI (0))), (2, .int (zI (p))), (1, .ref b), (0, .ref a)] rfl ?_
    have loop : ∀ (N : Nat) (k : Int), 0 ≤ k ∧ k ≤ (m : Int) ∧ (∀ j : Nat, (j : Int) < k → f (p.toNat + j) = h j) → ((m : Int) - k).toNat = N → zG C V 0 0 13 [(3, .int (zI (k))), (2, .int (zI (p))), (1, .ref b), (0, .ref a)] [] := by
      intro N
      induction N using Nat.strongRecOn with
      | _ N ih =>
      intro k hI hN
      obtain ⟨hI1, hI2, hI3⟩ := id hI
      refine zr_iload_n X 14 0 dX8_lies_13 rfl rfl ?_
      refine zr_aload_n X 15 2 dX8_lies_14 rfl rfl ?_
      refine zr_alen X 16 0 hb (by decide) dX8_lies_15 rfl ?_
      refine zr_icmp_ge X 36 19 dX8_lies_16 rfl rfl (by omega) (by omega) (fun bq2 => ?_) (fun bq2 => ?_)
      · refine zr_iload_n X 37 0 dX8_lies_36 rfl rfl ?_
        refine zr_aload_n X 38 2 dX8_lies_37 rfl rfl ?_
        refine zr_alen X 39 0 hb (by decide) dX8_lies_38 rfl ?_
        refine zr_icmp_ne X 46 42 dX8_lies_39 rfl rfl (by omega) (by omega) (fun bq3 => ?_) (fun bq3 => ?_)
        · refine zr_iconst X 47 dX8_lies_46 rfl ?_
          have hn9 : ¬ zli (zwt (m : Int) h) (zwt (n : Int) f) m p.toNat := by
            first | (exfalso; omega) | exact zli_ne (k := k.toNat) (by omega) (by omega) (by rw [← show (p + k).toNat = p.toNat + k.toNat by omega]; omega)
          exact zr_zret X rfl rfl ⟨⟨0, rfl, Or.inr ⟨rfl, fun q9 => hn9 q9.2⟩⟩, rfl⟩ dX8_lies_47
        · refine zr_iconst X 43 dX8_lies_42 rfl ?_
          refine zr_goto X 47 dX8_lies_43 rfl ?_
          exact zr_zret X rfl rfl ⟨⟨1, rfl, Or.inl ⟨rfl, by omega, zli_mk (by omega) (fun j hj => hI3 j (by omega))⟩⟩, rfl⟩ dX8_lies_47
      · refine zr_aload_n X 20 3 dX8_lies_19 rfl rfl ?_
        refine zr_iload_n X 21 1 dX8_lies_20 rfl rfl ?_
        refine zr_iload_n X 22 0 dX8_lies_21 rfl rfl ?_
        refine zr_iadd X 23 dX8_lies_22 rfl ?_
        refine zr_iald X 24 ha (by omega) dX8_lies_23 rfl ?_
        have zb4 := zc.b hac (p + k).toNat
        refine zr_aload_n X 25 2 dX8_lies_24 rfl rfl ?_
        refine zr_iload_n X 26 0 dX8_lies_25 rfl rfl ?_
        refine zr_iald X 27 hb (by omega) dX8_lies_26 rfl ?_
        have zb5 := zc.b hbc (k).toNat
        refine zr_icmp_ne X 36 30 dX8_lies_27 rfl rfl (by omega) (by omega) (fun bq6 => ?_) (fun bq6 => ?_)
        · refine zr_iload_n X 37 0 dX8_lies_36 rfl rfl ?_
          refine zr_aload_n X 38 2 dX8_lies_37 rfl rfl ?_
          refine zr_alen X 39 0 hb (by decide) dX8_lies_38 rfl ?_
          refine zr_icmp_ne X 46 42 dX8_lies_39 rfl rfl (by omega) (by omega) (fun bq7 => ?_) (fun bq7 => ?_)
          · refine zr_iconst X 47 dX8_lies_46 rfl ?_
            have hn9 : ¬ zli (zwt (m : Int) h) (zwt (n : Int) f) m p.toNat := by
              first | (exfalso; omega) | exact zli_ne (k := k.toNat) (by omega) (by omega) (by rw [← show (p + k).toNat = p.toNat + k.toNat by omega]; omega)
            exact zr_zret X rfl rfl ⟨⟨0, rfl, Or.inr ⟨rfl, fun q9 => hn9 q9.2⟩⟩, rfl⟩ dX8_lies_47
          · refine zr_iconst X 43 dX8_lies_42 rfl ?_
            refine zr_goto X 47 dX8_lies_43 rfl ?_
            exact zr_zret X rfl rfl ⟨⟨1, rfl, Or.inl ⟨rfl, by omega, zli_mk (by omega) (fun j hj => hI3 j (by omega))⟩⟩, rfl⟩ dX8_lies_47
        · refine zr_iinc X 33 0 [(3, .int (zI (k + 1))), (2, .int (zI (p))), (1, .ref b), (0, .ref a)] dX8_lies_30 rfl rfl (by decide) rfl ?_
          refine zr_goto X 13 dX8_lies_33 rfl ?_
          have hq9 : ∀ j : Nat, (j : Int) < k + 1 → f (p.toNat + j) = h j := fun j hj => by
            by_cases c : (j : Int) < k
            · exact hI3 j c
            · rw [show j = k.toNat by omega, ← show (p + k).toNat = p.toNat + k.toNat by omega]
              omega
          exact ih _ (by omega) (k + 1) ⟨by omega, by omega, hq9⟩ rfl
    exact loop _ 0 ⟨by omega, by omega, fun j hj => absurd hj (by omega)⟩ rfl
  · refine zr_iconst X 10 dX8_lies_9 rfl ?_
    exact zr_zret X rfl rfl ⟨⟨0, rfl, Or.inr ⟨rfl, fun q9 => absurd q9.1 (by omega)⟩⟩, rfl⟩ dX8_lies_10
set_option maxRecDepth 100000 in
set_option maxHeartbeats 4000000 in
theorem m_X8_nth (l : Launch) (Γ : zGam) {V : zV}{a ta n : Nat} {f : Nat → Int} {b tb m : Nat} {h : Nat → Int} {w : Int} (ha : V a = some (ta, za Γ.2.1 0 n f)) (hac : zc f) (han : n ≤ 200) (hb : V b = some (tb, za Γ.2.1 0 m h)) (hbc : zc h) (hbn : m ≤ 200) (hw : 0 ≤ w ∧ w ≤ 1000) : zM l Γ 1 yX8_nth wsX8_nth 0 0 V [.ref a, .ref b, .int (zI (w))] (fun rv V' => (∃ y : Int, rv = some (.int (zI y)) ∧ -1 ≤ y ∧ y ≤ (n : Int) ∧ (0 ≤ y → w ≤ y) ∧ zth (zwt (m : Int) h) (zwt (n : Int) f) m (n + 1 - m) w y) ∧ V' = V) := by
  refine zM_of (cc := cX8_nth) (nL := 5) (ret := (some .int)) (own := RX8) (by decide +kernel) rfl rfl (Nat.le_of_ble_eq_true rfl) (fun C X hi0 => ?_)
  show zG C V 0 0 0 [(0, .ref a), (1, .ref b), (2, .int (zI (w)))] []
  refine zr_iload_n X 1 2 dX8_nth_0 rfl rfl ?_
  refine zr_istore_n X 2 [(3, .int (zI (w))), (0, .ref a), (1, .ref b), (2, .int (zI (w)))] dX8_nth_1 rfl (by decide) rfl ?_
  refine zr_iconst X 3 dX8_nth_2 rfl ?_
  refine zr_istore X 5 [(4, .int (zI (0))), (3, .int (zI (w))), (0, .ref a), (1, .ref b), (2, .int (zI (w)))] dX8_nth_3 rfl (by decide) rfl ?_
  refine zr_sub [0, 1, 4, 3, 2] [(4, .int (zI (0))), (3, .int (zI (w))), (2, .int (zI (w))), (1, .ref b), (0, .ref a)] rfl ?_
  have loop : ∀ (N : Nat) (lf : Int) (p : Int), 0 ≤ p ∧ p ≤ ((n + 1 - m) : Nat) ∧ 0 ≤ lf ∧ (zno (zwt (m : Int) h) (zwt (n : Int) f) m p.toNat : Int) = w - lf → ((n : Int) + 1 - p).toNat = N → zG C V 0 0 5 [(4, .int (zI (p))), (3, .int (zI (lf))), (2, .int (zI (w))), (1, .ref b), (0, .ref a)] [] := by
    intro N
    induction N using Nat.strongRecOn with
    | _ N ih =>
    intro lf p hI hN
    obtain ⟨hI1, hI2, hI3, hI4⟩ := id hI
    refine zr_iload X 7 0 dX8_nth_5 rfl rfl ?_
    refine zr_aload_n X 8 3 dX8_nth_7 rfl rfl ?_
    refine zr_alen X 9 0 hb (by decide) dX8_nth_8 rfl ?_
    refine zr_iadd X 10 dX8_nth_9 rfl ?_
    refine zr_aload_n X 11 4 dX8_nth_10 rfl rfl ?_
    refine zr_alen X 12 0 ha (by decide) dX8_nth_11 rfl ?_
    refine zr_icmp_gt X 44 15 dX8_nth_12 rfl rfl (by omega) (by omega) (fun bq1 => ?_) (fun bq1 => ?_)
    · refine zr_iconst X 45 dX8_nth_44 rfl ?_
      have hl9 := zno_le (w := (zwt (m : Int) h)) (t := (zwt (n : Int) f)) (m := m) (p := p.toNat)
      have hz9 : zth (zwt (m : Int) h) (zwt (n : Int) f) m (n + 1 - m) w (-1) := Or.inl ⟨rfl, Or.inr (by rw [← show p.toNat = (n + 1 - m) by omega]; omega)⟩
      exact zr_iret X rfl ⟨⟨-1, rfl, by omega, by omega, by omega, hz9⟩, rfl⟩ dX8_nth_45
    · refine zr_aload_n X 16 4 dX8_nth_15 rfl rfl ?_
      refine zr_aload_n X 17 3 dX8_nth_16 rfl rfl ?_
      refine zr_iload X 19 0 dX8_nth_17 rfl rfl ?_
      refine zr_callS (kc' := 0) (ks' := 0) X 22 3 (m_X8_lies l Γ (p := p) ha hac (by omega) hb hbc (by omega) (by omega)) gX8_nth_X8_lies rfl (by decide +kernel) rfl (by decide) rfl (Nat.le_of_ble_eq_true rfl) dX8_nth_19 rfl (by omega) (by omega) (fun rv2 V3 hp4 => ?_)
      obtain ⟨⟨y5, y5e, y50⟩, y5v⟩ := hp4
      rw [y5e, y5v]
      show zG C V 0 0 22 [(4, .int (zI (p))), (3, .int (zI (lf))), (2, .int (zI (w))), (1, .ref b), (0, .ref a)] [.int (zI (y5))]
      refine zr_if_ne X 28 25 dX8_nth_22 rfl rfl (by omega) (fun bq6 => ?_) (fun bq6 => ?_)
      · refine zr_iload_n X 29 1 dX8_nth_28 rfl rfl ?_
        refine zr_if_ne X 35 32 dX8_nth_29 rfl rfl (by omega) (fun bq7 => ?_) (fun bq7 => ?_)
        · refine zr_iinc X 38 1 [(3, .int (zI (lf + (-1)))), (4, .int (zI (p))), (2, .int (zI (w))), (1, .ref b), (0, .ref a)] dX8_nth_35 rfl rfl (by decide) rfl ?_
          refine zr_iinc X 41 1 [(4, .int (zI (p + 1))), (3, .int (zI (lf + (-1)))), (2, .int (zI (w))), (1, .ref b), (0, .ref a)] dX8_nth_38 rfl rfl (by decide) rfl ?_
          refine zr_goto X 5 dX8_nth_41 rfl ?_
          have hq9 : (zno (zwt (m : Int) h) (zwt (n : Int) f) m (p + 1).toNat : Int) = w - (lf + (-1)) := by
            rw [show (p + 1).toNat = p.toNat + 1 by omega]
            rcases y50 with ⟨e9, a9, b9⟩ | ⟨e9, a9⟩
            · rw [zno_in b9]
              omega
            · rw [zno_out (fun c9 => a9 ⟨by omega, c9⟩)]
              omega
          exact ih _ (by omega) (lf + (-1)) (p + 1) ⟨by omega, by omega, by omega, hq9⟩ rfl
        · refine zr_iload X 34 0 dX8_nth_32 rfl rfl ?_
          have hl9 := zno_le (w := (zwt (m : Int) h)) (t := (zwt (n : Int) f)) (m := m) (p := p.toNat)
          have hz9 : zth (zwt (m : Int) h) (zwt (n : Int) f) m (n + 1 - m) w p := by
            rcases y50 with ⟨e9, a9, b9⟩ | ⟨e9, a9⟩
            · exact Or.inr ⟨p.toNat, by omega, by omega, b9, by omega⟩
            · exfalso; omega
          exact zr_iret X rfl ⟨⟨p, rfl, by omega, by omega, by omega, hz9⟩, rfl⟩ dX8_nth_34
      · refine zr_goto X 38 dX8_nth_25 rfl ?_
        refine zr_iinc X 41 0 [(4, .int (zI (p + 1))), (3, .int (zI (lf))), (2, .int (zI (w))), (1, .ref b), (0, .ref a)] dX8_nth_38 rfl rfl (by decide) rfl ?_
        refine zr_goto X 5 dX8_nth_41 rfl ?_
        have hq9 : (zno (zwt (m : Int) h) (zwt (n : Int) f) m (p + 1).toNat : Int) = w - (lf) := by
          rw [show (p + 1).toNat = p.toNat + 1 by omega]
          rcases y50 with ⟨e9, a9, b9⟩ | ⟨e9, a9⟩
          · rw [zno_in b9]
            omega
          · rw [zno_out (fun c9 => a9 ⟨by omega, c9⟩)]
            omega
        exact ih _ (by omega) lf (p + 1) ⟨by omega, by omega, by omega, hq9⟩ rfl
  exact loop _ w 0 ⟨by omega, by omega, by omega, by show (0 : Int) = _; omega⟩ rfl
set_option maxRecDepth 100000 in
set_option maxHeartbeats 4000000 in
theorem m_X8_places (l : Launch) (Γ : zGam) {V : zV}{a ta n : Nat} {f : Nat → Int} {b tb m : Nat} {h : Nat → Int} (ha : V a = some (ta, za Γ.2.1 0 n f)) (hac : zc f) (han : n ≤ 200) (hb : V b = some (tb, za Γ.2.1 0 m h)) (hbc : zc h) (hbn : m ≤ 200) : zM l Γ 2 yX8_places wsX8_places 0 0 V [.ref a, .ref b] (fun rv V' => (∃ y : Int, rv = some (.int (zI y)) ∧ 0 ≤ y ∧ y ≤ 1000 ∧ y = (zno (zwt (m : Int) h) (zwt (n : Int) f) m (n + 1 - m) : Int)) ∧ V' = V) := by
  refine zM_of (cc := cX8_places) (nL := 3) (ret := (some .int)) (own := RX8) (by decide +kernel) rfl rfl (Nat.le_of_ble_eq_true rfl) (fun C X hi0 => ?_)
  show zG C V 0 0 0 [(0, .ref a), (1, .ref b)] []
  refine zr_iconst X 1 dX8_places_0 rfl ?_
  refine zr_istore_n X 2 [(2, .int (zI (0))), (0, .ref a), (1, .ref b)] dX8_places_1 rfl (by decide) rfl ?_
  refine zr_sub [0, 2, 1] [(2, .int (zI (0))), (1, .ref b), (0, .ref a)] rfl ?_
  have loop : ∀ (N : Nat) (k : Int), 0 ≤ k ∧ k ≤ (n : Int) + 1 ∧ k ≤ (zno (zwt (m : Int) h) (zwt (n : Int) f) m (n + 1 - m) : Int) → ((n : Int) + 1 - k).toNat = N → zG C V 0 0 2 [(2, .int (zI (k))), (1, .ref b), (0, .ref a)] [] := by
    intro N
    induction N using Nat.strongRecOn with
    | _ N ih =>
    intro k hI hN
    obtain ⟨hI1, hI2, hI3⟩ := id hI
    refine zr_aload_n X 3 2 dX8_places_2 rfl rfl ?_
    refine zr_aload_n X 4 1 dX8_places_3 rfl rfl ?_
    refine zr_iload_n X 5 0 dX8_places_4 rfl rfl ?_
    refine zr_callS (kc' := 0) (ks' := 0) X 8 3 (m_X8_nth l Γ (w := k) ha hac (by omega) hb hbc (by omega) (by omega)) gX8_places_X8_nth rfl (by decide +kernel) rfl (by decide) rfl (Nat.le_of_ble_eq_true rfl) dX8_places_5 rfl (by omega) (by omega) (fun rv1 V2 hp3 => ?_)
    obtain ⟨⟨y4, y4e, y40, y41, y42, y43⟩, y4v⟩ := hp3
    rw [y4e, y4v]
    show zG C V 0 0 8 [(2, .int (zI (k))), (1, .ref b), (0, .ref a)] [.int (zI (y4))]
    refine zr_if_lt X 17 11 dX8_places_8 rfl rfl (by omega) (fun bq5 => ?_) (fun bq5 => ?_)
    · refine zr_iload_n X 18 0 dX8_places_17 rfl rfl ?_
      have hq9 : k = (zno (zwt (m : Int) h) (zwt (n : Int) f) m (n + 1 - m) : Int) := by
        rcases y43 with ⟨-, e9⟩ | ⟨p9, e9, -⟩ <;> omega
      exact zr_iret X rfl ⟨⟨k, rfl, by omega, by omega, hq9⟩, rfl⟩ dX8_places_18
    · refine zr_iinc X 14 0 [(2, .int (zI (k + 1))), (1, .ref b), (0, .ref a)] dX8_places_11 rfl rfl (by decide) rfl ?_
      refine zr_goto X 2 dX8_places_14 rfl ?_
      have hq9 : k + 1 ≤ (zno (zwt (m : Int) h) (zwt (n : Int) f) m (n + 1 - m) : Int) := by
        rcases y43 with ⟨e9, -⟩ | ⟨p9, e9, a9, b9, c9⟩
        · omega
        · have := zno_mono (w := (zwt (m : Int) h)) (t := (zwt (n : Int) f)) (m := m) (show p9 + 1 ≤ (n + 1 - m) by omega)
          rw [zno_in b9] at this
          omega
      exact ih _ (by omega) (k + 1) ⟨by omega, by omega, hq9⟩ rfl
  exact loop _ 0 ⟨by omega, by omega, by omega⟩ rfl
theorem zmaxe (x y : Int) : ∃ z9 : Int, z9 = (if x < y then y else x) ∧ ((x < y ∧ z9 = y) ∨ (¬ x < y ∧ z9 = x)) := by
  by_cases h : x < y
  · exact ⟨y, (if_pos h).symm, Or.inl ⟨h, rfl⟩⟩
  · exact ⟨x, (if_neg h).symm, Or.inr ⟨h, rfl⟩⟩
theorem zmine (x y : Int) : ∃ z9 : Int, z9 = (if y < x then y else x) ∧ ((y < x ∧ z9 = y) ∨ (¬ y < x ∧ z9 = x)) := by
  by_cases h : y < x
  · exact ⟨y, (if_pos h).symm, Or.inl ⟨h, rfl⟩⟩
  · exact ⟨x, (if_neg h).symm, Or.inr ⟨h, rfl⟩⟩
set_option maxRecDepth 100000 in
set_option maxHeartbeats 4000000 in
theorem m_X8_lastOf (l : Launch) (Γ : zGam) {V : zV}{a ta n : Nat} {f : Nat → Int} {b tb m : Nat} {h : Nat → Int} (ha : V a = some (ta, za Γ.2.1 0 n f)) (hac : zc f) (han : n ≤ 200) (hb : V b = some (tb, za Γ.2.1 0 m h)) (hbc : zc h) (hbn : m ≤ 200) : zM l Γ 1 yX8_lastOf wsX8_lastOf 0 0 V [.ref a, .ref b] (fun rv V' => (∃ y : Int, rv = some (.int (zI y)) ∧ -1 ≤ y ∧ y ≤ 1000 ∧ zth (zwt (m : Int) h) (zwt (n : Int) f) m (n + 1 - m) ((zno (zwt (m : Int) h) (zwt (n : Int) f) m (n + 1 - m) : Int) - 1) y) ∧ V' = V) := by
  have w0 : Cond.methodLink RX8 146 Lib.Math.max.name ∈ wsX8_lastOf := by decide +kernel
  have w1 : Cond.static Lib.Math.max.name ∈ wsX8_lastOf := by decide +kernel
  have w2 : Cond.initialized "java/lang/Math" ∈ wsX8_lastOf := by decide +kernel
  have w3 : Cond.code Lib.Math.max.name Lib.Math.max.code 2 (some .int) ∈ wsX8_lastOf := by decide +kernel
  refine zM_of (cc := cX8_lastOf) (nL := 3) (ret := (some .int)) (own := RX8) (by decide +kernel) rfl rfl (Nat.le_of_ble_eq_true rfl) (fun C X hi0 => ?_)
  show zG C V 0 0 0 [(0, .ref a), (1, .ref b)] []
  refine zr_aload_n X 1 0 dX8_lastOf_0 rfl rfl ?_
  refine zr_alen X 2 0 ha (by decide) dX8_lastOf_1 rfl ?_
  refine zr_aload_n X 3 1 dX8_lastOf_2 rfl rfl ?_
  refine zr_alen X 4 0 hb (by decide) dX8_lastOf_3 rfl ?_
  refine zr_isub X 5 dX8_lastOf_4 rfl ?_
  refine zr_istore_n X 6 [(2, .int (zI ((n : Nat) - (m : Nat)))), (0, .ref a), (1, .ref b)] dX8_lastOf_5 rfl (by decide) rfl ?_
  refine zr_sub [0, 2, 1] [(2, .int (zI ((n : Nat) - (m : Nat)))), (1, .ref b), (0, .ref a)] rfl ?_
  have loop : ∀ (N : Nat) (k : Int), -1000 ≤ k ∧ k ≤ (n : Int) - (m : Int) ∧ (∀ q : Nat, k < (q : Int) → q < (n + 1 - m) → ¬ zli (zwt (m : Int) h) (zwt (n : Int) f) m q) → (k + 1000).toNat = N → zG C V 0 0 6 [(2, .int (zI (k))), (1, .ref b), (0, .ref a)] [] := by
    intro N
    induction N using Nat.strongRecOn with
    | _ N ih =>
    intro k hI hN
    obtain ⟨hI1, hI2, hI3⟩ := id hI
    refine zr_iload_n X 7 0 dX8_lastOf_6 rfl rfl ?_
    refine zr_if_lt X 25 10 dX8_lastOf_7 rfl rfl (by omega) (fun bq1 => ?_) (fun bq1 => ?_)
    · refine zr_iload_n X 26 0 dX8_lastOf_25 rfl rfl ?_
      refine zr_iconst X 27 dX8_lastOf_26 rfl ?_
      obtain ⟨mz2, mz2e, mz2a⟩ : ∃ z9 : Int, z9 = (if k < -1 then -1 else k) ∧ ((k < -1 ∧ z9 = -1) ∨ (¬ k < -1 ∧ z9 = k)) := zmaxe _ _
      refine zr_mmax X 30 (mz2) w0 w1 w2 w3 (by decide) (Nat.le_of_ble_eq_true rfl) (by omega) (by omega) mz2e dX8_lastOf_27 rfl ?_
      clear mz2e
      have hz9 : zth (zwt (m : Int) h) (zwt (n : Int) f) m (n + 1 - m) ((zno (zwt (m : Int) h) (zwt (n : Int) f) m (n + 1 - m) : Int) - 1) mz2 := by
        refine Or.inl ⟨by omega, Or.inl ?_⟩
        rw [zth_none (fun q a9 => hI3 q (by omega) a9)]
        decide
      exact zr_iret X rfl ⟨⟨mz2, rfl, by omega, by omega, hz9⟩, rfl⟩ dX8_lastOf_30
    · refine zr_aload_n X 11 2 dX8_lastOf_10 rfl rfl ?_
      refine zr_aload_n X 12 1 dX8_lastOf_11 rfl rfl ?_
      refine zr_iload_n X 13 0 dX8_lastOf_12 rfl rfl ?_
      refine zr_callS (kc' := 0) (ks' := 0) X 16 3 (m_X8_lies l Γ (p := k) ha hac (by omega) hb hbc (by omega) (by omega)) gX8_lastOf_X8_lies rfl (by decide +kernel) rfl (by decide) rfl (Nat.le_of_ble_eq_true rfl) dX8_lastOf_13 rfl (by omega) (by omega) (fun rv3 V4 hp5 => ?_)
      obtain ⟨⟨y6, y6e, y60⟩, y6v⟩ := hp5
      rw [y6e, y6v]
      show zG C V 0 0 16 [(2, .int (zI (k))), (1, .ref b), (0, .ref a)] [.int (zI (y6))]
      refine zr_if_ne X 25 19 dX8_lastOf_16 rfl rfl (by omega) (fun bq7 => ?_) (fun bq7 => ?_)
      · refine zr_iload_n X 26 0 dX8_lastOf_25 rfl rfl ?_
        refine zr_iconst X 27 dX8_lastOf_26 rfl ?_
        obtain ⟨mz8, mz8e, mz8a⟩ : ∃ z9 : Int, z9 = (if k < -1 then -1 else k) ∧ ((k < -1 ∧ z9 = -1) ∨ (¬ k < -1 ∧ z9 = k)) := zmaxe _ _
        refine zr_mmax X 30 (mz8) w0 w1 w2 w3 (by decide) (Nat.le_of_ble_eq_true rfl) (by omega) (by omega) mz8e dX8_lastOf_27 rfl ?_
        clear mz8e
        have hz9 : zth (zwt (m : Int) h) (zwt (n : Int) f) m (n + 1 - m) ((zno (zwt (m : Int) h) (zwt (n : Int) f) m (n + 1 - m) : Int) - 1) mz8 := by
          rcases y60 with ⟨-, a9, b9⟩ | ⟨e9, -⟩
          · have hz8 := zth_last (P := (n + 1 - m)) (by omega) b9 (fun q c9 d9 => hI3 q (by omega) d9)
            rw [show ((k.toNat : Nat) : Int) = mz8 by omega] at hz8
            exact hz8
          · exfalso; omega
        exact zr_iret X rfl ⟨⟨mz8, rfl, by omega, by omega, hz9⟩, rfl⟩ dX8_lastOf_30
      · refine zr_iinc X 22 0 [(2, .int (zI (k + (-1)))), (1, .ref b), (0, .ref a)] dX8_lastOf_19 rfl rfl (by decide) rfl ?_
        refine zr_goto X 6 dX8_lastOf_22 rfl ?_
        have hq9 : ∀ q : Nat, k + (-1) < (q : Int) → q < (n + 1 - m) → ¬ zli (zwt (m : Int) h) (zwt (n : Int) f) m q := fun q a9 b9 => by
          by_cases c9 : k < (q : Int)
          · exact hI3 q c9 b9
          · rcases y60 with ⟨e9, -⟩ | ⟨-, e9⟩
            · exfalso; omega
            · rw [show q = k.toNat by omega]
              exact fun d9 => e9 ⟨by omega, d9⟩
        exact ih _ (by omega) (k + (-1)) ⟨by omega, by omega, hq9⟩ rfl
  exact loop _ ((n : Nat) - (m : Nat)) ⟨by omega, by omega, fun q a9 b9 => absurd b9 (by omega)⟩ rfl
set_option maxRecDepth 100000 in
set_option maxHeartbeats 4000000 in
theorem m_X8_isBorder (l : Launch) (Γ : zGam) {V : zV}{a ta n : Nat} {f : Nat → Int} {mn q : Int} (ha : V a = some (ta, za Γ.2.1 0 n f)) (hac : zc f) (han : n ≤ 200) (hm : 0 ≤ mn ∧ mn ≤ (n : Int)) (hq : 0 ≤ q ∧ q ≤ 1000) : zM l Γ 0 yX8_isBorder wsX8_isBorder 0 0 V [.ref a, .int (zI (mn)), .int (zI (q))] (fun rv V' => (∃ y : Int, rv = some (.int (zI y)) ∧ ((y = 1 ∧ zib f n mn q) ∨ (y = 0 ∧ ¬ zib f n mn q))) ∧ V' = V) := by
  refine zM_of (cc := cX8_isBorder) (nL := 5) (ret := (some .boolean)) (own := RX8) (by decide +kernel) rfl rfl (Nat.le_of_ble_eq_true rfl) (fun C X hi0 => ?_)
  show zG C V 0 0 0 [(0, .ref a), (1, .int (zI (mn))), (2, .int (zI (q)))] []
  refine zr_iload_n X 1 2 dX8_isBorder_0 rfl rfl ?_
  refine zr_iload_n X 2 1 dX8_isBorder_1 rfl rfl ?_
  refine zr_icmp_ge X 9 5 dX8_isBorder_2 rfl rfl (by omega) (by omega) (fun bq1 => ?_) (fun bq1 => ?_)
  · refine zr_iconst X 10 dX8_isBorder_9 rfl ?_
    refine zr_istore_n X 11 [(3, .int (zI (0))), (0, .ref a), (1, .int (zI (mn))), (2, .int (zI (q)))] dX8_isBorder_10 rfl (by decide) rfl ?_
    refine zr_iconst X 12 dX8_isBorder_11 rfl ?_
    refine zr_istore X 14 [(4, .int (zI (0))), (3, .int (zI (0))), (0, .ref a), (1, .int (zI (mn))), (2, .int (zI (q)))] dX8_isBorder_12 rfl (by decide) rfl ?_
    refine zr_sub [0, 1, 4, 3, 2] [(4, .int (zI (0))), (3, .int (zI (0))), (2, .int (zI (q))), (1, .int (zI (mn))), (0, .ref a)] rfl ?_
    have loop : ∀ (N : Nat) (is : Int) (k : Int), 0 ≤ k ∧ k ≤ 1000 ∧ (is = 0 ∨ is = 1) ∧ (is = 1 → q < mn) ∧ (k ≤ q ∨ k = 0) ∧ (is = 1 → ∀ j : Nat, (j : Int) < k → f j = f (mn.toNat - q.toNat + j)) ∧ (is = 0 → ¬ zib f n mn q) → (1000 - k).toNat = N → zG C V 0 0 14 [(4, .int (zI (k))), (3, .int (zI (is))), (2, .int (zI (q))), (1, .int (zI (mn))), (0, .ref a)] [] := by
      intro N
      induction N using Nat.strongRecOn with
      | _ N ih =>
      intro is k hI hN
      obtain ⟨hI1, hI2, hI3, hI4, hI5, hI6, hI7⟩ := id hI
      refine zr_iload X 16 0 dX8_isBorder_14 rfl rfl ?_
      refine zr_iload_n X 17 2 dX8_isBorder_16 rfl rfl ?_
      refine zr_icmp_ge X 51 20 dX8_isBorder_17 rfl rfl (by omega) (by omega) (fun bq2 => ?_) (fun bq2 => ?_)
      · refine zr_iload_n X 52 1 dX8_isBorder_51 rfl rfl ?_
        have hz9 : (is = 1 ∧ zib f n mn q) ∨ (is = 0 ∧ ¬ zib f n mn q) := by
          rcases hI3 with e9 | e9
          · exact Or.inr ⟨e9, hI7 e9⟩
          · have h9 := hI4 e9
            exact Or.inl ⟨e9, by omega, zpr_mk (by omega) (by omega) (fun j hj => hI6 e9 j (by omega))⟩
        exact zr_zret X rfl (znz (by omega)) ⟨⟨is, rfl, hz9⟩, rfl⟩ dX8_isBorder_52
      · refine zr_iload_n X 21 1 dX8_isBorder_20 rfl rfl ?_
        refine zr_if_eq X 51 24 dX8_isBorder_21 rfl rfl (by omega) (fun bq3 => ?_) (fun bq3 => ?_)
        · refine zr_iload_n X 52 1 dX8_isBorder_51 rfl rfl ?_
          have hz9 : (is = 1 ∧ zib f n mn q) ∨ (is = 0 ∧ ¬ zib f n mn q) := by
            rcases hI3 with e9 | e9
            · exact Or.inr ⟨e9, hI7 e9⟩
            · have h9 := hI4 e9
              exact Or.inl ⟨e9, by omega, zpr_mk (by omega) (by omega) (fun j hj => hI6 e9 j (by omega))⟩
          exact zr_zret X rfl (znz (by omega)) ⟨⟨is, rfl, hz9⟩, rfl⟩ dX8_isBorder_52
        · refine zr_aload_n X 25 4 dX8_isBorder_24 rfl rfl ?_
          refine zr_iload X 27 0 dX8_isBorder_25 rfl rfl ?_
          refine zr_iald X 28 ha (by omega) dX8_isBorder_27 rfl ?_
          have zb4 := zc.b hac (k).toNat
          refine zr_aload_n X 29 4 dX8_isBorder_28 rfl rfl ?_
          refine zr_iload_n X 30 3 dX8_isBorder_29 rfl rfl ?_
          refine zr_iload_n X 31 2 dX8_isBorder_30 rfl rfl ?_
          refine zr_isub X 32 dX8_isBorder_31 rfl ?_
          refine zr_iload X 34 0 dX8_isBorder_32 rfl rfl ?_
          refine zr_iadd X 35 dX8_isBorder_34 rfl ?_
          refine zr_iald X 36 ha (by omega) dX8_isBorder_35 rfl ?_
          have zb5 := zc.b hac ((mn - q) + k).toNat
          refine zr_icmp_ne X 43 39 dX8_isBorder_36 rfl rfl (by omega) (by omega) (fun bq6 => ?_) (fun bq6 => ?_)
          · refine zr_iconst X 44 dX8_isBorder_43 rfl ?_
            refine zr_istore_n X 45 [(3, .int (zI (0))), (4, .int (zI (k))), (2, .int (zI (q))), (1, .int (zI (mn))), (0, .ref a)] dX8_isBorder_44 rfl (by decide) rfl ?_
            refine zr_iinc X 48 1 [(4, .int (zI (k + 1))), (3, .int (zI (0))), (2, .int (zI (q))), (1, .int (zI (mn))), (0, .ref a)] dX8_isBorder_45 rfl rfl (by decide) rfl ?_
            refine zr_goto X 14 dX8_isBorder_48 rfl ?_
            have hq9 : ¬ zib f n mn q := fun z9 => zpr_ne (k := k.toNat) (by omega) (by omega) (by omega) (by rw [← show ((mn - q) + k).toNat = mn.toNat - q.toNat + k.toNat by omega]; omega) z9.2
            exact ih _ (by omega) 0 (k + 1) ⟨by omega, by omega, by omega, by omega, by omega, fun e9 => absurd e9 (by decide), fun _ => hq9⟩ rfl
          · refine zr_iconst X 40 dX8_isBorder_39 rfl ?_
            refine zr_goto X 44 dX8_isBorder_40 rfl ?_
            refine zr_istore_n X 45 [(3, .int (zI (1))), (4, .int (zI (k))), (2, .int (zI (q))), (1, .int (zI (mn))), (0, .ref a)] dX8_isBorder_44 rfl (by decide) rfl ?_
            refine zr_iinc X 48 1 [(4, .int (zI (k + 1))), (3, .int (zI (1))), (2, .int (zI (q))), (1, .int (zI (mn))), (0, .ref a)] dX8_isBorder_45 rfl rfl (by decide) rfl ?_
            refine zr_goto X 14 dX8_isBorder_48 rfl ?_
            have hq9 : ∀ j : Nat, (j : Int) < k + 1 → f j = f (mn.toNat - q.toNat + j) := fun j hj => by
              by_cases c : (j : Int) < k
              · exact hI6 (by omega) j c
              · rw [show j = k.toNat by omega, ← show ((mn - q) + k).toNat = mn.toNat - q.toNat + k.toNat by omega]
                omega
            exact ih _ (by omega) 1 (k + 1) ⟨by omega, by omega, by omega, by omega, by omega, fun _ => hq9, fun e9 => absurd e9 (by decide)⟩ rfl
    exact loop _ 0 0 ⟨by omega, by omega, by omega, by omega, by omega, fun e9 => absurd e9 (by decide), fun _ z9 => absurd z9.1 (by omega)⟩ rfl
  · refine zr_iconst X 6 dX8_isBorder_5 rfl ?_
    refine zr_goto X 10 dX8_isBorder_6 rfl ?_
    refine zr_istore_n X 11 [(3, .int (zI (1))), (0, .ref a), (1, .int (zI (mn))), (2, .int (zI (q)))] dX8_isBorder_10 rfl (by decide) rfl ?_
    refine zr_iconst X 12 dX8_isBorder_11 rfl ?_
    refine zr_istore X 14 [(4, .int (zI (0))), (3, .int (zI (1))), (0, .ref a), (1, .int (zI (mn))), (2, .int (zI (q)))] dX8_isBorder_12 rfl (by decide) rfl ?_
    refine zr_sub [0, 1, 4, 3, 2] [(4, .int (zI (0))), (3, .int (zI (1))), (2, .int (zI (q))), (1, .int (zI (mn))), (0, .ref a)] rfl ?_
    have loop : ∀ (N : Nat) (is : Int) (k : Int), 0 ≤ k ∧ k ≤ 1000 ∧ (is = 0 ∨ is = 1) ∧ (is = 1 → q < mn) ∧ (k ≤ q ∨ k = 0) ∧ (is = 1 → ∀ j : Nat, (j : Int) < k → f j = f (mn.toNat - q.toNat + j)) ∧ (is = 0 → ¬ zib f n mn q) → (1000 - k).toNat = N → zG C V 0 0 14 [(4, .int (zI (k))), (3, .int (zI (is))), (2, .int (zI (q))), (1, .int (zI (mn))), (0, .ref a)] [] := by
      intro N
      induction N using Nat.strongRecOn with
      | _ N ih =>
      intro is k hI hN
      obtain ⟨hI1, hI2, hI3, hI4, hI5, hI6, hI7⟩ := id hI
      refine zr_iload X 16 0 dX8_isBorder_14 rfl rfl ?_
      refine zr_iload_n X 17 2 dX8_isBorder_16 rfl rfl ?_
      refine zr_icmp_ge X 51 20 dX8_isBorder_17 rfl rfl (by omega) (by omega) (fun bq7 => ?_) (fun bq7 => ?_)
      · refine zr_iload_n X 52 1 dX8_isBorder_51 rfl rfl ?_
        have hz9 : (is = 1 ∧ zib f n mn q) ∨ (is = 0 ∧ ¬ zib f n mn q) := by
          rcases hI3 with e9 | e9
          · exact Or.inr ⟨e9, hI7 e9⟩
          · have h9 := hI4 e9
            exact Or.inl ⟨e9, by omega, zpr_mk (by omega) (by omega) (fun j hj => hI6 e9 j (by omega))⟩
        exact zr_zret X rfl (znz (by omega)) ⟨⟨is, rfl, hz9⟩, rfl⟩ dX8_isBorder_52
      · refine zr_iload_n X 21 1 dX8_isBorder_20 rfl rfl ?_
        refine zr_if_eq X 51 24 dX8_isBorder_21 rfl rfl (by omega) (fun bq8 => ?_) (fun bq8 => ?_)
        · refine zr_iload_n X 52 1 dX8_isBorder_51 rfl rfl ?_
          have hz9 : (is = 1 ∧ zib f n mn q) ∨ (is = 0 ∧ ¬ zib f n mn q) := by
            rcases hI3 with e9 | e9
            · exact Or.inr ⟨e9, hI7 e9⟩
            · have h9 := hI4 e9
              exact Or.inl ⟨e9, by omega, zpr_mk (by omega) (by omega) (fun j hj => hI6 e9 j (by omega))⟩
          exact zr_zret X rfl (znz (by omega)) ⟨⟨is, rfl, hz9⟩, rfl⟩ dX8_isBorder_52
        · refine zr_aload_n X 25 4 dX8_isBorder_24 rfl rfl ?_
          refine zr_iload X 27 0 dX8_isBorder_25 rfl rfl ?_
          refine zr_iald X 28 ha (by omega) dX8_isBorder_27 rfl ?_
          have zb9 := zc.b hac (k).toNat
          refine zr_aload_n X 29 4 dX8_isBorder_28 rfl rfl ?_
          refine zr_iload_n X 30 3 dX8_isBorder_29 rfl rfl ?_
          refine zr_iload_n X 31 2 dX8_isBorder_30 rfl rfl ?_
          refine zr_isub X 32 dX8_isBorder_31 rfl ?_
          refine zr_iload X 34 0 dX8_isBorder_32 rfl rfl ?_
          refine zr_iadd X 35 dX8_isBorder_34 rfl ?_
          refine zr_iald X 36 ha (by omega) dX8_isBorder_35 rfl ?_
          have zb10 := zc.b hac ((mn - q) + k).toNat
          refine zr_icmp_ne X 43 39 dX8_isBorder_36 rfl rfl (by omega) (by omega) (fun bq11 => ?_) (fun bq11 => ?_)
          · refine zr_iconst X 44 dX8_isBorder_43 rfl ?_
            refine zr_istore_n X 45 [(3, .int (zI (0))), (4, .int (zI (k))), (2, .int (zI (q))), (1, .int (zI (mn))), (0, .ref a)] dX8_isBorder_44 rfl (by decide) rfl ?_
            refine zr_iinc X 48 1 [(4, .int (zI (k + 1))), (3, .int (zI (0))), (2, .int (zI (q))), (1, .int (zI (mn))), (0, .ref a)] dX8_isBorder_45 rfl rfl (by decide) rfl ?_
            refine zr_goto X 14 dX8_isBorder_48 rfl ?_
            have hq9 : ¬ zib f n mn q := fun z9 => zpr_ne (k := k.toNat) (by omega) (by omega) (by omega) (by rw [← show ((mn - q) + k).toNat = mn.toNat - q.toNat + k.toNat by omega]; omega) z9.2
            exact ih _ (by omega) 0 (k + 1) ⟨by omega, by omega, by omega, by omega, by omega, fun e9 => absurd e9 (by decide), fun _ => hq9⟩ rfl
          · refine zr_iconst X 40 dX8_isBorder_39 rfl ?_
            refine zr_goto X 44 dX8_isBorder_40 rfl ?_
            refine zr_istore_n X 45 [(3, .int (zI (1))), (4, .int (zI (k))), (2, .int (zI (q))), (1, .int (zI (mn))), (0, .ref a)] dX8_isBorder_44 rfl (by decide) rfl ?_
            refine zr_iinc X 48 1 [(4, .int (zI (k + 1))), (3, .int (zI (1))), (2, .int (zI (q))), (1, .int (zI (mn))), (0, .ref a)] dX8_isBorder_45 rfl rfl (by decide) rfl ?_
            refine zr_goto X 14 dX8_isBorder_48 rfl ?_
            have hq9 : ∀ j : Nat, (j : Int) < k + 1 → f j = f (mn.toNat - q.toNat + j) := fun j hj => by
              by_cases c : (j : Int) < k
              · exact hI6 (by omega) j c
              · rw [show j = k.toNat by omega, ← show ((mn - q) + k).toNat = mn.toNat - q.toNat + k.toNat by omega]
                omega
            exact ih _ (by omega) 1 (k + 1) ⟨by omega, by omega, by omega, by omega, by omega, fun _ => hq9, fun e9 => absurd e9 (by decide)⟩ rfl
    exact loop _ 1 0 ⟨by omega, by omega, by omega, by omega, by omega, fun _ j hj => absurd hj (by omega), fun e9 => absurd e9 (by decide)⟩ rfl
set_option maxRecDepth 100000 in
set_option maxHeartbeats 4000000 in
theorem m_X8_greatest (l : Launch) (Γ : zGam) {V : zV}{a ta n : Nat} {f : Nat → Int} {mn : Int} (ha : V a = some (ta, za Γ.2.1 0 n f)) (hac : zc f) (han : n ≤ 200) (hm : 0 ≤ mn ∧ mn ≤ (n : Int)) : zM l Γ 1 yX8_greatest wsX8_greatest 0 0 V [.ref a, .int (zI (mn))] (fun rv V' => (∃ y : Int, rv = some (.int (zI y)) ∧ 0 ≤ y ∧ y ≤ 1000 ∧ zgb (zwt (n : Int) f) mn.toNat y.toNat) ∧ V' = V) := by
  have w0 : Cond.methodLink RX8 146 Lib.Math.max.name ∈ wsX8_greatest := by decide +kernel
  have w1 : Cond.static Lib.Math.max.name ∈ wsX8_greatest := by decide +kernel
  have w2 : Cond.initialized "java/lang/Math" ∈ wsX8_greatest := by decide +kernel
  have w3 : Cond.code Lib.Math.max.name Lib.Math.max.code 2 (some .int) ∈ wsX8_greatest := by decide +kernel
  refine zM_of (cc := cX8_greatest) (nL := 3) (ret := (some .int)) (own := RX8) (by decide +kernel) rfl rfl (Nat.le_of_ble_eq_true rfl) (fun C X hi0 => ?_)
  show zG C V 0 0 0 [(0, .ref a), (1, .int (zI (mn)))] []
  refine zr_iload_n X 1 1 dX8_greatest_0 rfl rfl ?_
  refine zr_iconst X 2 dX8_greatest_1 rfl ?_
  refine zr_isub X 3 dX8_greatest_2 rfl ?_
  refine zr_iconst X 4 dX8_greatest_3 rfl ?_
  obtain ⟨mz1, mz1e, mz1a⟩ : ∃ z9 : Int, z9 = (if mn - 1 < 0 then 0 else mn - 1) ∧ ((mn - 1 < 0 ∧ z9 = 0) ∨ (¬ mn - 1 < 0 ∧ z9 = mn - 1)) := zmaxe _ _
  refine zr_mmax X 7 (mz1) w0 w1 w2 w3 (by decide) (Nat.le_of_ble_eq_true rfl) (by omega) (by omega) mz1e dX8_greatest_4 rfl ?_
  clear mz1e
  refine zr_istore_n X 8 [(2, .int (zI (mz1))), (0, .ref a), (1, .int (zI (mn)))] dX8_greatest_7 rfl (by decide) rfl ?_
  refine zr_sub [0, 2, 1] [(2, .int (zI (mz1))), (1, .int (zI (mn))), (0, .ref a)] rfl ?_
  have loop : ∀ (N : Nat) (q : Int), 0 ≤ q ∧ q ≤ 1000 ∧ (q < mn ∨ (q = 0 ∧ mn = 0)) ∧ (∀ k : Nat, q < (k : Int) → (k : Int) < mn → ¬ zpr (zwt (n : Int) f) (zwt (n : Int) f) mn.toNat k) → q.toNat = N → zG C V 0 0 8 [(2, .int (zI (q))), (1, .int (zI (mn))), (0, .ref a)] [] := by
    intro N
    induction N using Nat.strongRecOn with
    | _ N ih =>
    intro q hI hN
    obtain ⟨hI1, hI2, hI3, hI4⟩ := id hI
    refine zr_iload_n X 9 0 dX8_greatest_8 rfl rfl ?_
    refine zr_if_le X 27 12 dX8_greatest_9 rfl rfl (by omega) (fun bq2 => ?_) (fun bq2 => ?_)
    · refine zr_iload_n X 28 0 dX8_greatest_27 rfl rfl ?_
      have hz9 : zgb (zwt (n : Int) f) mn.toNat q.toNat := by
        refine ⟨by omega, ?_, fun k a9 b9 => ?_⟩
        · rw [show q.toNat = 0 by omega]
          exact zpr_0
        · by_cases c9 : k ≤ q.toNat
          · exact c9
          · exact absurd b9 (hI4 k (by omega) (by omega))
      exact zr_iret X rfl ⟨⟨q, rfl, by omega, by omega, hz9⟩, rfl⟩ dX8_greatest_28
    · refine zr_aload_n X 13 2 dX8_greatest_12 rfl rfl ?_
      refine zr_iload_n X 14 1 dX8_greatest_13 rfl rfl ?_
      refine zr_iload_n X 15 0 dX8_greatest_14 rfl rfl ?_
      refine zr_callS (kc' := 0) (ks' := 0) X 18 3 (m_X8_isBorder l Γ (mn := mn) (q := q) ha hac (by omega) (by omega) (by omega)) gX8_greatest_X8_isBorder rfl (by decide +kernel) rfl (by decide) rfl (Nat.le_of_ble_eq_true rfl) dX8_greatest_15 rfl (by omega) (by omega) (fun rv3 V4 hp5 => ?_)
      obtain ⟨⟨y6, y6e, y60⟩, y6v⟩ := hp5
      rw [y6e, y6v]
      show zG C V 0 0 18 [(2, .int (zI (q))), (1, .int (zI (mn))), (0, .ref a)] [.int (zI (y6))]
      refine zr_if_ne X 27 21 dX8_greatest_18 rfl rfl (by omega) (fun bq7 => ?_) (fun bq7 => ?_)
      · refine zr_iload_n X 28 0 dX8_greatest_27 rfl rfl ?_
        have hz9 : zgb (zwt (n : Int) f) mn.toNat q.toNat := by
          refine ⟨by omega, ?_, fun k a9 b9 => ?_⟩
          · rcases y60 with ⟨-, e9⟩ | ⟨e9, -⟩
            · exact e9.2
            · exfalso; omega
          · by_cases c9 : k ≤ q.toNat
            · exact c9
            · exact absurd b9 (hI4 k (by omega) (by omega))
        exact zr_iret X rfl ⟨⟨q, rfl, by omega, by omega, hz9⟩, rfl⟩ dX8_greatest_28
      · refine zr_iinc X 24 0 [(2, .int (zI (q + (-1)))), (1, .int (zI (mn))), (0, .ref a)] dX8_greatest_21 rfl rfl (by decide) rfl ?_
        refine zr_goto X 8 dX8_greatest_24 rfl ?_
        have hq9 : ∀ k : Nat, q + (-1) < (k : Int) → (k : Int) < mn → ¬ zpr (zwt (n : Int) f) (zwt (n : Int) f) mn.toNat k := fun k a9 b9 => by
          by_cases c9 : q < (k : Int)
          · exact hI4 k c9 b9
          · rcases y60 with ⟨e9, -⟩ | ⟨-, e9⟩
            · exfalso; omega
            · rw [show k = q.toNat by omega]
              exact fun d9 => e9 ⟨by omega, d9⟩
        exact ih _ (by omega) (q + (-1)) ⟨by omega, by omega, by omega, hq9⟩ rfl
  exact loop _ mz1 ⟨by omega, by omega, by omega, fun k a9 b9 => absurd b9 (by omega)⟩ rfl
end
section
/-! the model: its calls -/
theorem zw4_h8 {τ : Nat → Int} {i : Nat} {a b d e : Int} {j : Nat} (h : 24 ≤ j) (hi : i < 6) : zw4 τ i a b d e j = τ j := by
  unfold zw4
  rw [if_neg (by omega), if_neg (by omega), if_neg (by omega), if_neg (by omega)]
theorem zWm.rg {Γ : zGam} {V : zV} {tag w : Nat} {en c l p m st mk : Int} (h : zWm Γ V tag w en c l p m st mk) : 0 ≤ st ∧ st + c ≤ en ∧ 0 ≤ p ∧ p ≤ l ∧ l ≤ c ∧ c ≤ 40 ∧ m ≤ p ∧ -9 ≤ m ∧ -1 ≤ mk := by
  obtain ⟨h1, h2, h3, h4, h5, h6, h7, h8, h9⟩ := h
  exact ⟨h2, h3, h4, h5, h6, h7, h9, by omega, by omega⟩
theorem zWm.mk {Γ : zGam} {V : zV} {tag w : Nat} {en c l p m st mk : Int} (h : zWm Γ V tag w en c l p m st mk) : (m = -9 ∧ mk = -1) ∨ (m = mk ∧ 0 ≤ mk) := h.2.2.2.2.2.2.2.1
theorem zdn_lo {τ : Nat → Int} {j : Nat} (h : j ≠ 30) : zdn τ j = τ j := zdn_ne h
theorem zrf_ne {τ : Nat → Int} {j : Nat} (h : j ≠ 31) : zrf τ j = τ j := by
  rw [← zrf_zf]
  exact zf_ne h
set_option maxRecDepth 100000 in
set_option maxHeartbeats 4000000 in
theorem m_X8_isThrown (l : Launch) (Γ : zGam) {V : zV} {c md : Nat → Nat} {τ κ : Nat → Int} {E : Int} {a b : Int} (hM : zMo Γ V c md τ κ E) (ha : a = 0 ∨ a = 1) (hb : b = 0 ∨ b = 1) : zM l Γ 0 yX8_isThrown wsX8_isThrown 0 0 V [.ref (c 60), .int (zI (a)), .int (zI (b))] (fun rv V' => (∃ x k : Int, rv = some (.int (zI x)) ∧ ((a = 1 ∧ k = 1 ∧ x = 1) ∨ (a = 0 ∧ b = 1 ∧ k = 2 ∧ x = 1) ∨ (a = 0 ∧ b = 0 ∧ k = 0 ∧ x = 0)) ∧ zMo Γ V' c md (zf τ 36 k) κ E) ∧ zag (fun x => x ≠ 60) V V') := by
  have w0 : Cond.fieldLink RX8 38 "SashwordsModel" "thrown" "I" ∈ wsX8_isThrown := by decide +kernel
  have iX8 : ∀ w ∈ u_ws RX8 TX8 11, w ∈ wsX8_isThrown := by decide +kernel
  refine zM_of (cc := cX8_isThrown) (nL := 3) (ret := (some .boolean)) (own := RX8) (by decide +kernel) rfl rfl (Nat.le_of_ble_eq_true rfl) (fun C X hi0 => ?_)
  have nn1 : (0 ≤ κ 0 ∧ κ 0 ≤ κ 1 ∧ κ 0 ≤ E ∧ κ 1 ≤ 7000) ∧ (0 ≤ τ 24 ∧ τ 24 ≤ 80 ∧ 0 ≤ τ 25 ∧ τ 25 ≤ 80) ∧ 1 ≤ τ 26 ∧ τ 26 ≤ 8 ∧ 0 ≤ τ 29 ∧ τ 29 ≤ τ 28 ∧ τ 28 ≤ 160 ∧ τ 27 ≤ τ 26 ∧ τ 27 = τ 28 - τ 29 := hM.n
  show zG C V 0 0 0 [(0, .ref (c 60)), (1, .int (zI (a))), (2, .int (zI (b)))] []
  refine zr_aload_n X 1 0 dX8_isThrown_0 rfl rfl ?_
  refine zr_iload_n X 2 1 dX8_isThrown_1 rfl rfl ?_
  refine zr_if_eq X 9 5 dX8_isThrown_2 rfl rfl (by omega) (fun bq2 => ?_) (fun bq2 => ?_)
  · refine zr_iload_n X 10 2 dX8_isThrown_9 rfl rfl ?_
    refine zr_if_eq X 17 13 dX8_isThrown_10 rfl rfl (by omega) (fun bq3 => ?_) (fun bq3 => ?_)
    · refine zr_iconst X 18 dX8_isThrown_17 rfl ?_
      have c84 : V (c 60) = some (60, .inr (9, [.ref (md 61), .int (zI (κ 0)), .ref (c 62), .ref (md 63), .ref (md 64), .ref (c 65), .int (zI (τ 26)), .int (zI (τ 28)), .int (zI (τ 29)), .ref (c 66), .int (zI (τ 36))])) := hM.1
      refine zr_put X 21 9 10 [.ref (md 61), .int (zI (κ 0)), .ref (c 62), .ref (md 63), .ref (md 64), .ref (c 65), .int (zI (τ 26)), .int (zI (τ 28)), .int (zI (τ 29)), .ref (c 66), .int (zI (0))] tyX8 c84 rfl iX8 tyX8_ok nmX8 (by decide) w0 rfl rfl rfl rfl (Nat.le_of_ble_eq_true rfl) rfl dX8_isThrown_18 rfl ?_
      have th5 := hM.setM (τ 26) (τ 28) (τ 29) (0) (by omega)
      rw [zmf_36 (by omega)] at th5
      obtain ⟨cm6h, cm6f⟩ := th5
      obtain ⟨cm6V, cm6e⟩ : ∃ zz9 : zV, zz9 = (zu V (c 60) 60 (.inr (9, [.ref (md 61), .int (zI (κ 0)), .ref (c 62), .ref (md 63), .ref (md 64), .ref (c 65), .int (zI (τ 26)), .int (zI (τ 28)), .int (zI (τ 29)), .ref (c 66), .int (zI (0))]))) := ⟨_, rfl⟩
      have cm6m : zMo Γ cm6V c md (zf τ 36 (0)) κ E := by
        rw [cm6e]
        exact cm6h
      have cm6g : zag (fun x => x ≠ 60) V cm6V := by
        rw [cm6e]
        exact cm6f
      refine zr_view (cm6e).symm ?_
      have fx7 : zfm V cm6V := (cm6g.mono (fun t ht => by omega))
      obtain ⟨τ8, τ8e⟩ : ∃ zz9 : Nat → Int, zz9 = zf τ 36 (0) := ⟨_, rfl⟩
      rw [← τ8e] at cm6m
      have τ8_24 : τ8 24 = τ 24 := by rw [τ8e]; exact rfl
      have τ8_25 : τ8 25 = τ 25 := by rw [τ8e]; exact rfl
      have τ8_26 : τ8 26 = τ 26 := by rw [τ8e]; exact rfl
      have τ8_27 : τ8 27 = τ 27 := by rw [τ8e]; exact rfl
      have τ8_28 : τ8 28 = τ 28 := by rw [τ8e]; exact rfl
      have τ8_29 : τ8 29 = τ 29 := by rw [τ8e]; exact rfl
      have τ8_30 : τ8 30 = τ 30 := by rw [τ8e]; exact rfl
      have τ8_31 : τ8 31 = τ 31 := by rw [τ8e]; exact rfl
      have τ8_32 : τ8 32 = τ 32 := by rw [τ8e]; exact rfl
      have τ8_33 : τ8 33 = τ 33 := by rw [τ8e]; exact rfl
      have τ8_36 : τ8 36 = 0 := by rw [τ8e]; exact rfl
      show zG C cm6V 0 0 21 [(0, .ref (c 60)), (1, .int (zI (a))), (2, .int (zI (b)))] []
      refine zr_aload_n X 22 0 dX8_isThrown_21 rfl rfl ?_
      have c89 : cm6V (c 60) = some (60, .inr (9, [.ref (md 61), .int (zI (κ 0)), .ref (c 62), .ref (md 63), .ref (md 64), .ref (c 65), .int (zI (τ8 26)), .int (zI (τ8 28)), .int (zI (τ8 29)), .ref (c 66), .int (zI (τ8 36))])) := cm6m.1
      refine zr_get X 25 9 10 c89 rfl iX8 (by decide) w0 rfl rfl dX8_isThrown_22 rfl ?_
      refine zr_if_le X 32 28 dX8_isThrown_25 rfl rfl (by omega) (fun bq10 => ?_) (fun bq10 => ?_)
      · refine zr_iconst X 33 dX8_isThrown_32 rfl ?_
        exact zr_zret X rfl rfl ⟨⟨0, 0, rfl, by omega, by rw [← τ8e]; exact cm6m⟩, cm6g⟩ dX8_isThrown_33
      · refine zr_iconst X 29 dX8_isThrown_28 rfl ?_
        refine zr_goto X 33 dX8_isThrown_29 rfl ?_
        exact zr_zret X rfl rfl ⟨⟨1, 0, rfl, by omega, by rw [← τ8e]; exact cm6m⟩, cm6g⟩ dX8_isThrown_33
    · refine zr_iconst X 14 dX8_isThrown_13 rfl ?_
      refine zr_goto X 18 dX8_isThrown_14 rfl ?_
      have c811 : V (c 60) = some (60, .inr (9, [.ref (md 61), .int (zI (κ 0)), .ref (c 62), .ref (md 63), .ref (md 64), .ref (c 65), .int (zI (τ 26)), .int (zI (τ 28)), .int (zI (τ 29)), .ref (c 66), .int (zI (τ 36))])) := hM.1
      refine zr_put X 21 9 10 [.ref (md 61), .int (zI (κ 0)), .ref (c 62), .ref (md 63), .ref (md 64), .ref (c 65), .int (zI (τ 26)), .int (zI (τ 28)), .int (zI (τ 29)), .ref (c 66), .int (zI (2))] tyX8 c811 rfl iX8 tyX8_ok nmX8 (by decide) w0 rfl rfl rfl rfl (Nat.le_of_ble_eq_true rfl) rfl dX8_isThrown_18 rfl ?_
      have th12 := hM.setM (τ 26) (τ 28) (τ 29) (2) (by omega)
      rw [zmf_36 (by omega)] at th12
      obtain ⟨cm13h, cm13f⟩ := th12
      obtain ⟨cm13V, cm13e⟩ : ∃ zz9 : zV, zz9 = (zu V (c 60) 60 (.inr (9, [.ref (md 61), .int (zI (κ 0)), .ref (c 62), .ref (md 63), .ref (md 64), .ref (c 65), .int (zI (τ 26)), .int (zI (τ 28)), .int (zI (τ 29)), .ref (c 66), .int (zI (2))]))) := ⟨_, rfl⟩
      have cm13m : zMo Γ cm13V c md (zf τ 36 (2)) κ E := by
        rw [cm13e]
        exact cm13h
      have cm13g : zag (fun x => x ≠ 60) V cm13V := by
        rw [cm13e]
        exact cm13f
      refine zr_view (cm13e).symm ?_
      have fx14 : zfm V cm13V := (cm13g.mono (fun t ht => by omega))
      obtain ⟨τ15, τ15e⟩ : ∃ zz9 : Nat → Int, zz9 = zf τ 36 (2) := ⟨_, rfl⟩
      rw [← τ15e] at cm13m
      have τ15_24 : τ15 24 = τ 24 := by rw [τ15e]; exact rfl
      have τ15_25 : τ15 25 = τ 25 := by rw [τ15e]; exact rfl
      have τ15_26 : τ15 26 = τ 26 := by rw [τ15e]; exact rfl
      have τ15_27 : τ15 27 = τ 27 := by rw [τ15e]; exact rfl
      have τ15_28 : τ15 28 = τ 28 := by rw [τ15e]; exact rfl
      have τ15_29 : τ15 29 = τ 29 := by rw [τ15e]; exact rfl
      have τ15_30 : τ15 30 = τ 30 := by rw [τ15e]; exact rfl
      have τ15_31 : τ15 31 = τ 31 := by rw [τ15e]; exact rfl
      have τ15_32 : τ15 32 = τ 32 := by rw [τ15e]; exact rfl
      have τ15_33 : τ15 33 = τ 33 := by rw [τ15e]; exact rfl
      have τ15_36 : τ15 36 = 2 := by rw [τ15e]; exact rfl
      show zG C cm13V 0 0 21 [(0, .ref (c 60)), (1, .int (zI (a))), (2, .int (zI (b)))] []
      refine zr_aload_n X 22 0 dX8_isThrown_21 rfl rfl ?_
      have c816 : cm13V (c 60) = some (60, .inr (9, [.ref (md 61), .int (zI (κ 0)), .ref (c 62), .ref (md 63), .ref (md 64), .ref (c 65), .int (zI (τ15 26)), .int (zI (τ15 28)), .int (zI (τ15 29)), .ref (c 66), .int (zI (τ15 36))])) := cm13m.1
      refine zr_get X 25 9 10 c816 rfl iX8 (by decide) w0 rfl rfl dX8_isThrown_22 rfl ?_
      refine zr_if_le X 32 28 dX8_isThrown_25 rfl rfl (by omega) (fun bq17 => ?_) (fun bq17 => ?_)
      · refine zr_iconst X 33 dX8_isThrown_32 rfl ?_
        exact zr_zret X rfl rfl ⟨⟨0, 2, rfl, by omega, by rw [← τ15e]; exact cm13m⟩, cm13g⟩ dX8_isThrown_33
      · refine zr_iconst X 29 dX8_isThrown_28 rfl ?_
        refine zr_goto X 33 dX8_isThrown_29 rfl ?_
        exact zr_zret X rfl rfl ⟨⟨1, 2, rfl, by omega, by rw [← τ15e]; exact cm13m⟩, cm13g⟩ dX8_isThrown_33
  · refine zr_iconst X 6 dX8_isThrown_5 rfl ?_
    refine zr_goto X 18 dX8_isThrown_6 rfl ?_
    have c818 : V (c 60) = some (60, .inr (9, [.ref (md 61), .int (zI (κ 0)), .ref (c 62), .ref (md 63), .ref (md 64), .ref (c 65), .int (zI (τ 26)), .int (zI (τ 28)), .int (zI (τ 29)), .ref (c 66), .int (zI (τ 36))])) := hM.1
    refine zr_put X 21 9 10 [.ref (md 61), .int (zI (κ 0)), .ref (c 62), .ref (md 63), .ref (md 64), .ref (c 65), .int (zI (τ 26)), .int (zI (τ 28)), .int (zI (τ 29)), .ref (c 66), .int (zI (1))] tyX8 c818 rfl iX8 tyX8_ok nmX8 (by decide) w0 rfl rfl rfl rfl (Nat.le_of_ble_eq_true rfl) rfl dX8_isThrown_18 rfl ?_
    have th19 := hM.setM (τ 26) (τ 28) (τ 29) (1) (by omega)
    rw [zmf_36 (by omega)] at th19
    obtain ⟨cm20h, cm20f⟩ := th19
    obtain ⟨cm20V, cm20e⟩ : ∃ zz9 : zV, zz9 = (zu V (c 60) 60 (.inr (9, [.ref (md 61), .int (zI (κ 0)), .ref (c 62), .ref (md 63), .ref (md 64), .ref (c 65), .int (zI (τ 26)), .int (zI (τ 28)), .int (zI (τ 29)), .ref (c 66), .int (zI (1))]))) := ⟨_, rfl⟩
    have cm20m : zMo Γ cm20V c md (zf τ 36 (1)) κ E := by
      rw [cm20e]
      exact cm20h
    have cm20g : zag (fun x => x ≠ 60) V cm20V := by
      rw [cm20e]
      exact cm20f
    refine zr_view (cm20e).symm ?_
    have fx21 : zfm V cm20V := (cm20g.mono (fun t ht => by omega))
    obtain ⟨τ22, τ22e⟩ : ∃ zz9 : Nat → Int, zz9 = zf τ 36 (1) := ⟨_, rfl⟩
    rw [← τ22e] at cm20m
    have τ22_24 : τ22 24 = τ 24 := by rw [τ22e]; exact rfl
    have τ22_25 : τ22 25 = τ 25 := by rw [τ22e]; exact rfl
    have τ22_26 : τ22 26 = τ 26 := by rw [τ22e]; exact rfl
    have τ22_27 : τ22 27 = τ 27 := by rw [τ22e]; exact rfl
    have τ22_28 : τ22 28 = τ 28 := by rw [τ22e]; exact rfl
    have τ22_29 : τ22 29 = τ 29 := by rw [τ22e]; exact rfl
    have τ22_30 : τ22 30 = τ 30 := by rw [τ22e]; exact rfl
    have τ22_31 : τ22 31 = τ 31 := by rw [τ22e]; exact rfl
    have τ22_32 : τ22 32 = τ 32 := by rw [τ22e]; exact rfl
    have τ22_33 : τ22 33 = τ 33 := by rw [τ22e]; exact rfl
    have τ22_36 : τ22 36 = 1 := by rw [τ22e]; exact rfl
    show zG C cm20V 0 0 21 [(0, .ref (c 60)), (1, .int (zI (a))), (2, .int (zI (b)))] []
    refine zr_aload_n X 22 0 dX8_isThrown_21 rfl rfl ?_
    have c823 : cm20V (c 60) = some (60, .inr (9, [.ref (md 61), .int (zI (κ 0)), .ref (c 62), .ref (md 63), .ref (md 64), .ref (c 65), .int (zI (τ22 26)), .int (zI (τ22 28)), .int (zI (τ22 29)), .ref (c 66), .int (zI (τ22 36))])) := cm20m.1
    refine zr_get X 25 9 10 c823 rfl iX8 (by decide) w0 rfl rfl dX8_isThrown_22 rfl ?_
    refine zr_if_le X 32 28 dX8_isThrown_25 rfl rfl (by omega) (fun bq24 => ?_) (fun bq24 => ?_)
    · refine zr_iconst X 33 dX8_isThrown_32 rfl ?_
      exact zr_zret X rfl rfl ⟨⟨0, 1, rfl, by omega, by rw [← τ22e]; exact cm20m⟩, cm20g⟩ dX8_isThrown_33
    · refine zr_iconst X 29 dX8_isThrown_28 rfl ?_
      refine zr_goto X 33 dX8_isThrown_29 rfl ?_
      exact zr_zret X rfl rfl ⟨⟨1, 1, rfl, by omega, by rw [← τ22e]; exact cm20m⟩, cm20g⟩ dX8_isThrown_33
set_option maxRecDepth 100000 in
set_option maxHeartbeats 4000000 in
theorem m_X8_done (l : Launch) (Γ : zGam) {V : zV} {c md : Nat → Nat} {τ κ : Nat → Int} {E : Int} {y : Int32} (hM : zMo Γ V c md τ κ E) : zM l Γ 0 yX8_done wsX8_done 0 0 V [.ref (c 60), .int (y)] (fun rv V' => rv = some (.int y) ∧ zMo Γ V' c md (zdn τ) κ E ∧ zag (fun x => x ≠ 66) V V') := by
  have w0 : Cond.fieldLink RX8 31 "SashwordsModel" "tallies" "[I" ∈ wsX8_done := by decide +kernel
  have iX8 : ∀ w ∈ u_ws RX8 TX8 11, w ∈ wsX8_done := by decide +kernel
  refine zM_of (cc := cX8_done) (nL := 2) (ret := (some .int)) (own := RX8) (by decide +kernel) rfl rfl (Nat.le_of_ble_eq_true rfl) (fun C X hi0 => ?_)
  have nn1 : 0 ≤ κ 0 ∧ κ 0 ≤ κ 1 ∧ κ 0 ≤ E ∧ κ 1 ≤ 7000 := hM.n.1
  show zG C V 0 0 0 [(0, .ref (c 60)), (1, .int (y))] []
  refine zr_aload_n X 1 0 dX8_done_0 rfl rfl ?_
  have c82 : V (c 60) = some (60, .inr (9, [.ref (md 61), .int (zI (κ 0)), .ref (c 62), .ref (md 63), .ref (md 64), .ref (c 65), .int (zI (τ 26)), .int (zI (τ 28)), .int (zI (τ 29)), .ref (c 66), .int (zI (τ 36))])) := hM.1
  refine zr_get X 4 9 9 c82 rfl iX8 (by decide) w0 rfl rfl dX8_done_1 rfl ?_
  refine zr_iconst X 5 dX8_done_4 rfl ?_
  refine zr_dup2 X 6 dX8_done_5 rfl rfl rfl ?_
  obtain ⟨c83f, c83, c830, c831, c832, c833⟩ := hM.2.2.2.2.2.2.2.1
  refine zr_iald X 7 c83 (by omega) dX8_done_6 rfl ?_
  show zG C V 0 0 7 [(0, .ref (c 60)), (1, .int (y))] [.int (zI (c83f (0 : Int).toNat)), .int (zI (0)), .ref (c 66)]
  refine zr_iconst X 8 dX8_done_7 rfl ?_
  refine zr_iadd X 9 dX8_done_8 rfl ?_
  refine zr_iast X 10 c83 (by omega) dX8_done_9 rfl ?_
  have c83x : c83f (0 : Int).toNat + 1 = τ 30 + 1 := by
    show c83f 0 + 1 = τ 30 + 1
    rw [c830]
  have c83y := hM.setTal c83 ⟨c830, c831, c832, c833⟩ 0 (by decide) (c83f (0 : Int).toNat + 1)
  rw [show zf τ (30 + 0) (c83f (0 : Int).toNat + 1) = zf τ (30 + 0) (τ 30 + 1) by rw [c83x]] at c83y
  rw [zdn_zf] at c83y
  obtain ⟨cm4h, cm4f⟩ := c83y
  obtain ⟨cm4V, cm4e⟩ : ∃ zz9 : zV, zz9 = (zu V (c 66) 66 (za Γ.2.1 0 4 (zf c83f (0 : Int).toNat ((c83f (0 : Int).toNat) + 1)))) := ⟨_, rfl⟩
  have cm4m : zMo Γ cm4V c md (zdn τ) κ E := by
    rw [cm4e]
    exact cm4h
  have cm4g : zag (fun x => x ≠ 66) V cm4V := by
    rw [cm4e]
    exact cm4f
  refine zr_view (cm4e).symm ?_
  have fx5 : zfm V cm4V := (cm4g.mono (fun t ht => by omega))
  obtain ⟨τ6, τ6e⟩ : ∃ zz9 : Nat → Int, zz9 = zdn τ := ⟨_, rfl⟩
  rw [← τ6e] at cm4m
  show zG C cm4V 0 0 10 [(0, .ref (c 60)), (1, .int (y))] []
  refine zr_iload_n X 11 1 dX8_done_10 rfl rfl ?_
  exact zr_iret X rfl ⟨rfl, by rw [← τ6e]; exact cm4m, cm4g⟩ dX8_done_11
set_option maxRecDepth 100000 in
set_option maxHeartbeats 4000000 in
theorem m_X8_refused (l : Launch) (Γ : zGam) {V : zV} {c md : Nat → Nat} {τ κ : Nat → Int} {E : Int} (hM : zMo Γ V c md τ κ E) : zM l Γ 0 yX8_refused wsX8_refused 0 0 V [.ref (c 60)] (fun rv V' => rv = some (.int (zI (-9))) ∧ zMo Γ V' c md (zrf τ) κ E ∧ zag (fun x => x ≠ 66) V V') := by
  have w0 : Cond.fieldLink RX8 31 "SashwordsModel" "tallies" "[I" ∈ wsX8_refused := by decide +kernel
  have iX8 : ∀ w ∈ u_ws RX8 TX8 11, w ∈ wsX8_refused := by decide +kernel
  refine zM_of (cc := cX8_refused) (nL := 1) (ret := (some .int)) (own := RX8) (by decide +kernel) rfl rfl (Nat.le_of_ble_eq_true rfl) (fun C X hi0 => ?_)
  have nn1 : 0 ≤ κ 0 ∧ κ 0 ≤ κ 1 ∧ κ 0 ≤ E ∧ κ 1 ≤ 7000 := hM.n.1
  show zG C V 0 0 0 [(0, .ref (c 60))] []
  refine zr_aload_n X 1 0 dX8_refused_0 rfl rfl ?_
  have c82 : V (c 60) = some (60, .inr (9, [.ref (md 61), .int (zI (κ 0)), .ref (c 62), .ref (md 63), .ref (md 64), .ref (c 65), .int (zI (τ 26)), .int (zI (τ 28)), .int (zI (τ 29)), .ref (c 66), .int (zI (τ 36))])) := hM.1
  refine zr_get X 4 9 9 c82 rfl iX8 (by decide) w0 rfl rfl dX8_refused_1 rfl ?_
  refine zr_iconst X 5 dX8_refused_4 rfl ?_
  refine zr_dup2 X 6 dX8_refused_5 rfl rfl rfl ?_
  obtain ⟨c83f, c83, c830, c831, c832, c833⟩ := hM.2.2.2.2.2.2.2.1
  refine zr_iald X 7 c83 (by omega) dX8_refused_6 rfl ?_
  show zG C V 0 0 7 [(0, .ref (c 60))] [.int (zI (c83f (1 : Int).toNat)), .int (zI (1)), .ref (c 66)]
  refine zr_iconst X 8 dX8_refused_7 rfl ?_
  refine zr_iadd X 9 dX8_refused_8 rfl ?_
  refine zr_iast X 10 c83 (by omega) dX8_refused_9 rfl ?_
  have c83x : c83f (1 : Int).toNat + 1 = τ 31 + 1 := by
    show c83f 1 + 1 = τ 31 + 1
    rw [c831]
  have c83y := hM.setTal c83 ⟨c830, c831, c832, c833⟩ 1 (by decide) (c83f (1 : Int).toNat + 1)
  rw [show zf τ (30 + 1) (c83f (1 : Int).toNat + 1) = zf τ (30 + 1) (τ 31 + 1) by rw [c83x]] at c83y
  rw [zrf_zf] at c83y
  obtain ⟨cm4h, cm4f⟩ := c83y
  obtain ⟨cm4V, cm4e⟩ : ∃ zz9 : zV, zz9 = (zu V (c 66) 66 (za Γ.2.1 0 4 (zf c83f (1 : Int).toNat ((c83f (1 : Int).toNat) + 1)))) := ⟨_, rfl⟩
  have cm4m : zMo Γ cm4V c md (zrf τ) κ E := by
    rw [cm4e]
    exact cm4h
  have cm4g : zag (fun x => x ≠ 66) V cm4V := by
    rw [cm4e]
    exact cm4f
  refine zr_view (cm4e).symm ?_
  have fx5 : zfm V cm4V := (cm4g.mono (fun t ht => by omega))
  obtain ⟨τ6, τ6e⟩ : ∃ zz9 : Nat → Int, zz9 = zrf τ := ⟨_, rfl⟩
  rw [← τ6e] at cm4m
  show zG C cm4V 0 0 10 [(0, .ref (c 60))] []
  refine zr_bipush X 12 (-9) dX8_refused_10 rfl (by decide) ?_
  exact zr_iret X rfl ⟨rfl, by rw [← τ6e]; exact cm4m, cm4g⟩ dX8_refused_12
def zcx (g : Nat → Int) (k : Int) : Nat → Int := fun j => if (j : Int) < k then g j else 0
theorem zcx_0 {g : Nat → Int} : zcx g 0 = fun _ => 0 := by
  funext j
  unfold zcx
  rw [if_neg (by omega)]
theorem zcx_in {g : Nat → Int} {k : Int} {j : Nat} (h : (j : Int) < k) : zcx g k j = g j := if_pos h
theorem zcx_step {g : Nat → Int} {k v : Int} (hk : 0 ≤ k) (hv : v = g k.toNat) : zf (zcx g k) k.toNat v = zcx g (k + 1) := by
  funext j
  unfold zf zcx
  by_cases e : j = k.toNat
  · rw [if_pos e, if_pos (by omega), hv, e]
  · rw [if_neg e]
    by_cases c : (j : Int) < k
    · rw [if_pos c, if_pos (by omega)]
    · rw [if_neg c, if_neg (by omega)]
theorem zcx_zc {g : Nat → Int} {k : Int} (h : ∀ j : Nat, (j : Int) < k → 0 ≤ g j ∧ g j ≤ 255) : zc (zcx g k) := fun j => by
  unfold zcx
  by_cases c : (j : Int) < k
  · rw [if_pos c]
    exact h j c
  · rw [if_neg c]
    exact ⟨Int.le_refl _, by decide⟩
set_option maxRecDepth 100000 in
set_option maxHeartbeats 4000000 in
theorem m_X8_text (l : Launch) (Γ : zGam) {V : zV} {c md : Nat → Nat} {τ κ : Nat → Int} {E : Int} {i : Int} {tg : Nat} (hM : zMo Γ V c md τ κ E) (hi : 0 ≤ i ∧ i < 6) : zM l Γ 1 yX8_text wsX8_text 1 40 V [.ref (c 60), .ref (md (70 + i.toNat))] (fun rv V' => ∃ (q : Nat) (f' : Nat → Int), rv = some (.ref q) ∧ V' q = some (tg, za Γ.2.1 0 (τ (4 * i.toNat + 1) - τ (4 * i.toNat + 2)).toNat f') ∧ zc f' ∧ zag zal V V' ∧ ∀ j : Nat, (j : Int) < τ (4 * i.toNat + 1) - τ (4 * i.toNat + 2) → f' j = τ (zTp (τ (40 + i.toNat) + τ (4 * i.toNat + 2) + (j : Int)))) := by
  have w0 : Cond.arrayClass .int ∈ wsX8_text := by decide +kernel
  have w1 : Cond.fieldLink RX8 7 "SashwordsModel" "tape" "[I" ∈ wsX8_text := by decide +kernel
  have iX8 : ∀ w ∈ u_ws RX8 TX8 11, w ∈ wsX8_text := by decide +kernel
  refine zM_of (cc := cX8_text) (nL := 4) (ret := (some (.array .int))) (own := RX8) (by decide +kernel) rfl rfl (Nat.le_of_ble_eq_true rfl) (fun C X hi0 => ?_)
  have nn1 : 0 ≤ κ 0 ∧ κ 0 ≤ κ 1 ∧ κ 0 ≤ E ∧ κ 1 ≤ 7000 := hM.n.1
  have c82 : V (c 60) = some (60, .inr (9, [.ref (md 61), .int (zI (κ 0)), .ref (c 62), .ref (md 63), .ref (md 64), .ref (c 65), .int (zI (τ 26)), .int (zI (τ 28)), .int (zI (τ 29)), .ref (c 66), .int (zI (τ 36))])) := hM.1
  obtain ⟨c83f, c83, c83c, c83v⟩ := hM.ct.1
  have hw5 := hM.w (i := i.toNat) (by omega)
  have hw5r := hw5.rg
  have h40 := hM.ct.2.2.1.2 i.toNat (by omega)
  show zG C V 1 40 0 [(0, .ref (c 60)), (1, .ref (md (70 + i.toNat)))] []
  refine zr_aload_n X 1 1 dX8_text_0 rfl rfl ?_
  refine zr_callS (kc' := 1) (ks' := 40) X 4 1 (m_X8_length l Γ hw5.1 (by omega)) gX8_text_X8_length rfl (by decide +kernel) rfl (by decide) rfl (Nat.le_of_ble_eq_true rfl) dX8_text_1 rfl (by omega) (by omega) (fun rv6 V7 hp8 => ?_)
  rw [hp8.1, hp8.2]
  show zG C V 1 40 4 [(0, .ref (c 60)), (1, .ref (md (70 + i.toNat)))] [.int (zI ((τ (4 * i.toNat + 1)) - (τ (4 * i.toNat + 2))))]
  refine zr_newai (kc' := (1 - 1)) (ks' := (40 - ((τ (4 * i.toNat + 1)) - (τ (4 * i.toNat + 2))).toNat)) X 6 tg w0 (by omega) dX8_text_4 rfl (by omega) (by omega) (fun q9 hq10 => ?_)
  refine zr_astore_n X 7 [(2, .ref q9), (0, .ref (c 60)), (1, .ref (md (70 + i.toNat)))] dX8_text_6 rfl (by decide) rfl ?_
  refine zr_iconst X 8 dX8_text_7 rfl ?_
  refine zr_istore_n X 9 [(3, .int (zI (0))), (2, .ref q9), (0, .ref (c 60)), (1, .ref (md (70 + i.toNat)))] dX8_text_8 rfl (by decide) rfl ?_
  refine zr_view (V' := zu V q9 tg (za Γ.2.1 0 (τ (4 * i.toNat + 1) - τ (4 * i.toNat + 2)).toNat (zcx (fun j => τ (zTp (τ (40 + i.toNat) + τ (4 * i.toNat + 2) + (j : Int)))) 0))) (by rw [zcx_0]) ?_
  refine zr_sub [0, 1, 3, 2] [(3, .int (zI (0))), (2, .ref q9), (1, .ref (md (70 + i.toNat))), (0, .ref (c 60))] rfl ?_
  have loop : ∀ (N : Nat) (k : Int), 0 ≤ k ∧ k ≤ τ (4 * i.toNat + 1) - τ (4 * i.toNat + 2) → (τ (4 * i.toNat + 1) - τ (4 * i.toNat + 2) - k).toNat = N → zG C (zu V q9 tg (za Γ.2.1 0 (τ (4 * i.toNat + 1) - τ (4 * i.toNat + 2)).toNat (zcx (fun j => τ (zTp (τ (40 + i.toNat) + τ (4 * i.toNat + 2) + (j : Int)))) k))) (1 - 1) (40 - ((τ (4 * i.toNat + 1)) - (τ (4 * i.toNat + 2))).toNat) 9 [(3, .int (zI (k))), (2, .ref q9), (1, .ref (md (70 + i.toNat))), (0, .ref (c 60))] [] := by
    intro N
    induction N using Nat.strongRecOn with
    | _ N ih =>
    intro k hI hN
    obtain ⟨hI2, hI3⟩ := id hI
    refine zr_iload_n X 10 0 dX8_text_9 rfl rfl ?_
    refine zr_aload_n X 11 1 dX8_text_10 rfl rfl ?_
    refine zr_alen X 12 0 (zu_eq _ _ _ _) (by decide) dX8_text_11 rfl ?_
    refine zr_icmp_ge X 38 15 dX8_text_12 rfl rfl (by omega) (by omega) (fun bq11 => ?_) (fun bq11 => ?_)
    · refine zr_aload_n X 39 1 dX8_text_38 rfl rfl ?_
      have hzz : zc (zcx (fun j => τ (zTp (τ (40 + i.toNat) + τ (4 * i.toNat + 2) + (j : Int)))) k) := zcx_zc (fun j hj => by rw [show zTp (τ (40 + i.toNat) + τ (4 * i.toNat + 2) + (j : Int)) = 1000 + (τ (40 + i.toNat) + τ (4 * i.toNat + 2) + (j : Int)).toNat from rfl, ← c83v _ (by omega)]; exact c83c _)
      exact zr_aret X rfl (Or.inr ⟨_, rfl⟩) ⟨q9, zcx (fun j => τ (zTp (τ (40 + i.toNat) + τ (4 * i.toNat + 2) + (j : Int)))) k, rfl, zu_eq _ _ _ _, hzz, zag.rf.new hq10, fun j hj => zcx_in (by omega)⟩ dX8_text_39
    · refine zr_aload_n X 16 1 dX8_text_15 rfl rfl ?_
      refine zr_iload_n X 17 0 dX8_text_16 rfl rfl ?_
      refine zr_aload_n X 18 3 dX8_text_17 rfl rfl ?_
      refine zr_get X 21 9 0 ((zu_ne (zne_new c82 hq10)).trans c82) rfl iX8 (by decide) w1 rfl rfl dX8_text_18 rfl ?_
      refine zr_aload_n X 22 2 dX8_text_21 rfl rfl ?_
      refine zr_iconst X 23 dX8_text_22 rfl ?_
      refine zr_iald X 24 ((zu_ne (zne_new hw5.1 hq10)).trans hw5.1) (by omega) dX8_text_23 rfl ?_
      show zG C (zu V q9 tg (za Γ.2.1 0 (τ (4 * i.toNat + 1) - τ (4 * i.toNat + 2)).toNat (zcx (fun j => τ (zTp (τ (40 + i.toNat) + τ (4 * i.toNat + 2) + (j : Int)))) k))) (1 - 1) (40 - ((τ (4 * i.toNat + 1)) - (τ (4 * i.toNat + 2))).toNat) 24 [(3, .int (zI (k))), (2, .ref q9), (1, .ref (md (70 + i.toNat))), (0, .ref (c 60))] [.int (zI (κ (10 + i.toNat))), .ref (md 61), .int (zI (k)), .ref q9]
      refine zr_aload_n X 25 2 dX8_text_24 rfl rfl ?_
      refine zr_iconst X 26 dX8_text_25 rfl ?_
      refine zr_iald X 27 ((zu_ne (zne_new hw5.1 hq10)).trans hw5.1) (by omega) dX8_text_26 rfl ?_
      show zG C (zu V q9 tg (za Γ.2.1 0 (τ (4 * i.toNat + 1) - τ (4 * i.toNat + 2)).toNat (zcx (fun j => τ (zTp (τ (40 + i.toNat) + τ (4 * i.toNat + 2) + (j : Int)))) k))) (1 - 1) (40 - ((τ (4 * i.toNat + 1)) - (τ (4 * i.toNat + 2))).toNat) 27 [(3, .int (zI (k))), (2, .ref q9), (1, .ref (md (70 + i.toNat))), (0, .ref (c 60))] [.int (zI (τ (4 * i.toNat + 2))), .int (zI (κ (10 + i.toNat))), .ref (md 61), .int (zI (k)), .ref q9]
      refine zr_iadd X 28 dX8_text_27 rfl ?_
      refine zr_iload_n X 29 0 dX8_text_28 rfl rfl ?_
      refine zr_iadd X 30 dX8_text_29 rfl ?_
      refine zr_iald X 31 ((zu_ne (zne_new c83 hq10)).trans c83) (by omega) dX8_text_30 rfl ?_
      have zb12 := zc.b c83c (((κ (10 + i.toNat)) + (τ (4 * i.toNat + 2))) + k).toNat
      refine zr_iast X 32 (zu_eq _ _ _ _) (by omega) dX8_text_31 rfl ?_
      refine zr_view (zu_zu _ _ _ _ _ _) ?_
      refine zr_iinc X 35 0 [(3, .int (zI (k + 1))), (2, .ref q9), (1, .ref (md (70 + i.toNat))), (0, .ref (c 60))] dX8_text_32 rfl rfl (by decide) rfl ?_
      refine zr_goto X 9 dX8_text_35 rfl ?_
      rw [zcx_step (g := fun j => τ (zTp (τ (40 + i.toNat) + τ (4 * i.toNat + 2) + (j : Int)))) (by omega) (by rw [c83v _ (by omega)]; exact congrArg τ (by unfold zTp; omega))]
      exact ih _ (by omega) (k + 1) ⟨by omega, by omega⟩ rfl
  exact loop _ 0 ⟨by omega, by omega⟩ rfl
set_option maxRecDepth 100000 in
set_option maxHeartbeats 4000000 in
theorem m_X8_textOf (l : Launch) (Γ : zGam) {V : zV} {c md : Nat → Nat} {τ κ : Nat → Int} {E : Int} {q : Int} {tg : Nat} (hM : zMo Γ V c md τ κ E) (hq : 0 ≤ q ∧ q ≤ 7) : zM l Γ 2 yX8_textOf wsX8_textOf 1 40 V [.ref (c 60), .int (zI (q))] (fun rv V' => ∃ (r tr : Nat) (f' : Nat → Int), rv = some (.ref r) ∧ V' r = some (tr, za Γ.2.1 0 (zsz τ q).toNat f') ∧ zc f' ∧ (tr = 63 ∨ tr = 64 ∨ tr = tg) ∧ 0 ≤ zsz τ q ∧ zsz τ q ≤ 80 ∧ zag zal V V' ∧ ∀ k : Nat, (k : Int) < zsz τ q → f' k = zsg τ q k) := by
  have w0 : Cond.fieldLink RX8 14 "SashwordsModel" "windows" "[[I" ∈ wsX8_textOf := by decide +kernel
  have iX8 : ∀ w ∈ u_ws RX8 TX8 11, w ∈ wsX8_textOf := by decide +kernel
  have w2 : Cond.fieldLink RX8 21 "SashwordsModel" "kept" "[I" ∈ wsX8_textOf := by decide +kernel
  have w3 : Cond.fieldLink RX8 18 "SashwordsModel" "built" "[I" ∈ wsX8_textOf := by decide +kernel
  refine zM_of (cc := cX8_textOf) (nL := 2) (ret := (some (.array .int))) (own := RX8) (by decide +kernel) rfl rfl (Nat.le_of_ble_eq_true rfl) (fun C X hi0 => ?_)
  have nn1 : (0 ≤ κ 0 ∧ κ 0 ≤ κ 1 ∧ κ 0 ≤ E ∧ κ 1 ≤ 7000) ∧ (0 ≤ τ 24 ∧ τ 24 ≤ 80 ∧ 0 ≤ τ 25 ∧ τ 25 ≤ 80) ∧ 1 ≤ τ 26 ∧ τ 26 ≤ 8 ∧ 0 ≤ τ 29 ∧ τ 29 ≤ τ 28 ∧ τ 28 ≤ 160 ∧ τ 27 ≤ τ 26 ∧ τ 27 = τ 28 - τ 29 := hM.n
  show zG C V 1 40 0 [(0, .ref (c 60)), (1, .int (zI (q)))] []
  refine zr_iload_n X 1 1 dX8_textOf_0 rfl rfl ?_
  refine zr_bipush X 3 (6) dX8_textOf_1 rfl (by decide) ?_
  refine zr_icmp_ne X 13 6 dX8_textOf_3 rfl rfl (by omega) (by omega) (fun bq2 => ?_) (fun bq2 => ?_)
  · refine zr_iload_n X 14 1 dX8_textOf_13 rfl rfl ?_
    refine zr_bipush X 16 (7) dX8_textOf_14 rfl (by decide) ?_
    refine zr_icmp_ne X 26 19 dX8_textOf_16 rfl rfl (by omega) (by omega) (fun bq3 => ?_) (fun bq3 => ?_)
    · refine zr_aload_n X 27 0 dX8_textOf_26 rfl rfl ?_
      refine zr_aload_n X 28 0 dX8_textOf_27 rfl rfl ?_
      have c84 : V (c 60) = some (60, .inr (9, [.ref (md 61), .int (zI (κ 0)), .ref (c 62), .ref (md 63), .ref (md 64), .ref (c 65), .int (zI (τ 26)), .int (zI (τ 28)), .int (zI (τ 29)), .ref (c 66), .int (zI (τ 36))])) := hM.1
      refine zr_get X 31 9 2 c84 rfl iX8 (by decide) w0 rfl rfl dX8_textOf_28 rfl ?_
      refine zr_iload_n X 32 1 dX8_textOf_31 rfl rfl ?_
      have c85 : V (c 62) = some (62, zq Γ.2.1 4 6 (fun i => some (md (70 + i)))) := hM.2.2.1
      refine zr_aaldI X 33 (.ref (md (70 + q.toNat))) c85 (by omega) rfl dX8_textOf_32 rfl ?_
      have hw7 := hM.w (i := q.toNat) (by omega)
      have hw7r := hw7.rg
      refine zr_callVe (kc' := (1 - 1)) (ks' := (40 - 40)) X 36 1 (m_X8_text l Γ (tg := tg) (i := q) hM (by omega)) gX8_textOf_X8_text rfl (by decide +kernel) rfl (by decide) ⟨_, _, hM.1⟩ rfl rfl (Nat.le_of_ble_eq_true rfl) dX8_textOf_33 rfl (by omega) (by omega) (fun rv8 V9 hp10 => ?_)
      obtain ⟨hp10q, hp10f, hp10e, hp10h, hp10c, hp10g, hp10z⟩ := hp10
      rw [hp10e]
      have hp10m := hM.kept hp10g (fun _ _ _ => trivial)
      have fx11 : zfm V V9 := (hp10g.mono (fun _ _ => trivial))
      show zG C V9 (1 - 1) (40 - 40) 36 [(0, .ref (c 60)), (1, .int (zI (q)))] [.ref hp10q]
      exact zr_aret X rfl (Or.inr ⟨_, rfl⟩) (by have ez : zsz τ q = τ (4 * q.toNat + 1) - τ (4 * q.toNat + 2) := (by unfold zsz; rw [if_pos (by omega)]); rw [ez]; exact ⟨_, _, _, rfl, hp10h, hp10c, by omega, by omega, by omega, hp10g, fun k hk => by unfold zsg; rw [if_pos (by omega)]; exact hp10z k hk⟩) dX8_textOf_36
    · refine zr_aload_n X 20 0 dX8_textOf_19 rfl rfl ?_
      have c812 : V (c 60) = some (60, .inr (9, [.ref (md 61), .int (zI (κ 0)), .ref (c 62), .ref (md 63), .ref (md 64), .ref (c 65), .int (zI (τ 26)), .int (zI (τ 28)), .int (zI (τ 29)), .ref (c 66), .int (zI (τ 36))])) := hM.1
      refine zr_get X 23 9 4 c812 rfl iX8 (by decide) w2 rfl rfl dX8_textOf_20 rfl ?_
      refine zr_goto X 36 dX8_textOf_23 rfl ?_
      obtain ⟨c813f, c813, c813c, c813v⟩ := hM.ct.2.2.2.2
      exact zr_aret X rfl (Or.inr ⟨_, rfl⟩) (by have ez : zsz τ q = τ 25 := (by unfold zsz; rw [if_neg (by omega), if_neg (by omega)]); rw [ez]; exact ⟨_, _, _, rfl, c813, c813c, by omega, by omega, by omega, zag.rf, fun k hk => by unfold zsg; rw [if_neg (by omega), if_neg (by omega)]; exact c813v k (by omega) (by omega)⟩) dX8_textOf_36
  · refine zr_aload_n X 7 0 dX8_textOf_6 rfl rfl ?_
    have c814 : V (c 60) = some (60, .inr (9, [.ref (md 61), .int (zI (κ 0)), .ref (c 62), .ref (md 63), .ref (md 64), .ref (c 65), .int (zI (τ 26)), .int (zI (τ 28)), .int (zI (τ 29)), .ref (c 66), .int (zI (τ 36))])) := hM.1
    refine zr_get X 10 9 3 c814 rfl iX8 (by decide) w3 rfl rfl dX8_textOf_7 rfl ?_
    refine zr_goto X 36 dX8_textOf_10 rfl ?_
    obtain ⟨c815f, c815, c815c, c815v⟩ := hM.ct.2.2.2.1
    exact zr_aret X rfl (Or.inr ⟨_, rfl⟩) (by have ez : zsz τ q = τ 24 := (by unfold zsz; rw [if_neg (by omega), if_pos (by omega)]); rw [ez]; exact ⟨_, _, _, rfl, c815, c815c, by omega, by omega, by omega, zag.rf, fun k hk => by unfold zsg; rw [if_neg (by omega), if_pos (by omega)]; exact c815v k (by omega) (by omega)⟩) dX8_textOf_36
end
