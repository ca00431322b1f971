/-! the state of a Sashwords object: its cells by their marks, its numbers in σ -/
def zag (P : Nat → Prop) (V V' : zV) : Prop := ∀ (a t : Nat) (e : va_E), V a = some (t, e) → P t → V' a = some (t, e)
theorem zag.rf {P : Nat → Prop} {V : zV} : zag P V V := fun _ _ _ h _ => h
theorem zag.tr {P : Nat → Prop} {V V' V'' : zV} (h : zag P V V') (h' : zag P V' V'') : zag P V V'' := fun a t e h1 h2 => h' a t e (h a t e h1 h2) h2
theorem zag.mono {P Q : Nat → Prop} {V V' : zV} (h : zag P V V') (hq : ∀ t, Q t → P t) : zag Q V V' := fun a t e h1 h2 => h a t e h1 (hq t h2)
theorem zag.set {P : Nat → Prop} {V V' : zV} (h : zag P V V') {b t0 t : Nat} {e0 e : va_E} (hb : V' b = some (t0, e0)) (hp : ¬ P t0) : zag P V (zu V' b t e) := fun a t1 e1 h1 h2 => by
  have h3 := h a t1 e1 h1 h2
  have hne : a ≠ b := fun q => by
    rw [q, hb] at h3
    cases h3
    exact hp h2
  rw [zu_ne hne]
  exact h3
theorem zag.new {P : Nat → Prop} {V V' : zV} (h : zag P V V') {b t : Nat} {e : va_E} (hb : V' b = none) : zag P V (zu V' b t e) := fun a t1 e1 h1 h2 => by
  have h3 := h a t1 e1 h1 h2
  have hne : a ≠ b := fun q => by
    rw [q, hb] at h3
    cases h3
  rw [zu_ne hne]
  exact h3
def zWi (Γ : zGam) (V : zV) (tag w : Nat) (cap lim pos mk : Int) : Prop := ∃ (r n : Nat) (st : Int) (f : Nat → Int), V w = some (tag, .inr (6, [.ref r, .int (zI st), .int (zI cap), .int (zI lim), .int (zI pos), .int (zI mk)])) ∧ V r = some (50, za Γ.2.1 1 n f) ∧ zWb st cap lim pos mk n ∧ zc f ∧ cap ≤ 40
def zSc (Γ : zGam) (V : zV) (tb b tg g n : Nat) (len : Int) : Prop := ∃ f : Nat → Int, V b = some (tb, .inr (4, [.ref g, .int (zI len)])) ∧ V g = some (tg, za Γ.2.1 1 n f) ∧ zc f ∧ 0 ≤ len ∧ len ≤ n
def zBo (Γ : zGam) (V : zV) (tt t ta ga tc ca : Nat) : Prop := ∃ (lk : Int) (gf cf : Nat → Int), V t = some (tt, .inr (2, [.ref ga, .ref ca, .int (zI lk)])) ∧ V ga = some (ta, za Γ.2.1 0 81 gf) ∧ V ca = some (tc, za Γ.2.1 0 80 cf) ∧ zbd gf ∧ zbd cf ∧ 0 ≤ lk ∧ lk ≤ 80
def zSk (Γ : zGam) (V : zV) (tk k tp pl bo : Nat) : Prop := ∃ (mn : Int) (pf : Nat → Int), V k = some (tk, .inr (5, [.ref bo, .ref pl, .int (zI mn)])) ∧ V pl = some (tp, za Γ.2.1 0 81 pf) ∧ zpl pf ∧ 0 ≤ mn ∧ mn ≤ 81
theorem zWi.kept {Γ : zGam} {V V' : zV} {P : Nat → Prop} {tag w : Nat} {cap lim pos mk : Int} (h : zWi Γ V tag w cap lim pos mk) (ha : zag P V V') (h1 : P tag) (h2 : P 50) : zWi Γ V' tag w cap lim pos mk := by
  obtain ⟨r, n, st, f, a, b, c⟩ := h
  exact ⟨r, n, st, f, ha _ _ _ a h1, ha _ _ _ b h2, c⟩
theorem zSc.kept {Γ : zGam} {V V' : zV} {P : Nat → Prop} {tb b tg g n : Nat} {len : Int} (h : zSc Γ V tb b tg g n len) (ha : zag P V V') (h1 : P tb) (h2 : P tg) : zSc Γ V' tb b tg g n len := by
  obtain ⟨f, a, b, c⟩ := h
  exact ⟨f, ha _ _ _ a h1, ha _ _ _ b h2, c⟩
theorem zBo.kept {Γ : zGam} {V V' : zV} {P : Nat → Prop} {tt t ta ga tc ca : Nat} (h : zBo Γ V tt t ta ga tc ca) (ha : zag P V V') (h1 : P tt) (h2 : P ta) (h3 : P tc) : zBo Γ V' tt t ta ga tc ca := by
  obtain ⟨lk, gf, cf, a, b, c, d⟩ := h
  exact ⟨lk, gf, cf, ha _ _ _ a h1, ha _ _ _ b h2, ha _ _ _ c h3, d⟩
theorem zSk.kept {Γ : zGam} {V V' : zV} {P : Nat → Prop} {tk k tp pl bo : Nat} (h : zSk Γ V tk k tp pl bo) (ha : zag P V V') (h1 : P tk) (h2 : P tp) : zSk Γ V' tk k tp pl bo := by
  obtain ⟨mn, pf, a, b, c⟩ := h
  exact ⟨mn, pf, ha _ _ _ a h1, ha _ _ _ b h2, c⟩
/-- rows may change their signs -/
def z50 (Γ : zGam) (V V' : zV) : Prop := ∀ (a n : Nat) (f : Nat → Int), V a = some (50, za Γ.2.1 1 n f) → zc f → ∃ f' : Nat → Int, V' a = some (50, za Γ.2.1 1 n f') ∧ zc f'
theorem zWi.row {Γ : zGam} {V V' : zV} {P : Nat → Prop} {tag w : Nat} {cap lim pos mk : Int} (h : zWi Γ V tag w cap lim pos mk) (ha : zag P V V') (h1 : P tag) (h2 : z50 Γ V V') : zWi Γ V' tag w cap lim pos mk := by
  obtain ⟨r, n, st, f, a, b, c, d, e⟩ := h
  obtain ⟨f', b', d'⟩ := h2 r n f b d
  exact ⟨r, n, st, f', ha _ _ _ a h1, b', c, d', e⟩
theorem z50.of {Γ : zGam} {V V' : zV} {P : Nat → Prop} (ha : zag P V V') (h : P 50) : z50 Γ V V' := fun a n f h1 h2 => ⟨f, ha _ _ _ h1 h, h2⟩
theorem z50.set {Γ : zGam} {V : zV} {r n : Nat} {f f' : Nat → Int} (hr : V r = some (50, za Γ.2.1 1 n f)) (hf : zc f') : z50 Γ V (zu V r 50 (za Γ.2.1 1 n f')) := fun a n1 f1 h1 h2 => by
  by_cases h : a = r
  · subst h
    have e : za Γ.2.1 1 n1 f1 = za Γ.2.1 1 n f := by
      rw [h1] at hr
      exact (Prod.mk.inj (Option.some.inj hr)).2
    have en : n1 = n := (Prod.mk.inj (Prod.mk.inj (Sum.inl.inj e)).2).1
    subst en
    exact ⟨f', zu_eq _ _ _ _, hf⟩
  · exact ⟨f1, by rw [zu_ne h]; exact h1, h2⟩
/-- the cell of the object itself: its tallies are the numbers 30 to 33 -/
def zXc (ad : Nat → Nat) (a b c d : Int) : va_E := .inr (7, [.ref (ad 2), .ref (ad 20), .ref (ad 22), .ref (ad 24), .ref (ad 16), .ref (ad 31), .ref (ad 33), .ref (ad 35), .ref (ad 40), .ref (ad 45), .int (zI a), .int (zI b), .int (zI c), .int (zI d)])
def zPi (ad : Nat → Nat) (wd : Int) : va_E := .inr (3, [.ref (ad 25), .ref (ad 27), .ref (ad 29), .int (zI wd)])
def zSx (V : zV) (ad : Nat → Nat) (σ : Nat → Int) : Prop := V (ad 1) = some (1, zXc ad (σ 30) (σ 31) (σ 32) (σ 33))
def zSa (Γ : zGam) (V : zV) (ad : Nat → Nat) : Prop := V (ad 2) = some (2, zq Γ.2.1 3 6 (fun i => some (ad (10 + i))))
def zSw (Γ : zGam) (V : zV) (ad : Nat → Nat) (σ : Nat → Int) : Prop := ∀ i, i < 6 → zWi Γ V (10 + i) (ad (10 + i)) (σ (4 * i)) (σ (4 * i + 1)) (σ (4 * i + 2)) (σ (4 * i + 3))
def zSd (Γ : zGam) (V : zV) (ad : Nat → Nat) : Prop := ∃ c l p m : Int, zWi Γ V 16 (ad 16) c l p m
def zSt (Γ : zGam) (V : zV) (ad : Nat → Nat) (σ : Nat → Int) : Prop := zSc Γ V 20 (ad 20) 21 (ad 21) 80 (σ 24) ∧ zSc Γ V 22 (ad 22) 23 (ad 23) 80 (σ 25) ∧ (∃ n, zSc Γ V 31 (ad 31) 32 (ad 32) 80 n) ∧ (∃ n, zSc Γ V 33 (ad 33) 34 (ad 34) 80 n)
def zSp (Γ : zGam) (V : zV) (ad : Nat → Nat) (σ : Nat → Int) : Prop := V (ad 24) = some (24, zPi ad (σ 26)) ∧ zSc Γ V 25 (ad 25) 26 (ad 26) 8 (σ 27) ∧ zSc Γ V 27 (ad 27) 28 (ad 28) 160 (σ 28) ∧ zSc Γ V 29 (ad 29) 30 (ad 30) 160 (σ 29) ∧ 1 ≤ σ 26 ∧ σ 26 ≤ 8 ∧ σ 27 ≤ σ 26 ∧ σ 29 + σ 27 = σ 28
def zSf (Γ : zGam) (V : zV) (ad : Nat → Nat) : Prop := zSk Γ V 35 (ad 35) 39 (ad 39) (ad 36) ∧ zBo Γ V 36 (ad 36) 37 (ad 37) 38 (ad 38) ∧ zSk Γ V 40 (ad 40) 44 (ad 44) (ad 41) ∧ zBo Γ V 41 (ad 41) 42 (ad 42) 43 (ad 43) ∧ zBo Γ V 45 (ad 45) 46 (ad 46) 47 (ad 47)
def zS (Γ : zGam) (V : zV) (ad : Nat → Nat) (σ : Nat → Int) : Prop := zSx V ad σ ∧ zSa Γ V ad ∧ zSw Γ V ad σ ∧ zSd Γ V ad ∧ zSt Γ V ad σ ∧ zSp Γ V ad σ ∧ zSf Γ V ad
theorem zSx.kept {V V' : zV} {ad : Nat → Nat} {σ : Nat → Int} {P : Nat → Prop} (h : zSx V ad σ) (ha : zag P V V') (hp : P 1) : zSx V' ad σ := ha _ _ _ h hp
theorem zSa.kept {Γ : zGam} {V V' : zV} {ad : Nat → Nat} {P : Nat → Prop} (h : zSa Γ V ad) (ha : zag P V V') (hp : P 2) : zSa Γ V' ad := ha _ _ _ h hp
theorem zSw.kept {Γ : zGam} {V V' : zV} {ad : Nat → Nat} {σ : Nat → Int} {P : Nat → Prop} (h : zSw Γ V ad σ) (ha : zag P V V') (hp : ∀ i, i < 6 → P (10 + i)) (h5 : z50 Γ V V') : zSw Γ V' ad σ := fun i hi => (h i hi).row ha (hp i hi) h5
theorem zSd.kept {Γ : zGam} {V V' : zV} {ad : Nat → Nat} {P : Nat → Prop} (h : zSd Γ V ad) (ha : zag P V V') (hp : P 16) (h5 : z50 Γ V V') : zSd Γ V' ad := by
  obtain ⟨c, l, p, m, h⟩ := h
  exact ⟨c, l, p, m, h.row ha hp h5⟩
theorem zSt.kept {Γ : zGam} {V V' : zV} {ad : Nat → Nat} {σ : Nat → Int} {P : Nat → Prop} (h : zSt Γ V ad σ) (ha : zag P V V') (h0 : P 20) (h1 : P 21) (h2 : P 22) (h3 : P 23) (h4 : P 31) (h5 : P 32) (h6 : P 33) (h7 : P 34) : zSt Γ V' ad σ := by
  obtain ⟨a, b, ⟨n, c⟩, ⟨n2, d⟩⟩ := h
  exact ⟨a.kept ha h0 h1, b.kept ha h2 h3, ⟨n, c.kept ha h4 h5⟩, ⟨n2, d.kept ha h6 h7⟩⟩
theorem zSp.kept {Γ : zGam} {V V' : zV} {ad : Nat → Nat} {σ : Nat → Int} {P : Nat → Prop} (h : zSp Γ V ad σ) (ha : zag P V V') (h0 : P 24) (h1 : P 25) (h2 : P 26) (h3 : P 27) (h4 : P 28) (h5 : P 29) (h6 : P 30) : zSp Γ V' ad σ := by
  obtain ⟨a, b, c, d, e⟩ := h
  exact ⟨ha _ _ _ a h0, b.kept ha h1 h2, c.kept ha h3 h4, d.kept ha h5 h6, e⟩
theorem zSf.kept {Γ : zGam} {V V' : zV} {ad : Nat → Nat} {P : Nat → Prop} (h : zSf Γ V ad) (ha : zag P V V') (hp : ∀ t, 35 ≤ t → t ≤ 47 → P t) : zSf Γ V' ad := by
  obtain ⟨a, b, c, d, e⟩ := h
  exact ⟨a.kept ha (hp _ (by first | with_reducible assumption | decide | omega) (by first | with_reducible assumption | decide | omega)) (hp _ (by first | with_reducible assumption | decide | omega) (by first | with_reducible assumption | decide | omega)), b.kept ha (hp _ (by first | with_reducible assumption | decide | omega) (by first | with_reducible assumption | decide | omega)) (hp _ (by first | with_reducible assumption | decide | omega) (by first | with_reducible assumption | decide | omega)) (hp _ (by first | with_reducible assumption | decide | omega) (by first | with_reducible assumption | decide | omega)), c.kept ha (hp _ (by first | with_reducible assumption | decide | omega) (by first | with_reducible assumption | decide | omega)) (hp _ (by first | with_reducible assumption | decide | omega) (by first | with_reducible assumption | decide | omega)), d.kept ha (hp _ (by first | with_reducible assumption | decide | omega) (by first | with_reducible assumption | decide | omega)) (hp _ (by first | with_reducible assumption | decide | omega) (by first | with_reducible assumption | decide | omega)) (hp _ (by first | with_reducible assumption | decide | omega) (by first | with_reducible assumption | decide | omega)), e.kept ha (hp _ (by first | with_reducible assumption | decide | omega) (by first | with_reducible assumption | decide | omega)) (hp _ (by first | with_reducible assumption | decide | omega) (by first | with_reducible assumption | decide | omega)) (hp _ (by first | with_reducible assumption | decide | omega) (by first | with_reducible assumption | decide | omega))⟩
/-- nothing of the object's own changes -/
theorem zS.kept {Γ : zGam} {V V' : zV} {ad : Nat → Nat} {σ : Nat → Int} {P : Nat → Prop} (h : zS Γ V ad σ) (ha : zag P V V') (hp : ∀ t, 1 ≤ t → t ≤ 50 → t ≠ 7 → P t) : zS Γ V' ad σ := by
  obtain ⟨a, b, c, d, e, f, g⟩ := h
  have q : ∀ t, 10 ≤ t → t ≤ 50 → P t := fun t h1 h2 => hp t (by first | with_reducible assumption | decide | omega) h2 (by first | with_reducible assumption | decide | omega)
  exact ⟨a.kept ha (hp 1 (by first | with_reducible assumption | decide | omega) (by first | with_reducible assumption | decide | omega) (by first | with_reducible assumption | decide | omega)), b.kept ha (hp 2 (by first | with_reducible assumption | decide | omega) (by first | with_reducible assumption | decide | omega) (by first | with_reducible assumption | decide | omega)), c.kept ha (fun i hi => q _ (by first | with_reducible assumption | decide | omega) (by first | with_reducible assumption | decide | omega)) (.of ha (q _ (by first | with_reducible assumption | decide | omega) (by first | with_reducible assumption | decide | omega))), d.kept ha (q _ (by first | with_reducible assumption | decide | omega) (by first | with_reducible assumption | decide | omega)) (.of ha (q _ (by first | with_reducible assumption | decide | omega) (by first | with_reducible assumption | decide | omega))),
    e.kept ha (q _ (by first | with_reducible assumption | decide | omega) (by first | with_reducible assumption | decide | omega)) (q _ (by first | with_reducible assumption | decide | omega) (by first | with_reducible assumption | decide | omega)) (q _ (by first | with_reducible assumption | decide | omega) (by first | with_reducible assumption | decide | omega)) (q _ (by first | with_reducible assumption | decide | omega) (by first | with_reducible assumption | decide | omega)) (q _ (by first | with_reducible assumption | decide | omega) (by first | with_reducible assumption | decide | omega)) (q _ (by first | with_reducible assumption | decide | omega) (by first | with_reducible assumption | decide | omega)) (q _ (by first | with_reducible assumption | decide | omega) (by first | with_reducible assumption | decide | omega)) (q _ (by first | with_reducible assumption | decide | omega) (by first | with_reducible assumption | decide | omega)),
    f.kept ha (q _ (by first | with_reducible assumption | decide | omega) (by first | with_reducible assumption | decide | omega)) (q _ (by first | with_reducible assumption | decide | omega) (by first | with_reducible assumption | decide | omega)) (q _ (by first | with_reducible assumption | decide | omega) (by first | with_reducible assumption | decide | omega)) (q _ (by first | with_reducible assumption | decide | omega) (by first | with_reducible assumption | decide | omega)) (q _ (by first | with_reducible assumption | decide | omega) (by first | with_reducible assumption | decide | omega)) (q _ (by first | with_reducible assumption | decide | omega) (by first | with_reducible assumption | decide | omega)) (q _ (by first | with_reducible assumption | decide | omega) (by first | with_reducible assumption | decide | omega)), g.kept ha (fun t h1 h2 => q t (by first | with_reducible assumption | decide | omega) (by first | with_reducible assumption | decide | omega))⟩
