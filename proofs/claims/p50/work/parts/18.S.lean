/-! the state of a Sashwords object: its cells by their marks, its numbers in σ -/
def zag (P : Nat → Prop) (V V' : zV) : Prop := ∀ (a t : Nat) (e : va_E), V a = some (t, e) → P t → V' a = some (t, e)
theorem zag.rf {P : Nat → Prop} {V : zV} : zag P V V := fun _ _ _ h _ => h
theorem zag.tr {P : Nat → Prop} {V V' V'' : zV} (h : zag P V V') (h' : zag P V' V'') : zag P V V'' := fun a t e h1 h2 => h' a t e (h a t e h1 h2) h2
theorem zag.mono {P Q : Nat → Prop} {V V' : zV} (h : zag P V V') (hq : ∀ t, Q t → P t) : zag Q V V' := fun a t e h1 h2 => h a t e h1 (hq t h2)
theorem zag.set {P : Nat → Prop} {V V' : zV} (h : zag P V V') {b t0 t : Nat} {e0 e : va_E} (hb : V' b = some (t0, e0)) (hp : ¬ P t0) : zag P V (zu V' b t e) := fun a t1 e1 h1 h2 => by
  have h3 := h a t1 e1 h1 h2
  have hne : a ≠ b := fun q => by
    rw [q, hb] at h3
    cases h3
    exact hp h2
  rw [zu_ne hne]
  exact h3
theorem zag.new {P : Nat → Prop} {V V' : zV} (h : zag P V V') {b t : Nat} {e : va_E} (hb : V' b = none) : zag P V (zu V' b t e) := fun a t1 e1 h1 h2 => by
  have h3 := h a t1 e1 h1 h2
  have hne : a ≠ b := fun q => by
    rw [q, hb] at h3
    cases h3
  rw [zu_ne hne]
  exact h3
def zWi (Γ : zGam) (V : zV) (tag w : Nat) (cap lim pos mk : Int) : Prop := ∃ (r n : Nat) (st : Int) (f : Nat → Int), V w = some (tag, .inr (6, [.ref r, .int (zI st), .int (zI cap), .int (zI lim), .int (zI pos), .int (zI mk)])) ∧ V r = some (50, za Γ.2.1 1 n f) ∧ zWb st cap lim pos mk n ∧ zc f ∧ cap ≤ 40
def zSc (Γ : zGam) (V : zV) (tb b tg g n : Nat) (len : Int) : Prop := ∃ f : Nat → Int, V b = some (tb, .inr (4, [.ref g, .int (zI len)])) ∧ V g = some (tg, za Γ.2.1 1 n f) ∧ zc f ∧ 0 ≤ len ∧ len ≤ n
def zBo (Γ : zGam) (V : zV) (tt t ta ga tc ca : Nat) : Prop := ∃ (lk : Int) (gf cf : Nat → Int), V t = some (tt, .inr (2, [.ref ga, .ref ca, .int (zI lk)])) ∧ V ga = some (ta, za Γ.2.1 0 81 gf) ∧ V ca = some (tc, za Γ.2.1 0 80 cf) ∧ zbd gf ∧ zbd cf ∧ 0 ≤ lk ∧ lk ≤ 80 ∧ zb1 gf
/-- a seeker that holds these places -/
def zSkx (Γ : zGam) (V : zV) (tk k tp pl bo : Nat) (mn : Int) (pf : Nat → Int) : Prop := V k = some (tk, .inr (5, [.ref bo, .ref pl, .int (zI mn)])) ∧ V pl = some (tp, za Γ.2.1 0 81 pf) ∧ zpl pf ∧ 0 ≤ mn ∧ mn ≤ 81
/-- borders that are known -/
def zBox (Γ : zGam) (V : zV) (tt t ta ga : Nat) (gf : Nat → Int) : Prop := ∃ (lk : Int) (ca : Nat), V t = some (tt, .inr (2, [.ref ga, .ref ca, .int (zI lk)])) ∧ V ga = some (ta, za Γ.2.1 0 81 gf) ∧ zbd gf
def zSk (Γ : zGam) (V : zV) (tk k tp pl bo : Nat) : Prop := ∃ (mn : Int) (pf : Nat → Int), V k = some (tk, .inr (5, [.ref bo, .ref pl, .int (zI mn)])) ∧ V pl = some (tp, za Γ.2.1 0 81 pf) ∧ zpl pf ∧ 0 ≤ mn ∧ mn ≤ 81
theorem zWi.kept {Γ : zGam} {V V' : zV} {P : Nat → Prop} {tag w : Nat} {cap lim pos mk : Int} (h : zWi Γ V tag w cap lim pos mk) (ha : zag P V V') (h1 : P tag) (h2 : P 50) : zWi Γ V' tag w cap lim pos mk := by
  obtain ⟨r, n, st, f, a, b, c⟩ := h
  exact ⟨r, n, st, f, ha _ _ _ a h1, ha _ _ _ b h2, c⟩
theorem zSc.kept {Γ : zGam} {V V' : zV} {P : Nat → Prop} {tb b tg g n : Nat} {len : Int} (h : zSc Γ V tb b tg g n len) (ha : zag P V V') (h1 : P tb) (h2 : P tg) : zSc Γ V' tb b tg g n len := by
  obtain ⟨f, a, b, c⟩ := h
  exact ⟨f, ha _ _ _ a h1, ha _ _ _ b h2, c⟩
theorem zBo.kept {Γ : zGam} {V V' : zV} {P : Nat → Prop} {tt t ta ga tc ca : Nat} (h : zBo Γ V tt t ta ga tc ca) (ha : zag P V V') (h1 : P tt) (h2 : P ta) (h3 : P tc) : zBo Γ V' tt t ta ga tc ca := by
  obtain ⟨lk, gf, cf, a, b, c, d⟩ := h
  exact ⟨lk, gf, cf, ha _ _ _ a h1, ha _ _ _ b h2, ha _ _ _ c h3, d⟩
theorem zSk.kept {Γ : zGam} {V V' : zV} {P : Nat → Prop} {tk k tp pl bo : Nat} (h : zSk Γ V tk k tp pl bo) (ha : zag P V V') (h1 : P tk) (h2 : P tp) : zSk Γ V' tk k tp pl bo := by
  obtain ⟨mn, pf, a, b, c⟩ := h
  exact ⟨mn, pf, ha _ _ _ a h1, ha _ _ _ b h2, c⟩
/-- rows may change their signs -/
def z50 (Γ : zGam) (V V' : zV) : Prop := ∀ (a n : Nat) (f : Nat → Int), V a = some (50, za Γ.2.1 1 n f) → zc f → ∃ f' : Nat → Int, V' a = some (50, za Γ.2.1 1 n f') ∧ zc f'
theorem zWi.row {Γ : zGam} {V V' : zV} {P : Nat → Prop} {tag w : Nat} {cap lim pos mk : Int} (h : zWi Γ V tag w cap lim pos mk) (ha : zag P V V') (h1 : P tag) (h2 : z50 Γ V V') : zWi Γ V' tag w cap lim pos mk := by
  obtain ⟨r, n, st, f, a, b, c, d, e⟩ := h
  obtain ⟨f', b', d'⟩ := h2 r n f b d
  exact ⟨r, n, st, f', ha _ _ _ a h1, b', c, d', e⟩
theorem z50.of {Γ : zGam} {V V' : zV} {P : Nat → Prop} (ha : zag P V V') (h : P 50) : z50 Γ V V' := fun a n f h1 h2 => ⟨f, ha _ _ _ h1 h, h2⟩
theorem z50.set {Γ : zGam} {V : zV} {r n : Nat} {f f' : Nat → Int} (hr : V r = some (50, za Γ.2.1 1 n f)) (hf : zc f') : z50 Γ V (zu V r 50 (za Γ.2.1 1 n f')) := fun a n1 f1 h1 h2 => by
  by_cases h : a = r
  · subst h
    have e : za Γ.2.1 1 n1 f1 = za Γ.2.1 1 n f := by
      rw [h1] at hr
      exact (Prod.mk.inj (Option.some.inj hr)).2
    have en : n1 = n := (Prod.mk.inj (Prod.mk.inj (Sum.inl.inj e)).2).1
    subst en
    exact ⟨f', zu_eq _ _ _ _, hf⟩
  · exact ⟨f1, by rw [zu_ne h]; exact h1, h2⟩
/-- the cell of the object itself: its tallies are the numbers 30 to 33 -/
def zXc (ad : Nat → Nat) (a b c d : Int) : va_E := .inr (7, [.ref (ad 2), .ref (ad 20), .ref (ad 22), .ref (ad 24), .ref (ad 16), .ref (ad 31), .ref (ad 33), .ref (ad 35), .ref (ad 40), .ref (ad 45), .int (zI a), .int (zI b), .int (zI c), .int (zI d)])
def zPi (ad : Nat → Nat) (wd : Int) : va_E := .inr (3, [.ref (ad 25), .ref (ad 27), .ref (ad 29), .int (zI wd)])
def zSx (V : zV) (ad : Nat → Nat) (σ : Nat → Int) : Prop := V (ad 1) = some (1, zXc ad (σ 30) (σ 31) (σ 32) (σ 33))
def zSa (Γ : zGam) (V : zV) (ad : Nat → Nat) : Prop := V (ad 2) = some (2, zq Γ.2.1 3 6 (fun i => some (ad (10 + i))))
def zSw (Γ : zGam) (V : zV) (ad : Nat → Nat) (σ : Nat → Int) : Prop := ∀ i, i < 6 → zWi Γ V (10 + i) (ad (10 + i)) (σ (4 * i)) (σ (4 * i + 1)) (σ (4 * i + 2)) (σ (4 * i + 3))
def zSd (Γ : zGam) (V : zV) (ad : Nat → Nat) : Prop := ∃ c l p m : Int, zWi Γ V 16 (ad 16) c l p m
def zSt (Γ : zGam) (V : zV) (ad : Nat → Nat) (σ : Nat → Int) : Prop := zSc Γ V 20 (ad 20) 21 (ad 21) 80 (σ 24) ∧ zSc Γ V 22 (ad 22) 23 (ad 23) 80 (σ 25) ∧ (∃ n, zSc Γ V 31 (ad 31) 32 (ad 32) 80 n) ∧ (∃ n, zSc Γ V 33 (ad 33) 34 (ad 34) 80 n)
/-- what is held and what came is what was sent -/
def zCp (Γ : zGam) (V : zV) (ad : Nat → Nat) (nh nc : Int) : Prop := ∃ fh fs fc : Nat → Int, V (ad 26) = some (26, za Γ.2.1 1 8 fh) ∧ V (ad 28) = some (28, za Γ.2.1 1 160 fs) ∧ V (ad 30) = some (30, za Γ.2.1 1 160 fc) ∧ (zc fh ∧ zc fs ∧ zc fc) ∧ (∀ j : Nat, (j : Int) < nc → fc j = fs j) ∧ ∀ j : Nat, (j : Int) < nh → fh j = fs (nc.toNat + j)
theorem zCp.kept {Γ : zGam} {V V' : zV} {ad : Nat → Nat} {nh nc : Int} {P : Nat → Prop} (h : zCp Γ V ad nh nc) (ha : zag P V V') (h2 : P 26) (h4 : P 28) (h6 : P 30) : zCp Γ V' ad nh nc := by
  obtain ⟨fh, fs, fc, a, b, c, d⟩ := h
  exact ⟨fh, fs, fc, ha _ _ _ a h2, ha _ _ _ b h4, ha _ _ _ c h6, d⟩
theorem zCp.of0 {Γ : zGam} {V : zV} {ad : Nat → Nat} {nh nc n1 n2 n3 : Int} (h1 : zSc Γ V 25 (ad 25) 26 (ad 26) 8 n1) (h2 : zSc Γ V 27 (ad 27) 28 (ad 28) 160 n2) (h3 : zSc Γ V 29 (ad 29) 30 (ad 30) 160 n3) (e1 : nh ≤ 0) (e2 : nc ≤ 0) : zCp Γ V ad nh nc := by
  obtain ⟨fh, -, a, za1, -⟩ := h1
  obtain ⟨fs, -, b, zb1, -⟩ := h2
  obtain ⟨fc, -, c, zc1, -⟩ := h3
  exact ⟨fh, fs, fc, a, b, c, ⟨za1, zb1, zc1⟩, fun j hj => absurd hj (by omega), fun j hj => absurd hj (by omega)⟩
theorem zrow_uni {V : zV} {a t n k : Nat} {aC : Nat → ClassId} {f g : Nat → Int} (h1 : V a = some (t, za aC k n f)) (h2 : V a = some (t, za aC k n g)) (z1 : zc f) (z2 : zc g) : f = g := by
  rw [h1] at h2
  have e := (Prod.mk.inj (Option.some.inj h2)).2
  have e2 := Sum.inl.inj (Prod.mk.inj (Prod.mk.inj (Sum.inl.inj e)).2).2
  funext j
  have e3 := congrArg Int32.toInt (congrFun e2 j)
  have a := z1 j
  have b := z2 j
  rw [zI_toInt _ (by omega), zI_toInt _ (by omega)] at e3
  exact e3
/-- the pipe is told by four numbers -/
def zSp (Γ : zGam) (V : zV) (ad : Nat → Nat) (σ : Nat → Int) : Prop := V (ad 24) = some (24, zPi ad (σ 26)) ∧ zSc Γ V 25 (ad 25) 26 (ad 26) 8 (σ 27) ∧ zSc Γ V 27 (ad 27) 28 (ad 28) 160 (σ 28) ∧ zSc Γ V 29 (ad 29) 30 (ad 30) 160 (σ 29) ∧ 1 ≤ σ 26 ∧ σ 26 ≤ 8 ∧ σ 27 ≤ σ 26 ∧ σ 29 + σ 27 = σ 28 ∧ zCp Γ V ad (σ 27) (σ 29)
def zSf (Γ : zGam) (V : zV) (ad : Nat → Nat) : Prop := zSk Γ V 35 (ad 35) 39 (ad 39) (ad 36) ∧ zBo Γ V 36 (ad 36) 37 (ad 37) 38 (ad 38) ∧ zSk Γ V 40 (ad 40) 44 (ad 44) (ad 41) ∧ zBo Γ V 41 (ad 41) 42 (ad 42) 43 (ad 43) ∧ zBo Γ V 45 (ad 45) 46 (ad 46) 47 (ad 47)
def zS0 (Γ : zGam) (V : zV) (ad : Nat → Nat) (σ : Nat → Int) : Prop := zSx V ad σ ∧ zSa Γ V ad ∧ zSw Γ V ad σ ∧ zSd Γ V ad ∧ zSt Γ V ad σ ∧ zSp Γ V ad σ ∧ zSf Γ V ad
theorem zSx.kept {V V' : zV} {ad : Nat → Nat} {σ : Nat → Int} {P : Nat → Prop} (h : zSx V ad σ) (ha : zag P V V') (hp : P 1) : zSx V' ad σ := ha _ _ _ h hp
theorem zSa.kept {Γ : zGam} {V V' : zV} {ad : Nat → Nat} {P : Nat → Prop} (h : zSa Γ V ad) (ha : zag P V V') (hp : P 2) : zSa Γ V' ad := ha _ _ _ h hp
theorem zSw.kept {Γ : zGam} {V V' : zV} {ad : Nat → Nat} {σ : Nat → Int} {P : Nat → Prop} (h : zSw Γ V ad σ) (ha : zag P V V') (hp : ∀ i, i < 6 → P (10 + i)) (h5 : z50 Γ V V') : zSw Γ V' ad σ := fun i hi => (h i hi).row ha (hp i hi) h5
theorem zSd.kept {Γ : zGam} {V V' : zV} {ad : Nat → Nat} {P : Nat → Prop} (h : zSd Γ V ad) (ha : zag P V V') (hp : P 16) (h5 : z50 Γ V V') : zSd Γ V' ad := by
  obtain ⟨c, l, p, m, h⟩ := h
  exact ⟨c, l, p, m, h.row ha hp h5⟩
theorem zSt.kept {Γ : zGam} {V V' : zV} {ad : Nat → Nat} {σ : Nat → Int} {P : Nat → Prop} (h : zSt Γ V ad σ) (ha : zag P V V') (h0 : P 20) (h1 : P 21) (h2 : P 22) (h3 : P 23) (h4 : P 31) (h5 : P 32) (h6 : P 33) (h7 : P 34) : zSt Γ V' ad σ := by
  obtain ⟨a, b, ⟨n, c⟩, ⟨n2, d⟩⟩ := h
  exact ⟨a.kept ha h0 h1, b.kept ha h2 h3, ⟨n, c.kept ha h4 h5⟩, ⟨n2, d.kept ha h6 h7⟩⟩
theorem zSp.kept {Γ : zGam} {V V' : zV} {ad : Nat → Nat} {σ : Nat → Int} {P : Nat → Prop} (h : zSp Γ V ad σ) (ha : zag P V V') (h0 : P 24) (h1 : P 25) (h2 : P 26) (h3 : P 27) (h4 : P 28) (h5 : P 29) (h6 : P 30) : zSp Γ V' ad σ := by
  obtain ⟨a, b, c, d, e1, e2, e3, e4, p⟩ := h
  exact ⟨ha _ _ _ a h0, b.kept ha h1 h2, c.kept ha h3 h4, d.kept ha h5 h6, e1, e2, e3, e4, p.kept ha h2 h4 h6⟩
theorem zSp.sig {Γ : zGam} {V : zV} {ad : Nat → Nat} {σ σ' : Nat → Int} (h : zSp Γ V ad σ) (e26 : σ' 26 = σ 26) (e27 : σ' 27 = σ 27) (e28 : σ' 28 = σ 28) (e29 : σ' 29 = σ 29) : zSp Γ V ad σ' := by
  unfold zSp
  rw [e26, e27, e28, e29]
  exact h
theorem zSf.kept {Γ : zGam} {V V' : zV} {ad : Nat → Nat} {P : Nat → Prop} (h : zSf Γ V ad) (ha : zag P V V') (hp : ∀ t, 35 ≤ t → t ≤ 47 → P t) : zSf Γ V' ad := by
  obtain ⟨a, b, c, d, e⟩ := h
  exact ⟨a.kept ha (hp _ (by omega) (by omega)) (hp _ (by omega) (by omega)), b.kept ha (hp _ (by omega) (by omega)) (hp _ (by omega) (by omega)) (hp _ (by omega) (by omega)), c.kept ha (hp _ (by omega) (by omega)) (hp _ (by omega) (by omega)), d.kept ha (hp _ (by omega) (by omega)) (hp _ (by omega) (by omega)) (hp _ (by omega) (by omega)), e.kept ha (hp _ (by omega) (by omega)) (hp _ (by omega) (by omega)) (hp _ (by omega) (by omega))⟩
/-- nothing of the object's own changes -/
theorem zS0.kept {Γ : zGam} {V V' : zV} {ad : Nat → Nat} {σ : Nat → Int} {P : Nat → Prop} (h : zS0 Γ V ad σ) (ha : zag P V V') (hp : ∀ t, 1 ≤ t → t ≤ 50 → t ≠ 7 → P t) : zS0 Γ V' ad σ := by
  obtain ⟨a, b, c, d, e, f, g⟩ := h
  have q : ∀ t, 10 ≤ t → t ≤ 50 → P t := fun t h1 h2 => hp t (by omega) h2 (by omega)
  exact ⟨a.kept ha (hp 1 (by omega) (by omega) (by omega)), b.kept ha (hp 2 (by omega) (by omega) (by omega)), c.kept ha (fun i hi => q _ (by omega) (by omega)) (.of ha (q _ (by omega) (by omega))), d.kept ha (q _ (by omega) (by omega)) (.of ha (q _ (by omega) (by omega))),
    e.kept ha (q _ (by omega) (by omega)) (q _ (by omega) (by omega)) (q _ (by omega) (by omega)) (q _ (by omega) (by omega)) (q _ (by omega) (by omega)) (q _ (by omega) (by omega)) (q _ (by omega) (by omega)) (q _ (by omega) (by omega)),
    f.kept ha (q _ (by omega) (by omega)) (q _ (by omega) (by omega)) (q _ (by omega) (by omega)) (q _ (by omega) (by omega)) (q _ (by omega) (by omega)) (q _ (by omega) (by omega)) (q _ (by omega) (by omega)), g.kept ha (fun t h1 h2 => q t (by omega) (by omega))⟩
/-! the contents -/
/-- the tape: a window's row lies on it from ba on, a window begins at σ (40 + i), the tape ends at σ 46; the sign at a place is σ (1000 + the place) -/
def zCw (Γ : zGam) (V : zV) (ad : Nat → Nat) (σ : Nat → Int) (rr nn ba : Nat → Nat) : Prop := (∀ i, i < 6 → ∃ (st : Int) (f : Nat → Int), V (ad (10 + i)) = some (10 + i, .inr (6, [.ref (rr i), .int (zI st), .int (zI (σ (4 * i))), .int (zI (σ (4 * i + 1))), .int (zI (σ (4 * i + 2))), .int (zI (σ (4 * i + 3)))])) ∧ V (rr i) = some (50, za Γ.2.1 1 (nn i) f) ∧ zWb st (σ (4 * i)) (σ (4 * i + 1)) (σ (4 * i + 2)) (σ (4 * i + 3)) (nn i) ∧ zc f ∧ σ (4 * i) ≤ 40 ∧ (ba i : Int) + st = σ (40 + i) ∧ ((ba i + nn i : Nat) : Int) ≤ σ 46 ∧ ∀ k, k < nn i → f k = σ (1000 + (ba i + k))) ∧ ∀ i j, i < 6 → j < 6 → (rr i = rr j ∧ nn i = nn j ∧ ba i = ba j) ∨ (rr i ≠ rr j ∧ (ba i + nn i ≤ ba j ∨ ba j + nn j ≤ ba i))
def zCb (Γ : zGam) (V : zV) (g tg : Nat) (len : Int) (σ : Nat → Int) (B : Nat) : Prop := ∃ f : Nat → Int, V g = some (tg, za Γ.2.1 1 80 f) ∧ zc f ∧ ∀ k : Nat, k < 80 → (k : Int) < len → f k = σ (B + k)
/-- all signs that were ever sent -/
def zCs (Γ : zGam) (V : zV) (g : Nat) (σ : Nat → Int) : Prop := ∃ f : Nat → Int, V g = some (28, za Γ.2.1 1 160 f) ∧ zc f ∧ ∀ k : Nat, k < 160 → f k = σ (300 + k)
theorem zCs.mv {Γ : zGam} {V V' : zV} {g : Nat} {σ σ' : Nat → Int} {P : Nat → Prop} (h : zCs Γ V g σ) (ha : zag P V V') (hp : P 28) (he : ∀ k : Nat, k < 160 → σ' (300 + k) = σ (300 + k)) : zCs Γ V' g σ' := by
  obtain ⟨f, h1, h2, h3⟩ := h
  exact ⟨f, ha _ _ _ h1 hp, h2, fun k hk => by rw [he k hk]; exact h3 k hk⟩
def zCt (Γ : zGam) (V : zV) (ad : Nat → Nat) (σ : Nat → Int) : Prop := ((∃ rr nn ba : Nat → Nat, zCw Γ V ad σ rr nn ba) ∧ (∀ a : Nat, σ 46 ≤ (a : Int) → σ (1000 + a) = 0) ∧ zCs Γ V (ad 28) σ) ∧ zCb Γ V (ad 21) 21 (σ 24) σ 100 ∧ zCb Γ V (ad 23) 23 (σ 25) σ 200
/-- the places of σ that tell the contents -/
def zj (j : Nat) : Prop := j < 26 ∨ (40 ≤ j ∧ j ≤ 46) ∨ 100 ≤ j
theorem zCb.kept {Γ : zGam} {V V' : zV} {P : Nat → Prop} {g tg B : Nat} {len : Int} {σ : Nat → Int} (h : zCb Γ V g tg len σ B) (ha : zag P V V') (hp : P tg) : zCb Γ V' g tg len σ B := by
  obtain ⟨f, h1, h2⟩ := h
  exact ⟨f, ha _ _ _ h1 hp, h2⟩
theorem zCw.kept {Γ : zGam} {V V' : zV} {ad : Nat → Nat} {σ : Nat → Int} {P : Nat → Prop} {rr nn ba : Nat → Nat} (h : zCw Γ V ad σ rr nn ba) (ha : zag P V V') (hp : ∀ i, i < 6 → P (10 + i)) (h5 : P 50) : zCw Γ V' ad σ rr nn ba := by
  refine ⟨fun i hi => ?_, h.2⟩
  obtain ⟨st, f, h1, h2, h3⟩ := h.1 i hi
  exact ⟨st, f, ha _ _ _ h1 (hp i hi), ha _ _ _ h2 h5, h3⟩
theorem zCw.sig {Γ : zGam} {V : zV} {ad : Nat → Nat} {σ σ' : Nat → Int} {rr nn ba : Nat → Nat} (h : zCw Γ V ad σ rr nn ba) (he : ∀ j, zj j → σ' j = σ j) : zCw Γ V ad σ' rr nn ba := by
  refine ⟨fun i hi => ?_, h.2⟩
  obtain ⟨st, f, h1, h2, h3, h4, h5, h6, h7, h8⟩ := h.1 i hi
  have e : ∀ k, k < 4 → σ' (4 * i + k) = σ (4 * i + k) := fun k hk => he _ (Or.inl (by omega))
  have e0 : σ' (4 * i) = σ (4 * i) := e 0 (by omega)
  refine ⟨st, f, ?_, h2, ?_, h4, ?_, ?_, ?_, fun k hk => ?_⟩
  · rw [e0, e 1 (by omega), e 2 (by omega), e 3 (by omega)]
    exact h1
  · rw [e0, e 1 (by omega), e 2 (by omega), e 3 (by omega)]
    exact h3
  · rw [e0]
    exact h5
  · rw [he _ (Or.inr (Or.inl (by omega)))]
    exact h6
  · rw [he _ (Or.inr (Or.inl (by omega)))]
    exact h7
  · rw [he _ (Or.inr (Or.inr (by omega)))]
    exact h8 k hk
theorem zCb.sig {Γ : zGam} {V : zV} {g tg B : Nat} {len len' : Int} {σ σ' : Nat → Int} (h : zCb Γ V g tg len σ B) (hB : 100 ≤ B) (hl : len' = len) (he : ∀ j, zj j → σ' j = σ j) : zCb Γ V g tg len' σ' B := by
  subst hl
  obtain ⟨f, h1, h0, h2⟩ := h
  exact ⟨f, h1, h0, fun k h8 hk => by rw [he _ (Or.inr (Or.inr (by omega)))]; exact h2 k h8 hk⟩
theorem zCt.kept {Γ : zGam} {V V' : zV} {ad : Nat → Nat} {σ : Nat → Int} {P : Nat → Prop} (h : zCt Γ V ad σ) (ha : zag P V V') (hp : ∀ t, (10 ≤ t ∧ t ≤ 15) ∨ t = 21 ∨ t = 23 ∨ t = 28 ∨ t = 50 → P t) : zCt Γ V' ad σ := by
  obtain ⟨⟨⟨rr, nn, ba, w⟩, z, sn⟩, b, k⟩ := h
  exact ⟨⟨⟨rr, nn, ba, w.kept ha (fun i hi => hp _ (by omega)) (hp _ (by omega))⟩, z, sn.mv ha (hp _ (by omega)) (fun _ _ => rfl)⟩, b.kept ha (hp _ (by omega)), k.kept ha (hp _ (by omega))⟩
theorem zCt.sig {Γ : zGam} {V : zV} {ad : Nat → Nat} {σ σ' : Nat → Int} (h : zCt Γ V ad σ) (he : ∀ j, zj j → σ' j = σ j) : zCt Γ V ad σ' := by
  obtain ⟨⟨⟨rr, nn, ba, w⟩, z, sn⟩, b, k⟩ := h
  exact ⟨⟨⟨rr, nn, ba, w.sig he⟩, fun a h2 => by
    rw [he 46 (Or.inr (Or.inl (by omega)))] at h2
    rw [he _ (Or.inr (Or.inr (by omega)))]
    exact z a h2, sn.mv (zag.rf (P := fun _ => True)) trivial (fun k hk => he _ (Or.inr (Or.inr (by omega))))⟩, b.sig (by decide) (he _ (Or.inl (by decide))) he, k.sig (by decide) (he _ (Or.inl (by decide))) he⟩
def zS (Γ : zGam) (V : zV) (ad : Nat → Nat) (σ : Nat → Int) : Prop := zSx V ad σ ∧ (zSa Γ V ad ∧ zCt Γ V ad σ) ∧ zSw Γ V ad σ ∧ zSd Γ V ad ∧ zSt Γ V ad σ ∧ zSp Γ V ad σ ∧ zSf Γ V ad
theorem zS.c0 {Γ : zGam} {V : zV} {ad : Nat → Nat} {σ : Nat → Int} (h : zS Γ V ad σ) : zS0 Γ V ad σ := ⟨h.1, h.2.1.1, h.2.2⟩
theorem zS.ct {Γ : zGam} {V : zV} {ad : Nat → Nat} {σ : Nat → Int} (h : zS Γ V ad σ) : zCt Γ V ad σ := h.2.1.2
theorem zS0.mk {Γ : zGam} {V : zV} {ad : Nat → Nat} {σ : Nat → Int} (h : zS0 Γ V ad σ) (c : zCt Γ V ad σ) : zS Γ V ad σ := ⟨h.1, ⟨h.2.1, c⟩, h.2.2⟩
theorem zS.kept {Γ : zGam} {V V' : zV} {ad : Nat → Nat} {σ : Nat → Int} {P : Nat → Prop} (h : zS Γ V ad σ) (ha : zag P V V') (hp : ∀ t, 1 ≤ t → t ≤ 50 → t ≠ 7 → P t) : zS Γ V' ad σ := (h.c0.kept ha hp).mk (h.ct.kept ha (fun t ht => hp t (by omega) (by omega) (by omega)))
