/-! what the checksum is -/
/-- a window goes in -/
def zmw (σ : Nat → Int) (q : Int) (x : Int64) (b p : Int) : Int64 := zmi (zmi (zmr (zmi (zmi (zmi (zmi x (σ (4 * q.toNat + 2))) (σ (4 * q.toNat + 1))) (σ (4 * q.toNat))) (σ (4 * q.toNat + 3))) (zsg σ q) (zsz σ q).toNat) b) p
/-- the first windows are in -/
def zdW (σ : Nat → Int) : Nat → Int64 → Prop
  | 0 => fun x => x = 7702
  | n + 1 => fun x => ∃ (y : Int64) (b p : Int), zdW σ n y ∧ zsB σ ((n : Nat) : Int) b ∧ zsP σ ((n : Nat) : Int) 7 0 p ∧ x = zmw σ ((n : Nat) : Int) y b p
theorem zdW_0 {σ : Nat → Int} : zdW σ (0 : Int).toNat 7702 := rfl
theorem zdW_up {σ : Nat → Int} {k : Int} {x y : Int64} {b p : Int} (h : zdW σ k.toNat y) (hk : 0 ≤ k) (hb : zsB σ k b) (hp : zsP σ k 7 0 p) (e : x = zmw σ k y b p) : zdW σ (k + 1).toNat x := by
  rw [show (k + 1).toNat = k.toNat + 1 by omega]
  refine ⟨y, b, p, h, ?_⟩
  rw [Int.toNat_of_nonneg hk]
  exact ⟨hb, hp, e⟩
theorem zdW_uni {σ : Nat → Int} {n : Nat} : ∀ {x x' : Int64}, zdW σ n x → zdW σ n x' → x = x' := by
  induction n with
  | zero =>
    intro x x' h h'
    have h1 : x = 7702 := h
    have h2 : x' = 7702 := h'
    rw [h1, h2]
  | succ n ih =>
    intro x x' h h'
    obtain ⟨y, b, p, h1, h2, h3, h4⟩ := h
    obtain ⟨y', b', p', k1, k2, k3, k4⟩ := h'
    rw [h4, k4, ih h1 k1, h2.uni k2, h3.uni k3]
/-- all is in -/
def zdF (σ : Nat → Int) (d : Int64) (b6 b7 : Int) : Int64 := zmi (zmi (zmi (zmi (zmi (zmi (zmr (zmi (zmi (zmi (zmi (zmi (zmr (zmi (zmr (zmi d (σ 24)) (zsg σ 6) (σ 24).toNat) (σ 25)) (zsg σ 7) (σ 25).toNat) b6) b7) (zsN σ 6 7)) (zsN σ 7 6)) (σ 27)) (fun k => σ (300 + ((σ 29).toNat + k))) (σ 27).toNat) (σ 28)) (σ 30)) (σ 31)) (σ 32)) (σ 33)) 1
def zdG (σ : Nat → Int) (x : Int64) : Prop := ∃ (d : Int64) (b6 b7 : Int), zdW σ 6 d ∧ zsB σ 6 b6 ∧ zsB σ 7 b7 ∧ x = zdF σ d b6 b7
theorem zdG.uni {σ : Nat → Int} {x x' : Int64} (h : zdG σ x) (h' : zdG σ x') : x = x' := by
  obtain ⟨d, b6, b7, h1, h2, h3, h4⟩ := h
  obtain ⟨d', b6', b7', k1, k2, k3, k4⟩ := h'
  rw [h4, k4, zdW_uni h1 k1, h2.uni k2, h3.uni k3]
