/-! the numbers of both sides -/
def zA6 (σ τ : Nat → Int) : Prop := ∀ j, j < 34 → σ j = τ j
theorem zA6.t36 {σ τ : Nat → Int} {k : Int} (h : zA6 σ τ) : zA6 σ (zf τ 36 k) := fun j hj => (h j hj).trans (zf_ne (by omega)).symm
theorem zA6.dn {σ τ : Nat → Int} (h : zA6 σ τ) : zA6 (zdn σ) (zdn τ) := fun j hj => by
  by_cases e : j = 30
  · subst e
    have := h 30 (by omega)
    show σ 30 + 1 = τ 30 + 1
    omega
  · exact ((zdn_ne e).trans (h j hj)).trans (zdn_ne e).symm
theorem zA6.rf {σ τ : Nat → Int} (h : zA6 σ τ) : zA6 (zrf σ) (zrf τ) := fun j hj => by
  by_cases e : j = 31
  · subst e
    have := h 31 (by omega)
    show σ 31 + 1 = τ 31 + 1
    omega
  · exact ((zrf_ne e).trans (h j hj)).trans (zrf_ne e).symm
theorem zA6.w4 {σ τ : Nat → Int} {i : Nat} {a b c d a' b' c' d' : Int} (h : zA6 σ τ) (hi : i < 6) (h1 : a = a') (h2 : b = b') (h3 : c = c') (h4 : d = d') : zA6 (zw4 σ i a b c d) (zw4 τ i a' b' c' d') := fun j hj => by
  subst h1 h2 h3 h4
  unfold zw4
  rw [h j hj]
theorem zA6.fx {σ τ : Nat → Int} {i : Nat} {x x' : Int} (h : zA6 σ τ) (hx : x = x') : zA6 (zf σ i x) (zf τ i x') := fun j hj => by
  subst hx
  unfold zf
  rw [h j hj]
theorem zA6.pi {σ τ : Nat → Int} {a b c d a' c' d' t : Int} (h : zA6 σ τ) (h1 : a = a') (h2 : b = c' - d') (h3 : c = c') (h4 : d = d') : zA6 (zpi σ a b c d) (zmf τ a' c' d' t) := fun j hj => by
  by_cases e : 26 ≤ j ∧ j ≤ 29
  · rcases (by omega : j = 26 ∨ j = 27 ∨ j = 28 ∨ j = 29) with e | e | e | e
    · subst e
      exact h1
    · subst e
      exact h2
    · subst e
      exact h3
    · subst e
      exact h4
  · exact ((zpi_ne e).trans (h j hj)).trans (zmf_ne ⟨e, by omega⟩).symm
theorem zA6.at0 {σ τ : Nat → Int} {i : Nat} (h : zA6 σ τ) (hi : i < 6) : σ (4 * i) = τ (4 * i) := h _ (by omega)
theorem zA6.at1 {σ τ : Nat → Int} {i k : Nat} (h : zA6 σ τ) (hi : i < 6) (hk : k < 4) : σ (4 * i + k) = τ (4 * i + k) := h _ (by omega)
theorem zA6.sz {σ τ : Nat → Int} {q : Int} (h : zA6 σ τ) (hq : 0 ≤ q ∧ q ≤ 7) : zsz σ q = zsz τ q := zsz_of (fun j hj => h j (by omega)) hq
def zr6_allocate (σ : Nat → Int) (q z th y : Int) (σ' : Nat → Int) : Prop := (th = 1 ∧ (¬ (0 ≤ q ∧ q < 6)) ∧ σ' = σ) ∨ (th = 2 ∧ ((0 ≤ q ∧ q < 6) ∧ ¬ (0 ≤ z ∧ z ≤ 40)) ∧ σ' = σ) ∨ (th = 0 ∧ (0 ≤ q ∧ q < 6 ∧ 0 ≤ z ∧ z ≤ 40) ∧ y = z - 0 ∧ σ' = zdn (zw4 σ q.toNat z z 0 (-9)))
set_option maxHeartbeats 1000000 in
theorem ag_allocate {σ σ' τ τ' : Nat → Int} {q z th y w : Int} (hA : zA6 σ τ) (hq : -2147483648 ≤ q ∧ q ≤ 2147483647) (hz : -2147483648 ≤ z ∧ z ≤ 2147483647) (h6 : zr6_allocate σ q z th y σ') (h8 : (¬ (0 ≤ q ∧ q ≤ 5) ∧ w = 0 ∧ τ' = zf τ 36 1) ∨ ((0 ≤ q ∧ q ≤ 5) ∧ ¬ (0 ≤ z ∧ z ≤ 40) ∧ w = 0 ∧ τ' = zf τ 36 2) ∨ ((0 ≤ q ∧ q ≤ 5) ∧ (0 ≤ z ∧ z ≤ 40) ∧ (w = z ∧ τ' = zdn (zw4 (zf τ 36 0) q.toNat z z 0 (-9))))) : zA6 σ' τ' ∧ τ' 36 = th ∧ (th = 0 → y = w) := by
  unfold zr6_allocate at h6
  have hA0 : zA6 σ (zf τ 36 0) := hA.t36
  rcases h6 with ⟨hk, c6, hs⟩ | ⟨hk, c6, hs⟩ | ⟨hk, r6⟩
  · rcases h8 with ⟨c8, hw, ht⟩ | ⟨c8, d8, hw, ht⟩ | ⟨c8, d8, r8⟩
    · rw [hs, ht, hk]
      exact ⟨hA.t36, zf_eq, fun h => absurd h (by decide)⟩
    · exfalso
      omega
    · exfalso
      omega
  · rcases h8 with ⟨c8, hw, ht⟩ | ⟨c8, d8, hw, ht⟩ | ⟨c8, d8, r8⟩
    · exfalso
      omega
    · rw [hs, ht, hk]
      exact ⟨hA.t36, zf_eq, fun h => absurd h (by decide)⟩
    · exfalso
      omega
  · rcases h8 with ⟨c8, hw, ht⟩ | ⟨c8, d8, hw, ht⟩ | ⟨c8, d8, r8⟩
    · exfalso
      omega
    · exfalso
      omega
    · skip
      obtain ⟨⟨c1, c2, c3, c4⟩, c5, c6⟩ := r6
      obtain ⟨c81, c82⟩ := r8
      refine ⟨?_, ?_, fun _ => ?_⟩
      · rw [c6, c82]
        exact zA6.dn (zA6.w4 (hA0) (by omega) (by omega) (by omega) (by omega) (by omega))
      · rw [c82, hk]
        exact (zdn_lo (by decide)).trans ((zw4_h8 (by decide) (by omega)).trans (zf_eq))
      · omega
def zr6_slice (σ : Nat → Int) (q q2 th y : Int) (σ' : Nat → Int) : Prop := (th = 1 ∧ (¬ (0 ≤ q ∧ q < 6 ∧ 0 ≤ q2 ∧ q2 < 6)) ∧ σ' = σ) ∨ (th = 0 ∧ (0 ≤ q ∧ q < 6 ∧ 0 ≤ q2 ∧ q2 < 6) ∧ y = σ (4 * q.toNat + 1) - σ (4 * q.toNat + 2) - 0 ∧ σ' = zdn (zw4 σ q2.toNat (σ (4 * q.toNat + 1) - σ (4 * q.toNat + 2)) (σ (4 * q.toNat + 1) - σ (4 * q.toNat + 2)) 0 (-9)))
theorem rq_slice {σ σ' : Nat → Int} {q y : Int} (h : (0 ≤ q ∧ q < 6) ∧ y = σ (4 * q.toNat + 1) - σ (4 * q.toNat + 2) - 0 ∧ σ' = zdn (zw4 σ q.toNat (σ (4 * q.toNat + 1) - σ (4 * q.toNat + 2)) (σ (4 * q.toNat + 1) - σ (4 * q.toNat + 2)) 0 (-9))) : (0 ≤ q ∧ q < 6 ∧ 0 ≤ q ∧ q < 6) ∧ y = σ (4 * q.toNat + 1) - σ (4 * q.toNat + 2) - 0 ∧ σ' = zdn (zw4 σ q.toNat (σ (4 * q.toNat + 1) - σ (4 * q.toNat + 2)) (σ (4 * q.toNat + 1) - σ (4 * q.toNat + 2)) 0 (-9)) := by
  exact ⟨⟨h.1.1, h.1.2, h.1.1, h.1.2⟩, h.2⟩
set_option maxHeartbeats 1000000 in
theorem ag_slice {σ σ' τ τ' : Nat → Int} {q q2 th y w : Int} (hA : zA6 σ τ) (hq : -2147483648 ≤ q ∧ q ≤ 2147483647) (hq2 : -2147483648 ≤ q2 ∧ q2 ≤ 2147483647) (h6 : zr6_slice σ q q2 th y σ') (h8 : (¬ ((0 ≤ q ∧ q ≤ 5) ∧ (0 ≤ q2 ∧ q2 ≤ 5)) ∧ w = 0 ∧ τ' = zf τ 36 1) ∨ (((0 ≤ q ∧ q ≤ 5) ∧ (0 ≤ q2 ∧ q2 ≤ 5)) ∧ ¬ (True) ∧ w = 0 ∧ τ' = zf τ 36 2) ∨ (((0 ≤ q ∧ q ≤ 5) ∧ (0 ≤ q2 ∧ q2 ≤ 5)) ∧ (True) ∧ (w = (zf τ 36 0) (4 * q.toNat + 1) - (zf τ 36 0) (4 * q.toNat + 2) - 0 ∧ τ' = zdn (zw4 (zf τ 36 0) q2.toNat ((zf τ 36 0) (4 * q.toNat + 1) - (zf τ 36 0) (4 * q.toNat + 2)) ((zf τ 36 0) (4 * q.toNat + 1) - (zf τ 36 0) (4 * q.toNat + 2)) 0 (-9))))) : zA6 σ' τ' ∧ τ' 36 = th ∧ (th = 0 → y = w) := by
  unfold zr6_slice at h6
  have hA0 : zA6 σ (zf τ 36 0) := hA.t36
  rcases h6 with ⟨hk, c6, hs⟩ | ⟨hk, r6⟩
  · rcases h8 with ⟨c8, hw, ht⟩ | ⟨c8, d8, hw, ht⟩ | ⟨c8, d8, r8⟩
    · rw [hs, ht, hk]
      exact ⟨hA.t36, zf_eq, fun h => absurd h (by decide)⟩
    · exact absurd trivial d8
    · exfalso
      omega
  · rcases h8 with ⟨c8, hw, ht⟩ | ⟨c8, d8, hw, ht⟩ | ⟨c8, d8, r8⟩
    · exfalso
      omega
    · exact absurd trivial d8
    · skip
      have e_q1 : σ (4 * q.toNat + 1) = zf τ 36 0 (4 * q.toNat + 1) := hA0.at1 (by omega) (by decide)
      have e_q2 : σ (4 * q.toNat + 2) = zf τ 36 0 (4 * q.toNat + 2) := hA0.at1 (by omega) (by decide)
      obtain ⟨⟨c1, c2, c3, c4⟩, c5, c6⟩ := r6
      obtain ⟨c81, c82⟩ := r8
      refine ⟨?_, ?_, fun _ => ?_⟩
      · rw [c6, c82]
        exact zA6.dn (zA6.w4 (hA0) (by omega) (by omega) (by omega) (by omega) (by omega))
      · rw [c82, hk]
        exact (zdn_lo (by decide)).trans ((zw4_h8 (by decide) (by omega)).trans (zf_eq))
      · omega
def zr6_duplicate (σ : Nat → Int) (q q2 th y : Int) (σ' : Nat → Int) : Prop := (th = 1 ∧ (¬ (0 ≤ q ∧ q < 6 ∧ 0 ≤ q2 ∧ q2 < 6)) ∧ σ' = σ) ∨ (th = 0 ∧ (0 ≤ q ∧ q < 6 ∧ 0 ≤ q2 ∧ q2 < 6) ∧ y = σ (4 * q.toNat + 1) - σ (4 * q.toNat + 2) ∧ σ' = zdn (zw4 σ q2.toNat (σ (4 * q.toNat)) (σ (4 * q.toNat + 1)) (σ (4 * q.toNat + 2)) (σ (4 * q.toNat + 3))))
theorem rq_duplicate {σ σ' : Nat → Int} {q y : Int} (h : (0 ≤ q ∧ q < 6) ∧ y = σ (4 * q.toNat + 1) - σ (4 * q.toNat + 2) ∧ σ' = zdn σ) : (0 ≤ q ∧ q < 6 ∧ 0 ≤ q ∧ q < 6) ∧ y = σ (4 * q.toNat + 1) - σ (4 * q.toNat + 2) ∧ σ' = zdn (zw4 σ q.toNat (σ (4 * q.toNat)) (σ (4 * q.toNat + 1)) (σ (4 * q.toNat + 2)) (σ (4 * q.toNat + 3))) := by
  rw [zw4_id]
  exact ⟨⟨h.1.1, h.1.2, h.1.1, h.1.2⟩, h.2⟩
set_option maxHeartbeats 1000000 in
theorem ag_duplicate {σ σ' τ τ' : Nat → Int} {q q2 th y w : Int} (hA : zA6 σ τ) (hq : -2147483648 ≤ q ∧ q ≤ 2147483647) (hq2 : -2147483648 ≤ q2 ∧ q2 ≤ 2147483647) (h6 : zr6_duplicate σ q q2 th y σ') (h8 : (¬ ((0 ≤ q ∧ q ≤ 5) ∧ (0 ≤ q2 ∧ q2 ≤ 5)) ∧ w = 0 ∧ τ' = zf τ 36 1) ∨ (((0 ≤ q ∧ q ≤ 5) ∧ (0 ≤ q2 ∧ q2 ≤ 5)) ∧ ¬ (True) ∧ w = 0 ∧ τ' = zf τ 36 2) ∨ (((0 ≤ q ∧ q ≤ 5) ∧ (0 ≤ q2 ∧ q2 ≤ 5)) ∧ (True) ∧ (w = (zf τ 36 0) (4 * q.toNat + 1) - (zf τ 36 0) (4 * q.toNat + 2) ∧ τ' = zdn (zw4 (zf τ 36 0) q2.toNat ((zf τ 36 0) (4 * q.toNat)) ((zf τ 36 0) (4 * q.toNat + 1)) ((zf τ 36 0) (4 * q.toNat + 2)) ((zf τ 36 0) (4 * q.toNat + 3)))))) : zA6 σ' τ' ∧ τ' 36 = th ∧ (th = 0 → y = w) := by
  unfold zr6_duplicate at h6
  have hA0 : zA6 σ (zf τ 36 0) := hA.t36
  rcases h6 with ⟨hk, c6, hs⟩ | ⟨hk, r6⟩
  · rcases h8 with ⟨c8, hw, ht⟩ | ⟨c8, d8, hw, ht⟩ | ⟨c8, d8, r8⟩
    · rw [hs, ht, hk]
      exact ⟨hA.t36, zf_eq, fun h => absurd h (by decide)⟩
    · exact absurd trivial d8
    · exfalso
      omega
  · rcases h8 with ⟨c8, hw, ht⟩ | ⟨c8, d8, hw, ht⟩ | ⟨c8, d8, r8⟩
    · exfalso
      omega
    · exact absurd trivial d8
    · skip
      have e_q : σ (4 * q.toNat) = zf τ 36 0 (4 * q.toNat) := hA0.at0 (by omega)
      have e_q1 : σ (4 * q.toNat + 1) = zf τ 36 0 (4 * q.toNat + 1) := hA0.at1 (by omega) (by decide)
      have e_q2 : σ (4 * q.toNat + 2) = zf τ 36 0 (4 * q.toNat + 2) := hA0.at1 (by omega) (by decide)
      have e_q3 : σ (4 * q.toNat + 3) = zf τ 36 0 (4 * q.toNat + 3) := hA0.at1 (by omega) (by decide)
      obtain ⟨⟨c1, c2, c3, c4⟩, c5, c6⟩ := r6
      obtain ⟨c81, c82⟩ := r8
      refine ⟨?_, ?_, fun _ => ?_⟩
      · rw [c6, c82]
        exact zA6.dn (zA6.w4 (hA0) (by omega) (by omega) (by omega) (by omega) (by omega))
      · rw [c82, hk]
        exact (zdn_lo (by decide)).trans ((zw4_h8 (by decide) (by omega)).trans (zf_eq))
      · omega
def zr6_part (σ : Nat → Int) (q a b q2 th y : Int) (σ' : Nat → Int) : Prop := (th = 1 ∧ (¬ (0 ≤ q ∧ q < 6 ∧ 0 ≤ q2 ∧ q2 < 6)) ∧ σ' = σ) ∨ (th = 0 ∧ (0 ≤ q ∧ q < 6 ∧ 0 ≤ q2 ∧ q2 < 6) ∧ ((¬ (0 ≤ a ∧ a ≤ b ∧ b ≤ σ (4 * q.toNat + 1) - σ (4 * q.toNat + 2)) ∧ y = -9 ∧ σ' = zrf σ) ∨ ((0 ≤ a ∧ a ≤ b ∧ b ≤ σ (4 * q.toNat + 1) - σ (4 * q.toNat + 2)) ∧ y = σ (4 * q.toNat + 2) + b - (σ (4 * q.toNat + 2) + a) ∧ σ' = zdn (zw4 σ q2.toNat (σ (4 * q.toNat)) (σ (4 * q.toNat + 2) + b) (σ (4 * q.toNat + 2) + a) (σ (4 * q.toNat + 2) + a)))))
theorem rq_part {σ σ' : Nat → Int} {q a b y : Int} (h : (0 ≤ q ∧ q < 6) ∧ ((¬ (0 ≤ a ∧ a ≤ b ∧ b ≤ σ (4 * q.toNat + 1) - σ (4 * q.toNat + 2)) ∧ y = -9 ∧ σ' = zrf σ) ∨ ((0 ≤ a ∧ a ≤ b ∧ b ≤ σ (4 * q.toNat + 1) - σ (4 * q.toNat + 2)) ∧ y = σ (4 * q.toNat + 2) + b - (σ (4 * q.toNat + 2) + a) ∧ σ' = zdn (zw4 σ q.toNat (σ (4 * q.toNat)) (σ (4 * q.toNat + 2) + b) (σ (4 * q.toNat + 2) + a) (σ (4 * q.toNat + 2) + a))))) : (0 ≤ q ∧ q < 6 ∧ 0 ≤ q ∧ q < 6) ∧ ((¬ (0 ≤ a ∧ a ≤ b ∧ b ≤ σ (4 * q.toNat + 1) - σ (4 * q.toNat + 2)) ∧ y = -9 ∧ σ' = zrf σ) ∨ ((0 ≤ a ∧ a ≤ b ∧ b ≤ σ (4 * q.toNat + 1) - σ (4 * q.toNat + 2)) ∧ y = σ (4 * q.toNat + 2) + b - (σ (4 * q.toNat + 2) + a) ∧ σ' = zdn (zw4 σ q.toNat (σ (4 * q.toNat)) (σ (4 * q.toNat + 2) + b) (σ (4 * q.toNat + 2) + a) (σ (4 * q.toNat + 2) + a)))) := by
  exact ⟨⟨h.1.1, h.1.2, h.1.1, h.1.2⟩, h.2⟩
set_option maxHeartbeats 1000000 in
theorem ag_part {σ σ' τ τ' : Nat → Int} {q a b q2 th y w : Int} (hA : zA6 σ τ) (hq : -2147483648 ≤ q ∧ q ≤ 2147483647) (hq2 : -2147483648 ≤ q2 ∧ q2 ≤ 2147483647) (ha : -2147483648 ≤ a ∧ a ≤ 2147483647) (hb : -2147483648 ≤ b ∧ b ≤ 2147483647) (h6 : zr6_part σ q a b q2 th y σ') (h8 : (¬ ((0 ≤ q ∧ q ≤ 5) ∧ (0 ≤ q2 ∧ q2 ≤ 5)) ∧ w = 0 ∧ τ' = zf τ 36 1) ∨ (((0 ≤ q ∧ q ≤ 5) ∧ (0 ≤ q2 ∧ q2 ≤ 5)) ∧ ¬ (True) ∧ w = 0 ∧ τ' = zf τ 36 2) ∨ (((0 ≤ q ∧ q ≤ 5) ∧ (0 ≤ q2 ∧ q2 ≤ 5)) ∧ (True) ∧ ((¬ (0 ≤ a ∧ a ≤ b ∧ b ≤ (zf τ 36 0) (4 * q.toNat + 1) - (zf τ 36 0) (4 * q.toNat + 2)) ∧ w = -9 ∧ τ' = zrf (zf τ 36 0)) ∨ ((0 ≤ a ∧ a ≤ b ∧ b ≤ (zf τ 36 0) (4 * q.toNat + 1) - (zf τ 36 0) (4 * q.toNat + 2)) ∧ w = (zf τ 36 0) (4 * q.toNat + 2) + b - ((zf τ 36 0) (4 * q.toNat + 2) + a) ∧ τ' = zdn (zw4 (zf τ 36 0) q2.toNat ((zf τ 36 0) (4 * q.toNat)) ((zf τ 36 0) (4 * q.toNat + 2) + b) ((zf τ 36 0) (4 * q.toNat + 2) + a) ((zf τ 36 0) (4 * q.toNat + 2) + a)))))) : zA6 σ' τ' ∧ τ' 36 = th ∧ (th = 0 → y = w) := by
  unfold zr6_part at h6
  have hA0 : zA6 σ (zf τ 36 0) := hA.t36
  rcases h6 with ⟨hk, c6, hs⟩ | ⟨hk, r6⟩
  · rcases h8 with ⟨c8, hw, ht⟩ | ⟨c8, d8, hw, ht⟩ | ⟨c8, d8, r8⟩
    · rw [hs, ht, hk]
      exact ⟨hA.t36, zf_eq, fun h => absurd h (by decide)⟩
    · exact absurd trivial d8
    · exfalso
      omega
  · rcases h8 with ⟨c8, hw, ht⟩ | ⟨c8, d8, hw, ht⟩ | ⟨c8, d8, r8⟩
    · exfalso
      omega
    · exact absurd trivial d8
    · skip
      have e_q : σ (4 * q.toNat) = zf τ 36 0 (4 * q.toNat) := hA0.at0 (by omega)
      have e_q1 : σ (4 * q.toNat + 1) = zf τ 36 0 (4 * q.toNat + 1) := hA0.at1 (by omega) (by decide)
      have e_q2 : σ (4 * q.toNat + 2) = zf τ 36 0 (4 * q.toNat + 2) := hA0.at1 (by omega) (by decide)
      rcases r6 with ⟨⟨c1, c2, c3, c4⟩, (⟨c5, c6, c7⟩ | ⟨⟨c8, c9, c10⟩, c11, c12⟩)⟩
      · rcases r8 with ⟨c81, c82, c83⟩ | ⟨⟨c84, c85, c86⟩, c87, c88⟩
        · skip
          refine ⟨?_, ?_, fun _ => ?_⟩
          · rw [c7, c83]
            exact zA6.rf (hA0)
          · rw [c83, hk]
            exact (zrf_ne (by decide)).trans (zf_eq)
          · omega
        · skip
          exfalso
          omega
      · rcases r8 with ⟨c81, c82, c83⟩ | ⟨⟨c84, c85, c86⟩, c87, c88⟩
        · skip
          exfalso
          omega
        · skip
          refine ⟨?_, ?_, fun _ => ?_⟩
          · rw [c12, c88]
            exact zA6.dn (zA6.w4 (hA0) (by omega) (by omega) (by omega) (by omega) (by omega))
          · rw [c88, hk]
            exact (zdn_lo (by decide)).trans ((zw4_h8 (by decide) (by omega)).trans (zf_eq))
          · omega
def zr6_put (σ : Nat → Int) (q x th y : Int) (σ' : Nat → Int) : Prop := (th = 1 ∧ (¬ (0 ≤ q ∧ q < 6)) ∧ σ' = σ) ∨ (th = 2 ∧ ((0 ≤ q ∧ q < 6) ∧ ¬ (0 ≤ x ∧ x ≤ 255)) ∧ σ' = σ) ∨ (th = 0 ∧ (0 ≤ q ∧ q < 6 ∧ 0 ≤ x ∧ x ≤ 255) ∧ ((¬ σ (4 * q.toNat + 2) < σ (4 * q.toNat + 1) ∧ y = -9 ∧ σ' = zrf σ) ∨ (σ (4 * q.toNat + 2) < σ (4 * q.toNat + 1) ∧ y = σ (4 * q.toNat + 1) - (σ (4 * q.toNat + 2) + 1) ∧ σ' = zdn (zw4 σ q.toNat (σ (4 * q.toNat)) (σ (4 * q.toNat + 1)) (σ (4 * q.toNat + 2) + 1) (σ (4 * q.toNat + 3))))))
set_option maxHeartbeats 1000000 in
theorem ag_put {σ σ' τ τ' : Nat → Int} {q x th y w : Int} (hA : zA6 σ τ) (hq : -2147483648 ≤ q ∧ q ≤ 2147483647) (hx : -2147483648 ≤ x ∧ x ≤ 2147483647) (h6 : zr6_put σ q x th y σ') (h8 : (¬ (0 ≤ q ∧ q ≤ 5) ∧ w = 0 ∧ τ' = zf τ 36 1) ∨ ((0 ≤ q ∧ q ≤ 5) ∧ ¬ (0 ≤ x ∧ x ≤ 255) ∧ w = 0 ∧ τ' = zf τ 36 2) ∨ ((0 ≤ q ∧ q ≤ 5) ∧ (0 ≤ x ∧ x ≤ 255) ∧ ((¬ (zf τ 36 0) (4 * q.toNat + 2) < (zf τ 36 0) (4 * q.toNat + 1) ∧ w = -9 ∧ τ' = zrf (zf τ 36 0)) ∨ ((zf τ 36 0) (4 * q.toNat + 2) < (zf τ 36 0) (4 * q.toNat + 1) ∧ w = (zf τ 36 0) (4 * q.toNat + 1) - ((zf τ 36 0) (4 * q.toNat + 2) + 1) ∧ τ' = zdn (zw4 (zf τ 36 0) q.toNat ((zf τ 36 0) (4 * q.toNat)) ((zf τ 36 0) (4 * q.toNat + 1)) ((zf τ 36 0) (4 * q.toNat + 2) + 1) ((zf τ 36 0) (4 * q.toNat + 3))))))) : zA6 σ' τ' ∧ τ' 36 = th ∧ (th = 0 → y = w) := by
  unfold zr6_put at h6
  have hA0 : zA6 σ (zf τ 36 0) := hA.t36
  rcases h6 with ⟨hk, c6, hs⟩ | ⟨hk, c6, hs⟩ | ⟨hk, r6⟩
  · rcases h8 with ⟨c8, hw, ht⟩ | ⟨c8, d8, hw, ht⟩ | ⟨c8, d8, r8⟩
    · rw [hs, ht, hk]
      exact ⟨hA.t36, zf_eq, fun h => absurd h (by decide)⟩
    · exfalso
      have e25 : σ 25 = zf τ 36 0 25 := hA0 25 (by decide)
      omega
    · exfalso
      have e25 : σ 25 = zf τ 36 0 25 := hA0 25 (by decide)
      omega
  · rcases h8 with ⟨c8, hw, ht⟩ | ⟨c8, d8, hw, ht⟩ | ⟨c8, d8, r8⟩
    · exfalso
      have e25 : σ 25 = zf τ 36 0 25 := hA0 25 (by decide)
      omega
    · rw [hs, ht, hk]
      exact ⟨hA.t36, zf_eq, fun h => absurd h (by decide)⟩
    · exfalso
      have e25 : σ 25 = zf τ 36 0 25 := hA0 25 (by decide)
      have e_q : σ (4 * q.toNat) = zf τ 36 0 (4 * q.toNat) := hA0.at0 (by omega)
      have e_q1 : σ (4 * q.toNat + 1) = zf τ 36 0 (4 * q.toNat + 1) := hA0.at1 (by omega) (by decide)
      have e_q2 : σ (4 * q.toNat + 2) = zf τ 36 0 (4 * q.toNat + 2) := hA0.at1 (by omega) (by decide)
      have e_q3 : σ (4 * q.toNat + 3) = zf τ 36 0 (4 * q.toNat + 3) := hA0.at1 (by omega) (by decide)
      omega
  · rcases h8 with ⟨c8, hw, ht⟩ | ⟨c8, d8, hw, ht⟩ | ⟨c8, d8, r8⟩
    · exfalso
      have e25 : σ 25 = zf τ 36 0 25 := hA0 25 (by decide)
      omega
    · exfalso
      have e25 : σ 25 = zf τ 36 0 25 := hA0 25 (by decide)
      have e_q : σ (4 * q.toNat) = zf τ 36 0 (4 * q.toNat) := hA0.at0 (by omega)
      have e_q1 : σ (4 * q.toNat + 1) = zf τ 36 0 (4 * q.toNat + 1) := hA0.at1 (by omega) (by decide)
      have e_q2 : σ (4 * q.toNat + 2) = zf τ 36 0 (4 * q.toNat + 2) := hA0.at1 (by omega) (by decide)
      have e_q3 : σ (4 * q.toNat + 3) = zf τ 36 0 (4 * q.toNat + 3) := hA0.at1 (by omega) (by decide)
      omega
    · skip
      have e25 : σ 25 = zf τ 36 0 25 := hA0 25 (by decide)
      have e_q : σ (4 * q.toNat) = zf τ 36 0 (4 * q.toNat) := hA0.at0 (by omega)
      have e_q1 : σ (4 * q.toNat + 1) = zf τ 36 0 (4 * q.toNat + 1) := hA0.at1 (by omega) (by decide)
      have e_q2 : σ (4 * q.toNat + 2) = zf τ 36 0 (4 * q.toNat + 2) := hA0.at1 (by omega) (by decide)
      have e_q3 : σ (4 * q.toNat + 3) = zf τ 36 0 (4 * q.toNat + 3) := hA0.at1 (by omega) (by decide)
      rcases r6 with ⟨⟨c1, c2, c3, c4⟩, (⟨c5, c6, c7⟩ | ⟨c8, c9, c10⟩)⟩
      · rcases r8 with ⟨c81, c82, c83⟩ | ⟨c84, c85, c86⟩
        · skip
          refine ⟨?_, ?_, fun _ => ?_⟩
          · rw [c7, c83]
            exact zA6.rf (hA0)
          · rw [c83, hk]
            exact (zrf_ne (by decide)).trans (zf_eq)
          · omega
        · skip
          exfalso
          omega
      · rcases r8 with ⟨c81, c82, c83⟩ | ⟨c84, c85, c86⟩
        · skip
          exfalso
          omega
        · skip
          refine ⟨?_, ?_, fun _ => ?_⟩
          · rw [c10, c86]
            exact zA6.dn (zA6.w4 (hA0) (by omega) (by omega) (by omega) (by omega) (by omega))
          · rw [c86, hk]
            exact (zdn_lo (by decide)).trans ((zw4_h8 (by decide) (by omega)).trans (zf_eq))
          · omega
def zr6_run (σ : Nat → Int) (q x st n th y : Int) (σ' : Nat → Int) : Prop := (th = 1 ∧ (¬ (0 ≤ q ∧ q < 6)) ∧ σ' = σ) ∨ (th = 2 ∧ ((0 ≤ q ∧ q < 6) ∧ ¬ (0 ≤ x ∧ x ≤ 255 ∧ 0 ≤ st ∧ st ≤ 255 ∧ 0 ≤ n ∧ n ≤ 40)) ∧ σ' = σ) ∨ (th = 0 ∧ (0 ≤ q ∧ q < 6 ∧ 0 ≤ x ∧ x ≤ 255 ∧ 0 ≤ st ∧ st ≤ 255 ∧ 0 ≤ n ∧ n ≤ 40) ∧ 0 ≤ y ∧ y ≤ n ∧ y ≤ σ (4 * q.toNat + 1) - σ (4 * q.toNat + 2) ∧ (y = n ∨ y = σ (4 * q.toNat + 1) - σ (4 * q.toNat + 2)) ∧ σ' = zdn (zw4 σ q.toNat (σ (4 * q.toNat)) (σ (4 * q.toNat + 1)) (σ (4 * q.toNat + 2) + y) (σ (4 * q.toNat + 3))))
set_option maxHeartbeats 1000000 in
theorem ag_run {σ σ' τ τ' : Nat → Int} {q x st n th y w : Int} (hA : zA6 σ τ) (hq : -2147483648 ≤ q ∧ q ≤ 2147483647) (hx : -2147483648 ≤ x ∧ x ≤ 2147483647) (hst : -2147483648 ≤ st ∧ st ≤ 2147483647) (hn : -2147483648 ≤ n ∧ n ≤ 2147483647) (h6 : zr6_run σ q x st n th y σ') (h8 : (¬ (0 ≤ q ∧ q ≤ 5) ∧ w = 0 ∧ τ' = zf τ 36 1) ∨ ((0 ≤ q ∧ q ≤ 5) ∧ ¬ (0 ≤ x ∧ x ≤ 255 ∧ 0 ≤ st ∧ st ≤ 255 ∧ 0 ≤ n ∧ n ≤ 40) ∧ w = 0 ∧ τ' = zf τ 36 2) ∨ ((0 ≤ q ∧ q ≤ 5) ∧ (0 ≤ x ∧ x ≤ 255 ∧ 0 ≤ st ∧ st ≤ 255 ∧ 0 ≤ n ∧ n ≤ 40) ∧ (0 ≤ w ∧ w ≤ n ∧ w ≤ (zf τ 36 0) (4 * q.toNat + 1) - (zf τ 36 0) (4 * q.toNat + 2) ∧ (w = n ∨ w = (zf τ 36 0) (4 * q.toNat + 1) - (zf τ 36 0) (4 * q.toNat + 2)) ∧ τ' = zdn (zw4 (zf τ 36 0) q.toNat ((zf τ 36 0) (4 * q.toNat)) ((zf τ 36 0) (4 * q.toNat + 1)) ((zf τ 36 0) (4 * q.toNat + 2) + w) ((zf τ 36 0) (4 * q.toNat + 3)))))) : zA6 σ' τ' ∧ τ' 36 = th ∧ (th = 0 → y = w) := by
  unfold zr6_run at h6
  have hA0 : zA6 σ (zf τ 36 0) := hA.t36
  rcases h6 with ⟨hk, c6, hs⟩ | ⟨hk, c6, hs⟩ | ⟨hk, r6⟩
  · rcases h8 with ⟨c8, hw, ht⟩ | ⟨c8, d8, hw, ht⟩ | ⟨c8, d8, r8⟩
    · rw [hs, ht, hk]
      exact ⟨hA.t36, zf_eq, fun h => absurd h (by decide)⟩
    · exfalso
      have e25 : σ 25 = zf τ 36 0 25 := hA0 25 (by decide)
      omega
    · exfalso
      have e25 : σ 25 = zf τ 36 0 25 := hA0 25 (by decide)
      omega
  · rcases h8 with ⟨c8, hw, ht⟩ | ⟨c8, d8, hw, ht⟩ | ⟨c8, d8, r8⟩
    · exfalso
      have e25 : σ 25 = zf τ 36 0 25 := hA0 25 (by decide)
      omega
    · rw [hs, ht, hk]
      exact ⟨hA.t36, zf_eq, fun h => absurd h (by decide)⟩
    · exfalso
      have e25 : σ 25 = zf τ 36 0 25 := hA0 25 (by decide)
      have e_q : σ (4 * q.toNat) = zf τ 36 0 (4 * q.toNat) := hA0.at0 (by omega)
      have e_q1 : σ (4 * q.toNat + 1) = zf τ 36 0 (4 * q.toNat + 1) := hA0.at1 (by omega) (by decide)
      have e_q2 : σ (4 * q.toNat + 2) = zf τ 36 0 (4 * q.toNat + 2) := hA0.at1 (by omega) (by decide)
      have e_q3 : σ (4 * q.toNat + 3) = zf τ 36 0 (4 * q.toNat + 3) := hA0.at1 (by omega) (by decide)
      omega
  · rcases h8 with ⟨c8, hw, ht⟩ | ⟨c8, d8, hw, ht⟩ | ⟨c8, d8, r8⟩
    · exfalso
      have e25 : σ 25 = zf τ 36 0 25 := hA0 25 (by decide)
      omega
    · exfalso
      have e25 : σ 25 = zf τ 36 0 25 := hA0 25 (by decide)
      have e_q : σ (4 * q.toNat) = zf τ 36 0 (4 * q.toNat) := hA0.at0 (by omega)
      have e_q1 : σ (4 * q.toNat + 1) = zf τ 36 0 (4 * q.toNat + 1) := hA0.at1 (by omega) (by decide)
      have e_q2 : σ (4 * q.toNat + 2) = zf τ 36 0 (4 * q.toNat + 2) := hA0.at1 (by omega) (by decide)
      have e_q3 : σ (4 * q.toNat + 3) = zf τ 36 0 (4 * q.toNat + 3) := hA0.at1 (by omega) (by decide)
      omega
    · skip
      have e25 : σ 25 = zf τ 36 0 25 := hA0 25 (by decide)
      have e_q : σ (4 * q.toNat) = zf τ 36 0 (4 * q.toNat) := hA0.at0 (by omega)
      have e_q1 : σ (4 * q.toNat + 1) = zf τ 36 0 (4 * q.toNat + 1) := hA0.at1 (by omega) (by decide)
      have e_q2 : σ (4 * q.toNat + 2) = zf τ 36 0 (4 * q.toNat + 2) := hA0.at1 (by omega) (by decide)
      have e_q3 : σ (4 * q.toNat + 3) = zf τ 36 0 (4 * q.toNat + 3) := hA0.at1 (by omega) (by decide)
      obtain ⟨⟨c1, c2, c3, c4, c5, c6, c7, c8⟩, c9, c10, c11, d15, c14⟩ := r6
      obtain ⟨c81, c82, c83, d87, c86⟩ := r8
      refine ⟨?_, ?_, fun _ => ?_⟩
      · rw [c14, c86]
        exact zA6.dn (zA6.w4 (hA0) (by omega) (by omega) (by omega) (by omega) (by omega))
      · rw [c86, hk]
        exact (zdn_lo (by decide)).trans ((zw4_h8 (by decide) (by omega)).trans (zf_eq))
      · omega
def zr6_write (σ : Nat → Int) (q x n th y : Int) (σ' : Nat → Int) : Prop := (th = 1 ∧ (¬ (0 ≤ q ∧ q < 6)) ∧ σ' = σ) ∨ (th = 2 ∧ ((0 ≤ q ∧ q < 6) ∧ ¬ (0 ≤ x ∧ 0 ≤ n ∧ n ≤ 20)) ∧ σ' = σ) ∨ (th = 0 ∧ (0 ≤ q ∧ q < 6 ∧ 0 ≤ x ∧ 0 ≤ n ∧ n ≤ 20) ∧ 0 ≤ y ∧ y ≤ n ∧ y ≤ σ (4 * q.toNat + 1) - σ (4 * q.toNat + 2) ∧ (y = n ∨ y = σ (4 * q.toNat + 1) - σ (4 * q.toNat + 2)) ∧ σ' = zdn (zw4 σ q.toNat (σ (4 * q.toNat)) (σ (4 * q.toNat + 1)) (σ (4 * q.toNat + 2) + y) (σ (4 * q.toNat + 3))))
set_option maxHeartbeats 1000000 in
theorem ag_write {σ σ' τ τ' : Nat → Int} {q x n th y w : Int} (hA : zA6 σ τ) (hq : -2147483648 ≤ q ∧ q ≤ 2147483647) (hx : -2147483648 ≤ x ∧ x ≤ 2147483647) (hn : -2147483648 ≤ n ∧ n ≤ 2147483647) (h6 : zr6_write σ q x n th y σ') (h8 : (¬ (0 ≤ q ∧ q ≤ 5) ∧ w = 0 ∧ τ' = zf τ 36 1) ∨ ((0 ≤ q ∧ q ≤ 5) ∧ ¬ (0 ≤ x ∧ 0 ≤ n ∧ n ≤ 20) ∧ w = 0 ∧ τ' = zf τ 36 2) ∨ ((0 ≤ q ∧ q ≤ 5) ∧ (0 ≤ x ∧ 0 ≤ n ∧ n ≤ 20) ∧ (0 ≤ w ∧ w ≤ n ∧ w ≤ (zf τ 36 0) (4 * q.toNat + 1) - (zf τ 36 0) (4 * q.toNat + 2) ∧ (w = n ∨ w = (zf τ 36 0) (4 * q.toNat + 1) - (zf τ 36 0) (4 * q.toNat + 2)) ∧ τ' = zdn (zw4 (zf τ 36 0) q.toNat ((zf τ 36 0) (4 * q.toNat)) ((zf τ 36 0) (4 * q.toNat + 1)) ((zf τ 36 0) (4 * q.toNat + 2) + w) ((zf τ 36 0) (4 * q.toNat + 3)))))) : zA6 σ' τ' ∧ τ' 36 = th ∧ (th = 0 → y = w) := by
  unfold zr6_write at h6
  have hA0 : zA6 σ (zf τ 36 0) := hA.t36
  rcases h6 with ⟨hk, c6, hs⟩ | ⟨hk, c6, hs⟩ | ⟨hk, r6⟩
  · rcases h8 with ⟨c8, hw, ht⟩ | ⟨c8, d8, hw, ht⟩ | ⟨c8, d8, r8⟩
    · rw [hs, ht, hk]
      exact ⟨hA.t36, zf_eq, fun h => absurd h (by decide)⟩
    · exfalso
      omega
    · exfalso
      omega
  · rcases h8 with ⟨c8, hw, ht⟩ | ⟨c8, d8, hw, ht⟩ | ⟨c8, d8, r8⟩
    · exfalso
      omega
    · rw [hs, ht, hk]
      exact ⟨hA.t36, zf_eq, fun h => absurd h (by decide)⟩
    · exfalso
      have e_q : σ (4 * q.toNat) = zf τ 36 0 (4 * q.toNat) := hA0.at0 (by omega)
      have e_q1 : σ (4 * q.toNat + 1) = zf τ 36 0 (4 * q.toNat + 1) := hA0.at1 (by omega) (by decide)
      have e_q2 : σ (4 * q.toNat + 2) = zf τ 36 0 (4 * q.toNat + 2) := hA0.at1 (by omega) (by decide)
      have e_q3 : σ (4 * q.toNat + 3) = zf τ 36 0 (4 * q.toNat + 3) := hA0.at1 (by omega) (by decide)
      omega
  · rcases h8 with ⟨c8, hw, ht⟩ | ⟨c8, d8, hw, ht⟩ | ⟨c8, d8, r8⟩
    · exfalso
      omega
    · exfalso
      have e_q : σ (4 * q.toNat) = zf τ 36 0 (4 * q.toNat) := hA0.at0 (by omega)
      have e_q1 : σ (4 * q.toNat + 1) = zf τ 36 0 (4 * q.toNat + 1) := hA0.at1 (by omega) (by decide)
      have e_q2 : σ (4 * q.toNat + 2) = zf τ 36 0 (4 * q.toNat + 2) := hA0.at1 (by omega) (by decide)
      have e_q3 : σ (4 * q.toNat + 3) = zf τ 36 0 (4 * q.toNat + 3) := hA0.at1 (by omega) (by decide)
      omega
    · skip
      have e_q : σ (4 * q.toNat) = zf τ 36 0 (4 * q.toNat) := hA0.at0 (by omega)
      have e_q1 : σ (4 * q.toNat + 1) = zf τ 36 0 (4 * q.toNat + 1) := hA0.at1 (by omega) (by decide)
      have e_q2 : σ (4 * q.toNat + 2) = zf τ 36 0 (4 * q.toNat + 2) := hA0.at1 (by omega) (by decide)
      have e_q3 : σ (4 * q.toNat + 3) = zf τ 36 0 (4 * q.toNat + 3) := hA0.at1 (by omega) (by decide)
      obtain ⟨⟨c1, c2, c3, c4, c5⟩, c6, c7, c8, d12, c11⟩ := r6
      obtain ⟨c81, c82, c83, d87, c86⟩ := r8
      refine ⟨?_, ?_, fun _ => ?_⟩
      · rw [c11, c86]
        exact zA6.dn (zA6.w4 (hA0) (by omega) (by omega) (by omega) (by omega) (by omega))
      · rw [c86, hk]
        exact (zdn_lo (by decide)).trans ((zw4_h8 (by decide) (by omega)).trans (zf_eq))
      · omega
def zr6_get (σ : Nat → Int) (q th y : Int) (σ' : Nat → Int) : Prop := (th = 1 ∧ (¬ (0 ≤ q ∧ q < 6)) ∧ σ' = σ) ∨ (th = 0 ∧ (0 ≤ q ∧ q < 6) ∧ ((¬ σ (4 * q.toNat + 2) < σ (4 * q.toNat + 1) ∧ y = -9 ∧ σ' = zrf σ) ∨ (σ (4 * q.toNat + 2) < σ (4 * q.toNat + 1) ∧ 0 ≤ y ∧ y ≤ 255 ∧ σ' = zdn (zw4 σ q.toNat (σ (4 * q.toNat)) (σ (4 * q.toNat + 1)) (σ (4 * q.toNat + 2) + 1) (σ (4 * q.toNat + 3))))))
set_option maxHeartbeats 1000000 in
theorem ag_get {σ σ' τ τ' : Nat → Int} {q th y w : Int} (hA : zA6 σ τ) (hq : -2147483648 ≤ q ∧ q ≤ 2147483647) (h6 : zr6_get σ q th y σ') (h8 : (¬ (0 ≤ q ∧ q ≤ 5) ∧ w = 0 ∧ τ' = zf τ 36 1) ∨ ((0 ≤ q ∧ q ≤ 5) ∧ ¬ (True) ∧ w = 0 ∧ τ' = zf τ 36 2) ∨ ((0 ≤ q ∧ q ≤ 5) ∧ (True) ∧ ((¬ (zf τ 36 0) (4 * q.toNat + 2) < (zf τ 36 0) (4 * q.toNat + 1) ∧ w = -9 ∧ τ' = zrf (zf τ 36 0)) ∨ ((zf τ 36 0) (4 * q.toNat + 2) < (zf τ 36 0) (4 * q.toNat + 1) ∧ 0 ≤ w ∧ w ≤ 255 ∧ τ' = zdn (zw4 (zf τ 36 0) q.toNat ((zf τ 36 0) (4 * q.toNat)) ((zf τ 36 0) (4 * q.toNat + 1)) ((zf τ 36 0) (4 * q.toNat + 2) + 1) ((zf τ 36 0) (4 * q.toNat + 3))))))) : zA6 σ' τ' ∧ τ' 36 = th := by
  unfold zr6_get at h6
  have hA0 : zA6 σ (zf τ 36 0) := hA.t36
  rcases h6 with ⟨hk, c6, hs⟩ | ⟨hk, r6⟩
  · rcases h8 with ⟨c8, hw, ht⟩ | ⟨c8, d8, hw, ht⟩ | ⟨c8, d8, r8⟩
    · rw [hs, ht, hk]
      exact ⟨hA.t36, zf_eq⟩
    · exact absurd trivial d8
    · exfalso
      have e25 : σ 25 = zf τ 36 0 25 := hA0 25 (by decide)
      omega
  · rcases h8 with ⟨c8, hw, ht⟩ | ⟨c8, d8, hw, ht⟩ | ⟨c8, d8, r8⟩
    · exfalso
      have e25 : σ 25 = zf τ 36 0 25 := hA0 25 (by decide)
      omega
    · exact absurd trivial d8
    · skip
      have e25 : σ 25 = zf τ 36 0 25 := hA0 25 (by decide)
      have e_q : σ (4 * q.toNat) = zf τ 36 0 (4 * q.toNat) := hA0.at0 (by omega)
      have e_q1 : σ (4 * q.toNat + 1) = zf τ 36 0 (4 * q.toNat + 1) := hA0.at1 (by omega) (by decide)
      have e_q2 : σ (4 * q.toNat + 2) = zf τ 36 0 (4 * q.toNat + 2) := hA0.at1 (by omega) (by decide)
      have e_q3 : σ (4 * q.toNat + 3) = zf τ 36 0 (4 * q.toNat + 3) := hA0.at1 (by omega) (by decide)
      rcases r6 with ⟨⟨c1, c2⟩, (⟨c3, c4, c5⟩ | ⟨c6, c7, c8, c9⟩)⟩
      · rcases r8 with ⟨c81, c82, c83⟩ | ⟨c84, c85, c86, c87⟩
        · skip
          refine ⟨?_, ?_⟩
          · rw [c5, c83]
            exact zA6.rf (hA0)
          · rw [c83, hk]
            exact (zrf_ne (by decide)).trans (zf_eq)
        · skip
          exfalso
          omega
      · rcases r8 with ⟨c81, c82, c83⟩ | ⟨c84, c85, c86, c87⟩
        · skip
          exfalso
          omega
        · skip
          refine ⟨?_, ?_⟩
          · rw [c9, c87]
            exact zA6.dn (zA6.w4 (hA0) (by omega) (by omega) (by omega) (by omega) (by omega))
          · rw [c87, hk]
            exact (zdn_lo (by decide)).trans ((zw4_h8 (by decide) (by omega)).trans (zf_eq))
def zr6_read (σ : Nat → Int) (q n th y : Int) (σ' : Nat → Int) : Prop := (th = 1 ∧ (¬ (0 ≤ q ∧ q < 6)) ∧ σ' = σ) ∨ (th = 2 ∧ ((0 ≤ q ∧ q < 6) ∧ ¬ (0 ≤ n ∧ n ≤ 40)) ∧ σ' = σ) ∨ (th = 0 ∧ (0 ≤ q ∧ q < 6 ∧ 0 ≤ n ∧ n ≤ 40) ∧ ∃ k : Int, 0 ≤ k ∧ k ≤ n ∧ k ≤ σ (4 * q.toNat + 1) - σ (4 * q.toNat + 2) ∧ (k = n ∨ k = σ (4 * q.toNat + 1) - σ (4 * q.toNat + 2)) ∧ σ' = zdn (zw4 σ q.toNat (σ (4 * q.toNat)) (σ (4 * q.toNat + 1)) (σ (4 * q.toNat + 2) + k) (σ (4 * q.toNat + 3))))
set_option maxHeartbeats 1000000 in
theorem ag_read {σ σ' τ τ' : Nat → Int} {q n th y w : Int} (hA : zA6 σ τ) (hq : -2147483648 ≤ q ∧ q ≤ 2147483647) (hn : -2147483648 ≤ n ∧ n ≤ 2147483647) (h6 : zr6_read σ q n th y σ') (h8 : (¬ (0 ≤ q ∧ q ≤ 5) ∧ τ' = zf τ 36 1) ∨ ((0 ≤ q ∧ q ≤ 5) ∧ ¬ (0 ≤ n ∧ n ≤ 40) ∧ τ' = zf τ 36 2) ∨ ((0 ≤ q ∧ q ≤ 5) ∧ (0 ≤ n ∧ n ≤ 40) ∧ (∃ k : Int, 0 ≤ k ∧ k ≤ n ∧ k ≤ (zf τ 36 0) (4 * q.toNat + 1) - (zf τ 36 0) (4 * q.toNat + 2) ∧ (k = n ∨ k = (zf τ 36 0) (4 * q.toNat + 1) - (zf τ 36 0) (4 * q.toNat + 2)) ∧ τ' = zdn (zw4 (zf τ 36 0) q.toNat ((zf τ 36 0) (4 * q.toNat)) ((zf τ 36 0) (4 * q.toNat + 1)) ((zf τ 36 0) (4 * q.toNat + 2) + k) ((zf τ 36 0) (4 * q.toNat + 3)))))) : zA6 σ' τ' ∧ τ' 36 = th := by
  unfold zr6_read at h6
  have hA0 : zA6 σ (zf τ 36 0) := hA.t36
  rcases h6 with ⟨hk, c6, hs⟩ | ⟨hk, c6, hs⟩ | ⟨hk, r6⟩
  · rcases h8 with ⟨c8, ht⟩ | ⟨c8, d8, ht⟩ | ⟨c8, d8, r8⟩
    · rw [hs, ht, hk]
      exact ⟨hA.t36, zf_eq⟩
    · exfalso
      omega
    · exfalso
      omega
  · rcases h8 with ⟨c8, ht⟩ | ⟨c8, d8, ht⟩ | ⟨c8, d8, r8⟩
    · exfalso
      omega
    · rw [hs, ht, hk]
      exact ⟨hA.t36, zf_eq⟩
    · exfalso
      have e_q : σ (4 * q.toNat) = zf τ 36 0 (4 * q.toNat) := hA0.at0 (by omega)
      have e_q1 : σ (4 * q.toNat + 1) = zf τ 36 0 (4 * q.toNat + 1) := hA0.at1 (by omega) (by decide)
      have e_q2 : σ (4 * q.toNat + 2) = zf τ 36 0 (4 * q.toNat + 2) := hA0.at1 (by omega) (by decide)
      have e_q3 : σ (4 * q.toNat + 3) = zf τ 36 0 (4 * q.toNat + 3) := hA0.at1 (by omega) (by decide)
      omega
  · rcases h8 with ⟨c8, ht⟩ | ⟨c8, d8, ht⟩ | ⟨c8, d8, r8⟩
    · exfalso
      omega
    · exfalso
      have e_q : σ (4 * q.toNat) = zf τ 36 0 (4 * q.toNat) := hA0.at0 (by omega)
      have e_q1 : σ (4 * q.toNat + 1) = zf τ 36 0 (4 * q.toNat + 1) := hA0.at1 (by omega) (by decide)
      have e_q2 : σ (4 * q.toNat + 2) = zf τ 36 0 (4 * q.toNat + 2) := hA0.at1 (by omega) (by decide)
      have e_q3 : σ (4 * q.toNat + 3) = zf τ 36 0 (4 * q.toNat + 3) := hA0.at1 (by omega) (by decide)
      omega
    · skip
      have e_q : σ (4 * q.toNat) = zf τ 36 0 (4 * q.toNat) := hA0.at0 (by omega)
      have e_q1 : σ (4 * q.toNat + 1) = zf τ 36 0 (4 * q.toNat + 1) := hA0.at1 (by omega) (by decide)
      have e_q2 : σ (4 * q.toNat + 2) = zf τ 36 0 (4 * q.toNat + 2) := hA0.at1 (by omega) (by decide)
      have e_q3 : σ (4 * q.toNat + 3) = zf τ 36 0 (4 * q.toNat + 3) := hA0.at1 (by omega) (by decide)
      obtain ⟨⟨c1, c2, c3, c4⟩, ⟨kk6, ⟨c5, c6, c7, d11, c10⟩⟩⟩ := r6
      obtain ⟨kk8, ⟨c81, c82, c83, d87, c86⟩⟩ := r8
      refine ⟨?_, ?_⟩
      · rw [c10, c86]
        exact zA6.dn (zA6.w4 (hA0) (by omega) (by omega) (by omega) (by omega) (by omega))
      · rw [c86, hk]
        exact (zdn_lo (by decide)).trans ((zw4_h8 (by decide) (by omega)).trans (zf_eq))
def zr6_pour (σ : Nat → Int) (q q2 n th y : Int) (σ' : Nat → Int) : Prop := (th = 1 ∧ (¬ (0 ≤ q ∧ q < 6 ∧ 0 ≤ q2 ∧ q2 < 6)) ∧ σ' = σ) ∨ (th = 2 ∧ ((0 ≤ q ∧ q < 6 ∧ 0 ≤ q2 ∧ q2 < 6) ∧ ¬ (q ≠ q2 ∧ 0 ≤ n ∧ n ≤ 40)) ∧ σ' = σ) ∨ (th = 0 ∧ (0 ≤ q ∧ q < 6 ∧ 0 ≤ q2 ∧ q2 < 6 ∧ q ≠ q2 ∧ 0 ≤ n ∧ n ≤ 40) ∧ 0 ≤ y ∧ y ≤ n ∧ y ≤ σ (4 * q.toNat + 1) - σ (4 * q.toNat + 2) ∧ y ≤ σ (4 * q2.toNat + 1) - σ (4 * q2.toNat + 2) ∧ (y = n ∨ y = σ (4 * q.toNat + 1) - σ (4 * q.toNat + 2) ∨ y = σ (4 * q2.toNat + 1) - σ (4 * q2.toNat + 2)) ∧ σ' = zdn (zw4 (zw4 σ q.toNat (σ (4 * q.toNat)) (σ (4 * q.toNat + 1)) (σ (4 * q.toNat + 2) + y) (σ (4 * q.toNat + 3))) q2.toNat (σ (4 * q2.toNat)) (σ (4 * q2.toNat + 1)) (σ (4 * q2.toNat + 2) + y) (σ (4 * q2.toNat + 3))))
theorem rq_pour {σ σ' : Nat → Int} {q n y : Int} (h : False) : (0 ≤ q ∧ q < 6 ∧ 0 ≤ q ∧ q < 6 ∧ q ≠ q ∧ 0 ≤ n ∧ n ≤ 40) ∧ 0 ≤ y ∧ y ≤ n ∧ y ≤ σ (4 * q.toNat + 1) - σ (4 * q.toNat + 2) ∧ y ≤ σ (4 * q.toNat + 1) - σ (4 * q.toNat + 2) ∧ (y = n ∨ y = σ (4 * q.toNat + 1) - σ (4 * q.toNat + 2) ∨ y = σ (4 * q.toNat + 1) - σ (4 * q.toNat + 2)) ∧ σ' = zdn (zw4 (zw4 σ q.toNat (σ (4 * q.toNat)) (σ (4 * q.toNat + 1)) (σ (4 * q.toNat + 2) + y) (σ (4 * q.toNat + 3))) q.toNat (σ (4 * q.toNat)) (σ (4 * q.toNat + 1)) (σ (4 * q.toNat + 2) + y) (σ (4 * q.toNat + 3))) := by
  exact h.elim
set_option maxHeartbeats 1000000 in
theorem ag_pour {σ σ' τ τ' : Nat → Int} {q q2 n th y w : Int} (hA : zA6 σ τ) (hq : -2147483648 ≤ q ∧ q ≤ 2147483647) (hq2 : -2147483648 ≤ q2 ∧ q2 ≤ 2147483647) (hn : -2147483648 ≤ n ∧ n ≤ 2147483647) (h6 : zr6_pour σ q q2 n th y σ') (h8 : (¬ ((0 ≤ q ∧ q ≤ 5) ∧ (0 ≤ q2 ∧ q2 ≤ 5)) ∧ w = 0 ∧ τ' = zf τ 36 1) ∨ (((0 ≤ q ∧ q ≤ 5) ∧ (0 ≤ q2 ∧ q2 ≤ 5)) ∧ ¬ (q ≠ q2 ∧ 0 ≤ n ∧ n ≤ 40) ∧ w = 0 ∧ τ' = zf τ 36 2) ∨ (((0 ≤ q ∧ q ≤ 5) ∧ (0 ≤ q2 ∧ q2 ≤ 5)) ∧ (q ≠ q2 ∧ 0 ≤ n ∧ n ≤ 40) ∧ (0 ≤ w ∧ w ≤ n ∧ w ≤ (zf τ 36 0) (4 * q.toNat + 1) - (zf τ 36 0) (4 * q.toNat + 2) ∧ w ≤ (zf τ 36 0) (4 * q2.toNat + 1) - (zf τ 36 0) (4 * q2.toNat + 2) ∧ (w = n ∨ w = (zf τ 36 0) (4 * q.toNat + 1) - (zf τ 36 0) (4 * q.toNat + 2) ∨ w = (zf τ 36 0) (4 * q2.toNat + 1) - (zf τ 36 0) (4 * q2.toNat + 2)) ∧ τ' = zdn (zw4 (zw4 (zf τ 36 0) q.toNat ((zf τ 36 0) (4 * q.toNat)) ((zf τ 36 0) (4 * q.toNat + 1)) ((zf τ 36 0) (4 * q.toNat + 2) + w) ((zf τ 36 0) (4 * q.toNat + 3))) q2.toNat ((zf τ 36 0) (4 * q2.toNat)) ((zf τ 36 0) (4 * q2.toNat + 1)) ((zf τ 36 0) (4 * q2.toNat + 2) + w) ((zf τ 36 0) (4 * q2.toNat + 3)))))) : zA6 σ' τ' ∧ τ' 36 = th ∧ (th = 0 → y = w) := by
  unfold zr6_pour at h6
  have hA0 : zA6 σ (zf τ 36 0) := hA.t36
  rcases h6 with ⟨hk, c6, hs⟩ | ⟨hk, c6, hs⟩ | ⟨hk, r6⟩
  · rcases h8 with ⟨c8, hw, ht⟩ | ⟨c8, d8, hw, ht⟩ | ⟨c8, d8, r8⟩
    · rw [hs, ht, hk]
      exact ⟨hA.t36, zf_eq, fun h => absurd h (by decide)⟩
    · exfalso
      omega
    · exfalso
      omega
  · rcases h8 with ⟨c8, hw, ht⟩ | ⟨c8, d8, hw, ht⟩ | ⟨c8, d8, r8⟩
    · exfalso
      omega
    · rw [hs, ht, hk]
      exact ⟨hA.t36, zf_eq, fun h => absurd h (by decide)⟩
    · exfalso
      have e_q : σ (4 * q.toNat) = zf τ 36 0 (4 * q.toNat) := hA0.at0 (by omega)
      have e_q1 : σ (4 * q.toNat + 1) = zf τ 36 0 (4 * q.toNat + 1) := hA0.at1 (by omega) (by decide)
      have e_q2 : σ (4 * q.toNat + 2) = zf τ 36 0 (4 * q.toNat + 2) := hA0.at1 (by omega) (by decide)
      have e_q3 : σ (4 * q.toNat + 3) = zf τ 36 0 (4 * q.toNat + 3) := hA0.at1 (by omega) (by decide)
      have e_q2 : σ (4 * q2.toNat) = zf τ 36 0 (4 * q2.toNat) := hA0.at0 (by omega)
      have e_q21 : σ (4 * q2.toNat + 1) = zf τ 36 0 (4 * q2.toNat + 1) := hA0.at1 (by omega) (by decide)
      have e_q22 : σ (4 * q2.toNat + 2) = zf τ 36 0 (4 * q2.toNat + 2) := hA0.at1 (by omega) (by decide)
      have e_q23 : σ (4 * q2.toNat + 3) = zf τ 36 0 (4 * q2.toNat + 3) := hA0.at1 (by omega) (by decide)
      omega
  · rcases h8 with ⟨c8, hw, ht⟩ | ⟨c8, d8, hw, ht⟩ | ⟨c8, d8, r8⟩
    · exfalso
      omega
    · exfalso
      have e_q : σ (4 * q.toNat) = zf τ 36 0 (4 * q.toNat) := hA0.at0 (by omega)
      have e_q1 : σ (4 * q.toNat + 1) = zf τ 36 0 (4 * q.toNat + 1) := hA0.at1 (by omega) (by decide)
      have e_q2 : σ (4 * q.toNat + 2) = zf τ 36 0 (4 * q.toNat + 2) := hA0.at1 (by omega) (by decide)
      have e_q3 : σ (4 * q.toNat + 3) = zf τ 36 0 (4 * q.toNat + 3) := hA0.at1 (by omega) (by decide)
      have e_q2 : σ (4 * q2.toNat) = zf τ 36 0 (4 * q2.toNat) := hA0.at0 (by omega)
      have e_q21 : σ (4 * q2.toNat + 1) = zf τ 36 0 (4 * q2.toNat + 1) := hA0.at1 (by omega) (by decide)
      have e_q22 : σ (4 * q2.toNat + 2) = zf τ 36 0 (4 * q2.toNat + 2) := hA0.at1 (by omega) (by decide)
      have e_q23 : σ (4 * q2.toNat + 3) = zf τ 36 0 (4 * q2.toNat + 3) := hA0.at1 (by omega) (by decide)
      omega
    · skip
      have e_q : σ (4 * q.toNat) = zf τ 36 0 (4 * q.toNat) := hA0.at0 (by omega)
      have e_q1 : σ (4 * q.toNat + 1) = zf τ 36 0 (4 * q.toNat + 1) := hA0.at1 (by omega) (by decide)
      have e_q2 : σ (4 * q.toNat + 2) = zf τ 36 0 (4 * q.toNat + 2) := hA0.at1 (by omega) (by decide)
      have e_q3 : σ (4 * q.toNat + 3) = zf τ 36 0 (4 * q.toNat + 3) := hA0.at1 (by omega) (by decide)
      have e_q2 : σ (4 * q2.toNat) = zf τ 36 0 (4 * q2.toNat) := hA0.at0 (by omega)
      have e_q21 : σ (4 * q2.toNat + 1) = zf τ 36 0 (4 * q2.toNat + 1) := hA0.at1 (by omega) (by decide)
      have e_q22 : σ (4 * q2.toNat + 2) = zf τ 36 0 (4 * q2.toNat + 2) := hA0.at1 (by omega) (by decide)
      have e_q23 : σ (4 * q2.toNat + 3) = zf τ 36 0 (4 * q2.toNat + 3) := hA0.at1 (by omega) (by decide)
      obtain ⟨⟨c1, c2, c3, c4, c5, c6, c7⟩, c8, c9, c10, c11, d16, c15⟩ := r6
      obtain ⟨c81, c82, c83, c84, d89, c88⟩ := r8
      refine ⟨?_, ?_, fun _ => ?_⟩
      · rw [c15, c88]
        exact zA6.dn (zA6.w4 (zA6.w4 (hA0) (by omega) (by omega) (by omega) (by omega) (by omega)) (by omega) (by omega) (by omega) (by omega) (by omega))
      · rw [c88, hk]
        exact (zdn_lo (by decide)).trans ((zw4_h8 (by decide) (by omega)).trans ((zw4_h8 (by decide) (by omega)).trans (zf_eq)))
      · omega
def zr6_mark (σ : Nat → Int) (q th y : Int) (σ' : Nat → Int) : Prop := (th = 1 ∧ (¬ (0 ≤ q ∧ q < 6)) ∧ σ' = σ) ∨ (th = 0 ∧ (0 ≤ q ∧ q < 6) ∧ y = σ (4 * q.toNat + 2) ∧ σ' = zdn (zw4 σ q.toNat (σ (4 * q.toNat)) (σ (4 * q.toNat + 1)) (σ (4 * q.toNat + 2)) (σ (4 * q.toNat + 2))))
set_option maxHeartbeats 1000000 in
theorem ag_mark {σ σ' τ τ' : Nat → Int} {q th y w : Int} (hA : zA6 σ τ) (hq : -2147483648 ≤ q ∧ q ≤ 2147483647) (h6 : zr6_mark σ q th y σ') (h8 : (¬ (0 ≤ q ∧ q ≤ 5) ∧ w = 0 ∧ τ' = zf τ 36 1) ∨ ((0 ≤ q ∧ q ≤ 5) ∧ ¬ (True) ∧ w = 0 ∧ τ' = zf τ 36 2) ∨ ((0 ≤ q ∧ q ≤ 5) ∧ (True) ∧ (w = (zf τ 36 0) (4 * q.toNat + 2) ∧ τ' = zdn (zw4 (zf τ 36 0) q.toNat ((zf τ 36 0) (4 * q.toNat)) ((zf τ 36 0) (4 * q.toNat + 1)) ((zf τ 36 0) (4 * q.toNat + 2)) ((zf τ 36 0) (4 * q.toNat + 2)))))) : zA6 σ' τ' ∧ τ' 36 = th ∧ (th = 0 → y = w) := by
  unfold zr6_mark at h6
  have hA0 : zA6 σ (zf τ 36 0) := hA.t36
  rcases h6 with ⟨hk, c6, hs⟩ | ⟨hk, r6⟩
  · rcases h8 with ⟨c8, hw, ht⟩ | ⟨c8, d8, hw, ht⟩ | ⟨c8, d8, r8⟩
    · rw [hs, ht, hk]
      exact ⟨hA.t36, zf_eq, fun h => absurd h (by decide)⟩
    · exact absurd trivial d8
    · exfalso
      omega
  · rcases h8 with ⟨c8, hw, ht⟩ | ⟨c8, d8, hw, ht⟩ | ⟨c8, d8, r8⟩
    · exfalso
      omega
    · exact absurd trivial d8
    · skip
      have e_q : σ (4 * q.toNat) = zf τ 36 0 (4 * q.toNat) := hA0.at0 (by omega)
      have e_q1 : σ (4 * q.toNat + 1) = zf τ 36 0 (4 * q.toNat + 1) := hA0.at1 (by omega) (by decide)
      have e_q2 : σ (4 * q.toNat + 2) = zf τ 36 0 (4 * q.toNat + 2) := hA0.at1 (by omega) (by decide)
      obtain ⟨⟨c1, c2⟩, c3, c4⟩ := r6
      obtain ⟨c81, c82⟩ := r8
      refine ⟨?_, ?_, fun _ => ?_⟩
      · rw [c4, c82]
        exact zA6.dn (zA6.w4 (hA0) (by omega) (by omega) (by omega) (by omega) (by omega))
      · rw [c82, hk]
        exact (zdn_lo (by decide)).trans ((zw4_h8 (by decide) (by omega)).trans (zf_eq))
      · omega
def zr6_reset (σ : Nat → Int) (q th y : Int) (σ' : Nat → Int) : Prop := (th = 1 ∧ (¬ (0 ≤ q ∧ q < 6)) ∧ σ' = σ) ∨ (th = 0 ∧ (0 ≤ q ∧ q < 6) ∧ ((σ (4 * q.toNat + 3) = -9 ∧ y = -9 ∧ σ' = zrf σ) ∨ (σ (4 * q.toNat + 3) ≠ -9 ∧ y = σ (4 * q.toNat + 3) ∧ σ' = zdn (zw4 σ q.toNat (σ (4 * q.toNat)) (σ (4 * q.toNat + 1)) (σ (4 * q.toNat + 3)) (σ (4 * q.toNat + 3))))))
set_option maxHeartbeats 1000000 in
theorem ag_reset {σ σ' τ τ' : Nat → Int} {q th y w : Int} (hA : zA6 σ τ) (hq : -2147483648 ≤ q ∧ q ≤ 2147483647) (h6 : zr6_reset σ q th y σ') (h8 : (¬ (0 ≤ q ∧ q ≤ 5) ∧ w = 0 ∧ τ' = zf τ 36 1) ∨ ((0 ≤ q ∧ q ≤ 5) ∧ ¬ (True) ∧ w = 0 ∧ τ' = zf τ 36 2) ∨ ((0 ≤ q ∧ q ≤ 5) ∧ (True) ∧ (((zf τ 36 0) (4 * q.toNat + 3) = -9 ∧ w = -9 ∧ τ' = zrf (zf τ 36 0)) ∨ ((zf τ 36 0) (4 * q.toNat + 3) ≠ -9 ∧ w = (zf τ 36 0) (4 * q.toNat + 3) ∧ τ' = zdn (zw4 (zf τ 36 0) q.toNat ((zf τ 36 0) (4 * q.toNat)) ((zf τ 36 0) (4 * q.toNat + 1)) ((zf τ 36 0) (4 * q.toNat + 3)) ((zf τ 36 0) (4 * q.toNat + 3))))))) : zA6 σ' τ' ∧ τ' 36 = th ∧ (th = 0 → y = w) := by
  unfold zr6_reset at h6
  have hA0 : zA6 σ (zf τ 36 0) := hA.t36
  rcases h6 with ⟨hk, c6, hs⟩ | ⟨hk, r6⟩
  · rcases h8 with ⟨c8, hw, ht⟩ | ⟨c8, d8, hw, ht⟩ | ⟨c8, d8, r8⟩
    · rw [hs, ht, hk]
      exact ⟨hA.t36, zf_eq, fun h => absurd h (by decide)⟩
    · exact absurd trivial d8
    · exfalso
      omega
  · rcases h8 with ⟨c8, hw, ht⟩ | ⟨c8, d8, hw, ht⟩ | ⟨c8, d8, r8⟩
    · exfalso
      omega
    · exact absurd trivial d8
    · skip
      have e_q : σ (4 * q.toNat) = zf τ 36 0 (4 * q.toNat) := hA0.at0 (by omega)
      have e_q1 : σ (4 * q.toNat + 1) = zf τ 36 0 (4 * q.toNat + 1) := hA0.at1 (by omega) (by decide)
      have e_q3 : σ (4 * q.toNat + 3) = zf τ 36 0 (4 * q.toNat + 3) := hA0.at1 (by omega) (by decide)
      rcases r6 with ⟨⟨c1, c2⟩, (⟨c3, c4, c5⟩ | ⟨c6, c7, c8⟩)⟩
      · rcases r8 with ⟨c81, c82, c83⟩ | ⟨c84, c85, c86⟩
        · skip
          refine ⟨?_, ?_, fun _ => ?_⟩
          · rw [c5, c83]
            exact zA6.rf (hA0)
          · rw [c83, hk]
            exact (zrf_ne (by decide)).trans (zf_eq)
          · omega
        · skip
          exfalso
          omega
      · rcases r8 with ⟨c81, c82, c83⟩ | ⟨c84, c85, c86⟩
        · skip
          exfalso
          omega
        · skip
          refine ⟨?_, ?_, fun _ => ?_⟩
          · rw [c8, c86]
            exact zA6.dn (zA6.w4 (hA0) (by omega) (by omega) (by omega) (by omega) (by omega))
          · rw [c86, hk]
            exact (zdn_lo (by decide)).trans ((zw4_h8 (by decide) (by omega)).trans (zf_eq))
          · omega
def zr6_rewind (σ : Nat → Int) (q th y : Int) (σ' : Nat → Int) : Prop := (th = 1 ∧ (¬ (0 ≤ q ∧ q < 6)) ∧ σ' = σ) ∨ (th = 0 ∧ (0 ≤ q ∧ q < 6) ∧ y = σ (4 * q.toNat + 1) - 0 ∧ σ' = zdn (zw4 σ q.toNat (σ (4 * q.toNat)) (σ (4 * q.toNat + 1)) 0 (-9)))
set_option maxHeartbeats 1000000 in
theorem ag_rewind {σ σ' τ τ' : Nat → Int} {q th y w : Int} (hA : zA6 σ τ) (hq : -2147483648 ≤ q ∧ q ≤ 2147483647) (h6 : zr6_rewind σ q th y σ') (h8 : (¬ (0 ≤ q ∧ q ≤ 5) ∧ w = 0 ∧ τ' = zf τ 36 1) ∨ ((0 ≤ q ∧ q ≤ 5) ∧ ¬ (True) ∧ w = 0 ∧ τ' = zf τ 36 2) ∨ ((0 ≤ q ∧ q ≤ 5) ∧ (True) ∧ (w = (zf τ 36 0) (4 * q.toNat + 1) - 0 ∧ τ' = zdn (zw4 (zf τ 36 0) q.toNat ((zf τ 36 0) (4 * q.toNat)) ((zf τ 36 0) (4 * q.toNat + 1)) 0 (-9))))) : zA6 σ' τ' ∧ τ' 36 = th ∧ (th = 0 → y = w) := by
  unfold zr6_rewind at h6
  have hA0 : zA6 σ (zf τ 36 0) := hA.t36
  rcases h6 with ⟨hk, c6, hs⟩ | ⟨hk, r6⟩
  · rcases h8 with ⟨c8, hw, ht⟩ | ⟨c8, d8, hw, ht⟩ | ⟨c8, d8, r8⟩
    · rw [hs, ht, hk]
      exact ⟨hA.t36, zf_eq, fun h => absurd h (by decide)⟩
    · exact absurd trivial d8
    · exfalso
      omega
  · rcases h8 with ⟨c8, hw, ht⟩ | ⟨c8, d8, hw, ht⟩ | ⟨c8, d8, r8⟩
    · exfalso
      omega
    · exact absurd trivial d8
    · skip
      have e_q : σ (4 * q.toNat) = zf τ 36 0 (4 * q.toNat) := hA0.at0 (by omega)
      have e_q1 : σ (4 * q.toNat + 1) = zf τ 36 0 (4 * q.toNat + 1) := hA0.at1 (by omega) (by decide)
      obtain ⟨⟨c1, c2⟩, c3, c4⟩ := r6
      obtain ⟨c81, c82⟩ := r8
      refine ⟨?_, ?_, fun _ => ?_⟩
      · rw [c4, c82]
        exact zA6.dn (zA6.w4 (hA0) (by omega) (by omega) (by omega) (by omega) (by omega))
      · rw [c82, hk]
        exact (zdn_lo (by decide)).trans ((zw4_h8 (by decide) (by omega)).trans (zf_eq))
      · omega
def zr6_flip (σ : Nat → Int) (q th y : Int) (σ' : Nat → Int) : Prop := (th = 1 ∧ (¬ (0 ≤ q ∧ q < 6)) ∧ σ' = σ) ∨ (th = 0 ∧ (0 ≤ q ∧ q < 6) ∧ y = σ (4 * q.toNat + 2) - 0 ∧ σ' = zdn (zw4 σ q.toNat (σ (4 * q.toNat)) (σ (4 * q.toNat + 2)) 0 (-9)))
set_option maxHeartbeats 1000000 in
theorem ag_flip {σ σ' τ τ' : Nat → Int} {q th y w : Int} (hA : zA6 σ τ) (hq : -2147483648 ≤ q ∧ q ≤ 2147483647) (h6 : zr6_flip σ q th y σ') (h8 : (¬ (0 ≤ q ∧ q ≤ 5) ∧ w = 0 ∧ τ' = zf τ 36 1) ∨ ((0 ≤ q ∧ q ≤ 5) ∧ ¬ (True) ∧ w = 0 ∧ τ' = zf τ 36 2) ∨ ((0 ≤ q ∧ q ≤ 5) ∧ (True) ∧ (w = (zf τ 36 0) (4 * q.toNat + 2) - 0 ∧ τ' = zdn (zw4 (zf τ 36 0) q.toNat ((zf τ 36 0) (4 * q.toNat)) ((zf τ 36 0) (4 * q.toNat + 2)) 0 (-9))))) : zA6 σ' τ' ∧ τ' 36 = th ∧ (th = 0 → y = w) := by
  unfold zr6_flip at h6
  have hA0 : zA6 σ (zf τ 36 0) := hA.t36
  rcases h6 with ⟨hk, c6, hs⟩ | ⟨hk, r6⟩
  · rcases h8 with ⟨c8, hw, ht⟩ | ⟨c8, d8, hw, ht⟩ | ⟨c8, d8, r8⟩
    · rw [hs, ht, hk]
      exact ⟨hA.t36, zf_eq, fun h => absurd h (by decide)⟩
    · exact absurd trivial d8
    · exfalso
      omega
  · rcases h8 with ⟨c8, hw, ht⟩ | ⟨c8, d8, hw, ht⟩ | ⟨c8, d8, r8⟩
    · exfalso
      omega
    · exact absurd trivial d8
    · skip
      have e_q : σ (4 * q.toNat) = zf τ 36 0 (4 * q.toNat) := hA0.at0 (by omega)
      have e_q2 : σ (4 * q.toNat + 2) = zf τ 36 0 (4 * q.toNat + 2) := hA0.at1 (by omega) (by decide)
      obtain ⟨⟨c1, c2⟩, c3, c4⟩ := r6
      obtain ⟨c81, c82⟩ := r8
      refine ⟨?_, ?_, fun _ => ?_⟩
      · rw [c4, c82]
        exact zA6.dn (zA6.w4 (hA0) (by omega) (by omega) (by omega) (by omega) (by omega))
      · rw [c82, hk]
        exact (zdn_lo (by decide)).trans ((zw4_h8 (by decide) (by omega)).trans (zf_eq))
      · omega
def zr6_compact (σ : Nat → Int) (q th y : Int) (σ' : Nat → Int) : Prop := (th = 1 ∧ (¬ (0 ≤ q ∧ q < 6)) ∧ σ' = σ) ∨ (th = 0 ∧ (0 ≤ q ∧ q < 6) ∧ y = σ (4 * q.toNat + 1) - σ (4 * q.toNat + 2) ∧ σ' = zdn (zw4 σ q.toNat (σ (4 * q.toNat)) (σ (4 * q.toNat)) (σ (4 * q.toNat + 1) - σ (4 * q.toNat + 2)) (-9)))
set_option maxHeartbeats 1000000 in
theorem ag_compact {σ σ' τ τ' : Nat → Int} {q th y w : Int} (hA : zA6 σ τ) (hq : -2147483648 ≤ q ∧ q ≤ 2147483647) (h6 : zr6_compact σ q th y σ') (h8 : (¬ (0 ≤ q ∧ q ≤ 5) ∧ w = 0 ∧ τ' = zf τ 36 1) ∨ ((0 ≤ q ∧ q ≤ 5) ∧ ¬ (True) ∧ w = 0 ∧ τ' = zf τ 36 2) ∨ ((0 ≤ q ∧ q ≤ 5) ∧ (True) ∧ (w = (zf τ 36 0) (4 * q.toNat + 1) - (zf τ 36 0) (4 * q.toNat + 2) ∧ τ' = zdn (zw4 (zf τ 36 0) q.toNat ((zf τ 36 0) (4 * q.toNat)) ((zf τ 36 0) (4 * q.toNat)) ((zf τ 36 0) (4 * q.toNat + 1) - (zf τ 36 0) (4 * q.toNat + 2)) (-9))))) : zA6 σ' τ' ∧ τ' 36 = th ∧ (th = 0 → y = w) := by
  unfold zr6_compact at h6
  have hA0 : zA6 σ (zf τ 36 0) := hA.t36
  rcases h6 with ⟨hk, c6, hs⟩ | ⟨hk, r6⟩
  · rcases h8 with ⟨c8, hw, ht⟩ | ⟨c8, d8, hw, ht⟩ | ⟨c8, d8, r8⟩
    · rw [hs, ht, hk]
      exact ⟨hA.t36, zf_eq, fun h => absurd h (by decide)⟩
    · exact absurd trivial d8
    · exfalso
      omega
  · rcases h8 with ⟨c8, hw, ht⟩ | ⟨c8, d8, hw, ht⟩ | ⟨c8, d8, r8⟩
    · exfalso
      omega
    · exact absurd trivial d8
    · skip
      have e_q : σ (4 * q.toNat) = zf τ 36 0 (4 * q.toNat) := hA0.at0 (by omega)
      have e_q1 : σ (4 * q.toNat + 1) = zf τ 36 0 (4 * q.toNat + 1) := hA0.at1 (by omega) (by decide)
      have e_q2 : σ (4 * q.toNat + 2) = zf τ 36 0 (4 * q.toNat + 2) := hA0.at1 (by omega) (by decide)
      obtain ⟨⟨c1, c2⟩, c3, c4⟩ := r6
      obtain ⟨c81, c82⟩ := r8
      refine ⟨?_, ?_, fun _ => ?_⟩
      · rw [c4, c82]
        exact zA6.dn (zA6.w4 (hA0) (by omega) (by omega) (by omega) (by omega) (by omega))
      · rw [c82, hk]
        exact (zdn_lo (by decide)).trans ((zw4_h8 (by decide) (by omega)).trans (zf_eq))
      · omega
def zr6_open (σ : Nat → Int) (q th y : Int) (σ' : Nat → Int) : Prop := (th = 1 ∧ (¬ (0 ≤ q ∧ q < 6)) ∧ σ' = σ) ∨ (th = 0 ∧ (0 ≤ q ∧ q < 6) ∧ y = σ (4 * q.toNat) - 0 ∧ σ' = zdn (zw4 σ q.toNat (σ (4 * q.toNat)) (σ (4 * q.toNat)) 0 (-9)))
set_option maxHeartbeats 1000000 in
theorem ag_open {σ σ' τ τ' : Nat → Int} {q th y w : Int} (hA : zA6 σ τ) (hq : -2147483648 ≤ q ∧ q ≤ 2147483647) (h6 : zr6_open σ q th y σ') (h8 : (¬ (0 ≤ q ∧ q ≤ 5) ∧ w = 0 ∧ τ' = zf τ 36 1) ∨ ((0 ≤ q ∧ q ≤ 5) ∧ ¬ (True) ∧ w = 0 ∧ τ' = zf τ 36 2) ∨ ((0 ≤ q ∧ q ≤ 5) ∧ (True) ∧ (w = (zf τ 36 0) (4 * q.toNat) - 0 ∧ τ' = zdn (zw4 (zf τ 36 0) q.toNat ((zf τ 36 0) (4 * q.toNat)) ((zf τ 36 0) (4 * q.toNat)) 0 (-9))))) : zA6 σ' τ' ∧ τ' 36 = th ∧ (th = 0 → y = w) := by
  unfold zr6_open at h6
  have hA0 : zA6 σ (zf τ 36 0) := hA.t36
  rcases h6 with ⟨hk, c6, hs⟩ | ⟨hk, r6⟩
  · rcases h8 with ⟨c8, hw, ht⟩ | ⟨c8, d8, hw, ht⟩ | ⟨c8, d8, r8⟩
    · rw [hs, ht, hk]
      exact ⟨hA.t36, zf_eq, fun h => absurd h (by decide)⟩
    · exact absurd trivial d8
    · exfalso
      omega
  · rcases h8 with ⟨c8, hw, ht⟩ | ⟨c8, d8, hw, ht⟩ | ⟨c8, d8, r8⟩
    · exfalso
      omega
    · exact absurd trivial d8
    · skip
      have e_q : σ (4 * q.toNat) = zf τ 36 0 (4 * q.toNat) := hA0.at0 (by omega)
      obtain ⟨⟨c1, c2⟩, c3, c4⟩ := r6
      obtain ⟨c81, c82⟩ := r8
      refine ⟨?_, ?_, fun _ => ?_⟩
      · rw [c4, c82]
        exact zA6.dn (zA6.w4 (hA0) (by omega) (by omega) (by omega) (by omega) (by omega))
      · rw [c82, hk]
        exact (zdn_lo (by decide)).trans ((zw4_h8 (by decide) (by omega)).trans (zf_eq))
      · omega
def zr6_keep (σ : Nat → Int) (q th y : Int) (σ' : Nat → Int) : Prop := (th = 1 ∧ (¬ (0 ≤ q ∧ q ≤ 7)) ∧ σ' = σ) ∨ (th = 0 ∧ (0 ≤ q ∧ q ≤ 7) ∧ y = zsz σ q ∧ σ' = zdn (zf σ 25 (zsz σ q)))
set_option maxHeartbeats 1000000 in
theorem ag_keep {σ σ' τ τ' : Nat → Int} {q th y w : Int} (hA : zA6 σ τ) (hq : -2147483648 ≤ q ∧ q ≤ 2147483647) (h6 : zr6_keep σ q th y σ') (h8 : (¬ (0 ≤ q ∧ q ≤ 7) ∧ w = 0 ∧ τ' = zf τ 36 1) ∨ ((0 ≤ q ∧ q ≤ 7) ∧ ¬ (True) ∧ w = 0 ∧ τ' = zf τ 36 2) ∨ ((0 ≤ q ∧ q ≤ 7) ∧ (True) ∧ (w = zsz (zf τ 36 0) q ∧ τ' = zdn (zf (zf τ 36 0) 25 (zsz (zf τ 36 0) q))))) : zA6 σ' τ' ∧ τ' 36 = th ∧ (th = 0 → y = w) := by
  unfold zr6_keep at h6
  have hA0 : zA6 σ (zf τ 36 0) := hA.t36
  rcases h6 with ⟨hk, c6, hs⟩ | ⟨hk, r6⟩
  · rcases h8 with ⟨c8, hw, ht⟩ | ⟨c8, d8, hw, ht⟩ | ⟨c8, d8, r8⟩
    · rw [hs, ht, hk]
      exact ⟨hA.t36, zf_eq, fun h => absurd h (by decide)⟩
    · exact absurd trivial d8
    · exfalso
      have e25 : σ 25 = zf τ 36 0 25 := hA0 25 (by decide)
      omega
  · rcases h8 with ⟨c8, hw, ht⟩ | ⟨c8, d8, hw, ht⟩ | ⟨c8, d8, r8⟩
    · exfalso
      have e25 : σ 25 = zf τ 36 0 25 := hA0 25 (by decide)
      omega
    · exact absurd trivial d8
    · skip
      have e25 : σ 25 = zf τ 36 0 25 := hA0 25 (by decide)
      have s_q : zsz σ q = zsz (zf τ 36 0) q := hA0.sz (by omega)
      obtain ⟨⟨c1, c2⟩, c3, c4⟩ := r6
      obtain ⟨c81, c82⟩ := r8
      refine ⟨?_, ?_, fun _ => ?_⟩
      · rw [c4, c82]
        exact zA6.dn (zA6.fx (hA0) (by omega))
      · rw [c82, hk]
        exact (zdn_lo (by decide)).trans ((zf_ne (by decide)).trans (zf_eq))
      · omega
def zr6_load (σ : Nat → Int) (q th y : Int) (σ' : Nat → Int) : Prop := (th = 1 ∧ (¬ (0 ≤ q ∧ q ≤ 7)) ∧ σ' = σ) ∨ (th = 0 ∧ (0 ≤ q ∧ q ≤ 7) ∧ y = zsz σ q ∧ σ' = zdn (zf σ 24 (zsz σ q)))
set_option maxHeartbeats 1000000 in
theorem ag_load {σ σ' τ τ' : Nat → Int} {q th y w : Int} (hA : zA6 σ τ) (hq : -2147483648 ≤ q ∧ q ≤ 2147483647) (h6 : zr6_load σ q th y σ') (h8 : (¬ (0 ≤ q ∧ q ≤ 7) ∧ w = 0 ∧ τ' = zf τ 36 1) ∨ ((0 ≤ q ∧ q ≤ 7) ∧ ¬ (True) ∧ w = 0 ∧ τ' = zf τ 36 2) ∨ ((0 ≤ q ∧ q ≤ 7) ∧ (True) ∧ (w = zsz (zf τ 36 0) q ∧ τ' = zdn (zf (zf τ 36 0) 24 (zsz (zf τ 36 0) q))))) : zA6 σ' τ' ∧ τ' 36 = th ∧ (th = 0 → y = w) := by
  unfold zr6_load at h6
  have hA0 : zA6 σ (zf τ 36 0) := hA.t36
  rcases h6 with ⟨hk, c6, hs⟩ | ⟨hk, r6⟩
  · rcases h8 with ⟨c8, hw, ht⟩ | ⟨c8, d8, hw, ht⟩ | ⟨c8, d8, r8⟩
    · rw [hs, ht, hk]
      exact ⟨hA.t36, zf_eq, fun h => absurd h (by decide)⟩
    · exact absurd trivial d8
    · exfalso
      have e24 : σ 24 = zf τ 36 0 24 := hA0 24 (by decide)
      have f24 : σ 24 = τ 24 := hA 24 (by decide)
      omega
  · rcases h8 with ⟨c8, hw, ht⟩ | ⟨c8, d8, hw, ht⟩ | ⟨c8, d8, r8⟩
    · exfalso
      have e24 : σ 24 = zf τ 36 0 24 := hA0 24 (by decide)
      have f24 : σ 24 = τ 24 := hA 24 (by decide)
      omega
    · exact absurd trivial d8
    · skip
      have e24 : σ 24 = zf τ 36 0 24 := hA0 24 (by decide)
      have f24 : σ 24 = τ 24 := hA 24 (by decide)
      have s_q : zsz σ q = zsz (zf τ 36 0) q := hA0.sz (by omega)
      obtain ⟨⟨c1, c2⟩, c3, c4⟩ := r6
      obtain ⟨c81, c82⟩ := r8
      refine ⟨?_, ?_, fun _ => ?_⟩
      · rw [c4, c82]
        exact zA6.dn (zA6.fx (hA0) (by omega))
      · rw [c82, hk]
        exact (zdn_lo (by decide)).trans ((zf_ne (by decide)).trans (zf_eq))
      · omega
def zr6_build (σ : Nat → Int) (q th y : Int) (σ' : Nat → Int) : Prop := (th = 1 ∧ (¬ (0 ≤ q ∧ q ≤ 7)) ∧ σ' = σ) ∨ (th = 2 ∧ ((0 ≤ q ∧ q ≤ 7) ∧ ¬ (σ 24 + zsz σ q ≤ 80)) ∧ σ' = σ) ∨ (th = 0 ∧ (0 ≤ q ∧ q ≤ 7) ∧ σ 24 + zsz σ q ≤ 80 ∧ y = σ 24 + zsz σ q ∧ σ' = zdn (zf σ 24 (σ 24 + zsz σ q)))
set_option maxHeartbeats 1000000 in
theorem ag_build {σ σ' τ τ' : Nat → Int} {q th y w : Int} (hA : zA6 σ τ) (hq : -2147483648 ≤ q ∧ q ≤ 2147483647) (h6 : zr6_build σ q th y σ') (h8 : (¬ (0 ≤ q ∧ q ≤ 7) ∧ w = 0 ∧ τ' = zf τ 36 1) ∨ ((0 ≤ q ∧ q ≤ 7) ∧ ¬ (zf τ 36 0) 24 + zsz (zf τ 36 0) q ≤ 80 ∧ w = 0 ∧ τ' = zf τ 36 2) ∨ ((0 ≤ q ∧ q ≤ 7) ∧ (zf τ 36 0) 24 + zsz (zf τ 36 0) q ≤ 80 ∧ w = (zf τ 36 0) 24 + zsz (zf τ 36 0) q ∧ τ' = zdn (zf (zf τ 36 0) 24 ((zf τ 36 0) 24 + zsz (zf τ 36 0) q)))) : zA6 σ' τ' ∧ τ' 36 = th ∧ (th = 0 → y = w) := by
  unfold zr6_build at h6
  have hA0 : zA6 σ (zf τ 36 0) := hA.t36
  rcases h6 with ⟨hk, c6, hs⟩ | ⟨hk, c6, hs⟩ | ⟨hk, r6⟩
  · rcases h8 with ⟨c8, hw, ht⟩ | ⟨c8, d8, hw, ht⟩ | ⟨c8, d8, r8⟩
    · rw [hs, ht, hk]
      exact ⟨hA.t36, zf_eq, fun h => absurd h (by decide)⟩
    · exfalso
      have e24 : σ 24 = zf τ 36 0 24 := hA0 24 (by decide)
      have f24 : σ 24 = τ 24 := hA 24 (by decide)
      omega
    · exfalso
      have e24 : σ 24 = zf τ 36 0 24 := hA0 24 (by decide)
      have f24 : σ 24 = τ 24 := hA 24 (by decide)
      omega
  · rcases h8 with ⟨c8, hw, ht⟩ | ⟨c8, d8, hw, ht⟩ | ⟨c8, d8, r8⟩
    · exfalso
      have e24 : σ 24 = zf τ 36 0 24 := hA0 24 (by decide)
      have f24 : σ 24 = τ 24 := hA 24 (by decide)
      omega
    · rw [hs, ht, hk]
      exact ⟨hA.t36, zf_eq, fun h => absurd h (by decide)⟩
    · exfalso
      have e24 : σ 24 = zf τ 36 0 24 := hA0 24 (by decide)
      have f24 : σ 24 = τ 24 := hA 24 (by decide)
      have s_q : zsz σ q = zsz (zf τ 36 0) q := hA0.sz (by omega)
      omega
  · rcases h8 with ⟨c8, hw, ht⟩ | ⟨c8, d8, hw, ht⟩ | ⟨c8, d8, r8⟩
    · exfalso
      have e24 : σ 24 = zf τ 36 0 24 := hA0 24 (by decide)
      have f24 : σ 24 = τ 24 := hA 24 (by decide)
      omega
    · exfalso
      have e24 : σ 24 = zf τ 36 0 24 := hA0 24 (by decide)
      have f24 : σ 24 = τ 24 := hA 24 (by decide)
      have s_q : zsz σ q = zsz (zf τ 36 0) q := hA0.sz (by omega)
      omega
    · skip
      have e24 : σ 24 = zf τ 36 0 24 := hA0 24 (by decide)
      have f24 : σ 24 = τ 24 := hA 24 (by decide)
      have s_q : zsz σ q = zsz (zf τ 36 0) q := hA0.sz (by omega)
      obtain ⟨⟨c1, c2⟩, c3, c4, c5⟩ := r6
      obtain ⟨c81, c82⟩ := r8
      refine ⟨?_, ?_, fun _ => ?_⟩
      · rw [c5, c82]
        exact zA6.dn (zA6.fx (hA0) (by omega))
      · rw [c82, hk]
        exact (zdn_lo (by decide)).trans ((zf_ne (by decide)).trans (zf_eq))
      · omega
def zr6_change (σ : Nat → Int) (q x th y : Int) (σ' : Nat → Int) : Prop := (th = 1 ∧ (¬ (0 ≤ q ∧ q < σ 24)) ∧ σ' = σ) ∨ (th = 2 ∧ ((0 ≤ q ∧ q < σ 24) ∧ ¬ (0 ≤ x ∧ x ≤ 255)) ∧ σ' = σ) ∨ (th = 0 ∧ (0 ≤ q ∧ q < σ 24 ∧ 0 ≤ x ∧ x ≤ 255) ∧ 0 ≤ y ∧ y ≤ 255 ∧ σ' = zdn σ)
set_option maxHeartbeats 1000000 in
theorem ag_change {σ σ' τ τ' : Nat → Int} {q x th y w : Int} (hA : zA6 σ τ) (hq : -2147483648 ≤ q ∧ q ≤ 2147483647) (hx : -2147483648 ≤ x ∧ x ≤ 2147483647) (h6 : zr6_change σ q x th y σ') (h8 : (¬ (0 ≤ q ∧ q ≤ τ 24 - 1) ∧ w = 0 ∧ τ' = zf τ 36 1) ∨ ((0 ≤ q ∧ q ≤ τ 24 - 1) ∧ ¬ (0 ≤ x ∧ x ≤ 255) ∧ w = 0 ∧ τ' = zf τ 36 2) ∨ ((0 ≤ q ∧ q ≤ τ 24 - 1) ∧ (0 ≤ x ∧ x ≤ 255) ∧ (0 ≤ w ∧ w ≤ 255 ∧ τ' = zdn (zf τ 36 0)))) : zA6 σ' τ' ∧ τ' 36 = th := by
  unfold zr6_change at h6
  have hA0 : zA6 σ (zf τ 36 0) := hA.t36
  rcases h6 with ⟨hk, c6, hs⟩ | ⟨hk, c6, hs⟩ | ⟨hk, r6⟩
  · rcases h8 with ⟨c8, hw, ht⟩ | ⟨c8, d8, hw, ht⟩ | ⟨c8, d8, r8⟩
    · rw [hs, ht, hk]
      exact ⟨hA.t36, zf_eq⟩
    · exfalso
      have e24 : σ 24 = zf τ 36 0 24 := hA0 24 (by decide)
      have f24 : σ 24 = τ 24 := hA 24 (by decide)
      have e25 : σ 25 = zf τ 36 0 25 := hA0 25 (by decide)
      omega
    · exfalso
      have e24 : σ 24 = zf τ 36 0 24 := hA0 24 (by decide)
      have f24 : σ 24 = τ 24 := hA 24 (by decide)
      have e25 : σ 25 = zf τ 36 0 25 := hA0 25 (by decide)
      omega
  · rcases h8 with ⟨c8, hw, ht⟩ | ⟨c8, d8, hw, ht⟩ | ⟨c8, d8, r8⟩
    · exfalso
      have e24 : σ 24 = zf τ 36 0 24 := hA0 24 (by decide)
      have f24 : σ 24 = τ 24 := hA 24 (by decide)
      have e25 : σ 25 = zf τ 36 0 25 := hA0 25 (by decide)
      omega
    · rw [hs, ht, hk]
      exact ⟨hA.t36, zf_eq⟩
    · exfalso
      have e24 : σ 24 = zf τ 36 0 24 := hA0 24 (by decide)
      have f24 : σ 24 = τ 24 := hA 24 (by decide)
      have e25 : σ 25 = zf τ 36 0 25 := hA0 25 (by decide)
      omega
  · rcases h8 with ⟨c8, hw, ht⟩ | ⟨c8, d8, hw, ht⟩ | ⟨c8, d8, r8⟩
    · exfalso
      have e24 : σ 24 = zf τ 36 0 24 := hA0 24 (by decide)
      have f24 : σ 24 = τ 24 := hA 24 (by decide)
      have e25 : σ 25 = zf τ 36 0 25 := hA0 25 (by decide)
      omega
    · exfalso
      have e24 : σ 24 = zf τ 36 0 24 := hA0 24 (by decide)
      have f24 : σ 24 = τ 24 := hA 24 (by decide)
      have e25 : σ 25 = zf τ 36 0 25 := hA0 25 (by decide)
      omega
    · skip
      have e24 : σ 24 = zf τ 36 0 24 := hA0 24 (by decide)
      have f24 : σ 24 = τ 24 := hA 24 (by decide)
      have e25 : σ 25 = zf τ 36 0 25 := hA0 25 (by decide)
      obtain ⟨⟨c1, c2, c3, c4⟩, c5, c6, c7⟩ := r6
      obtain ⟨c81, c82, c83⟩ := r8
      refine ⟨?_, ?_⟩
      · rw [c7, c83]
        exact zA6.dn (hA0)
      · rw [c83, hk]
        exact (zdn_lo (by decide)).trans (zf_eq)
def zr6_pipe (σ : Nat → Int) (q th y : Int) (σ' : Nat → Int) : Prop := (th = 1 ∧ (¬ (1 ≤ q ∧ q ≤ 8)) ∧ σ' = σ) ∨ (th = 0 ∧ (1 ≤ q ∧ q ≤ 8) ∧ y = σ 27 ∧ σ' = zdn (zpi σ q 0 0 0))
set_option maxHeartbeats 1000000 in
theorem ag_pipe {σ σ' τ τ' : Nat → Int} {q th y w : Int} (hA : zA6 σ τ) (hq : -2147483648 ≤ q ∧ q ≤ 2147483647) (h6 : zr6_pipe σ q th y σ') (h8 : (¬ (1 ≤ q ∧ q ≤ 8) ∧ w = 0 ∧ τ' = zf τ 36 1) ∨ ((1 ≤ q ∧ q ≤ 8) ∧ ¬ (True) ∧ w = 0 ∧ τ' = zf τ 36 2) ∨ ((1 ≤ q ∧ q ≤ 8) ∧ (True) ∧ (w = τ 27 ∧ τ' = zdn (zmf (zf τ 36 0) q 0 0 0)))) : zA6 σ' τ' ∧ τ' 36 = th ∧ (th = 0 → y = w) := by
  unfold zr6_pipe at h6
  have hA0 : zA6 σ (zf τ 36 0) := hA.t36
  rcases h6 with ⟨hk, c6, hs⟩ | ⟨hk, r6⟩
  · rcases h8 with ⟨c8, hw, ht⟩ | ⟨c8, d8, hw, ht⟩ | ⟨c8, d8, r8⟩
    · rw [hs, ht, hk]
      exact ⟨hA.t36, zf_eq, fun h => absurd h (by decide)⟩
    · exact absurd trivial d8
    · exfalso
      have e27 : σ 27 = zf τ 36 0 27 := hA0 27 (by decide)
      have f27 : σ 27 = τ 27 := hA 27 (by decide)
      omega
  · rcases h8 with ⟨c8, hw, ht⟩ | ⟨c8, d8, hw, ht⟩ | ⟨c8, d8, r8⟩
    · exfalso
      omega
    · exact absurd trivial d8
    · skip
      have e27 : σ 27 = zf τ 36 0 27 := hA0 27 (by decide)
      have f27 : σ 27 = τ 27 := hA 27 (by decide)
      obtain ⟨⟨c1, c2⟩, c3, c4⟩ := r6
      obtain ⟨c81, c82⟩ := r8
      refine ⟨?_, ?_, fun _ => ?_⟩
      · rw [c4, c82]
        exact zA6.dn (zA6.pi (hA0) (by omega) (by omega) (by omega) (by omega))
      · rw [c82, hk]
        exact (zdn_lo (by decide)).trans (rfl)
      · omega
def zr6_feed (σ : Nat → Int) (x n th y : Int) (σ' : Nat → Int) : Prop := (th = 1 ∧ (¬ (0 ≤ x ∧ 0 ≤ n ∧ n ≤ 20)) ∧ σ' = σ) ∨ (th = 0 ∧ (0 ≤ x ∧ 0 ≤ n ∧ n ≤ 20) ∧ (0 ≤ y ∧ y ≤ n ∧ (y = n ∨ σ 27 + y = σ 26 ∨ σ 28 + y = 160)) ∧ σ' = zdn (zpi σ (σ 26) (σ 27 + y) (σ 28 + y) (σ 29)))
set_option maxHeartbeats 1000000 in
theorem ag_feed {σ σ' τ τ' : Nat → Int} {x n th y w : Int} (hA : zA6 σ τ) (hx : -2147483648 ≤ x ∧ x ≤ 2147483647) (hn : -2147483648 ≤ n ∧ n ≤ 2147483647) (p0 : τ 27 = τ 28 - τ 29 ∧ 0 ≤ τ 27) (p6 : 0 ≤ σ' 27 ∧ σ' 27 ≤ σ' 26 ∧ σ' 28 ≤ 160) (p8 : τ' 29 ≤ τ' 28 ∧ τ' 28 - τ' 29 ≤ τ' 26 ∧ τ' 28 ≤ 160) (h6 : zr6_feed σ x n th y σ') (h8 : (¬ (0 ≤ x ∧ 0 ≤ n ∧ n ≤ 20) ∧ w = 0 ∧ τ' = zf τ 36 1) ∨ ((0 ≤ x ∧ 0 ≤ n ∧ n ≤ 20) ∧ ¬ (True) ∧ w = 0 ∧ τ' = zf τ 36 2) ∨ ((0 ≤ x ∧ 0 ≤ n ∧ n ≤ 20) ∧ (True) ∧ (0 ≤ w ∧ w ≤ n ∧ (w = n ∨ τ 27 + w = τ 26 ∨ τ 28 + w = 160) ∧ τ' = zdn (zmf (zf τ 36 0) (τ 26) (τ 28 + w) (τ 29) 0)))) : zA6 σ' τ' ∧ τ' 36 = th ∧ (th = 0 → y = w) := by
  unfold zr6_feed at h6
  have hA0 : zA6 σ (zf τ 36 0) := hA.t36
  rcases h6 with ⟨hk, c6, hs⟩ | ⟨hk, r6⟩
  · rcases h8 with ⟨c8, hw, ht⟩ | ⟨c8, d8, hw, ht⟩ | ⟨c8, d8, r8⟩
    · rw [hs, ht, hk]
      exact ⟨hA.t36, zf_eq, fun h => absurd h (by decide)⟩
    · exact absurd trivial d8
    · exfalso
      have e26 : σ 26 = zf τ 36 0 26 := hA0 26 (by decide)
      have f26 : σ 26 = τ 26 := hA 26 (by decide)
      have e27 : σ 27 = zf τ 36 0 27 := hA0 27 (by decide)
      have f27 : σ 27 = τ 27 := hA 27 (by decide)
      have e28 : σ 28 = zf τ 36 0 28 := hA0 28 (by decide)
      have f28 : σ 28 = τ 28 := hA 28 (by decide)
      have e29 : σ 29 = zf τ 36 0 29 := hA0 29 (by decide)
      have f29 : σ 29 = τ 29 := hA 29 (by decide)
      omega
  · rcases h8 with ⟨c8, hw, ht⟩ | ⟨c8, d8, hw, ht⟩ | ⟨c8, d8, r8⟩
    · exfalso
      omega
    · exact absurd trivial d8
    · skip
      have e26 : σ 26 = zf τ 36 0 26 := hA0 26 (by decide)
      have f26 : σ 26 = τ 26 := hA 26 (by decide)
      have e27 : σ 27 = zf τ 36 0 27 := hA0 27 (by decide)
      have f27 : σ 27 = τ 27 := hA 27 (by decide)
      have e28 : σ 28 = zf τ 36 0 28 := hA0 28 (by decide)
      have f28 : σ 28 = τ 28 := hA 28 (by decide)
      have e29 : σ 29 = zf τ 36 0 29 := hA0 29 (by decide)
      have f29 : σ 29 = τ 29 := hA 29 (by decide)
      obtain ⟨⟨c1, c2, c3⟩, ⟨c4, c5, d10⟩, c9⟩ := r6
      obtain ⟨c81, c82, d87, c86⟩ := r8
      have s26 : σ' 26 = (σ 26) := by rw [c9]; exact (zdn_ne (by decide)).trans rfl
      have s27 : σ' 27 = (σ 27 + y) := by rw [c9]; exact (zdn_ne (by decide)).trans rfl
      have s28 : σ' 28 = (σ 28 + y) := by rw [c9]; exact (zdn_ne (by decide)).trans rfl
      have s29 : σ' 29 = (σ 29) := by rw [c9]; exact (zdn_ne (by decide)).trans rfl
      have t26 : τ' 26 = (τ 26) := by rw [c86]; exact (zdn_ne (by decide)).trans rfl
      have t28 : τ' 28 = (τ 28 + w) := by rw [c86]; exact (zdn_ne (by decide)).trans rfl
      have t29 : τ' 29 = (τ 29) := by rw [c86]; exact (zdn_ne (by decide)).trans rfl
      have yk : y = w := by omega
      refine ⟨?_, ?_, fun _ => ?_⟩
      · rw [c9, c86]
        exact zA6.dn (zA6.pi (hA0) (by omega) (by omega) (by omega) (by omega))
      · rw [c86, hk]
        exact (zdn_lo (by decide)).trans (rfl)
      · omega
def zr6_drain (σ : Nat → Int) (q th y : Int) (σ' : Nat → Int) : Prop := (th = 1 ∧ (¬ (0 ≤ q ∧ q ≤ 8)) ∧ σ' = σ) ∨ (th = 0 ∧ (0 ≤ q ∧ q ≤ 8) ∧ ∃ k : Int, 0 ≤ k ∧ k ≤ q ∧ (k = q ∨ k = σ 27) ∧ σ' = zdn (zpi σ (σ 26) (σ 27 - k) (σ 28) (σ 29 + k)))
set_option maxHeartbeats 1000000 in
theorem ag_drain {σ σ' τ τ' : Nat → Int} {q th y w : Int} (hA : zA6 σ τ) (hq : -2147483648 ≤ q ∧ q ≤ 2147483647) (p0 : τ 27 = τ 28 - τ 29 ∧ 0 ≤ τ 27) (p6 : 0 ≤ σ' 27 ∧ σ' 27 ≤ σ' 26 ∧ σ' 28 ≤ 160) (p8 : τ' 29 ≤ τ' 28 ∧ τ' 28 - τ' 29 ≤ τ' 26 ∧ τ' 28 ≤ 160) (h6 : zr6_drain σ q th y σ') (h8 : (¬ (0 ≤ q ∧ q ≤ 8) ∧ τ' = zf τ 36 1) ∨ ((0 ≤ q ∧ q ≤ 8) ∧ ¬ (True) ∧ τ' = zf τ 36 2) ∨ ((0 ≤ q ∧ q ≤ 8) ∧ (True) ∧ (∃ k : Int, 0 ≤ k ∧ k ≤ q ∧ (k = q ∨ k = τ 27) ∧ τ' = zdn (zmf (zf τ 36 0) (τ 26) (τ 28) (τ 29 + k) 0)))) : zA6 σ' τ' ∧ τ' 36 = th := by
  unfold zr6_drain at h6
  have hA0 : zA6 σ (zf τ 36 0) := hA.t36
  rcases h6 with ⟨hk, c6, hs⟩ | ⟨hk, r6⟩
  · rcases h8 with ⟨c8, ht⟩ | ⟨c8, d8, ht⟩ | ⟨c8, d8, r8⟩
    · rw [hs, ht, hk]
      exact ⟨hA.t36, zf_eq⟩
    · exact absurd trivial d8
    · exfalso
      have e26 : σ 26 = zf τ 36 0 26 := hA0 26 (by decide)
      have f26 : σ 26 = τ 26 := hA 26 (by decide)
      have e27 : σ 27 = zf τ 36 0 27 := hA0 27 (by decide)
      have f27 : σ 27 = τ 27 := hA 27 (by decide)
      have e28 : σ 28 = zf τ 36 0 28 := hA0 28 (by decide)
      have f28 : σ 28 = τ 28 := hA 28 (by decide)
      have e29 : σ 29 = zf τ 36 0 29 := hA0 29 (by decide)
      have f29 : σ 29 = τ 29 := hA 29 (by decide)
      omega
  · rcases h8 with ⟨c8, ht⟩ | ⟨c8, d8, ht⟩ | ⟨c8, d8, r8⟩
    · exfalso
      omega
    · exact absurd trivial d8
    · skip
      have e26 : σ 26 = zf τ 36 0 26 := hA0 26 (by decide)
      have f26 : σ 26 = τ 26 := hA 26 (by decide)
      have e27 : σ 27 = zf τ 36 0 27 := hA0 27 (by decide)
      have f27 : σ 27 = τ 27 := hA 27 (by decide)
      have e28 : σ 28 = zf τ 36 0 28 := hA0 28 (by decide)
      have f28 : σ 28 = τ 28 := hA 28 (by decide)
      have e29 : σ 29 = zf τ 36 0 29 := hA0 29 (by decide)
      have f29 : σ 29 = τ 29 := hA 29 (by decide)
      obtain ⟨⟨c1, c2⟩, ⟨kk6, ⟨c3, c4, d8, c7⟩⟩⟩ := r6
      obtain ⟨kk8, ⟨c81, c82, d86, c85⟩⟩ := r8
      have s26 : σ' 26 = (σ 26) := by rw [c7]; exact (zdn_ne (by decide)).trans rfl
      have s27 : σ' 27 = (σ 27 - kk6) := by rw [c7]; exact (zdn_ne (by decide)).trans rfl
      have s28 : σ' 28 = (σ 28) := by rw [c7]; exact (zdn_ne (by decide)).trans rfl
      have s29 : σ' 29 = (σ 29 + kk6) := by rw [c7]; exact (zdn_ne (by decide)).trans rfl
      have t26 : τ' 26 = (τ 26) := by rw [c85]; exact (zdn_ne (by decide)).trans rfl
      have t28 : τ' 28 = (τ 28) := by rw [c85]; exact (zdn_ne (by decide)).trans rfl
      have t29 : τ' 29 = (τ 29 + kk8) := by rw [c85]; exact (zdn_ne (by decide)).trans rfl
      have yk : kk6 = kk8 := by omega
      refine ⟨?_, ?_⟩
      · rw [c7, c85]
        exact zA6.dn (zA6.pi (hA0) (by omega) (by omega) (by omega) (by omega))
      · rw [c85, hk]
        exact (zdn_lo (by decide)).trans (rfl)
def zr6_pump (σ : Nat → Int) (q a b th y : Int) (σ' : Nat → Int) : Prop := (th = 1 ∧ (¬ (0 ≤ q ∧ q ≤ 7)) ∧ σ' = σ) ∨ (th = 2 ∧ ((0 ≤ q ∧ q ≤ 7) ∧ ¬ (1 ≤ a ∧ a ≤ 8 ∧ 1 ≤ b ∧ b ≤ 8)) ∧ σ' = σ) ∨ (th = 3 ∧ ((0 ≤ q ∧ q ≤ 7 ∧ 1 ≤ a ∧ a ≤ 8 ∧ 1 ≤ b ∧ b ≤ 8) ∧ ¬ (σ 28 + zsz σ q ≤ 160)) ∧ σ' = σ) ∨ (th = 0 ∧ (0 ≤ q ∧ q ≤ 7 ∧ 1 ≤ a ∧ a ≤ 8 ∧ 1 ≤ b ∧ b ≤ 8) ∧ σ 28 + zsz σ q ≤ 160 ∧ (∀ j, ¬ (26 ≤ j ∧ j ≤ 29) → j ≠ 30 → j ≠ 33 → σ' j = σ j) ∧ σ' 26 = σ 26 ∧ σ' 30 = σ 30 + 1 ∧ (σ' 27, σ' 28, σ' 29, σ' 33) = zpm a b (σ 26) (zsz σ q) (zsz σ q + σ 27).toNat 0 (σ 27) (σ 28) (σ 29) (σ 33))
def zr6_left (σ : Nat → Int) (q z th y : Int) (σ' : Nat → Int) : Prop := (th = 1 ∧ (¬ (0 ≤ q ∧ q < 6)) ∧ σ' = σ) ∨ (th = 2 ∧ ((0 ≤ q ∧ q < 6) ∧ ¬ (0 ≤ z ∧ z ≤ 1)) ∧ σ' = σ) ∨ (th = 0 ∧ (0 ≤ q ∧ q < 6 ∧ 0 ≤ z ∧ z ≤ 1) ∧ y = σ (4 * q.toNat + 1) - σ (4 * q.toNat + 2) ∧ σ' = σ)
set_option maxHeartbeats 1000000 in
theorem ag_left {σ σ' τ τ' : Nat → Int} {q z th y w : Int} (hA : zA6 σ τ) (hq : -2147483648 ≤ q ∧ q ≤ 2147483647) (hz : -2147483648 ≤ z ∧ z ≤ 2147483647) (h6 : zr6_left σ q z th y σ') (h8 : (¬ (0 ≤ q ∧ q ≤ 5) ∧ w = 0 ∧ τ' = zf τ 36 1) ∨ ((0 ≤ q ∧ q ≤ 5) ∧ ¬ (0 ≤ z ∧ z ≤ 1) ∧ w = 0 ∧ τ' = zf τ 36 2) ∨ ((0 ≤ q ∧ q ≤ 5) ∧ (0 ≤ z ∧ z ≤ 1) ∧ (w = (zf τ 36 0) (4 * q.toNat + 1) - (zf τ 36 0) (4 * q.toNat + 2) ∧ τ' = (zf τ 36 0)))) : zA6 σ' τ' ∧ τ' 36 = th ∧ (th = 0 → y = w) := by
  unfold zr6_left at h6
  have hA0 : zA6 σ (zf τ 36 0) := hA.t36
  rcases h6 with ⟨hk, c6, hs⟩ | ⟨hk, c6, hs⟩ | ⟨hk, r6⟩
  · rcases h8 with ⟨c8, hw, ht⟩ | ⟨c8, d8, hw, ht⟩ | ⟨c8, d8, r8⟩
    · rw [hs, ht, hk]
      exact ⟨hA.t36, zf_eq, fun h => absurd h (by decide)⟩
    · exfalso
      omega
    · exfalso
      omega
  · rcases h8 with ⟨c8, hw, ht⟩ | ⟨c8, d8, hw, ht⟩ | ⟨c8, d8, r8⟩
    · exfalso
      omega
    · rw [hs, ht, hk]
      exact ⟨hA.t36, zf_eq, fun h => absurd h (by decide)⟩
    · exfalso
      have e_q1 : σ (4 * q.toNat + 1) = zf τ 36 0 (4 * q.toNat + 1) := hA0.at1 (by omega) (by decide)
      have e_q2 : σ (4 * q.toNat + 2) = zf τ 36 0 (4 * q.toNat + 2) := hA0.at1 (by omega) (by decide)
      omega
  · rcases h8 with ⟨c8, hw, ht⟩ | ⟨c8, d8, hw, ht⟩ | ⟨c8, d8, r8⟩
    · exfalso
      omega
    · exfalso
      have e_q1 : σ (4 * q.toNat + 1) = zf τ 36 0 (4 * q.toNat + 1) := hA0.at1 (by omega) (by decide)
      have e_q2 : σ (4 * q.toNat + 2) = zf τ 36 0 (4 * q.toNat + 2) := hA0.at1 (by omega) (by decide)
      omega
    · skip
      have e_q1 : σ (4 * q.toNat + 1) = zf τ 36 0 (4 * q.toNat + 1) := hA0.at1 (by omega) (by decide)
      have e_q2 : σ (4 * q.toNat + 2) = zf τ 36 0 (4 * q.toNat + 2) := hA0.at1 (by omega) (by decide)
      obtain ⟨⟨c1, c2, c3, c4⟩, c5, c6⟩ := r6
      obtain ⟨c81, c82⟩ := r8
      refine ⟨?_, ?_, fun _ => ?_⟩
      · rw [c6, c82]
        exact hA0
      · rw [c82, hk]
        exact zf_eq
      · omega
def zr6_position (σ : Nat → Int) (q th y : Int) (σ' : Nat → Int) : Prop := (th = 1 ∧ (¬ (0 ≤ q ∧ q < 6)) ∧ σ' = σ) ∨ (th = 0 ∧ (0 ≤ q ∧ q < 6) ∧ y = σ (4 * q.toNat + 2) ∧ σ' = σ)
set_option maxHeartbeats 1000000 in
theorem ag_position {σ σ' τ τ' : Nat → Int} {q th y w : Int} (hA : zA6 σ τ) (hq : -2147483648 ≤ q ∧ q ≤ 2147483647) (h6 : zr6_position σ q th y σ') (h8 : (¬ (0 ≤ q ∧ q ≤ 5) ∧ w = 0 ∧ τ' = zf τ 36 1) ∨ ((0 ≤ q ∧ q ≤ 5) ∧ ¬ (True) ∧ w = 0 ∧ τ' = zf τ 36 2) ∨ ((0 ≤ q ∧ q ≤ 5) ∧ (True) ∧ (w = (zf τ 36 0) (4 * q.toNat + 2) ∧ τ' = (zf τ 36 0)))) : zA6 σ' τ' ∧ τ' 36 = th ∧ (th = 0 → y = w) := by
  unfold zr6_position at h6
  have hA0 : zA6 σ (zf τ 36 0) := hA.t36
  rcases h6 with ⟨hk, c6, hs⟩ | ⟨hk, r6⟩
  · rcases h8 with ⟨c8, hw, ht⟩ | ⟨c8, d8, hw, ht⟩ | ⟨c8, d8, r8⟩
    · rw [hs, ht, hk]
      exact ⟨hA.t36, zf_eq, fun h => absurd h (by decide)⟩
    · exact absurd trivial d8
    · exfalso
      omega
  · rcases h8 with ⟨c8, hw, ht⟩ | ⟨c8, d8, hw, ht⟩ | ⟨c8, d8, r8⟩
    · exfalso
      omega
    · exact absurd trivial d8
    · skip
      have e_q2 : σ (4 * q.toNat + 2) = zf τ 36 0 (4 * q.toNat + 2) := hA0.at1 (by omega) (by decide)
      obtain ⟨⟨c1, c2⟩, c3, c4⟩ := r6
      obtain ⟨c81, c82⟩ := r8
      refine ⟨?_, ?_, fun _ => ?_⟩
      · rw [c4, c82]
        exact hA0
      · rw [c82, hk]
        exact zf_eq
      · omega
def zr6_limit (σ : Nat → Int) (q th y : Int) (σ' : Nat → Int) : Prop := (th = 1 ∧ (¬ (0 ≤ q ∧ q < 6)) ∧ σ' = σ) ∨ (th = 0 ∧ (0 ≤ q ∧ q < 6) ∧ y = σ (4 * q.toNat + 1) ∧ σ' = σ)
set_option maxHeartbeats 1000000 in
theorem ag_limit {σ σ' τ τ' : Nat → Int} {q th y w : Int} (hA : zA6 σ τ) (hq : -2147483648 ≤ q ∧ q ≤ 2147483647) (h6 : zr6_limit σ q th y σ') (h8 : (¬ (0 ≤ q ∧ q ≤ 5) ∧ w = 0 ∧ τ' = zf τ 36 1) ∨ ((0 ≤ q ∧ q ≤ 5) ∧ ¬ (True) ∧ w = 0 ∧ τ' = zf τ 36 2) ∨ ((0 ≤ q ∧ q ≤ 5) ∧ (True) ∧ (w = (zf τ 36 0) (4 * q.toNat + 1) ∧ τ' = (zf τ 36 0)))) : zA6 σ' τ' ∧ τ' 36 = th ∧ (th = 0 → y = w) := by
  unfold zr6_limit at h6
  have hA0 : zA6 σ (zf τ 36 0) := hA.t36
  rcases h6 with ⟨hk, c6, hs⟩ | ⟨hk, r6⟩
  · rcases h8 with ⟨c8, hw, ht⟩ | ⟨c8, d8, hw, ht⟩ | ⟨c8, d8, r8⟩
    · rw [hs, ht, hk]
      exact ⟨hA.t36, zf_eq, fun h => absurd h (by decide)⟩
    · exact absurd trivial d8
    · exfalso
      omega
  · rcases h8 with ⟨c8, hw, ht⟩ | ⟨c8, d8, hw, ht⟩ | ⟨c8, d8, r8⟩
    · exfalso
      omega
    · exact absurd trivial d8
    · skip
      have e_q1 : σ (4 * q.toNat + 1) = zf τ 36 0 (4 * q.toNat + 1) := hA0.at1 (by omega) (by decide)
      obtain ⟨⟨c1, c2⟩, c3, c4⟩ := r6
      obtain ⟨c81, c82⟩ := r8
      refine ⟨?_, ?_, fun _ => ?_⟩
      · rw [c4, c82]
        exact hA0
      · rw [c82, hk]
        exact zf_eq
      · omega
def zr6_capacity (σ : Nat → Int) (q th y : Int) (σ' : Nat → Int) : Prop := (th = 1 ∧ (¬ (0 ≤ q ∧ q < 6)) ∧ σ' = σ) ∨ (th = 0 ∧ (0 ≤ q ∧ q < 6) ∧ y = σ (4 * q.toNat) ∧ σ' = σ)
set_option maxHeartbeats 1000000 in
theorem ag_capacity {σ σ' τ τ' : Nat → Int} {q th y w : Int} (hA : zA6 σ τ) (hq : -2147483648 ≤ q ∧ q ≤ 2147483647) (h6 : zr6_capacity σ q th y σ') (h8 : (¬ (0 ≤ q ∧ q ≤ 5) ∧ w = 0 ∧ τ' = zf τ 36 1) ∨ ((0 ≤ q ∧ q ≤ 5) ∧ ¬ (True) ∧ w = 0 ∧ τ' = zf τ 36 2) ∨ ((0 ≤ q ∧ q ≤ 5) ∧ (True) ∧ (w = (zf τ 36 0) (4 * q.toNat) ∧ τ' = (zf τ 36 0)))) : zA6 σ' τ' ∧ τ' 36 = th ∧ (th = 0 → y = w) := by
  unfold zr6_capacity at h6
  have hA0 : zA6 σ (zf τ 36 0) := hA.t36
  rcases h6 with ⟨hk, c6, hs⟩ | ⟨hk, r6⟩
  · rcases h8 with ⟨c8, hw, ht⟩ | ⟨c8, d8, hw, ht⟩ | ⟨c8, d8, r8⟩
    · rw [hs, ht, hk]
      exact ⟨hA.t36, zf_eq, fun h => absurd h (by decide)⟩
    · exact absurd trivial d8
    · exfalso
      omega
  · rcases h8 with ⟨c8, hw, ht⟩ | ⟨c8, d8, hw, ht⟩ | ⟨c8, d8, r8⟩
    · exfalso
      omega
    · exact absurd trivial d8
    · skip
      have e_q : σ (4 * q.toNat) = zf τ 36 0 (4 * q.toNat) := hA0.at0 (by omega)
      obtain ⟨⟨c1, c2⟩, c3, c4⟩ := r6
      obtain ⟨c81, c82⟩ := r8
      refine ⟨?_, ?_, fun _ => ?_⟩
      · rw [c4, c82]
        exact hA0
      · rw [c82, hk]
        exact zf_eq
      · omega
def zr6_marked (σ : Nat → Int) (q th y : Int) (σ' : Nat → Int) : Prop := (th = 1 ∧ (¬ (0 ≤ q ∧ q < 6)) ∧ σ' = σ) ∨ (th = 0 ∧ (0 ≤ q ∧ q < 6) ∧ y = σ (4 * q.toNat + 3) ∧ σ' = σ)
set_option maxHeartbeats 1000000 in
theorem ag_marked {σ σ' τ τ' : Nat → Int} {q th y w : Int} (hA : zA6 σ τ) (hq : -2147483648 ≤ q ∧ q ≤ 2147483647) (h6 : zr6_marked σ q th y σ') (h8 : (¬ (0 ≤ q ∧ q ≤ 5) ∧ w = 0 ∧ τ' = zf τ 36 1) ∨ ((0 ≤ q ∧ q ≤ 5) ∧ ¬ (True) ∧ w = 0 ∧ τ' = zf τ 36 2) ∨ ((0 ≤ q ∧ q ≤ 5) ∧ (True) ∧ (w = (zf τ 36 0) (4 * q.toNat + 3) ∧ τ' = (zf τ 36 0)))) : zA6 σ' τ' ∧ τ' 36 = th ∧ (th = 0 → y = w) := by
  unfold zr6_marked at h6
  have hA0 : zA6 σ (zf τ 36 0) := hA.t36
  rcases h6 with ⟨hk, c6, hs⟩ | ⟨hk, r6⟩
  · rcases h8 with ⟨c8, hw, ht⟩ | ⟨c8, d8, hw, ht⟩ | ⟨c8, d8, r8⟩
    · rw [hs, ht, hk]
      exact ⟨hA.t36, zf_eq, fun h => absurd h (by decide)⟩
    · exact absurd trivial d8
    · exfalso
      omega
  · rcases h8 with ⟨c8, hw, ht⟩ | ⟨c8, d8, hw, ht⟩ | ⟨c8, d8, r8⟩
    · exfalso
      omega
    · exact absurd trivial d8
    · skip
      have e_q3 : σ (4 * q.toNat + 3) = zf τ 36 0 (4 * q.toNat + 3) := hA0.at1 (by omega) (by decide)
      obtain ⟨⟨c1, c2⟩, c3, c4⟩ := r6
      obtain ⟨c81, c82⟩ := r8
      refine ⟨?_, ?_, fun _ => ?_⟩
      · rw [c4, c82]
        exact hA0
      · rw [c82, hk]
        exact zf_eq
      · omega
def zr6_sign (σ : Nat → Int) (q z th y : Int) (σ' : Nat → Int) : Prop := (th = 1 ∧ (¬ (0 ≤ q ∧ q < 6)) ∧ σ' = σ) ∨ (th = 0 ∧ (0 ≤ q ∧ q < 6) ∧ -9 ≤ y ∧ y ≤ 255 ∧ σ' = σ)
set_option maxHeartbeats 1000000 in
theorem ag_sign {σ σ' τ τ' : Nat → Int} {q z th y w : Int} (hA : zA6 σ τ) (hq : -2147483648 ≤ q ∧ q ≤ 2147483647) (hz : -2147483648 ≤ z ∧ z ≤ 2147483647) (h6 : zr6_sign σ q z th y σ') (h8 : (¬ (0 ≤ q ∧ q ≤ 5) ∧ w = 0 ∧ τ' = zf τ 36 1) ∨ ((0 ≤ q ∧ q ≤ 5) ∧ ¬ (True) ∧ w = 0 ∧ τ' = zf τ 36 2) ∨ ((0 ≤ q ∧ q ≤ 5) ∧ (True) ∧ (-9 ≤ w ∧ w ≤ 255 ∧ τ' = (zf τ 36 0)))) : zA6 σ' τ' ∧ τ' 36 = th := by
  unfold zr6_sign at h6
  have hA0 : zA6 σ (zf τ 36 0) := hA.t36
  rcases h6 with ⟨hk, c6, hs⟩ | ⟨hk, r6⟩
  · rcases h8 with ⟨c8, hw, ht⟩ | ⟨c8, d8, hw, ht⟩ | ⟨c8, d8, r8⟩
    · rw [hs, ht, hk]
      exact ⟨hA.t36, zf_eq⟩
    · exact absurd trivial d8
    · exfalso
      have e25 : σ 25 = zf τ 36 0 25 := hA0 25 (by decide)
      omega
  · rcases h8 with ⟨c8, hw, ht⟩ | ⟨c8, d8, hw, ht⟩ | ⟨c8, d8, r8⟩
    · exfalso
      have e25 : σ 25 = zf τ 36 0 25 := hA0 25 (by decide)
      omega
    · exact absurd trivial d8
    · skip
      have e25 : σ 25 = zf τ 36 0 25 := hA0 25 (by decide)
      obtain ⟨⟨c1, c2⟩, c3, c4, c5⟩ := r6
      obtain ⟨c81, c82, c83⟩ := r8
      refine ⟨?_, ?_⟩
      · rw [c5, c83]
        exact hA0
      · rw [c83, hk]
        exact zf_eq
def zr6_look (σ : Nat → Int) (q z th y : Int) (σ' : Nat → Int) : Prop := (th = 1 ∧ (¬ (0 ≤ q ∧ q < 6)) ∧ σ' = σ) ∨ (th = 0 ∧ (0 ≤ q ∧ q < 6) ∧ -9 ≤ y ∧ y ≤ 255 ∧ σ' = σ)
set_option maxHeartbeats 1000000 in
theorem ag_look {σ σ' τ τ' : Nat → Int} {q z th y w : Int} (hA : zA6 σ τ) (hq : -2147483648 ≤ q ∧ q ≤ 2147483647) (hz : -2147483648 ≤ z ∧ z ≤ 2147483647) (h6 : zr6_look σ q z th y σ') (h8 : (¬ (0 ≤ q ∧ q ≤ 5) ∧ w = 0 ∧ τ' = zf τ 36 1) ∨ ((0 ≤ q ∧ q ≤ 5) ∧ ¬ (True) ∧ w = 0 ∧ τ' = zf τ 36 2) ∨ ((0 ≤ q ∧ q ≤ 5) ∧ (True) ∧ (-9 ≤ w ∧ w ≤ 255 ∧ τ' = (zf τ 36 0)))) : zA6 σ' τ' ∧ τ' 36 = th := by
  unfold zr6_look at h6
  have hA0 : zA6 σ (zf τ 36 0) := hA.t36
  rcases h6 with ⟨hk, c6, hs⟩ | ⟨hk, r6⟩
  · rcases h8 with ⟨c8, hw, ht⟩ | ⟨c8, d8, hw, ht⟩ | ⟨c8, d8, r8⟩
    · rw [hs, ht, hk]
      exact ⟨hA.t36, zf_eq⟩
    · exact absurd trivial d8
    · exfalso
      have e25 : σ 25 = zf τ 36 0 25 := hA0 25 (by decide)
      omega
  · rcases h8 with ⟨c8, hw, ht⟩ | ⟨c8, d8, hw, ht⟩ | ⟨c8, d8, r8⟩
    · exfalso
      have e25 : σ 25 = zf τ 36 0 25 := hA0 25 (by decide)
      omega
    · exact absurd trivial d8
    · skip
      have e25 : σ 25 = zf τ 36 0 25 := hA0 25 (by decide)
      obtain ⟨⟨c1, c2⟩, c3, c4, c5⟩ := r6
      obtain ⟨c81, c82, c83⟩ := r8
      refine ⟨?_, ?_⟩
      · rw [c5, c83]
        exact hA0
      · rw [c83, hk]
        exact zf_eq
def zr6_text (σ : Nat → Int) (q how th y : Int) (σ' : Nat → Int) : Prop := (th = 1 ∧ (¬ (0 ≤ q ∧ q < 6)) ∧ σ' = σ) ∨ (th = 2 ∧ ((0 ≤ q ∧ q < 6) ∧ ¬ (0 ≤ how ∧ how ≤ 3)) ∧ σ' = σ) ∨ (th = 0 ∧ (0 ≤ q ∧ q < 6 ∧ 0 ≤ how ∧ how ≤ 3) ∧ σ' = σ)
set_option maxHeartbeats 1000000 in
theorem ag_text {σ σ' τ τ' : Nat → Int} {q how th y w : Int} (hA : zA6 σ τ) (hq : -2147483648 ≤ q ∧ q ≤ 2147483647) (hh : -2147483648 ≤ how ∧ how ≤ 2147483647) (h6 : zr6_text σ q how th y σ') (h8 : (¬ (0 ≤ q ∧ q ≤ 5) ∧ τ' = zf τ 36 1) ∨ ((0 ≤ q ∧ q ≤ 5) ∧ ¬ (0 ≤ how ∧ how ≤ 3) ∧ τ' = zf τ 36 2) ∨ ((0 ≤ q ∧ q ≤ 5) ∧ (0 ≤ how ∧ how ≤ 3) ∧ (τ' = (zf τ 36 0)))) : zA6 σ' τ' ∧ τ' 36 = th := by
  unfold zr6_text at h6
  have hA0 : zA6 σ (zf τ 36 0) := hA.t36
  rcases h6 with ⟨hk, c6, hs⟩ | ⟨hk, c6, hs⟩ | ⟨hk, r6⟩
  · rcases h8 with ⟨c8, ht⟩ | ⟨c8, d8, ht⟩ | ⟨c8, d8, r8⟩
    · rw [hs, ht, hk]
      exact ⟨hA.t36, zf_eq⟩
    · exfalso
      omega
    · exfalso
      omega
  · rcases h8 with ⟨c8, ht⟩ | ⟨c8, d8, ht⟩ | ⟨c8, d8, r8⟩
    · exfalso
      omega
    · rw [hs, ht, hk]
      exact ⟨hA.t36, zf_eq⟩
    · exfalso
      omega
  · rcases h8 with ⟨c8, ht⟩ | ⟨c8, d8, ht⟩ | ⟨c8, d8, r8⟩
    · exfalso
      omega
    · exfalso
      omega
    · skip
      obtain ⟨⟨c1, c2, c3, c4⟩, c5⟩ := r6
      have c81 := r8
      refine ⟨?_, ?_⟩
      · rw [c5, c81]
        exact hA0
      · rw [c81, hk]
        exact zf_eq
def zr6_inner (σ : Nat → Int) (q a b c e how th y : Int) (σ' : Nat → Int) : Prop := (th = 1 ∧ (¬ (0 ≤ q ∧ q < 6)) ∧ σ' = σ) ∨ (th = 2 ∧ ((0 ≤ q ∧ q < 6) ∧ ¬ (0 ≤ a ∧ a ≤ b ∧ b ≤ σ (4 * q.toNat + 1) - σ (4 * q.toNat + 2) ∧ 0 ≤ c ∧ c ≤ e ∧ e ≤ b - a ∧ 0 ≤ how ∧ how ≤ 2)) ∧ σ' = σ) ∨ (th = 0 ∧ (0 ≤ q ∧ q < 6) ∧ (0 ≤ a ∧ a ≤ b ∧ b ≤ σ (4 * q.toNat + 1) - σ (4 * q.toNat + 2) ∧ 0 ≤ c ∧ c ≤ e ∧ e ≤ b - a ∧ 0 ≤ how ∧ how ≤ 2) ∧ σ' = σ)
set_option maxHeartbeats 1000000 in
theorem ag_inner {σ σ' τ τ' : Nat → Int} {q a b c e how th y w : Int} (hA : zA6 σ τ) (hq : -2147483648 ≤ q ∧ q ≤ 2147483647) (ha : -2147483648 ≤ a ∧ a ≤ 2147483647) (hb : -2147483648 ≤ b ∧ b ≤ 2147483647) (hc : -2147483648 ≤ c ∧ c ≤ 2147483647) (he : -2147483648 ≤ e ∧ e ≤ 2147483647) (hh : -2147483648 ≤ how ∧ how ≤ 2147483647) (h6 : zr6_inner σ q a b c e how th y σ') (h8 : (¬ (0 ≤ q ∧ q ≤ 5) ∧ τ' = zf τ 36 1) ∨ ((0 ≤ q ∧ q ≤ 5) ∧ ¬ (0 ≤ a ∧ a ≤ b ∧ b ≤ (zf τ 36 0) (4 * q.toNat + 1) - (zf τ 36 0) (4 * q.toNat + 2) ∧ 0 ≤ c ∧ c ≤ e ∧ e ≤ b - a ∧ 0 ≤ how ∧ how ≤ 2) ∧ τ' = zf τ 36 2) ∨ ((0 ≤ q ∧ q ≤ 5) ∧ (0 ≤ a ∧ a ≤ b ∧ b ≤ (zf τ 36 0) (4 * q.toNat + 1) - (zf τ 36 0) (4 * q.toNat + 2) ∧ 0 ≤ c ∧ c ≤ e ∧ e ≤ b - a ∧ 0 ≤ how ∧ how ≤ 2) ∧ (τ' = (zf τ 36 0)))) : zA6 σ' τ' ∧ τ' 36 = th := by
  unfold zr6_inner at h6
  have hA0 : zA6 σ (zf τ 36 0) := hA.t36
  rcases h6 with ⟨hk, c6, hs⟩ | ⟨hk, c6, hs⟩ | ⟨hk, r6⟩
  · rcases h8 with ⟨c8, ht⟩ | ⟨c8, d8, ht⟩ | ⟨c8, d8, r8⟩
    · rw [hs, ht, hk]
      exact ⟨hA.t36, zf_eq⟩
    · exfalso
      omega
    · exfalso
      omega
  · rcases h8 with ⟨c8, ht⟩ | ⟨c8, d8, ht⟩ | ⟨c8, d8, r8⟩
    · exfalso
      omega
    · rw [hs, ht, hk]
      exact ⟨hA.t36, zf_eq⟩
    · exfalso
      have e_q1 : σ (4 * q.toNat + 1) = zf τ 36 0 (4 * q.toNat + 1) := hA0.at1 (by omega) (by decide)
      have e_q2 : σ (4 * q.toNat + 2) = zf τ 36 0 (4 * q.toNat + 2) := hA0.at1 (by omega) (by decide)
      omega
  · rcases h8 with ⟨c8, ht⟩ | ⟨c8, d8, ht⟩ | ⟨c8, d8, r8⟩
    · exfalso
      omega
    · exfalso
      have e_q1 : σ (4 * q.toNat + 1) = zf τ 36 0 (4 * q.toNat + 1) := hA0.at1 (by omega) (by decide)
      have e_q2 : σ (4 * q.toNat + 2) = zf τ 36 0 (4 * q.toNat + 2) := hA0.at1 (by omega) (by decide)
      omega
    · skip
      have e_q1 : σ (4 * q.toNat + 1) = zf τ 36 0 (4 * q.toNat + 1) := hA0.at1 (by omega) (by decide)
      have e_q2 : σ (4 * q.toNat + 2) = zf τ 36 0 (4 * q.toNat + 2) := hA0.at1 (by omega) (by decide)
      obtain ⟨⟨c1, c2⟩, ⟨c3, c4, c5, c6, c7, c8, c9, c10⟩, c11⟩ := r6
      have c81 := r8
      refine ⟨?_, ?_⟩
      · rw [c11, c81]
        exact hA0
      · rw [c81, hk]
        exact zf_eq
def zr6_first (σ : Nat → Int) (q q2 th y : Int) (σ' : Nat → Int) : Prop := (th = 1 ∧ (¬ (0 ≤ q ∧ q ≤ 7 ∧ 0 ≤ q2 ∧ q2 ≤ 7)) ∧ σ' = σ) ∨ (th = 0 ∧ (0 ≤ q ∧ q ≤ 7 ∧ 0 ≤ q2 ∧ q2 ≤ 7) ∧ σ' = σ)
set_option maxHeartbeats 1000000 in
theorem ag_first {σ σ' τ τ' : Nat → Int} {q q2 th y w : Int} (hA : zA6 σ τ) (hq : -2147483648 ≤ q ∧ q ≤ 2147483647) (hq2 : -2147483648 ≤ q2 ∧ q2 ≤ 2147483647) (h6 : zr6_first σ q q2 th y σ') (h8 : (¬ ((0 ≤ q ∧ q ≤ 7) ∧ (0 ≤ q2 ∧ q2 ≤ 7)) ∧ w = 0 ∧ τ' = zf τ 36 1) ∨ (((0 ≤ q ∧ q ≤ 7) ∧ (0 ≤ q2 ∧ q2 ≤ 7)) ∧ ¬ (True) ∧ w = 0 ∧ τ' = zf τ 36 2) ∨ (((0 ≤ q ∧ q ≤ 7) ∧ (0 ≤ q2 ∧ q2 ≤ 7)) ∧ (True) ∧ (τ' = (zf τ 36 0)))) : zA6 σ' τ' ∧ τ' 36 = th := by
  unfold zr6_first at h6
  have hA0 : zA6 σ (zf τ 36 0) := hA.t36
  rcases h6 with ⟨hk, c6, hs⟩ | ⟨hk, r6⟩
  · rcases h8 with ⟨c8, hw, ht⟩ | ⟨c8, d8, hw, ht⟩ | ⟨c8, d8, r8⟩
    · rw [hs, ht, hk]
      exact ⟨hA.t36, zf_eq⟩
    · exact absurd trivial d8
    · exfalso
      omega
  · rcases h8 with ⟨c8, hw, ht⟩ | ⟨c8, d8, hw, ht⟩ | ⟨c8, d8, r8⟩
    · exfalso
      omega
    · exact absurd trivial d8
    · skip
      obtain ⟨⟨c1, c2, c3, c4⟩, c5⟩ := r6
      have c81 := r8
      refine ⟨?_, ?_⟩
      · rw [c5, c81]
        exact hA0
      · rw [c81, hk]
        exact zf_eq
def zr6_last (σ : Nat → Int) (q q2 th y : Int) (σ' : Nat → Int) : Prop := (th = 1 ∧ (¬ (0 ≤ q ∧ q ≤ 7 ∧ 0 ≤ q2 ∧ q2 ≤ 7)) ∧ σ' = σ) ∨ (th = 0 ∧ (0 ≤ q ∧ q ≤ 7 ∧ 0 ≤ q2 ∧ q2 ≤ 7) ∧ σ' = σ)
set_option maxHeartbeats 1000000 in
theorem ag_last {σ σ' τ τ' : Nat → Int} {q q2 th y w : Int} (hA : zA6 σ τ) (hq : -2147483648 ≤ q ∧ q ≤ 2147483647) (hq2 : -2147483648 ≤ q2 ∧ q2 ≤ 2147483647) (h6 : zr6_last σ q q2 th y σ') (h8 : (¬ ((0 ≤ q ∧ q ≤ 7) ∧ (0 ≤ q2 ∧ q2 ≤ 7)) ∧ w = 0 ∧ τ' = zf τ 36 1) ∨ (((0 ≤ q ∧ q ≤ 7) ∧ (0 ≤ q2 ∧ q2 ≤ 7)) ∧ ¬ (True) ∧ w = 0 ∧ τ' = zf τ 36 2) ∨ (((0 ≤ q ∧ q ≤ 7) ∧ (0 ≤ q2 ∧ q2 ≤ 7)) ∧ (True) ∧ (τ' = (zf τ 36 0)))) : zA6 σ' τ' ∧ τ' 36 = th := by
  unfold zr6_last at h6
  have hA0 : zA6 σ (zf τ 36 0) := hA.t36
  rcases h6 with ⟨hk, c6, hs⟩ | ⟨hk, r6⟩
  · rcases h8 with ⟨c8, hw, ht⟩ | ⟨c8, d8, hw, ht⟩ | ⟨c8, d8, r8⟩
    · rw [hs, ht, hk]
      exact ⟨hA.t36, zf_eq⟩
    · exact absurd trivial d8
    · exfalso
      omega
  · rcases h8 with ⟨c8, hw, ht⟩ | ⟨c8, d8, hw, ht⟩ | ⟨c8, d8, r8⟩
    · exfalso
      omega
    · exact absurd trivial d8
    · skip
      obtain ⟨⟨c1, c2, c3, c4⟩, c5⟩ := r6
      have c81 := r8
      refine ⟨?_, ?_⟩
      · rw [c5, c81]
        exact hA0
      · rw [c81, hk]
        exact zf_eq
def zr6_count (σ : Nat → Int) (q q2 th y : Int) (σ' : Nat → Int) : Prop := (th = 1 ∧ (¬ (0 ≤ q ∧ q ≤ 7 ∧ 0 ≤ q2 ∧ q2 ≤ 7)) ∧ σ' = σ) ∨ (th = 0 ∧ (0 ≤ q ∧ q ≤ 7 ∧ 0 ≤ q2 ∧ q2 ≤ 7) ∧ σ' = σ)
set_option maxHeartbeats 1000000 in
theorem ag_count {σ σ' τ τ' : Nat → Int} {q q2 th y w : Int} (hA : zA6 σ τ) (hq : -2147483648 ≤ q ∧ q ≤ 2147483647) (hq2 : -2147483648 ≤ q2 ∧ q2 ≤ 2147483647) (h6 : zr6_count σ q q2 th y σ') (h8 : (¬ ((0 ≤ q ∧ q ≤ 7) ∧ (0 ≤ q2 ∧ q2 ≤ 7)) ∧ w = 0 ∧ τ' = zf τ 36 1) ∨ (((0 ≤ q ∧ q ≤ 7) ∧ (0 ≤ q2 ∧ q2 ≤ 7)) ∧ ¬ (True) ∧ w = 0 ∧ τ' = zf τ 36 2) ∨ (((0 ≤ q ∧ q ≤ 7) ∧ (0 ≤ q2 ∧ q2 ≤ 7)) ∧ (True) ∧ (τ' = (zf τ 36 0)))) : zA6 σ' τ' ∧ τ' 36 = th := by
  unfold zr6_count at h6
  have hA0 : zA6 σ (zf τ 36 0) := hA.t36
  rcases h6 with ⟨hk, c6, hs⟩ | ⟨hk, r6⟩
  · rcases h8 with ⟨c8, hw, ht⟩ | ⟨c8, d8, hw, ht⟩ | ⟨c8, d8, r8⟩
    · rw [hs, ht, hk]
      exact ⟨hA.t36, zf_eq⟩
    · exact absurd trivial d8
    · exfalso
      omega
  · rcases h8 with ⟨c8, hw, ht⟩ | ⟨c8, d8, hw, ht⟩ | ⟨c8, d8, r8⟩
    · exfalso
      omega
    · exact absurd trivial d8
    · skip
      obtain ⟨⟨c1, c2, c3, c4⟩, c5⟩ := r6
      have c81 := r8
      refine ⟨?_, ?_⟩
      · rw [c5, c81]
        exact hA0
      · rw [c81, hk]
        exact zf_eq
def zr6_place (σ : Nat → Int) (q q2 z th y : Int) (σ' : Nat → Int) : Prop := (th = 1 ∧ (¬ (0 ≤ q ∧ q ≤ 7 ∧ 0 ≤ q2 ∧ q2 ≤ 7)) ∧ σ' = σ) ∨ (th = 2 ∧ ((0 ≤ q ∧ q ≤ 7 ∧ 0 ≤ q2 ∧ q2 ≤ 7) ∧ ¬ (0 ≤ z ∧ z ≤ 80)) ∧ σ' = σ) ∨ (th = 0 ∧ ((0 ≤ q ∧ q ≤ 7 ∧ 0 ≤ q2 ∧ q2 ≤ 7) ∧ 0 ≤ z ∧ z ≤ 80) ∧ σ' = σ)
set_option maxHeartbeats 1000000 in
theorem ag_place {σ σ' τ τ' : Nat → Int} {q q2 z th y w : Int} (hA : zA6 σ τ) (hq : -2147483648 ≤ q ∧ q ≤ 2147483647) (hq2 : -2147483648 ≤ q2 ∧ q2 ≤ 2147483647) (hz : -2147483648 ≤ z ∧ z ≤ 2147483647) (h6 : zr6_place σ q q2 z th y σ') (h8 : (¬ ((0 ≤ q ∧ q ≤ 7) ∧ (0 ≤ q2 ∧ q2 ≤ 7)) ∧ w = 0 ∧ τ' = zf τ 36 1) ∨ (((0 ≤ q ∧ q ≤ 7) ∧ (0 ≤ q2 ∧ q2 ≤ 7)) ∧ ¬ (0 ≤ z ∧ z ≤ 80) ∧ w = 0 ∧ τ' = zf τ 36 2) ∨ (((0 ≤ q ∧ q ≤ 7) ∧ (0 ≤ q2 ∧ q2 ≤ 7)) ∧ (0 ≤ z ∧ z ≤ 80) ∧ (τ' = (zf τ 36 0)))) : zA6 σ' τ' ∧ τ' 36 = th := by
  unfold zr6_place at h6
  have hA0 : zA6 σ (zf τ 36 0) := hA.t36
  rcases h6 with ⟨hk, c6, hs⟩ | ⟨hk, c6, hs⟩ | ⟨hk, r6⟩
  · rcases h8 with ⟨c8, hw, ht⟩ | ⟨c8, d8, hw, ht⟩ | ⟨c8, d8, r8⟩
    · rw [hs, ht, hk]
      exact ⟨hA.t36, zf_eq⟩
    · exfalso
      omega
    · exfalso
      omega
  · rcases h8 with ⟨c8, hw, ht⟩ | ⟨c8, d8, hw, ht⟩ | ⟨c8, d8, r8⟩
    · exfalso
      omega
    · rw [hs, ht, hk]
      exact ⟨hA.t36, zf_eq⟩
    · exfalso
      omega
  · rcases h8 with ⟨c8, hw, ht⟩ | ⟨c8, d8, hw, ht⟩ | ⟨c8, d8, r8⟩
    · exfalso
      omega
    · exfalso
      omega
    · skip
      obtain ⟨⟨⟨c1, c2, c3, c4⟩, c5, c6⟩, c7⟩ := r6
      have c81 := r8
      refine ⟨?_, ?_⟩
      · rw [c7, c81]
        exact hA0
      · rw [c81, hk]
        exact zf_eq
def zr6_border (σ : Nat → Int) (q th y : Int) (σ' : Nat → Int) : Prop := (th = 1 ∧ (¬ (0 ≤ q ∧ q ≤ 7)) ∧ σ' = σ) ∨ (th = 0 ∧ (0 ≤ q ∧ q ≤ 7) ∧ σ' = σ)
set_option maxHeartbeats 1000000 in
theorem ag_border {σ σ' τ τ' : Nat → Int} {q th y w : Int} (hA : zA6 σ τ) (hq : -2147483648 ≤ q ∧ q ≤ 2147483647) (h6 : zr6_border σ q th y σ') (h8 : (¬ (0 ≤ q ∧ q ≤ 7) ∧ w = 0 ∧ τ' = zf τ 36 1) ∨ ((0 ≤ q ∧ q ≤ 7) ∧ ¬ (True) ∧ w = 0 ∧ τ' = zf τ 36 2) ∨ ((0 ≤ q ∧ q ≤ 7) ∧ (True) ∧ (τ' = (zf τ 36 0)))) : zA6 σ' τ' ∧ τ' 36 = th := by
  unfold zr6_border at h6
  have hA0 : zA6 σ (zf τ 36 0) := hA.t36
  rcases h6 with ⟨hk, c6, hs⟩ | ⟨hk, r6⟩
  · rcases h8 with ⟨c8, hw, ht⟩ | ⟨c8, d8, hw, ht⟩ | ⟨c8, d8, r8⟩
    · rw [hs, ht, hk]
      exact ⟨hA.t36, zf_eq⟩
    · exact absurd trivial d8
    · exfalso
      omega
  · rcases h8 with ⟨c8, hw, ht⟩ | ⟨c8, d8, hw, ht⟩ | ⟨c8, d8, r8⟩
    · exfalso
      omega
    · exact absurd trivial d8
    · skip
      obtain ⟨⟨c1, c2⟩, c3⟩ := r6
      have c81 := r8
      refine ⟨?_, ?_⟩
      · rw [c3, c81]
        exact hA0
      · rw [c81, hk]
        exact zf_eq
def zr6_borders (σ : Nat → Int) (q th y : Int) (σ' : Nat → Int) : Prop := (th = 1 ∧ (¬ (0 ≤ q ∧ q ≤ 7)) ∧ σ' = σ) ∨ (th = 0 ∧ (0 ≤ q ∧ q ≤ 7) ∧ σ' = σ)
set_option maxHeartbeats 1000000 in
theorem ag_borders {σ σ' τ τ' : Nat → Int} {q th y w : Int} (hA : zA6 σ τ) (hq : -2147483648 ≤ q ∧ q ≤ 2147483647) (h6 : zr6_borders σ q th y σ') (h8 : (¬ (0 ≤ q ∧ q ≤ 7) ∧ τ' = zf τ 36 1) ∨ ((0 ≤ q ∧ q ≤ 7) ∧ ¬ (True) ∧ τ' = zf τ 36 2) ∨ ((0 ≤ q ∧ q ≤ 7) ∧ (True) ∧ (τ' = (zf τ 36 0)))) : zA6 σ' τ' ∧ τ' 36 = th := by
  unfold zr6_borders at h6
  have hA0 : zA6 σ (zf τ 36 0) := hA.t36
  rcases h6 with ⟨hk, c6, hs⟩ | ⟨hk, r6⟩
  · rcases h8 with ⟨c8, ht⟩ | ⟨c8, d8, ht⟩ | ⟨c8, d8, r8⟩
    · rw [hs, ht, hk]
      exact ⟨hA.t36, zf_eq⟩
    · exact absurd trivial d8
    · exfalso
      omega
  · rcases h8 with ⟨c8, ht⟩ | ⟨c8, d8, ht⟩ | ⟨c8, d8, r8⟩
    · exfalso
      omega
    · exact absurd trivial d8
    · skip
      obtain ⟨⟨c1, c2⟩, c3⟩ := r6
      have c81 := r8
      refine ⟨?_, ?_⟩
      · rw [c3, c81]
        exact hA0
      · rw [c81, hk]
        exact zf_eq
def zr6_chain (σ : Nat → Int) (q th y : Int) (σ' : Nat → Int) : Prop := (th = 1 ∧ (¬ (0 ≤ q ∧ q ≤ 7)) ∧ σ' = σ) ∨ (th = 0 ∧ (0 ≤ q ∧ q ≤ 7) ∧ σ' = σ)
set_option maxHeartbeats 1000000 in
theorem ag_chain {σ σ' τ τ' : Nat → Int} {q th y w : Int} (hA : zA6 σ τ) (hq : -2147483648 ≤ q ∧ q ≤ 2147483647) (h6 : zr6_chain σ q th y σ') (h8 : (¬ (0 ≤ q ∧ q ≤ 7) ∧ τ' = zf τ 36 1) ∨ ((0 ≤ q ∧ q ≤ 7) ∧ ¬ (True) ∧ τ' = zf τ 36 2) ∨ ((0 ≤ q ∧ q ≤ 7) ∧ (True) ∧ (τ' = (zf τ 36 0)))) : zA6 σ' τ' ∧ τ' 36 = th := by
  unfold zr6_chain at h6
  have hA0 : zA6 σ (zf τ 36 0) := hA.t36
  rcases h6 with ⟨hk, c6, hs⟩ | ⟨hk, r6⟩
  · rcases h8 with ⟨c8, ht⟩ | ⟨c8, d8, ht⟩ | ⟨c8, d8, r8⟩
    · rw [hs, ht, hk]
      exact ⟨hA.t36, zf_eq⟩
    · exact absurd trivial d8
    · exfalso
      omega
  · rcases h8 with ⟨c8, ht⟩ | ⟨c8, d8, ht⟩ | ⟨c8, d8, r8⟩
    · exfalso
      omega
    · exact absurd trivial d8
    · skip
      obtain ⟨⟨c1, c2⟩, c3⟩ := r6
      have c81 := r8
      refine ⟨?_, ?_⟩
      · rw [c3, c81]
        exact hA0
      · rw [c81, hk]
        exact zf_eq
def zr6_differ (σ : Nat → Int) (q q2 th y : Int) (σ' : Nat → Int) : Prop := (th = 1 ∧ (¬ (0 ≤ q ∧ q ≤ 7 ∧ 0 ≤ q2 ∧ q2 ≤ 7)) ∧ σ' = σ) ∨ (th = 0 ∧ (0 ≤ q ∧ q ≤ 7 ∧ 0 ≤ q2 ∧ q2 ≤ 7) ∧ σ' = σ)
set_option maxHeartbeats 1000000 in
theorem ag_differ {σ σ' τ τ' : Nat → Int} {q q2 th y w : Int} (hA : zA6 σ τ) (hq : -2147483648 ≤ q ∧ q ≤ 2147483647) (hq2 : -2147483648 ≤ q2 ∧ q2 ≤ 2147483647) (h6 : zr6_differ σ q q2 th y σ') (h8 : (¬ ((0 ≤ q ∧ q ≤ 7) ∧ (0 ≤ q2 ∧ q2 ≤ 7)) ∧ w = 0 ∧ τ' = zf τ 36 1) ∨ (((0 ≤ q ∧ q ≤ 7) ∧ (0 ≤ q2 ∧ q2 ≤ 7)) ∧ ¬ (True) ∧ w = 0 ∧ τ' = zf τ 36 2) ∨ (((0 ≤ q ∧ q ≤ 7) ∧ (0 ≤ q2 ∧ q2 ≤ 7)) ∧ (True) ∧ (τ' = (zf τ 36 0)))) : zA6 σ' τ' ∧ τ' 36 = th := by
  unfold zr6_differ at h6
  have hA0 : zA6 σ (zf τ 36 0) := hA.t36
  rcases h6 with ⟨hk, c6, hs⟩ | ⟨hk, r6⟩
  · rcases h8 with ⟨c8, hw, ht⟩ | ⟨c8, d8, hw, ht⟩ | ⟨c8, d8, r8⟩
    · rw [hs, ht, hk]
      exact ⟨hA.t36, zf_eq⟩
    · exact absurd trivial d8
    · exfalso
      omega
  · rcases h8 with ⟨c8, hw, ht⟩ | ⟨c8, d8, hw, ht⟩ | ⟨c8, d8, r8⟩
    · exfalso
      omega
    · exact absurd trivial d8
    · skip
      obtain ⟨⟨c1, c2, c3, c4⟩, c5⟩ := r6
      have c81 := r8
      refine ⟨?_, ?_⟩
      · rw [c5, c81]
        exact hA0
      · rw [c81, hk]
        exact zf_eq
def zr6_known (σ : Nat → Int) (q z th y : Int) (σ' : Nat → Int) : Prop := (th = 1 ∧ (¬ (0 ≤ q ∧ q ≤ 7)) ∧ σ' = σ) ∨ (th = 2 ∧ ((0 ≤ q ∧ q ≤ 7) ∧ ¬ (0 ≤ z ∧ z ≤ 4)) ∧ σ' = σ) ∨ (th = 0 ∧ (0 ≤ q ∧ q ≤ 7 ∧ 0 ≤ z ∧ z ≤ 4) ∧ σ' = σ)
set_option maxHeartbeats 1000000 in
theorem ag_known {σ σ' τ τ' : Nat → Int} {q z th y w : Int} (hA : zA6 σ τ) (hq : -2147483648 ≤ q ∧ q ≤ 2147483647) (hz : -2147483648 ≤ z ∧ z ≤ 2147483647) (h6 : zr6_known σ q z th y σ') (h8 : (¬ (0 ≤ q ∧ q ≤ 7) ∧ w = 0 ∧ τ' = zf τ 36 1) ∨ ((0 ≤ q ∧ q ≤ 7) ∧ ¬ (0 ≤ z ∧ z ≤ 4) ∧ w = 0 ∧ τ' = zf τ 36 2) ∨ ((0 ≤ q ∧ q ≤ 7) ∧ (0 ≤ z ∧ z ≤ 4) ∧ (τ' = (zf τ 36 0)))) : zA6 σ' τ' ∧ τ' 36 = th := by
  unfold zr6_known at h6
  have hA0 : zA6 σ (zf τ 36 0) := hA.t36
  rcases h6 with ⟨hk, c6, hs⟩ | ⟨hk, c6, hs⟩ | ⟨hk, r6⟩
  · rcases h8 with ⟨c8, hw, ht⟩ | ⟨c8, d8, hw, ht⟩ | ⟨c8, d8, r8⟩
    · rw [hs, ht, hk]
      exact ⟨hA.t36, zf_eq⟩
    · exfalso
      omega
    · exfalso
      omega
  · rcases h8 with ⟨c8, hw, ht⟩ | ⟨c8, d8, hw, ht⟩ | ⟨c8, d8, r8⟩
    · exfalso
      omega
    · rw [hs, ht, hk]
      exact ⟨hA.t36, zf_eq⟩
    · exfalso
      omega
  · rcases h8 with ⟨c8, hw, ht⟩ | ⟨c8, d8, hw, ht⟩ | ⟨c8, d8, r8⟩
    · exfalso
      omega
    · exfalso
      omega
    · skip
      obtain ⟨⟨c1, c2, c3, c4⟩, c5⟩ := r6
      have c81 := r8
      refine ⟨?_, ?_⟩
      · rw [c5, c81]
        exact hA0
      · rw [c81, hk]
        exact zf_eq
def zr6_travelled (σ : Nat → Int) (q th y : Int) (σ' : Nat → Int) : Prop := (th = 1 ∧ (¬ (0 ≤ q ∧ q ≤ 1)) ∧ σ' = σ) ∨ (th = 0 ∧ (0 ≤ q ∧ q ≤ 1) ∧ σ' = σ)
set_option maxHeartbeats 1000000 in
theorem ag_travelled {σ σ' τ τ' : Nat → Int} {q th y w : Int} (hA : zA6 σ τ) (hq : -2147483648 ≤ q ∧ q ≤ 2147483647) (h6 : zr6_travelled σ q th y σ') (h8 : (¬ (0 ≤ q ∧ q ≤ 1) ∧ τ' = zf τ 36 1) ∨ ((0 ≤ q ∧ q ≤ 1) ∧ ¬ (True) ∧ τ' = zf τ 36 2) ∨ ((0 ≤ q ∧ q ≤ 1) ∧ (True) ∧ (τ' = (zf τ 36 0)))) : zA6 σ' τ' ∧ τ' 36 = th := by
  unfold zr6_travelled at h6
  have hA0 : zA6 σ (zf τ 36 0) := hA.t36
  rcases h6 with ⟨hk, c6, hs⟩ | ⟨hk, r6⟩
  · rcases h8 with ⟨c8, ht⟩ | ⟨c8, d8, ht⟩ | ⟨c8, d8, r8⟩
    · rw [hs, ht, hk]
      exact ⟨hA.t36, zf_eq⟩
    · exact absurd trivial d8
    · exfalso
      omega
  · rcases h8 with ⟨c8, ht⟩ | ⟨c8, d8, ht⟩ | ⟨c8, d8, r8⟩
    · exfalso
      omega
    · exact absurd trivial d8
    · skip
      obtain ⟨⟨c1, c2⟩, c3⟩ := r6
      have c81 := r8
      refine ⟨?_, ?_⟩
      · rw [c3, c81]
        exact hA0
      · rw [c81, hk]
        exact zf_eq
def zr6_house (σ : Nat → Int) (q th y : Int) (σ' : Nat → Int) : Prop := (th = 1 ∧ (¬ (0 ≤ q ∧ q ≤ 3)) ∧ σ' = σ) ∨ (th = 0 ∧ (0 ≤ q ∧ q ≤ 3) ∧ ((q = 0 ∧ y = σ 30) ∨ (q = 1 ∧ y = σ 31) ∨ (q = 2 ∧ y = σ 32) ∨ (q = 3 ∧ y = σ 33)) ∧ σ' = σ)
set_option maxHeartbeats 1000000 in
theorem ag_house {σ σ' τ τ' : Nat → Int} {q th y w : Int} (hA : zA6 σ τ) (hq : -2147483648 ≤ q ∧ q ≤ 2147483647) (h6 : zr6_house σ q th y σ') (h8 : (¬ (0 ≤ q ∧ q ≤ 3) ∧ w = 0 ∧ τ' = zf τ 36 1) ∨ ((0 ≤ q ∧ q ≤ 3) ∧ ¬ (True) ∧ w = 0 ∧ τ' = zf τ 36 2) ∨ ((0 ≤ q ∧ q ≤ 3) ∧ (True) ∧ (((q = 0 ∧ w = τ 30) ∨ (q = 1 ∧ w = τ 31) ∨ (q = 2 ∧ w = τ 32) ∨ (q = 3 ∧ w = τ 33)) ∧ τ' = (zf τ 36 0)))) : zA6 σ' τ' ∧ τ' 36 = th ∧ (th = 0 → y = w) := by
  unfold zr6_house at h6
  have hA0 : zA6 σ (zf τ 36 0) := hA.t36
  rcases h6 with ⟨hk, c6, hs⟩ | ⟨hk, r6⟩
  · rcases h8 with ⟨c8, hw, ht⟩ | ⟨c8, d8, hw, ht⟩ | ⟨c8, d8, r8⟩
    · rw [hs, ht, hk]
      exact ⟨hA.t36, zf_eq, fun h => absurd h (by decide)⟩
    · exact absurd trivial d8
    · exfalso
      have e30 : σ 30 = zf τ 36 0 30 := hA0 30 (by decide)
      have f30 : σ 30 = τ 30 := hA 30 (by decide)
      have e31 : σ 31 = zf τ 36 0 31 := hA0 31 (by decide)
      have f31 : σ 31 = τ 31 := hA 31 (by decide)
      have e32 : σ 32 = zf τ 36 0 32 := hA0 32 (by decide)
      have f32 : σ 32 = τ 32 := hA 32 (by decide)
      have e33 : σ 33 = zf τ 36 0 33 := hA0 33 (by decide)
      have f33 : σ 33 = τ 33 := hA 33 (by decide)
      omega
  · rcases h8 with ⟨c8, hw, ht⟩ | ⟨c8, d8, hw, ht⟩ | ⟨c8, d8, r8⟩
    · exfalso
      omega
    · exact absurd trivial d8
    · skip
      have e30 : σ 30 = zf τ 36 0 30 := hA0 30 (by decide)
      have f30 : σ 30 = τ 30 := hA 30 (by decide)
      have e31 : σ 31 = zf τ 36 0 31 := hA0 31 (by decide)
      have f31 : σ 31 = τ 31 := hA 31 (by decide)
      have e32 : σ 32 = zf τ 36 0 32 := hA0 32 (by decide)
      have f32 : σ 32 = τ 32 := hA 32 (by decide)
      have e33 : σ 33 = zf τ 36 0 33 := hA0 33 (by decide)
      have f33 : σ 33 = τ 33 := hA 33 (by decide)
      obtain ⟨⟨c1, c2⟩, d12, c11⟩ := r6
      obtain ⟨d810, c89⟩ := r8
      refine ⟨?_, ?_, fun _ => ?_⟩
      · rw [c11, c89]
        exact hA0
      · rw [c89, hk]
        exact zf_eq
      · omega
