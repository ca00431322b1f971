/-! both sides: the same but for what was thrown -/
theorem zrf_lo {σ : Nat → Int} {j : Nat} (h : j ≠ 31) : zrf σ j = σ j := zrf_ne h
theorem zmt_lo {σ : Nat → Int} {a n p j : Nat} (h : j < 1000) : zmt σ a n p j = σ j := by
  unfold zmt
  rw [if_neg (by omega)]
def zA6 (σ τ : Nat → Int) : Prop := σ = zf τ 36 0
theorem zA6.t36 {σ τ : Nat → Int} {k : Int} (h : zA6 σ τ) : zA6 σ (zf τ 36 k) := by
  show σ = zf (zf τ 36 k) 36 0
  rw [zf_zf]
  exact h
theorem zA6.z {σ τ : Nat → Int} (h : zA6 σ τ) : σ 36 = 0 := (congrFun h 36).trans zf_eq
theorem zA6.at {σ τ : Nat → Int} (h : zA6 σ τ) {j : Nat} (hj : j ≠ 36) : σ j = τ j := (congrFun h j).trans (zf_ne hj)
theorem zA6.of {σ τ : Nat → Int} (h : σ = τ) (h0 : τ 36 = 0) : zA6 σ τ := by
  show σ = zf τ 36 0
  rw [h, ← h0, zf_id]
theorem zA6.pt {σ τ : Nat → Int} (h0 : σ 36 = 0) (h : ∀ j, j ≠ 36 → σ j = τ j) : zA6 σ τ := by
  show σ = zf τ 36 0
  funext j
  by_cases e : j = 36
  · rw [e, h0]
    exact zf_eq.symm
  · rw [zf_ne e]
    exact h j e
theorem zpi_zmf {σ : Nat → Int} {a b c d : Int} (h : b = c - d) (z : σ 36 = 0) : zpi σ a b c d = zmf σ a c d 0 := by
  funext j
  by_cases e : 26 ≤ j ∧ j ≤ 29
  · rcases (by omega : j = 26 ∨ j = 27 ∨ j = 28 ∨ j = 29) with e | e | e | e
    · subst e
      rfl
    · subst e
      exact h
    · subst e
      rfl
    · subst e
      rfl
  · rw [zpi_ne e]
    by_cases e2 : j = 36
    · subst e2
      exact z
    · exact (zmf_ne ⟨e, e2⟩).symm
def zr6_allocate (σ : Nat → Int) (q z th y : Int) (σ' : Nat → Int) : Prop := (th = 1 ∧ (¬ (0 ≤ q ∧ q < 6)) ∧ σ' = σ) ∨ (th = 2 ∧ ((0 ≤ q ∧ q < 6) ∧ ¬ (0 ≤ z ∧ z ≤ 40)) ∧ σ' = σ) ∨ (th = 0 ∧ (0 ≤ q ∧ q < 6 ∧ 0 ≤ z ∧ z ≤ 40) ∧ y = z - 0 ∧ σ' = zdn (zf (zf (zw4 σ q.toNat z z 0 (-9)) (40 + q.toNat) (σ 46)) 46 (σ 46 + z)))
set_option maxHeartbeats 1000000 in
theorem ag_allocate {σ σ' τ τ' : Nat → Int} {q z th y w : Int} (hA : zA6 σ τ) (hq : -2147483648 ≤ q ∧ q ≤ 2147483647) (hz : -2147483648 ≤ z ∧ z ≤ 2147483647) (h6 : zr6_allocate σ q z th y σ') (h8 : (¬ (0 ≤ q ∧ q ≤ 5) ∧ w = 0 ∧ τ' = zf τ 36 1) ∨ ((0 ≤ q ∧ q ≤ 5) ∧ ¬ (0 ≤ z ∧ z ≤ 40) ∧ w = 0 ∧ τ' = zf τ 36 2) ∨ ((0 ≤ q ∧ q ≤ 5) ∧ (0 ≤ z ∧ z ≤ 40) ∧ (w = z ∧ τ' = zdn (zf (zf (zw4 (zf τ 36 0) q.toNat z z 0 (-9)) (40 + q.toNat) ((zf τ 36 0) 46)) 46 ((zf τ 36 0) 46 + z))))) : zA6 σ' τ' ∧ τ' 36 = th ∧ (th = 0 → y = w) := by
  unfold zr6_allocate at h6
  have z36 : σ 36 = 0 := hA.z
  have eA : σ = zf τ 36 0 := hA
  rw [← eA] at h8
  rcases h6 with ⟨hk, c6, hs⟩ | ⟨hk, c6, hs⟩ | ⟨hk, r6⟩
  · rcases h8 with ⟨c8, hw, ht⟩ | ⟨c8, d8, hw, ht⟩ | ⟨c8, d8, r8⟩
    · rw [hs, ht, hk]
      exact ⟨hA.t36, zf_eq, fun h => absurd h (by decide)⟩
    · exfalso
      omega
    · exfalso
      omega
  · rcases h8 with ⟨c8, hw, ht⟩ | ⟨c8, d8, hw, ht⟩ | ⟨c8, d8, r8⟩
    · exfalso
      omega
    · rw [hs, ht, hk]
      exact ⟨hA.t36, zf_eq, fun h => absurd h (by decide)⟩
    · exfalso
      omega
  · rcases h8 with ⟨c8, hw, ht⟩ | ⟨c8, d8, hw, ht⟩ | ⟨c8, d8, r8⟩
    · exfalso
      omega
    · exfalso
      omega
    · skip
      obtain ⟨⟨c1, c2, c3, c4⟩, c5, c6⟩ := r6
      obtain ⟨c81, c82⟩ := r8
      have yw : y = w := by omega
      have eq : σ' = τ' := by rw [c6, c82]
      have t36 : τ' 36 = 0 := by
        rw [c82]
        exact ((zdn_ne (by decide)).trans ((zf_ne (by omega)).trans ((zf_ne (by omega)).trans ((zw4_h8 (by decide) (by omega)).trans (rfl))))).trans z36
      exact ⟨.of eq t36, t36.trans hk.symm, fun _ => yw⟩
def zr6_slice (σ : Nat → Int) (q q2 th y : Int) (σ' : Nat → Int) : Prop := (th = 1 ∧ (¬ (0 ≤ q ∧ q < 6 ∧ 0 ≤ q2 ∧ q2 < 6)) ∧ σ' = σ) ∨ (th = 0 ∧ (0 ≤ q ∧ q < 6 ∧ 0 ≤ q2 ∧ q2 < 6) ∧ y = σ (4 * q.toNat + 1) - σ (4 * q.toNat + 2) - 0 ∧ σ' = zdn (zf (zw4 σ q2.toNat (σ (4 * q.toNat + 1) - σ (4 * q.toNat + 2)) (σ (4 * q.toNat + 1) - σ (4 * q.toNat + 2)) 0 (-9)) (40 + q2.toNat) (σ (40 + q.toNat) + σ (4 * q.toNat + 2))))
theorem rq_slice {σ σ' : Nat → Int} {q y : Int} (h : (0 ≤ q ∧ q < 6) ∧ y = σ (4 * q.toNat + 1) - σ (4 * q.toNat + 2) - 0 ∧ σ' = zdn (zf (zw4 σ q.toNat (σ (4 * q.toNat + 1) - σ (4 * q.toNat + 2)) (σ (4 * q.toNat + 1) - σ (4 * q.toNat + 2)) 0 (-9)) (40 + q.toNat) (σ (40 + q.toNat) + σ (4 * q.toNat + 2)))) : (0 ≤ q ∧ q < 6 ∧ 0 ≤ q ∧ q < 6) ∧ y = σ (4 * q.toNat + 1) - σ (4 * q.toNat + 2) - 0 ∧ σ' = zdn (zf (zw4 σ q.toNat (σ (4 * q.toNat + 1) - σ (4 * q.toNat + 2)) (σ (4 * q.toNat + 1) - σ (4 * q.toNat + 2)) 0 (-9)) (40 + q.toNat) (σ (40 + q.toNat) + σ (4 * q.toNat + 2))) := by
  exact ⟨⟨h.1.1, h.1.2, h.1.1, h.1.2⟩, h.2⟩
set_option maxHeartbeats 1000000 in
theorem ag_slice {σ σ' τ τ' : Nat → Int} {q q2 th y w : Int} (hA : zA6 σ τ) (hq : -2147483648 ≤ q ∧ q ≤ 2147483647) (hq2 : -2147483648 ≤ q2 ∧ q2 ≤ 2147483647) (h6 : zr6_slice σ q q2 th y σ') (h8 : (¬ ((0 ≤ q ∧ q ≤ 5) ∧ (0 ≤ q2 ∧ q2 ≤ 5)) ∧ w = 0 ∧ τ' = zf τ 36 1) ∨ (((0 ≤ q ∧ q ≤ 5) ∧ (0 ≤ q2 ∧ q2 ≤ 5)) ∧ ¬ (True) ∧ w = 0 ∧ τ' = zf τ 36 2) ∨ (((0 ≤ q ∧ q ≤ 5) ∧ (0 ≤ q2 ∧ q2 ≤ 5)) ∧ (True) ∧ (w = (zf τ 36 0) (4 * q.toNat + 1) - (zf τ 36 0) (4 * q.toNat + 2) - 0 ∧ τ' = zdn (zf (zw4 (zf τ 36 0) q2.toNat ((zf τ 36 0) (4 * q.toNat + 1) - (zf τ 36 0) (4 * q.toNat + 2)) ((zf τ 36 0) (4 * q.toNat + 1) - (zf τ 36 0) (4 * q.toNat + 2)) 0 (-9)) (40 + q2.toNat) ((zf τ 36 0) (40 + q.toNat) + (zf τ 36 0) (4 * q.toNat + 2)))))) : zA6 σ' τ' ∧ τ' 36 = th ∧ (th = 0 → y = w) := by
  unfold zr6_slice at h6
  have z36 : σ 36 = 0 := hA.z
  have eA : σ = zf τ 36 0 := hA
  rw [← eA] at h8
  rcases h6 with ⟨hk, c6, hs⟩ | ⟨hk, r6⟩
  · rcases h8 with ⟨c8, hw, ht⟩ | ⟨c8, d8, hw, ht⟩ | ⟨c8, d8, r8⟩
    · rw [hs, ht, hk]
      exact ⟨hA.t36, zf_eq, fun h => absurd h (by decide)⟩
    · exact absurd trivial d8
    · exfalso
      omega
  · rcases h8 with ⟨c8, hw, ht⟩ | ⟨c8, d8, hw, ht⟩ | ⟨c8, d8, r8⟩
    · exfalso
      omega
    · exact absurd trivial d8
    · skip
      obtain ⟨⟨c1, c2, c3, c4⟩, c5, c6⟩ := r6
      obtain ⟨c81, c82⟩ := r8
      have yw : y = w := by omega
      have eq : σ' = τ' := by rw [c6, c82]
      have t36 : τ' 36 = 0 := by
        rw [c82]
        exact ((zdn_ne (by decide)).trans ((zf_ne (by omega)).trans ((zw4_h8 (by decide) (by omega)).trans (rfl)))).trans z36
      exact ⟨.of eq t36, t36.trans hk.symm, fun _ => yw⟩
def zr6_duplicate (σ : Nat → Int) (q q2 th y : Int) (σ' : Nat → Int) : Prop := (th = 1 ∧ (¬ (0 ≤ q ∧ q < 6 ∧ 0 ≤ q2 ∧ q2 < 6)) ∧ σ' = σ) ∨ (th = 0 ∧ (0 ≤ q ∧ q < 6 ∧ 0 ≤ q2 ∧ q2 < 6) ∧ y = σ (4 * q.toNat + 1) - σ (4 * q.toNat + 2) ∧ σ' = zdn (zf (zw4 σ q2.toNat (σ (4 * q.toNat)) (σ (4 * q.toNat + 1)) (σ (4 * q.toNat + 2)) (σ (4 * q.toNat + 3))) (40 + q2.toNat) (σ (40 + q.toNat))))
theorem rq_duplicate {σ σ' : Nat → Int} {q y : Int} (h : (0 ≤ q ∧ q < 6) ∧ y = σ (4 * q.toNat + 1) - σ (4 * q.toNat + 2) ∧ σ' = zdn σ) : (0 ≤ q ∧ q < 6 ∧ 0 ≤ q ∧ q < 6) ∧ y = σ (4 * q.toNat + 1) - σ (4 * q.toNat + 2) ∧ σ' = zdn (zf (zw4 σ q.toNat (σ (4 * q.toNat)) (σ (4 * q.toNat + 1)) (σ (4 * q.toNat + 2)) (σ (4 * q.toNat + 3))) (40 + q.toNat) (σ (40 + q.toNat))) := by
  rw [zw4_id, zf_id]
  exact ⟨⟨h.1.1, h.1.2, h.1.1, h.1.2⟩, h.2⟩
set_option maxHeartbeats 1000000 in
theorem ag_duplicate {σ σ' τ τ' : Nat → Int} {q q2 th y w : Int} (hA : zA6 σ τ) (hq : -2147483648 ≤ q ∧ q ≤ 2147483647) (hq2 : -2147483648 ≤ q2 ∧ q2 ≤ 2147483647) (h6 : zr6_duplicate σ q q2 th y σ') (h8 : (¬ ((0 ≤ q ∧ q ≤ 5) ∧ (0 ≤ q2 ∧ q2 ≤ 5)) ∧ w = 0 ∧ τ' = zf τ 36 1) ∨ (((0 ≤ q ∧ q ≤ 5) ∧ (0 ≤ q2 ∧ q2 ≤ 5)) ∧ ¬ (True) ∧ w = 0 ∧ τ' = zf τ 36 2) ∨ (((0 ≤ q ∧ q ≤ 5) ∧ (0 ≤ q2 ∧ q2 ≤ 5)) ∧ (True) ∧ (w = (zf τ 36 0) (4 * q.toNat + 1) - (zf τ 36 0) (4 * q.toNat + 2) ∧ τ' = zdn (zf (zw4 (zf τ 36 0) q2.toNat ((zf τ 36 0) (4 * q.toNat)) ((zf τ 36 0) (4 * q.toNat + 1)) ((zf τ 36 0) (4 * q.toNat + 2)) ((zf τ 36 0) (4 * q.toNat + 3))) (40 + q2.toNat) ((zf τ 36 0) (40 + q.toNat)))))) : zA6 σ' τ' ∧ τ' 36 = th ∧ (th = 0 → y = w) := by
  unfold zr6_duplicate at h6
  have z36 : σ 36 = 0 := hA.z
  have eA : σ = zf τ 36 0 := hA
  rw [← eA] at h8
  rcases h6 with ⟨hk, c6, hs⟩ | ⟨hk, r6⟩
  · rcases h8 with ⟨c8, hw, ht⟩ | ⟨c8, d8, hw, ht⟩ | ⟨c8, d8, r8⟩
    · rw [hs, ht, hk]
      exact ⟨hA.t36, zf_eq, fun h => absurd h (by decide)⟩
    · exact absurd trivial d8
    · exfalso
      omega
  · rcases h8 with ⟨c8, hw, ht⟩ | ⟨c8, d8, hw, ht⟩ | ⟨c8, d8, r8⟩
    · exfalso
      omega
    · exact absurd trivial d8
    · skip
      obtain ⟨⟨c1, c2, c3, c4⟩, c5, c6⟩ := r6
      obtain ⟨c81, c82⟩ := r8
      have yw : y = w := by omega
      have eq : σ' = τ' := by rw [c6, c82]
      have t36 : τ' 36 = 0 := by
        rw [c82]
        exact ((zdn_ne (by decide)).trans ((zf_ne (by omega)).trans ((zw4_h8 (by decide) (by omega)).trans (rfl)))).trans z36
      exact ⟨.of eq t36, t36.trans hk.symm, fun _ => yw⟩
def zr6_part (σ : Nat → Int) (q a b q2 th y : Int) (σ' : Nat → Int) : Prop := (th = 1 ∧ (¬ (0 ≤ q ∧ q < 6 ∧ 0 ≤ q2 ∧ q2 < 6)) ∧ σ' = σ) ∨ (th = 0 ∧ (0 ≤ q ∧ q < 6 ∧ 0 ≤ q2 ∧ q2 < 6) ∧ ((¬ (0 ≤ a ∧ a ≤ b ∧ b ≤ σ (4 * q.toNat + 1) - σ (4 * q.toNat + 2)) ∧ y = -9 ∧ σ' = zrf σ) ∨ ((0 ≤ a ∧ a ≤ b ∧ b ≤ σ (4 * q.toNat + 1) - σ (4 * q.toNat + 2)) ∧ y = σ (4 * q.toNat + 2) + b - (σ (4 * q.toNat + 2) + a) ∧ σ' = zdn (zf (zw4 σ q2.toNat (σ (4 * q.toNat)) (σ (4 * q.toNat + 2) + b) (σ (4 * q.toNat + 2) + a) (σ (4 * q.toNat + 2) + a)) (40 + q2.toNat) (σ (40 + q.toNat))))))
theorem rq_part {σ σ' : Nat → Int} {q a b y : Int} (h : (0 ≤ q ∧ q < 6) ∧ ((¬ (0 ≤ a ∧ a ≤ b ∧ b ≤ σ (4 * q.toNat + 1) - σ (4 * q.toNat + 2)) ∧ y = -9 ∧ σ' = zrf σ) ∨ ((0 ≤ a ∧ a ≤ b ∧ b ≤ σ (4 * q.toNat + 1) - σ (4 * q.toNat + 2)) ∧ y = σ (4 * q.toNat + 2) + b - (σ (4 * q.toNat + 2) + a) ∧ σ' = zdn (zf (zw4 σ q.toNat (σ (4 * q.toNat)) (σ (4 * q.toNat + 2) + b) (σ (4 * q.toNat + 2) + a) (σ (4 * q.toNat + 2) + a)) (40 + q.toNat) (σ (40 + q.toNat)))))) : (0 ≤ q ∧ q < 6 ∧ 0 ≤ q ∧ q < 6) ∧ ((¬ (0 ≤ a ∧ a ≤ b ∧ b ≤ σ (4 * q.toNat + 1) - σ (4 * q.toNat + 2)) ∧ y = -9 ∧ σ' = zrf σ) ∨ ((0 ≤ a ∧ a ≤ b ∧ b ≤ σ (4 * q.toNat + 1) - σ (4 * q.toNat + 2)) ∧ y = σ (4 * q.toNat + 2) + b - (σ (4 * q.toNat + 2) + a) ∧ σ' = zdn (zf (zw4 σ q.toNat (σ (4 * q.toNat)) (σ (4 * q.toNat + 2) + b) (σ (4 * q.toNat + 2) + a) (σ (4 * q.toNat + 2) + a)) (40 + q.toNat) (σ (40 + q.toNat))))) := by
  exact ⟨⟨h.1.1, h.1.2, h.1.1, h.1.2⟩, h.2⟩
set_option maxHeartbeats 1000000 in
theorem ag_part {σ σ' τ τ' : Nat → Int} {q a b q2 th y w : Int} (hA : zA6 σ τ) (hq : -2147483648 ≤ q ∧ q ≤ 2147483647) (hq2 : -2147483648 ≤ q2 ∧ q2 ≤ 2147483647) (ha : -2147483648 ≤ a ∧ a ≤ 2147483647) (hb : -2147483648 ≤ b ∧ b ≤ 2147483647) (h6 : zr6_part σ q a b q2 th y σ') (h8 : (¬ ((0 ≤ q ∧ q ≤ 5) ∧ (0 ≤ q2 ∧ q2 ≤ 5)) ∧ w = 0 ∧ τ' = zf τ 36 1) ∨ (((0 ≤ q ∧ q ≤ 5) ∧ (0 ≤ q2 ∧ q2 ≤ 5)) ∧ ¬ (True) ∧ w = 0 ∧ τ' = zf τ 36 2) ∨ (((0 ≤ q ∧ q ≤ 5) ∧ (0 ≤ q2 ∧ q2 ≤ 5)) ∧ (True) ∧ ((¬ (0 ≤ a ∧ a ≤ b ∧ b ≤ (zf τ 36 0) (4 * q.toNat + 1) - (zf τ 36 0) (4 * q.toNat + 2)) ∧ w = -9 ∧ τ' = zrf (zf τ 36 0)) ∨ ((0 ≤ a ∧ a ≤ b ∧ b ≤ (zf τ 36 0) (4 * q.toNat + 1) - (zf τ 36 0) (4 * q.toNat + 2)) ∧ w = (zf τ 36 0) (4 * q.toNat + 2) + b - ((zf τ 36 0) (4 * q.toNat + 2) + a) ∧ τ' = zdn (zf (zw4 (zf τ 36 0) q2.toNat ((zf τ 36 0) (4 * q.toNat)) ((zf τ 36 0) (4 * q.toNat + 2) + b) ((zf τ 36 0) (4 * q.toNat + 2) + a) ((zf τ 36 0) (4 * q.toNat + 2) + a)) (40 + q2.toNat) ((zf τ 36 0) (40 + q.toNat))))))) : zA6 σ' τ' ∧ τ' 36 = th ∧ (th = 0 → y = w) := by
  unfold zr6_part at h6
  have z36 : σ 36 = 0 := hA.z
  have eA : σ = zf τ 36 0 := hA
  rw [← eA] at h8
  rcases h6 with ⟨hk, c6, hs⟩ | ⟨hk, r6⟩
  · rcases h8 with ⟨c8, hw, ht⟩ | ⟨c8, d8, hw, ht⟩ | ⟨c8, d8, r8⟩
    · rw [hs, ht, hk]
      exact ⟨hA.t36, zf_eq, fun h => absurd h (by decide)⟩
    · exact absurd trivial d8
    · exfalso
      omega
  · rcases h8 with ⟨c8, hw, ht⟩ | ⟨c8, d8, hw, ht⟩ | ⟨c8, d8, r8⟩
    · exfalso
      omega
    · exact absurd trivial d8
    · skip
      rcases r6 with ⟨⟨c1, c2, c3, c4⟩, (⟨c5, c6, c7⟩ | ⟨⟨c8, c9, c10⟩, c11, c12⟩)⟩
      · rcases r8 with ⟨c81, c82, c83⟩ | ⟨⟨c84, c85, c86⟩, c87, c88⟩
        · skip
          have yw : y = w := by omega
          have eq : σ' = τ' := by rw [c7, c83]
          have t36 : τ' 36 = 0 := by
            rw [c83]
            exact ((zrf_lo (by decide)).trans (rfl)).trans z36
          exact ⟨.of eq t36, t36.trans hk.symm, fun _ => yw⟩
        · skip
          exfalso
          omega
      · rcases r8 with ⟨c81, c82, c83⟩ | ⟨⟨c84, c85, c86⟩, c87, c88⟩
        · skip
          exfalso
          omega
        · skip
          have yw : y = w := by omega
          have eq : σ' = τ' := by rw [c12, c88]
          have t36 : τ' 36 = 0 := by
            rw [c88]
            exact ((zdn_ne (by decide)).trans ((zf_ne (by omega)).trans ((zw4_h8 (by decide) (by omega)).trans (rfl)))).trans z36
          exact ⟨.of eq t36, t36.trans hk.symm, fun _ => yw⟩
def zr6_put (σ : Nat → Int) (q x th y : Int) (σ' : Nat → Int) : Prop := (th = 1 ∧ (¬ (0 ≤ q ∧ q < 6)) ∧ σ' = σ) ∨ (th = 2 ∧ ((0 ≤ q ∧ q < 6) ∧ ¬ (0 ≤ x ∧ x ≤ 255)) ∧ σ' = σ) ∨ (th = 0 ∧ (0 ≤ q ∧ q < 6 ∧ 0 ≤ x ∧ x ≤ 255) ∧ ((¬ σ (4 * q.toNat + 2) < σ (4 * q.toNat + 1) ∧ y = -9 ∧ σ' = zrf σ) ∨ (σ (4 * q.toNat + 2) < σ (4 * q.toNat + 1) ∧ y = σ (4 * q.toNat + 1) - (σ (4 * q.toNat + 2) + 1) ∧ σ' = zdn (zf (zw4 σ q.toNat (σ (4 * q.toNat)) (σ (4 * q.toNat + 1)) (σ (4 * q.toNat + 2) + 1) (σ (4 * q.toNat + 3))) (zTp (σ (40 + q.toNat) + σ (4 * q.toNat + 2))) x))))
set_option maxHeartbeats 1000000 in
theorem ag_put {σ σ' τ τ' : Nat → Int} {q x th y w : Int} (hA : zA6 σ τ) (hq : -2147483648 ≤ q ∧ q ≤ 2147483647) (hx : -2147483648 ≤ x ∧ x ≤ 2147483647) (h6 : zr6_put σ q x th y σ') (h8 : (¬ (0 ≤ q ∧ q ≤ 5) ∧ w = 0 ∧ τ' = zf τ 36 1) ∨ ((0 ≤ q ∧ q ≤ 5) ∧ ¬ (0 ≤ x ∧ x ≤ 255) ∧ w = 0 ∧ τ' = zf τ 36 2) ∨ ((0 ≤ q ∧ q ≤ 5) ∧ (0 ≤ x ∧ x ≤ 255) ∧ ((¬ (zf τ 36 0) (4 * q.toNat + 2) < (zf τ 36 0) (4 * q.toNat + 1) ∧ w = -9 ∧ τ' = zrf (zf τ 36 0)) ∨ ((zf τ 36 0) (4 * q.toNat + 2) < (zf τ 36 0) (4 * q.toNat + 1) ∧ w = (zf τ 36 0) (4 * q.toNat + 1) - ((zf τ 36 0) (4 * q.toNat + 2) + 1) ∧ τ' = zdn (zf (zw4 (zf τ 36 0) q.toNat ((zf τ 36 0) (4 * q.toNat)) ((zf τ 36 0) (4 * q.toNat + 1)) ((zf τ 36 0) (4 * q.toNat + 2) + 1) ((zf τ 36 0) (4 * q.toNat + 3))) (zTp ((zf τ 36 0) (40 + q.toNat) + (zf τ 36 0) (4 * q.toNat + 2))) x))))) : zA6 σ' τ' ∧ τ' 36 = th ∧ (th = 0 → y = w) := by
  unfold zr6_put at h6
  have z36 : σ 36 = 0 := hA.z
  have eA : σ = zf τ 36 0 := hA
  rw [← eA] at h8
  rcases h6 with ⟨hk, c6, hs⟩ | ⟨hk, c6, hs⟩ | ⟨hk, r6⟩
  · rcases h8 with ⟨c8, hw, ht⟩ | ⟨c8, d8, hw, ht⟩ | ⟨c8, d8, r8⟩
    · rw [hs, ht, hk]
      exact ⟨hA.t36, zf_eq, fun h => absurd h (by decide)⟩
    · exfalso
      omega
    · exfalso
      omega
  · rcases h8 with ⟨c8, hw, ht⟩ | ⟨c8, d8, hw, ht⟩ | ⟨c8, d8, r8⟩
    · exfalso
      omega
    · rw [hs, ht, hk]
      exact ⟨hA.t36, zf_eq, fun h => absurd h (by decide)⟩
    · exfalso
      omega
  · rcases h8 with ⟨c8, hw, ht⟩ | ⟨c8, d8, hw, ht⟩ | ⟨c8, d8, r8⟩
    · exfalso
      omega
    · exfalso
      omega
    · skip
      rcases r6 with ⟨⟨c1, c2, c3, c4⟩, (⟨c5, c6, c7⟩ | ⟨c8, c9, c10⟩)⟩
      · rcases r8 with ⟨c81, c82, c83⟩ | ⟨c84, c85, c86⟩
        · skip
          have yw : y = w := by omega
          have eq : σ' = τ' := by rw [c7, c83]
          have t36 : τ' 36 = 0 := by
            rw [c83]
            exact ((zrf_lo (by decide)).trans (rfl)).trans z36
          exact ⟨.of eq t36, t36.trans hk.symm, fun _ => yw⟩
        · skip
          exfalso
          omega
      · rcases r8 with ⟨c81, c82, c83⟩ | ⟨c84, c85, c86⟩
        · skip
          exfalso
          omega
        · skip
          have yw : y = w := by omega
          have eq : σ' = τ' := by rw [c10, c86]
          have t36 : τ' 36 = 0 := by
            rw [c86]
            exact ((zdn_ne (by decide)).trans ((zfT_lo (by decide)).trans ((zw4_h8 (by decide) (by omega)).trans (rfl)))).trans z36
          exact ⟨.of eq t36, t36.trans hk.symm, fun _ => yw⟩
def zr6_run (σ : Nat → Int) (q x st n th y : Int) (σ' : Nat → Int) : Prop := (th = 1 ∧ (¬ (0 ≤ q ∧ q < 6)) ∧ σ' = σ) ∨ (th = 2 ∧ ((0 ≤ q ∧ q < 6) ∧ ¬ (0 ≤ x ∧ x ≤ 255 ∧ 0 ≤ st ∧ st ≤ 255 ∧ 0 ≤ n ∧ n ≤ 40)) ∧ σ' = σ) ∨ (th = 0 ∧ (0 ≤ q ∧ q < 6 ∧ 0 ≤ x ∧ x ≤ 255 ∧ 0 ≤ st ∧ st ≤ 255 ∧ 0 ≤ n ∧ n ≤ 40) ∧ 0 ≤ y ∧ y ≤ n ∧ y ≤ σ (4 * q.toNat + 1) - σ (4 * q.toNat + 2) ∧ (y = n ∨ y = σ (4 * q.toNat + 1) - σ (4 * q.toNat + 2)) ∧ σ' = zdn (zly (zw4 σ q.toNat (σ (4 * q.toNat)) (σ (4 * q.toNat + 1)) (σ (4 * q.toNat + 2) + y) (σ (4 * q.toNat + 3))) (zTp (σ (40 + q.toNat) + σ (4 * q.toNat + 2))) (y).toNat (fun j => (x + (j : Int) * st) % 256)))
set_option maxHeartbeats 1000000 in
theorem ag_run {σ σ' τ τ' : Nat → Int} {q x st n th y w : Int} (hA : zA6 σ τ) (hq : -2147483648 ≤ q ∧ q ≤ 2147483647) (hx : -2147483648 ≤ x ∧ x ≤ 2147483647) (hst : -2147483648 ≤ st ∧ st ≤ 2147483647) (hn : -2147483648 ≤ n ∧ n ≤ 2147483647) (h6 : zr6_run σ q x st n th y σ') (h8 : (¬ (0 ≤ q ∧ q ≤ 5) ∧ w = 0 ∧ τ' = zf τ 36 1) ∨ ((0 ≤ q ∧ q ≤ 5) ∧ ¬ (0 ≤ x ∧ x ≤ 255 ∧ 0 ≤ st ∧ st ≤ 255 ∧ 0 ≤ n ∧ n ≤ 40) ∧ w = 0 ∧ τ' = zf τ 36 2) ∨ ((0 ≤ q ∧ q ≤ 5) ∧ (0 ≤ x ∧ x ≤ 255 ∧ 0 ≤ st ∧ st ≤ 255 ∧ 0 ≤ n ∧ n ≤ 40) ∧ (0 ≤ w ∧ w ≤ n ∧ w ≤ (zf τ 36 0) (4 * q.toNat + 1) - (zf τ 36 0) (4 * q.toNat + 2) ∧ (w = n ∨ w = (zf τ 36 0) (4 * q.toNat + 1) - (zf τ 36 0) (4 * q.toNat + 2)) ∧ τ' = zdn (zly (zw4 (zf τ 36 0) q.toNat ((zf τ 36 0) (4 * q.toNat)) ((zf τ 36 0) (4 * q.toNat + 1)) ((zf τ 36 0) (4 * q.toNat + 2) + w) ((zf τ 36 0) (4 * q.toNat + 3))) (zTp ((zf τ 36 0) (40 + q.toNat) + (zf τ 36 0) (4 * q.toNat + 2))) w.toNat (fun j => (x + (j : Int) * st) % 256))))) : zA6 σ' τ' ∧ τ' 36 = th ∧ (th = 0 → y = w) := by
  unfold zr6_run at h6
  have z36 : σ 36 = 0 := hA.z
  have eA : σ = zf τ 36 0 := hA
  rw [← eA] at h8
  rcases h6 with ⟨hk, c6, hs⟩ | ⟨hk, c6, hs⟩ | ⟨hk, r6⟩
  · rcases h8 with ⟨c8, hw, ht⟩ | ⟨c8, d8, hw, ht⟩ | ⟨c8, d8, r8⟩
    · rw [hs, ht, hk]
      exact ⟨hA.t36, zf_eq, fun h => absurd h (by decide)⟩
    · exfalso
      omega
    · exfalso
      omega
  · rcases h8 with ⟨c8, hw, ht⟩ | ⟨c8, d8, hw, ht⟩ | ⟨c8, d8, r8⟩
    · exfalso
      omega
    · rw [hs, ht, hk]
      exact ⟨hA.t36, zf_eq, fun h => absurd h (by decide)⟩
    · exfalso
      omega
  · rcases h8 with ⟨c8, hw, ht⟩ | ⟨c8, d8, hw, ht⟩ | ⟨c8, d8, r8⟩
    · exfalso
      omega
    · exfalso
      omega
    · skip
      obtain ⟨⟨c1, c2, c3, c4, c5, c6, c7, c8⟩, c9, c10, c11, d15, c14⟩ := r6
      obtain ⟨c81, c82, c83, d87, c86⟩ := r8
      have yw : y = w := by omega
      subst yw
      have eq : σ' = τ' := by rw [c14, c86]
      have t36 : τ' 36 = 0 := by
        rw [c86]
        exact ((zdn_ne (by decide)).trans ((zlyT_lo (by decide)).trans ((zw4_h8 (by decide) (by omega)).trans (rfl)))).trans z36
      exact ⟨.of eq t36, t36.trans hk.symm, fun _ => rfl⟩
def zr6_write (σ : Nat → Int) (q x n th y : Int) (σ' : Nat → Int) : Prop := (th = 1 ∧ (¬ (0 ≤ q ∧ q < 6)) ∧ σ' = σ) ∨ (th = 2 ∧ ((0 ≤ q ∧ q < 6) ∧ ¬ (0 ≤ x ∧ 0 ≤ n ∧ n ≤ 20)) ∧ σ' = σ) ∨ (th = 0 ∧ (0 ≤ q ∧ q < 6 ∧ 0 ≤ x ∧ 0 ≤ n ∧ n ≤ 20) ∧ 0 ≤ y ∧ y ≤ n ∧ y ≤ σ (4 * q.toNat + 1) - σ (4 * q.toNat + 2) ∧ (y = n ∨ y = σ (4 * q.toNat + 1) - σ (4 * q.toNat + 2)) ∧ σ' = zdn (zly (zw4 σ q.toNat (σ (4 * q.toNat)) (σ (4 * q.toNat + 1)) (σ (4 * q.toNat + 2) + y) (σ (4 * q.toNat + 3))) (zTp (σ (40 + q.toNat) + σ (4 * q.toNat + 2))) (y).toNat (fun j => 97 + zlt x j % 3)))
set_option maxHeartbeats 1000000 in
theorem ag_write {σ σ' τ τ' : Nat → Int} {q x n th y w : Int} (hA : zA6 σ τ) (hq : -2147483648 ≤ q ∧ q ≤ 2147483647) (hx : -2147483648 ≤ x ∧ x ≤ 2147483647) (hn : -2147483648 ≤ n ∧ n ≤ 2147483647) (h6 : zr6_write σ q x n th y σ') (h8 : (¬ (0 ≤ q ∧ q ≤ 5) ∧ w = 0 ∧ τ' = zf τ 36 1) ∨ ((0 ≤ q ∧ q ≤ 5) ∧ ¬ (0 ≤ x ∧ 0 ≤ n ∧ n ≤ 20) ∧ w = 0 ∧ τ' = zf τ 36 2) ∨ ((0 ≤ q ∧ q ≤ 5) ∧ (0 ≤ x ∧ 0 ≤ n ∧ n ≤ 20) ∧ (0 ≤ w ∧ w ≤ n ∧ w ≤ (zf τ 36 0) (4 * q.toNat + 1) - (zf τ 36 0) (4 * q.toNat + 2) ∧ (w = n ∨ w = (zf τ 36 0) (4 * q.toNat + 1) - (zf τ 36 0) (4 * q.toNat + 2)) ∧ τ' = zdn (zly (zw4 (zf τ 36 0) q.toNat ((zf τ 36 0) (4 * q.toNat)) ((zf τ 36 0) (4 * q.toNat + 1)) ((zf τ 36 0) (4 * q.toNat + 2) + w) ((zf τ 36 0) (4 * q.toNat + 3))) (zTp ((zf τ 36 0) (40 + q.toNat) + (zf τ 36 0) (4 * q.toNat + 2))) w.toNat (fun j => 97 + zlt x j % 3))))) : zA6 σ' τ' ∧ τ' 36 = th ∧ (th = 0 → y = w) := by
  unfold zr6_write at h6
  have z36 : σ 36 = 0 := hA.z
  have eA : σ = zf τ 36 0 := hA
  rw [← eA] at h8
  rcases h6 with ⟨hk, c6, hs⟩ | ⟨hk, c6, hs⟩ | ⟨hk, r6⟩
  · rcases h8 with ⟨c8, hw, ht⟩ | ⟨c8, d8, hw, ht⟩ | ⟨c8, d8, r8⟩
    · rw [hs, ht, hk]
      exact ⟨hA.t36, zf_eq, fun h => absurd h (by decide)⟩
    · exfalso
      omega
    · exfalso
      omega
  · rcases h8 with ⟨c8, hw, ht⟩ | ⟨c8, d8, hw, ht⟩ | ⟨c8, d8, r8⟩
    · exfalso
      omega
    · rw [hs, ht, hk]
      exact ⟨hA.t36, zf_eq, fun h => absurd h (by decide)⟩
    · exfalso
      omega
  · rcases h8 with ⟨c8, hw, ht⟩ | ⟨c8, d8, hw, ht⟩ | ⟨c8, d8, r8⟩
    · exfalso
      omega
    · exfalso
      omega
    · skip
      obtain ⟨⟨c1, c2, c3, c4, c5⟩, c6, c7, c8, d12, c11⟩ := r6
      obtain ⟨c81, c82, c83, d87, c86⟩ := r8
      have yw : y = w := by omega
      subst yw
      have eq : σ' = τ' := by rw [c11, c86]
      have t36 : τ' 36 = 0 := by
        rw [c86]
        exact ((zdn_ne (by decide)).trans ((zlyT_lo (by decide)).trans ((zw4_h8 (by decide) (by omega)).trans (rfl)))).trans z36
      exact ⟨.of eq t36, t36.trans hk.symm, fun _ => rfl⟩
def zr6_get (σ : Nat → Int) (q th y : Int) (σ' : Nat → Int) : Prop := (th = 1 ∧ (¬ (0 ≤ q ∧ q < 6)) ∧ σ' = σ) ∨ (th = 0 ∧ (0 ≤ q ∧ q < 6) ∧ ((¬ σ (4 * q.toNat + 2) < σ (4 * q.toNat + 1) ∧ y = -9 ∧ σ' = zrf σ) ∨ (σ (4 * q.toNat + 2) < σ (4 * q.toNat + 1) ∧ y = σ (zTp (σ (40 + q.toNat) + σ (4 * q.toNat + 2))) ∧ σ' = zdn (zw4 σ q.toNat (σ (4 * q.toNat)) (σ (4 * q.toNat + 1)) (σ (4 * q.toNat + 2) + 1) (σ (4 * q.toNat + 3))))))
set_option maxHeartbeats 1000000 in
theorem ag_get {σ σ' τ τ' : Nat → Int} {q th y w : Int} (hA : zA6 σ τ) (hq : -2147483648 ≤ q ∧ q ≤ 2147483647) (h6 : zr6_get σ q th y σ') (h8 : (¬ (0 ≤ q ∧ q ≤ 5) ∧ w = 0 ∧ τ' = zf τ 36 1) ∨ ((0 ≤ q ∧ q ≤ 5) ∧ ¬ (True) ∧ w = 0 ∧ τ' = zf τ 36 2) ∨ ((0 ≤ q ∧ q ≤ 5) ∧ (True) ∧ ((¬ (zf τ 36 0) (4 * q.toNat + 2) < (zf τ 36 0) (4 * q.toNat + 1) ∧ w = -9 ∧ τ' = zrf (zf τ 36 0)) ∨ ((zf τ 36 0) (4 * q.toNat + 2) < (zf τ 36 0) (4 * q.toNat + 1) ∧ w = (zf τ 36 0) (zTp ((zf τ 36 0) (40 + q.toNat) + (zf τ 36 0) (4 * q.toNat + 2))) ∧ τ' = zdn (zw4 (zf τ 36 0) q.toNat ((zf τ 36 0) (4 * q.toNat)) ((zf τ 36 0) (4 * q.toNat + 1)) ((zf τ 36 0) (4 * q.toNat + 2) + 1) ((zf τ 36 0) (4 * q.toNat + 3))))))) : zA6 σ' τ' ∧ τ' 36 = th ∧ (th = 0 → y = w) := by
  unfold zr6_get at h6
  have z36 : σ 36 = 0 := hA.z
  have eA : σ = zf τ 36 0 := hA
  rw [← eA] at h8
  rcases h6 with ⟨hk, c6, hs⟩ | ⟨hk, r6⟩
  · rcases h8 with ⟨c8, hw, ht⟩ | ⟨c8, d8, hw, ht⟩ | ⟨c8, d8, r8⟩
    · rw [hs, ht, hk]
      exact ⟨hA.t36, zf_eq, fun h => absurd h (by decide)⟩
    · exact absurd trivial d8
    · exfalso
      omega
  · rcases h8 with ⟨c8, hw, ht⟩ | ⟨c8, d8, hw, ht⟩ | ⟨c8, d8, r8⟩
    · exfalso
      omega
    · exact absurd trivial d8
    · skip
      rcases r6 with ⟨⟨c1, c2⟩, (⟨c3, c4, c5⟩ | ⟨c6, c7, c8⟩)⟩
      · rcases r8 with ⟨c81, c82, c83⟩ | ⟨c84, c85, c86⟩
        · skip
          have yw : y = w := by omega
          have eq : σ' = τ' := by rw [c5, c83]
          have t36 : τ' 36 = 0 := by
            rw [c83]
            exact ((zrf_lo (by decide)).trans (rfl)).trans z36
          exact ⟨.of eq t36, t36.trans hk.symm, fun _ => yw⟩
        · skip
          exfalso
          omega
      · rcases r8 with ⟨c81, c82, c83⟩ | ⟨c84, c85, c86⟩
        · skip
          exfalso
          omega
        · skip
          have yw : y = w := by omega
          have eq : σ' = τ' := by rw [c8, c86]
          have t36 : τ' 36 = 0 := by
            rw [c86]
            exact ((zdn_ne (by decide)).trans ((zw4_h8 (by decide) (by omega)).trans (rfl))).trans z36
          exact ⟨.of eq t36, t36.trans hk.symm, fun _ => yw⟩
def zr6_read (σ : Nat → Int) (q n th y : Int) (σ' : Nat → Int) : Prop := (th = 1 ∧ (¬ (0 ≤ q ∧ q < 6)) ∧ σ' = σ) ∨ (th = 2 ∧ ((0 ≤ q ∧ q < 6) ∧ ¬ (0 ≤ n ∧ n ≤ 40)) ∧ σ' = σ) ∨ (th = 0 ∧ (0 ≤ q ∧ q < 6 ∧ 0 ≤ n ∧ n ≤ 40) ∧ ∃ k : Int, 0 ≤ k ∧ k ≤ n ∧ k ≤ σ (4 * q.toNat + 1) - σ (4 * q.toNat + 2) ∧ (k = n ∨ k = σ (4 * q.toNat + 1) - σ (4 * q.toNat + 2)) ∧ σ' = zdn (zw4 σ q.toNat (σ (4 * q.toNat)) (σ (4 * q.toNat + 1)) (σ (4 * q.toNat + 2) + k) (σ (4 * q.toNat + 3))))
set_option maxHeartbeats 1000000 in
theorem ag_read {σ σ' τ τ' : Nat → Int} {q n th y w : Int} (hA : zA6 σ τ) (hq : -2147483648 ≤ q ∧ q ≤ 2147483647) (hn : -2147483648 ≤ n ∧ n ≤ 2147483647) (h6 : zr6_read σ q n th y σ') (h8 : (¬ (0 ≤ q ∧ q ≤ 5) ∧ τ' = zf τ 36 1) ∨ ((0 ≤ q ∧ q ≤ 5) ∧ ¬ (0 ≤ n ∧ n ≤ 40) ∧ τ' = zf τ 36 2) ∨ ((0 ≤ q ∧ q ≤ 5) ∧ (0 ≤ n ∧ n ≤ 40) ∧ (∃ k : Int, 0 ≤ k ∧ k ≤ n ∧ k ≤ (zf τ 36 0) (4 * q.toNat + 1) - (zf τ 36 0) (4 * q.toNat + 2) ∧ (k = n ∨ k = (zf τ 36 0) (4 * q.toNat + 1) - (zf τ 36 0) (4 * q.toNat + 2)) ∧ τ' = zdn (zw4 (zf τ 36 0) q.toNat ((zf τ 36 0) (4 * q.toNat)) ((zf τ 36 0) (4 * q.toNat + 1)) ((zf τ 36 0) (4 * q.toNat + 2) + k) ((zf τ 36 0) (4 * q.toNat + 3)))))) : zA6 σ' τ' ∧ τ' 36 = th := by
  unfold zr6_read at h6
  have z36 : σ 36 = 0 := hA.z
  have eA : σ = zf τ 36 0 := hA
  rw [← eA] at h8
  rcases h6 with ⟨hk, c6, hs⟩ | ⟨hk, c6, hs⟩ | ⟨hk, r6⟩
  · rcases h8 with ⟨c8, ht⟩ | ⟨c8, d8, ht⟩ | ⟨c8, d8, r8⟩
    · rw [hs, ht, hk]
      exact ⟨hA.t36, zf_eq⟩
    · exfalso
      omega
    · exfalso
      omega
  · rcases h8 with ⟨c8, ht⟩ | ⟨c8, d8, ht⟩ | ⟨c8, d8, r8⟩
    · exfalso
      omega
    · rw [hs, ht, hk]
      exact ⟨hA.t36, zf_eq⟩
    · exfalso
      omega
  · rcases h8 with ⟨c8, ht⟩ | ⟨c8, d8, ht⟩ | ⟨c8, d8, r8⟩
    · exfalso
      omega
    · exfalso
      omega
    · skip
      obtain ⟨⟨c1, c2, c3, c4⟩, ⟨kk6, ⟨c5, c6, c7, d11, c10⟩⟩⟩ := r6
      obtain ⟨kk8, ⟨c81, c82, c83, d87, c86⟩⟩ := r8
      have yk : kk6 = kk8 := by omega
      subst yk
      have eq : σ' = τ' := by rw [c10, c86]
      have t36 : τ' 36 = 0 := by
        rw [c86]
        exact ((zdn_ne (by decide)).trans ((zw4_h8 (by decide) (by omega)).trans (rfl))).trans z36
      exact ⟨.of eq t36, t36.trans hk.symm⟩
def zr6_pour (σ : Nat → Int) (q q2 n th y : Int) (σ' : Nat → Int) : Prop := (th = 1 ∧ (¬ (0 ≤ q ∧ q < 6 ∧ 0 ≤ q2 ∧ q2 < 6)) ∧ σ' = σ) ∨ (th = 2 ∧ ((0 ≤ q ∧ q < 6 ∧ 0 ≤ q2 ∧ q2 < 6) ∧ ¬ (q ≠ q2 ∧ 0 ≤ n ∧ n ≤ 40)) ∧ σ' = σ) ∨ (th = 0 ∧ (0 ≤ q ∧ q < 6 ∧ 0 ≤ q2 ∧ q2 < 6 ∧ q ≠ q2 ∧ 0 ≤ n ∧ n ≤ 40) ∧ 0 ≤ y ∧ y ≤ n ∧ y ≤ σ (4 * q.toNat + 1) - σ (4 * q.toNat + 2) ∧ y ≤ σ (4 * q2.toNat + 1) - σ (4 * q2.toNat + 2) ∧ (y = n ∨ y = σ (4 * q.toNat + 1) - σ (4 * q.toNat + 2) ∨ y = σ (4 * q2.toNat + 1) - σ (4 * q2.toNat + 2)) ∧ σ' = zdn (zpo (zw4 (zw4 σ q.toNat (σ (4 * q.toNat)) (σ (4 * q.toNat + 1)) (σ (4 * q.toNat + 2) + y) (σ (4 * q.toNat + 3))) q2.toNat (σ (4 * q2.toNat)) (σ (4 * q2.toNat + 1)) (σ (4 * q2.toNat + 2) + y) (σ (4 * q2.toNat + 3))) (zTp (σ (40 + q.toNat) + σ (4 * q.toNat + 2))) (zTp (σ (40 + q2.toNat) + σ (4 * q2.toNat + 2))) (y).toNat))
theorem rq_pour {σ σ' : Nat → Int} {q n y : Int} (h : False) : (0 ≤ q ∧ q < 6 ∧ 0 ≤ q ∧ q < 6 ∧ q ≠ q ∧ 0 ≤ n ∧ n ≤ 40) ∧ 0 ≤ y ∧ y ≤ n ∧ y ≤ σ (4 * q.toNat + 1) - σ (4 * q.toNat + 2) ∧ y ≤ σ (4 * q.toNat + 1) - σ (4 * q.toNat + 2) ∧ (y = n ∨ y = σ (4 * q.toNat + 1) - σ (4 * q.toNat + 2) ∨ y = σ (4 * q.toNat + 1) - σ (4 * q.toNat + 2)) ∧ σ' = zdn (zpo (zw4 (zw4 σ q.toNat (σ (4 * q.toNat)) (σ (4 * q.toNat + 1)) (σ (4 * q.toNat + 2) + y) (σ (4 * q.toNat + 3))) q.toNat (σ (4 * q.toNat)) (σ (4 * q.toNat + 1)) (σ (4 * q.toNat + 2) + y) (σ (4 * q.toNat + 3))) (zTp (σ (40 + q.toNat) + σ (4 * q.toNat + 2))) (zTp (σ (40 + q.toNat) + σ (4 * q.toNat + 2))) (y).toNat) := by
  exact h.elim
set_option maxHeartbeats 1000000 in
theorem ag_pour {σ σ' τ τ' : Nat → Int} {q q2 n th y w : Int} (hA : zA6 σ τ) (hq : -2147483648 ≤ q ∧ q ≤ 2147483647) (hq2 : -2147483648 ≤ q2 ∧ q2 ≤ 2147483647) (hn : -2147483648 ≤ n ∧ n ≤ 2147483647) (h6 : zr6_pour σ q q2 n th y σ') (h8 : (¬ ((0 ≤ q ∧ q ≤ 5) ∧ (0 ≤ q2 ∧ q2 ≤ 5)) ∧ w = 0 ∧ τ' = zf τ 36 1) ∨ (((0 ≤ q ∧ q ≤ 5) ∧ (0 ≤ q2 ∧ q2 ≤ 5)) ∧ ¬ (q ≠ q2 ∧ 0 ≤ n ∧ n ≤ 40) ∧ w = 0 ∧ τ' = zf τ 36 2) ∨ (((0 ≤ q ∧ q ≤ 5) ∧ (0 ≤ q2 ∧ q2 ≤ 5)) ∧ (q ≠ q2 ∧ 0 ≤ n ∧ n ≤ 40) ∧ (0 ≤ w ∧ w ≤ n ∧ w ≤ (zf τ 36 0) (4 * q.toNat + 1) - (zf τ 36 0) (4 * q.toNat + 2) ∧ w ≤ (zf τ 36 0) (4 * q2.toNat + 1) - (zf τ 36 0) (4 * q2.toNat + 2) ∧ (w = n ∨ w = (zf τ 36 0) (4 * q.toNat + 1) - (zf τ 36 0) (4 * q.toNat + 2) ∨ w = (zf τ 36 0) (4 * q2.toNat + 1) - (zf τ 36 0) (4 * q2.toNat + 2)) ∧ τ' = zdn (zpo (zw4 (zw4 (zf τ 36 0) q.toNat ((zf τ 36 0) (4 * q.toNat)) ((zf τ 36 0) (4 * q.toNat + 1)) ((zf τ 36 0) (4 * q.toNat + 2) + w) ((zf τ 36 0) (4 * q.toNat + 3))) q2.toNat ((zf τ 36 0) (4 * q2.toNat)) ((zf τ 36 0) (4 * q2.toNat + 1)) ((zf τ 36 0) (4 * q2.toNat + 2) + w) ((zf τ 36 0) (4 * q2.toNat + 3))) (zTp ((zf τ 36 0) (40 + q.toNat) + (zf τ 36 0) (4 * q.toNat + 2))) (zTp ((zf τ 36 0) (40 + q2.toNat) + (zf τ 36 0) (4 * q2.toNat + 2))) (w).toNat)))) : zA6 σ' τ' ∧ τ' 36 = th ∧ (th = 0 → y = w) := by
  unfold zr6_pour at h6
  have z36 : σ 36 = 0 := hA.z
  have eA : σ = zf τ 36 0 := hA
  rw [← eA] at h8
  rcases h6 with ⟨hk, c6, hs⟩ | ⟨hk, c6, hs⟩ | ⟨hk, r6⟩
  · rcases h8 with ⟨c8, hw, ht⟩ | ⟨c8, d8, hw, ht⟩ | ⟨c8, d8, r8⟩
    · rw [hs, ht, hk]
      exact ⟨hA.t36, zf_eq, fun h => absurd h (by decide)⟩
    · exfalso
      omega
    · exfalso
      omega
  · rcases h8 with ⟨c8, hw, ht⟩ | ⟨c8, d8, hw, ht⟩ | ⟨c8, d8, r8⟩
    · exfalso
      omega
    · rw [hs, ht, hk]
      exact ⟨hA.t36, zf_eq, fun h => absurd h (by decide)⟩
    · exfalso
      omega
  · rcases h8 with ⟨c8, hw, ht⟩ | ⟨c8, d8, hw, ht⟩ | ⟨c8, d8, r8⟩
    · exfalso
      omega
    · exfalso
      omega
    · skip
      obtain ⟨⟨c1, c2, c3, c4, c5, c6, c7⟩, c8, c9, c10, c11, d16, c15⟩ := r6
      obtain ⟨c81, c82, c83, c84, d89, c88⟩ := r8
      have yw : y = w := by omega
      subst yw
      have eq : σ' = τ' := by rw [c15, c88]
      have t36 : τ' 36 = 0 := by
        rw [c88]
        exact ((zdn_ne (by decide)).trans ((zpoT_lo (by decide)).trans ((zw4_h8 (by decide) (by omega)).trans ((zw4_h8 (by decide) (by omega)).trans (rfl))))).trans z36
      exact ⟨.of eq t36, t36.trans hk.symm, fun _ => rfl⟩
def zr6_mark (σ : Nat → Int) (q th y : Int) (σ' : Nat → Int) : Prop := (th = 1 ∧ (¬ (0 ≤ q ∧ q < 6)) ∧ σ' = σ) ∨ (th = 0 ∧ (0 ≤ q ∧ q < 6) ∧ y = σ (4 * q.toNat + 2) ∧ σ' = zdn (zw4 σ q.toNat (σ (4 * q.toNat)) (σ (4 * q.toNat + 1)) (σ (4 * q.toNat + 2)) (σ (4 * q.toNat + 2))))
set_option maxHeartbeats 1000000 in
theorem ag_mark {σ σ' τ τ' : Nat → Int} {q th y w : Int} (hA : zA6 σ τ) (hq : -2147483648 ≤ q ∧ q ≤ 2147483647) (h6 : zr6_mark σ q th y σ') (h8 : (¬ (0 ≤ q ∧ q ≤ 5) ∧ w = 0 ∧ τ' = zf τ 36 1) ∨ ((0 ≤ q ∧ q ≤ 5) ∧ ¬ (True) ∧ w = 0 ∧ τ' = zf τ 36 2) ∨ ((0 ≤ q ∧ q ≤ 5) ∧ (True) ∧ (w = (zf τ 36 0) (4 * q.toNat + 2) ∧ τ' = zdn (zw4 (zf τ 36 0) q.toNat ((zf τ 36 0) (4 * q.toNat)) ((zf τ 36 0) (4 * q.toNat + 1)) ((zf τ 36 0) (4 * q.toNat + 2)) ((zf τ 36 0) (4 * q.toNat + 2)))))) : zA6 σ' τ' ∧ τ' 36 = th ∧ (th = 0 → y = w) := by
  unfold zr6_mark at h6
  have z36 : σ 36 = 0 := hA.z
  have eA : σ = zf τ 36 0 := hA
  rw [← eA] at h8
  rcases h6 with ⟨hk, c6, hs⟩ | ⟨hk, r6⟩
  · rcases h8 with ⟨c8, hw, ht⟩ | ⟨c8, d8, hw, ht⟩ | ⟨c8, d8, r8⟩
    · rw [hs, ht, hk]
      exact ⟨hA.t36, zf_eq, fun h => absurd h (by decide)⟩
    · exact absurd trivial d8
    · exfalso
      omega
  · rcases h8 with ⟨c8, hw, ht⟩ | ⟨c8, d8, hw, ht⟩ | ⟨c8, d8, r8⟩
    · exfalso
      omega
    · exact absurd trivial d8
    · skip
      obtain ⟨⟨c1, c2⟩, c3, c4⟩ := r6
      obtain ⟨c81, c82⟩ := r8
      have yw : y = w := by omega
      have eq : σ' = τ' := by rw [c4, c82]
      have t36 : τ' 36 = 0 := by
        rw [c82]
        exact ((zdn_ne (by decide)).trans ((zw4_h8 (by decide) (by omega)).trans (rfl))).trans z36
      exact ⟨.of eq t36, t36.trans hk.symm, fun _ => yw⟩
def zr6_reset (σ : Nat → Int) (q th y : Int) (σ' : Nat → Int) : Prop := (th = 1 ∧ (¬ (0 ≤ q ∧ q < 6)) ∧ σ' = σ) ∨ (th = 0 ∧ (0 ≤ q ∧ q < 6) ∧ ((σ (4 * q.toNat + 3) = -9 ∧ y = -9 ∧ σ' = zrf σ) ∨ (σ (4 * q.toNat + 3) ≠ -9 ∧ y = σ (4 * q.toNat + 3) ∧ σ' = zdn (zw4 σ q.toNat (σ (4 * q.toNat)) (σ (4 * q.toNat + 1)) (σ (4 * q.toNat + 3)) (σ (4 * q.toNat + 3))))))
set_option maxHeartbeats 1000000 in
theorem ag_reset {σ σ' τ τ' : Nat → Int} {q th y w : Int} (hA : zA6 σ τ) (hq : -2147483648 ≤ q ∧ q ≤ 2147483647) (h6 : zr6_reset σ q th y σ') (h8 : (¬ (0 ≤ q ∧ q ≤ 5) ∧ w = 0 ∧ τ' = zf τ 36 1) ∨ ((0 ≤ q ∧ q ≤ 5) ∧ ¬ (True) ∧ w = 0 ∧ τ' = zf τ 36 2) ∨ ((0 ≤ q ∧ q ≤ 5) ∧ (True) ∧ (((zf τ 36 0) (4 * q.toNat + 3) = -9 ∧ w = -9 ∧ τ' = zrf (zf τ 36 0)) ∨ ((zf τ 36 0) (4 * q.toNat + 3) ≠ -9 ∧ w = (zf τ 36 0) (4 * q.toNat + 3) ∧ τ' = zdn (zw4 (zf τ 36 0) q.toNat ((zf τ 36 0) (4 * q.toNat)) ((zf τ 36 0) (4 * q.toNat + 1)) ((zf τ 36 0) (4 * q.toNat + 3)) ((zf τ 36 0) (4 * q.toNat + 3))))))) : zA6 σ' τ' ∧ τ' 36 = th ∧ (th = 0 → y = w) := by
  unfold zr6_reset at h6
  have z36 : σ 36 = 0 := hA.z
  have eA : σ = zf τ 36 0 := hA
  rw [← eA] at h8
  rcases h6 with ⟨hk, c6, hs⟩ | ⟨hk, r6⟩
  · rcases h8 with ⟨c8, hw, ht⟩ | ⟨c8, d8, hw, ht⟩ | ⟨c8, d8, r8⟩
    · rw [hs, ht, hk]
      exact ⟨hA.t36, zf_eq, fun h => absurd h (by decide)⟩
    · exact absurd trivial d8
    · exfalso
      omega
  · rcases h8 with ⟨c8, hw, ht⟩ | ⟨c8, d8, hw, ht⟩ | ⟨c8, d8, r8⟩
    · exfalso
      omega
    · exact absurd trivial d8
    · skip
      rcases r6 with ⟨⟨c1, c2⟩, (⟨c3, c4, c5⟩ | ⟨c6, c7, c8⟩)⟩
      · rcases r8 with ⟨c81, c82, c83⟩ | ⟨c84, c85, c86⟩
        · skip
          have yw : y = w := by omega
          have eq : σ' = τ' := by rw [c5, c83]
          have t36 : τ' 36 = 0 := by
            rw [c83]
            exact ((zrf_lo (by decide)).trans (rfl)).trans z36
          exact ⟨.of eq t36, t36.trans hk.symm, fun _ => yw⟩
        · skip
          exfalso
          omega
      · rcases r8 with ⟨c81, c82, c83⟩ | ⟨c84, c85, c86⟩
        · skip
          exfalso
          omega
        · skip
          have yw : y = w := by omega
          have eq : σ' = τ' := by rw [c8, c86]
          have t36 : τ' 36 = 0 := by
            rw [c86]
            exact ((zdn_ne (by decide)).trans ((zw4_h8 (by decide) (by omega)).trans (rfl))).trans z36
          exact ⟨.of eq t36, t36.trans hk.symm, fun _ => yw⟩
def zr6_rewind (σ : Nat → Int) (q th y : Int) (σ' : Nat → Int) : Prop := (th = 1 ∧ (¬ (0 ≤ q ∧ q < 6)) ∧ σ' = σ) ∨ (th = 0 ∧ (0 ≤ q ∧ q < 6) ∧ y = σ (4 * q.toNat + 1) - 0 ∧ σ' = zdn (zw4 σ q.toNat (σ (4 * q.toNat)) (σ (4 * q.toNat + 1)) 0 (-9)))
set_option maxHeartbeats 1000000 in
theorem ag_rewind {σ σ' τ τ' : Nat → Int} {q th y w : Int} (hA : zA6 σ τ) (hq : -2147483648 ≤ q ∧ q ≤ 2147483647) (h6 : zr6_rewind σ q th y σ') (h8 : (¬ (0 ≤ q ∧ q ≤ 5) ∧ w = 0 ∧ τ' = zf τ 36 1) ∨ ((0 ≤ q ∧ q ≤ 5) ∧ ¬ (True) ∧ w = 0 ∧ τ' = zf τ 36 2) ∨ ((0 ≤ q ∧ q ≤ 5) ∧ (True) ∧ (w = (zf τ 36 0) (4 * q.toNat + 1) - 0 ∧ τ' = zdn (zw4 (zf τ 36 0) q.toNat ((zf τ 36 0) (4 * q.toNat)) ((zf τ 36 0) (4 * q.toNat + 1)) 0 (-9))))) : zA6 σ' τ' ∧ τ' 36 = th ∧ (th = 0 → y = w) := by
  unfold zr6_rewind at h6
  have z36 : σ 36 = 0 := hA.z
  have eA : σ = zf τ 36 0 := hA
  rw [← eA] at h8
  rcases h6 with ⟨hk, c6, hs⟩ | ⟨hk, r6⟩
  · rcases h8 with ⟨c8, hw, ht⟩ | ⟨c8, d8, hw, ht⟩ | ⟨c8, d8, r8⟩
    · rw [hs, ht, hk]
      exact ⟨hA.t36, zf_eq, fun h => absurd h (by decide)⟩
    · exact absurd trivial d8
    · exfalso
      omega
  · rcases h8 with ⟨c8, hw, ht⟩ | ⟨c8, d8, hw, ht⟩ | ⟨c8, d8, r8⟩
    · exfalso
      omega
    · exact absurd trivial d8
    · skip
      obtain ⟨⟨c1, c2⟩, c3, c4⟩ := r6
      obtain ⟨c81, c82⟩ := r8
      have yw : y = w := by omega
      have eq : σ' = τ' := by rw [c4, c82]
      have t36 : τ' 36 = 0 := by
        rw [c82]
        exact ((zdn_ne (by decide)).trans ((zw4_h8 (by decide) (by omega)).trans (rfl))).trans z36
      exact ⟨.of eq t36, t36.trans hk.symm, fun _ => yw⟩
def zr6_flip (σ : Nat → Int) (q th y : Int) (σ' : Nat → Int) : Prop := (th = 1 ∧ (¬ (0 ≤ q ∧ q < 6)) ∧ σ' = σ) ∨ (th = 0 ∧ (0 ≤ q ∧ q < 6) ∧ y = σ (4 * q.toNat + 2) - 0 ∧ σ' = zdn (zw4 σ q.toNat (σ (4 * q.toNat)) (σ (4 * q.toNat + 2)) 0 (-9)))
set_option maxHeartbeats 1000000 in
theorem ag_flip {σ σ' τ τ' : Nat → Int} {q th y w : Int} (hA : zA6 σ τ) (hq : -2147483648 ≤ q ∧ q ≤ 2147483647) (h6 : zr6_flip σ q th y σ') (h8 : (¬ (0 ≤ q ∧ q ≤ 5) ∧ w = 0 ∧ τ' = zf τ 36 1) ∨ ((0 ≤ q ∧ q ≤ 5) ∧ ¬ (True) ∧ w = 0 ∧ τ' = zf τ 36 2) ∨ ((0 ≤ q ∧ q ≤ 5) ∧ (True) ∧ (w = (zf τ 36 0) (4 * q.toNat + 2) - 0 ∧ τ' = zdn (zw4 (zf τ 36 0) q.toNat ((zf τ 36 0) (4 * q.toNat)) ((zf τ 36 0) (4 * q.toNat + 2)) 0 (-9))))) : zA6 σ' τ' ∧ τ' 36 = th ∧ (th = 0 → y = w) := by
  unfold zr6_flip at h6
  have z36 : σ 36 = 0 := hA.z
  have eA : σ = zf τ 36 0 := hA
  rw [← eA] at h8
  rcases h6 with ⟨hk, c6, hs⟩ | ⟨hk, r6⟩
  · rcases h8 with ⟨c8, hw, ht⟩ | ⟨c8, d8, hw, ht⟩ | ⟨c8, d8, r8⟩
    · rw [hs, ht, hk]
      exact ⟨hA.t36, zf_eq, fun h => absurd h (by decide)⟩
    · exact absurd trivial d8
    · exfalso
      omega
  · rcases h8 with ⟨c8, hw, ht⟩ | ⟨c8, d8, hw, ht⟩ | ⟨c8, d8, r8⟩
    · exfalso
      omega
    · exact absurd trivial d8
    · skip
      obtain ⟨⟨c1, c2⟩, c3, c4⟩ := r6
      obtain ⟨c81, c82⟩ := r8
      have yw : y = w := by omega
      have eq : σ' = τ' := by rw [c4, c82]
      have t36 : τ' 36 = 0 := by
        rw [c82]
        exact ((zdn_ne (by decide)).trans ((zw4_h8 (by decide) (by omega)).trans (rfl))).trans z36
      exact ⟨.of eq t36, t36.trans hk.symm, fun _ => yw⟩
def zr6_compact (σ : Nat → Int) (q th y : Int) (σ' : Nat → Int) : Prop := (th = 1 ∧ (¬ (0 ≤ q ∧ q < 6)) ∧ σ' = σ) ∨ (th = 0 ∧ (0 ≤ q ∧ q < 6) ∧ y = σ (4 * q.toNat + 1) - σ (4 * q.toNat + 2) ∧ σ' = zdn (zmt (zw4 σ q.toNat (σ (4 * q.toNat)) (σ (4 * q.toNat)) (σ (4 * q.toNat + 1) - σ (4 * q.toNat + 2)) (-9)) (σ (40 + q.toNat)).toNat (σ (4 * q.toNat + 1) - σ (4 * q.toNat + 2)).toNat (σ (4 * q.toNat + 2)).toNat))
set_option maxHeartbeats 1000000 in
theorem ag_compact {σ σ' τ τ' : Nat → Int} {q th y w : Int} (hA : zA6 σ τ) (hq : -2147483648 ≤ q ∧ q ≤ 2147483647) (h6 : zr6_compact σ q th y σ') (h8 : (¬ (0 ≤ q ∧ q ≤ 5) ∧ w = 0 ∧ τ' = zf τ 36 1) ∨ ((0 ≤ q ∧ q ≤ 5) ∧ ¬ (True) ∧ w = 0 ∧ τ' = zf τ 36 2) ∨ ((0 ≤ q ∧ q ≤ 5) ∧ (True) ∧ (w = (zf τ 36 0) (4 * q.toNat + 1) - (zf τ 36 0) (4 * q.toNat + 2) ∧ τ' = zdn (zmt (zw4 (zf τ 36 0) q.toNat ((zf τ 36 0) (4 * q.toNat)) ((zf τ 36 0) (4 * q.toNat)) ((zf τ 36 0) (4 * q.toNat + 1) - (zf τ 36 0) (4 * q.toNat + 2)) (-9)) ((zf τ 36 0) (40 + q.toNat)).toNat ((zf τ 36 0) (4 * q.toNat + 1) - (zf τ 36 0) (4 * q.toNat + 2)).toNat ((zf τ 36 0) (4 * q.toNat + 2)).toNat)))) : zA6 σ' τ' ∧ τ' 36 = th ∧ (th = 0 → y = w) := by
  unfold zr6_compact at h6
  have z36 : σ 36 = 0 := hA.z
  have eA : σ = zf τ 36 0 := hA
  rw [← eA] at h8
  rcases h6 with ⟨hk, c6, hs⟩ | ⟨hk, r6⟩
  · rcases h8 with ⟨c8, hw, ht⟩ | ⟨c8, d8, hw, ht⟩ | ⟨c8, d8, r8⟩
    · rw [hs, ht, hk]
      exact ⟨hA.t36, zf_eq, fun h => absurd h (by decide)⟩
    · exact absurd trivial d8
    · exfalso
      omega
  · rcases h8 with ⟨c8, hw, ht⟩ | ⟨c8, d8, hw, ht⟩ | ⟨c8, d8, r8⟩
    · exfalso
      omega
    · exact absurd trivial d8
    · skip
      obtain ⟨⟨c1, c2⟩, c3, c4⟩ := r6
      obtain ⟨c81, c82⟩ := r8
      have yw : y = w := by omega
      have eq : σ' = τ' := by rw [c4, c82]
      have t36 : τ' 36 = 0 := by
        rw [c82]
        exact ((zdn_ne (by decide)).trans ((zmt_lo (by decide)).trans ((zw4_h8 (by decide) (by omega)).trans (rfl)))).trans z36
      exact ⟨.of eq t36, t36.trans hk.symm, fun _ => yw⟩
def zr6_open (σ : Nat → Int) (q th y : Int) (σ' : Nat → Int) : Prop := (th = 1 ∧ (¬ (0 ≤ q ∧ q < 6)) ∧ σ' = σ) ∨ (th = 0 ∧ (0 ≤ q ∧ q < 6) ∧ y = σ (4 * q.toNat) - 0 ∧ σ' = zdn (zw4 σ q.toNat (σ (4 * q.toNat)) (σ (4 * q.toNat)) 0 (-9)))
set_option maxHeartbeats 1000000 in
theorem ag_open {σ σ' τ τ' : Nat → Int} {q th y w : Int} (hA : zA6 σ τ) (hq : -2147483648 ≤ q ∧ q ≤ 2147483647) (h6 : zr6_open σ q th y σ') (h8 : (¬ (0 ≤ q ∧ q ≤ 5) ∧ w = 0 ∧ τ' = zf τ 36 1) ∨ ((0 ≤ q ∧ q ≤ 5) ∧ ¬ (True) ∧ w = 0 ∧ τ' = zf τ 36 2) ∨ ((0 ≤ q ∧ q ≤ 5) ∧ (True) ∧ (w = (zf τ 36 0) (4 * q.toNat) - 0 ∧ τ' = zdn (zw4 (zf τ 36 0) q.toNat ((zf τ 36 0) (4 * q.toNat)) ((zf τ 36 0) (4 * q.toNat)) 0 (-9))))) : zA6 σ' τ' ∧ τ' 36 = th ∧ (th = 0 → y = w) := by
  unfold zr6_open at h6
  have z36 : σ 36 = 0 := hA.z
  have eA : σ = zf τ 36 0 := hA
  rw [← eA] at h8
  rcases h6 with ⟨hk, c6, hs⟩ | ⟨hk, r6⟩
  · rcases h8 with ⟨c8, hw, ht⟩ | ⟨c8, d8, hw, ht⟩ | ⟨c8, d8, r8⟩
    · rw [hs, ht, hk]
      exact ⟨hA.t36, zf_eq, fun h => absurd h (by decide)⟩
    · exact absurd trivial d8
    · exfalso
      omega
  · rcases h8 with ⟨c8, hw, ht⟩ | ⟨c8, d8, hw, ht⟩ | ⟨c8, d8, r8⟩
    · exfalso
      omega
    · exact absurd trivial d8
    · skip
      obtain ⟨⟨c1, c2⟩, c3, c4⟩ := r6
      obtain ⟨c81, c82⟩ := r8
      have yw : y = w := by omega
      have eq : σ' = τ' := by rw [c4, c82]
      have t36 : τ' 36 = 0 := by
        rw [c82]
        exact ((zdn_ne (by decide)).trans ((zw4_h8 (by decide) (by omega)).trans (rfl))).trans z36
      exact ⟨.of eq t36, t36.trans hk.symm, fun _ => yw⟩
def zr6_keep (σ : Nat → Int) (q th y : Int) (σ' : Nat → Int) : Prop := (th = 1 ∧ (¬ (0 ≤ q ∧ q ≤ 7)) ∧ σ' = σ) ∨ (th = 0 ∧ (0 ≤ q ∧ q ≤ 7) ∧ y = zsz σ q ∧ σ' = zdn (zly (zf σ 25 (zsz σ q)) 200 (zsz σ q).toNat (zsg σ q)))
set_option maxHeartbeats 1000000 in
theorem ag_keep {σ σ' τ τ' : Nat → Int} {q th y w : Int} (hA : zA6 σ τ) (hq : -2147483648 ≤ q ∧ q ≤ 2147483647) (h6 : zr6_keep σ q th y σ') (h8 : (¬ (0 ≤ q ∧ q ≤ 7) ∧ w = 0 ∧ τ' = zf τ 36 1) ∨ ((0 ≤ q ∧ q ≤ 7) ∧ ¬ (True) ∧ w = 0 ∧ τ' = zf τ 36 2) ∨ ((0 ≤ q ∧ q ≤ 7) ∧ (True) ∧ (w = zsz (zf τ 36 0) q ∧ τ' = zdn (zly (zf (zf τ 36 0) 25 (zsz (zf τ 36 0) q)) 200 (zsz (zf τ 36 0) q).toNat (zsg (zf τ 36 0) q))))) : zA6 σ' τ' ∧ τ' 36 = th ∧ (th = 0 → y = w) := by
  unfold zr6_keep at h6
  have z36 : σ 36 = 0 := hA.z
  have eA : σ = zf τ 36 0 := hA
  rw [← eA] at h8
  rcases h6 with ⟨hk, c6, hs⟩ | ⟨hk, r6⟩
  · rcases h8 with ⟨c8, hw, ht⟩ | ⟨c8, d8, hw, ht⟩ | ⟨c8, d8, r8⟩
    · rw [hs, ht, hk]
      exact ⟨hA.t36, zf_eq, fun h => absurd h (by decide)⟩
    · exact absurd trivial d8
    · exfalso
      omega
  · rcases h8 with ⟨c8, hw, ht⟩ | ⟨c8, d8, hw, ht⟩ | ⟨c8, d8, r8⟩
    · exfalso
      omega
    · exact absurd trivial d8
    · skip
      obtain ⟨⟨c1, c2⟩, c3, c4⟩ := r6
      obtain ⟨c81, c82⟩ := r8
      have yw : y = w := by omega
      have eq : σ' = τ' := by rw [c4, c82]
      have t36 : τ' 36 = 0 := by
        rw [c82]
        exact ((zdn_ne (by decide)).trans ((zly_ne (by omega)).trans ((zf_ne (by omega)).trans (rfl)))).trans z36
      exact ⟨.of eq t36, t36.trans hk.symm, fun _ => yw⟩
def zr6_load (σ : Nat → Int) (q th y : Int) (σ' : Nat → Int) : Prop := (th = 1 ∧ (¬ (0 ≤ q ∧ q ≤ 7)) ∧ σ' = σ) ∨ (th = 0 ∧ (0 ≤ q ∧ q ≤ 7) ∧ y = zsz σ q ∧ σ' = zdn (zly (zf σ 24 (zsz σ q)) 100 (zsz σ q).toNat (zsg σ q)))
set_option maxHeartbeats 1000000 in
theorem ag_load {σ σ' τ τ' : Nat → Int} {q th y w : Int} (hA : zA6 σ τ) (hq : -2147483648 ≤ q ∧ q ≤ 2147483647) (h6 : zr6_load σ q th y σ') (h8 : (¬ (0 ≤ q ∧ q ≤ 7) ∧ w = 0 ∧ τ' = zf τ 36 1) ∨ ((0 ≤ q ∧ q ≤ 7) ∧ ¬ (True) ∧ w = 0 ∧ τ' = zf τ 36 2) ∨ ((0 ≤ q ∧ q ≤ 7) ∧ (True) ∧ (w = zsz (zf τ 36 0) q ∧ τ' = zdn (zly (zf (zf τ 36 0) 24 (zsz (zf τ 36 0) q)) 100 (zsz (zf τ 36 0) q).toNat (zsg (zf τ 36 0) q))))) : zA6 σ' τ' ∧ τ' 36 = th ∧ (th = 0 → y = w) := by
  unfold zr6_load at h6
  have z36 : σ 36 = 0 := hA.z
  have eA : σ = zf τ 36 0 := hA
  rw [← eA] at h8
  rcases h6 with ⟨hk, c6, hs⟩ | ⟨hk, r6⟩
  · rcases h8 with ⟨c8, hw, ht⟩ | ⟨c8, d8, hw, ht⟩ | ⟨c8, d8, r8⟩
    · rw [hs, ht, hk]
      exact ⟨hA.t36, zf_eq, fun h => absurd h (by decide)⟩
    · exact absurd trivial d8
    · exfalso
      omega
  · rcases h8 with ⟨c8, hw, ht⟩ | ⟨c8, d8, hw, ht⟩ | ⟨c8, d8, r8⟩
    · exfalso
      omega
    · exact absurd trivial d8
    · skip
      obtain ⟨⟨c1, c2⟩, c3, c4⟩ := r6
      obtain ⟨c81, c82⟩ := r8
      have yw : y = w := by omega
      have eq : σ' = τ' := by rw [c4, c82]
      have t36 : τ' 36 = 0 := by
        rw [c82]
        exact ((zdn_ne (by decide)).trans ((zly_ne (by omega)).trans ((zf_ne (by omega)).trans (rfl)))).trans z36
      exact ⟨.of eq t36, t36.trans hk.symm, fun _ => yw⟩
def zr6_build (σ : Nat → Int) (q th y : Int) (σ' : Nat → Int) : Prop := (th = 1 ∧ (¬ (0 ≤ q ∧ q ≤ 7)) ∧ σ' = σ) ∨ (th = 2 ∧ ((0 ≤ q ∧ q ≤ 7) ∧ ¬ (σ 24 + zsz σ q ≤ 80)) ∧ σ' = σ) ∨ (th = 0 ∧ (0 ≤ q ∧ q ≤ 7) ∧ σ 24 + zsz σ q ≤ 80 ∧ y = σ 24 + zsz σ q ∧ σ' = zdn (zly (zf σ 24 (σ 24 + zsz σ q)) (100 + (σ 24).toNat) (zsz σ q).toNat (zsg σ q)))
set_option maxHeartbeats 1000000 in
theorem ag_build {σ σ' τ τ' : Nat → Int} {q th y w : Int} (hA : zA6 σ τ) (hq : -2147483648 ≤ q ∧ q ≤ 2147483647) (h6 : zr6_build σ q th y σ') (h8 : (¬ (0 ≤ q ∧ q ≤ 7) ∧ w = 0 ∧ τ' = zf τ 36 1) ∨ ((0 ≤ q ∧ q ≤ 7) ∧ ¬ (zf τ 36 0) 24 + zsz (zf τ 36 0) q ≤ 80 ∧ w = 0 ∧ τ' = zf τ 36 2) ∨ ((0 ≤ q ∧ q ≤ 7) ∧ (zf τ 36 0) 24 + zsz (zf τ 36 0) q ≤ 80 ∧ w = (zf τ 36 0) 24 + zsz (zf τ 36 0) q ∧ τ' = zdn (zly (zf (zf τ 36 0) 24 ((zf τ 36 0) 24 + zsz (zf τ 36 0) q)) (100 + ((zf τ 36 0) 24).toNat) (zsz (zf τ 36 0) q).toNat (zsg (zf τ 36 0) q)))) : zA6 σ' τ' ∧ τ' 36 = th ∧ (th = 0 → y = w) := by
  unfold zr6_build at h6
  have z36 : σ 36 = 0 := hA.z
  have eA : σ = zf τ 36 0 := hA
  rw [← eA] at h8
  rcases h6 with ⟨hk, c6, hs⟩ | ⟨hk, c6, hs⟩ | ⟨hk, r6⟩
  · rcases h8 with ⟨c8, hw, ht⟩ | ⟨c8, d8, hw, ht⟩ | ⟨c8, d8, r8⟩
    · rw [hs, ht, hk]
      exact ⟨hA.t36, zf_eq, fun h => absurd h (by decide)⟩
    · exfalso
      omega
    · exfalso
      omega
  · rcases h8 with ⟨c8, hw, ht⟩ | ⟨c8, d8, hw, ht⟩ | ⟨c8, d8, r8⟩
    · exfalso
      omega
    · rw [hs, ht, hk]
      exact ⟨hA.t36, zf_eq, fun h => absurd h (by decide)⟩
    · exfalso
      omega
  · rcases h8 with ⟨c8, hw, ht⟩ | ⟨c8, d8, hw, ht⟩ | ⟨c8, d8, r8⟩
    · exfalso
      omega
    · exfalso
      omega
    · skip
      obtain ⟨⟨c1, c2⟩, c3, c4, c5⟩ := r6
      obtain ⟨c81, c82⟩ := r8
      have yw : y = w := by omega
      have eq : σ' = τ' := by rw [c5, c82]
      have t36 : τ' 36 = 0 := by
        rw [c82]
        exact ((zdn_ne (by decide)).trans ((zly_ne (by omega)).trans ((zf_ne (by omega)).trans (rfl)))).trans z36
      exact ⟨.of eq t36, t36.trans hk.symm, fun _ => yw⟩
def zr6_change (σ : Nat → Int) (q x th y : Int) (σ' : Nat → Int) : Prop := (th = 1 ∧ (¬ (0 ≤ q ∧ q < σ 24)) ∧ σ' = σ) ∨ (th = 2 ∧ ((0 ≤ q ∧ q < σ 24) ∧ ¬ (0 ≤ x ∧ x ≤ 255)) ∧ σ' = σ) ∨ (th = 0 ∧ (0 ≤ q ∧ q < σ 24 ∧ 0 ≤ x ∧ x ≤ 255) ∧ y = σ (100 + q.toNat) ∧ σ' = zdn (zf σ (100 + q.toNat) x))
set_option maxHeartbeats 1000000 in
theorem ag_change {σ σ' τ τ' : Nat → Int} {q x th y w : Int} (hA : zA6 σ τ) (hq : -2147483648 ≤ q ∧ q ≤ 2147483647) (hx : -2147483648 ≤ x ∧ x ≤ 2147483647) (h6 : zr6_change σ q x th y σ') (h8 : (¬ (0 ≤ q ∧ q ≤ τ 24 - 1) ∧ w = 0 ∧ τ' = zf τ 36 1) ∨ ((0 ≤ q ∧ q ≤ τ 24 - 1) ∧ ¬ (0 ≤ x ∧ x ≤ 255) ∧ w = 0 ∧ τ' = zf τ 36 2) ∨ ((0 ≤ q ∧ q ≤ τ 24 - 1) ∧ (0 ≤ x ∧ x ≤ 255) ∧ (w = (zf τ 36 0) (100 + q.toNat) ∧ τ' = zdn (zf (zf τ 36 0) (100 + q.toNat) x)))) : zA6 σ' τ' ∧ τ' 36 = th ∧ (th = 0 → y = w) := by
  unfold zr6_change at h6
  have z36 : σ 36 = 0 := hA.z
  have eA : σ = zf τ 36 0 := hA
  rw [← eA] at h8
  have f24 : τ 24 = σ 24 := (hA.at (by decide)).symm
  rcases h6 with ⟨hk, c6, hs⟩ | ⟨hk, c6, hs⟩ | ⟨hk, r6⟩
  · rcases h8 with ⟨c8, hw, ht⟩ | ⟨c8, d8, hw, ht⟩ | ⟨c8, d8, r8⟩
    · rw [hs, ht, hk]
      exact ⟨hA.t36, zf_eq, fun h => absurd h (by decide)⟩
    · exfalso
      omega
    · exfalso
      omega
  · rcases h8 with ⟨c8, hw, ht⟩ | ⟨c8, d8, hw, ht⟩ | ⟨c8, d8, r8⟩
    · exfalso
      omega
    · rw [hs, ht, hk]
      exact ⟨hA.t36, zf_eq, fun h => absurd h (by decide)⟩
    · exfalso
      omega
  · rcases h8 with ⟨c8, hw, ht⟩ | ⟨c8, d8, hw, ht⟩ | ⟨c8, d8, r8⟩
    · exfalso
      omega
    · exfalso
      omega
    · skip
      obtain ⟨⟨c1, c2, c3, c4⟩, c5, c6⟩ := r6
      obtain ⟨c81, c82⟩ := r8
      have yw : y = w := by omega
      have eq : σ' = τ' := by rw [c6, c82]
      have t36 : τ' 36 = 0 := by
        rw [c82]
        exact ((zdn_ne (by decide)).trans ((zf_ne (by omega)).trans (rfl))).trans z36
      exact ⟨.of eq t36, t36.trans hk.symm, fun _ => yw⟩
def zr6_pipe (σ : Nat → Int) (q th y : Int) (σ' : Nat → Int) : Prop := (th = 1 ∧ (¬ (1 ≤ q ∧ q ≤ 8)) ∧ σ' = σ) ∨ (th = 0 ∧ (1 ≤ q ∧ q ≤ 8) ∧ y = σ 27 ∧ σ' = zdn (zpi σ q 0 0 0))
set_option maxHeartbeats 1000000 in
theorem ag_pipe {σ σ' τ τ' : Nat → Int} {q th y w : Int} (hA : zA6 σ τ) (hq : -2147483648 ≤ q ∧ q ≤ 2147483647) (h6 : zr6_pipe σ q th y σ') (h8 : (¬ (1 ≤ q ∧ q ≤ 8) ∧ w = 0 ∧ τ' = zf τ 36 1) ∨ ((1 ≤ q ∧ q ≤ 8) ∧ ¬ (True) ∧ w = 0 ∧ τ' = zf τ 36 2) ∨ ((1 ≤ q ∧ q ≤ 8) ∧ (True) ∧ (w = τ 27 ∧ τ' = zdn (zmf (zf τ 36 0) q 0 0 0)))) : zA6 σ' τ' ∧ τ' 36 = th ∧ (th = 0 → y = w) := by
  unfold zr6_pipe at h6
  have z36 : σ 36 = 0 := hA.z
  have eA : σ = zf τ 36 0 := hA
  rw [← eA] at h8
  have f27 : τ 27 = σ 27 := (hA.at (by decide)).symm
  rcases h6 with ⟨hk, c6, hs⟩ | ⟨hk, r6⟩
  · rcases h8 with ⟨c8, hw, ht⟩ | ⟨c8, d8, hw, ht⟩ | ⟨c8, d8, r8⟩
    · rw [hs, ht, hk]
      exact ⟨hA.t36, zf_eq, fun h => absurd h (by decide)⟩
    · exact absurd trivial d8
    · exfalso
      omega
  · rcases h8 with ⟨c8, hw, ht⟩ | ⟨c8, d8, hw, ht⟩ | ⟨c8, d8, r8⟩
    · exfalso
      omega
    · exact absurd trivial d8
    · skip
      obtain ⟨⟨c1, c2⟩, c3, c4⟩ := r6
      obtain ⟨c81, c82⟩ := r8
      have yw : y = w := by omega
      have hb : 0 = 0 - 0 := by omega
      have eq : σ' = τ' := by
        rw [c4, c82, zpi_zmf (c := 0) (by omega) z36]
      have t36 : τ' 36 = 0 := by
        rw [c82]
        exact (zdn_ne (by decide)).trans rfl
      exact ⟨.of eq t36, t36.trans hk.symm, fun _ => yw⟩
def zr6_feed (σ : Nat → Int) (x n th y : Int) (σ' : Nat → Int) : Prop := (th = 1 ∧ (¬ (0 ≤ x ∧ 0 ≤ n ∧ n ≤ 20)) ∧ σ' = σ) ∨ (th = 0 ∧ (0 ≤ x ∧ 0 ≤ n ∧ n ≤ 20) ∧ (0 ≤ y ∧ y ≤ n ∧ (y = n ∨ σ 27 + y = σ 26 ∨ σ 28 + y = 160)) ∧ σ' = zdn (zpi σ (σ 26) (σ 27 + y) (σ 28 + y) (σ 29)))
set_option maxHeartbeats 1000000 in
theorem ag_feed {σ σ' τ τ' : Nat → Int} {x n th y w : Int} (hA : zA6 σ τ) (hx : -2147483648 ≤ x ∧ x ≤ 2147483647) (hn : -2147483648 ≤ n ∧ n ≤ 2147483647) (p0 : τ 27 = τ 28 - τ 29 ∧ 0 ≤ τ 27) (p6 : 0 ≤ σ' 27 ∧ σ' 27 ≤ σ' 26 ∧ σ' 28 ≤ 160) (p8 : τ' 29 ≤ τ' 28 ∧ τ' 28 - τ' 29 ≤ τ' 26 ∧ τ' 28 ≤ 160) (h6 : zr6_feed σ x n th y σ') (h8 : (¬ (0 ≤ x ∧ 0 ≤ n ∧ n ≤ 20) ∧ w = 0 ∧ τ' = zf τ 36 1) ∨ ((0 ≤ x ∧ 0 ≤ n ∧ n ≤ 20) ∧ ¬ (True) ∧ w = 0 ∧ τ' = zf τ 36 2) ∨ ((0 ≤ x ∧ 0 ≤ n ∧ n ≤ 20) ∧ (True) ∧ (0 ≤ w ∧ w ≤ n ∧ (w = n ∨ τ 27 + w = τ 26 ∨ τ 28 + w = 160) ∧ τ' = zdn (zmf (zf τ 36 0) (τ 26) (τ 28 + w) (τ 29) 0)))) : zA6 σ' τ' ∧ τ' 36 = th ∧ (th = 0 → y = w) := by
  unfold zr6_feed at h6
  have z36 : σ 36 = 0 := hA.z
  have eA : σ = zf τ 36 0 := hA
  rw [← eA] at h8
  have f26 : τ 26 = σ 26 := (hA.at (by decide)).symm
  have f27 : τ 27 = σ 27 := (hA.at (by decide)).symm
  have f28 : τ 28 = σ 28 := (hA.at (by decide)).symm
  have f29 : τ 29 = σ 29 := (hA.at (by decide)).symm
  rcases h6 with ⟨hk, c6, hs⟩ | ⟨hk, r6⟩
  · rcases h8 with ⟨c8, hw, ht⟩ | ⟨c8, d8, hw, ht⟩ | ⟨c8, d8, r8⟩
    · rw [hs, ht, hk]
      exact ⟨hA.t36, zf_eq, fun h => absurd h (by decide)⟩
    · exact absurd trivial d8
    · exfalso
      omega
  · rcases h8 with ⟨c8, hw, ht⟩ | ⟨c8, d8, hw, ht⟩ | ⟨c8, d8, r8⟩
    · exfalso
      omega
    · exact absurd trivial d8
    · skip
      obtain ⟨⟨c1, c2, c3⟩, ⟨c4, c5, d10⟩, c9⟩ := r6
      obtain ⟨c81, c82, d87, c86⟩ := r8
      have s26 : σ' 26 = (σ 26) := by rw [c9]; exact (zdn_ne (by decide)).trans rfl
      have s27 : σ' 27 = (σ 27 + y) := by rw [c9]; exact (zdn_ne (by decide)).trans rfl
      have s28 : σ' 28 = (σ 28 + y) := by rw [c9]; exact (zdn_ne (by decide)).trans rfl
      have s29 : σ' 29 = (σ 29) := by rw [c9]; exact (zdn_ne (by decide)).trans rfl
      have t26 : τ' 26 = (τ 26) := by rw [c86]; exact (zdn_ne (by decide)).trans rfl
      have t28 : τ' 28 = (τ 28 + w) := by rw [c86]; exact (zdn_ne (by decide)).trans rfl
      have t29 : τ' 29 = (τ 29) := by rw [c86]; exact (zdn_ne (by decide)).trans rfl
      have yw : y = w := by omega
      subst yw
      have hb : (σ 27 + y) = (τ 28 + y) - (τ 29) := by omega
      have eq : σ' = τ' := by
        rw [c9, c86, f26, f28, f29, zpi_zmf (c := (σ 28 + y)) (by omega) z36]
      have t36 : τ' 36 = 0 := by
        rw [c86]
        exact (zdn_ne (by decide)).trans rfl
      exact ⟨.of eq t36, t36.trans hk.symm, fun _ => rfl⟩
def zr6_drain (σ : Nat → Int) (q th y : Int) (σ' : Nat → Int) : Prop := (th = 1 ∧ (¬ (0 ≤ q ∧ q ≤ 8)) ∧ σ' = σ) ∨ (th = 0 ∧ (0 ≤ q ∧ q ≤ 8) ∧ ∃ k : Int, 0 ≤ k ∧ k ≤ q ∧ (k = q ∨ k = σ 27) ∧ σ' = zdn (zpi σ (σ 26) (σ 27 - k) (σ 28) (σ 29 + k)))
set_option maxHeartbeats 1000000 in
theorem ag_drain {σ σ' τ τ' : Nat → Int} {q th y w : Int} (hA : zA6 σ τ) (hq : -2147483648 ≤ q ∧ q ≤ 2147483647) (p0 : τ 27 = τ 28 - τ 29 ∧ 0 ≤ τ 27) (p6 : 0 ≤ σ' 27 ∧ σ' 27 ≤ σ' 26 ∧ σ' 28 ≤ 160) (p8 : τ' 29 ≤ τ' 28 ∧ τ' 28 - τ' 29 ≤ τ' 26 ∧ τ' 28 ≤ 160) (h6 : zr6_drain σ q th y σ') (h8 : (¬ (0 ≤ q ∧ q ≤ 8) ∧ τ' = zf τ 36 1) ∨ ((0 ≤ q ∧ q ≤ 8) ∧ ¬ (True) ∧ τ' = zf τ 36 2) ∨ ((0 ≤ q ∧ q ≤ 8) ∧ (True) ∧ (∃ k : Int, 0 ≤ k ∧ k ≤ q ∧ (k = q ∨ k = τ 27) ∧ τ' = zdn (zmf (zf τ 36 0) (τ 26) (τ 28) (τ 29 + k) 0)))) : zA6 σ' τ' ∧ τ' 36 = th := by
  unfold zr6_drain at h6
  have z36 : σ 36 = 0 := hA.z
  have eA : σ = zf τ 36 0 := hA
  rw [← eA] at h8
  have f26 : τ 26 = σ 26 := (hA.at (by decide)).symm
  have f27 : τ 27 = σ 27 := (hA.at (by decide)).symm
  have f28 : τ 28 = σ 28 := (hA.at (by decide)).symm
  have f29 : τ 29 = σ 29 := (hA.at (by decide)).symm
  rcases h6 with ⟨hk, c6, hs⟩ | ⟨hk, r6⟩
  · rcases h8 with ⟨c8, ht⟩ | ⟨c8, d8, ht⟩ | ⟨c8, d8, r8⟩
    · rw [hs, ht, hk]
      exact ⟨hA.t36, zf_eq⟩
    · exact absurd trivial d8
    · exfalso
      omega
  · rcases h8 with ⟨c8, ht⟩ | ⟨c8, d8, ht⟩ | ⟨c8, d8, r8⟩
    · exfalso
      omega
    · exact absurd trivial d8
    · skip
      obtain ⟨⟨c1, c2⟩, ⟨kk6, ⟨c3, c4, d8, c7⟩⟩⟩ := r6
      obtain ⟨kk8, ⟨c81, c82, d86, c85⟩⟩ := r8
      have s26 : σ' 26 = (σ 26) := by rw [c7]; exact (zdn_ne (by decide)).trans rfl
      have s27 : σ' 27 = (σ 27 - kk6) := by rw [c7]; exact (zdn_ne (by decide)).trans rfl
      have s28 : σ' 28 = (σ 28) := by rw [c7]; exact (zdn_ne (by decide)).trans rfl
      have s29 : σ' 29 = (σ 29 + kk6) := by rw [c7]; exact (zdn_ne (by decide)).trans rfl
      have t26 : τ' 26 = (τ 26) := by rw [c85]; exact (zdn_ne (by decide)).trans rfl
      have t28 : τ' 28 = (τ 28) := by rw [c85]; exact (zdn_ne (by decide)).trans rfl
      have t29 : τ' 29 = (τ 29 + kk8) := by rw [c85]; exact (zdn_ne (by decide)).trans rfl
      have yk : kk6 = kk8 := by omega
      subst yk
      have hb : (σ 27 - kk6) = (τ 28) - (τ 29 + kk6) := by omega
      have eq : σ' = τ' := by
        rw [c7, c85, f26, f28, f29, zpi_zmf (c := (σ 28)) (by omega) z36]
      have t36 : τ' 36 = 0 := by
        rw [c85]
        exact (zdn_ne (by decide)).trans rfl
      exact ⟨.of eq t36, t36.trans hk.symm⟩
def zr6_pump (σ : Nat → Int) (q a b th y : Int) (σ' : Nat → Int) : Prop := (th = 1 ∧ (¬ (0 ≤ q ∧ q ≤ 7)) ∧ σ' = σ) ∨ (th = 2 ∧ ((0 ≤ q ∧ q ≤ 7) ∧ ¬ (1 ≤ a ∧ a ≤ 8 ∧ 1 ≤ b ∧ b ≤ 8)) ∧ σ' = σ) ∨ (th = 3 ∧ ((0 ≤ q ∧ q ≤ 7 ∧ 1 ≤ a ∧ a ≤ 8 ∧ 1 ≤ b ∧ b ≤ 8) ∧ ¬ (σ 28 + zsz σ q ≤ 160)) ∧ σ' = σ) ∨ (th = 0 ∧ (0 ≤ q ∧ q ≤ 7 ∧ 1 ≤ a ∧ a ≤ 8 ∧ 1 ≤ b ∧ b ≤ 8) ∧ σ 28 + zsz σ q ≤ 160 ∧ (∀ j, ¬ (26 ≤ j ∧ j ≤ 29) → j ≠ 30 → j ≠ 33 → σ' j = σ j) ∧ σ' 26 = σ 26 ∧ σ' 30 = σ 30 + 1 ∧ (σ' 27, σ' 28, σ' 29, σ' 33) = zpm a b (σ 26) (zsz σ q) (zsz σ q + σ 27).toNat 0 (σ 27) (σ 28) (σ 29) (σ 33))
def zr6_left (σ : Nat → Int) (q z th y : Int) (σ' : Nat → Int) : Prop := (th = 1 ∧ (¬ (0 ≤ q ∧ q < 6)) ∧ σ' = σ) ∨ (th = 2 ∧ ((0 ≤ q ∧ q < 6) ∧ ¬ (0 ≤ z ∧ z ≤ 1)) ∧ σ' = σ) ∨ (th = 0 ∧ (0 ≤ q ∧ q < 6 ∧ 0 ≤ z ∧ z ≤ 1) ∧ y = σ (4 * q.toNat + 1) - σ (4 * q.toNat + 2) ∧ σ' = σ)
set_option maxHeartbeats 1000000 in
theorem ag_left {σ σ' τ τ' : Nat → Int} {q z th y w : Int} (hA : zA6 σ τ) (hq : -2147483648 ≤ q ∧ q ≤ 2147483647) (hz : -2147483648 ≤ z ∧ z ≤ 2147483647) (h6 : zr6_left σ q z th y σ') (h8 : (¬ (0 ≤ q ∧ q ≤ 5) ∧ w = 0 ∧ τ' = zf τ 36 1) ∨ ((0 ≤ q ∧ q ≤ 5) ∧ ¬ (0 ≤ z ∧ z ≤ 1) ∧ w = 0 ∧ τ' = zf τ 36 2) ∨ ((0 ≤ q ∧ q ≤ 5) ∧ (0 ≤ z ∧ z ≤ 1) ∧ (w = (zf τ 36 0) (4 * q.toNat + 1) - (zf τ 36 0) (4 * q.toNat + 2) ∧ τ' = (zf τ 36 0)))) : zA6 σ' τ' ∧ τ' 36 = th ∧ (th = 0 → y = w) := by
  unfold zr6_left at h6
  have z36 : σ 36 = 0 := hA.z
  have eA : σ = zf τ 36 0 := hA
  rw [← eA] at h8
  rcases h6 with ⟨hk, c6, hs⟩ | ⟨hk, c6, hs⟩ | ⟨hk, r6⟩
  · rcases h8 with ⟨c8, hw, ht⟩ | ⟨c8, d8, hw, ht⟩ | ⟨c8, d8, r8⟩
    · rw [hs, ht, hk]
      exact ⟨hA.t36, zf_eq, fun h => absurd h (by decide)⟩
    · exfalso
      omega
    · exfalso
      omega
  · rcases h8 with ⟨c8, hw, ht⟩ | ⟨c8, d8, hw, ht⟩ | ⟨c8, d8, r8⟩
    · exfalso
      omega
    · rw [hs, ht, hk]
      exact ⟨hA.t36, zf_eq, fun h => absurd h (by decide)⟩
    · exfalso
      omega
  · rcases h8 with ⟨c8, hw, ht⟩ | ⟨c8, d8, hw, ht⟩ | ⟨c8, d8, r8⟩
    · exfalso
      omega
    · exfalso
      omega
    · skip
      obtain ⟨⟨c1, c2, c3, c4⟩, c5, c6⟩ := r6
      obtain ⟨c81, c82⟩ := r8
      have yw : y = w := by omega
      have eq : σ' = τ' := by rw [c6, c82]
      have t36 : τ' 36 = 0 := by
        rw [c82]
        exact z36
      exact ⟨.of eq t36, t36.trans hk.symm, fun _ => yw⟩
def zr6_position (σ : Nat → Int) (q th y : Int) (σ' : Nat → Int) : Prop := (th = 1 ∧ (¬ (0 ≤ q ∧ q < 6)) ∧ σ' = σ) ∨ (th = 0 ∧ (0 ≤ q ∧ q < 6) ∧ y = σ (4 * q.toNat + 2) ∧ σ' = σ)
set_option maxHeartbeats 1000000 in
theorem ag_position {σ σ' τ τ' : Nat → Int} {q th y w : Int} (hA : zA6 σ τ) (hq : -2147483648 ≤ q ∧ q ≤ 2147483647) (h6 : zr6_position σ q th y σ') (h8 : (¬ (0 ≤ q ∧ q ≤ 5) ∧ w = 0 ∧ τ' = zf τ 36 1) ∨ ((0 ≤ q ∧ q ≤ 5) ∧ ¬ (True) ∧ w = 0 ∧ τ' = zf τ 36 2) ∨ ((0 ≤ q ∧ q ≤ 5) ∧ (True) ∧ (w = (zf τ 36 0) (4 * q.toNat + 2) ∧ τ' = (zf τ 36 0)))) : zA6 σ' τ' ∧ τ' 36 = th ∧ (th = 0 → y = w) := by
  unfold zr6_position at h6
  have z36 : σ 36 = 0 := hA.z
  have eA : σ = zf τ 36 0 := hA
  rw [← eA] at h8
  rcases h6 with ⟨hk, c6, hs⟩ | ⟨hk, r6⟩
  · rcases h8 with ⟨c8, hw, ht⟩ | ⟨c8, d8, hw, ht⟩ | ⟨c8, d8, r8⟩
    · rw [hs, ht, hk]
      exact ⟨hA.t36, zf_eq, fun h => absurd h (by decide)⟩
    · exact absurd trivial d8
    · exfalso
      omega
  · rcases h8 with ⟨c8, hw, ht⟩ | ⟨c8, d8, hw, ht⟩ | ⟨c8, d8, r8⟩
    · exfalso
      omega
    · exact absurd trivial d8
    · skip
      obtain ⟨⟨c1, c2⟩, c3, c4⟩ := r6
      obtain ⟨c81, c82⟩ := r8
      have yw : y = w := by omega
      have eq : σ' = τ' := by rw [c4, c82]
      have t36 : τ' 36 = 0 := by
        rw [c82]
        exact z36
      exact ⟨.of eq t36, t36.trans hk.symm, fun _ => yw⟩
def zr6_limit (σ : Nat → Int) (q th y : Int) (σ' : Nat → Int) : Prop := (th = 1 ∧ (¬ (0 ≤ q ∧ q < 6)) ∧ σ' = σ) ∨ (th = 0 ∧ (0 ≤ q ∧ q < 6) ∧ y = σ (4 * q.toNat + 1) ∧ σ' = σ)
set_option maxHeartbeats 1000000 in
theorem ag_limit {σ σ' τ τ' : Nat → Int} {q th y w : Int} (hA : zA6 σ τ) (hq : -2147483648 ≤ q ∧ q ≤ 2147483647) (h6 : zr6_limit σ q th y σ') (h8 : (¬ (0 ≤ q ∧ q ≤ 5) ∧ w = 0 ∧ τ' = zf τ 36 1) ∨ ((0 ≤ q ∧ q ≤ 5) ∧ ¬ (True) ∧ w = 0 ∧ τ' = zf τ 36 2) ∨ ((0 ≤ q ∧ q ≤ 5) ∧ (True) ∧ (w = (zf τ 36 0) (4 * q.toNat + 1) ∧ τ' = (zf τ 36 0)))) : zA6 σ' τ' ∧ τ' 36 = th ∧ (th = 0 → y = w) := by
  unfold zr6_limit at h6
  have z36 : σ 36 = 0 := hA.z
  have eA : σ = zf τ 36 0 := hA
  rw [← eA] at h8
  rcases h6 with ⟨hk, c6, hs⟩ | ⟨hk, r6⟩
  · rcases h8 with ⟨c8, hw, ht⟩ | ⟨c8, d8, hw, ht⟩ | ⟨c8, d8, r8⟩
    · rw [hs, ht, hk]
      exact ⟨hA.t36, zf_eq, fun h => absurd h (by decide)⟩
    · exact absurd trivial d8
    · exfalso
      omega
  · rcases h8 with ⟨c8, hw, ht⟩ | ⟨c8, d8, hw, ht⟩ | ⟨c8, d8, r8⟩
    · exfalso
      omega
    · exact absurd trivial d8
    · skip
      obtain ⟨⟨c1, c2⟩, c3, c4⟩ := r6
      obtain ⟨c81, c82⟩ := r8
      have yw : y = w := by omega
      have eq : σ' = τ' := by rw [c4, c82]
      have t36 : τ' 36 = 0 := by
        rw [c82]
        exact z36
      exact ⟨.of eq t36, t36.trans hk.symm, fun _ => yw⟩
def zr6_capacity (σ : Nat → Int) (q th y : Int) (σ' : Nat → Int) : Prop := (th = 1 ∧ (¬ (0 ≤ q ∧ q < 6)) ∧ σ' = σ) ∨ (th = 0 ∧ (0 ≤ q ∧ q < 6) ∧ y = σ (4 * q.toNat) ∧ σ' = σ)
set_option maxHeartbeats 1000000 in
theorem ag_capacity {σ σ' τ τ' : Nat → Int} {q th y w : Int} (hA : zA6 σ τ) (hq : -2147483648 ≤ q ∧ q ≤ 2147483647) (h6 : zr6_capacity σ q th y σ') (h8 : (¬ (0 ≤ q ∧ q ≤ 5) ∧ w = 0 ∧ τ' = zf τ 36 1) ∨ ((0 ≤ q ∧ q ≤ 5) ∧ ¬ (True) ∧ w = 0 ∧ τ' = zf τ 36 2) ∨ ((0 ≤ q ∧ q ≤ 5) ∧ (True) ∧ (w = (zf τ 36 0) (4 * q.toNat) ∧ τ' = (zf τ 36 0)))) : zA6 σ' τ' ∧ τ' 36 = th ∧ (th = 0 → y = w) := by
  unfold zr6_capacity at h6
  have z36 : σ 36 = 0 := hA.z
  have eA : σ = zf τ 36 0 := hA
  rw [← eA] at h8
  rcases h6 with ⟨hk, c6, hs⟩ | ⟨hk, r6⟩
  · rcases h8 with ⟨c8, hw, ht⟩ | ⟨c8, d8, hw, ht⟩ | ⟨c8, d8, r8⟩
    · rw [hs, ht, hk]
      exact ⟨hA.t36, zf_eq, fun h => absurd h (by decide)⟩
    · exact absurd trivial d8
    · exfalso
      omega
  · rcases h8 with ⟨c8, hw, ht⟩ | ⟨c8, d8, hw, ht⟩ | ⟨c8, d8, r8⟩
    · exfalso
      omega
    · exact absurd trivial d8
    · skip
      obtain ⟨⟨c1, c2⟩, c3, c4⟩ := r6
      obtain ⟨c81, c82⟩ := r8
      have yw : y = w := by omega
      have eq : σ' = τ' := by rw [c4, c82]
      have t36 : τ' 36 = 0 := by
        rw [c82]
        exact z36
      exact ⟨.of eq t36, t36.trans hk.symm, fun _ => yw⟩
def zr6_marked (σ : Nat → Int) (q th y : Int) (σ' : Nat → Int) : Prop := (th = 1 ∧ (¬ (0 ≤ q ∧ q < 6)) ∧ σ' = σ) ∨ (th = 0 ∧ (0 ≤ q ∧ q < 6) ∧ y = σ (4 * q.toNat + 3) ∧ σ' = σ)
set_option maxHeartbeats 1000000 in
theorem ag_marked {σ σ' τ τ' : Nat → Int} {q th y w : Int} (hA : zA6 σ τ) (hq : -2147483648 ≤ q ∧ q ≤ 2147483647) (h6 : zr6_marked σ q th y σ') (h8 : (¬ (0 ≤ q ∧ q ≤ 5) ∧ w = 0 ∧ τ' = zf τ 36 1) ∨ ((0 ≤ q ∧ q ≤ 5) ∧ ¬ (True) ∧ w = 0 ∧ τ' = zf τ 36 2) ∨ ((0 ≤ q ∧ q ≤ 5) ∧ (True) ∧ (w = (zf τ 36 0) (4 * q.toNat + 3) ∧ τ' = (zf τ 36 0)))) : zA6 σ' τ' ∧ τ' 36 = th ∧ (th = 0 → y = w) := by
  unfold zr6_marked at h6
  have z36 : σ 36 = 0 := hA.z
  have eA : σ = zf τ 36 0 := hA
  rw [← eA] at h8
  rcases h6 with ⟨hk, c6, hs⟩ | ⟨hk, r6⟩
  · rcases h8 with ⟨c8, hw, ht⟩ | ⟨c8, d8, hw, ht⟩ | ⟨c8, d8, r8⟩
    · rw [hs, ht, hk]
      exact ⟨hA.t36, zf_eq, fun h => absurd h (by decide)⟩
    · exact absurd trivial d8
    · exfalso
      omega
  · rcases h8 with ⟨c8, hw, ht⟩ | ⟨c8, d8, hw, ht⟩ | ⟨c8, d8, r8⟩
    · exfalso
      omega
    · exact absurd trivial d8
    · skip
      obtain ⟨⟨c1, c2⟩, c3, c4⟩ := r6
      obtain ⟨c81, c82⟩ := r8
      have yw : y = w := by omega
      have eq : σ' = τ' := by rw [c4, c82]
      have t36 : τ' 36 = 0 := by
        rw [c82]
        exact z36
      exact ⟨.of eq t36, t36.trans hk.symm, fun _ => yw⟩
def zr6_sign (σ : Nat → Int) (q z th y : Int) (σ' : Nat → Int) : Prop := (th = 1 ∧ (¬ (0 ≤ q ∧ q < 6)) ∧ σ' = σ) ∨ (th = 0 ∧ (0 ≤ q ∧ q < 6) ∧ y = (if 0 ≤ z ∧ z < σ (4 * q.toNat + 1) - σ (4 * q.toNat + 2) then σ (zTp (σ (40 + q.toNat) + (σ (4 * q.toNat + 2) + z))) else -9) ∧ σ' = σ)
set_option maxHeartbeats 1000000 in
theorem ag_sign {σ σ' τ τ' : Nat → Int} {q z th y w : Int} (hA : zA6 σ τ) (hq : -2147483648 ≤ q ∧ q ≤ 2147483647) (hz : -2147483648 ≤ z ∧ z ≤ 2147483647) (h6 : zr6_sign σ q z th y σ') (h8 : (¬ (0 ≤ q ∧ q ≤ 5) ∧ w = 0 ∧ τ' = zf τ 36 1) ∨ ((0 ≤ q ∧ q ≤ 5) ∧ ¬ (True) ∧ w = 0 ∧ τ' = zf τ 36 2) ∨ ((0 ≤ q ∧ q ≤ 5) ∧ (True) ∧ (w = (if 0 ≤ z ∧ z < (zf τ 36 0) (4 * q.toNat + 1) - (zf τ 36 0) (4 * q.toNat + 2) then (zf τ 36 0) (zTp ((zf τ 36 0) (40 + q.toNat) + ((zf τ 36 0) (4 * q.toNat + 2) + z))) else -9) ∧ τ' = (zf τ 36 0)))) : zA6 σ' τ' ∧ τ' 36 = th ∧ (th = 0 → y = w) := by
  unfold zr6_sign at h6
  have z36 : σ 36 = 0 := hA.z
  have eA : σ = zf τ 36 0 := hA
  rw [← eA] at h8
  rcases h6 with ⟨hk, c6, hs⟩ | ⟨hk, r6⟩
  · rcases h8 with ⟨c8, hw, ht⟩ | ⟨c8, d8, hw, ht⟩ | ⟨c8, d8, r8⟩
    · rw [hs, ht, hk]
      exact ⟨hA.t36, zf_eq, fun h => absurd h (by decide)⟩
    · exact absurd trivial d8
    · exfalso
      omega
  · rcases h8 with ⟨c8, hw, ht⟩ | ⟨c8, d8, hw, ht⟩ | ⟨c8, d8, r8⟩
    · exfalso
      omega
    · exact absurd trivial d8
    · skip
      obtain ⟨⟨c1, c2⟩, c3, c4⟩ := r6
      obtain ⟨c81, c82⟩ := r8
      have yw : y = w := by first | omega | exact Eq.trans (by assumption) (Eq.symm (by assumption))
      have eq : σ' = τ' := by rw [c4, c82]
      have t36 : τ' 36 = 0 := by
        rw [c82]
        exact z36
      exact ⟨.of eq t36, t36.trans hk.symm, fun _ => yw⟩
def zr6_look (σ : Nat → Int) (q z th y : Int) (σ' : Nat → Int) : Prop := (th = 1 ∧ (¬ (0 ≤ q ∧ q < 6)) ∧ σ' = σ) ∨ (th = 0 ∧ (0 ≤ q ∧ q < 6) ∧ y = (if 0 ≤ z ∧ z < σ (4 * q.toNat + 1) then σ (zTp (σ (40 + q.toNat) + z)) else -9) ∧ σ' = σ)
set_option maxHeartbeats 1000000 in
theorem ag_look {σ σ' τ τ' : Nat → Int} {q z th y w : Int} (hA : zA6 σ τ) (hq : -2147483648 ≤ q ∧ q ≤ 2147483647) (hz : -2147483648 ≤ z ∧ z ≤ 2147483647) (h6 : zr6_look σ q z th y σ') (h8 : (¬ (0 ≤ q ∧ q ≤ 5) ∧ w = 0 ∧ τ' = zf τ 36 1) ∨ ((0 ≤ q ∧ q ≤ 5) ∧ ¬ (True) ∧ w = 0 ∧ τ' = zf τ 36 2) ∨ ((0 ≤ q ∧ q ≤ 5) ∧ (True) ∧ (w = (if 0 ≤ z ∧ z < (zf τ 36 0) (4 * q.toNat + 1) then (zf τ 36 0) (zTp ((zf τ 36 0) (40 + q.toNat) + z)) else -9) ∧ τ' = (zf τ 36 0)))) : zA6 σ' τ' ∧ τ' 36 = th ∧ (th = 0 → y = w) := by
  unfold zr6_look at h6
  have z36 : σ 36 = 0 := hA.z
  have eA : σ = zf τ 36 0 := hA
  rw [← eA] at h8
  rcases h6 with ⟨hk, c6, hs⟩ | ⟨hk, r6⟩
  · rcases h8 with ⟨c8, hw, ht⟩ | ⟨c8, d8, hw, ht⟩ | ⟨c8, d8, r8⟩
    · rw [hs, ht, hk]
      exact ⟨hA.t36, zf_eq, fun h => absurd h (by decide)⟩
    · exact absurd trivial d8
    · exfalso
      omega
  · rcases h8 with ⟨c8, hw, ht⟩ | ⟨c8, d8, hw, ht⟩ | ⟨c8, d8, r8⟩
    · exfalso
      omega
    · exact absurd trivial d8
    · skip
      obtain ⟨⟨c1, c2⟩, c3, c4⟩ := r6
      obtain ⟨c81, c82⟩ := r8
      have yw : y = w := by first | omega | exact Eq.trans (by assumption) (Eq.symm (by assumption))
      have eq : σ' = τ' := by rw [c4, c82]
      have t36 : τ' 36 = 0 := by
        rw [c82]
        exact z36
      exact ⟨.of eq t36, t36.trans hk.symm, fun _ => yw⟩
def zr6_text (σ : Nat → Int) (q how th y : Int) (σ' : Nat → Int) : Prop := (th = 1 ∧ (¬ (0 ≤ q ∧ q < 6)) ∧ σ' = σ) ∨ (th = 2 ∧ ((0 ≤ q ∧ q < 6) ∧ ¬ (0 ≤ how ∧ how ≤ 3)) ∧ σ' = σ) ∨ (th = 0 ∧ (0 ≤ q ∧ q < 6 ∧ 0 ≤ how ∧ how ≤ 3) ∧ σ' = σ)
set_option maxHeartbeats 1000000 in
theorem ag_text {σ σ' τ τ' : Nat → Int} {q how th y w : Int} (hA : zA6 σ τ) (hq : -2147483648 ≤ q ∧ q ≤ 2147483647) (hh : -2147483648 ≤ how ∧ how ≤ 2147483647) (h6 : zr6_text σ q how th y σ') (h8 : (¬ (0 ≤ q ∧ q ≤ 5) ∧ τ' = zf τ 36 1) ∨ ((0 ≤ q ∧ q ≤ 5) ∧ ¬ (0 ≤ how ∧ how ≤ 3) ∧ τ' = zf τ 36 2) ∨ ((0 ≤ q ∧ q ≤ 5) ∧ (0 ≤ how ∧ how ≤ 3) ∧ (τ' = (zf τ 36 0)))) : zA6 σ' τ' ∧ τ' 36 = th := by
  unfold zr6_text at h6
  have z36 : σ 36 = 0 := hA.z
  have eA : σ = zf τ 36 0 := hA
  rw [← eA] at h8
  rcases h6 with ⟨hk, c6, hs⟩ | ⟨hk, c6, hs⟩ | ⟨hk, r6⟩
  · rcases h8 with ⟨c8, ht⟩ | ⟨c8, d8, ht⟩ | ⟨c8, d8, r8⟩
    · rw [hs, ht, hk]
      exact ⟨hA.t36, zf_eq⟩
    · exfalso
      omega
    · exfalso
      omega
  · rcases h8 with ⟨c8, ht⟩ | ⟨c8, d8, ht⟩ | ⟨c8, d8, r8⟩
    · exfalso
      omega
    · rw [hs, ht, hk]
      exact ⟨hA.t36, zf_eq⟩
    · exfalso
      omega
  · rcases h8 with ⟨c8, ht⟩ | ⟨c8, d8, ht⟩ | ⟨c8, d8, r8⟩
    · exfalso
      omega
    · exfalso
      omega
    · skip
      obtain ⟨⟨c1, c2, c3, c4⟩, c5⟩ := r6
      have c81 := r8
      have eq : σ' = τ' := by rw [c5, c81]
      have t36 : τ' 36 = 0 := by
        rw [c81]
        exact z36
      exact ⟨.of eq t36, t36.trans hk.symm⟩
def zr6_inner (σ : Nat → Int) (q a b c e how th y : Int) (σ' : Nat → Int) : Prop := (th = 1 ∧ (¬ (0 ≤ q ∧ q < 6)) ∧ σ' = σ) ∨ (th = 2 ∧ ((0 ≤ q ∧ q < 6) ∧ ¬ (0 ≤ a ∧ a ≤ b ∧ b ≤ σ (4 * q.toNat + 1) - σ (4 * q.toNat + 2) ∧ 0 ≤ c ∧ c ≤ e ∧ e ≤ b - a ∧ 0 ≤ how ∧ how ≤ 2)) ∧ σ' = σ) ∨ (th = 0 ∧ (0 ≤ q ∧ q < 6) ∧ (0 ≤ a ∧ a ≤ b ∧ b ≤ σ (4 * q.toNat + 1) - σ (4 * q.toNat + 2) ∧ 0 ≤ c ∧ c ≤ e ∧ e ≤ b - a ∧ 0 ≤ how ∧ how ≤ 2) ∧ σ' = σ)
set_option maxHeartbeats 1000000 in
theorem ag_inner {σ σ' τ τ' : Nat → Int} {q a b c e how th y w : Int} (hA : zA6 σ τ) (hq : -2147483648 ≤ q ∧ q ≤ 2147483647) (ha : -2147483648 ≤ a ∧ a ≤ 2147483647) (hb : -2147483648 ≤ b ∧ b ≤ 2147483647) (hc : -2147483648 ≤ c ∧ c ≤ 2147483647) (he : -2147483648 ≤ e ∧ e ≤ 2147483647) (hh : -2147483648 ≤ how ∧ how ≤ 2147483647) (h6 : zr6_inner σ q a b c e how th y σ') (h8 : (¬ (0 ≤ q ∧ q ≤ 5) ∧ τ' = zf τ 36 1) ∨ ((0 ≤ q ∧ q ≤ 5) ∧ ¬ (0 ≤ a ∧ a ≤ b ∧ b ≤ (zf τ 36 0) (4 * q.toNat + 1) - (zf τ 36 0) (4 * q.toNat + 2) ∧ 0 ≤ c ∧ c ≤ e ∧ e ≤ b - a ∧ 0 ≤ how ∧ how ≤ 2) ∧ τ' = zf τ 36 2) ∨ ((0 ≤ q ∧ q ≤ 5) ∧ (0 ≤ a ∧ a ≤ b ∧ b ≤ (zf τ 36 0) (4 * q.toNat + 1) - (zf τ 36 0) (4 * q.toNat + 2) ∧ 0 ≤ c ∧ c ≤ e ∧ e ≤ b - a ∧ 0 ≤ how ∧ how ≤ 2) ∧ (τ' = (zf τ 36 0)))) : zA6 σ' τ' ∧ τ' 36 = th := by
  unfold zr6_inner at h6
  have z36 : σ 36 = 0 := hA.z
  have eA : σ = zf τ 36 0 := hA
  rw [← eA] at h8
  rcases h6 with ⟨hk, c6, hs⟩ | ⟨hk, c6, hs⟩ | ⟨hk, r6⟩
  · rcases h8 with ⟨c8, ht⟩ | ⟨c8, d8, ht⟩ | ⟨c8, d8, r8⟩
    · rw [hs, ht, hk]
      exact ⟨hA.t36, zf_eq⟩
    · exfalso
      omega
    · exfalso
      omega
  · rcases h8 with ⟨c8, ht⟩ | ⟨c8, d8, ht⟩ | ⟨c8, d8, r8⟩
    · exfalso
      omega
    · rw [hs, ht, hk]
      exact ⟨hA.t36, zf_eq⟩
    · exfalso
      omega
  · rcases h8 with ⟨c8, ht⟩ | ⟨c8, d8, ht⟩ | ⟨c8, d8, r8⟩
    · exfalso
      omega
    · exfalso
      omega
    · skip
      obtain ⟨⟨c1, c2⟩, ⟨c3, c4, c5, c6, c7, c8, c9, c10⟩, c11⟩ := r6
      have c81 := r8
      have eq : σ' = τ' := by rw [c11, c81]
      have t36 : τ' 36 = 0 := by
        rw [c81]
        exact z36
      exact ⟨.of eq t36, t36.trans hk.symm⟩
def zr6_first (σ : Nat → Int) (q q2 th y : Int) (σ' : Nat → Int) : Prop := (th = 1 ∧ (¬ (0 ≤ q ∧ q ≤ 7 ∧ 0 ≤ q2 ∧ q2 ≤ 7)) ∧ σ' = σ) ∨ (th = 0 ∧ (0 ≤ q ∧ q ≤ 7 ∧ 0 ≤ q2 ∧ q2 ≤ 7) ∧ zsP σ q q2 0 y ∧ σ' = σ)
set_option maxHeartbeats 1000000 in
theorem ag_first {σ σ' τ τ' : Nat → Int} {q q2 th y w : Int} (hA : zA6 σ τ) (hq : -2147483648 ≤ q ∧ q ≤ 2147483647) (hq2 : -2147483648 ≤ q2 ∧ q2 ≤ 2147483647) (h6 : zr6_first σ q q2 th y σ') (h8 : (¬ ((0 ≤ q ∧ q ≤ 7) ∧ (0 ≤ q2 ∧ q2 ≤ 7)) ∧ w = 0 ∧ τ' = zf τ 36 1) ∨ (((0 ≤ q ∧ q ≤ 7) ∧ (0 ≤ q2 ∧ q2 ≤ 7)) ∧ ¬ (True) ∧ w = 0 ∧ τ' = zf τ 36 2) ∨ (((0 ≤ q ∧ q ≤ 7) ∧ (0 ≤ q2 ∧ q2 ≤ 7)) ∧ (True) ∧ (zsP (zf τ 36 0) q q2 0 w ∧ τ' = (zf τ 36 0)))) : zA6 σ' τ' ∧ τ' 36 = th ∧ (th = 0 → y = w) := by
  unfold zr6_first at h6
  have z36 : σ 36 = 0 := hA.z
  have eA : σ = zf τ 36 0 := hA
  rw [← eA] at h8
  rcases h6 with ⟨hk, c6, hs⟩ | ⟨hk, r6⟩
  · rcases h8 with ⟨c8, hw, ht⟩ | ⟨c8, d8, hw, ht⟩ | ⟨c8, d8, r8⟩
    · rw [hs, ht, hk]
      exact ⟨hA.t36, zf_eq, fun h => absurd h (by decide)⟩
    · exact absurd trivial d8
    · exfalso
      omega
  · rcases h8 with ⟨c8, hw, ht⟩ | ⟨c8, d8, hw, ht⟩ | ⟨c8, d8, r8⟩
    · exfalso
      omega
    · exact absurd trivial d8
    · skip
      obtain ⟨⟨c1, c2, c3, c4⟩, c5, c6⟩ := r6
      obtain ⟨c81, c82⟩ := r8
      have yw : y = w := c5.uni c81
      have eq : σ' = τ' := by rw [c6, c82]
      have t36 : τ' 36 = 0 := by
        rw [c82]
        exact z36
      exact ⟨.of eq t36, t36.trans hk.symm, fun _ => yw⟩
def zr6_last (σ : Nat → Int) (q q2 th y : Int) (σ' : Nat → Int) : Prop := (th = 1 ∧ (¬ (0 ≤ q ∧ q ≤ 7 ∧ 0 ≤ q2 ∧ q2 ≤ 7)) ∧ σ' = σ) ∨ (th = 0 ∧ (0 ≤ q ∧ q ≤ 7 ∧ 0 ≤ q2 ∧ q2 ≤ 7) ∧ zsP σ q q2 (zsN σ q q2 - 1) y ∧ σ' = σ)
set_option maxHeartbeats 1000000 in
theorem ag_last {σ σ' τ τ' : Nat → Int} {q q2 th y w : Int} (hA : zA6 σ τ) (hq : -2147483648 ≤ q ∧ q ≤ 2147483647) (hq2 : -2147483648 ≤ q2 ∧ q2 ≤ 2147483647) (h6 : zr6_last σ q q2 th y σ') (h8 : (¬ ((0 ≤ q ∧ q ≤ 7) ∧ (0 ≤ q2 ∧ q2 ≤ 7)) ∧ w = 0 ∧ τ' = zf τ 36 1) ∨ (((0 ≤ q ∧ q ≤ 7) ∧ (0 ≤ q2 ∧ q2 ≤ 7)) ∧ ¬ (True) ∧ w = 0 ∧ τ' = zf τ 36 2) ∨ (((0 ≤ q ∧ q ≤ 7) ∧ (0 ≤ q2 ∧ q2 ≤ 7)) ∧ (True) ∧ (zsP (zf τ 36 0) q q2 (zsN (zf τ 36 0) q q2 - 1) w ∧ τ' = (zf τ 36 0)))) : zA6 σ' τ' ∧ τ' 36 = th ∧ (th = 0 → y = w) := by
  unfold zr6_last at h6
  have z36 : σ 36 = 0 := hA.z
  have eA : σ = zf τ 36 0 := hA
  rw [← eA] at h8
  rcases h6 with ⟨hk, c6, hs⟩ | ⟨hk, r6⟩
  · rcases h8 with ⟨c8, hw, ht⟩ | ⟨c8, d8, hw, ht⟩ | ⟨c8, d8, r8⟩
    · rw [hs, ht, hk]
      exact ⟨hA.t36, zf_eq, fun h => absurd h (by decide)⟩
    · exact absurd trivial d8
    · exfalso
      omega
  · rcases h8 with ⟨c8, hw, ht⟩ | ⟨c8, d8, hw, ht⟩ | ⟨c8, d8, r8⟩
    · exfalso
      omega
    · exact absurd trivial d8
    · skip
      obtain ⟨⟨c1, c2, c3, c4⟩, c5, c6⟩ := r6
      obtain ⟨c81, c82⟩ := r8
      have yw : y = w := c5.uni c81
      have eq : σ' = τ' := by rw [c6, c82]
      have t36 : τ' 36 = 0 := by
        rw [c82]
        exact z36
      exact ⟨.of eq t36, t36.trans hk.symm, fun _ => yw⟩
def zr6_count (σ : Nat → Int) (q q2 th y : Int) (σ' : Nat → Int) : Prop := (th = 1 ∧ (¬ (0 ≤ q ∧ q ≤ 7 ∧ 0 ≤ q2 ∧ q2 ≤ 7)) ∧ σ' = σ) ∨ (th = 0 ∧ (0 ≤ q ∧ q ≤ 7 ∧ 0 ≤ q2 ∧ q2 ≤ 7) ∧ y = zsN σ q q2 ∧ σ' = σ)
set_option maxHeartbeats 1000000 in
theorem ag_count {σ σ' τ τ' : Nat → Int} {q q2 th y w : Int} (hA : zA6 σ τ) (hq : -2147483648 ≤ q ∧ q ≤ 2147483647) (hq2 : -2147483648 ≤ q2 ∧ q2 ≤ 2147483647) (h6 : zr6_count σ q q2 th y σ') (h8 : (¬ ((0 ≤ q ∧ q ≤ 7) ∧ (0 ≤ q2 ∧ q2 ≤ 7)) ∧ w = 0 ∧ τ' = zf τ 36 1) ∨ (((0 ≤ q ∧ q ≤ 7) ∧ (0 ≤ q2 ∧ q2 ≤ 7)) ∧ ¬ (True) ∧ w = 0 ∧ τ' = zf τ 36 2) ∨ (((0 ≤ q ∧ q ≤ 7) ∧ (0 ≤ q2 ∧ q2 ≤ 7)) ∧ (True) ∧ (w = zsN (zf τ 36 0) q q2 ∧ τ' = (zf τ 36 0)))) : zA6 σ' τ' ∧ τ' 36 = th ∧ (th = 0 → y = w) := by
  unfold zr6_count at h6
  have z36 : σ 36 = 0 := hA.z
  have eA : σ = zf τ 36 0 := hA
  rw [← eA] at h8
  rcases h6 with ⟨hk, c6, hs⟩ | ⟨hk, r6⟩
  · rcases h8 with ⟨c8, hw, ht⟩ | ⟨c8, d8, hw, ht⟩ | ⟨c8, d8, r8⟩
    · rw [hs, ht, hk]
      exact ⟨hA.t36, zf_eq, fun h => absurd h (by decide)⟩
    · exact absurd trivial d8
    · exfalso
      omega
  · rcases h8 with ⟨c8, hw, ht⟩ | ⟨c8, d8, hw, ht⟩ | ⟨c8, d8, r8⟩
    · exfalso
      omega
    · exact absurd trivial d8
    · skip
      obtain ⟨⟨c1, c2, c3, c4⟩, c5, c6⟩ := r6
      obtain ⟨c81, c82⟩ := r8
      have yw : y = w := by omega
      have eq : σ' = τ' := by rw [c6, c82]
      have t36 : τ' 36 = 0 := by
        rw [c82]
        exact z36
      exact ⟨.of eq t36, t36.trans hk.symm, fun _ => yw⟩
def zr6_place (σ : Nat → Int) (q q2 z th y : Int) (σ' : Nat → Int) : Prop := (th = 1 ∧ (¬ (0 ≤ q ∧ q ≤ 7 ∧ 0 ≤ q2 ∧ q2 ≤ 7)) ∧ σ' = σ) ∨ (th = 2 ∧ ((0 ≤ q ∧ q ≤ 7 ∧ 0 ≤ q2 ∧ q2 ≤ 7) ∧ ¬ (0 ≤ z ∧ z ≤ 80)) ∧ σ' = σ) ∨ (th = 0 ∧ ((0 ≤ q ∧ q ≤ 7 ∧ 0 ≤ q2 ∧ q2 ≤ 7) ∧ 0 ≤ z ∧ z ≤ 80) ∧ zsP σ q q2 z y ∧ σ' = σ)
set_option maxHeartbeats 1000000 in
theorem ag_place {σ σ' τ τ' : Nat → Int} {q q2 z th y w : Int} (hA : zA6 σ τ) (hq : -2147483648 ≤ q ∧ q ≤ 2147483647) (hq2 : -2147483648 ≤ q2 ∧ q2 ≤ 2147483647) (hz : -2147483648 ≤ z ∧ z ≤ 2147483647) (h6 : zr6_place σ q q2 z th y σ') (h8 : (¬ ((0 ≤ q ∧ q ≤ 7) ∧ (0 ≤ q2 ∧ q2 ≤ 7)) ∧ w = 0 ∧ τ' = zf τ 36 1) ∨ (((0 ≤ q ∧ q ≤ 7) ∧ (0 ≤ q2 ∧ q2 ≤ 7)) ∧ ¬ (0 ≤ z ∧ z ≤ 80) ∧ w = 0 ∧ τ' = zf τ 36 2) ∨ (((0 ≤ q ∧ q ≤ 7) ∧ (0 ≤ q2 ∧ q2 ≤ 7)) ∧ (0 ≤ z ∧ z ≤ 80) ∧ (zsP (zf τ 36 0) q q2 z w ∧ τ' = (zf τ 36 0)))) : zA6 σ' τ' ∧ τ' 36 = th ∧ (th = 0 → y = w) := by
  unfold zr6_place at h6
  have z36 : σ 36 = 0 := hA.z
  have eA : σ = zf τ 36 0 := hA
  rw [← eA] at h8
  rcases h6 with ⟨hk, c6, hs⟩ | ⟨hk, c6, hs⟩ | ⟨hk, r6⟩
  · rcases h8 with ⟨c8, hw, ht⟩ | ⟨c8, d8, hw, ht⟩ | ⟨c8, d8, r8⟩
    · rw [hs, ht, hk]
      exact ⟨hA.t36, zf_eq, fun h => absurd h (by decide)⟩
    · exfalso
      omega
    · exfalso
      omega
  · rcases h8 with ⟨c8, hw, ht⟩ | ⟨c8, d8, hw, ht⟩ | ⟨c8, d8, r8⟩
    · exfalso
      omega
    · rw [hs, ht, hk]
      exact ⟨hA.t36, zf_eq, fun h => absurd h (by decide)⟩
    · exfalso
      omega
  · rcases h8 with ⟨c8, hw, ht⟩ | ⟨c8, d8, hw, ht⟩ | ⟨c8, d8, r8⟩
    · exfalso
      omega
    · exfalso
      omega
    · skip
      obtain ⟨⟨⟨c1, c2, c3, c4⟩, c5, c6⟩, c7, c8⟩ := r6
      obtain ⟨c81, c82⟩ := r8
      have yw : y = w := c7.uni c81
      have eq : σ' = τ' := by rw [c8, c82]
      have t36 : τ' 36 = 0 := by
        rw [c82]
        exact z36
      exact ⟨.of eq t36, t36.trans hk.symm, fun _ => yw⟩
def zr6_border (σ : Nat → Int) (q th y : Int) (σ' : Nat → Int) : Prop := (th = 1 ∧ (¬ (0 ≤ q ∧ q ≤ 7)) ∧ σ' = σ) ∨ (th = 0 ∧ (0 ≤ q ∧ q ≤ 7) ∧ zsB σ q y ∧ σ' = σ)
set_option maxHeartbeats 1000000 in
theorem ag_border {σ σ' τ τ' : Nat → Int} {q th y w : Int} (hA : zA6 σ τ) (hq : -2147483648 ≤ q ∧ q ≤ 2147483647) (h6 : zr6_border σ q th y σ') (h8 : (¬ (0 ≤ q ∧ q ≤ 7) ∧ w = 0 ∧ τ' = zf τ 36 1) ∨ ((0 ≤ q ∧ q ≤ 7) ∧ ¬ (True) ∧ w = 0 ∧ τ' = zf τ 36 2) ∨ ((0 ≤ q ∧ q ≤ 7) ∧ (True) ∧ (zsB (zf τ 36 0) q w ∧ τ' = (zf τ 36 0)))) : zA6 σ' τ' ∧ τ' 36 = th ∧ (th = 0 → y = w) := by
  unfold zr6_border at h6
  have z36 : σ 36 = 0 := hA.z
  have eA : σ = zf τ 36 0 := hA
  rw [← eA] at h8
  rcases h6 with ⟨hk, c6, hs⟩ | ⟨hk, r6⟩
  · rcases h8 with ⟨c8, hw, ht⟩ | ⟨c8, d8, hw, ht⟩ | ⟨c8, d8, r8⟩
    · rw [hs, ht, hk]
      exact ⟨hA.t36, zf_eq, fun h => absurd h (by decide)⟩
    · exact absurd trivial d8
    · exfalso
      omega
  · rcases h8 with ⟨c8, hw, ht⟩ | ⟨c8, d8, hw, ht⟩ | ⟨c8, d8, r8⟩
    · exfalso
      omega
    · exact absurd trivial d8
    · skip
      obtain ⟨⟨c1, c2⟩, c3, c4⟩ := r6
      obtain ⟨c81, c82⟩ := r8
      have yw : y = w := c3.uni c81
      have eq : σ' = τ' := by rw [c4, c82]
      have t36 : τ' 36 = 0 := by
        rw [c82]
        exact z36
      exact ⟨.of eq t36, t36.trans hk.symm, fun _ => yw⟩
def zr6_borders (σ : Nat → Int) (q th y : Int) (σ' : Nat → Int) : Prop := (th = 1 ∧ (¬ (0 ≤ q ∧ q ≤ 7)) ∧ σ' = σ) ∨ (th = 0 ∧ (0 ≤ q ∧ q ≤ 7) ∧ σ' = σ)
set_option maxHeartbeats 1000000 in
theorem ag_borders {σ σ' τ τ' : Nat → Int} {q th y w : Int} (hA : zA6 σ τ) (hq : -2147483648 ≤ q ∧ q ≤ 2147483647) (h6 : zr6_borders σ q th y σ') (h8 : (¬ (0 ≤ q ∧ q ≤ 7) ∧ τ' = zf τ 36 1) ∨ ((0 ≤ q ∧ q ≤ 7) ∧ ¬ (True) ∧ τ' = zf τ 36 2) ∨ ((0 ≤ q ∧ q ≤ 7) ∧ (True) ∧ (τ' = (zf τ 36 0)))) : zA6 σ' τ' ∧ τ' 36 = th := by
  unfold zr6_borders at h6
  have z36 : σ 36 = 0 := hA.z
  have eA : σ = zf τ 36 0 := hA
  rw [← eA] at h8
  rcases h6 with ⟨hk, c6, hs⟩ | ⟨hk, r6⟩
  · rcases h8 with ⟨c8, ht⟩ | ⟨c8, d8, ht⟩ | ⟨c8, d8, r8⟩
    · rw [hs, ht, hk]
      exact ⟨hA.t36, zf_eq⟩
    · exact absurd trivial d8
    · exfalso
      omega
  · rcases h8 with ⟨c8, ht⟩ | ⟨c8, d8, ht⟩ | ⟨c8, d8, r8⟩
    · exfalso
      omega
    · exact absurd trivial d8
    · skip
      obtain ⟨⟨c1, c2⟩, c3⟩ := r6
      have c81 := r8
      have eq : σ' = τ' := by rw [c3, c81]
      have t36 : τ' 36 = 0 := by
        rw [c81]
        exact z36
      exact ⟨.of eq t36, t36.trans hk.symm⟩
def zr6_chain (σ : Nat → Int) (q th y : Int) (σ' : Nat → Int) : Prop := (th = 1 ∧ (¬ (0 ≤ q ∧ q ≤ 7)) ∧ σ' = σ) ∨ (th = 0 ∧ (0 ≤ q ∧ q ≤ 7) ∧ σ' = σ)
set_option maxHeartbeats 1000000 in
theorem ag_chain {σ σ' τ τ' : Nat → Int} {q th y w : Int} (hA : zA6 σ τ) (hq : -2147483648 ≤ q ∧ q ≤ 2147483647) (h6 : zr6_chain σ q th y σ') (h8 : (¬ (0 ≤ q ∧ q ≤ 7) ∧ τ' = zf τ 36 1) ∨ ((0 ≤ q ∧ q ≤ 7) ∧ ¬ (True) ∧ τ' = zf τ 36 2) ∨ ((0 ≤ q ∧ q ≤ 7) ∧ (True) ∧ (τ' = (zf τ 36 0)))) : zA6 σ' τ' ∧ τ' 36 = th := by
  unfold zr6_chain at h6
  have z36 : σ 36 = 0 := hA.z
  have eA : σ = zf τ 36 0 := hA
  rw [← eA] at h8
  rcases h6 with ⟨hk, c6, hs⟩ | ⟨hk, r6⟩
  · rcases h8 with ⟨c8, ht⟩ | ⟨c8, d8, ht⟩ | ⟨c8, d8, r8⟩
    · rw [hs, ht, hk]
      exact ⟨hA.t36, zf_eq⟩
    · exact absurd trivial d8
    · exfalso
      omega
  · rcases h8 with ⟨c8, ht⟩ | ⟨c8, d8, ht⟩ | ⟨c8, d8, r8⟩
    · exfalso
      omega
    · exact absurd trivial d8
    · skip
      obtain ⟨⟨c1, c2⟩, c3⟩ := r6
      have c81 := r8
      have eq : σ' = τ' := by rw [c3, c81]
      have t36 : τ' 36 = 0 := by
        rw [c81]
        exact z36
      exact ⟨.of eq t36, t36.trans hk.symm⟩
def zr6_differ (σ : Nat → Int) (q q2 th y : Int) (σ' : Nat → Int) : Prop := (th = 1 ∧ (¬ (0 ≤ q ∧ q ≤ 7 ∧ 0 ≤ q2 ∧ q2 ≤ 7)) ∧ σ' = σ) ∨ (th = 0 ∧ (0 ≤ q ∧ q ≤ 7 ∧ 0 ≤ q2 ∧ q2 ≤ 7) ∧ zfu (zsz σ q) (fun j => zsg σ q j.toNat) (zsz σ q2) (fun j => zsg σ q2 j.toNat) y ∧ σ' = σ)
set_option maxHeartbeats 1000000 in
theorem ag_differ {σ σ' τ τ' : Nat → Int} {q q2 th y w : Int} (hA : zA6 σ τ) (hq : -2147483648 ≤ q ∧ q ≤ 2147483647) (hq2 : -2147483648 ≤ q2 ∧ q2 ≤ 2147483647) (h6 : zr6_differ σ q q2 th y σ') (h8 : (¬ ((0 ≤ q ∧ q ≤ 7) ∧ (0 ≤ q2 ∧ q2 ≤ 7)) ∧ w = 0 ∧ τ' = zf τ 36 1) ∨ (((0 ≤ q ∧ q ≤ 7) ∧ (0 ≤ q2 ∧ q2 ≤ 7)) ∧ ¬ (True) ∧ w = 0 ∧ τ' = zf τ 36 2) ∨ (((0 ≤ q ∧ q ≤ 7) ∧ (0 ≤ q2 ∧ q2 ≤ 7)) ∧ (True) ∧ (zfu (zsz (zf τ 36 0) q) (fun j => zsg (zf τ 36 0) q j.toNat) (zsz (zf τ 36 0) q2) (fun j => zsg (zf τ 36 0) q2 j.toNat) w ∧ τ' = (zf τ 36 0)))) : zA6 σ' τ' ∧ τ' 36 = th ∧ (th = 0 → y = w) := by
  unfold zr6_differ at h6
  have z36 : σ 36 = 0 := hA.z
  have eA : σ = zf τ 36 0 := hA
  rw [← eA] at h8
  rcases h6 with ⟨hk, c6, hs⟩ | ⟨hk, r6⟩
  · rcases h8 with ⟨c8, hw, ht⟩ | ⟨c8, d8, hw, ht⟩ | ⟨c8, d8, r8⟩
    · rw [hs, ht, hk]
      exact ⟨hA.t36, zf_eq, fun h => absurd h (by decide)⟩
    · exact absurd trivial d8
    · exfalso
      omega
  · rcases h8 with ⟨c8, hw, ht⟩ | ⟨c8, d8, hw, ht⟩ | ⟨c8, d8, r8⟩
    · exfalso
      omega
    · exact absurd trivial d8
    · skip
      obtain ⟨⟨c1, c2, c3, c4⟩, c5, c6⟩ := r6
      obtain ⟨c81, c82⟩ := r8
      have yw : y = w := c5.uni c81
      have eq : σ' = τ' := by rw [c6, c82]
      have t36 : τ' 36 = 0 := by
        rw [c82]
        exact z36
      exact ⟨.of eq t36, t36.trans hk.symm, fun _ => yw⟩
def zr6_known (σ : Nat → Int) (q z th y : Int) (σ' : Nat → Int) : Prop := (th = 1 ∧ (¬ (0 ≤ q ∧ q ≤ 7)) ∧ σ' = σ) ∨ (th = 2 ∧ ((0 ≤ q ∧ q ≤ 7) ∧ ¬ (0 ≤ z ∧ z ≤ 4)) ∧ σ' = σ) ∨ (th = 0 ∧ (0 ≤ q ∧ q ≤ 7 ∧ 0 ≤ z ∧ z ≤ 4) ∧ zsK σ q z y ∧ σ' = σ)
set_option maxHeartbeats 1000000 in
theorem ag_known {σ σ' τ τ' : Nat → Int} {q z th y w : Int} (hA : zA6 σ τ) (hq : -2147483648 ≤ q ∧ q ≤ 2147483647) (hz : -2147483648 ≤ z ∧ z ≤ 2147483647) (h6 : zr6_known σ q z th y σ') (h8 : (¬ (0 ≤ q ∧ q ≤ 7) ∧ w = 0 ∧ τ' = zf τ 36 1) ∨ ((0 ≤ q ∧ q ≤ 7) ∧ ¬ (0 ≤ z ∧ z ≤ 4) ∧ w = 0 ∧ τ' = zf τ 36 2) ∨ ((0 ≤ q ∧ q ≤ 7) ∧ (0 ≤ z ∧ z ≤ 4) ∧ (zsK (zf τ 36 0) q z w ∧ τ' = (zf τ 36 0)))) : zA6 σ' τ' ∧ τ' 36 = th ∧ (th = 0 → y = w) := by
  unfold zr6_known at h6
  have z36 : σ 36 = 0 := hA.z
  have eA : σ = zf τ 36 0 := hA
  rw [← eA] at h8
  rcases h6 with ⟨hk, c6, hs⟩ | ⟨hk, c6, hs⟩ | ⟨hk, r6⟩
  · rcases h8 with ⟨c8, hw, ht⟩ | ⟨c8, d8, hw, ht⟩ | ⟨c8, d8, r8⟩
    · rw [hs, ht, hk]
      exact ⟨hA.t36, zf_eq, fun h => absurd h (by decide)⟩
    · exfalso
      omega
    · exfalso
      omega
  · rcases h8 with ⟨c8, hw, ht⟩ | ⟨c8, d8, hw, ht⟩ | ⟨c8, d8, r8⟩
    · exfalso
      omega
    · rw [hs, ht, hk]
      exact ⟨hA.t36, zf_eq, fun h => absurd h (by decide)⟩
    · exfalso
      omega
  · rcases h8 with ⟨c8, hw, ht⟩ | ⟨c8, d8, hw, ht⟩ | ⟨c8, d8, r8⟩
    · exfalso
      omega
    · exfalso
      omega
    · skip
      obtain ⟨⟨c1, c2, c3, c4⟩, c5, c6⟩ := r6
      obtain ⟨c81, c82⟩ := r8
      have yw : y = w := c5.uni c81
      have eq : σ' = τ' := by rw [c6, c82]
      have t36 : τ' 36 = 0 := by
        rw [c82]
        exact z36
      exact ⟨.of eq t36, t36.trans hk.symm, fun _ => yw⟩
def zr6_travelled (σ : Nat → Int) (q th y : Int) (σ' : Nat → Int) : Prop := (th = 1 ∧ (¬ (0 ≤ q ∧ q ≤ 1)) ∧ σ' = σ) ∨ (th = 0 ∧ (0 ≤ q ∧ q ≤ 1) ∧ σ' = σ)
set_option maxHeartbeats 1000000 in
theorem ag_travelled {σ σ' τ τ' : Nat → Int} {q th y w : Int} (hA : zA6 σ τ) (hq : -2147483648 ≤ q ∧ q ≤ 2147483647) (h6 : zr6_travelled σ q th y σ') (h8 : (¬ (0 ≤ q ∧ q ≤ 1) ∧ τ' = zf τ 36 1) ∨ ((0 ≤ q ∧ q ≤ 1) ∧ ¬ (True) ∧ τ' = zf τ 36 2) ∨ ((0 ≤ q ∧ q ≤ 1) ∧ (True) ∧ (τ' = (zf τ 36 0)))) : zA6 σ' τ' ∧ τ' 36 = th := by
  unfold zr6_travelled at h6
  have z36 : σ 36 = 0 := hA.z
  have eA : σ = zf τ 36 0 := hA
  rw [← eA] at h8
  rcases h6 with ⟨hk, c6, hs⟩ | ⟨hk, r6⟩
  · rcases h8 with ⟨c8, ht⟩ | ⟨c8, d8, ht⟩ | ⟨c8, d8, r8⟩
    · rw [hs, ht, hk]
      exact ⟨hA.t36, zf_eq⟩
    · exact absurd trivial d8
    · exfalso
      omega
  · rcases h8 with ⟨c8, ht⟩ | ⟨c8, d8, ht⟩ | ⟨c8, d8, r8⟩
    · exfalso
      omega
    · exact absurd trivial d8
    · skip
      obtain ⟨⟨c1, c2⟩, c3⟩ := r6
      have c81 := r8
      have eq : σ' = τ' := by rw [c3, c81]
      have t36 : τ' 36 = 0 := by
        rw [c81]
        exact z36
      exact ⟨.of eq t36, t36.trans hk.symm⟩
def zr6_house (σ : Nat → Int) (q th y : Int) (σ' : Nat → Int) : Prop := (th = 1 ∧ (¬ (0 ≤ q ∧ q ≤ 3)) ∧ σ' = σ) ∨ (th = 0 ∧ (0 ≤ q ∧ q ≤ 3) ∧ ((q = 0 ∧ y = σ 30) ∨ (q = 1 ∧ y = σ 31) ∨ (q = 2 ∧ y = σ 32) ∨ (q = 3 ∧ y = σ 33)) ∧ σ' = σ)
set_option maxHeartbeats 1000000 in
theorem ag_house {σ σ' τ τ' : Nat → Int} {q th y w : Int} (hA : zA6 σ τ) (hq : -2147483648 ≤ q ∧ q ≤ 2147483647) (h6 : zr6_house σ q th y σ') (h8 : (¬ (0 ≤ q ∧ q ≤ 3) ∧ w = 0 ∧ τ' = zf τ 36 1) ∨ ((0 ≤ q ∧ q ≤ 3) ∧ ¬ (True) ∧ w = 0 ∧ τ' = zf τ 36 2) ∨ ((0 ≤ q ∧ q ≤ 3) ∧ (True) ∧ (((q = 0 ∧ w = τ 30) ∨ (q = 1 ∧ w = τ 31) ∨ (q = 2 ∧ w = τ 32) ∨ (q = 3 ∧ w = τ 33)) ∧ τ' = (zf τ 36 0)))) : zA6 σ' τ' ∧ τ' 36 = th ∧ (th = 0 → y = w) := by
  unfold zr6_house at h6
  have z36 : σ 36 = 0 := hA.z
  have eA : σ = zf τ 36 0 := hA
  rw [← eA] at h8
  have f30 : τ 30 = σ 30 := (hA.at (by decide)).symm
  have f31 : τ 31 = σ 31 := (hA.at (by decide)).symm
  have f32 : τ 32 = σ 32 := (hA.at (by decide)).symm
  have f33 : τ 33 = σ 33 := (hA.at (by decide)).symm
  rcases h6 with ⟨hk, c6, hs⟩ | ⟨hk, r6⟩
  · rcases h8 with ⟨c8, hw, ht⟩ | ⟨c8, d8, hw, ht⟩ | ⟨c8, d8, r8⟩
    · rw [hs, ht, hk]
      exact ⟨hA.t36, zf_eq, fun h => absurd h (by decide)⟩
    · exact absurd trivial d8
    · exfalso
      omega
  · rcases h8 with ⟨c8, hw, ht⟩ | ⟨c8, d8, hw, ht⟩ | ⟨c8, d8, r8⟩
    · exfalso
      omega
    · exact absurd trivial d8
    · skip
      obtain ⟨⟨c1, c2⟩, d12, c11⟩ := r6
      obtain ⟨d810, c89⟩ := r8
      have yw : y = w := by omega
      have eq : σ' = τ' := by rw [c11, c89]
      have t36 : τ' 36 = 0 := by
        rw [c89]
        exact z36
      exact ⟨.of eq t36, t36.trans hk.symm, fun _ => yw⟩
