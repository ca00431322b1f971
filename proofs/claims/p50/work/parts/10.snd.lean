/-! the borders of a text, counted from the longest on -/
abbrev zbp (w : Nat → Int) (m i : Nat) : Prop := ∀ j, j < m - (i + 1) → w j = w (i + 1 + j)
theorem zbp_of {w : Nat → Int} {m i b : Nat} (hi : i < m) (hb : b = m - (i + 1)) : zpr w w m b ↔ zbp w m i := by
  subst hb
  constructor
  · intro h j hj
    have := h.2 j hj
    rw [this]
    exact congrArg w (by omega)
  · intro h
    refine ⟨by omega, fun j hj => ?_⟩
    rw [h j hj]
    exact congrArg w (by omega)
def znb (w : Nat → Int) (m : Nat) : Nat → Nat
  | 0 => 0
  | i + 1 => znb w m i + (if zbp w m i then 1 else 0)
theorem znb_in {w : Nat → Int} {m i : Nat} (h : zbp w m i) : znb w m (i + 1) = znb w m i + 1 := by
  show znb w m i + (if zbp w m i then 1 else 0) = _
  rw [if_pos h]
theorem znb_out {w : Nat → Int} {m i : Nat} (h : ¬ zbp w m i) : znb w m (i + 1) = znb w m i := by
  show znb w m i + (if zbp w m i then 1 else 0) = _
  rw [if_neg h]
  rfl
theorem znb_le {w : Nat → Int} {m i : Nat} : znb w m i ≤ i := by
  induction i with
  | zero => exact Nat.le_refl _
  | succ i ih =>
    by_cases h : zbp w m i
    · rw [znb_in h]
      omega
    · rw [znb_out h]
      omega
theorem znb_mono {w : Nat → Int} {m a b : Nat} (h : a ≤ b) : znb w m a ≤ znb w m b := by
  induction b with
  | zero => rw [show a = 0 by omega]; exact Nat.le_refl _
  | succ b ih =>
    by_cases e : a = b + 1
    · rw [e]
      exact Nat.le_refl _
    · have := ih (by omega)
      by_cases h : zbp w m b
      · rw [znb_in h]
        omega
      · rw [znb_out h]
        omega
theorem znb_skip {w : Nat → Int} {m a b : Nat} (hab : a ≤ b) (h : ∀ i, a ≤ i → i < b → ¬ zbp w m i) : znb w m b = znb w m a := by
  induction b with
  | zero => rw [show a = 0 by omega]
  | succ b ih =>
    by_cases e : a = b + 1
    · rw [e]
    · rw [znb_out (h b (by omega) (by omega))]
      exact ih (by omega) (fun i a1 a2 => h i a1 (by omega))
/-- the borders that are at least n long stand in the row -/
def zch (w : Nat → Int) (m : Nat) (n : Nat) (many : Int) (c : Nat → Int) : Prop := many = (znb w m (m - n) : Int) ∧ ∀ i : Nat, i < m - n → zbp w m i → c (znb w m i) = ((m - (i + 1) : Nat) : Int)
theorem zch_0 {w : Nat → Int} {m : Nat} {c : Nat → Int} : zch w m m 0 c := by
  unfold zch
  rw [Nat.sub_self]
  exact ⟨rfl, fun i hi => absurd hi (Nat.not_lt_zero _)⟩
theorem zch.step {w : Nat → Int} {m n b : Nat} {many : Int} {c c' : Nat → Int} (h : zch w m n many c) (hn : 0 < n) (hm : n = m ∨ zpr w w m n) (hnm : n ≤ m) (hb : zgb w n b) (h1 : c' many.toNat = b) (h2 : ∀ j, j ≠ many.toNat → c' j = c j) : zch w m b (many + 1) c' ∧ b < n ∧ zpr w w m b := by
  have hbn : b < n := by
    rcases hb.1 with e | e <;> omega
  have hpb : zpr w w m b := by
    rcases hm with e | e
    · rw [← e]
      exact hb.2.1
    · exact zpr_tr e hb.2.1
  have hno : ∀ i, m - n ≤ i → i < m - (b + 1) → ¬ zbp w m i := fun i a1 a2 z => by
    have z1 := (zbp_of (w := w) (m := m) (i := i) (b := m - (i + 1)) (by omega) rfl).mpr z
    have z2 : zpr w w n (m - (i + 1)) := by
      rcases hm with e | e
      · rw [e]
        exact z1
      · exact zpr_in e z1 (by omega)
    have := hb.2.2 _ (by omega) z2
    omega
  have hyes : zbp w m (m - (b + 1)) := (zbp_of (w := w) (m := m) (b := b) (by omega) (by omega)).mp hpb
  have e1 : znb w m (m - (b + 1)) = znb w m (m - n) := znb_skip (by omega) hno
  have e2 : znb w m (m - b) = znb w m (m - n) + 1 := by
    rw [show m - b = (m - (b + 1)) + 1 by omega, znb_in hyes, e1]
  have e3 : many.toNat = znb w m (m - n) := by rw [h.1]; exact Int.toNat_natCast _
  rw [e3] at h1 h2
  refine ⟨⟨by rw [e2, h.1]; omega, fun i hi hz => ?_⟩, hbn, hpb⟩
  by_cases c1 : i < m - n
  · have a := znb_mono (w := w) (m := m) (show i + 1 ≤ m - n by omega)
    rw [znb_in hz] at a
    rw [h2 _ (by omega)]
    exact h.2 i c1 hz
  · by_cases c2 : i = m - (b + 1)
    · rw [c2, e1, h1]
      omega
    · exact absurd hz (hno i (by omega) (by omega))
