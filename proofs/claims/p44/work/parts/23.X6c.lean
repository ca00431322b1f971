section
/-! Sashwords: the windows' calls with loops -/
theorem zw4_0 {σ : Nat → Int} {i : Nat} {c l p m : Int} : zw4 σ i c l p m (4 * i) = c := by unfold zw4; rw [if_pos rfl]
theorem zw4_1 {σ : Nat → Int} {i : Nat} {c l p m : Int} : zw4 σ i c l p m (4 * i + 1) = l := by unfold zw4; rw [if_neg (by omega), if_pos rfl]
theorem zw4_2 {σ : Nat → Int} {i : Nat} {c l p m : Int} : zw4 σ i c l p m (4 * i + 2) = p := by unfold zw4; rw [if_neg (by omega), if_neg (by omega), if_pos rfl]
theorem zw4_3 {σ : Nat → Int} {i : Nat} {c l p m : Int} : zw4 σ i c l p m (4 * i + 3) = m := by unfold zw4; rw [if_neg (by omega), if_neg (by omega), if_neg (by omega), if_pos rfl]
theorem zw4_ne {σ : Nat → Int} {i j k : Nat} {c l p m : Int} (h : j ≠ i) (hk : k < 4) : zw4 σ i c l p m (4 * j + k) = σ (4 * j + k) := by
  unfold zw4
  rw [if_neg (by omega), if_neg (by omega), if_neg (by omega), if_neg (by omega)]
theorem zw4_ne0 {σ : Nat → Int} {i j : Nat} {c l p m : Int} (h : j ≠ i) : zw4 σ i c l p m (4 * j) = σ (4 * j) := zw4_ne (k := 0) h (by omega)
theorem zw4_zw4 {σ : Nat → Int} {i : Nat} {c l p m c' l' p' m' : Int} : zw4 (zw4 σ i c l p m) i c' l' p' m' = zw4 σ i c' l' p' m' := by
  funext j
  unfold zw4
  by_cases h0 : j = 4 * i
  · simp [h0]
  · by_cases h1 : j = 4 * i + 1
    · simp [h1]
    · by_cases h2 : j = 4 * i + 2
      · simp [h2]
      · by_cases h3 : j = 4 * i + 3
        · simp [h3]
        · simp [h0, h1, h2, h3]
theorem zw4_comm {σ : Nat → Int} {i j : Nat} {c l p m c' l' p' m' : Int} (h : i ≠ j) : zw4 (zw4 σ i c l p m) j c' l' p' m' = zw4 (zw4 σ j c' l' p' m') i c l p m := by
  funext k
  unfold zw4
  by_cases h0 : k = 4 * i ∨ k = 4 * i + 1 ∨ k = 4 * i + 2 ∨ k = 4 * i + 3
  · rw [if_neg (by omega), if_neg (by omega), if_neg (by omega), if_neg (by omega)]
    rw [if_neg (c := k = 4 * j) (by omega), if_neg (c := k = 4 * j + 1) (by omega), if_neg (c := k = 4 * j + 2) (by omega), if_neg (c := k = 4 * j + 3) (by omega)]
  · rw [if_neg (c := k = 4 * i) (by omega), if_neg (c := k = 4 * i + 1) (by omega), if_neg (c := k = 4 * i + 2) (by omega), if_neg (c := k = 4 * i + 3) (by omega)]
    rw [if_neg (c := k = 4 * i) (by omega), if_neg (c := k = 4 * i + 1) (by omega), if_neg (c := k = 4 * i + 2) (by omega), if_neg (c := k = 4 * i + 3) (by omega)]
theorem zw4_id {σ : Nat → Int} {i : Nat} : zw4 σ i (σ (4 * i)) (σ (4 * i + 1)) (σ (4 * i + 2)) (σ (4 * i + 3)) = σ := by
  funext j
  unfold zw4
  by_cases h0 : j = 4 * i
  · simp [h0]
  · by_cases h1 : j = 4 * i + 1
    · simp [h1]
    · by_cases h2 : j = 4 * i + 2
      · simp [h2]
      · by_cases h3 : j = 4 * i + 3
        · simp [h3]
        · simp [h0, h1, h2, h3]
theorem zmulb {a b A B : Int} (ha : 0 ≤ a ∧ a ≤ A) (hb : 0 ≤ b ∧ b ≤ B) : 0 ≤ a * b ∧ a * b ≤ A * B := ⟨Int.mul_nonneg ha.1 hb.1, Int.mul_le_mul ha.2 hb.2 hb.1 (by omega)⟩
theorem zSB.kept {Γ : zGam} {V V' : zV} {P : Nat → Prop} {b cap : Nat} {cnt : Int} (h : zSB Γ V b cnt cap) (ha : zag P V V') (h7 : P 7) : zSB Γ V' b cnt cap := by
  obtain ⟨v, mb, f, h1, h2, h3⟩ := h
  exact ⟨v, mb, f, ha _ _ _ h1 h7, ha _ _ _ h2 h7, h3⟩
theorem zfr.ag {V V' : zV} (h : zfr V V') : zag (fun t => t ≠ 7) V V' := h
theorem zS.fr {Γ : zGam} {V V' : zV} {ad : Nat → Nat} {σ : Nat → Int} (h : zS Γ V ad σ) (hf : zfr V V') : zS Γ V' ad σ ∧ zfx V V' := ⟨h.kept (zfr.ag hf) (fun t _ _ h7 => h7), (zfr.ag hf).mono (fun t ht => by omega)⟩
/-! contents: writing on and on -/
theorem zrun_k {x st k : Int} (hk : 0 ≤ k) : (x + k * st) % 256 = (fun j : Nat => (x + (j : Int) * st) % 256) k.toNat := by
  show _ = (x + (k.toNat : Int) * st) % 256
  rw [Int.toNat_of_nonneg hk]
theorem zfT_lo {σ : Nat → Int} {a x : Int} {j : Nat} (h : j < 1000) : zf σ (zTp a) x j = σ j := zf_ne (by unfold zTp; omega)
theorem zlyT_lo {σ : Nat → Int} {a : Int} {n : Nat} {g : Nat → Int} {j : Nat} (h : j < 1000) : zly σ (zTp a) n g j = σ j := zly_ne (by unfold zTp; omega)
theorem zly_0 {σ : Nat → Int} {B : Nat} {g : Nat → Int} : zly σ B 0 g = σ := by
  funext j
  exact zly_ne (by omega)
theorem zwl_step {σ : Nat → Int} {i : Nat} {c l p m p' a b x k : Int} {g : Nat → Int} (hi : i < 6) (ha : 0 ≤ a) (hk : 0 ≤ k) (hb : b = a + k) (hx : x = g k.toNat) : zf (zw4 (zly (zw4 σ i c l p m) (zTp a) k.toNat g) i c l p' m) (zTp b) x = zly (zw4 σ i c l p' m) (zTp a) (k + 1).toNat g := by
  have e : zTp b = zTp a + k.toNat := by unfold zTp; omega
  have hT : 1000 ≤ zTp a := by unfold zTp; omega
  funext j
  rw [e]
  by_cases h1 : j = zTp a + k.toNat
  · rw [h1, zf_eq, zly_at (by omega)]
    exact hx
  · rw [zf_ne h1]
    by_cases h2 : zTp a ≤ j ∧ j < zTp a + k.toNat
    · rw [zw4_hi hi (by omega)]
      unfold zly
      rw [if_pos h2, if_pos (by omega)]
    · rw [zly_ne (by omega)]
      unfold zw4
      by_cases h3 : j = 4 * i
      · rw [if_pos h3, if_pos h3]
      · by_cases h4 : j = 4 * i + 1
        · rw [if_neg h3, if_pos h4, if_neg h3, if_pos h4]
        · by_cases h5 : j = 4 * i + 2
          · rw [if_neg h3, if_neg h4, if_pos h5, if_neg h3, if_neg h4, if_pos h5]
          · by_cases h6 : j = 4 * i + 3
            · rw [if_neg h3, if_neg h4, if_neg h5, if_pos h6, if_neg h3, if_neg h4, if_neg h5, if_pos h6]
            · rw [if_neg h3, if_neg h4, if_neg h5, if_neg h6, if_neg h3, if_neg h4, if_neg h5, if_neg h6, zly_ne h2, if_neg h3, if_neg h4, if_neg h5, if_neg h6]
/-- signs go over from one place of the tape to another, one by one -/
def zpo (σ : Nat → Int) (A B : Nat) : Nat → Nat → Int
  | 0 => σ
  | n + 1 => zf (zpo σ A B n) (B + n) (zpo σ A B n (A + n))
theorem zpo_lo {σ : Nat → Int} {A B : Nat} {j : Nat} (hB : 1000 ≤ B) (h : j < 1000) : ∀ n, zpo σ A B n j = σ j
  | 0 => rfl
  | n + 1 => (zf_ne (by omega)).trans (zpo_lo hB h n)
theorem zpoT_lo {σ : Nat → Int} {A : Nat} {b : Int} {j n : Nat} (h : j < 1000) : zpo σ A (zTp b) n j = σ j := zpo_lo (by unfold zTp; omega) h n
theorem zpo_w4 {σ : Nat → Int} {A B : Nat} (hA : 1000 ≤ A) (hB : 1000 ≤ B) {i : Nat} (hi : i < 6) {c l p m : Int} : ∀ n, zw4 (zpo σ A B n) i c l p m = zpo (zw4 σ i c l p m) A B n
  | 0 => rfl
  | n + 1 => by
    show zw4 (zf (zpo σ A B n) (B + n) (zpo σ A B n (A + n))) i c l p m = zf (zpo (zw4 σ i c l p m) A B n) (B + n) (zpo (zw4 σ i c l p m) A B n (A + n))
    rw [← zpo_w4 hA hB hi n, zw4_hi hi (by omega)]
    funext j
    unfold zf zw4
    dsimp only
    by_cases h : j = B + n
    · rw [if_pos h, if_pos h, if_neg (by omega), if_neg (by omega), if_neg (by omega), if_neg (by omega)]
    · rw [if_neg h, if_neg h]
theorem zpo_step {σ : Nat → Int} {i j : Nat} (hi : i < 6) (hj : j < 6) (hij : i ≠ j) {c l p m c' l' p' m' q q' a b a' b' x k : Int} (ha : 0 ≤ a) (hb : 0 ≤ b) (hk : 0 ≤ k) (ea : a' = a + k) (eb : b' = b + k) (hx : x = zpo (zw4 (zw4 σ i c l p m) j c' l' p' m') (zTp a) (zTp b) k.toNat (zTp a')) : zf (zw4 (zw4 (zpo (zw4 (zw4 σ i c l p m) j c' l' p' m') (zTp a) (zTp b) k.toNat) i c l q m) j c' l' q' m') (zTp b') x = zpo (zw4 (zw4 σ i c l q m) j c' l' q' m') (zTp a) (zTp b) (k + 1).toNat := by
  have hA : 1000 ≤ zTp a := by unfold zTp; omega
  have hB : 1000 ≤ zTp b := by unfold zTp; omega
  have e1 : zTp a' = zTp a + k.toNat := by unfold zTp; omega
  have e2 : zTp b' = zTp b + k.toNat := by unfold zTp; omega
  have e3 : (k + 1).toNat = k.toNat + 1 := by omega
  rw [e1] at hx
  rw [zpo_w4 hA hB hi, zpo_w4 hA hB hj, zw4_comm hij, zw4_zw4, zw4_comm (Ne.symm hij), zw4_zw4, e2, e3]
  have hv : zpo (zw4 (zw4 σ i c l p m) j c' l' p' m') (zTp a) (zTp b) k.toNat (zTp a + k.toNat) = zpo (zw4 (zw4 σ i c l q m) j c' l' q' m') (zTp a) (zTp b) k.toNat (zTp a + k.toNat) := by
    rw [← zpo_w4 hA hB hj, ← zpo_w4 hA hB hi, ← zpo_w4 hA hB hj, ← zpo_w4 hA hB hi]
    rw [zw4_hi hj (by omega), zw4_hi hi (by omega), zw4_hi hj (by omega), zw4_hi hi (by omega)]
  rw [hx, hv]
  rfl
/-- what is left of a number after so many letters -/
def zlt (x : Int) : Nat → Int
  | 0 => x
  | n + 1 => zlt x n / 3
set_option maxRecDepth 100000 in
set_option maxHeartbeats 4000000 in
theorem m_X6_run (l : Launch) (hlt : l.stackTraces = false) (Γ : zGam) {V : zV} {ad : Nat → Nat} {σ : Nat → Int} {q x st n : Int} (hS : zS Γ V ad σ) (hq : -2147483648 ≤ q ∧ q ≤ 2147483647) (hx : -2147483648 ≤ x ∧ x ≤ 2147483647) (hst : -2147483648 ≤ st ∧ st ≤ 2147483647) (hn : -2147483648 ≤ n ∧ n ≤ 2147483647) : zN l Γ 8 yX6_run wsX6_run 4 24 V [.ref (ad 1), .int (zI (q)), .int (zI (x)), .int (zI (st)), .int (zI (n))] (fun rv V' => ∃ (y : Int) (σ' : Nat → Int), rv = some (.int (zI y)) ∧ zS Γ V' ad σ' ∧ zfx V V' ∧ ((0 ≤ q ∧ q < 6 ∧ 0 ≤ x ∧ x ≤ 255 ∧ 0 ≤ st ∧ st ≤ 255 ∧ 0 ≤ n ∧ n ≤ 40) ∧ 0 ≤ y ∧ y ≤ n ∧ y ≤ σ (4 * q.toNat + 1) - σ (4 * q.toNat + 2) ∧ (y = n ∨ y = σ (4 * q.toNat + 1) - σ (4 * q.toNat + 2)) ∧ σ' = zdn (zly (zw4 σ q.toNat (σ (4 * q.toNat)) (σ (4 * q.toNat + 1)) (σ (4 * q.toNat + 2) + y) (σ (4 * q.toNat + 3))) (zTp (σ (40 + q.toNat) + σ (4 * q.toNat + 2))) (y).toNat (fun j => (x + (j : Int) * st) % 256)))) (fun E V' => V' = V ∧ ((E = zIO ∧ ¬ (0 ≤ q ∧ q < 6)) ∨ (E = zIA ∧ (0 ≤ q ∧ q < 6) ∧ ¬ (0 ≤ x ∧ x ≤ 255 ∧ 0 ≤ st ∧ st ≤ 255 ∧ 0 ≤ n ∧ n ≤ 40)))) := by
  refine zN_of (cc := cX6_run) (nL := 7) (ret := (some .int)) (own := RX6) hlt (by decide +kernel) rfl rfl (Nat.le_of_ble_eq_true rfl) (fun C X Y => ?_)
  have hx1 : V (ad 1) = some (1, .inr (7, [.ref (ad 2), .ref (ad 20), .ref (ad 22), .ref (ad 24), .ref (ad 16), .ref (ad 31), .ref (ad 33), .ref (ad 35), .ref (ad 40), .ref (ad 45), .int (zI (σ 30)), .int (zI (σ 31)), .int (zI (σ 32)), .int (zI (σ 33))])) := hS.1
  show zG C V 4 24 0 [(0, .ref (ad 1)), (1, .int (zI (q))), (2, .int (zI (x))), (3, .int (zI (st))), (4, .int (zI (n)))] []
  refine zr_aload_n X 1 0 dX6_run_0 rfl rfl ?_
  refine zr_iload_n X 2 1 dX6_run_1 rfl rfl ?_
  refine zr_callVN (kc' := 4 - 1) (ks' := 24 - 6) X Y 5 1 (m_X6_windowOf l hlt Γ hS (q := q) (by omega)) gX6_run_X6_windowOf rfl (by decide +kernel) rfl (by decide) hx1 rfl rfl (Nat.le_of_ble_eq_true rfl) dX6_run_2 rfl (by omega) (by omega) (fun E W hX => ⟨hX.2.2, Or.inl ⟨hX.1, by have := hX.2.1; omega⟩⟩) (fun rv2 V3 hp4 => ?_)
  obtain ⟨hp4a, hp4b, hp4c⟩ := hp4
  rw [hp4b, hp4c]
  have hw5 := hS.w (i := q.toNat) (by omega)
  have hw5r := hw5.rg
  show zG C V (4 - 1) (24 - 6) 5 [(0, .ref (ad 1)), (1, .int (zI (q))), (2, .int (zI (x))), (3, .int (zI (st))), (4, .int (zI (n)))] [.ref (ad (10 + q.toNat))]
  refine zr_astore X 7 [(5, .ref (ad (10 + q.toNat))), (0, .ref (ad 1)), (1, .int (zI (q))), (2, .int (zI (x))), (3, .int (zI (st))), (4, .int (zI (n)))] dX6_run_5 rfl (by decide) rfl ?_
  refine zr_iload_n X 8 3 dX6_run_7 rfl rfl ?_
  refine zr_iconst X 9 dX6_run_8 rfl ?_
  refine zr_sipush X 12 (255) dX6_run_9 rfl (by decide) ?_
  refine zr_callSN (kc' := (4 - 1) - 1) (ks' := (24 - 6) - 6) X Y 15 3 (m_X6_requireWithin l hlt Γ (V := V) (x := x) (a := 0) (b := 255) (by omega) (by omega) (by omega)) gX6_run_X6_requireWithin rfl (by decide +kernel) rfl (by decide) rfl (Nat.le_of_ble_eq_true rfl) dX6_run_12 rfl (by omega) (by omega) (fun E W hX => ⟨hX.2.2, Or.inr ⟨hX.1, by have := hX.2.1; omega⟩⟩) (fun rv6 V7 hp8 => ?_)
  obtain ⟨hp8a, hp8b, hp8c⟩ := hp8
  rw [hp8b, hp8c]
  show zG C V ((4 - 1) - 1) ((24 - 6) - 6) 15 [(5, .ref (ad (10 + q.toNat))), (0, .ref (ad 1)), (1, .int (zI (q))), (2, .int (zI (x))), (3, .int (zI (st))), (4, .int (zI (n)))] []
  refine zr_iload_n X 16 4 dX6_run_15 rfl rfl ?_
  refine zr_iconst X 17 dX6_run_16 rfl ?_
  refine zr_sipush X 20 (255) dX6_run_17 rfl (by decide) ?_
  refine zr_callSN (kc' := ((4 - 1) - 1) - 1) (ks' := ((24 - 6) - 6) - 6) X Y 23 3 (m_X6_requireWithin l hlt Γ (V := V) (x := st) (a := 0) (b := 255) (by omega) (by omega) (by omega)) gX6_run_X6_requireWithin rfl (by decide +kernel) rfl (by decide) rfl (Nat.le_of_ble_eq_true rfl) dX6_run_20 rfl (by omega) (by omega) (fun E W hX => ⟨hX.2.2, Or.inr ⟨hX.1, by have := hX.2.1; omega⟩⟩) (fun rv9 V10 hp11 => ?_)
  obtain ⟨hp11a, hp11b, hp11c⟩ := hp11
  rw [hp11b, hp11c]
  show zG C V (((4 - 1) - 1) - 1) (((24 - 6) - 6) - 6) 23 [(5, .ref (ad (10 + q.toNat))), (0, .ref (ad 1)), (1, .int (zI (q))), (2, .int (zI (x))), (3, .int (zI (st))), (4, .int (zI (n)))] []
  refine zr_iload X 25 5 dX6_run_23 rfl rfl ?_
  refine zr_iconst X 26 dX6_run_25 rfl ?_
  refine zr_bipush X 28 (40) dX6_run_26 rfl (by decide) ?_
  refine zr_callSN (kc' := (((4 - 1) - 1) - 1) - 1) (ks' := (((24 - 6) - 6) - 6) - 6) X Y 31 3 (m_X6_requireWithin l hlt Γ (V := V) (x := n) (a := 0) (b := 40) (by omega) (by omega) (by omega)) gX6_run_X6_requireWithin rfl (by decide +kernel) rfl (by decide) rfl (Nat.le_of_ble_eq_true rfl) dX6_run_28 rfl (by omega) (by omega) (fun E W hX => ⟨hX.2.2, Or.inr ⟨hX.1, by have := hX.2.1; omega⟩⟩) (fun rv12 V13 hp14 => ?_)
  obtain ⟨hp14a, hp14b, hp14c⟩ := hp14
  rw [hp14b, hp14c]
  show zG C V ((((4 - 1) - 1) - 1) - 1) ((((24 - 6) - 6) - 6) - 6) 31 [(5, .ref (ad (10 + q.toNat))), (0, .ref (ad 1)), (1, .int (zI (q))), (2, .int (zI (x))), (3, .int (zI (st))), (4, .int (zI (n)))] []
  refine zr_iconst X 32 dX6_run_31 rfl ?_
  refine zr_istore X 34 [(6, .int (zI (0))), (5, .ref (ad (10 + q.toNat))), (0, .ref (ad 1)), (1, .int (zI (q))), (2, .int (zI (x))), (3, .int (zI (st))), (4, .int (zI (n)))] dX6_run_32 rfl (by decide) rfl ?_
  refine zr_sub [0, 1, 6, 5, 4, 3, 2] [(6, .int (zI (0))), (5, .ref (ad (10 + q.toNat))), (4, .int (zI (n))), (3, .int (zI (st))), (2, .int (zI (x))), (1, .int (zI (q))), (0, .ref (ad 1))] rfl ?_
  have loop : ∀ (N : Nat) (V1 : zV) (σ1 : Nat → Int) (k : Int), zS Γ V1 ad σ1 ∧ zfx V V1 ∧ σ1 = zly (zw4 σ q.toNat (σ (4 * q.toNat)) (σ (4 * q.toNat + 1)) (σ (4 * q.toNat + 2) + k) (σ (4 * q.toNat + 3))) (zTp (σ (40 + q.toNat) + σ (4 * q.toNat + 2))) (k).toNat (fun j => (x + (j : Int) * st) % 256) ∧ 0 ≤ k ∧ k ≤ n ∧ σ (4 * q.toNat + 2) + k ≤ σ (4 * q.toNat + 1) → (n - k).toNat = N → zG C V1 ((((4 - 1) - 1) - 1) - 1) ((((24 - 6) - 6) - 6) - 6) 34 [(6, .int (zI (k))), (5, .ref (ad (10 + q.toNat))), (4, .int (zI (n))), (3, .int (zI (st))), (2, .int (zI (x))), (1, .int (zI (q))), (0, .ref (ad 1))] [] := by
    intro N
    induction N using Nat.strongRecOn with
    | _ N ih =>
    intro V1 σ1 k hI hN
    obtain ⟨hI1, hI2, hI3, hI4, hI5, hI6⟩ := id hI
    have hx15 : V1 (ad 1) = some (1, .inr (7, [.ref (ad 2), .ref (ad 20), .ref (ad 22), .ref (ad 24), .ref (ad 16), .ref (ad 31), .ref (ad 33), .ref (ad 35), .ref (ad 40), .ref (ad 45), .int (zI (σ1 30)), .int (zI (σ1 31)), .int (zI (σ1 32)), .int (zI (σ1 33))])) := hI1.1
    have nq16 : σ1 (4 * q.toNat) = σ (4 * q.toNat) := by rw [hI3, zlyT_lo (by omega), zw4_0]
    have nq17 : σ1 (4 * q.toNat + 1) = σ (4 * q.toNat + 1) := by rw [hI3, zlyT_lo (by omega), zw4_1]
    have nq18 : σ1 (4 * q.toNat + 2) = σ (4 * q.toNat + 2) + k := by rw [hI3, zlyT_lo (by omega), zw4_2]
    have nq19 : σ1 (4 * q.toNat + 3) = σ (4 * q.toNat + 3) := by rw [hI3, zlyT_lo (by omega), zw4_3]
    have nq20 : σ1 (40 + q.toNat) = σ (40 + q.toNat) := by rw [hI3, zlyT_lo (by omega), zw4_hi (by omega) (by omega)]
    have hst_q := hS.cst (i := q.toNat) (by omega)
    have hw21 : zWi Γ V1 (10 + q.toNat) (ad (10 + q.toNat)) (σ (4 * q.toNat)) (σ (4 * q.toNat + 1)) (σ (4 * q.toNat + 2) + k) (σ (4 * q.toNat + 3)) := by
      have h := hI1.w (i := q.toNat) (by omega)
      rw [nq16, nq17, nq18, nq19] at h
      exact h
    have hw21r := hw21.rg
    have hks := zmulb (a := k) (b := st) (A := 40) (B := 255) (by omega) (by omega)
    refine zr_iload X 36 0 dX6_run_34 rfl rfl ?_
    refine zr_iload X 38 2 dX6_run_36 rfl rfl ?_
    refine zr_icmp_ge X 65 41 dX6_run_38 rfl rfl (by omega) (by omega) (fun bq22 => ?_) (fun bq22 => ?_)
    · refine zr_aload_n X 66 6 dX6_run_65 rfl rfl ?_
      refine zr_iload X 68 0 dX6_run_66 rfl rfl ?_
      refine zr_callVe (kc' := ((((4 - 1) - 1) - 1) - 1)) (ks' := ((((24 - 6) - 6) - 6) - 6)) X 71 1 (m_X6_done l Γ hI1) gX6_run_X6_done rfl (by decide +kernel) rfl (by decide) hI1.x rfl rfl (Nat.le_of_ble_eq_true rfl) dX6_run_68 rfl (by omega) (by omega) (fun rv23 V24 hp25 => ?_)
      obtain ⟨hp25e, hS26, fx27⟩ := hp25
      rw [hp25e]
      obtain ⟨σ28, σ28e⟩ : ∃ zz9 : Nat → Int, zz9 = zdn σ1 := ⟨_, rfl⟩
      rw [← σ28e] at hS26
      have fx29 := zag.tr hI2 fx27
      have hx30 : V24 (ad 1) = some (1, .inr (7, [.ref (ad 2), .ref (ad 20), .ref (ad 22), .ref (ad 24), .ref (ad 16), .ref (ad 31), .ref (ad 33), .ref (ad 35), .ref (ad 40), .ref (ad 45), .int (zI (σ28 30)), .int (zI (σ28 31)), .int (zI (σ28 32)), .int (zI (σ28 33))])) := hS26.1
      show zG C V24 ((((4 - 1) - 1) - 1) - 1) ((((24 - 6) - 6) - 6) - 6) 71 [(6, .int (zI (k))), (5, .ref (ad (10 + q.toNat))), (4, .int (zI (n))), (3, .int (zI (st))), (2, .int (zI (x))), (1, .int (zI (q))), (0, .ref (ad 1))] [.int (zI (k))]
      exact zr_iret X rfl ⟨k, σ28, rfl, hS26, fx29, ⟨by omega, by omega, by omega, by omega, by omega, by rw [σ28e, hI3]⟩⟩ dX6_run_71
    · refine zr_aload X 43 1 dX6_run_41 rfl rfl ?_
      refine zr_iload_n X 44 4 dX6_run_43 rfl rfl ?_
      refine zr_iload X 46 0 dX6_run_44 rfl rfl ?_
      refine zr_iload_n X 47 3 dX6_run_46 rfl rfl ?_
      refine zr_imul X 48 dX6_run_47 rfl ?_
      refine zr_iadd X 49 dX6_run_48 rfl ?_
      refine zr_sipush X 52 (256) dX6_run_49 rfl (by decide) ?_
      refine zr_irem X 53 dX6_run_52 rfl (by omega) (by omega) ?_
      by_cases wr31 : σ (4 * q.toNat + 2) + k < σ (4 * q.toNat + 1)
      · skip
        refine zr_callVe (kc' := ((((4 - 1) - 1) - 1) - 1)) (ks' := ((((24 - 6) - 6) - 6) - 6)) X 56 1 (k_write_y l Γ hI1 (i := q.toNat) (by omega) (x := (x + (k * st)) % 256) (by omega) (by omega)) gX6_run_X5_writeSign rfl (by decide +kernel) rfl (by decide) hw21.cl rfl rfl (Nat.le_of_ble_eq_true rfl) dX6_run_53 rfl (by omega) (by omega) (fun rv32 V33 hp34 => ?_)
        obtain ⟨hp34e, hS35, fx36, hp34z⟩ := hp34
        try rw [nq18] at hp34e
        try rw [nq18] at hS35
        try rw [nq18] at hp34z
        try rw [nq16] at hp34e
        try rw [nq16] at hS35
        try rw [nq16] at hp34z
        try rw [nq17] at hp34e
        try rw [nq17] at hS35
        try rw [nq17] at hp34z
        try rw [nq19] at hp34e
        try rw [nq19] at hS35
        try rw [nq19] at hp34z
        try rw [nq20] at hp34e
        try rw [nq20] at hS35
        try rw [nq20] at hp34z
        rw [hp34e]
        have hw37 := hp34z.1
        obtain ⟨σ38, σ38e⟩ : ∃ zz9 : Nat → Int, zz9 = zf (zw4 σ1 q.toNat (σ (4 * q.toNat)) (σ (4 * q.toNat + 1)) (σ (4 * q.toNat + 2) + k + 1) (σ (4 * q.toNat + 3))) (zTp (σ (40 + q.toNat) + (σ (4 * q.toNat + 2) + k))) ((x + (k * st)) % 256) := ⟨_, rfl⟩
        rw [← σ38e] at hS35
        have fx39 := zag.tr hI2 fx36
        have hx40 : V33 (ad 1) = some (1, .inr (7, [.ref (ad 2), .ref (ad 20), .ref (ad 22), .ref (ad 24), .ref (ad 16), .ref (ad 31), .ref (ad 33), .ref (ad 35), .ref (ad 40), .ref (ad 45), .int (zI (σ38 30)), .int (zI (σ38 31)), .int (zI (σ38 32)), .int (zI (σ38 33))])) := hS35.1
        have nq41 : σ38 (4 * q.toNat) = σ (4 * q.toNat) := by rw [σ38e, zfT_lo (by omega), zw4_0]
        have nq42 : σ38 (4 * q.toNat + 1) = σ (4 * q.toNat + 1) := by rw [σ38e, zfT_lo (by omega), zw4_1]
        have nq43 : σ38 (4 * q.toNat + 2) = σ (4 * q.toNat + 2) + k + 1 := by rw [σ38e, zfT_lo (by omega), zw4_2]
        have nq44 : σ38 (4 * q.toNat + 3) = σ (4 * q.toNat + 3) := by rw [σ38e, zfT_lo (by omega), zw4_3]
        have nq45 : σ38 (40 + q.toNat) = σ (40 + q.toNat) := by rw [σ38e, zfT_lo (by omega), zw4_hi (by omega) (by omega), nq20]
        show zG C V33 ((((4 - 1) - 1) - 1) - 1) ((((24 - 6) - 6) - 6) - 6) 56 [(6, .int (zI (k))), (5, .ref (ad (10 + q.toNat))), (4, .int (zI (n))), (3, .int (zI (st))), (2, .int (zI (x))), (1, .int (zI (q))), (0, .ref (ad 1))] [.int (zI (1))]
        refine zr_if_eq X 65 59 dX6_run_56 rfl rfl (by omega) (fun bq46 => absurd bq46 (by omega)) (fun bq46 => ?_)
        refine zr_iinc X 62 0 [(6, .int (zI (k + 1))), (5, .ref (ad (10 + q.toNat))), (4, .int (zI (n))), (3, .int (zI (st))), (2, .int (zI (x))), (1, .int (zI (q))), (0, .ref (ad 1))] dX6_run_59 rfl rfl (by decide) rfl ?_
        refine zr_goto X 34 dX6_run_62 rfl ?_
        exact ih _ (by omega) V33 σ38 (k + 1) ⟨hS35, fx39, by rw [← Int.add_assoc, σ38e, hI3]; exact zwl_step (by omega) (by omega) (by omega) (by omega) (zrun_k (by omega)), by omega, by omega, by omega⟩ rfl
      · skip
        refine zr_callVe (kc' := ((((4 - 1) - 1) - 1) - 1)) (ks' := ((((24 - 6) - 6) - 6) - 6)) X 56 1 (e_write_n l Γ hw21 (x := (x + (k * st)) % 256) wr31) gX6_run_X5_writeSign rfl (by decide +kernel) rfl (by decide) hw21.cl rfl rfl (Nat.le_of_ble_eq_true rfl) dX6_run_53 rfl (by omega) (by omega) (fun rv47 V48 hp49 => ?_)
        rw [hp49.1, hp49.2]
        show zG C V1 ((((4 - 1) - 1) - 1) - 1) ((((24 - 6) - 6) - 6) - 6) 56 [(6, .int (zI (k))), (5, .ref (ad (10 + q.toNat))), (4, .int (zI (n))), (3, .int (zI (st))), (2, .int (zI (x))), (1, .int (zI (q))), (0, .ref (ad 1))] [.int (zI (0))]
        refine zr_if_eq X 65 59 dX6_run_56 rfl rfl (by omega) (fun bq50 => ?_) (fun bq50 => absurd bq50 (by omega))
        refine zr_aload_n X 66 6 dX6_run_65 rfl rfl ?_
        refine zr_iload X 68 0 dX6_run_66 rfl rfl ?_
        refine zr_callVe (kc' := ((((4 - 1) - 1) - 1) - 1)) (ks' := ((((24 - 6) - 6) - 6) - 6)) X 71 1 (m_X6_done l Γ hI1) gX6_run_X6_done rfl (by decide +kernel) rfl (by decide) hI1.x rfl rfl (Nat.le_of_ble_eq_true rfl) dX6_run_68 rfl (by omega) (by omega) (fun rv51 V52 hp53 => ?_)
        obtain ⟨hp53e, hS54, fx55⟩ := hp53
        rw [hp53e]
        obtain ⟨σ56, σ56e⟩ : ∃ zz9 : Nat → Int, zz9 = zdn σ1 := ⟨_, rfl⟩
        rw [← σ56e] at hS54
        have fx57 := zag.tr hI2 fx55
        have hx58 : V52 (ad 1) = some (1, .inr (7, [.ref (ad 2), .ref (ad 20), .ref (ad 22), .ref (ad 24), .ref (ad 16), .ref (ad 31), .ref (ad 33), .ref (ad 35), .ref (ad 40), .ref (ad 45), .int (zI (σ56 30)), .int (zI (σ56 31)), .int (zI (σ56 32)), .int (zI (σ56 33))])) := hS54.1
        show zG C V52 ((((4 - 1) - 1) - 1) - 1) ((((24 - 6) - 6) - 6) - 6) 71 [(6, .int (zI (k))), (5, .ref (ad (10 + q.toNat))), (4, .int (zI (n))), (3, .int (zI (st))), (2, .int (zI (x))), (1, .int (zI (q))), (0, .ref (ad 1))] [.int (zI (k))]
        exact zr_iret X rfl ⟨k, σ56, rfl, hS54, fx57, ⟨by omega, by omega, by omega, by omega, by omega, by rw [σ56e, hI3]⟩⟩ dX6_run_71
  exact loop _ V σ 0 ⟨hS, zag.rf, (by rw [Int.add_zero]; show σ = zly _ _ 0 _; rw [zly_0]; exact zw4_id.symm), by omega, by omega, by omega⟩ rfl
set_option maxRecDepth 100000 in
set_option maxHeartbeats 4000000 in
theorem m_X6_write (l : Launch) (hlt : l.stackTraces = false) (Γ : zGam) {V : zV} {ad : Nat → Nat} {σ : Nat → Int} {q x n : Int} (hS : zS Γ V ad σ) (hq : -2147483648 ≤ q ∧ q ≤ 2147483647) (hx : -2147483648 ≤ x ∧ x ≤ 2147483647) (hn : -2147483648 ≤ n ∧ n ≤ 2147483647) : zN l Γ 8 yX6_write wsX6_write 3 18 V [.ref (ad 1), .int (zI (q)), .int (zI (x)), .int (zI (n))] (fun rv V' => ∃ (y : Int) (σ' : Nat → Int), rv = some (.int (zI y)) ∧ zS Γ V' ad σ' ∧ zfx V V' ∧ ((0 ≤ q ∧ q < 6 ∧ 0 ≤ x ∧ 0 ≤ n ∧ n ≤ 20) ∧ 0 ≤ y ∧ y ≤ n ∧ y ≤ σ (4 * q.toNat + 1) - σ (4 * q.toNat + 2) ∧ (y = n ∨ y = σ (4 * q.toNat + 1) - σ (4 * q.toNat + 2)) ∧ σ' = zdn (zly (zw4 σ q.toNat (σ (4 * q.toNat)) (σ (4 * q.toNat + 1)) (σ (4 * q.toNat + 2) + y) (σ (4 * q.toNat + 3))) (zTp (σ (40 + q.toNat) + σ (4 * q.toNat + 2))) (y).toNat (fun j => 97 + zlt x j % 3)))) (fun E V' => V' = V ∧ ((E = zIO ∧ ¬ (0 ≤ q ∧ q < 6)) ∨ (E = zIA ∧ (0 ≤ q ∧ q < 6) ∧ ¬ (0 ≤ x ∧ 0 ≤ n ∧ n ≤ 20)))) := by
  refine zN_of (cc := cX6_write) (nL := 7) (ret := (some .int)) (own := RX6) hlt (by decide +kernel) rfl rfl (Nat.le_of_ble_eq_true rfl) (fun C X Y => ?_)
  have hx1 : V (ad 1) = some (1, .inr (7, [.ref (ad 2), .ref (ad 20), .ref (ad 22), .ref (ad 24), .ref (ad 16), .ref (ad 31), .ref (ad 33), .ref (ad 35), .ref (ad 40), .ref (ad 45), .int (zI (σ 30)), .int (zI (σ 31)), .int (zI (σ 32)), .int (zI (σ 33))])) := hS.1
  show zG C V 3 18 0 [(0, .ref (ad 1)), (1, .int (zI (q))), (2, .int (zI (x))), (3, .int (zI (n)))] []
  refine zr_aload_n X 1 0 dX6_write_0 rfl rfl ?_
  refine zr_iload_n X 2 1 dX6_write_1 rfl rfl ?_
  refine zr_callVN (kc' := 3 - 1) (ks' := 18 - 6) X Y 5 1 (m_X6_windowOf l hlt Γ hS (q := q) (by omega)) gX6_write_X6_windowOf rfl (by decide +kernel) rfl (by decide) hx1 rfl rfl (Nat.le_of_ble_eq_true rfl) dX6_write_2 rfl (by omega) (by omega) (fun E W hX => ⟨hX.2.2, Or.inl ⟨hX.1, by have := hX.2.1; omega⟩⟩) (fun rv2 V3 hp4 => ?_)
  obtain ⟨hp4a, hp4b, hp4c⟩ := hp4
  rw [hp4b, hp4c]
  have hw5 := hS.w (i := q.toNat) (by omega)
  have hw5r := hw5.rg
  show zG C V (3 - 1) (18 - 6) 5 [(0, .ref (ad 1)), (1, .int (zI (q))), (2, .int (zI (x))), (3, .int (zI (n)))] [.ref (ad (10 + q.toNat))]
  refine zr_astore X 7 [(4, .ref (ad (10 + q.toNat))), (0, .ref (ad 1)), (1, .int (zI (q))), (2, .int (zI (x))), (3, .int (zI (n)))] dX6_write_5 rfl (by decide) rfl ?_
  refine zr_iload_n X 8 3 dX6_write_7 rfl rfl ?_
  refine zr_iload_n X 9 4 dX6_write_8 rfl rfl ?_
  refine zr_callSN (kc' := (3 - 1) - 2) (ks' := (18 - 6) - 12) X Y 12 2 (m_X6_requireLetters l hlt Γ (V := V) (x := x) (k := n) (by omega) (by omega)) gX6_write_X6_requireLetters rfl (by decide +kernel) rfl (by decide) rfl (Nat.le_of_ble_eq_true rfl) dX6_write_9 rfl (by omega) (by omega) (fun E W hX => ⟨hX.2.2, Or.inr ⟨hX.1, by have := hX.2.1; omega⟩⟩) (fun rv6 V7 hp8 => ?_)
  obtain ⟨hp8a, hp8b, hp8c⟩ := hp8
  rw [hp8b, hp8c]
  show zG C V ((3 - 1) - 2) ((18 - 6) - 12) 12 [(4, .ref (ad (10 + q.toNat))), (0, .ref (ad 1)), (1, .int (zI (q))), (2, .int (zI (x))), (3, .int (zI (n)))] []
  refine zr_iload_n X 13 3 dX6_write_12 rfl rfl ?_
  refine zr_istore X 15 [(5, .int (zI (x))), (4, .ref (ad (10 + q.toNat))), (0, .ref (ad 1)), (1, .int (zI (q))), (2, .int (zI (x))), (3, .int (zI (n)))] dX6_write_13 rfl (by decide) rfl ?_
  refine zr_iconst X 16 dX6_write_15 rfl ?_
  refine zr_istore X 18 [(6, .int (zI (0))), (5, .int (zI (x))), (4, .ref (ad (10 + q.toNat))), (0, .ref (ad 1)), (1, .int (zI (q))), (2, .int (zI (x))), (3, .int (zI (n)))] dX6_write_16 rfl (by decide) rfl ?_
  refine zr_sub [0, 1, 2, 6, 5, 4, 3] [(6, .int (zI (0))), (5, .int (zI (x))), (4, .ref (ad (10 + q.toNat))), (3, .int (zI (n))), (2, .int (zI (x))), (1, .int (zI (q))), (0, .ref (ad 1))] rfl ?_
  have loop : ∀ (N : Nat) (V1 : zV) (σ1 : Nat → Int) (k : Int) (x1 : Int), zS Γ V1 ad σ1 ∧ zfx V V1 ∧ σ1 = zly (zw4 σ q.toNat (σ (4 * q.toNat)) (σ (4 * q.toNat + 1)) (σ (4 * q.toNat + 2) + k) (σ (4 * q.toNat + 3))) (zTp (σ (40 + q.toNat) + σ (4 * q.toNat + 2))) (k).toNat (fun j => 97 + zlt x j % 3) ∧ 0 ≤ k ∧ k ≤ n ∧ σ (4 * q.toNat + 2) + k ≤ σ (4 * q.toNat + 1) ∧ 0 ≤ x1 ∧ x1 ≤ 2147483647 ∧ x1 = zlt x k.toNat → (n - k).toNat = N → zG C V1 ((3 - 1) - 2) ((18 - 6) - 12) 18 [(6, .int (zI (k))), (5, .int (zI (x1))), (4, .ref (ad (10 + q.toNat))), (3, .int (zI (n))), (2, .int (zI (x))), (1, .int (zI (q))), (0, .ref (ad 1))] [] := by
    intro N
    induction N using Nat.strongRecOn with
    | _ N ih =>
    intro V1 σ1 k x1 hI hN
    obtain ⟨hI1, hI2, hI3, hI4, hI5, hI6, hI7, hI8, hI9⟩ := id hI
    have hx9 : V1 (ad 1) = some (1, .inr (7, [.ref (ad 2), .ref (ad 20), .ref (ad 22), .ref (ad 24), .ref (ad 16), .ref (ad 31), .ref (ad 33), .ref (ad 35), .ref (ad 40), .ref (ad 45), .int (zI (σ1 30)), .int (zI (σ1 31)), .int (zI (σ1 32)), .int (zI (σ1 33))])) := hI1.1
    have nq10 : σ1 (4 * q.toNat) = σ (4 * q.toNat) := by rw [hI3, zlyT_lo (by omega), zw4_0]
    have nq11 : σ1 (4 * q.toNat + 1) = σ (4 * q.toNat + 1) := by rw [hI3, zlyT_lo (by omega), zw4_1]
    have nq12 : σ1 (4 * q.toNat + 2) = σ (4 * q.toNat + 2) + k := by rw [hI3, zlyT_lo (by omega), zw4_2]
    have nq13 : σ1 (4 * q.toNat + 3) = σ (4 * q.toNat + 3) := by rw [hI3, zlyT_lo (by omega), zw4_3]
    have nq14 : σ1 (40 + q.toNat) = σ (40 + q.toNat) := by rw [hI3, zlyT_lo (by omega), zw4_hi (by omega) (by omega)]
    have hst_q := hS.cst (i := q.toNat) (by omega)
    have hw15 : zWi Γ V1 (10 + q.toNat) (ad (10 + q.toNat)) (σ (4 * q.toNat)) (σ (4 * q.toNat + 1)) (σ (4 * q.toNat + 2) + k) (σ (4 * q.toNat + 3)) := by
      have h := hI1.w (i := q.toNat) (by omega)
      rw [nq10, nq11, nq12, nq13] at h
      exact h
    have hw15r := hw15.rg
    refine zr_iload X 20 0 dX6_write_18 rfl rfl ?_
    refine zr_iload_n X 21 3 dX6_write_20 rfl rfl ?_
    refine zr_icmp_ge X 49 24 dX6_write_21 rfl rfl (by omega) (by omega) (fun bq16 => ?_) (fun bq16 => ?_)
    · refine zr_aload_n X 50 6 dX6_write_49 rfl rfl ?_
      refine zr_iload X 52 0 dX6_write_50 rfl rfl ?_
      refine zr_callVe (kc' := ((3 - 1) - 2)) (ks' := ((18 - 6) - 12)) X 55 1 (m_X6_done l Γ hI1) gX6_write_X6_done rfl (by decide +kernel) rfl (by decide) hI1.x rfl rfl (Nat.le_of_ble_eq_true rfl) dX6_write_52 rfl (by omega) (by omega) (fun rv17 V18 hp19 => ?_)
      obtain ⟨hp19e, hS20, fx21⟩ := hp19
      rw [hp19e]
      obtain ⟨σ22, σ22e⟩ : ∃ zz9 : Nat → Int, zz9 = zdn σ1 := ⟨_, rfl⟩
      rw [← σ22e] at hS20
      have fx23 := zag.tr hI2 fx21
      have hx24 : V18 (ad 1) = some (1, .inr (7, [.ref (ad 2), .ref (ad 20), .ref (ad 22), .ref (ad 24), .ref (ad 16), .ref (ad 31), .ref (ad 33), .ref (ad 35), .ref (ad 40), .ref (ad 45), .int (zI (σ22 30)), .int (zI (σ22 31)), .int (zI (σ22 32)), .int (zI (σ22 33))])) := hS20.1
      show zG C V18 ((3 - 1) - 2) ((18 - 6) - 12) 55 [(6, .int (zI (k))), (5, .int (zI (x1))), (4, .ref (ad (10 + q.toNat))), (3, .int (zI (n))), (2, .int (zI (x))), (1, .int (zI (q))), (0, .ref (ad 1))] [.int (zI (k))]
      exact zr_iret X rfl ⟨k, σ22, rfl, hS20, fx23, ⟨by omega, by omega, by omega, by omega, by omega, by rw [σ22e, hI3]⟩⟩ dX6_write_55
    · refine zr_aload X 26 2 dX6_write_24 rfl rfl ?_
      refine zr_iload X 28 1 dX6_write_26 rfl rfl ?_
      refine zr_callS (kc' := ((3 - 1) - 2)) (ks' := ((18 - 6) - 12)) X 31 1 (m_X6_lowestLetter l Γ (V := V1) (x := x1) (by omega)) gX6_write_X6_lowestLetter rfl (by decide +kernel) rfl (by decide) rfl (Nat.le_of_ble_eq_true rfl) dX6_write_28 rfl (by omega) (by omega) (fun rv25 V26 hp27 => ?_)
      rw [hp27.1, hp27.2]
      show zG C V1 ((3 - 1) - 2) ((18 - 6) - 12) 31 [(6, .int (zI (k))), (5, .int (zI (x1))), (4, .ref (ad (10 + q.toNat))), (3, .int (zI (n))), (2, .int (zI (x))), (1, .int (zI (q))), (0, .ref (ad 1))] [.int (zI (97 + x1 % 3)), .ref (ad (10 + q.toNat))]
      by_cases wr28 : σ (4 * q.toNat + 2) + k < σ (4 * q.toNat + 1)
      · skip
        refine zr_callVe (kc' := ((3 - 1) - 2)) (ks' := ((18 - 6) - 12)) X 34 1 (k_write_y l Γ hI1 (i := q.toNat) (by omega) (x := 97 + x1 % 3) (by omega) (by omega)) gX6_write_X5_writeSign rfl (by decide +kernel) rfl (by decide) hw15.cl rfl rfl (Nat.le_of_ble_eq_true rfl) dX6_write_31 rfl (by omega) (by omega) (fun rv29 V30 hp31 => ?_)
        obtain ⟨hp31e, hS32, fx33, hp31z⟩ := hp31
        try rw [nq12] at hp31e
        try rw [nq12] at hS32
        try rw [nq12] at hp31z
        try rw [nq10] at hp31e
        try rw [nq10] at hS32
        try rw [nq10] at hp31z
        try rw [nq11] at hp31e
        try rw [nq11] at hS32
        try rw [nq11] at hp31z
        try rw [nq13] at hp31e
        try rw [nq13] at hS32
        try rw [nq13] at hp31z
        try rw [nq14] at hp31e
        try rw [nq14] at hS32
        try rw [nq14] at hp31z
        rw [hp31e]
        have hw34 := hp31z.1
        obtain ⟨σ35, σ35e⟩ : ∃ zz9 : Nat → Int, zz9 = zf (zw4 σ1 q.toNat (σ (4 * q.toNat)) (σ (4 * q.toNat + 1)) (σ (4 * q.toNat + 2) + k + 1) (σ (4 * q.toNat + 3))) (zTp (σ (40 + q.toNat) + (σ (4 * q.toNat + 2) + k))) (97 + x1 % 3) := ⟨_, rfl⟩
        rw [← σ35e] at hS32
        have fx36 := zag.tr hI2 fx33
        have hx37 : V30 (ad 1) = some (1, .inr (7, [.ref (ad 2), .ref (ad 20), .ref (ad 22), .ref (ad 24), .ref (ad 16), .ref (ad 31), .ref (ad 33), .ref (ad 35), .ref (ad 40), .ref (ad 45), .int (zI (σ35 30)), .int (zI (σ35 31)), .int (zI (σ35 32)), .int (zI (σ35 33))])) := hS32.1
        have nq38 : σ35 (4 * q.toNat) = σ (4 * q.toNat) := by rw [σ35e, zfT_lo (by omega), zw4_0]
        have nq39 : σ35 (4 * q.toNat + 1) = σ (4 * q.toNat + 1) := by rw [σ35e, zfT_lo (by omega), zw4_1]
        have nq40 : σ35 (4 * q.toNat + 2) = σ (4 * q.toNat + 2) + k + 1 := by rw [σ35e, zfT_lo (by omega), zw4_2]
        have nq41 : σ35 (4 * q.toNat + 3) = σ (4 * q.toNat + 3) := by rw [σ35e, zfT_lo (by omega), zw4_3]
        have nq42 : σ35 (40 + q.toNat) = σ (40 + q.toNat) := by rw [σ35e, zfT_lo (by omega), zw4_hi (by omega) (by omega), nq14]
        show zG C V30 ((3 - 1) - 2) ((18 - 6) - 12) 34 [(6, .int (zI (k))), (5, .int (zI (x1))), (4, .ref (ad (10 + q.toNat))), (3, .int (zI (n))), (2, .int (zI (x))), (1, .int (zI (q))), (0, .ref (ad 1))] [.int (zI (1))]
        refine zr_if_eq X 49 37 dX6_write_34 rfl rfl (by omega) (fun bq43 => absurd bq43 (by omega)) (fun bq43 => ?_)
        refine zr_iload X 39 1 dX6_write_37 rfl rfl ?_
        refine zr_iconst X 40 dX6_write_39 rfl ?_
        refine zr_idiv X 41 dX6_write_40 rfl (by omega) (by omega) ?_
        refine zr_istore X 43 [(5, .int (zI (x1 / 3))), (6, .int (zI (k))), (4, .ref (ad (10 + q.toNat))), (3, .int (zI (n))), (2, .int (zI (x))), (1, .int (zI (q))), (0, .ref (ad 1))] dX6_write_41 rfl (by decide) rfl ?_
        refine zr_iinc X 46 1 [(6, .int (zI (k + 1))), (5, .int (zI (x1 / 3))), (4, .ref (ad (10 + q.toNat))), (3, .int (zI (n))), (2, .int (zI (x))), (1, .int (zI (q))), (0, .ref (ad 1))] dX6_write_43 rfl rfl (by decide) rfl ?_
        refine zr_goto X 18 dX6_write_46 rfl ?_
        exact ih _ (by omega) V30 σ35 (k + 1) (x1 / 3) ⟨hS32, fx36, by rw [← Int.add_assoc, σ35e, hI3]; exact zwl_step (by omega) (by omega) (by omega) (by omega) (by rw [hI9]), by omega, by omega, by omega, by omega, by omega, by rw [hI9, show (k + 1).toNat = k.toNat + 1 by omega]; rfl⟩ rfl
      · skip
        refine zr_callVe (kc' := ((3 - 1) - 2)) (ks' := ((18 - 6) - 12)) X 34 1 (e_write_n l Γ hw15 (x := 97 + x1 % 3) wr28) gX6_write_X5_writeSign rfl (by decide +kernel) rfl (by decide) hw15.cl rfl rfl (Nat.le_of_ble_eq_true rfl) dX6_write_31 rfl (by omega) (by omega) (fun rv44 V45 hp46 => ?_)
        rw [hp46.1, hp46.2]
        show zG C V1 ((3 - 1) - 2) ((18 - 6) - 12) 34 [(6, .int (zI (k))), (5, .int (zI (x1))), (4, .ref (ad (10 + q.toNat))), (3, .int (zI (n))), (2, .int (zI (x))), (1, .int (zI (q))), (0, .ref (ad 1))] [.int (zI (0))]
        refine zr_if_eq X 49 37 dX6_write_34 rfl rfl (by omega) (fun bq47 => ?_) (fun bq47 => absurd bq47 (by omega))
        refine zr_aload_n X 50 6 dX6_write_49 rfl rfl ?_
        refine zr_iload X 52 0 dX6_write_50 rfl rfl ?_
        refine zr_callVe (kc' := ((3 - 1) - 2)) (ks' := ((18 - 6) - 12)) X 55 1 (m_X6_done l Γ hI1) gX6_write_X6_done rfl (by decide +kernel) rfl (by decide) hI1.x rfl rfl (Nat.le_of_ble_eq_true rfl) dX6_write_52 rfl (by omega) (by omega) (fun rv48 V49 hp50 => ?_)
        obtain ⟨hp50e, hS51, fx52⟩ := hp50
        rw [hp50e]
        obtain ⟨σ53, σ53e⟩ : ∃ zz9 : Nat → Int, zz9 = zdn σ1 := ⟨_, rfl⟩
        rw [← σ53e] at hS51
        have fx54 := zag.tr hI2 fx52
        have hx55 : V49 (ad 1) = some (1, .inr (7, [.ref (ad 2), .ref (ad 20), .ref (ad 22), .ref (ad 24), .ref (ad 16), .ref (ad 31), .ref (ad 33), .ref (ad 35), .ref (ad 40), .ref (ad 45), .int (zI (σ53 30)), .int (zI (σ53 31)), .int (zI (σ53 32)), .int (zI (σ53 33))])) := hS51.1
        show zG C V49 ((3 - 1) - 2) ((18 - 6) - 12) 55 [(6, .int (zI (k))), (5, .int (zI (x1))), (4, .ref (ad (10 + q.toNat))), (3, .int (zI (n))), (2, .int (zI (x))), (1, .int (zI (q))), (0, .ref (ad 1))] [.int (zI (k))]
        exact zr_iret X rfl ⟨k, σ53, rfl, hS51, fx54, ⟨by omega, by omega, by omega, by omega, by omega, by rw [σ53e, hI3]⟩⟩ dX6_write_55
  exact loop _ V σ 0 x ⟨hS, zag.rf, (by rw [Int.add_zero]; show σ = zly _ _ 0 _; rw [zly_0]; exact zw4_id.symm), by omega, by omega, by omega, by omega, by omega, rfl⟩ rfl
theorem zw4_two {σ : Nat → Int} {i j : Nat} (h : i ≠ j) {a b c d a' b' c' d' e f g k e' f' g' k' : Int} : zw4 (zw4 (zw4 (zw4 σ i a b c d) j e f g k) i a' b' c' d') j e' f' g' k' = zw4 (zw4 σ i a' b' c' d') j e' f' g' k' := by
  rw [zw4_comm (σ := zw4 σ i a b c d) (Ne.symm h), zw4_zw4, zw4_zw4]
set_option maxRecDepth 100000 in
set_option maxHeartbeats 4000000 in
theorem m_X6_pour_ne (l : Launch) (hlt : l.stackTraces = false) (Γ : zGam) {V : zV} {ad : Nat → Nat} {σ : Nat → Int} {q q2 n : Int} (hS : zS Γ V ad σ) (hq : -2147483648 ≤ q ∧ q ≤ 2147483647) (hq2 : -2147483648 ≤ q2 ∧ q2 ≤ 2147483647) (hn : -2147483648 ≤ n ∧ n ≤ 2147483647) (hne : q ≠ q2) : zN l Γ 8 yX6_pour wsX6_pour 4 24 V [.ref (ad 1), .int (zI (q)), .int (zI (q2)), .int (zI (n))] (fun rv V' => ∃ (y : Int) (σ' : Nat → Int), rv = some (.int (zI y)) ∧ zS Γ V' ad σ' ∧ zfx V V' ∧ ((0 ≤ q ∧ q < 6 ∧ 0 ≤ q2 ∧ q2 < 6 ∧ q ≠ q2 ∧ 0 ≤ n ∧ n ≤ 40) ∧ 0 ≤ y ∧ y ≤ n ∧ y ≤ σ (4 * q.toNat + 1) - σ (4 * q.toNat + 2) ∧ y ≤ σ (4 * q2.toNat + 1) - σ (4 * q2.toNat + 2) ∧ (y = n ∨ y = σ (4 * q.toNat + 1) - σ (4 * q.toNat + 2) ∨ y = σ (4 * q2.toNat + 1) - σ (4 * q2.toNat + 2)) ∧ σ' = zdn (zpo (zw4 (zw4 σ q.toNat (σ (4 * q.toNat)) (σ (4 * q.toNat + 1)) (σ (4 * q.toNat + 2) + y) (σ (4 * q.toNat + 3))) q2.toNat (σ (4 * q2.toNat)) (σ (4 * q2.toNat + 1)) (σ (4 * q2.toNat + 2) + y) (σ (4 * q2.toNat + 3))) (zTp (σ (40 + q.toNat) + σ (4 * q.toNat + 2))) (zTp (σ (40 + q2.toNat) + σ (4 * q2.toNat + 2))) (y).toNat))) (fun E V' => V' = V ∧ ((E = zIO ∧ ¬ (0 ≤ q ∧ q < 6 ∧ 0 ≤ q2 ∧ q2 < 6)) ∨ (E = zIA ∧ (0 ≤ q ∧ q < 6 ∧ 0 ≤ q2 ∧ q2 < 6) ∧ ¬ (q ≠ q2 ∧ 0 ≤ n ∧ n ≤ 40)))) := by
  refine zN_of (cc := cX6_pour) (nL := 7) (ret := (some .int)) (own := RX6) hlt (by decide +kernel) rfl rfl (Nat.le_of_ble_eq_true rfl) (fun C X Y => ?_)
  have hx1 : V (ad 1) = some (1, .inr (7, [.ref (ad 2), .ref (ad 20), .ref (ad 22), .ref (ad 24), .ref (ad 16), .ref (ad 31), .ref (ad 33), .ref (ad 35), .ref (ad 40), .ref (ad 45), .int (zI (σ 30)), .int (zI (σ 31)), .int (zI (σ 32)), .int (zI (σ 33))])) := hS.1
  show zG C V 4 24 0 [(0, .ref (ad 1)), (1, .int (zI (q))), (2, .int (zI (q2))), (3, .int (zI (n)))] []
  refine zr_aload_n X 1 0 dX6_pour_0 rfl rfl ?_
  refine zr_iload_n X 2 1 dX6_pour_1 rfl rfl ?_
  refine zr_callVN (kc' := 4 - 1) (ks' := 24 - 6) X Y 5 1 (m_X6_windowOf l hlt Γ hS (q := q) (by omega)) gX6_pour_X6_windowOf rfl (by decide +kernel) rfl (by decide) hx1 rfl rfl (Nat.le_of_ble_eq_true rfl) dX6_pour_2 rfl (by omega) (by omega) (fun E W hX => ⟨hX.2.2, Or.inl ⟨hX.1, by have := hX.2.1; omega⟩⟩) (fun rv2 V3 hp4 => ?_)
  obtain ⟨hp4a, hp4b, hp4c⟩ := hp4
  rw [hp4b, hp4c]
  have hw5 := hS.w (i := q.toNat) (by omega)
  have hw5r := hw5.rg
  show zG C V (4 - 1) (24 - 6) 5 [(0, .ref (ad 1)), (1, .int (zI (q))), (2, .int (zI (q2))), (3, .int (zI (n)))] [.ref (ad (10 + q.toNat))]
  refine zr_astore X 7 [(4, .ref (ad (10 + q.toNat))), (0, .ref (ad 1)), (1, .int (zI (q))), (2, .int (zI (q2))), (3, .int (zI (n)))] dX6_pour_5 rfl (by decide) rfl ?_
  refine zr_aload_n X 8 1 dX6_pour_7 rfl rfl ?_
  refine zr_iload_n X 9 3 dX6_pour_8 rfl rfl ?_
  refine zr_callVN (kc' := (4 - 1) - 1) (ks' := (24 - 6) - 6) X Y 12 1 (m_X6_windowOf l hlt Γ hS (q := q2) (by omega)) gX6_pour_X6_windowOf rfl (by decide +kernel) rfl (by decide) hx1 rfl rfl (Nat.le_of_ble_eq_true rfl) dX6_pour_9 rfl (by omega) (by omega) (fun E W hX => ⟨hX.2.2, Or.inl ⟨hX.1, by have := hX.2.1; omega⟩⟩) (fun rv6 V7 hp8 => ?_)
  obtain ⟨hp8a, hp8b, hp8c⟩ := hp8
  rw [hp8b, hp8c]
  have hw9 := hS.w (i := q2.toNat) (by omega)
  have hw9r := hw9.rg
  show zG C V ((4 - 1) - 1) ((24 - 6) - 6) 12 [(4, .ref (ad (10 + q.toNat))), (0, .ref (ad 1)), (1, .int (zI (q))), (2, .int (zI (q2))), (3, .int (zI (n)))] [.ref (ad (10 + q2.toNat))]
  refine zr_astore X 14 [(5, .ref (ad (10 + q2.toNat))), (4, .ref (ad (10 + q.toNat))), (0, .ref (ad 1)), (1, .int (zI (q))), (2, .int (zI (q2))), (3, .int (zI (n)))] dX6_pour_12 rfl (by decide) rfl ?_
  refine zr_iload_n X 15 3 dX6_pour_14 rfl rfl ?_
  refine zr_iload_n X 16 4 dX6_pour_15 rfl rfl ?_
  refine zr_icmp_eq X 23 19 dX6_pour_16 rfl rfl (by omega) (by omega) (fun bq10 => ?_) (fun bq10 => ?_)
  · exfalso
    omega
  · refine zr_iconst X 20 dX6_pour_19 rfl ?_
    refine zr_goto X 24 dX6_pour_20 rfl ?_
    refine zr_callSN (kc' := ((4 - 1) - 1) - 1) (ks' := ((24 - 6) - 6) - 6) X Y 27 1 (m_X6_require l hlt Γ (V := V) (b := 1) (by omega)) gX6_pour_X6_require rfl (by decide +kernel) rfl (by decide) rfl (Nat.le_of_ble_eq_true rfl) dX6_pour_24 rfl (by omega) (by omega) (fun E W hX => ⟨hX.2.2, Or.inr ⟨hX.1, by have := hX.2.1; omega⟩⟩) (fun rv11 V12 hp13 => ?_)
    obtain ⟨hp13a, hp13b, hp13c⟩ := hp13
    rw [hp13b, hp13c]
    show zG C V (((4 - 1) - 1) - 1) (((24 - 6) - 6) - 6) 27 [(5, .ref (ad (10 + q2.toNat))), (4, .ref (ad (10 + q.toNat))), (0, .ref (ad 1)), (1, .int (zI (q))), (2, .int (zI (q2))), (3, .int (zI (n)))] []
    refine zr_iload_n X 28 5 dX6_pour_27 rfl rfl ?_
    refine zr_iconst X 29 dX6_pour_28 rfl ?_
    refine zr_bipush X 31 (40) dX6_pour_29 rfl (by decide) ?_
    refine zr_callSN (kc' := (((4 - 1) - 1) - 1) - 1) (ks' := (((24 - 6) - 6) - 6) - 6) X Y 34 3 (m_X6_requireWithin l hlt Γ (V := V) (x := n) (a := 0) (b := 40) (by omega) (by omega) (by omega)) gX6_pour_X6_requireWithin rfl (by decide +kernel) rfl (by decide) rfl (Nat.le_of_ble_eq_true rfl) dX6_pour_31 rfl (by omega) (by omega) (fun E W hX => ⟨hX.2.2, Or.inr ⟨hX.1, by have := hX.2.1; omega⟩⟩) (fun rv14 V15 hp16 => ?_)
    obtain ⟨hp16a, hp16b, hp16c⟩ := hp16
    rw [hp16b, hp16c]
    show zG C V ((((4 - 1) - 1) - 1) - 1) ((((24 - 6) - 6) - 6) - 6) 34 [(5, .ref (ad (10 + q2.toNat))), (4, .ref (ad (10 + q.toNat))), (0, .ref (ad 1)), (1, .int (zI (q))), (2, .int (zI (q2))), (3, .int (zI (n)))] []
    refine zr_iconst X 35 dX6_pour_34 rfl ?_
    refine zr_istore X 37 [(6, .int (zI (0))), (5, .ref (ad (10 + q2.toNat))), (4, .ref (ad (10 + q.toNat))), (0, .ref (ad 1)), (1, .int (zI (q))), (2, .int (zI (q2))), (3, .int (zI (n)))] dX6_pour_35 rfl (by decide) rfl ?_
    refine zr_sub [0, 1, 2, 6, 5, 4, 3] [(6, .int (zI (0))), (5, .ref (ad (10 + q2.toNat))), (4, .ref (ad (10 + q.toNat))), (3, .int (zI (n))), (2, .int (zI (q2))), (1, .int (zI (q))), (0, .ref (ad 1))] rfl ?_
    have loop : ∀ (N : Nat) (V1 : zV) (σ1 : Nat → Int) (k : Int), zS Γ V1 ad σ1 ∧ zfx V V1 ∧ σ1 = zpo (zw4 (zw4 σ q.toNat (σ (4 * q.toNat)) (σ (4 * q.toNat + 1)) (σ (4 * q.toNat + 2) + k) (σ (4 * q.toNat + 3))) q2.toNat (σ (4 * q2.toNat)) (σ (4 * q2.toNat + 1)) (σ (4 * q2.toNat + 2) + k) (σ (4 * q2.toNat + 3))) (zTp (σ (40 + q.toNat) + σ (4 * q.toNat + 2))) (zTp (σ (40 + q2.toNat) + σ (4 * q2.toNat + 2))) (k).toNat ∧ 0 ≤ k ∧ k ≤ n ∧ σ (4 * q.toNat + 2) + k ≤ σ (4 * q.toNat + 1) ∧ σ (4 * q2.toNat + 2) + k ≤ σ (4 * q2.toNat + 1) → (n - k).toNat = N → zG C V1 ((((4 - 1) - 1) - 1) - 1) ((((24 - 6) - 6) - 6) - 6) 37 [(6, .int (zI (k))), (5, .ref (ad (10 + q2.toNat))), (4, .ref (ad (10 + q.toNat))), (3, .int (zI (n))), (2, .int (zI (q2))), (1, .int (zI (q))), (0, .ref (ad 1))] [] := by
      intro N
      induction N using Nat.strongRecOn with
      | _ N ih =>
      intro V1 σ1 k hI hN
      obtain ⟨hI1, hI2, hI3, hI4, hI5, hI6, hI7⟩ := id hI
      have hx17 : V1 (ad 1) = some (1, .inr (7, [.ref (ad 2), .ref (ad 20), .ref (ad 22), .ref (ad 24), .ref (ad 16), .ref (ad 31), .ref (ad 33), .ref (ad 35), .ref (ad 40), .ref (ad 45), .int (zI (σ1 30)), .int (zI (σ1 31)), .int (zI (σ1 32)), .int (zI (σ1 33))])) := hI1.1
      have nq18 : σ1 (4 * q.toNat) = σ (4 * q.toNat) := by rw [hI3, zpoT_lo (by omega), zw4_ne0 (show q.toNat ≠ q2.toNat by omega), zw4_0]
      have nq19 : σ1 (4 * q.toNat + 1) = σ (4 * q.toNat + 1) := by rw [hI3, zpoT_lo (by omega), zw4_ne (show q.toNat ≠ q2.toNat by omega) (by omega), zw4_1]
      have nq20 : σ1 (4 * q.toNat + 2) = σ (4 * q.toNat + 2) + k := by rw [hI3, zpoT_lo (by omega), zw4_ne (show q.toNat ≠ q2.toNat by omega) (by omega), zw4_2]
      have nq21 : σ1 (4 * q.toNat + 3) = σ (4 * q.toNat + 3) := by rw [hI3, zpoT_lo (by omega), zw4_ne (show q.toNat ≠ q2.toNat by omega) (by omega), zw4_3]
      have nq22 : σ1 (40 + q.toNat) = σ (40 + q.toNat) := by rw [hI3, zpoT_lo (by omega), zw4_hi (by omega) (by omega), zw4_hi (by omega) (by omega)]
      have nq23 : σ1 (4 * q2.toNat) = σ (4 * q2.toNat) := by rw [hI3, zpoT_lo (by omega), zw4_0]
      have nq24 : σ1 (4 * q2.toNat + 1) = σ (4 * q2.toNat + 1) := by rw [hI3, zpoT_lo (by omega), zw4_1]
      have nq25 : σ1 (4 * q2.toNat + 2) = σ (4 * q2.toNat + 2) + k := by rw [hI3, zpoT_lo (by omega), zw4_2]
      have nq26 : σ1 (4 * q2.toNat + 3) = σ (4 * q2.toNat + 3) := by rw [hI3, zpoT_lo (by omega), zw4_3]
      have nq27 : σ1 (40 + q2.toNat) = σ (40 + q2.toNat) := by rw [hI3, zpoT_lo (by omega), zw4_hi (by omega) (by omega), zw4_hi (by omega) (by omega)]
      have hst_q := hS.cst (i := q.toNat) (by omega)
      have hst_q2 := hS.cst (i := q2.toNat) (by omega)
      have hw28 : zWi Γ V1 (10 + q.toNat) (ad (10 + q.toNat)) (σ (4 * q.toNat)) (σ (4 * q.toNat + 1)) (σ (4 * q.toNat + 2) + k) (σ (4 * q.toNat + 3)) := by
        have h := hI1.w (i := q.toNat) (by omega)
        rw [nq18, nq19, nq20, nq21] at h
        exact h
      have hw28r := hw28.rg
      have hw29 : zWi Γ V1 (10 + q2.toNat) (ad (10 + q2.toNat)) (σ (4 * q2.toNat)) (σ (4 * q2.toNat + 1)) (σ (4 * q2.toNat + 2) + k) (σ (4 * q2.toNat + 3)) := by
        have h := hI1.w (i := q2.toNat) (by omega)
        rw [nq23, nq24, nq25, nq26] at h
        exact h
      have hw29r := hw29.rg
      refine zr_iload X 39 0 dX6_pour_37 rfl rfl ?_
      refine zr_iload_n X 40 3 dX6_pour_39 rfl rfl ?_
      refine zr_icmp_ge X 76 43 dX6_pour_40 rfl rfl (by omega) (by omega) (fun bq30 => ?_) (fun bq30 => ?_)
      · refine zr_aload_n X 77 6 dX6_pour_76 rfl rfl ?_
        refine zr_iload X 79 0 dX6_pour_77 rfl rfl ?_
        refine zr_callVe (kc' := ((((4 - 1) - 1) - 1) - 1)) (ks' := ((((24 - 6) - 6) - 6) - 6)) X 82 1 (m_X6_done l Γ hI1) gX6_pour_X6_done rfl (by decide +kernel) rfl (by decide) hI1.x rfl rfl (Nat.le_of_ble_eq_true rfl) dX6_pour_79 rfl (by omega) (by omega) (fun rv31 V32 hp33 => ?_)
        obtain ⟨hp33e, hS34, fx35⟩ := hp33
        rw [hp33e]
        obtain ⟨σ36, σ36e⟩ : ∃ zz9 : Nat → Int, zz9 = zdn σ1 := ⟨_, rfl⟩
        rw [← σ36e] at hS34
        have fx37 := zag.tr hI2 fx35
        have hx38 : V32 (ad 1) = some (1, .inr (7, [.ref (ad 2), .ref (ad 20), .ref (ad 22), .ref (ad 24), .ref (ad 16), .ref (ad 31), .ref (ad 33), .ref (ad 35), .ref (ad 40), .ref (ad 45), .int (zI (σ36 30)), .int (zI (σ36 31)), .int (zI (σ36 32)), .int (zI (σ36 33))])) := hS34.1
        show zG C V32 ((((4 - 1) - 1) - 1) - 1) ((((24 - 6) - 6) - 6) - 6) 82 [(6, .int (zI (k))), (5, .ref (ad (10 + q2.toNat))), (4, .ref (ad (10 + q.toNat))), (3, .int (zI (n))), (2, .int (zI (q2))), (1, .int (zI (q))), (0, .ref (ad 1))] [.int (zI (k))]
        exact zr_iret X rfl ⟨k, σ36, rfl, hS34, fx37, ⟨by omega, by omega, by omega, by omega, by omega, by omega, by rw [σ36e, hI3]⟩⟩ dX6_pour_82
      · refine zr_aload X 45 2 dX6_pour_43 rfl rfl ?_
        refine zr_callVe (kc' := ((((4 - 1) - 1) - 1) - 1)) (ks' := ((((24 - 6) - 6) - 6) - 6)) X 48 0 (e_size l Γ hw28) gX6_pour_X5_size rfl (by decide +kernel) rfl (by decide) hw28.cl rfl rfl (Nat.le_of_ble_eq_true rfl) dX6_pour_45 rfl (by omega) (by omega) (fun rv39 V40 hp41 => ?_)
        rw [hp41.1, hp41.2]
        show zG C V1 ((((4 - 1) - 1) - 1) - 1) ((((24 - 6) - 6) - 6) - 6) 48 [(6, .int (zI (k))), (5, .ref (ad (10 + q2.toNat))), (4, .ref (ad (10 + q.toNat))), (3, .int (zI (n))), (2, .int (zI (q2))), (1, .int (zI (q))), (0, .ref (ad 1))] [.int (zI ((σ (4 * q.toNat + 1)) - (σ (4 * q.toNat + 2) + k)))]
        refine zr_if_le X 76 51 dX6_pour_48 rfl rfl (by omega) (fun bq42 => ?_) (fun bq42 => ?_)
        · refine zr_aload_n X 77 6 dX6_pour_76 rfl rfl ?_
          refine zr_iload X 79 0 dX6_pour_77 rfl rfl ?_
          refine zr_callVe (kc' := ((((4 - 1) - 1) - 1) - 1)) (ks' := ((((24 - 6) - 6) - 6) - 6)) X 82 1 (m_X6_done l Γ hI1) gX6_pour_X6_done rfl (by decide +kernel) rfl (by decide) hI1.x rfl rfl (Nat.le_of_ble_eq_true rfl) dX6_pour_79 rfl (by omega) (by omega) (fun rv43 V44 hp45 => ?_)
          obtain ⟨hp45e, hS46, fx47⟩ := hp45
          rw [hp45e]
          obtain ⟨σ48, σ48e⟩ : ∃ zz9 : Nat → Int, zz9 = zdn σ1 := ⟨_, rfl⟩
          rw [← σ48e] at hS46
          have fx49 := zag.tr hI2 fx47
          have hx50 : V44 (ad 1) = some (1, .inr (7, [.ref (ad 2), .ref (ad 20), .ref (ad 22), .ref (ad 24), .ref (ad 16), .ref (ad 31), .ref (ad 33), .ref (ad 35), .ref (ad 40), .ref (ad 45), .int (zI (σ48 30)), .int (zI (σ48 31)), .int (zI (σ48 32)), .int (zI (σ48 33))])) := hS46.1
          show zG C V44 ((((4 - 1) - 1) - 1) - 1) ((((24 - 6) - 6) - 6) - 6) 82 [(6, .int (zI (k))), (5, .ref (ad (10 + q2.toNat))), (4, .ref (ad (10 + q.toNat))), (3, .int (zI (n))), (2, .int (zI (q2))), (1, .int (zI (q))), (0, .ref (ad 1))] [.int (zI (k))]
          exact zr_iret X rfl ⟨k, σ48, rfl, hS46, fx49, ⟨by omega, by omega, by omega, by omega, by omega, by omega, by rw [σ48e, hI3]⟩⟩ dX6_pour_82
        · refine zr_aload X 53 1 dX6_pour_51 rfl rfl ?_
          refine zr_callVe (kc' := ((((4 - 1) - 1) - 1) - 1)) (ks' := ((((24 - 6) - 6) - 6) - 6)) X 56 0 (e_size l Γ hw29) gX6_pour_X5_size rfl (by decide +kernel) rfl (by decide) hw29.cl rfl rfl (Nat.le_of_ble_eq_true rfl) dX6_pour_53 rfl (by omega) (by omega) (fun rv51 V52 hp53 => ?_)
          rw [hp53.1, hp53.2]
          show zG C V1 ((((4 - 1) - 1) - 1) - 1) ((((24 - 6) - 6) - 6) - 6) 56 [(6, .int (zI (k))), (5, .ref (ad (10 + q2.toNat))), (4, .ref (ad (10 + q.toNat))), (3, .int (zI (n))), (2, .int (zI (q2))), (1, .int (zI (q))), (0, .ref (ad 1))] [.int (zI ((σ (4 * q2.toNat + 1)) - (σ (4 * q2.toNat + 2) + k)))]
          refine zr_if_le X 76 59 dX6_pour_56 rfl rfl (by omega) (fun bq54 => ?_) (fun bq54 => ?_)
          · refine zr_aload_n X 77 6 dX6_pour_76 rfl rfl ?_
            refine zr_iload X 79 0 dX6_pour_77 rfl rfl ?_
            refine zr_callVe (kc' := ((((4 - 1) - 1) - 1) - 1)) (ks' := ((((24 - 6) - 6) - 6) - 6)) X 82 1 (m_X6_done l Γ hI1) gX6_pour_X6_done rfl (by decide +kernel) rfl (by decide) hI1.x rfl rfl (Nat.le_of_ble_eq_true rfl) dX6_pour_79 rfl (by omega) (by omega) (fun rv55 V56 hp57 => ?_)
            obtain ⟨hp57e, hS58, fx59⟩ := hp57
            rw [hp57e]
            obtain ⟨σ60, σ60e⟩ : ∃ zz9 : Nat → Int, zz9 = zdn σ1 := ⟨_, rfl⟩
            rw [← σ60e] at hS58
            have fx61 := zag.tr hI2 fx59
            have hx62 : V56 (ad 1) = some (1, .inr (7, [.ref (ad 2), .ref (ad 20), .ref (ad 22), .ref (ad 24), .ref (ad 16), .ref (ad 31), .ref (ad 33), .ref (ad 35), .ref (ad 40), .ref (ad 45), .int (zI (σ60 30)), .int (zI (σ60 31)), .int (zI (σ60 32)), .int (zI (σ60 33))])) := hS58.1
            show zG C V56 ((((4 - 1) - 1) - 1) - 1) ((((24 - 6) - 6) - 6) - 6) 82 [(6, .int (zI (k))), (5, .ref (ad (10 + q2.toNat))), (4, .ref (ad (10 + q.toNat))), (3, .int (zI (n))), (2, .int (zI (q2))), (1, .int (zI (q))), (0, .ref (ad 1))] [.int (zI (k))]
            exact zr_iret X rfl ⟨k, σ60, rfl, hS58, fx61, ⟨by omega, by omega, by omega, by omega, by omega, by omega, by rw [σ60e, hI3]⟩⟩ dX6_pour_82
          · refine zr_aload X 61 1 dX6_pour_59 rfl rfl ?_
            refine zr_aload X 63 2 dX6_pour_61 rfl rfl ?_
            refine zr_callVe (kc' := ((((4 - 1) - 1) - 1) - 1)) (ks' := ((((24 - 6) - 6) - 6) - 6)) X 66 0 (k_read l Γ hI1 (i := q.toNat) (by omega) (by omega)) gX6_pour_X5_readSign rfl (by decide +kernel) rfl (by decide) hw28.cl rfl rfl (Nat.le_of_ble_eq_true rfl) dX6_pour_63 rfl (by omega) (by omega) (fun rv63 V64 hp65 => ?_)
            have rg66 := hI1.rng (i := q.toNat) (by omega) (k := σ1 (4 * q.toNat + 2)) (by omega)
            rw [nq22, nq20] at rg66
            obtain ⟨hp65e, hS67, fx68, hp65z⟩ := hp65
            try rw [nq20] at hp65e
            try rw [nq20] at hS67
            try rw [nq20] at hp65z
            try rw [nq18] at hp65e
            try rw [nq18] at hS67
            try rw [nq18] at hp65z
            try rw [nq19] at hp65e
            try rw [nq19] at hS67
            try rw [nq19] at hp65z
            try rw [nq21] at hp65e
            try rw [nq21] at hS67
            try rw [nq21] at hp65z
            try rw [nq22] at hp65e
            try rw [nq22] at hS67
            try rw [nq22] at hp65z
            rw [hp65e]
            have hw69 := hp65z.1
            have hw70 := hw29.other hp65z (by omega) (by omega)
            obtain ⟨σ71, σ71e⟩ : ∃ zz9 : Nat → Int, zz9 = zw4 σ1 q.toNat (σ (4 * q.toNat)) (σ (4 * q.toNat + 1)) (σ (4 * q.toNat + 2) + k + 1) (σ (4 * q.toNat + 3)) := ⟨_, rfl⟩
            rw [← σ71e] at hS67
            have fx72 := zag.tr hI2 fx68
            have hx73 : V64 (ad 1) = some (1, .inr (7, [.ref (ad 2), .ref (ad 20), .ref (ad 22), .ref (ad 24), .ref (ad 16), .ref (ad 31), .ref (ad 33), .ref (ad 35), .ref (ad 40), .ref (ad 45), .int (zI (σ71 30)), .int (zI (σ71 31)), .int (zI (σ71 32)), .int (zI (σ71 33))])) := hS67.1
            have nq74 : σ71 (4 * q.toNat) = σ (4 * q.toNat) := by rw [σ71e, zw4_0]
            have nq75 : σ71 (4 * q.toNat + 1) = σ (4 * q.toNat + 1) := by rw [σ71e, zw4_1]
            have nq76 : σ71 (4 * q.toNat + 2) = σ (4 * q.toNat + 2) + k + 1 := by rw [σ71e, zw4_2]
            have nq77 : σ71 (4 * q.toNat + 3) = σ (4 * q.toNat + 3) := by rw [σ71e, zw4_3]
            have nq78 : σ71 (40 + q.toNat) = σ (40 + q.toNat) := by rw [σ71e, zw4_hi (by omega) (by omega), nq22]
            have nq79 : σ71 (4 * q2.toNat) = σ (4 * q2.toNat) := by rw [σ71e, zw4_ne0 (show q2.toNat ≠ q.toNat by omega), nq23]
            have nq80 : σ71 (4 * q2.toNat + 1) = σ (4 * q2.toNat + 1) := by rw [σ71e, zw4_ne (show q2.toNat ≠ q.toNat by omega) (by omega), nq24]
            have nq81 : σ71 (4 * q2.toNat + 2) = σ (4 * q2.toNat + 2) + k := by rw [σ71e, zw4_ne (show q2.toNat ≠ q.toNat by omega) (by omega), nq25]
            have nq82 : σ71 (4 * q2.toNat + 3) = σ (4 * q2.toNat + 3) := by rw [σ71e, zw4_ne (show q2.toNat ≠ q.toNat by omega) (by omega), nq26]
            have nq83 : σ71 (40 + q2.toNat) = σ (40 + q2.toNat) := by rw [σ71e, zw4_hi (by omega) (by omega), nq27]
            show zG C V64 ((((4 - 1) - 1) - 1) - 1) ((((24 - 6) - 6) - 6) - 6) 66 [(6, .int (zI (k))), (5, .ref (ad (10 + q2.toNat))), (4, .ref (ad (10 + q.toNat))), (3, .int (zI (n))), (2, .int (zI (q2))), (1, .int (zI (q))), (0, .ref (ad 1))] [.int (zI (σ1 (zTp (σ (40 + q.toNat) + (σ (4 * q.toNat + 2) + k))))), .ref (ad (10 + q2.toNat))]
            refine zr_callVe (kc' := ((((4 - 1) - 1) - 1) - 1)) (ks' := ((((24 - 6) - 6) - 6) - 6)) X 69 1 (k_write_y l Γ hS67 (i := q2.toNat) (by omega) (x := σ1 (zTp (σ (40 + q.toNat) + (σ (4 * q.toNat + 2) + k)))) (by omega) (by omega)) gX6_pour_X5_writeSign rfl (by decide +kernel) rfl (by decide) hw70.cl rfl rfl (Nat.le_of_ble_eq_true rfl) dX6_pour_66 rfl (by omega) (by omega) (fun rv84 V85 hp86 => ?_)
            obtain ⟨hp86e, hS87, fx88, hp86z⟩ := hp86
            try rw [nq81] at hp86e
            try rw [nq81] at hS87
            try rw [nq81] at hp86z
            try rw [nq79] at hp86e
            try rw [nq79] at hS87
            try rw [nq79] at hp86z
            try rw [nq80] at hp86e
            try rw [nq80] at hS87
            try rw [nq80] at hp86z
            try rw [nq82] at hp86e
            try rw [nq82] at hS87
            try rw [nq82] at hp86z
            try rw [nq83] at hp86e
            try rw [nq83] at hS87
            try rw [nq83] at hp86z
            rw [hp86e]
            have hw89 := hw69.other hp86z (by omega) (by omega)
            have hw90 := hp86z.1
            obtain ⟨σ91, σ91e⟩ : ∃ zz9 : Nat → Int, zz9 = zf (zw4 σ71 q2.toNat (σ (4 * q2.toNat)) (σ (4 * q2.toNat + 1)) (σ (4 * q2.toNat + 2) + k + 1) (σ (4 * q2.toNat + 3))) (zTp (σ (40 + q2.toNat) + (σ (4 * q2.toNat + 2) + k))) (σ1 (zTp (σ (40 + q.toNat) + (σ (4 * q.toNat + 2) + k)))) := ⟨_, rfl⟩
            rw [← σ91e] at hS87
            have fx92 := zag.tr fx72 fx88
            have hx93 : V85 (ad 1) = some (1, .inr (7, [.ref (ad 2), .ref (ad 20), .ref (ad 22), .ref (ad 24), .ref (ad 16), .ref (ad 31), .ref (ad 33), .ref (ad 35), .ref (ad 40), .ref (ad 45), .int (zI (σ91 30)), .int (zI (σ91 31)), .int (zI (σ91 32)), .int (zI (σ91 33))])) := hS87.1
            have nq94 : σ91 (4 * q.toNat) = σ (4 * q.toNat) := by rw [σ91e, zfT_lo (by omega), zw4_ne0 (show q.toNat ≠ q2.toNat by omega), nq74]
            have nq95 : σ91 (4 * q.toNat + 1) = σ (4 * q.toNat + 1) := by rw [σ91e, zfT_lo (by omega), zw4_ne (show q.toNat ≠ q2.toNat by omega) (by omega), nq75]
            have nq96 : σ91 (4 * q.toNat + 2) = σ (4 * q.toNat + 2) + k + 1 := by rw [σ91e, zfT_lo (by omega), zw4_ne (show q.toNat ≠ q2.toNat by omega) (by omega), nq76]
            have nq97 : σ91 (4 * q.toNat + 3) = σ (4 * q.toNat + 3) := by rw [σ91e, zfT_lo (by omega), zw4_ne (show q.toNat ≠ q2.toNat by omega) (by omega), nq77]
            have nq98 : σ91 (40 + q.toNat) = σ (40 + q.toNat) := by rw [σ91e, zfT_lo (by omega), zw4_hi (by omega) (by omega), nq78]
            have nq99 : σ91 (4 * q2.toNat) = σ (4 * q2.toNat) := by rw [σ91e, zfT_lo (by omega), zw4_0]
            have nq100 : σ91 (4 * q2.toNat + 1) = σ (4 * q2.toNat + 1) := by rw [σ91e, zfT_lo (by omega), zw4_1]
            have nq101 : σ91 (4 * q2.toNat + 2) = σ (4 * q2.toNat + 2) + k + 1 := by rw [σ91e, zfT_lo (by omega), zw4_2]
            have nq102 : σ91 (4 * q2.toNat + 3) = σ (4 * q2.toNat + 3) := by rw [σ91e, zfT_lo (by omega), zw4_3]
            have nq103 : σ91 (40 + q2.toNat) = σ (40 + q2.toNat) := by rw [σ91e, zfT_lo (by omega), zw4_hi (by omega) (by omega), nq83]
            show zG C V85 ((((4 - 1) - 1) - 1) - 1) ((((24 - 6) - 6) - 6) - 6) 69 [(6, .int (zI (k))), (5, .ref (ad (10 + q2.toNat))), (4, .ref (ad (10 + q.toNat))), (3, .int (zI (n))), (2, .int (zI (q2))), (1, .int (zI (q))), (0, .ref (ad 1))] [.int (zI (1))]
            refine zr_pop X 70 dX6_pour_69 rfl rfl ?_
            refine zr_iinc X 73 0 [(6, .int (zI (k + 1))), (5, .ref (ad (10 + q2.toNat))), (4, .ref (ad (10 + q.toNat))), (3, .int (zI (n))), (2, .int (zI (q2))), (1, .int (zI (q))), (0, .ref (ad 1))] dX6_pour_70 rfl rfl (by decide) rfl ?_
            refine zr_goto X 37 dX6_pour_73 rfl ?_
            exact ih _ (by omega) V85 σ91 (k + 1) ⟨hS87, fx92, by rw [← Int.add_assoc, ← Int.add_assoc, σ91e, σ71e, hI3]; exact zpo_step (by omega) (by omega) (show q.toNat ≠ q2.toNat by omega) (by omega) (by omega) (by omega) (by omega) (by omega) rfl, by omega, by omega, by omega, by omega⟩ rfl
    exact loop _ V σ 0 ⟨hS, zag.rf, (by rw [Int.add_zero, Int.add_zero, zw4_id, zw4_id]; rfl), by omega, by omega, by omega, by omega⟩ rfl
set_option maxRecDepth 100000 in
set_option maxHeartbeats 4000000 in
theorem m_X6_pour_eq (l : Launch) (hlt : l.stackTraces = false) (Γ : zGam) {V : zV} {ad : Nat → Nat} {σ : Nat → Int} {q n : Int} (hS : zS Γ V ad σ) (hq : -2147483648 ≤ q ∧ q ≤ 2147483647) (hn : -2147483648 ≤ n ∧ n ≤ 2147483647) : zN l Γ 8 yX6_pour wsX6_pour 4 24 V [.ref (ad 1), .int (zI (q)), .int (zI (q)), .int (zI (n))] (fun rv V' => ∃ (y : Int) (σ' : Nat → Int), rv = some (.int (zI y)) ∧ zS Γ V' ad σ' ∧ zfx V V' ∧ (False)) (fun E V' => V' = V ∧ ((E = zIO ∧ ¬ (0 ≤ q ∧ q < 6)) ∨ (E = zIA ∧ (0 ≤ q ∧ q < 6)))) := by
  refine zN_of (cc := cX6_pour) (nL := 7) (ret := (some .int)) (own := RX6) hlt (by decide +kernel) rfl rfl (Nat.le_of_ble_eq_true rfl) (fun C X Y => ?_)
  have hx1 : V (ad 1) = some (1, .inr (7, [.ref (ad 2), .ref (ad 20), .ref (ad 22), .ref (ad 24), .ref (ad 16), .ref (ad 31), .ref (ad 33), .ref (ad 35), .ref (ad 40), .ref (ad 45), .int (zI (σ 30)), .int (zI (σ 31)), .int (zI (σ 32)), .int (zI (σ 33))])) := hS.1
  show zG C V 4 24 0 [(0, .ref (ad 1)), (1, .int (zI (q))), (2, .int (zI (q))), (3, .int (zI (n)))] []
  refine zr_aload_n X 1 0 dX6_pour_0 rfl rfl ?_
  refine zr_iload_n X 2 1 dX6_pour_1 rfl rfl ?_
  refine zr_callVN (kc' := 4 - 1) (ks' := 24 - 6) X Y 5 1 (m_X6_windowOf l hlt Γ hS (q := q) (by omega)) gX6_pour_X6_windowOf rfl (by decide +kernel) rfl (by decide) hx1 rfl rfl (Nat.le_of_ble_eq_true rfl) dX6_pour_2 rfl (by omega) (by omega) (fun E W hX => ⟨hX.2.2, Or.inl ⟨hX.1, by have := hX.2.1; omega⟩⟩) (fun rv2 V3 hp4 => ?_)
  obtain ⟨hp4a, hp4b, hp4c⟩ := hp4
  rw [hp4b, hp4c]
  have hw5 := hS.w (i := q.toNat) (by omega)
  have hw5r := hw5.rg
  show zG C V (4 - 1) (24 - 6) 5 [(0, .ref (ad 1)), (1, .int (zI (q))), (2, .int (zI (q))), (3, .int (zI (n)))] [.ref (ad (10 + q.toNat))]
  refine zr_astore X 7 [(4, .ref (ad (10 + q.toNat))), (0, .ref (ad 1)), (1, .int (zI (q))), (2, .int (zI (q))), (3, .int (zI (n)))] dX6_pour_5 rfl (by decide) rfl ?_
  refine zr_aload_n X 8 1 dX6_pour_7 rfl rfl ?_
  refine zr_iload_n X 9 3 dX6_pour_8 rfl rfl ?_
  refine zr_callVN (kc' := (4 - 1) - 1) (ks' := (24 - 6) - 6) X Y 12 1 (m_X6_windowOf l hlt Γ hS (q := q) (by omega)) gX6_pour_X6_windowOf rfl (by decide +kernel) rfl (by decide) hx1 rfl rfl (Nat.le_of_ble_eq_true rfl) dX6_pour_9 rfl (by omega) (by omega) (fun E W hX => ⟨hX.2.2, Or.inl ⟨hX.1, by have := hX.2.1; omega⟩⟩) (fun rv6 V7 hp8 => ?_)
  obtain ⟨hp8a, hp8b, hp8c⟩ := hp8
  rw [hp8b, hp8c]
  have hw9 := hS.w (i := q.toNat) (by omega)
  have hw9r := hw9.rg
  show zG C V ((4 - 1) - 1) ((24 - 6) - 6) 12 [(4, .ref (ad (10 + q.toNat))), (0, .ref (ad 1)), (1, .int (zI (q))), (2, .int (zI (q))), (3, .int (zI (n)))] [.ref (ad (10 + q.toNat))]
  refine zr_astore X 14 [(5, .ref (ad (10 + q.toNat))), (4, .ref (ad (10 + q.toNat))), (0, .ref (ad 1)), (1, .int (zI (q))), (2, .int (zI (q))), (3, .int (zI (n)))] dX6_pour_12 rfl (by decide) rfl ?_
  refine zr_iload_n X 15 3 dX6_pour_14 rfl rfl ?_
  refine zr_iload_n X 16 4 dX6_pour_15 rfl rfl ?_
  refine zr_icmp_eq X 23 19 dX6_pour_16 rfl rfl (by omega) (by omega) (fun bq10 => ?_) (fun bq10 => ?_)
  · refine zr_iconst X 24 dX6_pour_23 rfl ?_
    refine zr_callSN (kc' := ((4 - 1) - 1) - 1) (ks' := ((24 - 6) - 6) - 6) X Y 27 1 (m_X6_require l hlt Γ (V := V) (b := 0) (by omega)) gX6_pour_X6_require rfl (by decide +kernel) rfl (by decide) rfl (Nat.le_of_ble_eq_true rfl) dX6_pour_24 rfl (by omega) (by omega) (fun E W hX => ⟨hX.2.2, Or.inr ⟨hX.1, by have := hX.2.1; omega⟩⟩) (fun rv11 V12 hp13 => ?_)
    obtain ⟨hp13a, hp13b, hp13c⟩ := hp13
    rw [hp13b, hp13c]
    show zG C V (((4 - 1) - 1) - 1) (((24 - 6) - 6) - 6) 27 [(5, .ref (ad (10 + q.toNat))), (4, .ref (ad (10 + q.toNat))), (0, .ref (ad 1)), (1, .int (zI (q))), (2, .int (zI (q))), (3, .int (zI (n)))] []
    exfalso
    omega
  · exfalso
    omega
set_option maxRecDepth 100000 in
set_option maxHeartbeats 4000000 in
theorem m_X6_sign (l : Launch) (hlt : l.stackTraces = false) (Γ : zGam) {V : zV} {ad : Nat → Nat} {σ : Nat → Int} {q z : Int} (hS : zS Γ V ad σ) (hq : -2147483648 ≤ q ∧ q ≤ 2147483647) (hz : -2147483648 ≤ z ∧ z ≤ 2147483647) : zN l Γ 8 yX6_sign wsX6_sign 2 12 V [.ref (ad 1), .int (zI (q)), .int (zI (z))] (fun rv V' => ∃ (y : Int) (σ' : Nat → Int), rv = some (.int (zI y)) ∧ zS Γ V' ad σ' ∧ zfx V V' ∧ ((0 ≤ q ∧ q < 6) ∧ y = (if 0 ≤ z ∧ z < σ (4 * q.toNat + 1) - σ (4 * q.toNat + 2) then σ (zTp (σ (40 + q.toNat) + (σ (4 * q.toNat + 2) + z))) else -9) ∧ σ' = σ)) (fun E V' => V' = V ∧ ((E = zIO ∧ ¬ (0 ≤ q ∧ q < 6)) ∨ (E = zIA ∧ False))) := by
  refine zN_of (cc := cX6_sign) (nL := 3) (ret := (some .int)) (own := RX6) hlt (by decide +kernel) rfl rfl (Nat.le_of_ble_eq_true rfl) (fun C X Y => ?_)
  have hx1 : V (ad 1) = some (1, .inr (7, [.ref (ad 2), .ref (ad 20), .ref (ad 22), .ref (ad 24), .ref (ad 16), .ref (ad 31), .ref (ad 33), .ref (ad 35), .ref (ad 40), .ref (ad 45), .int (zI (σ 30)), .int (zI (σ 31)), .int (zI (σ 32)), .int (zI (σ 33))])) := hS.1
  show zG C V 2 12 0 [(0, .ref (ad 1)), (1, .int (zI (q))), (2, .int (zI (z)))] []
  refine zr_aload_n X 1 0 dX6_sign_0 rfl rfl ?_
  refine zr_iload_n X 2 1 dX6_sign_1 rfl rfl ?_
  refine zr_callVN (kc' := 2 - 1) (ks' := 12 - 6) X Y 5 1 (m_X6_windowOf l hlt Γ hS (q := q) (by omega)) gX6_sign_X6_windowOf rfl (by decide +kernel) rfl (by decide) hx1 rfl rfl (Nat.le_of_ble_eq_true rfl) dX6_sign_2 rfl (by omega) (by omega) (fun E W hX => ⟨hX.2.2, Or.inl ⟨hX.1, by have := hX.2.1; omega⟩⟩) (fun rv2 V3 hp4 => ?_)
  obtain ⟨hp4a, hp4b, hp4c⟩ := hp4
  rw [hp4b, hp4c]
  have hw5 := hS.w (i := q.toNat) (by omega)
  have hw5r := hw5.rg
  show zG C V (2 - 1) (12 - 6) 5 [(0, .ref (ad 1)), (1, .int (zI (q))), (2, .int (zI (z)))] [.ref (ad (10 + q.toNat))]
  refine zr_iload_n X 6 2 dX6_sign_5 rfl rfl ?_
  refine zr_callVe (kc' := (2 - 1)) (ks' := (12 - 6)) X 9 1 (k_at l Γ hS (i := q.toNat) (by omega) (k := z) (by omega)) gX6_sign_X5_at rfl (by decide +kernel) rfl (by decide) hw5.cl rfl rfl (Nat.le_of_ble_eq_true rfl) dX6_sign_6 rfl (by omega) (by omega) (fun rv6 V7 hp8 => ?_)
  rw [hp8.1, hp8.2]
  obtain ⟨sy9, sy9e⟩ : ∃ z9 : Int, z9 = if 0 ≤ z ∧ z < σ (4 * q.toNat + 1) - σ (4 * q.toNat + 2) then σ (zTp (σ (40 + q.toNat) + (σ (4 * q.toNat + 2) + z))) else -9 := ⟨_, rfl⟩
  rw [← sy9e]
  show zG C V (2 - 1) (12 - 6) 9 [(0, .ref (ad 1)), (1, .int (zI (q))), (2, .int (zI (z)))] [.int (zI (sy9))]
  exact zr_iret X rfl ⟨sy9, σ, rfl, hS, zag.rf, ⟨by omega, sy9e, rfl⟩⟩ dX6_sign_9
set_option maxRecDepth 100000 in
set_option maxHeartbeats 4000000 in
theorem m_X6_look (l : Launch) (hlt : l.stackTraces = false) (Γ : zGam) {V : zV} {ad : Nat → Nat} {σ : Nat → Int} {q z : Int} (hS : zS Γ V ad σ) (hq : -2147483648 ≤ q ∧ q ≤ 2147483647) (hz : -2147483648 ≤ z ∧ z ≤ 2147483647) : zN l Γ 8 yX6_look wsX6_look 2 12 V [.ref (ad 1), .int (zI (q)), .int (zI (z))] (fun rv V' => ∃ (y : Int) (σ' : Nat → Int), rv = some (.int (zI y)) ∧ zS Γ V' ad σ' ∧ zfx V V' ∧ ((0 ≤ q ∧ q < 6) ∧ y = (if 0 ≤ z ∧ z < σ (4 * q.toNat + 1) then σ (zTp (σ (40 + q.toNat) + z)) else -9) ∧ σ' = σ)) (fun E V' => V' = V ∧ ((E = zIO ∧ ¬ (0 ≤ q ∧ q < 6)) ∨ (E = zIA ∧ False))) := by
  refine zN_of (cc := cX6_look) (nL := 3) (ret := (some .int)) (own := RX6) hlt (by decide +kernel) rfl rfl (Nat.le_of_ble_eq_true rfl) (fun C X Y => ?_)
  have hx1 : V (ad 1) = some (1, .inr (7, [.ref (ad 2), .ref (ad 20), .ref (ad 22), .ref (ad 24), .ref (ad 16), .ref (ad 31), .ref (ad 33), .ref (ad 35), .ref (ad 40), .ref (ad 45), .int (zI (σ 30)), .int (zI (σ 31)), .int (zI (σ 32)), .int (zI (σ 33))])) := hS.1
  show zG C V 2 12 0 [(0, .ref (ad 1)), (1, .int (zI (q))), (2, .int (zI (z)))] []
  refine zr_aload_n X 1 0 dX6_look_0 rfl rfl ?_
  refine zr_iload_n X 2 1 dX6_look_1 rfl rfl ?_
  refine zr_callVN (kc' := 2 - 1) (ks' := 12 - 6) X Y 5 1 (m_X6_windowOf l hlt Γ hS (q := q) (by omega)) gX6_look_X6_windowOf rfl (by decide +kernel) rfl (by decide) hx1 rfl rfl (Nat.le_of_ble_eq_true rfl) dX6_look_2 rfl (by omega) (by omega) (fun E W hX => ⟨hX.2.2, Or.inl ⟨hX.1, by have := hX.2.1; omega⟩⟩) (fun rv2 V3 hp4 => ?_)
  obtain ⟨hp4a, hp4b, hp4c⟩ := hp4
  rw [hp4b, hp4c]
  have hw5 := hS.w (i := q.toNat) (by omega)
  have hw5r := hw5.rg
  show zG C V (2 - 1) (12 - 6) 5 [(0, .ref (ad 1)), (1, .int (zI (q))), (2, .int (zI (z)))] [.ref (ad (10 + q.toNat))]
  refine zr_iload_n X 6 2 dX6_look_5 rfl rfl ?_
  refine zr_callVe (kc' := (2 - 1)) (ks' := (12 - 6)) X 9 1 (k_atPlace l Γ hS (i := q.toNat) (by omega) (k := z) (by omega)) gX6_look_X5_atPlace rfl (by decide +kernel) rfl (by decide) hw5.cl rfl rfl (Nat.le_of_ble_eq_true rfl) dX6_look_6 rfl (by omega) (by omega) (fun rv6 V7 hp8 => ?_)
  rw [hp8.1, hp8.2]
  obtain ⟨sy9, sy9e⟩ : ∃ z9 : Int, z9 = if 0 ≤ z ∧ z < σ (4 * q.toNat + 1) then σ (zTp (σ (40 + q.toNat) + z)) else -9 := ⟨_, rfl⟩
  rw [← sy9e]
  show zG C V (2 - 1) (12 - 6) 9 [(0, .ref (ad 1)), (1, .int (zI (q))), (2, .int (zI (z)))] [.int (zI (sy9))]
  exact zr_iret X rfl ⟨sy9, σ, rfl, hS, zag.rf, ⟨by omega, sy9e, rfl⟩⟩ dX6_look_9
end
section
/-! borders and seekers as a whole; marks instead of inequalities -/
section ZGG
variable (l0 : Launch) (Γ : zGam) {V : zV}
theorem f_becomeTextT {tb b tg g n to tr o r : Nat} {len m : Int} {h' : Int → Int} {e e' : va_E} (h : zSc Γ V tb b tg g n len) (ht : tb ≠ tg) (hn : n ≤ 1000) (hT : zTx Γ V o r m h') (ho : V o = some (to, e)) (hr : V r = some (tr, e')) (hne : to ≠ tb ∧ to ≠ tg ∧ tr ≠ tb ∧ tr ≠ tg) (hm : m ≤ n) : zM l0 Γ 5 yX2_becomeText wsX2_becomeText 0 0 V [.ref b, .ref o] (fun rv V' => rv = none ∧ zSs Γ V V' tb b tg g n m) := by
  obtain ⟨f, h1, h2, h3⟩ := id h
  exact f_becomeText l0 Γ h ht hn hT (zne_tag ho h1 hne.1) (zne_tag ho h2 hne.2.1) (zne_tag hr h1 hne.2.2.1) (zne_tag hr h2 hne.2.2.2) hm
theorem f_appendT {tb b tg g n to tr o r : Nat} {len m : Int} {h' : Int → Int} {e e' : va_E} (h : zSc Γ V tb b tg g n len) (ht : tb ≠ tg) (hn : n ≤ 1000) (hT : zTx Γ V o r m h') (ho : V o = some (to, e)) (hr : V r = some (tr, e')) (hne : to ≠ tb ∧ to ≠ tg ∧ tr ≠ tb ∧ tr ≠ tg) (hm : len + m ≤ n) : zM l0 Γ 4 yX2_append wsX2_append 0 0 V [.ref b, .ref o] (fun rv V' => rv = none ∧ zSs Γ V V' tb b tg g n (len + m)) := by
  obtain ⟨f, h1, h2, h3⟩ := id h
  exact f_append l0 Γ h ht hn hT (zne_tag ho h1 hne.1) (zne_tag ho h2 hne.2.1) (zne_tag hr h1 hne.2.2.1) (zne_tag hr h2 hne.2.2.2) hm
theorem zBo.cl {tt t ta ga tc ca : Nat} (h : zBo Γ V tt t ta ga tc ca) : zCl V t 2 := by
  obtain ⟨lk, gf, cf, h1, -⟩ := h
  exact ⟨_, _, h1⟩
theorem zSk.cl {tk k tp pl bo : Nat} (h : zSk Γ V tk k tp pl bo) : zCl V k 5 := by
  obtain ⟨mn, pf, h1, -⟩ := h
  exact ⟨_, _, h1⟩
variable {tt t ta ga tc ca to tr o r : Nat} {m : Int} {h' : Int → Int} {e e' : va_E}
theorem g_greatestOf (h : zBo Γ V tt t ta ga tc ca) {k : Int} (hk : -2147483648 ≤ k ∧ k ≤ 2147483647) : zM l0 Γ 0 yX0_greatestOf wsX0_greatestOf 0 0 V [.ref t, .int (zI k)] (fun rv V' => ∃ x : Int, rv = some (.int (zI x)) ∧ V' = V ∧ 0 ≤ x ∧ x ≤ 1000) := by
  obtain ⟨lk, gf, cf, h1, h2, h3, h4, h5, h6, h7⟩ := h
  refine (m_X0_greatestOf l0 Γ h1 h2 hk).imp (fun rv V' hp => ?_)
  obtain ⟨x, hx, hxa, hxb⟩ := zbd_if h4 k
  exact ⟨x, by rw [← hx]; exact hp.1, hp.2, hxa, hxb⟩
theorem g_linkAt (h : zBo Γ V tt t ta ga tc ca) {k : Int} (hk : -2147483648 ≤ k ∧ k ≤ 2147483647) : zM l0 Γ 0 yX0_linkAt wsX0_linkAt 0 0 V [.ref t, .int (zI k)] (fun rv V' => ∃ x : Int, rv = some (.int (zI x)) ∧ V' = V ∧ -1 ≤ x ∧ x ≤ 1000) := by
  obtain ⟨lk, gf, cf, h1, h2, h3, h4, h5, h6, h7⟩ := h
  refine (m_X0_linkAt l0 Γ h1 h3 ⟨hk.1, hk.2, h6, h7.1⟩).imp (fun rv V' hp => ?_)
  have hc := h5 k.toNat
  refine ⟨_, hp.1, hp.2, ?_⟩
  by_cases c : 0 ≤ k ∧ k < lk
  · rw [if_pos c]
    omega
  · rw [if_neg c]
    omega
theorem g_measure (h : zBo Γ V tt t ta ga tc ca) (hT : zTx Γ V o r m h') (ho : V o = some (to, e)) (hr : V r = some (tr, e')) (hne : to ≠ ta ∧ tr ≠ ta ∧ tt ≠ ta ∧ tc ≠ ta) (hm : m ≤ 80) : zM l0 Γ 6 yX0_measure wsX0_measure 0 0 V [.ref t, .ref o] (fun rv V' => rv = none ∧ zBo Γ V' tt t ta ga tc ca ∧ zag (fun x => x ≠ ta) V V' ∧ ∃ gf : Nat → Int, zBox Γ V' tt t ta ga gf ∧ ∀ n : Nat, (n : Int) ≤ m → zgb (zaw m h') n (gf n).toNat) := by
  obtain ⟨lk, gf, cf, h1, h2, h3, h4, h5, h6, h7⟩ := h
  refine (m_X0_measure l0 Γ h1 h2 h4 hT (zne_tag ho h2 hne.1) (zne_tag hr h2 hne.2.1) hm h7.2).imp (fun rv V' hp => ?_)
  obtain ⟨e1, g', hg, hg1, hgz, e2⟩ := hp
  have ha : zag (fun x => x ≠ ta) V V' := by
    rw [e2]
    exact zag.rf.set h2 (fun q => q rfl)
  have e3 : V' ga = some (ta, za Γ.2.1 0 81 g') := by
    rw [e2]
    exact zu_eq _ _ _ _
  refine ⟨e1, ⟨lk, g', cf, ha _ _ _ h1 hne.2.2.1, e3, ha _ _ _ h3 hne.2.2.2, hg, h5, h6, h7.1, hg1⟩, ha, g', ⟨lk, ca, ha _ _ _ h1 hne.2.2.1, e3, hg⟩, fun n hn => ?_⟩
  by_cases c : n = 0
  · rw [c, hg1.1]
    exact zgb_0
  · exact hgz n (by omega) hn (by omega)
/-- the greatest border, of a table that is known -/
theorem g_greatestOfx {gf : Nat → Int} (h : zBox Γ V tt t ta ga gf) {k : Int} (hk : 0 ≤ k ∧ k ≤ 80) : zM l0 Γ 0 yX0_greatestOf wsX0_greatestOf 0 0 V [.ref t, .int (zI k)] (fun rv V' => rv = some (.int (zI (gf k.toNat))) ∧ V' = V ∧ 0 ≤ gf k.toNat ∧ gf k.toNat ≤ 1000) := by
  obtain ⟨lk, ca, h1, h2, h4⟩ := h
  refine (m_X0_greatestOf l0 Γ h1 h2 (by omega)).imp (fun rv V' hp => ?_)
  rw [if_pos (by omega)] at hp
  exact ⟨hp.1, hp.2, (h4 _).1, (h4 _).2⟩
theorem g_measureChain (h : zBo Γ V tt t ta ga tc ca) (hT : zTx Γ V o r m h') (ho : V o = some (to, e)) (hr : V r = some (tr, e')) (hne : to ≠ ta ∧ tr ≠ ta ∧ to ≠ tc ∧ tr ≠ tc ∧ to ≠ tt ∧ tr ≠ tt ∧ ta ≠ tc ∧ tt ≠ ta ∧ tt ≠ tc) (hm : m ≤ 80) : zM l0 Γ 7 yX0_measureChain wsX0_measureChain 0 0 V [.ref t, .ref o] (fun rv V' => rv = none ∧ zBo Γ V' tt t ta ga tc ca ∧ zag (fun x => x ≠ ta ∧ x ≠ tc ∧ x ≠ tt) V V') := by
  obtain ⟨n1, n2, n3, n4, n5, n6, n7, n8, n9⟩ := hne
  obtain ⟨lk, gf, cf, h1, h2, h3, h4, h5, h6, h7⟩ := h
  have ngc : ga ≠ ca := zne_tag h2 h3 n7
  have ntg : t ≠ ga := zne_tag h1 h2 n8
  have ntc : t ≠ ca := zne_tag h1 h3 n9
  refine (m_X0_measureChain l0 Γ h1 h2 h3 h4 h5 hT (zne_tag ho h2 n1) (zne_tag hr h2 n2) hm h7.2 (zne_tag ho h3 n3) (zne_tag hr h3 n4) (zne_tag ho h1 n5) (zne_tag hr h1 n6) ngc).imp (fun rv V' hp => ?_)
  obtain ⟨e1, g', c', k', hg, hc, hg1, k1, k2, e2⟩ := hp
  refine ⟨e1, ⟨k', g', c', ?_, ?_, ?_, hg, hc, k1, k2, hg1⟩, ?_⟩
  · rw [e2]
    exact zu_eq _ _ _ _
  · rw [e2, zu_ne (Ne.symm ntg), zu_ne ngc]
    exact zu_eq _ _ _ _
  · rw [e2, zu_ne (Ne.symm ntc)]
    exact zu_eq _ _ _ _
  · rw [e2]
    exact ((zag.rf.set h2 (fun q => q.1 rfl)).set ((zu_ne (Ne.symm ngc)).trans h3) (fun q => q.2.1 rfl)).set ((zu_ne ntc).trans ((zu_ne ntg).trans h1)) (fun q => q.2.2 rfl)
variable {tk k tp pl bo : Nat}
theorem g_foundAt (h : zSk Γ V tk k tp pl bo) {q : Int} (hq : -2147483648 ≤ q ∧ q ≤ 2147483647) : zM l0 Γ 0 yX3_foundAt wsX3_foundAt 0 0 V [.ref k, .int (zI q)] (fun rv V' => ∃ x : Int, rv = some (.int (zI x)) ∧ V' = V ∧ -2000 ≤ x ∧ x ≤ 2000) := by
  obtain ⟨mn, pf, h1, h2, h3, h4, h5⟩ := h
  refine (m_X3_foundAt l0 Γ h1 h2 ⟨h4, h5⟩ hq).imp (fun rv V' hp => ?_)
  have hc := h3 q.toNat
  refine ⟨_, hp.1, hp.2, ?_⟩
  by_cases c : 0 ≤ q ∧ q < mn
  · rw [if_pos c]
    exact hc
  · rw [if_neg c]
    omega
/-- what is asked of a seeker that holds these places -/
theorem g_foundAtx {mn : Int} {pf : Nat → Int} (h : zSkx Γ V tk k tp pl bo mn pf) {q : Int} (hq : -2147483648 ≤ q ∧ q ≤ 2147483647) : zM l0 Γ 0 yX3_foundAt wsX3_foundAt 0 0 V [.ref k, .int (zI q)] (fun rv V' => ∃ x : Int, rv = some (.int (zI x)) ∧ V' = V ∧ -2000 ≤ x ∧ x ≤ 2000 ∧ x = if 0 ≤ q ∧ q < mn then pf q.toNat else -1) := by
  obtain ⟨h1, h2, h3, h4, h5⟩ := h
  refine (m_X3_foundAt l0 Γ h1 h2 ⟨h4, h5⟩ hq).imp (fun rv V' hp => ?_)
  have hc := h3 q.toNat
  refine ⟨_, hp.1, hp.2, ?_, ?_, rfl⟩
  · by_cases c : 0 ≤ q ∧ q < mn
    · rw [if_pos c]
      exact hc.1
    · rw [if_neg c]
      omega
  · by_cases c : 0 ≤ q ∧ q < mn
    · rw [if_pos c]
      exact hc.2
    · rw [if_neg c]
      omega
theorem g_seek {to2 tr2 o2 r2 : Nat} {m2 : Int} {h2' : Int → Int} {e2 e2' : va_E} (hk : zSk Γ V tk k tp pl t) (h : zBo Γ V tt t ta ga tc ca) (hT : zTx Γ V o r m h') (ho : V o = some (to, e)) (hr : V r = some (tr, e')) (hT2 : zTx Γ V o2 r2 m2 h2') (ho2 : V o2 = some (to2, e2)) (hr2 : V r2 = some (tr2, e2'))
    (hne : to ≠ tk ∧ to ≠ ta ∧ to ≠ tp ∧ tr ≠ tk ∧ tr ≠ ta ∧ tr ≠ tp) (hne2 : to2 ≠ tk ∧ to2 ≠ ta ∧ to2 ≠ tp ∧ tr2 ≠ tk ∧ tr2 ≠ ta ∧ tr2 ≠ tp) (hn3 : ta ≠ tp ∧ tk ≠ ta ∧ tk ≠ tp ∧ tt ≠ ta ∧ tt ≠ tp ∧ tt ≠ tk ∧ tc ≠ ta ∧ tc ≠ tp ∧ tc ≠ tk) (hm : m ≤ 80) (hm2 : m2 ≤ 80) :
    zM l0 Γ 7 yX3_seek wsX3_seek 0 0 V [.ref k, .ref o, .ref o2] (fun rv V' => rv = none ∧ (∃ (mn : Int) (pf : Nat → Int), zSkx Γ V' tk k tp pl t mn pf ∧ zfo (zaw m2 h2') (zaw m h') m2.toNat (m.toNat + 1 - m2.toNat) mn pf) ∧ zBo Γ V' tt t ta ga tc ca ∧ zag (fun x => x ≠ ta ∧ x ≠ tp ∧ x ≠ tk) V V') := by
  obtain ⟨mn, pf, k1, k2, k3, k4, k5⟩ := hk
  obtain ⟨lk, gf, cf, h1, h2, h3, h4, h5, h6, h7⟩ := h
  obtain ⟨a1, a2, a3, a4, a5, a6⟩ := hne
  obtain ⟨b1, b2, b3, b4, b5, b6⟩ := hne2
  obtain ⟨c1, c2, c3, c4, c5, c6, c7, c8, c9⟩ := hn3
  have ngp : ga ≠ pl := zne_tag h2 k2 c1
  have nkg : k ≠ ga := zne_tag k1 h2 c2
  have nkp : k ≠ pl := zne_tag k1 k2 c3
  refine (m_X3_seek l0 Γ k1 k2 ⟨k4, k5⟩ h1 h2 h4 k3 ngp h7.2 hm hm2 hT hT2 (zne_tag ho k1 a1) (zne_tag ho h2 a2) (zne_tag ho k2 a3) (zne_tag hr k1 a4) (zne_tag hr h2 a5) (zne_tag hr k2 a6) (zne_tag ho2 k1 b1) (zne_tag ho2 h2 b2) (zne_tag ho2 k2 b3) (zne_tag hr2 k1 b4) (zne_tag hr2 h2 b5) (zne_tag hr2 k2 b6)).imp (fun rv V' hp => ?_)
  obtain ⟨e1, g', p', m', hg, hg1, hp', q1, q2, hz, e3⟩ := hp
  have ha : zag (fun x => x ≠ ta ∧ x ≠ tp ∧ x ≠ tk) V V' := by
    rw [e3]
    exact ((zag.rf.set h2 (fun q => q.1 rfl)).set ((zu_ne (Ne.symm ngp)).trans k2) (fun q => q.2.1 rfl)).set ((zu_ne nkp).trans ((zu_ne nkg).trans k1)) (fun q => q.2.2 rfl)
  refine ⟨e1, ⟨m', p', ⟨?_, ?_, hp', q1, q2⟩, hz⟩, ⟨lk, g', cf, ha _ _ _ h1 ⟨c4, c5, c6⟩, ?_, ha _ _ _ h3 ⟨c7, c8, c9⟩, hg, h5, h6, h7.1, hg1⟩, ha⟩
  · rw [e3]
    exact zu_eq _ _ _ _
  · rw [e3, zu_ne (Ne.symm nkp)]
    exact zu_eq _ _ _ _
  · rw [e3, zu_ne (Ne.symm nkg), zu_ne ngp]
    exact zu_eq _ _ _ _
theorem zSkx.sk {mn : Int} {pf : Nat → Int} (h : zSkx Γ V tk k tp pl bo mn pf) : zSk Γ V tk k tp pl bo := ⟨mn, pf, h⟩
end ZGG
/-- a row of signs as the state has it -/
def zwt (m : Int) (g : Nat → Int) : Nat → Int := fun j => if (j : Int) < m then g j else -9
theorem zaw_eq {m : Int} {h : Int → Int} {g : Nat → Int} (e : ∀ k : Nat, (k : Int) < m → h (k : Int) = g k) : zaw m h = zwt m g := by
  funext j
  unfold zaw zwt
  by_cases c : (j : Int) < m
  · rw [if_pos ⟨Int.natCast_nonneg _, c⟩, if_pos c]
    exact e j c
  · rw [if_neg (fun q => c q.2), if_neg c]
/-- y is the place with number k at which the text q2 lies in the text q -/
def zsP (σ : Nat → Int) (q q2 k y : Int) : Prop := zth (zwt (zsz σ q2) (zsg σ q2)) (zwt (zsz σ q) (zsg σ q)) (zsz σ q2).toNat ((zsz σ q).toNat + 1 - (zsz σ q2).toNat) k y
/-- at how many places -/
def zsN (σ : Nat → Int) (q q2 : Int) : Int := (zno (zwt (zsz σ q2) (zsg σ q2)) (zwt (zsz σ q) (zsg σ q)) (zsz σ q2).toNat ((zsz σ q).toNat + 1 - (zsz σ q2).toNat) : Nat)
/-- y is the greatest border of the text q -/
def zsB (σ : Nat → Int) (q y : Int) : Prop := 0 ≤ y ∧ zgb (zwt (zsz σ q) (zsg σ q)) (zsz σ q).toNat y.toNat
theorem zsP.uni {σ : Nat → Int} {q q2 k y z : Int} (h : zsP σ q q2 k y) (h' : zsP σ q q2 k z) : y = z := zth.uni h h'
theorem zsB.uni {σ : Nat → Int} {q y z : Int} (h : zsB σ q y) (h' : zsB σ q z) : y = z := by
  have := h.2.uni h'.2
  have := h.1
  have := h'.1
  omega
theorem zsP.of {σ : Nat → Int} {q q2 k y mn m m2 : Int} {f : Nat → Int} {h h2 : Int → Int} (hz : zfo (zaw m2 h2) (zaw m h) m2.toNat (m.toNat + 1 - m2.toNat) mn f) (e : m = zsz σ q) (e2 : m2 = zsz σ q2) (c : ∀ k : Nat, (k : Int) < m → h (k : Int) = zsg σ q k) (c2 : ∀ k : Nat, (k : Int) < m2 → h2 (k : Int) = zsg σ q2 k) (hy : y = if 0 ≤ k ∧ k < mn then f k.toNat else -1) : zsP σ q q2 k y := by
  rw [zaw_eq c, zaw_eq c2] at hz
  subst e e2
  rw [hy]
  exact hz.get
theorem zsN.of {σ : Nat → Int} {q q2 mn m m2 : Int} {f : Nat → Int} {h h2 : Int → Int} (hz : zfo (zaw m2 h2) (zaw m h) m2.toNat (m.toNat + 1 - m2.toNat) mn f) (e : m = zsz σ q) (e2 : m2 = zsz σ q2) (c : ∀ k : Nat, (k : Int) < m → h (k : Int) = zsg σ q k) (c2 : ∀ k : Nat, (k : Int) < m2 → h2 (k : Int) = zsg σ q2 k) : mn = zsN σ q q2 := by
  rw [zaw_eq c, zaw_eq c2] at hz
  subst e e2
  exact hz.1
/-! the seekers' moves in the whole state -/
theorem zS.table {Γ : zGam} {V V' : zV} {ad : Nat → Nat} {σ : Nat → Int} (h : zS Γ V ad σ) (hb : zBo Γ V' 45 (ad 45) 46 (ad 46) 47 (ad 47)) (ha : zag (fun x => x ≠ 46 ∧ x ≠ 47 ∧ x ≠ 45) V V') : zS Γ V' ad σ ∧ zfx V V' := by
  obtain ⟨f1, f2, f3, f4, f5⟩ := h.2.2.2.2.2.2
  exact h.setF (ha.mono (fun t ht => by omega)) ⟨f1.kept ha (by omega) (by omega), f2.kept ha (by omega) (by omega) (by omega), f3.kept ha (by omega) (by omega), f4.kept ha (by omega) (by omega) (by omega), hb⟩
theorem zS.road {Γ : zGam} {V V' : zV} {ad : Nat → Nat} {σ : Nat → Int} (h : zS Γ V ad σ) (hk : zSk Γ V' 35 (ad 35) 39 (ad 39) (ad 36)) (hb : zBo Γ V' 36 (ad 36) 37 (ad 37) 38 (ad 38)) (ha : zag (fun x => x ≠ 37 ∧ x ≠ 39 ∧ x ≠ 35) V V') : zS Γ V' ad σ ∧ zfx V V' := by
  obtain ⟨f1, f2, f3, f4, f5⟩ := h.2.2.2.2.2.2
  exact h.setF (ha.mono (fun t ht => by omega)) ⟨hk, hb, f3.kept ha (by omega) (by omega), f4.kept ha (by omega) (by omega) (by omega), f5.kept ha (by omega) (by omega) (by omega)⟩
theorem zS.road2 {Γ : zGam} {V V' : zV} {ad : Nat → Nat} {σ : Nat → Int} (h : zS Γ V ad σ) (hk : zSk Γ V' 40 (ad 40) 44 (ad 44) (ad 41)) (hb : zBo Γ V' 41 (ad 41) 42 (ad 42) 43 (ad 43)) (ha : zag (fun x => x ≠ 42 ∧ x ≠ 44 ∧ x ≠ 40) V V') : zS Γ V' ad σ ∧ zfx V V' := by
  obtain ⟨f1, f2, f3, f4, f5⟩ := h.2.2.2.2.2.2
  exact h.setF (ha.mono (fun t ht => by omega)) ⟨f1.kept ha (by omega) (by omega), f2.kept ha (by omega) (by omega) (by omega), hk, hb, f5.kept ha (by omega) (by omega) (by omega)⟩
theorem zf_id {f : Nat → Int} {i : Nat} : zf f i (f i) = f := by
  funext j
  unfold zf
  by_cases h : j = i
  · rw [if_pos h, h]
  · rw [if_neg h]
end
