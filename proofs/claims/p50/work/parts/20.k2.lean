/-! contents move with the windows -/
/-- a window is laid over a row that lies on the tape -/
theorem zCt.setC {Γ : zGam} {V V' : zV} {ad : Nat → Nat} {σ : Nat → Int} (h : zCt Γ V ad σ) {rr nn ba : Nat → Nat} (w : zCw Γ V ad σ rr nn ba) {i j : Nat} (hi : i < 6) (hj : j < 6) {st c l p m s : Int} (hb : zWb st c l p m (nn j)) (h40 : c ≤ 40) (ha : zag (fun t => t ≠ 10 + i) V V') (hV : V' (ad (10 + i)) = some (10 + i, .inr (6, [.ref (rr j), .int (zI st), .int (zI c), .int (zI l), .int (zI p), .int (zI m)]))) (hs : (ba j : Int) + st = s) : zCt Γ V' ad (zf (zw4 σ i c l p m) (40 + i) s) := by
  have e : ∀ x, 24 ≤ x → x ≠ 40 + i → zf (zw4 σ i c l p m) (40 + i) s x = σ x := fun x h1 h2 => by
    unfold zf
    rw [if_neg h2]
    exact zw4_hi hi h1
  obtain ⟨⟨-, z, sn⟩, b, k⟩ := h
  refine ⟨⟨⟨fun q => rr (if q = i then j else q), fun q => nn (if q = i then j else q), fun q => ba (if q = i then j else q), fun q hq => ?_, fun x y hx hy => ?_⟩, fun a h2 => ?_, sn.mv ha (by omega) (fun k hk => e _ (by omega) (by omega))⟩, ?_, ?_⟩
  · by_cases hqi : q = i
    · subst hqi
      obtain ⟨st0, f, h1, h2, h3, h4, h5, h6, h7, h8⟩ := w.1 j hj
      have e0 : zf (zw4 σ q c l p m) (40 + q) s (4 * q) = c := by unfold zf zw4; rw [if_neg (by omega), if_pos rfl]
      have e1 : zf (zw4 σ q c l p m) (40 + q) s (4 * q + 1) = l := by unfold zf zw4; rw [if_neg (by omega), if_neg (by omega), if_pos rfl]
      have e2 : zf (zw4 σ q c l p m) (40 + q) s (4 * q + 2) = p := by unfold zf zw4; rw [if_neg (by omega), if_neg (by omega), if_neg (by omega), if_pos rfl]
      have e3 : zf (zw4 σ q c l p m) (40 + q) s (4 * q + 3) = m := by unfold zf zw4; rw [if_neg (by omega), if_neg (by omega), if_neg (by omega), if_neg (by omega), if_pos rfl]
      dsimp only
      rw [if_pos rfl, e0, e1, e2, e3, e 46 (by omega) (by omega)]
      refine ⟨st, f, hV, ha _ _ _ h2 (by omega), hb, h4, h40, ?_, h7, fun x hx => ?_⟩
      · unfold zf
        rw [if_pos rfl]
        exact hs
      · rw [e _ (by omega) (by omega)]
        exact h8 x hx
    · obtain ⟨st0, f, h1, h2, h3, h4, h5, h6, h7, h8⟩ := w.1 q hq
      have ej : ∀ x, x < 4 → zf (zw4 σ i c l p m) (40 + i) s (4 * q + x) = σ (4 * q + x) := fun x hx => by
        unfold zf zw4
        rw [if_neg (by omega), if_neg (by omega), if_neg (by omega), if_neg (by omega), if_neg (by omega)]
      have e0 : zf (zw4 σ i c l p m) (40 + i) s (4 * q) = σ (4 * q) := ej 0 (by omega)
      dsimp only
      rw [if_neg hqi, e0, ej 1 (by omega), ej 2 (by omega), ej 3 (by omega), e 46 (by omega) (by omega), e (40 + q) (by omega) (by omega)]
      exact ⟨st0, f, ha _ _ _ h1 (by omega), ha _ _ _ h2 (by omega), h3, h4, h5, h6, h7, fun x hx => by rw [e _ (by omega) (by omega)]; exact h8 x hx⟩
  · exact w.2 _ _ (by split <;> assumption) (by split <;> assumption)
  · rw [e 46 (by omega) (by omega)] at h2
    rw [e _ (by omega) (by omega)]
    exact z a h2
  · rw [e 24 (by omega) (by omega)]
    obtain ⟨f, h1, h0, h2⟩ := b
    exact ⟨f, ha _ _ _ h1 (by omega), h0, fun x h8 hx => by rw [e _ (by omega) (by omega)]; exact h2 x h8 hx⟩
  · rw [e 25 (by omega) (by omega)]
    obtain ⟨f, h1, h0, h2⟩ := k
    exact ⟨f, ha _ _ _ h1 (by omega), h0, fun x h8 hx => by rw [e _ (by omega) (by omega)]; exact h2 x h8 hx⟩
/-- a row is written -/
theorem zCt.setR {Γ : zGam} {V V' : zV} {ad : Nat → Nat} {σ σ' : Nat → Int} (h : zCt Γ V ad σ) {rr nn ba : Nat → Nat} (w : zCw Γ V ad σ rr nn ba) {i : Nat} (hi : i < 6) {f' : Nat → Int} (hf : zc f') (ha : zag (fun t => t ≠ 50) V V') (hV : V' (rr i) = some (50, za Γ.2.1 1 (nn i) f')) (hr : ∀ (r n : Nat) (f : Nat → Int), r ≠ rr i → V r = some (50, za Γ.2.1 1 n f) → V' r = some (50, za Γ.2.1 1 n f))
    (h1 : ∀ x, x < nn i → σ' (1000 + (ba i + x)) = f' x) (h2 : ∀ a : Nat, a < ba i ∨ ba i + nn i ≤ a → σ' (1000 + a) = σ (1000 + a)) (h3 : ∀ j, j < 1000 → σ' j = σ j) : zCt Γ V' ad σ' := by
  obtain ⟨⟨-, z, sn⟩, b, k⟩ := h
  refine ⟨⟨⟨rr, nn, ba, fun q hq => ?_, w.2⟩, fun a h4 => ?_, sn.mv ha (by omega) (fun k hk => h3 _ (by omega))⟩, ?_, ?_⟩
  · obtain ⟨st, f, k1, k2, k3, k4, k5, k6, k7, k8⟩ := w.1 q hq
    rw [h3 _ (by omega), h3 _ (by omega), h3 _ (by omega), h3 _ (by omega), h3 46 (by omega), h3 (40 + q) (by omega)]
    rcases w.2 q i hq hi with ⟨r1, r2, r3⟩ | ⟨r1, r2⟩
    · refine ⟨st, f', ha _ _ _ k1 (by omega), by rw [r1, r2]; exact hV, k3, hf, k5, k6, k7, fun x hx => ?_⟩
      rw [r3]
      exact (h1 x (by omega)).symm
    · refine ⟨st, f, ha _ _ _ k1 (by omega), hr _ _ _ r1 k2, k3, k4, k5, k6, k7, fun x hx => ?_⟩
      rw [h2 _ (by omega)]
      exact k8 x hx
  · obtain ⟨st, f, k1, k2, k3, k4, k5, k6, k7, k8⟩ := w.1 i hi
    rw [h3 46 (by omega)] at h4
    rw [h2 _ (by omega)]
    exact z a h4
  · rw [h3 24 (by omega)]
    obtain ⟨f, k1, k0, k2⟩ := b
    exact ⟨f, ha _ _ _ k1 (by omega), k0, fun x h8 hx => by rw [h3 _ (by omega)]; exact k2 x h8 hx⟩
  · rw [h3 25 (by omega)]
    obtain ⟨f, k1, k0, k2⟩ := k
    exact ⟨f, ha _ _ _ k1 (by omega), k0, fun x h8 hx => by rw [h3 _ (by omega)]; exact k2 x h8 hx⟩
/-- a new row lies behind the tape -/
theorem zCt.setN {Γ : zGam} {V V' : zV} {ad : Nat → Nat} {σ : Nat → Int} (h : zCt Γ V ad σ) {i : Nat} (hi : i < 6) {r' : Nat} {z : Int} (hz : 0 ≤ z ∧ z ≤ 40) (hn : V r' = none) (ha : zag (fun t => t ≠ 10 + i) V V') (hV : V' (ad (10 + i)) = some (10 + i, .inr (6, [.ref r', .int (zI 0), .int (zI z), .int (zI z), .int (zI 0), .int (zI (-9))]))) (hr : V' r' = some (50, za Γ.2.1 1 z.toNat (fun _ => 0))) : zCt Γ V' ad (zf (zf (zw4 σ i z z 0 (-9)) (40 + i) (σ 46)) 46 (σ 46 + z)) := by
  have e : ∀ x, 24 ≤ x → x ≠ 40 + i → x ≠ 46 → zf (zf (zw4 σ i z z 0 (-9)) (40 + i) (σ 46)) 46 (σ 46 + z) x = σ x := fun x h1 h2 h3 => by
    unfold zf
    rw [if_neg h3, if_neg h2]
    exact zw4_hi hi h1
  have e46 : zf (zf (zw4 σ i z z 0 (-9)) (40 + i) (σ 46)) 46 (σ 46 + z) 46 = σ 46 + z := if_pos rfl
  have e40 : zf (zf (zw4 σ i z z 0 (-9)) (40 + i) (σ 46)) 46 (σ 46 + z) (40 + i) = σ 46 := by
    unfold zf
    rw [if_neg (by omega), if_pos rfl]
  obtain ⟨⟨⟨rr, nn, ba, w⟩, zz, sn⟩, b, k⟩ := h
  obtain ⟨st9, f9, q1, q2, q3, q4, q5, q6, q7, q8⟩ := w.1 i hi
  have hne : ∀ q, q < 6 → rr q ≠ r' := fun q hq he => by
    obtain ⟨st, f, h1, h2, -⟩ := w.1 q hq
    rw [he, hn] at h2
    cases h2
  refine ⟨⟨⟨fun q => if q = i then r' else rr q, fun q => if q = i then z.toNat else nn q, fun q => if q = i then (σ 46).toNat else ba q, fun q hq => ?_, fun x y hx hy => ?_⟩, fun a h2 => ?_, sn.mv ha (by omega) (fun k hk => e _ (by omega) (by omega) (by omega))⟩, ?_, ?_⟩
  · by_cases hqi : q = i
    · subst hqi
      have e0 : zf (zf (zw4 σ q z z 0 (-9)) (40 + q) (σ 46)) 46 (σ 46 + z) (4 * q) = z := by unfold zf zw4; rw [if_neg (by omega), if_neg (by omega), if_pos rfl]
      have e1 : zf (zf (zw4 σ q z z 0 (-9)) (40 + q) (σ 46)) 46 (σ 46 + z) (4 * q + 1) = z := by unfold zf zw4; rw [if_neg (by omega), if_neg (by omega), if_neg (by omega), if_pos rfl]
      have e2 : zf (zf (zw4 σ q z z 0 (-9)) (40 + q) (σ 46)) 46 (σ 46 + z) (4 * q + 2) = 0 := by unfold zf zw4; rw [if_neg (by omega), if_neg (by omega), if_neg (by omega), if_neg (by omega), if_pos rfl]
      have e3 : zf (zf (zw4 σ q z z 0 (-9)) (40 + q) (σ 46)) 46 (σ 46 + z) (4 * q + 3) = -9 := by unfold zf zw4; rw [if_neg (by omega), if_neg (by omega), if_neg (by omega), if_neg (by omega), if_neg (by omega), if_pos rfl]
      dsimp only
      rw [if_pos rfl, if_pos rfl, if_pos rfl, e0, e1, e2, e3, e40, e46]
      refine ⟨0, fun _ => 0, hV, hr, ⟨by omega, by omega, by omega, by omega, by omega, by omega, by omega, by omega⟩, zc_zero, by omega, by omega, by omega, fun x hx => ?_⟩
      rw [e _ (by omega) (by omega) (by omega)]
      exact (zz _ (by omega)).symm
    · obtain ⟨st0, f, h1, h2, h3, h4, h5, h6, h7, h8⟩ := w.1 q hq
      have ej : ∀ x, x < 4 → zf (zf (zw4 σ i z z 0 (-9)) (40 + i) (σ 46)) 46 (σ 46 + z) (4 * q + x) = σ (4 * q + x) := fun x hx => by
        unfold zf zw4
        rw [if_neg (by omega), if_neg (by omega), if_neg (by omega), if_neg (by omega), if_neg (by omega), if_neg (by omega)]
      have e0 : zf (zf (zw4 σ i z z 0 (-9)) (40 + i) (σ 46)) 46 (σ 46 + z) (4 * q) = σ (4 * q) := ej 0 (by omega)
      dsimp only
      rw [if_neg hqi, if_neg hqi, if_neg hqi, e0, ej 1 (by omega), ej 2 (by omega), ej 3 (by omega), e46, e (40 + q) (by omega) (by omega) (by omega)]
      exact ⟨st0, f, ha _ _ _ h1 (by omega), ha _ _ _ h2 (by omega), h3, h4, h5, h6, by omega, fun x hx => by rw [e _ (by omega) (by omega) (by omega)]; exact h8 x hx⟩
  · dsimp only
    by_cases hxi : x = i
    · by_cases hyi : y = i
      · rw [if_pos hxi, if_pos hxi, if_pos hxi, if_pos hyi, if_pos hyi, if_pos hyi]
        exact Or.inl ⟨rfl, rfl, rfl⟩
      · obtain ⟨st0, f, h1, h2, h3, h4, h5, h6, h7, h8⟩ := w.1 y hy
        rw [if_pos hxi, if_pos hxi, if_pos hxi, if_neg hyi, if_neg hyi, if_neg hyi]
        exact Or.inr ⟨(hne y hy).symm, by omega⟩
    · by_cases hyi : y = i
      · obtain ⟨st0, f, h1, h2, h3, h4, h5, h6, h7, h8⟩ := w.1 x hx
        rw [if_neg hxi, if_neg hxi, if_neg hxi, if_pos hyi, if_pos hyi, if_pos hyi]
        exact Or.inr ⟨hne x hx, by omega⟩
      · rw [if_neg hxi, if_neg hxi, if_neg hxi, if_neg hyi, if_neg hyi, if_neg hyi]
        exact w.2 x y hx hy
  · rw [e46] at h2
    rw [e _ (by omega) (by omega) (by omega)]
    exact zz a (by omega)
  · rw [e 24 (by omega) (by omega) (by omega)]
    obtain ⟨f, h1, h0, h2⟩ := b
    exact ⟨f, ha _ _ _ h1 (by omega), h0, fun x h8 hx => by rw [e _ (by omega) (by omega) (by omega)]; exact h2 x h8 hx⟩
  · rw [e 25 (by omega) (by omega) (by omega)]
    obtain ⟨f, h1, h0, h2⟩ := k
    exact ⟨f, ha _ _ _ h1 (by omega), h0, fun x h8 hx => by rw [e _ (by omega) (by omega) (by omega)]; exact h2 x h8 hx⟩
theorem zS0.sig {Γ : zGam} {V : zV} {ad : Nat → Nat} {σ σ' : Nat → Int} (h : zS0 Γ V ad σ) (he : ∀ j, j < 36 → σ' j = σ j) : zS0 Γ V ad σ' := by
  obtain ⟨a, b, w, d, t, q, f⟩ := h
  refine ⟨?_, b, fun i hi => ?_, d, ?_, ?_, f⟩
  · unfold zSx
    rw [he 30 (by omega), he 31 (by omega), he 32 (by omega), he 33 (by omega)]
    exact a
  · rw [he _ (by omega), he _ (by omega), he _ (by omega), he _ (by omega)]
    exact w i hi
  · unfold zSt
    rw [he 24 (by omega), he 25 (by omega)]
    exact t
  · unfold zSp
    rw [he 26 (by omega), he 27 (by omega), he 28 (by omega), he 29 (by omega)]
    exact q
/-- the place of a sign of the tape -/
def zTp (a : Int) : Nat := 1000 + a.toNat
theorem zst_id {σ : Nat → Int} {i : Nat} {c l p m s : Int} (hi : i < 6) (hs : s = σ (40 + i)) : zf (zw4 σ i c l p m) (40 + i) s = zw4 σ i c l p m := by
  subst hs
  funext j
  unfold zf
  by_cases h : j = 40 + i
  · rw [if_pos h, h, zw4_hi hi (by omega)]
  · rw [if_neg h]
theorem zS.setC {Γ : zGam} {V V' : zV} {ad : Nat → Nat} {σ : Nat → Int} (h : zS Γ V ad σ) {rr nn ba : Nat → Nat} (w : zCw Γ V ad σ rr nn ba) {i j : Nat} (hi : i < 6) (hj : j < 6) {st c l p m s : Int} (hb : zWb st c l p m (nn j)) (h40 : c ≤ 40) (hV : V' = zu V (ad (10 + i)) (10 + i) (.inr (6, [.ref (rr j), .int (zI st), .int (zI c), .int (zI l), .int (zI p), .int (zI m)]))) (hs : (ba j : Int) + st = s) : zS Γ V' ad (zf (zw4 σ i c l p m) (40 + i) s) ∧ zfx V V' ∧ zWs Γ V V' (10 + i) (ad (10 + i)) c l p m := by
  obtain ⟨sti, fi, h1, -⟩ := w.1 i hi
  obtain ⟨stj, fj, k1, k2, k3, k4, -⟩ := w.1 j hj
  have hw : zWn Γ V V' (10 + i) (ad (10 + i)) c l p m := by
    subst hV
    exact zWn.one h1 k2 (by omega) hb k4 h40
  obtain ⟨g1, g2⟩ := h.c0.setW hi hw.1
  refine ⟨(g1.sig (fun x hx => ?_)).mk (h.ct.setC w hi hj hb h40 hw.2 (by subst hV; exact zu_eq _ _ _ _) hs), g2, hw.1⟩
  unfold zf
  rw [if_neg (by omega)]
theorem zS.cw {Γ : zGam} {V : zV} {ad : Nat → Nat} {σ : Nat → Int} (h : zS Γ V ad σ) : ∃ rr nn ba, zCw Γ V ad σ rr nn ba := h.2.1.2.1.1
theorem zS.cst {Γ : zGam} {V : zV} {ad : Nat → Nat} {σ : Nat → Int} (h : zS Γ V ad σ) {i : Nat} (hi : i < 6) : 0 ≤ σ (40 + i) := by
  obtain ⟨rr, nn, ba, w⟩ := h.cw
  obtain ⟨st, f, h1, h2, h3, h4, h5, h6, -⟩ := w.1 i hi
  have := h3.1
  omega
theorem zS.rng {Γ : zGam} {V : zV} {ad : Nat → Nat} {σ : Nat → Int} (h : zS Γ V ad σ) {i : Nat} (hi : i < 6) {k : Int} (hk : 0 ≤ k ∧ k < σ (4 * i)) : 0 ≤ σ (zTp (σ (40 + i) + k)) ∧ σ (zTp (σ (40 + i) + k)) ≤ 255 := by
  obtain ⟨rr, nn, ba, w⟩ := h.cw
  obtain ⟨st, f, h1, h2, h3, h4, h5, h6, h7, h8⟩ := w.1 i hi
  obtain ⟨a1, a2, a3, a4, a5, a6, a7, a8⟩ := id h3
  have e : zTp (σ (40 + i) + k) = 1000 + (ba i + (st + k).toNat) := by unfold zTp; omega
  rw [e, ← h8 _ (by omega)]
  exact h4 _
section ZK
variable (l0 : Launch) (Γ : zGam) {V : zV} {ad : Nat → Nat} {σ : Nat → Int} {i : Nat}
theorem k_goTo (hS : zS Γ V ad σ) (hi : i < 6) {a b : Int} (hab : 0 ≤ a ∧ a ≤ b ∧ b ≤ σ (4 * i)) : zM l0 Γ 0 yX5_goTo wsX5_goTo 0 0 V [.ref (ad (10 + i)), .int (zI a), .int (zI b)] (fun rv V' => rv = none ∧ zS Γ V' ad (zw4 σ i (σ (4 * i)) b a (-9)) ∧ zfx V V' ∧ zWs Γ V V' (10 + i) (ad (10 + i)) (σ (4 * i)) (b) (a) (-9)) := by
  obtain ⟨rr, nn, ba, w⟩ := hS.cw
  obtain ⟨st, f, h1, h2, h3, h4, h5, h6, h7, h8⟩ := w.1 i hi
  obtain ⟨a1, a2, a3, a4, a5, a6, a7, a8⟩ := id h3
  refine (m_X5_goTo l0 Γ (p := a) (q := b) h1).imp (fun rv V' hp => ?_)
  have g := hS.setC w hi hi (st := st) (c := σ (4 * i)) (l := b) (p := a) (m := -9) (s := σ (40 + i)) ⟨by omega, by omega, by omega, by omega, by omega, Or.inl rfl, by omega, a8⟩ (by omega) hp.2 (by omega)
  rw [zst_id hi rfl] at g
  exact ⟨hp.1, g⟩
theorem k_setMark (hS : zS Γ V ad σ) (hi : i < 6) : zM l0 Γ 0 yX5_setMark wsX5_setMark 0 0 V [.ref (ad (10 + i))] (fun rv V' => rv = none ∧ zS Γ V' ad (zw4 σ i (σ (4 * i)) (σ (4 * i + 1)) (σ (4 * i + 2)) (σ (4 * i + 2))) ∧ zfx V V' ∧ zWs Γ V V' (10 + i) (ad (10 + i)) (σ (4 * i)) (σ (4 * i + 1)) (σ (4 * i + 2)) (σ (4 * i + 2))) := by
  obtain ⟨rr, nn, ba, w⟩ := hS.cw
  obtain ⟨st, f, h1, h2, h3, h4, h5, h6, h7, h8⟩ := w.1 i hi
  obtain ⟨a1, a2, a3, a4, a5, a6, a7, a8⟩ := id h3
  refine (m_X5_setMark l0 Γ h1).imp (fun rv V' hp => ?_)
  have g := hS.setC w hi hi (st := st) (c := σ (4 * i)) (l := σ (4 * i + 1)) (p := σ (4 * i + 2)) (m := σ (4 * i + 2)) (s := σ (40 + i)) ⟨by omega, by omega, by omega, by omega, by omega, Or.inr a3, by omega, a8⟩ (by omega) hp.2 (by omega)
  rw [zst_id hi rfl] at g
  exact ⟨hp.1, g⟩
theorem k_goToMark (hS : zS Γ V ad σ) (hi : i < 6) (hm : σ (4 * i + 3) ≠ -9) : zM l0 Γ 0 yX5_goToMark wsX5_goToMark 0 0 V [.ref (ad (10 + i))] (fun rv V' => rv = none ∧ zS Γ V' ad (zw4 σ i (σ (4 * i)) (σ (4 * i + 1)) (σ (4 * i + 3)) (σ (4 * i + 3))) ∧ zfx V V' ∧ zWs Γ V V' (10 + i) (ad (10 + i)) (σ (4 * i)) (σ (4 * i + 1)) (σ (4 * i + 3)) (σ (4 * i + 3))) := by
  obtain ⟨rr, nn, ba, w⟩ := hS.cw
  obtain ⟨st, f, h1, h2, h3, h4, h5, h6, h7, h8⟩ := w.1 i hi
  obtain ⟨a1, a2, a3, a4, a5, a6, a7, a8⟩ := id h3
  refine (m_X5_goToMark l0 Γ h1).imp (fun rv V' hp => ?_)
  have g := hS.setC w hi hi (st := st) (c := σ (4 * i)) (l := σ (4 * i + 1)) (p := σ (4 * i + 3)) (m := σ (4 * i + 3)) (s := σ (40 + i)) ⟨by omega, by omega, by omega, by omega, by omega, a6, by omega, a8⟩ (by omega) hp.2 (by omega)
  rw [zst_id hi rfl] at g
  exact ⟨hp.1, g⟩
theorem zT_at {σ : Nat → Int} {s st p : Int} {b : Nat} {k : Int} (hs : (b : Int) + st = s) (h0 : 0 ≤ st + k) : zTp (s + k) = 1000 + (b + (st + k).toNat) := by
  unfold zTp
  omega
theorem k_read (hS : zS Γ V ad σ) (hi : i < 6) (hlt : σ (4 * i + 2) < σ (4 * i + 1)) : zM l0 Γ 2 yX5_readSign wsX5_readSign 0 0 V [.ref (ad (10 + i))] (fun rv V' => rv = some (.int (zI (σ (zTp (σ (40 + i) + σ (4 * i + 2)))))) ∧ zS Γ V' ad (zw4 σ i (σ (4 * i)) (σ (4 * i + 1)) (σ (4 * i + 2) + 1) (σ (4 * i + 3))) ∧ zfx V V' ∧ zWs Γ V V' (10 + i) (ad (10 + i)) (σ (4 * i)) (σ (4 * i + 1)) (σ (4 * i + 2) + 1) (σ (4 * i + 3))) := by
  obtain ⟨rr, nn, ba, w⟩ := hS.cw
  obtain ⟨st, f, h1, h2, h3, h4, h5, h6, h7, h8⟩ := w.1 i hi
  obtain ⟨a1, a2, a3, a4, a5, a6, a7, a8⟩ := id h3
  refine (m_X5_readSign l0 Γ h1 h2 h3 hlt).imp (fun rv V' hp => ?_)
  have g := hS.setC w hi hi (st := st) (c := σ (4 * i)) (l := σ (4 * i + 1)) (p := σ (4 * i + 2) + 1) (m := σ (4 * i + 3)) (s := σ (40 + i)) ⟨by omega, by omega, by omega, by omega, by omega, a6, by omega, a8⟩ (by omega) hp.2 (by omega)
  rw [zst_id hi rfl] at g
  refine ⟨?_, g⟩
  rw [hp.1, zT_at (σ := σ) (p := 0) h6 (by omega), ← h8 _ (by omega)]
theorem k_at (hS : zS Γ V ad σ) (hi : i < 6) {k : Int} (hk : -2147483648 ≤ k ∧ k ≤ 2147483647) : zM l0 Γ 1 yX5_at wsX5_at 0 0 V [.ref (ad (10 + i)), .int (zI k)] (fun rv V' => rv = some (.int (zI (if 0 ≤ k ∧ k < σ (4 * i + 1) - σ (4 * i + 2) then σ (zTp (σ (40 + i) + (σ (4 * i + 2) + k))) else -9))) ∧ V' = V) := by
  obtain ⟨rr, nn, ba, w⟩ := hS.cw
  obtain ⟨st, f, h1, h2, h3, h4, h5, h6, h7, h8⟩ := w.1 i hi
  obtain ⟨a1, a2, a3, a4, a5, a6, a7, a8⟩ := id h3
  refine (m_X5_at l0 Γ h1 h2 h3 hk).imp (fun rv V' hp => ⟨?_, hp.2⟩)
  rw [hp.1]
  by_cases c : 0 ≤ k ∧ k < σ (4 * i + 1) - σ (4 * i + 2)
  · rw [if_pos c, if_pos c, zT_at (σ := σ) (p := 0) h6 (by omega), ← h8 _ (by omega), Int.add_assoc]
  · rw [if_neg c, if_neg c]
theorem k_atPlace (hS : zS Γ V ad σ) (hi : i < 6) {k : Int} (hk : -2147483648 ≤ k ∧ k ≤ 2147483647) : zM l0 Γ 0 yX5_atPlace wsX5_atPlace 0 0 V [.ref (ad (10 + i)), .int (zI k)] (fun rv V' => rv = some (.int (zI (if 0 ≤ k ∧ k < σ (4 * i + 1) then σ (zTp (σ (40 + i) + k)) else -9))) ∧ V' = V) := by
  obtain ⟨rr, nn, ba, w⟩ := hS.cw
  obtain ⟨st, f, h1, h2, h3, h4, h5, h6, h7, h8⟩ := w.1 i hi
  obtain ⟨a1, a2, a3, a4, a5, a6, a7, a8⟩ := id h3
  refine (m_X5_atPlace l0 Γ h1 h2 h3 hk).imp (fun rv V' hp => ⟨?_, hp.2⟩)
  rw [hp.1]
  by_cases c : 0 ≤ k ∧ k < σ (4 * i + 1)
  · rw [if_pos c, if_pos c, zT_at (σ := σ) (p := 0) h6 (by omega), ← h8 _ (by omega)]
  · rw [if_neg c, if_neg c]
/-- a row is written, and the window moves -/
theorem zS.setR {Γ : zGam} {V V' : zV} {ad : Nat → Nat} {σ σ' : Nat → Int} (h : zS Γ V ad σ) {rr nn ba : Nat → Nat} (w : zCw Γ V ad σ rr nn ba) {i : Nat} (hi : i < 6) {f' : Nat → Int} (hf : zc f') {st l p m : Int} (hb : zWb st (σ (4 * i)) l p m (nn i)) (hs : (ba i : Int) + st = σ (40 + i)) (hV : V' = zu (zu V (rr i) 50 (za Γ.2.1 1 (nn i) f')) (ad (10 + i)) (10 + i) (.inr (6, [.ref (rr i), .int (zI st), .int (zI (σ (4 * i))), .int (zI l), .int (zI p), .int (zI m)])))
    (h1 : ∀ x, x < nn i → σ' (1000 + (ba i + x)) = f' x) (h2 : ∀ a : Nat, a < ba i ∨ ba i + nn i ≤ a → σ' (1000 + a) = σ (1000 + a)) (h3 : ∀ j, j < 1000 → σ' j = zw4 σ i (σ (4 * i)) l p m j) : zS Γ V' ad σ' ∧ zfx V V' ∧ zWs Γ V V' (10 + i) (ad (10 + i)) (σ (4 * i)) l p m := by
  obtain ⟨sti, fi, k1, k2, k3, k4, k5, k6, k7, k8⟩ := w.1 i hi
  have hw : zWs Γ V V' (10 + i) (ad (10 + i)) (σ (4 * i)) l p m := by
    subst hV
    exact zWs.two k1 k2 (by omega) hb hf k5
  obtain ⟨g1, g2⟩ := h.c0.setW hi hw
  have hne : ad (10 + i) ≠ rr i := zne_oa k1 k2
  -- the row first
  obtain ⟨W, hW⟩ : ∃ z : zV, z = zu V (rr i) 50 (za Γ.2.1 1 (nn i) f') := ⟨_, rfl⟩
  obtain ⟨ρ, hρ⟩ : ∃ z : Nat → Int, z = fun j => if j < 1000 then σ j else σ' j := ⟨_, rfl⟩
  have r1 : ∀ j, j < 1000 → ρ j = σ j := fun j hj => by rw [hρ]; exact if_pos hj
  have r2 : ∀ j, ¬ j < 1000 → ρ j = σ' j := fun j hj => by rw [hρ]; exact if_neg hj
  have ha : zag (fun t => t ≠ 50) V W := by rw [hW]; exact zag.rf.set k2 (fun q => q rfl)
  have c1 : zCt Γ W ad ρ := h.ct.setR w hi hf ha (by rw [hW]; exact zu_eq _ _ _ _) (fun r n f hr h9 => by rw [hW, zu_ne hr]; exact h9) (fun x hx => by rw [r2 _ (by omega)]; exact h1 x hx) (fun a h9 => by rw [r2 _ (by omega)]; exact h2 a h9) r1
  have w1 : zCw Γ W ad ρ rr nn ba := by
    refine ⟨fun q hq => ?_, w.2⟩
    obtain ⟨st0, f0, q1, q2, q3, q4, q5, q6, q7, q8⟩ := w.1 q hq
    rw [r1 _ (by omega), r1 _ (by omega), r1 _ (by omega), r1 _ (by omega), r1 46 (by omega), r1 (40 + q) (by omega)]
    rcases w.2 q i hq hi with ⟨e1, e2, e3⟩ | ⟨e1, e2⟩
    · refine ⟨st0, f', ha _ _ _ q1 (by omega), by rw [hW, e1, e2]; exact zu_eq _ _ _ _, q3, hf, q5, q6, q7, fun x hx => ?_⟩
      rw [e3, r2 _ (by omega)]
      exact (h1 x (by omega)).symm
    · refine ⟨st0, f0, ha _ _ _ q1 (by omega), by rw [hW, zu_ne e1]; exact q2, q3, q4, q5, q6, q7, fun x hx => ?_⟩
      rw [r2 _ (by omega), h2 _ (by omega)]
      exact q8 x hx
  have r4 : ρ (4 * i) = σ (4 * i) := r1 _ (by omega)
  have hVW : V' = zu W (ad (10 + i)) (10 + i) (.inr (6, [.ref (rr i), .int (zI st), .int (zI (ρ (4 * i))), .int (zI l), .int (zI p), .int (zI m)])) := by rw [hV, hW, r4]
  have c2 := c1.setC w1 hi hi (V' := V') (st := st) (c := ρ (4 * i)) (l := l) (p := p) (m := m) (s := ρ (40 + i)) (by rw [r4]; exact hb) (by rw [r4]; exact k5) (by rw [hVW]; exact zag.rf.set (by rw [hW, zu_ne hne]; exact k1) (fun q => q rfl)) (by rw [hVW]; exact zu_eq _ _ _ _) (by rw [r1 _ (by omega)]; exact hs)
  rw [zst_id hi rfl, r4] at c2
  have e5 : zw4 ρ i (σ (4 * i)) l p m = σ' := by
    funext j
    by_cases hj : j < 1000
    · rw [h3 j hj]
      unfold zw4
      rw [r1 j hj]
    · rw [zw4_hi hi (by omega), r2 j hj]
  rw [e5] at c2
  exact ⟨(g1.sig (fun x hx => h3 x (by omega))).mk c2, g2, hw⟩
theorem k_write_y (hS : zS Γ V ad σ) (hi : i < 6) {x : Int} (hx : 0 ≤ x ∧ x ≤ 255) (hlt : σ (4 * i + 2) < σ (4 * i + 1)) : zM l0 Γ 1 yX5_writeSign wsX5_writeSign 0 0 V [.ref (ad (10 + i)), .int (zI x)] (fun rv V' => rv = some (.int (zI 1)) ∧ zS Γ V' ad (zf (zw4 σ i (σ (4 * i)) (σ (4 * i + 1)) (σ (4 * i + 2) + 1) (σ (4 * i + 3))) (zTp (σ (40 + i) + σ (4 * i + 2))) x) ∧ zfx V V' ∧ zWs Γ V V' (10 + i) (ad (10 + i)) (σ (4 * i)) (σ (4 * i + 1)) (σ (4 * i + 2) + 1) (σ (4 * i + 3))) := by
  obtain ⟨rr, nn, ba, w⟩ := hS.cw
  obtain ⟨st, f, h1, h2, h3, h4, h5, h6, h7, h8⟩ := w.1 i hi
  obtain ⟨a1, a2, a3, a4, a5, a6, a7, a8⟩ := id h3
  refine (m_X5_writeSign_y l0 Γ h1 h2 h3 hx hlt).imp (fun rv V' hp => ?_)
  have e1 : zTp (σ (40 + i) + σ (4 * i + 2)) = 1000 + (ba i + (st + σ (4 * i + 2)).toNat) := zT_at (σ := σ) (p := 0) h6 (by omega)
  refine ⟨hp.1, hS.setR w hi (f' := zf f (st + σ (4 * i + 2)).toNat x) (zc_zf h4 hx) ⟨by omega, by omega, by omega, by omega, by omega, a6, by omega, a8⟩ h6 hp.2 (fun y hy => ?_) (fun a ha => ?_) (fun j hj => ?_)⟩
  · rw [e1]
    unfold zf
    by_cases c : y = (st + σ (4 * i + 2)).toNat
    · rw [if_pos c, if_pos (by omega)]
    · rw [if_neg c, if_neg (by omega), zw4_hi hi (by omega)]
      exact (h8 y hy).symm
  · rw [e1]
    unfold zf
    rw [if_neg (by omega), zw4_hi hi (by omega)]
  · rw [e1]
    unfold zf
    rw [if_neg (by omega)]
def zmt (σ : Nat → Int) (s n p : Nat) : Nat → Int := fun j => if 1000 + s ≤ j ∧ j < 1000 + s + n then σ (j + p) else σ j
theorem k_move (hS : zS Γ V ad σ) (hi : i < 6) : zM l0 Γ 3 yX5_moveTextToFront wsX5_moveTextToFront 0 0 V [.ref (ad (10 + i))] (fun rv V' => rv = none ∧ zS Γ V' ad (zmt (zw4 σ i (σ (4 * i)) (σ (4 * i)) (σ (4 * i + 1) - σ (4 * i + 2)) (-9)) (σ (40 + i)).toNat (σ (4 * i + 1) - σ (4 * i + 2)).toNat (σ (4 * i + 2)).toNat) ∧ zfx V V' ∧ zWs Γ V V' (10 + i) (ad (10 + i)) (σ (4 * i)) (σ (4 * i)) (σ (4 * i + 1) - σ (4 * i + 2)) (-9)) := by
  obtain ⟨rr, nn, ba, w⟩ := hS.cw
  obtain ⟨st, f, h1, h2, h3, h4, h5, h6, h7, h8⟩ := w.1 i hi
  obtain ⟨a1, a2, a3, a4, a5, a6, a7, a8⟩ := id h3
  refine (m_X5_moveTextToFront l0 Γ h1 h2 h3 h4).imp (fun rv V' hp => ?_)
  refine ⟨hp.1, hS.setR w hi (f' := zmv f st (σ (4 * i + 1) - σ (4 * i + 2)) (σ (4 * i + 2))) (zmv_zc h4) ⟨by omega, by omega, by omega, by omega, by omega, Or.inl rfl, by omega, a8⟩ h6 hp.2 (fun y hy => ?_) (fun a ha => ?_) (fun j hj => ?_)⟩
  · unfold zmt zmv
    by_cases c : st ≤ (y : Int) ∧ (y : Int) < st + (σ (4 * i + 1) - σ (4 * i + 2))
    · rw [if_pos c, if_pos (by omega), zw4_hi hi (by omega), h8 _ (by omega)]
      congr 1
      omega
    · rw [if_neg c, if_neg (by omega), zw4_hi hi (by omega)]
      exact (h8 y hy).symm
  · unfold zmt
    rw [if_neg (by omega), zw4_hi hi (by omega)]
  · unfold zmt
    rw [if_neg (by omega)]
theorem k_like (hS : zS Γ V ad σ) (hi : i < 6) {j : Nat} (hj : j < 6) (hij : j ≠ i) : zM l0 Γ 0 yX5_becomeLike wsX5_becomeLike 0 0 V [.ref (ad (10 + i)), .ref (ad (10 + j))] (fun rv V' => rv = none ∧ zS Γ V' ad (zf (zw4 σ i (σ (4 * j)) (σ (4 * j + 1)) (σ (4 * j + 2)) (σ (4 * j + 3))) (40 + i) (σ (40 + j))) ∧ zfx V V' ∧ zWs Γ V V' (10 + i) (ad (10 + i)) (σ (4 * j)) (σ (4 * j + 1)) (σ (4 * j + 2)) (σ (4 * j + 3))) := by
  obtain ⟨rr, nn, ba, w⟩ := hS.cw
  obtain ⟨st, f, h1, h2, h3, h4, h5, h6, h7, h8⟩ := w.1 i hi
  obtain ⟨a1, a2, a3, a4, a5, a6, a7, a8⟩ := id h3
  obtain ⟨stj, fj, k1, k2, k3, k4, k5, k6, k7, k8⟩ := w.1 j hj
  obtain ⟨b1, b2, b3, b4, b5, b6, b7, b8⟩ := id k3
  have hne : ad (10 + i) ≠ ad (10 + j) := zne_tag h1 k1 (by omega)
  refine (m_X5_becomeLike_ne l0 Γ h1 k1 hne).imp (fun rv V' hp => ?_)
  exact ⟨hp.1, hS.setC w hi hj k3 k5 hp.2 k6⟩
theorem k_slice (hS : zS Γ V ad σ) (hi : i < 6) {j : Nat} (hj : j < 6) (hij : j ≠ i) : zM l0 Γ 1 yX5_becomeSlice wsX5_becomeSlice 0 0 V [.ref (ad (10 + i)), .ref (ad (10 + j))] (fun rv V' => rv = none ∧ zS Γ V' ad (zf (zw4 σ i (σ (4 * j + 1) - σ (4 * j + 2)) (σ (4 * j + 1) - σ (4 * j + 2)) 0 (-9)) (40 + i) (σ (40 + j) + σ (4 * j + 2))) ∧ zfx V V' ∧ zWs Γ V V' (10 + i) (ad (10 + i)) (σ (4 * j + 1) - σ (4 * j + 2)) (σ (4 * j + 1) - σ (4 * j + 2)) (0) (-9)) := by
  obtain ⟨rr, nn, ba, w⟩ := hS.cw
  obtain ⟨st, f, h1, h2, h3, h4, h5, h6, h7, h8⟩ := w.1 i hi
  obtain ⟨a1, a2, a3, a4, a5, a6, a7, a8⟩ := id h3
  obtain ⟨stj, fj, k1, k2, k3, k4, k5, k6, k7, k8⟩ := w.1 j hj
  obtain ⟨b1, b2, b3, b4, b5, b6, b7, b8⟩ := id k3
  have hne : ad (10 + i) ≠ ad (10 + j) := zne_tag h1 k1 (by omega)
  refine (m_X5_becomeSlice_ne l0 Γ h1 k1 hne (by omega)).imp (fun rv V' hp => ?_)
  exact ⟨hp.1, hS.setC w hi hj ⟨by omega, by omega, by omega, by omega, by omega, Or.inl rfl, by omega, b8⟩ (by omega) hp.2 (by omega)⟩
theorem k_slice_eq (hS : zS Γ V ad σ) (hi : i < 6) : zM l0 Γ 1 yX5_becomeSlice wsX5_becomeSlice 0 0 V [.ref (ad (10 + i)), .ref (ad (10 + i))] (fun rv V' => rv = none ∧ zS Γ V' ad (zf (zw4 σ i (σ (4 * i + 1) - σ (4 * i + 2)) (σ (4 * i + 1) - σ (4 * i + 2)) 0 (-9)) (40 + i) (σ (40 + i) + σ (4 * i + 2))) ∧ zfx V V' ∧ zWs Γ V V' (10 + i) (ad (10 + i)) (σ (4 * i + 1) - σ (4 * i + 2)) (σ (4 * i + 1) - σ (4 * i + 2)) (0) (-9)) := by
  obtain ⟨rr, nn, ba, w⟩ := hS.cw
  obtain ⟨st, f, h1, h2, h3, h4, h5, h6, h7, h8⟩ := w.1 i hi
  obtain ⟨a1, a2, a3, a4, a5, a6, a7, a8⟩ := id h3
  refine (m_X5_becomeSlice_eq l0 Γ h1 (by omega)).imp (fun rv V' hp => ?_)
  exact ⟨hp.1, hS.setC w hi hi ⟨by omega, by omega, by omega, by omega, by omega, Or.inl rfl, by omega, a8⟩ (by omega) hp.2 (by omega)⟩
theorem k_part (hS : zS Γ V ad σ) (hi : i < 6) {j : Nat} (hj : j < 6) (hij : j ≠ i) {a b : Int} (hab : 0 ≤ a ∧ a ≤ b ∧ b ≤ σ (4 * j + 1) - σ (4 * j + 2)) : zM l0 Γ 0 yX5_becomePart wsX5_becomePart 0 0 V [.ref (ad (10 + i)), .ref (ad (10 + j)), .int (zI a), .int (zI b)] (fun rv V' => rv = none ∧ zS Γ V' ad (zf (zw4 σ i (σ (4 * j)) (σ (4 * j + 2) + b) (σ (4 * j + 2) + a) (σ (4 * j + 2) + a)) (40 + i) (σ (40 + j))) ∧ zfx V V' ∧ zWs Γ V V' (10 + i) (ad (10 + i)) (σ (4 * j)) (σ (4 * j + 2) + b) (σ (4 * j + 2) + a) (σ (4 * j + 2) + a)) := by
  obtain ⟨rr, nn, ba, w⟩ := hS.cw
  obtain ⟨st, f, h1, h2, h3, h4, h5, h6, h7, h8⟩ := w.1 i hi
  obtain ⟨a1, a2, a3, a4, a5, a6, a7, a8⟩ := id h3
  obtain ⟨stj, fj, k1, k2, k3, k4, k5, k6, k7, k8⟩ := w.1 j hj
  obtain ⟨b1, b2, b3, b4, b5, b6, b7, b8⟩ := id k3
  have hne : ad (10 + i) ≠ ad (10 + j) := zne_tag h1 k1 (by omega)
  refine (m_X5_becomePart_ne l0 Γ (a := a) (b := b) h1 k1 hne).imp (fun rv V' hp => ?_)
  exact ⟨hp.1, hS.setC w hi hj ⟨by omega, by omega, by omega, by omega, by omega, by omega, by omega, b8⟩ (by omega) hp.2 k6⟩
theorem k_part_eq (hS : zS Γ V ad σ) (hi : i < 6) {a b : Int} (hab : 0 ≤ a ∧ a ≤ b ∧ b ≤ σ (4 * i + 1) - σ (4 * i + 2)) : zM l0 Γ 0 yX5_becomePart wsX5_becomePart 0 0 V [.ref (ad (10 + i)), .ref (ad (10 + i)), .int (zI a), .int (zI b)] (fun rv V' => rv = none ∧ zS Γ V' ad (zf (zw4 σ i (σ (4 * i)) (σ (4 * i + 2) + b) (σ (4 * i + 2) + a) (σ (4 * i + 2) + a)) (40 + i) (σ (40 + i))) ∧ zfx V V' ∧ zWs Γ V V' (10 + i) (ad (10 + i)) (σ (4 * i)) (σ (4 * i + 2) + b) (σ (4 * i + 2) + a) (σ (4 * i + 2) + a)) := by
  obtain ⟨rr, nn, ba, w⟩ := hS.cw
  obtain ⟨st, f, h1, h2, h3, h4, h5, h6, h7, h8⟩ := w.1 i hi
  obtain ⟨a1, a2, a3, a4, a5, a6, a7, a8⟩ := id h3
  refine (m_X5_becomePart_eq l0 Γ (a := a) (b := b) h1).imp (fun rv V' hp => ?_)
  exact ⟨hp.1, hS.setC w hi hi ⟨by omega, by omega, by omega, by omega, by omega, by omega, by omega, a8⟩ (by omega) hp.2 h6⟩
theorem k_new_ws {Γ : zGam} {V V' : zV} {ad : Nat → Nat} {i : Nat} {z : Int} {q : Nat} {e0 : va_E} (hi : i < 6) (h1 : V (ad (10 + i)) = some (10 + i, e0)) (hq : V q = none) (hz : 0 ≤ z ∧ z ≤ 40) (e2 : V' = zu (zu V q 50 (za Γ.2.1 1 z.toNat (fun _ => 0))) (ad (10 + i)) (10 + i) (.inr (6, [.ref q, .int (zI 0), .int (zI z), .int (zI z), .int (zI 0), .int (zI (-9))]))) : zWs Γ V V' (10 + i) (ad (10 + i)) z z 0 (-9) := by
  have hnq : ad (10 + i) ≠ q := fun he => by
    rw [he, hq] at h1
    cases h1
  subst e2
  have ha : zag (fun t => t ≠ 10 + i) V (zu (zu V q 50 (za Γ.2.1 1 z.toNat (fun _ => 0))) (ad (10 + i)) (10 + i) (.inr (6, [.ref q, .int (zI 0), .int (zI z), .int (zI z), .int (zI 0), .int (zI (-9))]))) := (zag.rf.new hq).set ((zu_ne hnq).trans h1) (fun h9 => h9 rfl)
  exact ⟨⟨q, z.toNat, 0, fun _ => 0, zu_eq _ _ _ _, (zu_ne (Ne.symm hnq)).trans (zu_eq _ _ _ _), ⟨by omega, by omega, by omega, by omega, by omega, Or.inl rfl, by omega, by omega⟩, zc_zero, by omega⟩, ha.mono (fun t ht => ht.1), .of ha (by omega)⟩
theorem k_becomeNew (hS : zS Γ V ad σ) (hi : i < 6) {z : Int} (hz : 0 ≤ z ∧ z ≤ 40) : zM l0 Γ 2 yX5_becomeNew wsX5_becomeNew 1 z.toNat V [.ref (ad (10 + i)), .int (zI z)] (fun rv V' => rv = none ∧ zS Γ V' ad (zf (zf (zw4 σ i z z 0 (-9)) (40 + i) (σ 46)) 46 (σ 46 + z)) ∧ zfx V V' ∧ zWs Γ V V' (10 + i) (ad (10 + i)) (z) (z) (0) (-9)) := by
  obtain ⟨rr, nn, ba, w⟩ := hS.cw
  obtain ⟨st, f, h1, h2, h3, h4, h5, h6, h7, h8⟩ := w.1 i hi
  obtain ⟨a1, a2, a3, a4, a5, a6, a7, a8⟩ := id h3
  refine (m_X5_becomeNew l0 Γ (z := z) h1 hz).imp (fun rv V' hp => ?_)
  obtain ⟨e1, q, hq, e2⟩ := hp
  have ez : ((z.toNat : Nat) : Int) = z := by omega
  rw [ez] at e2
  have hnq : ad (10 + i) ≠ q := fun he => by
    rw [he, hq] at h1
    cases h1
  have hw : zWs Γ V V' (10 + i) (ad (10 + i)) z z 0 (-9) := k_new_ws hi h1 hq hz e2
  have ha : zag (fun t => t ≠ 10 + i) V V' := by
    rw [e2]
    exact (zag.rf.new hq).set ((zu_ne hnq).trans h1) (fun h9 => h9 rfl)
  obtain ⟨g1, g2⟩ := hS.c0.setW hi hw
  refine ⟨e1, (g1.sig (fun x hx => ?_)).mk (hS.ct.setN hi hz hq ha (by rw [e2]; exact zu_eq _ _ _ _) (by rw [e2, zu_ne (Ne.symm hnq)]; exact zu_eq _ _ _ _)), g2, hw⟩
  unfold zf
  rw [if_neg (by omega), if_neg (by omega)]
end ZK
