/-! the pipe in the whole state -/
def zpi (σ : Nat → Int) (a b c d : Int) : Nat → Int := fun j => if j = 26 then a else if j = 27 then b else if j = 28 then c else if j = 29 then d else σ j
theorem zpi_ne {σ : Nat → Int} {a b c d : Int} {j : Nat} (h : ¬ (26 ≤ j ∧ j ≤ 29)) : zpi σ a b c d j = σ j := by
  unfold zpi
  rw [if_neg (by first | with_reducible assumption | decide | omega), if_neg (by first | with_reducible assumption | decide | omega), if_neg (by first | with_reducible assumption | decide | omega), if_neg (by first | with_reducible assumption | decide | omega)]
theorem zpi_26 {σ : Nat → Int} {a b c d : Int} : zpi σ a b c d 26 = a := rfl
theorem zpi_27 {σ : Nat → Int} {a b c d : Int} : zpi σ a b c d 27 = b := rfl
theorem zpi_28 {σ : Nat → Int} {a b c d : Int} : zpi σ a b c d 28 = c := rfl
theorem zpi_29 {σ : Nat → Int} {a b c d : Int} : zpi σ a b c d 29 = d := rfl
theorem zpi_zpi {σ : Nat → Int} {a b c d a' b' c' d' : Int} : zpi (zpi σ a b c d) a' b' c' d' = zpi σ a' b' c' d' := by
  funext j
  unfold zpi
  by_cases h1 : j = 26
  · simp [h1]
  · by_cases h2 : j = 27
    · simp [h2]
    · by_cases h3 : j = 28
      · simp [h3]
      · by_cases h4 : j = 29
        · simp [h4]
        · simp [h1, h2, h3, h4]
theorem zpi_id {σ : Nat → Int} : zpi σ (σ 26) (σ 27) (σ 28) (σ 29) = σ := by
  funext j
  unfold zpi
  by_cases h1 : j = 26
  · simp [h1]
  · by_cases h2 : j = 27
    · simp [h2]
    · by_cases h3 : j = 28
      · simp [h3]
      · by_cases h4 : j = 29
        · simp [h4]
        · simp [h1, h2, h3, h4]
theorem zS.pcl {Γ : zGam} {V : zV} {ad : Nat → Nat} {σ : Nat → Int} (h : zS Γ V ad σ) : zCl V (ad 24) 3 := ⟨_, _, h.2.2.2.2.2.1.1⟩
theorem zS.prg {Γ : zGam} {V : zV} {ad : Nat → Nat} {σ : Nat → Int} (h : zS Γ V ad σ) : 1 ≤ σ 26 ∧ σ 26 ≤ 8 ∧ 0 ≤ σ 27 ∧ σ 27 ≤ σ 26 ∧ 0 ≤ σ 28 ∧ σ 28 ≤ 160 ∧ 0 ≤ σ 29 ∧ σ 29 ≤ 160 ∧ σ 29 + σ 27 = σ 28 := by
  obtain ⟨h1, h2, h3, h4, h5, h6, h7, h8⟩ := h.2.2.2.2.2.1
  have a := h2.rg
  have b := h3.rg
  have c := h4.rg
  omega
theorem zS.setP3 {Γ : zGam} {V V' : zV} {ad : Nat → Nat} {σ σ' : Nat → Int} (h : zS Γ V ad σ) (ha : zag (fun t => ¬ (24 ≤ t ∧ t ≤ 30)) V V') (hp : zSp Γ V' ad σ') (he : ∀ j, ¬ (26 ≤ j ∧ j ≤ 29) → σ' j = σ j) : zS Γ V' ad σ' ∧ zfx V V' ∧ zag (fun t => ¬ (24 ≤ t ∧ t ≤ 30)) V V' := ⟨(h.setP ha hp he).1, (h.setP ha hp he).2, ha⟩
section ZH9
variable (l0 : Launch) (Γ : zGam) {V : zV} {ad : Nat → Nat} {σ : Nat → Int}
theorem h_makeNew (hS : zS Γ V ad σ) {w : Int} (hw : 1 ≤ w ∧ w ≤ 8) : zM l0 Γ 1 yX1_makeNew wsX1_makeNew 0 0 V [.ref (ad 24), .int (zI w)] (fun rv V' => rv = none ∧ zS Γ V' ad (zpi σ w 0 0 0) ∧ zfx V V') := by
  have hSS := hS
  obtain ⟨hl, ⟨fh, hh, ah, z1, b1, b2⟩, ⟨fs, hs, as, z2, b3, b4⟩, ⟨fc, hc, ac, z3, b5, b6⟩, w1, w2, w3, w4⟩ := hS.2.2.2.2.2.1
  refine (m_X1_makeNew l0 Γ hl hh hs hc ah as ac (by first | with_reducible assumption | decide | omega) ⟨z1, z2, z3⟩ ⟨(zne_tag hh hs (by decide)), (zne_tag hh hc (by decide)), (zne_tag hs hc (by decide)), (zne_tag ah as (by decide)), (zne_tag ah ac (by decide)), (zne_tag as ac (by decide))⟩).imp (fun rv V' hp => ?_)
  obtain ⟨e1, e2⟩ := hp
  rw [e2]
  exact ⟨e1, hSS.setP ((((zag.rf.set hl (fun q => q (by decide))).set ((zu_ne (zne_tag hh hl (by decide))).trans hh) (fun q => q (by decide))).set ((zu_ne (zne_tag hs hh (by decide))).trans ((zu_ne (zne_tag hs hl (by decide))).trans hs)) (fun q => q (by decide))).set ((zu_ne (zne_tag hc hs (by decide))).trans ((zu_ne (zne_tag hc hh (by decide))).trans ((zu_ne (zne_tag hc hl (by decide))).trans hc))) (fun q => q (by decide))) ⟨((zu_ne (zne_tag hl hc (by decide))).trans ((zu_ne (zne_tag hl hs (by decide))).trans ((zu_ne (zne_tag hl hh (by decide))).trans (zu_eq _ _ _ _)))), ⟨_, ((zu_ne (zne_tag hh hc (by decide))).trans ((zu_ne (zne_tag hh hs (by decide))).trans (zu_eq _ _ _ _))), ((zu_ne (zne_tag ah hc (by decide))).trans ((zu_ne (zne_tag ah hs (by decide))).trans ((zu_ne (zne_tag ah hh (by decide))).trans ((zu_ne (zne_tag ah hl (by decide))).trans ah)))), z1, by simp only [zpi_26, zpi_27, zpi_28, zpi_29]; omega, by simp only [zpi_26, zpi_27, zpi_28, zpi_29]; omega⟩, ⟨_, ((zu_ne (zne_tag hs hc (by decide))).trans (zu_eq _ _ _ _)), ((zu_ne (zne_tag as hc (by decide))).trans ((zu_ne (zne_tag as hs (by decide))).trans ((zu_ne (zne_tag as hh (by decide))).trans ((zu_ne (zne_tag as hl (by decide))).trans as)))), z2, by simp only [zpi_26, zpi_27, zpi_28, zpi_29]; omega, by simp only [zpi_26, zpi_27, zpi_28, zpi_29]; omega⟩, ⟨_, (zu_eq _ _ _ _), ((zu_ne (zne_tag ac hc (by decide))).trans ((zu_ne (zne_tag ac hs (by decide))).trans ((zu_ne (zne_tag ac hh (by decide))).trans ((zu_ne (zne_tag ac hl (by decide))).trans ac)))), z3, by simp only [zpi_26, zpi_27, zpi_28, zpi_29]; omega, by simp only [zpi_26, zpi_27, zpi_28, zpi_29]; omega⟩, by simp only [zpi_26, zpi_27, zpi_28, zpi_29]; omega, by simp only [zpi_26, zpi_27, zpi_28, zpi_29]; omega, by simp only [zpi_26, zpi_27, zpi_28, zpi_29]; omega, by simp only [zpi_26, zpi_27, zpi_28, zpi_29]; omega⟩ (fun j hj => zpi_ne hj)⟩
theorem h_takeIn_y (hS : zS Γ V ad σ) {x : Int} (hx : 0 ≤ x ∧ x ≤ 255) (hy : σ 27 < σ 26 ∧ σ 28 < 160) : zM l0 Γ 2 yX1_takeIn wsX1_takeIn 0 0 V [.ref (ad 24), .int (zI x)] (fun rv V' => rv = some (.int (zI 1)) ∧ zS Γ V' ad (zpi σ (σ 26) (σ 27 + 1) (σ 28 + 1) (σ 29)) ∧ zfx V V' ∧ zag (fun t => ¬ (24 ≤ t ∧ t ≤ 30)) V V') := by
  have hSS := hS
  obtain ⟨hl, ⟨fh, hh, ah, z1, b1, b2⟩, ⟨fs, hs, as, z2, b3, b4⟩, ⟨fc, hc, ac, z3, b5, b6⟩, w1, w2, w3, w4⟩ := hS.2.2.2.2.2.1
  refine (m_X1_takeIn_y l0 Γ hl hh hs hc ah as ac (by first | with_reducible assumption | decide | omega) ⟨z1, z2, z3⟩ ⟨(zne_tag hh hs (by decide)), (zne_tag hh hc (by decide)), (zne_tag hs hc (by decide)), (zne_tag ah as (by decide)), (zne_tag ah ac (by decide)), (zne_tag as ac (by decide))⟩ hx hy).imp (fun rv V' hp => ?_)
  obtain ⟨e1, e2⟩ := hp
  rw [e2]
  exact ⟨e1, hSS.setP3 ((((zag.rf.set ah (fun q => q (by decide))).set ((zu_ne (zne_tag hh ah (by decide))).trans hh) (fun q => q (by decide))).set ((zu_ne (zne_tag as hh (by decide))).trans ((zu_ne (zne_tag as ah (by decide))).trans as)) (fun q => q (by decide))).set ((zu_ne (zne_tag hs as (by decide))).trans ((zu_ne (zne_tag hs hh (by decide))).trans ((zu_ne (zne_tag hs ah (by decide))).trans hs))) (fun q => q (by decide))) ⟨((zu_ne (zne_tag hl hs (by decide))).trans ((zu_ne (zne_tag hl as (by decide))).trans ((zu_ne (zne_tag hl hh (by decide))).trans ((zu_ne (zne_tag hl ah (by decide))).trans hl)))), ⟨_, ((zu_ne (zne_tag hh hs (by decide))).trans ((zu_ne (zne_tag hh as (by decide))).trans (zu_eq _ _ _ _))), ((zu_ne (zne_tag ah hs (by decide))).trans ((zu_ne (zne_tag ah as (by decide))).trans ((zu_ne (zne_tag ah hh (by decide))).trans (zu_eq _ _ _ _)))), (zc_zf z1 hx), by simp only [zpi_26, zpi_27, zpi_28, zpi_29]; omega, by simp only [zpi_26, zpi_27, zpi_28, zpi_29]; omega⟩, ⟨_, (zu_eq _ _ _ _), ((zu_ne (zne_tag as hs (by decide))).trans (zu_eq _ _ _ _)), (zc_zf z2 hx), by simp only [zpi_26, zpi_27, zpi_28, zpi_29]; omega, by simp only [zpi_26, zpi_27, zpi_28, zpi_29]; omega⟩, ⟨_, ((zu_ne (zne_tag hc hs (by decide))).trans ((zu_ne (zne_tag hc as (by decide))).trans ((zu_ne (zne_tag hc hh (by decide))).trans ((zu_ne (zne_tag hc ah (by decide))).trans hc)))), ((zu_ne (zne_tag ac hs (by decide))).trans ((zu_ne (zne_tag ac as (by decide))).trans ((zu_ne (zne_tag ac hh (by decide))).trans ((zu_ne (zne_tag ac ah (by decide))).trans ac)))), z3, by simp only [zpi_26, zpi_27, zpi_28, zpi_29]; omega, by simp only [zpi_26, zpi_27, zpi_28, zpi_29]; omega⟩, by simp only [zpi_26, zpi_27, zpi_28, zpi_29]; omega, by simp only [zpi_26, zpi_27, zpi_28, zpi_29]; omega, by simp only [zpi_26, zpi_27, zpi_28, zpi_29]; omega, by simp only [zpi_26, zpi_27, zpi_28, zpi_29]; omega⟩ (fun j hj => zpi_ne hj)⟩
theorem h_takeIn_n (hS : zS Γ V ad σ) {x : Int} (hy : ¬ (σ 27 < σ 26 ∧ σ 28 < 160)) : zM l0 Γ 2 yX1_takeIn wsX1_takeIn 0 0 V [.ref (ad 24), .int (zI x)] (fun rv V' => rv = some (.int (zI 0)) ∧ V' = V) := by
  have hSS := hS
  obtain ⟨hl, ⟨fh, hh, ah, z1, b1, b2⟩, ⟨fs, hs, as, z2, b3, b4⟩, ⟨fc, hc, ac, z3, b5, b6⟩, w1, w2, w3, w4⟩ := hS.2.2.2.2.2.1
  exact m_X1_takeIn_n l0 Γ hl hh hs hc ah as ac (by first | with_reducible assumption | decide | omega) ⟨z1, z2, z3⟩ ⟨(zne_tag hh hs (by decide)), (zne_tag hh hc (by decide)), (zne_tag hs hc (by decide)), (zne_tag ah as (by decide)), (zne_tag ah ac (by decide)), (zne_tag as ac (by decide))⟩ (by first | with_reducible assumption | decide | omega)
theorem h_giveOut (hS : zS Γ V ad σ) (hy : 0 < σ 27) : zM l0 Γ 4 yX1_giveOut wsX1_giveOut 0 0 V [.ref (ad 24)] (fun rv V' => (∃ x : Int, rv = some (.int (zI x)) ∧ 0 ≤ x ∧ x ≤ 255) ∧ zS Γ V' ad (zpi σ (σ 26) (σ 27 - 1) (σ 28) (σ 29 + 1)) ∧ zfx V V' ∧ zag (fun t => ¬ (24 ≤ t ∧ t ≤ 30)) V V') := by
  have hSS := hS
  obtain ⟨hl, ⟨fh, hh, ah, z1, b1, b2⟩, ⟨fs, hs, as, z2, b3, b4⟩, ⟨fc, hc, ac, z3, b5, b6⟩, w1, w2, w3, w4⟩ := hS.2.2.2.2.2.1
  refine (m_X1_giveOut l0 Γ hl hh hs hc ah as ac (by first | with_reducible assumption | decide | omega) ⟨z1, z2, z3⟩ ⟨(zne_tag hh hs (by decide)), (zne_tag hh hc (by decide)), (zne_tag hs hc (by decide)), (zne_tag ah as (by decide)), (zne_tag ah ac (by decide)), (zne_tag as ac (by decide))⟩ (by first | with_reducible assumption | decide | omega)).imp (fun rv V' hp => ?_)
  obtain ⟨e1, f', hf, e2⟩ := hp
  rw [e2]
  exact ⟨⟨_, e1, (z1 0).1, (z1 0).2⟩, hSS.setP3 ((((zag.rf.set ah (fun q => q (by decide))).set ((zu_ne (zne_tag hh ah (by decide))).trans hh) (fun q => q (by decide))).set ((zu_ne (zne_tag ac hh (by decide))).trans ((zu_ne (zne_tag ac ah (by decide))).trans ac)) (fun q => q (by decide))).set ((zu_ne (zne_tag hc ac (by decide))).trans ((zu_ne (zne_tag hc hh (by decide))).trans ((zu_ne (zne_tag hc ah (by decide))).trans hc))) (fun q => q (by decide))) ⟨((zu_ne (zne_tag hl hc (by decide))).trans ((zu_ne (zne_tag hl ac (by decide))).trans ((zu_ne (zne_tag hl hh (by decide))).trans ((zu_ne (zne_tag hl ah (by decide))).trans hl)))), ⟨_, ((zu_ne (zne_tag hh hc (by decide))).trans ((zu_ne (zne_tag hh ac (by decide))).trans (zu_eq _ _ _ _))), ((zu_ne (zne_tag ah hc (by decide))).trans ((zu_ne (zne_tag ah ac (by decide))).trans ((zu_ne (zne_tag ah hh (by decide))).trans (zu_eq _ _ _ _)))), hf, by simp only [zpi_26, zpi_27, zpi_28, zpi_29]; omega, by simp only [zpi_26, zpi_27, zpi_28, zpi_29]; omega⟩, ⟨_, ((zu_ne (zne_tag hs hc (by decide))).trans ((zu_ne (zne_tag hs ac (by decide))).trans ((zu_ne (zne_tag hs hh (by decide))).trans ((zu_ne (zne_tag hs ah (by decide))).trans hs)))), ((zu_ne (zne_tag as hc (by decide))).trans ((zu_ne (zne_tag as ac (by decide))).trans ((zu_ne (zne_tag as hh (by decide))).trans ((zu_ne (zne_tag as ah (by decide))).trans as)))), z2, by simp only [zpi_26, zpi_27, zpi_28, zpi_29]; omega, by simp only [zpi_26, zpi_27, zpi_28, zpi_29]; omega⟩, ⟨_, (zu_eq _ _ _ _), ((zu_ne (zne_tag ac hc (by decide))).trans (zu_eq _ _ _ _)), (zc_zf z3 (z1 0)), by simp only [zpi_26, zpi_27, zpi_28, zpi_29]; omega, by simp only [zpi_26, zpi_27, zpi_28, zpi_29]; omega⟩, by simp only [zpi_26, zpi_27, zpi_28, zpi_29]; omega, by simp only [zpi_26, zpi_27, zpi_28, zpi_29]; omega, by simp only [zpi_26, zpi_27, zpi_28, zpi_29]; omega, by simp only [zpi_26, zpi_27, zpi_28, zpi_29]; omega⟩ (fun j hj => zpi_ne hj)⟩
theorem h_isWhole (hS : zS Γ V ad σ) : zM l0 Γ 5 yX1_isWhole wsX1_isWhole 0 0 V [.ref (ad 24)] (fun rv V' => (∃ x : Int, rv = some (.int (zI x)) ∧ (x = 0 ∨ x = 1)) ∧ V' = V) := by
  have hSS := hS
  obtain ⟨hl, ⟨fh, hh, ah, z1, b1, b2⟩, ⟨fs, hs, as, z2, b3, b4⟩, ⟨fc, hc, ac, z3, b5, b6⟩, w1, w2, w3, w4⟩ := hS.2.2.2.2.2.1
  exact m_X1_isWhole l0 Γ hl hh hs hc ah as ac (by first | with_reducible assumption | decide | omega) ⟨z1, z2, z3⟩ ⟨(zne_tag hh hs (by decide)), (zne_tag hh hc (by decide)), (zne_tag hs hc (by decide)), (zne_tag ah as (by decide)), (zne_tag ah ac (by decide)), (zne_tag as ac (by decide))⟩
end ZH9
