section
/-! the pipe in the whole state -/
def zpi (σ : Nat → Int) (a b c d : Int) : Nat → Int := fun j => if j = 26 then a else if j = 27 then b else if j = 28 then c else if j = 29 then d else σ j
theorem zpi_ne {σ : Nat → Int} {a b c d : Int} {j : Nat} (h : ¬ (26 ≤ j ∧ j ≤ 29)) : zpi σ a b c d j = σ j := by
  unfold zpi
  rw [if_neg (by omega), if_neg (by omega), if_neg (by omega), if_neg (by omega)]
theorem zpi_26 {σ : Nat → Int} {a b c d : Int} : zpi σ a b c d 26 = a := rfl
theorem zpi_27 {σ : Nat → Int} {a b c d : Int} : zpi σ a b c d 27 = b := rfl
theorem zpi_28 {σ : Nat → Int} {a b c d : Int} : zpi σ a b c d 28 = c := rfl
theorem zpi_29 {σ : Nat → Int} {a b c d : Int} : zpi σ a b c d 29 = d := rfl
theorem zpi_zpi {σ : Nat → Int} {a b c d a' b' c' d' : Int} : zpi (zpi σ a b c d) a' b' c' d' = zpi σ a' b' c' d' := by
  funext j
  unfold zpi
  by_cases h1 : j = 26
  · simp [h1]
  · by_cases h2 : j = 27
    · simp [h2]
    · by_cases h3 : j = 28
      · simp [h3]
      · by_cases h4 : j = 29
        · simp [h4]
        · simp [h1, h2, h3, h4]
theorem zpi_id {σ : Nat → Int} : zpi σ (σ 26) (σ 27) (σ 28) (σ 29) = σ := by
  funext j
  unfold zpi
  by_cases h1 : j = 26
  · simp [h1]
  · by_cases h2 : j = 27
    · simp [h2]
    · by_cases h3 : j = 28
      · simp [h3]
      · by_cases h4 : j = 29
        · simp [h4]
        · simp [h1, h2, h3, h4]
theorem zS.pcl {Γ : zGam} {V : zV} {ad : Nat → Nat} {σ : Nat → Int} (h : zS Γ V ad σ) : zCl V (ad 24) 3 := ⟨_, _, h.2.2.2.2.2.1.1⟩
theorem zS.prg {Γ : zGam} {V : zV} {ad : Nat → Nat} {σ : Nat → Int} (h : zS Γ V ad σ) : 1 ≤ σ 26 ∧ σ 26 ≤ 8 ∧ 0 ≤ σ 27 ∧ σ 27 ≤ σ 26 ∧ 0 ≤ σ 28 ∧ σ 28 ≤ 160 ∧ 0 ≤ σ 29 ∧ σ 29 ≤ 160 ∧ σ 29 + σ 27 = σ 28 := by
  obtain ⟨h1, h2, h3, h4, h5, h6, h7, h8⟩ := h.2.2.2.2.2.1
  have a := h2.rg
  have b := h3.rg
  have c := h4.rg
  omega
theorem zS.setP3 {Γ : zGam} {V V' : zV} {ad : Nat → Nat} {σ σ' : Nat → Int} (h : zS Γ V ad σ) (ha : zag (fun t => ¬ (24 ≤ t ∧ t ≤ 30)) V V') (hp : zSp Γ V' ad σ') (he : ∀ j, ¬ (26 ≤ j ∧ j ≤ 29) → σ' j = σ j) : zS Γ V' ad σ' ∧ zfx V V' ∧ zag (fun t => ¬ (24 ≤ t ∧ t ≤ 30)) V V' := ⟨(h.setP ha hp he).1, (h.setP ha hp he).2, ha⟩
section ZH9
variable (l0 : Launch) (Γ : zGam) {V : zV} {ad : Nat → Nat} {σ : Nat → Int}
theorem h_makeNew (hS : zS Γ V ad σ) {w : Int} (hw : 1 ≤ w ∧ w ≤ 8) : zM l0 Γ 1 yX1_makeNew wsX1_makeNew 0 0 V [.ref (ad 24), .int (zI w)] (fun rv V' => rv = none ∧ zS Γ V' ad (zpi σ w 0 0 0) ∧ zfx V V') := by
  have hSS := hS
  obtain ⟨hl, ⟨fh, hh, ah, z1, b1, b2⟩, ⟨fs, hs, as, z2, b3, b4⟩, ⟨fc, hc, ac, z3, b5, b6⟩, w1, w2, w3, w4⟩ := hS.2.2.2.2.2.1
  refine (m_X1_makeNew l0 Γ hl hh hs hc ah as ac (by omega) ⟨z1, z2, z3⟩ ⟨(zne_tag hh hs (by decide)), (zne_tag hh hc (by decide)), (zne_tag hs hc (by decide)), (zne_tag ah as (by decide)), (zne_tag ah ac (by decide)), (zne_tag as ac (by decide))⟩).imp (fun rv V' hp => ?_)
  obtain ⟨e1, e2⟩ := hp
  rw [e2]
  exact ⟨e1, hSS.setP ((((zag.rf.set hl (fun q => q (by decide))).set ((zu_ne (zne_tag hh hl (by decide))).trans hh) (fun q => q (by decide))).set ((zu_ne (zne_tag hs hh (by decide))).trans ((zu_ne (zne_tag hs hl (by decide))).trans hs)) (fun q => q (by decide))).set ((zu_ne (zne_tag hc hs (by decide))).trans ((zu_ne (zne_tag hc hh (by decide))).trans ((zu_ne (zne_tag hc hl (by decide))).trans hc))) (fun q => q (by decide))) ⟨((zu_ne (zne_tag hl hc (by decide))).trans ((zu_ne (zne_tag hl hs (by decide))).trans ((zu_ne (zne_tag hl hh (by decide))).trans (zu_eq _ _ _ _)))), ⟨_, ((zu_ne (zne_tag hh hc (by decide))).trans ((zu_ne (zne_tag hh hs (by decide))).trans (zu_eq _ _ _ _))), ((zu_ne (zne_tag ah hc (by decide))).trans ((zu_ne (zne_tag ah hs (by decide))).trans ((zu_ne (zne_tag ah hh (by decide))).trans ((zu_ne (zne_tag ah hl (by decide))).trans ah)))), z1, by simp only [zpi_26, zpi_27, zpi_28, zpi_29]; omega, by simp only [zpi_26, zpi_27, zpi_28, zpi_29]; omega⟩, ⟨_, ((zu_ne (zne_tag hs hc (by decide))).trans (zu_eq _ _ _ _)), ((zu_ne (zne_tag as hc (by decide))).trans ((zu_ne (zne_tag as hs (by decide))).trans ((zu_ne (zne_tag as hh (by decide))).trans ((zu_ne (zne_tag as hl (by decide))).trans as)))), z2, by simp only [zpi_26, zpi_27, zpi_28, zpi_29]; omega, by simp only [zpi_26, zpi_27, zpi_28, zpi_29]; omega⟩, ⟨_, (zu_eq _ _ _ _), ((zu_ne (zne_tag ac hc (by decide))).trans ((zu_ne (zne_tag ac hs (by decide))).trans ((zu_ne (zne_tag ac hh (by decide))).trans ((zu_ne (zne_tag ac hl (by decide))).trans ac)))), z3, by simp only [zpi_26, zpi_27, zpi_28, zpi_29]; omega, by simp only [zpi_26, zpi_27, zpi_28, zpi_29]; omega⟩, by simp only [zpi_26, zpi_27, zpi_28, zpi_29]; omega, by simp only [zpi_26, zpi_27, zpi_28, zpi_29]; omega, by simp only [zpi_26, zpi_27, zpi_28, zpi_29]; omega, by simp only [zpi_26, zpi_27, zpi_28, zpi_29]; omega⟩ (fun j hj => zpi_ne hj)⟩
theorem h_takeIn_y (hS : zS Γ V ad σ) {x : Int} (hx : 0 ≤ x ∧ x ≤ 255) (hy : σ 27 < σ 26 ∧ σ 28 < 160) : zM l0 Γ 2 yX1_takeIn wsX1_takeIn 0 0 V [.ref (ad 24), .int (zI x)] (fun rv V' => rv = some (.int (zI 1)) ∧ zS Γ V' ad (zpi σ (σ 26) (σ 27 + 1) (σ 28 + 1) (σ 29)) ∧ zfx V V' ∧ zag (fun t => ¬ (24 ≤ t ∧ t ≤ 30)) V V') := by
  have hSS := hS
  obtain ⟨hl, ⟨fh, hh, ah, z1, b1, b2⟩, ⟨fs, hs, as, z2, b3, b4⟩, ⟨fc, hc, ac, z3, b5, b6⟩, w1, w2, w3, w4⟩ := hS.2.2.2.2.2.1
  refine (m_X1_takeIn_y l0 Γ hl hh hs hc ah as ac (by omega) ⟨z1, z2, z3⟩ ⟨(zne_tag hh hs (by decide)), (zne_tag hh hc (by decide)), (zne_tag hs hc (by decide)), (zne_tag ah as (by decide)), (zne_tag ah ac (by decide)), (zne_tag as ac (by decide))⟩ hx hy).imp (fun rv V' hp => ?_)
  obtain ⟨e1, e2⟩ := hp
  rw [e2]
  exact ⟨e1, hSS.setP3 ((((zag.rf.set ah (fun q => q (by decide))).set ((zu_ne (zne_tag hh ah (by decide))).trans hh) (fun q => q (by decide))).set ((zu_ne (zne_tag as hh (by decide))).trans ((zu_ne (zne_tag as ah (by decide))).trans as)) (fun q => q (by decide))).set ((zu_ne (zne_tag hs as (by decide))).trans ((zu_ne (zne_tag hs hh (by decide))).trans ((zu_ne (zne_tag hs ah (by decide))).trans hs))) (fun q => q (by decide))) ⟨((zu_ne (zne_tag hl hs (by decide))).trans ((zu_ne (zne_tag hl as (by decide))).trans ((zu_ne (zne_tag hl hh (by decide))).trans ((zu_ne (zne_tag hl ah (by decide))).trans hl)))), ⟨_, ((zu_ne (zne_tag hh hs (by decide))).trans ((zu_ne (zne_tag hh as (by decide))).trans (zu_eq _ _ _ _))), ((zu_ne (zne_tag ah hs (by decide))).trans ((zu_ne (zne_tag ah as (by decide))).trans ((zu_ne (zne_tag ah hh (by decide))).trans (zu_eq _ _ _ _)))), (zc_zf z1 hx), by simp only [zpi_26, zpi_27, zpi_28, zpi_29]; omega, by simp only [zpi_26, zpi_27, zpi_28, zpi_29]; omega⟩, ⟨_, (zu_eq _ _ _ _), ((zu_ne (zne_tag as hs (by decide))).trans (zu_eq _ _ _ _)), (zc_zf z2 hx), by simp only [zpi_26, zpi_27, zpi_28, zpi_29]; omega, by simp only [zpi_26, zpi_27, zpi_28, zpi_29]; omega⟩, ⟨_, ((zu_ne (zne_tag hc hs (by decide))).trans ((zu_ne (zne_tag hc as (by decide))).trans ((zu_ne (zne_tag hc hh (by decide))).trans ((zu_ne (zne_tag hc ah (by decide))).trans hc)))), ((zu_ne (zne_tag ac hs (by decide))).trans ((zu_ne (zne_tag ac as (by decide))).trans ((zu_ne (zne_tag ac hh (by decide))).trans ((zu_ne (zne_tag ac ah (by decide))).trans ac)))), z3, by simp only [zpi_26, zpi_27, zpi_28, zpi_29]; omega, by simp only [zpi_26, zpi_27, zpi_28, zpi_29]; omega⟩, by simp only [zpi_26, zpi_27, zpi_28, zpi_29]; omega, by simp only [zpi_26, zpi_27, zpi_28, zpi_29]; omega, by simp only [zpi_26, zpi_27, zpi_28, zpi_29]; omega, by simp only [zpi_26, zpi_27, zpi_28, zpi_29]; omega⟩ (fun j hj => zpi_ne hj)⟩
theorem h_takeIn_n (hS : zS Γ V ad σ) {x : Int} (hy : ¬ (σ 27 < σ 26 ∧ σ 28 < 160)) : zM l0 Γ 2 yX1_takeIn wsX1_takeIn 0 0 V [.ref (ad 24), .int (zI x)] (fun rv V' => rv = some (.int (zI 0)) ∧ V' = V) := by
  have hSS := hS
  obtain ⟨hl, ⟨fh, hh, ah, z1, b1, b2⟩, ⟨fs, hs, as, z2, b3, b4⟩, ⟨fc, hc, ac, z3, b5, b6⟩, w1, w2, w3, w4⟩ := hS.2.2.2.2.2.1
  exact m_X1_takeIn_n l0 Γ hl hh hs hc ah as ac (by omega) ⟨z1, z2, z3⟩ ⟨(zne_tag hh hs (by decide)), (zne_tag hh hc (by decide)), (zne_tag hs hc (by decide)), (zne_tag ah as (by decide)), (zne_tag ah ac (by decide)), (zne_tag as ac (by decide))⟩ (by omega)
theorem h_giveOut (hS : zS Γ V ad σ) (hy : 0 < σ 27) : zM l0 Γ 4 yX1_giveOut wsX1_giveOut 0 0 V [.ref (ad 24)] (fun rv V' => (∃ x : Int, rv = some (.int (zI x)) ∧ 0 ≤ x ∧ x ≤ 255) ∧ zS Γ V' ad (zpi σ (σ 26) (σ 27 - 1) (σ 28) (σ 29 + 1)) ∧ zfx V V' ∧ zag (fun t => ¬ (24 ≤ t ∧ t ≤ 30)) V V') := by
  have hSS := hS
  obtain ⟨hl, ⟨fh, hh, ah, z1, b1, b2⟩, ⟨fs, hs, as, z2, b3, b4⟩, ⟨fc, hc, ac, z3, b5, b6⟩, w1, w2, w3, w4⟩ := hS.2.2.2.2.2.1
  refine (m_X1_giveOut l0 Γ hl hh hs hc ah as ac (by omega) ⟨z1, z2, z3⟩ ⟨(zne_tag hh hs (by decide)), (zne_tag hh hc (by decide)), (zne_tag hs hc (by decide)), (zne_tag ah as (by decide)), (zne_tag ah ac (by decide)), (zne_tag as ac (by decide))⟩ (by omega)).imp (fun rv V' hp => ?_)
  obtain ⟨e1, f', hf, e2⟩ := hp
  rw [e2]
  exact ⟨⟨_, e1, (z1 0).1, (z1 0).2⟩, hSS.setP3 ((((zag.rf.set ah (fun q => q (by decide))).set ((zu_ne (zne_tag hh ah (by decide))).trans hh) (fun q => q (by decide))).set ((zu_ne (zne_tag ac hh (by decide))).trans ((zu_ne (zne_tag ac ah (by decide))).trans ac)) (fun q => q (by decide))).set ((zu_ne (zne_tag hc ac (by decide))).trans ((zu_ne (zne_tag hc hh (by decide))).trans ((zu_ne (zne_tag hc ah (by decide))).trans hc))) (fun q => q (by decide))) ⟨((zu_ne (zne_tag hl hc (by decide))).trans ((zu_ne (zne_tag hl ac (by decide))).trans ((zu_ne (zne_tag hl hh (by decide))).trans ((zu_ne (zne_tag hl ah (by decide))).trans hl)))), ⟨_, ((zu_ne (zne_tag hh hc (by decide))).trans ((zu_ne (zne_tag hh ac (by decide))).trans (zu_eq _ _ _ _))), ((zu_ne (zne_tag ah hc (by decide))).trans ((zu_ne (zne_tag ah ac (by decide))).trans ((zu_ne (zne_tag ah hh (by decide))).trans (zu_eq _ _ _ _)))), hf, by simp only [zpi_26, zpi_27, zpi_28, zpi_29]; omega, by simp only [zpi_26, zpi_27, zpi_28, zpi_29]; omega⟩, ⟨_, ((zu_ne (zne_tag hs hc (by decide))).trans ((zu_ne (zne_tag hs ac (by decide))).trans ((zu_ne (zne_tag hs hh (by decide))).trans ((zu_ne (zne_tag hs ah (by decide))).trans hs)))), ((zu_ne (zne_tag as hc (by decide))).trans ((zu_ne (zne_tag as ac (by decide))).trans ((zu_ne (zne_tag as hh (by decide))).trans ((zu_ne (zne_tag as ah (by decide))).trans as)))), z2, by simp only [zpi_26, zpi_27, zpi_28, zpi_29]; omega, by simp only [zpi_26, zpi_27, zpi_28, zpi_29]; omega⟩, ⟨_, (zu_eq _ _ _ _), ((zu_ne (zne_tag ac hc (by decide))).trans (zu_eq _ _ _ _)), (zc_zf z3 (z1 0)), by simp only [zpi_26, zpi_27, zpi_28, zpi_29]; omega, by simp only [zpi_26, zpi_27, zpi_28, zpi_29]; omega⟩, by simp only [zpi_26, zpi_27, zpi_28, zpi_29]; omega, by simp only [zpi_26, zpi_27, zpi_28, zpi_29]; omega, by simp only [zpi_26, zpi_27, zpi_28, zpi_29]; omega, by simp only [zpi_26, zpi_27, zpi_28, zpi_29]; omega⟩ (fun j hj => zpi_ne hj)⟩
theorem h_isWhole (hS : zS Γ V ad σ) : zM l0 Γ 5 yX1_isWhole wsX1_isWhole 0 0 V [.ref (ad 24)] (fun rv V' => (∃ x : Int, rv = some (.int (zI x)) ∧ (x = 0 ∨ x = 1)) ∧ V' = V) := by
  have hSS := hS
  obtain ⟨hl, ⟨fh, hh, ah, z1, b1, b2⟩, ⟨fs, hs, as, z2, b3, b4⟩, ⟨fc, hc, ac, z3, b5, b6⟩, w1, w2, w3, w4⟩ := hS.2.2.2.2.2.1
  exact m_X1_isWhole l0 Γ hl hh hs hc ah as ac (by omega) ⟨z1, z2, z3⟩ ⟨(zne_tag hh hs (by decide)), (zne_tag hh hc (by decide)), (zne_tag hs hc (by decide)), (zne_tag ah as (by decide)), (zne_tag ah ac (by decide)), (zne_tag as ac (by decide))⟩
end ZH9
end
section
/-! Sashwords: the pipe, strings, copies -/
theorem zSc.tx {Γ : zGam} {V : zV} {tb b tg g n : Nat} {len : Int} (h : zSc Γ V tb b tg g n len) (hn : n ≤ 1000) : ∃ (e e' : va_E) (h' : Int → Int), zTx Γ V b g len h' ∧ V b = some (tb, e) ∧ V g = some (tg, e') := by
  obtain ⟨f, h1, h2, h3, h4, h5⟩ := h
  exact ⟨_, _, _, Or.inr ⟨_, _, n, f, h1, h2, ⟨h4, h5, hn⟩, h3, rfl⟩, h1, h2⟩
theorem zWi.tx {Γ : zGam} {V : zV} {tw w : Nat} {c l p m : Int} (h : zWi Γ V tw w c l p m) : ∃ (r : Nat) (e e' : va_E) (h' : Int → Int), zTx Γ V w r (l - p) h' ∧ V w = some (tw, e) ∧ V r = some (50, e') := by
  obtain ⟨r, n, st, f, h1, h2, h3, h4, h5⟩ := h
  exact ⟨r, _, _, _, Or.inl ⟨_, _, n, st, _, _, _, _, f, h1, h2, h3, h4, rfl, rfl⟩, h1, h2⟩
theorem zTx.fr {Γ : zGam} {V V' : zV} {o r to tr : Nat} {m : Int} {h : Int → Int} {e e' : va_E} (hT : zTx Γ V o r m h) (ho : V o = some (to, e)) (hr : V r = some (tr, e')) (hf : zfr V V') (h1 : to ≠ 7 ∧ tr ≠ 7) : zTx Γ V' o r m h := hT.kept ((hf _ _ _ ho h1.1).trans ho.symm) ((hf _ _ _ hr h1.2).trans hr.symm)
theorem zgrow8 (cnt : Int) (cap : Nat) : ∃ capm : Nat, (cnt + 8 ≤ cap ∧ capm = cap) ∨ ((cap : Int) < cnt + 8 ∧ capm = 2 * cap + 2) := by
  by_cases c : cnt + 8 ≤ cap
  · exact ⟨cap, Or.inl ⟨c, rfl⟩⟩
  · exact ⟨2 * cap + 2, Or.inr ⟨by omega, rfl⟩⟩
theorem zgrow1w (cnt : Int) (cap : Nat) (h : cnt + 1 ≤ cap ∨ cap ≤ 1400) : ∃ cap' c k : Nat, ((cnt + 1 ≤ cap ∧ cap' = cap ∧ c = 0 ∧ k = 0) ∨ ((cap : Int) < cnt + 1 ∧ cap ≤ 1400 ∧ cap' = 2 * cap + 2 ∧ c = 1 ∧ k = 2 * cap + 2)) := by
  by_cases c : cnt + 1 ≤ cap
  · exact ⟨cap, 0, 0, Or.inl ⟨c, rfl, rfl, rfl⟩⟩
  · exact ⟨2 * cap + 2, 1, 2 * cap + 2, Or.inr ⟨by omega, by omega, rfl, rfl, rfl⟩⟩
theorem zpi_zdn {σ : Nat → Int} {a b c d : Int} {j : Nat} (h : j < 26) : zpi σ a b c d j = σ j := zpi_ne (by omega)
theorem zdigits (x : Int) : ∃ q : Int, ((x < 10 ∧ q = 1) ∨ (10 ≤ x ∧ x < 100 ∧ q = 2) ∨ (100 ≤ x ∧ x < 1000 ∧ q = 3) ∨ (1000 ≤ x ∧ q = 4)) := by
  by_cases h1 : x < 10
  · exact ⟨1, Or.inl ⟨h1, rfl⟩⟩
  · by_cases h2 : x < 100
    · exact ⟨2, Or.inr (Or.inl ⟨by omega, h2, rfl⟩)⟩
    · by_cases h3 : x < 1000
      · exact ⟨3, Or.inr (Or.inr (Or.inl ⟨by omega, h3, rfl⟩))⟩
      · exact ⟨4, Or.inr (Or.inr (Or.inr ⟨by omega, rfl⟩))⟩
set_option maxRecDepth 100000 in
set_option maxHeartbeats 4000000 in
theorem m_X6_spelled (l : Launch) (Γ : zGam) {V : zV} {o r to tr : Nat} {m : Int} {h' : Int → Int} {e e' : va_E} (hT : zTx Γ V o r m h') (ho : V o = some (to, e)) (hr : V r = some (tr, e')) (h7 : to ≠ 7 ∧ tr ≠ 7) (hm : m ≤ 160) : zM l Γ 8 yX6_spelled wsX6_spelled 3010 6300 V [.ref o] (fun rv V' => ∃ z : Nat, rv = some (.ref z) ∧ zfr V V') := by
  have hTr := hT.rg
  have w0 : Cond.classLink RX6 113 RJ4 ∈ wsX6_spelled := by decide +kernel
  have w1 : Cond.instantiable RJ4 4 ∈ wsX6_spelled := by decide +kernel
  have w2 : Cond.initialized RJ4 ∈ wsX6_spelled := by decide +kernel
  have iJ4 : ∀ w ∈ u_ws RJ4 TJ4 4, w ∈ wsX6_spelled := by decide +kernel
  have w4 : Cond.initialized yJ4_init_da8c8.cls ∈ wsX6_spelled := by decide +kernel
  have w5 : Cond.methodLink RX6 115 yJ4_init_da8c8 ∈ wsX6_spelled := by decide +kernel
  have w6 : Cond.instanceMethod yJ4_init_da8c8 ∈ wsX6_spelled := by decide +kernel
  refine zM_of (cc := cX6_spelled) (nL := 3) (ret := (some (.object "java/lang/String"))) (own := RX6) (by decide +kernel) rfl rfl (Nat.le_of_ble_eq_true rfl) (fun C X hi0 => ?_)
  show zG C V 3010 6300 0 [(0, .ref o)] []
  refine zr_new (kc' := (3010 - 1)) (ks' := (6300 - 4)) X 3 1 7 [.null, .int (zI (0)), .int (zI (0)), .int (zI (0))] tyJ4 rfl iJ4 tyJ4_ok w0 w1 w2 (zdf_J4) dX6_spelled_0 rfl (by omega) (by omega) (fun q1 hq2 => ?_)
  refine zr_dup X 4 dX6_spelled_3 rfl rfl ?_
  refine zr_callI (kc' := (3010 - 1) - 1) (ks' := (6300 - 4) - 16) X 7 0 (m_J4_init_da8c8 l Γ (zu_eq _ _ _ _)) gX6_spelled_J4_init_da8c8 rfl w4 w5 w6 rfl (by decide +kernel) rfl (by decide) rfl (Nat.le_of_ble_eq_true rfl) dX6_spelled_4 rfl (by omega) (by omega) (fun rv3 V4 hp5 => ?_)
  obtain ⟨hp5e, hp5b, hp5f⟩ := hp5
  rw [hp5e]
  have ff6 : zfr V V4 := zag.tr (P := fun t => t ≠ 7) (zag.rf.new hq2) hp5f
  have ff7 := zag.tr (P := fun t => t ≠ 7) zag.rf ff6
  show zG C V4 ((3010 - 1) - 1) ((6300 - 4) - 16) 7 [(0, .ref o)] [.ref q1]
  refine zr_astore_n X 8 [(1, .ref q1), (0, .ref o)] dX6_spelled_7 rfl (by decide) rfl ?_
  refine zr_iconst X 9 dX6_spelled_8 rfl ?_
  refine zr_istore_n X 10 [(2, .int (zI (0))), (1, .ref q1), (0, .ref o)] dX6_spelled_9 rfl (by decide) rfl ?_
  refine zr_room (3002 - 16) (6200 - 2 * 16) (by omega) (by omega) ?_
  have loop : ∀ (N : Nat) (V1 : zV) (k : Int) (cap : Nat), zSB Γ V1 q1 k cap ∧ zfr V V1 ∧ 0 ≤ k ∧ k ≤ m ∧ 16 ≤ cap ∧ cap ≤ 900 → (m - k).toNat = N → zG C V1 (3002 - cap) (6200 - 2 * cap) 10 [(2, .int (zI (k))), (1, .ref q1), (0, .ref o)] [] := by
    intro N
    induction N using Nat.strongRecOn with
    | _ N ih =>
    intro V1 k cap hI hN
    obtain ⟨hI1, hI2, hI3, hI4, hI5, hI6⟩ := id hI
    have hT1 := hT.fr ho hr hI2 (by omega)
    refine zr_iload_n X 11 0 dX6_spelled_10 rfl rfl ?_
    refine zr_aload_n X 12 2 dX6_spelled_11 rfl rfl ?_
    refine zr_txSize X 15 hT1 gX6_spelled_X5_size_u165X5 gX6_spelled_X2_size_u165X2 (by decide) (Nat.le_of_ble_eq_true rfl) dX6_spelled_12 rfl ?_
    refine zr_icmp_ge X 35 18 dX6_spelled_15 rfl rfl (by omega) (by omega) (fun bq8 => ?_) (fun bq8 => ?_)
    · refine zr_aload_n X 36 1 dX6_spelled_35 rfl rfl ?_
      have hp11r := hI1.rg
      refine zr_callVe (kc' := 3002 - cap - 2) (ks' := 6200 - 2 * cap - ((k).toNat + 4)) X 39 0 (zsb_str l Γ hI1) gX6_spelled_J4_toString_0e30d rfl (by decide +kernel) rfl (by decide) hI1.cl rfl rfl (Nat.le_of_ble_eq_true rfl) dX6_spelled_36 rfl (by omega) (by omega) (fun rv9 V10 hp11 => ?_)
      obtain ⟨hp11z, hp11e, hp11n, hp11f⟩ := hp11
      rw [hp11e]
      have ff12 := zag.tr (P := fun t => t ≠ 7) hI2 hp11f
      show zG C V10 (3002 - cap - 2) (6200 - 2 * cap - ((k).toNat + 4)) 39 [(2, .int (zI (k))), (1, .ref q1), (0, .ref o)] [.ref hp11z]
      exact zr_aret X rfl (Or.inl ⟨_, rfl⟩) ⟨_, rfl, ff12⟩ dX6_spelled_39
    · refine zr_aload_n X 19 1 dX6_spelled_18 rfl rfl ?_
      refine zr_aload_n X 20 2 dX6_spelled_19 rfl rfl ?_
      refine zr_iload_n X 21 0 dX6_spelled_20 rfl rfl ?_
      refine zr_txAt X 24 hT1 (by omega) gX6_spelled_X5_at_u334X5 gX6_spelled_X2_at_u334X2 (by decide) (Nat.le_of_ble_eq_true rfl) dX6_spelled_21 rfl ?_
      rw [if_pos (show 0 ≤ k ∧ k < m by omega)]
      have hx13 := hTr.2.2 k
      show zG C V1 (3002 - cap) (6200 - 2 * cap) 24 [(2, .int (zI (k))), (1, .ref q1), (0, .ref o)] [.int (zI (h' k)), .ref q1]
      refine zr_i2cI X 25 dX6_spelled_24 rfl (by omega) ?_
      have gr17r := hI1.rg
      obtain ⟨gr17p, gr17c, gr17k, gr17⟩ := zgrow1w k cap (by omega)
      refine zr_callVe (kc' := 3002 - cap - gr17c) (ks' := 6200 - 2 * cap - gr17k) X 28 1 (zsb_app_c l Γ hI1 (x := (h' k)) (by omega) gr17) gX6_spelled_J4_append_cf468 rfl (by decide +kernel) rfl (by decide) hI1.cl rfl rfl (Nat.le_of_ble_eq_true rfl) dX6_spelled_25 rfl (by omega) (by omega) (fun rv14 V15 hp16 => ?_)
      obtain ⟨hp16e, hp16b, hp16f⟩ := hp16
      rw [hp16e]
      have gr17s := hp16b.rg
      have ff18 := zag.tr (P := fun t => t ≠ 7) hI2 hp16f
      show zG C V15 (3002 - cap - gr17c) (6200 - 2 * cap - gr17k) 28 [(2, .int (zI (k))), (1, .ref q1), (0, .ref o)] [.ref q1]
      refine zr_pop X 29 dX6_spelled_28 rfl rfl ?_
      refine zr_iinc X 32 0 [(2, .int (zI (k + 1))), (1, .ref q1), (0, .ref o)] dX6_spelled_29 rfl rfl (by decide) rfl ?_
      refine zr_goto X 10 dX6_spelled_32 rfl ?_
      refine zr_room (3002 - gr17p) (6200 - 2 * gr17p) (by omega) (by omega) ?_
      exact ih _ (by omega) V15 (k + 1) gr17p ⟨hp16b, ff18, by omega, by omega, by omega, by omega⟩ rfl
  exact loop _ V4 0 16 ⟨hp5b, ff7, by omega, by omega, by omega, by omega⟩ rfl
set_option maxRecDepth 100000 in
set_option maxHeartbeats 4000000 in
theorem m_X6_pipe (l : Launch) (hlt : l.stackTraces = false) (Γ : zGam) {V : zV} {ad : Nat → Nat} {σ : Nat → Int} {q : Int} (hS : zS Γ V ad σ) (hq : -2147483648 ≤ q ∧ q ≤ 2147483647) : zN l Γ 8 yX6_pipe wsX6_pipe 1 6 V [.ref (ad 1), .int (zI (q))] (fun rv V' => ∃ (y : Int) (σ' : Nat → Int), rv = some (.int (zI y)) ∧ zS Γ V' ad σ' ∧ zfx V V' ∧ ((1 ≤ q ∧ q ≤ 8) ∧ y = σ 27 ∧ σ' = zdn (zpi σ q 0 0 0))) (fun E V' => V' = V ∧ ((E = zIO ∧ False) ∨ (E = zIA ∧ ¬ (1 ≤ q ∧ q ≤ 8)))) := by
  have w0 : Cond.fieldLink RX6 30 "Sashwords" "line" "LSashwords$Pipe;" ∈ wsX6_pipe := by decide +kernel
  have iX6 : ∀ w ∈ u_ws RX6 TX6 14, w ∈ wsX6_pipe := by decide +kernel
  have iX1 : ∀ w ∈ u_ws RX1 TX1 4, w ∈ wsX6_pipe := by decide +kernel
  refine zN_of (cc := cX6_pipe) (nL := 3) (ret := (some .int)) (own := RX6) hlt (by decide +kernel) rfl rfl (Nat.le_of_ble_eq_true rfl) (fun C X Y => ?_)
  have hx1 : V (ad 1) = some (1, .inr (7, [.ref (ad 2), .ref (ad 20), .ref (ad 22), .ref (ad 24), .ref (ad 16), .ref (ad 31), .ref (ad 33), .ref (ad 35), .ref (ad 40), .ref (ad 45), .int (zI (σ 30)), .int (zI (σ 31)), .int (zI (σ 32)), .int (zI (σ 33))])) := hS.1
  show zG C V 1 6 0 [(0, .ref (ad 1)), (1, .int (zI (q)))] []
  refine zr_iload_n X 1 1 dX6_pipe_0 rfl rfl ?_
  refine zr_iconst X 2 dX6_pipe_1 rfl ?_
  refine zr_bipush X 4 (8) dX6_pipe_2 rfl (by decide) ?_
  refine zr_callSN (kc' := 1 - 1) (ks' := 6 - 6) X Y 7 3 (m_X6_requireWithin l hlt Γ (V := V) (x := q) (a := 1) (b := 8) (by omega) (by omega) (by omega)) gX6_pipe_X6_requireWithin rfl (by decide +kernel) rfl (by decide) rfl (Nat.le_of_ble_eq_true rfl) dX6_pipe_4 rfl (by omega) (by omega) (fun E W hX => ⟨hX.2.2, Or.inr ⟨hX.1, by have := hX.2.1; omega⟩⟩) (fun rv2 V3 hp4 => ?_)
  obtain ⟨hp4a, hp4b, hp4c⟩ := hp4
  rw [hp4b, hp4c]
  show zG C V (1 - 1) (6 - 6) 7 [(0, .ref (ad 1)), (1, .int (zI (q)))] []
  refine zr_aload_n X 8 0 dX6_pipe_7 rfl rfl ?_
  refine zr_get X 11 7 3 hx1 rfl iX6 (by decide) w0 rfl rfl dX6_pipe_8 rfl ?_
  refine zr_getN X 14 3 0 0 hS.2.2.2.2.2.1.1 rfl iX1 (by decide) rfl rfl rfl dX6_pipe_11 rfl ?_
  refine zr_callVe (kc' := (1 - 1)) (ks' := (6 - 6)) X 17 0 (f_size l Γ hS.2.2.2.2.2.1.2.1) gX6_pipe_X2_size rfl (by decide +kernel) rfl (by decide) hS.2.2.2.2.2.1.2.1.cl rfl rfl (Nat.le_of_ble_eq_true rfl) dX6_pipe_14 rfl (by omega) (by omega) (fun rv5 V6 hp7 => ?_)
  rw [hp7.1, hp7.2]
  have hp7r := hS.2.2.2.2.2.1.2.1.rg
  show zG C V (1 - 1) (6 - 6) 17 [(0, .ref (ad 1)), (1, .int (zI (q)))] [.int (zI (σ 27))]
  refine zr_istore_n X 18 [(2, .int (zI (σ 27))), (0, .ref (ad 1)), (1, .int (zI (q)))] dX6_pipe_17 rfl (by decide) rfl ?_
  refine zr_aload_n X 19 1 dX6_pipe_18 rfl rfl ?_
  refine zr_get X 22 7 3 hx1 rfl iX6 (by decide) w0 rfl rfl dX6_pipe_19 rfl ?_
  refine zr_iload_n X 23 2 dX6_pipe_22 rfl rfl ?_
  refine zr_callVe (kc' := (1 - 1)) (ks' := (6 - 6)) X 26 1 (h_makeNew l Γ hS (w := q) (by omega)) gX6_pipe_X1_makeNew rfl (by decide +kernel) rfl (by decide) hS.pcl rfl rfl (Nat.le_of_ble_eq_true rfl) dX6_pipe_23 rfl (by omega) (by omega) (fun rv8 V9 hp10 => ?_)
  obtain ⟨hp10e, hp10s, hp10x⟩ := hp10
  rw [hp10e]
  have hp10g := hp10x
  obtain ⟨σ11, σ11e⟩ : ∃ zz9 : Nat → Int, zz9 = zpi σ q 0 0 0 := ⟨_, rfl⟩
  rw [← σ11e] at hp10s
  have hx12 : V9 (ad 1) = some (1, .inr (7, [.ref (ad 2), .ref (ad 20), .ref (ad 22), .ref (ad 24), .ref (ad 16), .ref (ad 31), .ref (ad 33), .ref (ad 35), .ref (ad 40), .ref (ad 45), .int (zI (σ11 30)), .int (zI (σ11 31)), .int (zI (σ11 32)), .int (zI (σ11 33))])) := hp10s.1
  show zG C V9 (1 - 1) (6 - 6) 26 [(2, .int (zI (σ 27))), (0, .ref (ad 1)), (1, .int (zI (q)))] []
  refine zr_aload_n X 27 1 dX6_pipe_26 rfl rfl ?_
  refine zr_iload_n X 28 0 dX6_pipe_27 rfl rfl ?_
  refine zr_callVe (kc' := (1 - 1)) (ks' := (6 - 6)) X 31 1 (m_X6_done l Γ hp10s) gX6_pipe_X6_done rfl (by decide +kernel) rfl (by decide) hp10s.x rfl rfl (Nat.le_of_ble_eq_true rfl) dX6_pipe_28 rfl (by omega) (by omega) (fun rv13 V14 hp15 => ?_)
  obtain ⟨hp15e, hS16, fx17⟩ := hp15
  rw [hp15e]
  obtain ⟨σ18, σ18e⟩ : ∃ zz9 : Nat → Int, zz9 = zdn σ11 := ⟨_, rfl⟩
  rw [← σ18e] at hS16
  have fx19 := zag.tr hp10x fx17
  have hx20 : V14 (ad 1) = some (1, .inr (7, [.ref (ad 2), .ref (ad 20), .ref (ad 22), .ref (ad 24), .ref (ad 16), .ref (ad 31), .ref (ad 33), .ref (ad 35), .ref (ad 40), .ref (ad 45), .int (zI (σ18 30)), .int (zI (σ18 31)), .int (zI (σ18 32)), .int (zI (σ18 33))])) := hS16.1
  show zG C V14 (1 - 1) (6 - 6) 31 [(2, .int (zI (σ 27))), (0, .ref (ad 1)), (1, .int (zI (q)))] [.int (zI (σ 27))]
  exact zr_iret X rfl ⟨σ 27, σ18, rfl, hS16, fx19, ⟨by omega, rfl, by rw [σ18e, σ11e]⟩⟩ dX6_pipe_31
set_option maxRecDepth 100000 in
set_option maxHeartbeats 4000000 in
theorem m_X6_feed (l : Launch) (hlt : l.stackTraces = false) (Γ : zGam) {V : zV} {ad : Nat → Nat} {σ : Nat → Int} {x n : Int} (hS : zS Γ V ad σ) (hx : -2147483648 ≤ x ∧ x ≤ 2147483647) (hn : -2147483648 ≤ n ∧ n ≤ 2147483647) : zN l Γ 9 yX6_feed wsX6_feed 2 12 V [.ref (ad 1), .int (zI (x)), .int (zI (n))] (fun rv V' => ∃ (y : Int) (σ' : Nat → Int), rv = some (.int (zI y)) ∧ zS Γ V' ad σ' ∧ zfx V V' ∧ ((0 ≤ x ∧ 0 ≤ n ∧ n ≤ 20) ∧ (0 ≤ y ∧ y ≤ n ∧ (y = n ∨ σ 27 + y = σ 26 ∨ σ 28 + y = 160)) ∧ σ' = zdn (zpi σ (σ 26) (σ 27 + y) (σ 28 + y) (σ 29)))) (fun E V' => V' = V ∧ ((E = zIO ∧ False) ∨ (E = zIA ∧ ¬ (0 ≤ x ∧ 0 ≤ n ∧ n ≤ 20)))) := by
  have w0 : Cond.fieldLink RX6 30 "Sashwords" "line" "LSashwords$Pipe;" ∈ wsX6_feed := by decide +kernel
  have iX6 : ∀ w ∈ u_ws RX6 TX6 14, w ∈ wsX6_feed := by decide +kernel
  refine zN_of (cc := cX6_feed) (nL := 5) (ret := (some .int)) (own := RX6) hlt (by decide +kernel) rfl rfl (Nat.le_of_ble_eq_true rfl) (fun C X Y => ?_)
  have hx1 : V (ad 1) = some (1, .inr (7, [.ref (ad 2), .ref (ad 20), .ref (ad 22), .ref (ad 24), .ref (ad 16), .ref (ad 31), .ref (ad 33), .ref (ad 35), .ref (ad 40), .ref (ad 45), .int (zI (σ 30)), .int (zI (σ 31)), .int (zI (σ 32)), .int (zI (σ 33))])) := hS.1
  show zG C V 2 12 0 [(0, .ref (ad 1)), (1, .int (zI (x))), (2, .int (zI (n)))] []
  refine zr_iload_n X 1 1 dX6_feed_0 rfl rfl ?_
  refine zr_iload_n X 2 2 dX6_feed_1 rfl rfl ?_
  refine zr_callSN (kc' := 2 - 2) (ks' := 12 - 12) X Y 5 2 (m_X6_requireLetters l hlt Γ (V := V) (x := x) (k := n) (by omega) (by omega)) gX6_feed_X6_requireLetters rfl (by decide +kernel) rfl (by decide) rfl (Nat.le_of_ble_eq_true rfl) dX6_feed_2 rfl (by omega) (by omega) (fun E W hX => ⟨hX.2.2, Or.inr ⟨hX.1, by have := hX.2.1; omega⟩⟩) (fun rv2 V3 hp4 => ?_)
  obtain ⟨hp4a, hp4b, hp4c⟩ := hp4
  rw [hp4b, hp4c]
  show zG C V (2 - 2) (12 - 12) 5 [(0, .ref (ad 1)), (1, .int (zI (x))), (2, .int (zI (n)))] []
  refine zr_iload_n X 6 1 dX6_feed_5 rfl rfl ?_
  refine zr_istore_n X 7 [(3, .int (zI (x))), (0, .ref (ad 1)), (1, .int (zI (x))), (2, .int (zI (n)))] dX6_feed_6 rfl (by decide) rfl ?_
  refine zr_iconst X 8 dX6_feed_7 rfl ?_
  refine zr_istore X 10 [(4, .int (zI (0))), (3, .int (zI (x))), (0, .ref (ad 1)), (1, .int (zI (x))), (2, .int (zI (n)))] dX6_feed_8 rfl (by decide) rfl ?_
  refine zr_sub [0, 1, 4, 3, 2] [(4, .int (zI (0))), (3, .int (zI (x))), (2, .int (zI (n))), (1, .int (zI (x))), (0, .ref (ad 1))] rfl ?_
  have loop : ∀ (N : Nat) (V1 : zV) (σ1 : Nat → Int) (k : Int) (x1 : Int), zS Γ V1 ad σ1 ∧ zfx V V1 ∧ σ1 = zpi σ (σ 26) (σ 27 + k) (σ 28 + k) (σ 29) ∧ 0 ≤ k ∧ k ≤ n ∧ 0 ≤ x1 ∧ x1 ≤ 2147483647 → (n - k).toNat = N → zG C V1 (2 - 2) (12 - 12) 10 [(4, .int (zI (k))), (3, .int (zI (x1))), (2, .int (zI (n))), (1, .int (zI (x))), (0, .ref (ad 1))] [] := by
    intro N
    induction N using Nat.strongRecOn with
    | _ N ih =>
    intro V1 σ1 k x1 hI hN
    obtain ⟨hI1, hI2, hI3, hI4, hI5, hI6, hI7⟩ := id hI
    have hx5 : V1 (ad 1) = some (1, .inr (7, [.ref (ad 2), .ref (ad 20), .ref (ad 22), .ref (ad 24), .ref (ad 16), .ref (ad 31), .ref (ad 33), .ref (ad 35), .ref (ad 40), .ref (ad 45), .int (zI (σ1 30)), .int (zI (σ1 31)), .int (zI (σ1 32)), .int (zI (σ1 33))])) := hI1.1
    have e26 : σ1 26 = σ 26 := by rw [hI3]; rfl
    have e27 : σ1 27 = σ 27 + k := by rw [hI3]; rfl
    have e28 : σ1 28 = σ 28 + k := by rw [hI3]; rfl
    have e29 : σ1 29 = σ 29 := by rw [hI3]; rfl
    have hpr := hI1.prg
    refine zr_iload X 12 0 dX6_feed_10 rfl rfl ?_
    refine zr_iload_n X 13 2 dX6_feed_12 rfl rfl ?_
    refine zr_icmp_ge X 40 16 dX6_feed_13 rfl rfl (by omega) (by omega) (fun bq6 => ?_) (fun bq6 => ?_)
    · refine zr_aload_n X 41 4 dX6_feed_40 rfl rfl ?_
      refine zr_iload X 43 0 dX6_feed_41 rfl rfl ?_
      refine zr_callVe (kc' := (2 - 2)) (ks' := (12 - 12)) X 46 1 (m_X6_done l Γ hI1) gX6_feed_X6_done rfl (by decide +kernel) rfl (by decide) hI1.x rfl rfl (Nat.le_of_ble_eq_true rfl) dX6_feed_43 rfl (by omega) (by omega) (fun rv7 V8 hp9 => ?_)
      obtain ⟨hp9e, hS10, fx11⟩ := hp9
      rw [hp9e]
      obtain ⟨σ12, σ12e⟩ : ∃ zz9 : Nat → Int, zz9 = zdn σ1 := ⟨_, rfl⟩
      rw [← σ12e] at hS10
      have fx13 := zag.tr hI2 fx11
      have hx14 : V8 (ad 1) = some (1, .inr (7, [.ref (ad 2), .ref (ad 20), .ref (ad 22), .ref (ad 24), .ref (ad 16), .ref (ad 31), .ref (ad 33), .ref (ad 35), .ref (ad 40), .ref (ad 45), .int (zI (σ12 30)), .int (zI (σ12 31)), .int (zI (σ12 32)), .int (zI (σ12 33))])) := hS10.1
      show zG C V8 (2 - 2) (12 - 12) 46 [(4, .int (zI (k))), (3, .int (zI (x1))), (2, .int (zI (n))), (1, .int (zI (x))), (0, .ref (ad 1))] [.int (zI (k))]
      exact zr_iret X rfl ⟨k, σ12, rfl, hS10, fx13, ⟨by omega, by omega, by rw [σ12e, hI3]⟩⟩ dX6_feed_46
    · refine zr_aload_n X 17 4 dX6_feed_16 rfl rfl ?_
      refine zr_get X 20 7 3 hx5 rfl iX6 (by decide) w0 rfl rfl dX6_feed_17 rfl ?_
      refine zr_iload_n X 21 1 dX6_feed_20 rfl rfl ?_
      refine zr_callS (kc' := (2 - 2)) (ks' := (12 - 12)) X 24 1 (m_X6_lowestLetter l Γ (V := V1) (x := x1) (by omega)) gX6_feed_X6_lowestLetter rfl (by decide +kernel) rfl (by decide) rfl (Nat.le_of_ble_eq_true rfl) dX6_feed_21 rfl (by omega) (by omega) (fun rv15 V16 hp17 => ?_)
      rw [hp17.1, hp17.2]
      show zG C V1 (2 - 2) (12 - 12) 24 [(4, .int (zI (k))), (3, .int (zI (x1))), (2, .int (zI (n))), (1, .int (zI (x))), (0, .ref (ad 1))] [.int (zI (97 + x1 % 3)), .ref (ad 24)]
      have pr19 := hI1.prg
      by_cases ty18 : σ1 27 < σ1 26 ∧ σ1 28 < 160
      · skip
        refine zr_callVe (kc' := (2 - 2)) (ks' := (12 - 12)) X 27 1 (h_takeIn_y l Γ hI1 (x := 97 + x1 % 3) (by omega) ty18) gX6_feed_X1_takeIn rfl (by decide +kernel) rfl (by decide) hI1.pcl rfl rfl (Nat.le_of_ble_eq_true rfl) dX6_feed_24 rfl (by omega) (by omega) (fun rv20 V21 hp22 => ?_)
        obtain ⟨hp22e, hp22s, hp22x, hp22g⟩ := hp22
        rw [hp22e]
        obtain ⟨σ23, σ23e⟩ : ∃ zz9 : Nat → Int, zz9 = zpi σ1 (σ1 26) (σ1 27 + 1) (σ1 28 + 1) (σ1 29) := ⟨_, rfl⟩
        rw [← σ23e] at hp22s
        have fx24 := zag.tr hI2 hp22x
        have hx25 : V21 (ad 1) = some (1, .inr (7, [.ref (ad 2), .ref (ad 20), .ref (ad 22), .ref (ad 24), .ref (ad 16), .ref (ad 31), .ref (ad 33), .ref (ad 35), .ref (ad 40), .ref (ad 45), .int (zI (σ23 30)), .int (zI (σ23 31)), .int (zI (σ23 32)), .int (zI (σ23 33))])) := hp22s.1
        show zG C V21 (2 - 2) (12 - 12) 27 [(4, .int (zI (k))), (3, .int (zI (x1))), (2, .int (zI (n))), (1, .int (zI (x))), (0, .ref (ad 1))] [.int (zI (1))]
        refine zr_if_eq X 40 30 dX6_feed_27 rfl rfl (by omega) (fun bq26 => absurd bq26 (by omega)) (fun bq26 => ?_)
        refine zr_iload_n X 31 1 dX6_feed_30 rfl rfl ?_
        refine zr_iconst X 32 dX6_feed_31 rfl ?_
        refine zr_idiv X 33 dX6_feed_32 rfl (by omega) (by omega) ?_
        refine zr_istore_n X 34 [(3, .int (zI (x1 / 3))), (4, .int (zI (k))), (2, .int (zI (n))), (1, .int (zI (x))), (0, .ref (ad 1))] dX6_feed_33 rfl (by decide) rfl ?_
        refine zr_iinc X 37 1 [(4, .int (zI (k + 1))), (3, .int (zI (x1 / 3))), (2, .int (zI (n))), (1, .int (zI (x))), (0, .ref (ad 1))] dX6_feed_34 rfl rfl (by decide) rfl ?_
        refine zr_goto X 10 dX6_feed_37 rfl ?_
        exact ih _ (by omega) V21 σ23 (k + 1) (x1 / 3) ⟨hp22s, fx24, by rw [σ23e, e26, e27, e28, e29, hI3, zpi_zpi, Int.add_assoc, Int.add_assoc], by omega, by omega, by omega, by omega⟩ rfl
      · skip
        refine zr_callVe (kc' := (2 - 2)) (ks' := (12 - 12)) X 27 1 (h_takeIn_n l Γ hI1 (x := 97 + x1 % 3) ty18) gX6_feed_X1_takeIn rfl (by decide +kernel) rfl (by decide) hI1.pcl rfl rfl (Nat.le_of_ble_eq_true rfl) dX6_feed_24 rfl (by omega) (by omega) (fun rv27 V28 hp29 => ?_)
        rw [hp29.1, hp29.2]
        show zG C V1 (2 - 2) (12 - 12) 27 [(4, .int (zI (k))), (3, .int (zI (x1))), (2, .int (zI (n))), (1, .int (zI (x))), (0, .ref (ad 1))] [.int (zI (0))]
        refine zr_if_eq X 40 30 dX6_feed_27 rfl rfl (by omega) (fun bq30 => ?_) (fun bq30 => absurd bq30 (by omega))
        refine zr_aload_n X 41 4 dX6_feed_40 rfl rfl ?_
        refine zr_iload X 43 0 dX6_feed_41 rfl rfl ?_
        refine zr_callVe (kc' := (2 - 2)) (ks' := (12 - 12)) X 46 1 (m_X6_done l Γ hI1) gX6_feed_X6_done rfl (by decide +kernel) rfl (by decide) hI1.x rfl rfl (Nat.le_of_ble_eq_true rfl) dX6_feed_43 rfl (by omega) (by omega) (fun rv31 V32 hp33 => ?_)
        obtain ⟨hp33e, hS34, fx35⟩ := hp33
        rw [hp33e]
        obtain ⟨σ36, σ36e⟩ : ∃ zz9 : Nat → Int, zz9 = zdn σ1 := ⟨_, rfl⟩
        rw [← σ36e] at hS34
        have fx37 := zag.tr hI2 fx35
        have hx38 : V32 (ad 1) = some (1, .inr (7, [.ref (ad 2), .ref (ad 20), .ref (ad 22), .ref (ad 24), .ref (ad 16), .ref (ad 31), .ref (ad 33), .ref (ad 35), .ref (ad 40), .ref (ad 45), .int (zI (σ36 30)), .int (zI (σ36 31)), .int (zI (σ36 32)), .int (zI (σ36 33))])) := hS34.1
        show zG C V32 (2 - 2) (12 - 12) 46 [(4, .int (zI (k))), (3, .int (zI (x1))), (2, .int (zI (n))), (1, .int (zI (x))), (0, .ref (ad 1))] [.int (zI (k))]
        exact zr_iret X rfl ⟨k, σ36, rfl, hS34, fx37, ⟨by omega, by omega, by rw [σ36e, hI3]⟩⟩ dX6_feed_46
  exact loop _ V σ 0 x ⟨hS, zag.rf, by rw [Int.add_zero, Int.add_zero, zpi_id], by omega, by omega, by omega, by omega⟩ rfl
set_option maxRecDepth 100000 in
set_option maxHeartbeats 4000000 in
theorem m_X6_letOut (l : Launch) (Γ : zGam) {V : zV} {ad : Nat → Nat} {σ : Nat → Int} {b cap capm : Nat} {n cnt kk : Int} (hS : zS Γ V ad σ) (hB : zSB Γ V b cnt cap) (hn : 0 ≤ n ∧ n ≤ 8) (hcp : 16 ≤ cap ∧ cap ≤ 1400) (hkk : (n ≤ σ 27 ∧ kk = n) ∨ (σ 27 < n ∧ kk = σ 27)) (hcm : (cnt + kk ≤ cap ∧ capm = cap) ∨ ((cap : Int) < cnt + kk ∧ capm = 2 * cap + 2)) : zM l Γ 9 yX6_letOut wsX6_letOut (capm - cap) (2 * (capm - cap)) V [.ref (ad 1), .int (zI (n)), .ref b] (fun rv V' => rv = none ∧ ∃ (σ' : Nat → Int), zS Γ V' ad σ' ∧ zfx V V' ∧ σ' = zpi σ (σ 26) (σ 27 - kk) (σ 28) (σ 29 + kk) ∧ zSB Γ V' b (cnt + kk) capm) := by
  have hBr := hB.rg
  have hpr0 := hS.prg
  have w0 : Cond.fieldLink RX6 30 "Sashwords" "line" "LSashwords$Pipe;" ∈ wsX6_letOut := by decide +kernel
  have iX6 : ∀ w ∈ u_ws RX6 TX6 14, w ∈ wsX6_letOut := by decide +kernel
  have iX1 : ∀ w ∈ u_ws RX1 TX1 4, w ∈ wsX6_letOut := by decide +kernel
  refine zM_of (cc := cX6_letOut) (nL := 4) (ret := none) (own := RX6) (by decide +kernel) rfl rfl (Nat.le_of_ble_eq_true rfl) (fun C X hi0 => ?_)
  have hx1 : V (ad 1) = some (1, .inr (7, [.ref (ad 2), .ref (ad 20), .ref (ad 22), .ref (ad 24), .ref (ad 16), .ref (ad 31), .ref (ad 33), .ref (ad 35), .ref (ad 40), .ref (ad 45), .int (zI (σ 30)), .int (zI (σ 31)), .int (zI (σ 32)), .int (zI (σ 33))])) := hS.1
  show zG C V (capm - cap) (2 * (capm - cap)) 0 [(0, .ref (ad 1)), (1, .int (zI (n))), (2, .ref b)] []
  refine zr_iconst X 1 dX6_letOut_0 rfl ?_
  refine zr_istore_n X 2 [(3, .int (zI (0))), (0, .ref (ad 1)), (1, .int (zI (n))), (2, .ref b)] dX6_letOut_1 rfl (by decide) rfl ?_
  refine zr_room (capm - cap) (2 * (capm - cap)) (by omega) (by omega) ?_
  refine zr_sub [0, 3, 2, 1] [(3, .int (zI (0))), (2, .ref b), (1, .int (zI (n))), (0, .ref (ad 1))] rfl ?_
  have loop : ∀ (N : Nat) (V1 : zV) (σ1 : Nat → Int) (k : Int) (cap1 : Nat), zS Γ V1 ad σ1 ∧ zfx V V1 ∧ σ1 = zpi σ (σ 26) (σ 27 - k) (σ 28) (σ 29 + k) ∧ zSB Γ V1 b (cnt + k) cap1 ∧ 0 ≤ k ∧ (k ≤ n ∨ k = 0) ∧ k ≤ σ 27 ∧ (cap1 = cap ∨ (cap1 = capm ∧ (cap : Int) < cnt + k)) → (8 - k).toNat = N → zG C V1 (capm - cap1) (2 * (capm - cap1)) 2 [(3, .int (zI (k))), (2, .ref b), (1, .int (zI (n))), (0, .ref (ad 1))] [] := by
    intro N
    induction N using Nat.strongRecOn with
    | _ N ih =>
    intro V1 σ1 k cap1 hI hN
    obtain ⟨hI1, hI2, hI3, hI4, hI5, hI6, hI7, hI8⟩ := id hI
    have hx2 : V1 (ad 1) = some (1, .inr (7, [.ref (ad 2), .ref (ad 20), .ref (ad 22), .ref (ad 24), .ref (ad 16), .ref (ad 31), .ref (ad 33), .ref (ad 35), .ref (ad 40), .ref (ad 45), .int (zI (σ1 30)), .int (zI (σ1 31)), .int (zI (σ1 32)), .int (zI (σ1 33))])) := hI1.1
    have e26 : σ1 26 = σ 26 := by rw [hI3]; rfl
    have e27 : σ1 27 = σ 27 - k := by rw [hI3]; rfl
    have e28 : σ1 28 = σ 28 := by rw [hI3]; rfl
    have e29 : σ1 29 = σ 29 + k := by rw [hI3]; rfl
    have hpr := hI1.prg
    have hbr1 := hI4.rg
    refine zr_iload_n X 3 0 dX6_letOut_2 rfl rfl ?_
    refine zr_iload_n X 4 2 dX6_letOut_3 rfl rfl ?_
    refine zr_icmp_ge X 39 7 dX6_letOut_4 rfl rfl (by omega) (by omega) (fun bq3 => ?_) (fun bq3 => ?_)
    · exact zr_vret X rfl ⟨rfl, σ1, hI1, hI2, by rw [hI3, show k = kk by omega], by rw [show kk = k by omega, show capm = cap1 by omega]; exact hI4⟩ dX6_letOut_39
    · refine zr_aload_n X 8 3 dX6_letOut_7 rfl rfl ?_
      refine zr_get X 11 7 3 hx2 rfl iX6 (by decide) w0 rfl rfl dX6_letOut_8 rfl ?_
      refine zr_getN X 14 3 0 0 hI1.2.2.2.2.2.1.1 rfl iX1 (by decide) rfl rfl rfl dX6_letOut_11 rfl ?_
      refine zr_callVe (kc' := capm - cap1) (ks' := 2 * (capm - cap1)) X 17 0 (f_size l Γ hI1.2.2.2.2.2.1.2.1) gX6_letOut_X2_size rfl (by decide +kernel) rfl (by decide) hI1.2.2.2.2.2.1.2.1.cl rfl rfl (Nat.le_of_ble_eq_true rfl) dX6_letOut_14 rfl (by omega) (by omega) (fun rv4 V5 hp6 => ?_)
      rw [hp6.1, hp6.2]
      have hp6r := hI1.2.2.2.2.2.1.2.1.rg
      show zG C V1 (capm - cap1) (2 * (capm - cap1)) 17 [(3, .int (zI (k))), (2, .ref b), (1, .int (zI (n))), (0, .ref (ad 1))] [.int (zI (σ1 27))]
      refine zr_if_le X 39 20 dX6_letOut_17 rfl rfl (by omega) (fun bq7 => ?_) (fun bq7 => ?_)
      · exact zr_vret X rfl ⟨rfl, σ1, hI1, hI2, by rw [hI3, show k = kk by omega], by rw [show kk = k by omega, show capm = cap1 by omega]; exact hI4⟩ dX6_letOut_39
      · refine zr_aload_n X 21 1 dX6_letOut_20 rfl rfl ?_
        refine zr_aload_n X 22 3 dX6_letOut_21 rfl rfl ?_
        refine zr_get X 25 7 3 hx2 rfl iX6 (by decide) w0 rfl rfl dX6_letOut_22 rfl ?_
        refine zr_callVe (kc' := capm - cap1) (ks' := 2 * (capm - cap1)) X 28 0 (h_giveOut l Γ hI1 (by omega)) gX6_letOut_X1_giveOut rfl (by decide +kernel) rfl (by decide) hI1.pcl rfl rfl (Nat.le_of_ble_eq_true rfl) dX6_letOut_25 rfl (by omega) (by omega) (fun rv8 V9 hp10 => ?_)
        obtain ⟨⟨hp10v, hp10e, hp10a, hp10b⟩, hp10s, hp10x, hp10g⟩ := hp10
        rw [hp10e]
        have hb11 := hI4.kept hp10g (by omega)
        obtain ⟨σ12, σ12e⟩ : ∃ zz9 : Nat → Int, zz9 = zpi σ1 (σ1 26) (σ1 27 - 1) (σ1 28) (σ1 29 + 1) := ⟨_, rfl⟩
        rw [← σ12e] at hp10s
        have fx13 := zag.tr hI2 hp10x
        have hx14 : V9 (ad 1) = some (1, .inr (7, [.ref (ad 2), .ref (ad 20), .ref (ad 22), .ref (ad 24), .ref (ad 16), .ref (ad 31), .ref (ad 33), .ref (ad 35), .ref (ad 40), .ref (ad 45), .int (zI (σ12 30)), .int (zI (σ12 31)), .int (zI (σ12 32)), .int (zI (σ12 33))])) := hp10s.1
        show zG C V9 (capm - cap1) (2 * (capm - cap1)) 28 [(3, .int (zI (k))), (2, .ref b), (1, .int (zI (n))), (0, .ref (ad 1))] [.int (zI (hp10v)), .ref b]
        refine zr_i2cI X 29 dX6_letOut_28 rfl (by omega) ?_
        have gr18r := hb11.rg
        obtain ⟨gr18p, gr18c, gr18k, gr18⟩ := zgrow1w (cnt + k) cap1 (by omega)
        refine zr_callVe (kc' := capm - cap1 - gr18c) (ks' := 2 * (capm - cap1) - gr18k) X 32 1 (zsb_app_c l Γ hb11 (x := hp10v) (by omega) gr18) gX6_letOut_J4_append_cf468 rfl (by decide +kernel) rfl (by decide) hb11.cl rfl rfl (Nat.le_of_ble_eq_true rfl) dX6_letOut_29 rfl (by omega) (by omega) (fun rv15 V16 hp17 => ?_)
        obtain ⟨hp17e, hp17b, hp17f⟩ := hp17
        rw [hp17e]
        have gr18s := hp17b.rg
        obtain ⟨hS19, fx20⟩ := hp10s.fr hp17f
        have fx21 := zag.tr fx13 fx20
        have hx22 : V16 (ad 1) = some (1, .inr (7, [.ref (ad 2), .ref (ad 20), .ref (ad 22), .ref (ad 24), .ref (ad 16), .ref (ad 31), .ref (ad 33), .ref (ad 35), .ref (ad 40), .ref (ad 45), .int (zI (σ12 30)), .int (zI (σ12 31)), .int (zI (σ12 32)), .int (zI (σ12 33))])) := hS19.1
        show zG C V16 (capm - cap1 - gr18c) (2 * (capm - cap1) - gr18k) 32 [(3, .int (zI (k))), (2, .ref b), (1, .int (zI (n))), (0, .ref (ad 1))] [.ref b]
        refine zr_pop X 33 dX6_letOut_32 rfl rfl ?_
        refine zr_iinc X 36 0 [(3, .int (zI (k + 1))), (2, .ref b), (1, .int (zI (n))), (0, .ref (ad 1))] dX6_letOut_33 rfl rfl (by decide) rfl ?_
        refine zr_goto X 2 dX6_letOut_36 rfl ?_
        refine zr_room (capm - gr18p) (2 * (capm - gr18p)) (by omega) (by omega) ?_
        have hb23 := hp17b
        rw [Int.add_assoc] at hb23
        exact ih _ (by omega) V16 σ12 (k + 1) gr18p ⟨hS19, fx21, by rw [σ12e, e26, e27, e28, e29, hI3, zpi_zpi, Int.sub_sub, Int.add_assoc], hb23, by omega, by omega, by omega, by omega⟩ rfl
  exact loop _ V σ 0 cap ⟨hS, zag.rf, by rw [Int.sub_zero, Int.add_zero, zpi_id], by rw [Int.add_zero]; exact hB, by omega, by omega, by omega, by omega⟩ rfl
theorem zlesser (a b : Int) : ∃ k : Int, (a ≤ b ∧ k = a) ∨ (b < a ∧ k = b) := by
  by_cases h : a ≤ b
  · exact ⟨a, Or.inl ⟨h, rfl⟩⟩
  · exact ⟨b, Or.inr ⟨by omega, rfl⟩⟩
theorem zgrowk (cnt k : Int) (cap : Nat) : ∃ capm : Nat, (cnt + k ≤ cap ∧ capm = cap) ∨ ((cap : Int) < cnt + k ∧ capm = 2 * cap + 2) := by
  by_cases c : cnt + k ≤ cap
  · exact ⟨cap, Or.inl ⟨c, rfl⟩⟩
  · exact ⟨2 * cap + 2, Or.inr ⟨by omega, rfl⟩⟩
set_option maxRecDepth 100000 in
set_option maxHeartbeats 4000000 in
theorem m_X6_drain (l : Launch) (hlt : l.stackTraces = false) (Γ : zGam) {V : zV} {ad : Nat → Nat} {σ : Nat → Int} {q : Int} (hS : zS Γ V ad σ) (hq : -2147483648 ≤ q ∧ q ≤ 2147483647) : zN l Γ 10 yX6_drain wsX6_drain 3010 6300 V [.ref (ad 1), .int (zI (q))] (fun rv V' => ∃ (z : Nat) (σ' : Nat → Int), rv = some (.ref z) ∧ zS Γ V' ad σ' ∧ zfx V V' ∧ ((0 ≤ q ∧ q ≤ 8) ∧ ∃ k : Int, 0 ≤ k ∧ k ≤ q ∧ (k = q ∨ k = σ 27) ∧ σ' = zdn (zpi σ (σ 26) (σ 27 - k) (σ 28) (σ 29 + k)))) (fun E V' => V' = V ∧ ((E = zIO ∧ False) ∨ (E = zIA ∧ ¬ (0 ≤ q ∧ q ≤ 8)))) := by
  have w0 : Cond.classLink RX6 113 RJ4 ∈ wsX6_drain := by decide +kernel
  have w1 : Cond.instantiable RJ4 4 ∈ wsX6_drain := by decide +kernel
  have w2 : Cond.initialized RJ4 ∈ wsX6_drain := by decide +kernel
  have iJ4 : ∀ w ∈ u_ws RJ4 TJ4 4, w ∈ wsX6_drain := by decide +kernel
  have w4 : Cond.initialized yJ4_init_da8c8.cls ∈ wsX6_drain := by decide +kernel
  have w5 : Cond.methodLink RX6 115 yJ4_init_da8c8 ∈ wsX6_drain := by decide +kernel
  have w6 : Cond.instanceMethod yJ4_init_da8c8 ∈ wsX6_drain := by decide +kernel
  refine zN_of (cc := cX6_drain) (nL := 3) (ret := (some (.object "java/lang/String"))) (own := RX6) hlt (by decide +kernel) rfl rfl (Nat.le_of_ble_eq_true rfl) (fun C X Y => ?_)
  have hx1 : V (ad 1) = some (1, .inr (7, [.ref (ad 2), .ref (ad 20), .ref (ad 22), .ref (ad 24), .ref (ad 16), .ref (ad 31), .ref (ad 33), .ref (ad 35), .ref (ad 40), .ref (ad 45), .int (zI (σ 30)), .int (zI (σ 31)), .int (zI (σ 32)), .int (zI (σ 33))])) := hS.1
  show zG C V 3010 6300 0 [(0, .ref (ad 1)), (1, .int (zI (q)))] []
  refine zr_iload_n X 1 1 dX6_drain_0 rfl rfl ?_
  refine zr_iconst X 2 dX6_drain_1 rfl ?_
  refine zr_bipush X 4 (8) dX6_drain_2 rfl (by decide) ?_
  refine zr_callSN (kc' := 3010 - 1) (ks' := 6300 - 6) X Y 7 3 (m_X6_requireWithin l hlt Γ (V := V) (x := q) (a := 0) (b := 8) (by omega) (by omega) (by omega)) gX6_drain_X6_requireWithin rfl (by decide +kernel) rfl (by decide) rfl (Nat.le_of_ble_eq_true rfl) dX6_drain_4 rfl (by omega) (by omega) (fun E W hX => ⟨hX.2.2, Or.inr ⟨hX.1, by have := hX.2.1; omega⟩⟩) (fun rv2 V3 hp4 => ?_)
  obtain ⟨hp4a, hp4b, hp4c⟩ := hp4
  rw [hp4b, hp4c]
  show zG C V (3010 - 1) (6300 - 6) 7 [(0, .ref (ad 1)), (1, .int (zI (q)))] []
  refine zr_new (kc' := ((3010 - 1) - 1)) (ks' := ((6300 - 6) - 4)) X 10 1 7 [.null, .int (zI (0)), .int (zI (0)), .int (zI (0))] tyJ4 rfl iJ4 tyJ4_ok w0 w1 w2 (zdf_J4) dX6_drain_7 rfl (by omega) (by omega) (fun q5 hq6 => ?_)
  refine zr_dup X 11 dX6_drain_10 rfl rfl ?_
  refine zr_callI (kc' := ((3010 - 1) - 1) - 1) (ks' := ((6300 - 6) - 4) - 16) X 14 0 (m_J4_init_da8c8 l Γ (zu_eq _ _ _ _)) gX6_drain_J4_init_da8c8 rfl w4 w5 w6 rfl (by decide +kernel) rfl (by decide) rfl (Nat.le_of_ble_eq_true rfl) dX6_drain_11 rfl (by omega) (by omega) (fun rv7 V8 hp9 => ?_)
  obtain ⟨hp9e, hp9b, hp9f⟩ := hp9
  rw [hp9e]
  have ff10 : zfr V V8 := zag.tr (P := fun t => t ≠ 7) (zag.rf.new hq6) hp9f
  obtain ⟨hS11, fx12⟩ := hS.fr ff10
  have hx13 : V8 (ad 1) = some (1, .inr (7, [.ref (ad 2), .ref (ad 20), .ref (ad 22), .ref (ad 24), .ref (ad 16), .ref (ad 31), .ref (ad 33), .ref (ad 35), .ref (ad 40), .ref (ad 45), .int (zI (σ 30)), .int (zI (σ 31)), .int (zI (σ 32)), .int (zI (σ 33))])) := hS11.1
  show zG C V8 (((3010 - 1) - 1) - 1) (((6300 - 6) - 4) - 16) 14 [(0, .ref (ad 1)), (1, .int (zI (q)))] [.ref q5]
  refine zr_astore_n X 15 [(2, .ref q5), (0, .ref (ad 1)), (1, .int (zI (q)))] dX6_drain_14 rfl (by decide) rfl ?_
  refine zr_aload_n X 16 1 dX6_drain_15 rfl rfl ?_
  refine zr_iload_n X 17 2 dX6_drain_16 rfl rfl ?_
  refine zr_aload_n X 18 0 dX6_drain_17 rfl rfl ?_
  have hp16p := hS11.prg
  have hp16r := hp9b.rg
  obtain ⟨cm17k, cm17kh⟩ := zlesser q (σ 27)
  obtain ⟨cm17, cm17h⟩ := zgrowk (0) cm17k 16
  refine zr_callVe (kc' := (((3010 - 1) - 1) - 1) - (cm17 - 16)) (ks' := (((6300 - 6) - 4) - 16) - 2 * (cm17 - 16)) X 21 2 (m_X6_letOut l Γ (n := q) hS11 hp9b (by omega) (by omega) cm17kh cm17h) gX6_drain_X6_letOut rfl (by decide +kernel) rfl (by decide) hS11.x rfl rfl (Nat.le_of_ble_eq_true rfl) dX6_drain_18 rfl (by omega) (by omega) (fun rv14 V15 hp16 => ?_)
  obtain ⟨hp16e, hp16σ, hp16s, hp16x, hp16q, hp16b⟩ := hp16
  rw [hp16e]
  have fx18 := zag.tr fx12 hp16x
  have hx19 : V15 (ad 1) = some (1, .inr (7, [.ref (ad 2), .ref (ad 20), .ref (ad 22), .ref (ad 24), .ref (ad 16), .ref (ad 31), .ref (ad 33), .ref (ad 35), .ref (ad 40), .ref (ad 45), .int (zI (hp16σ 30)), .int (zI (hp16σ 31)), .int (zI (hp16σ 32)), .int (zI (hp16σ 33))])) := hp16s.1
  show zG C V15 ((((3010 - 1) - 1) - 1) - (cm17 - 16)) ((((6300 - 6) - 4) - 16) - 2 * (cm17 - 16)) 21 [(2, .ref q5), (0, .ref (ad 1)), (1, .int (zI (q)))] []
  refine zr_aload_n X 22 1 dX6_drain_21 rfl rfl ?_
  refine zr_aload_n X 23 0 dX6_drain_22 rfl rfl ?_
  have hp22r := hp16b.rg
  refine zr_callVe (kc' := ((((3010 - 1) - 1) - 1) - (cm17 - 16)) - 2) (ks' := ((((6300 - 6) - 4) - 16) - 2 * (cm17 - 16)) - ((0 + cm17k).toNat + 4)) X 26 0 (zsb_str l Γ hp16b) gX6_drain_J4_toString_0e30d rfl (by decide +kernel) rfl (by decide) hp16b.cl rfl rfl (Nat.le_of_ble_eq_true rfl) dX6_drain_23 rfl (by omega) (by omega) (fun rv20 V21 hp22 => ?_)
  obtain ⟨hp22z, hp22e, hp22n, hp22f⟩ := hp22
  rw [hp22e]
  obtain ⟨hS23, fx24⟩ := hp16s.fr hp22f
  have fx25 := zag.tr fx18 fx24
  have hx26 : V21 (ad 1) = some (1, .inr (7, [.ref (ad 2), .ref (ad 20), .ref (ad 22), .ref (ad 24), .ref (ad 16), .ref (ad 31), .ref (ad 33), .ref (ad 35), .ref (ad 40), .ref (ad 45), .int (zI (hp16σ 30)), .int (zI (hp16σ 31)), .int (zI (hp16σ 32)), .int (zI (hp16σ 33))])) := hS23.1
  show zG C V21 (((((3010 - 1) - 1) - 1) - (cm17 - 16)) - 2) (((((6300 - 6) - 4) - 16) - 2 * (cm17 - 16)) - ((0 + cm17k).toNat + 4)) 26 [(2, .ref q5), (0, .ref (ad 1)), (1, .int (zI (q)))] [.ref hp22z, .ref (ad 1)]
  refine zr_callVe (kc' := (((((3010 - 1) - 1) - 1) - (cm17 - 16)) - 2)) (ks' := (((((6300 - 6) - 4) - 16) - 2 * (cm17 - 16)) - ((0 + cm17k).toNat + 4))) X 29 1 (m_X6_done_ l Γ (y := hp22z) hS23) gX6_drain_X6_done_ rfl (by decide +kernel) rfl (by decide) hS23.x rfl rfl (Nat.le_of_ble_eq_true rfl) dX6_drain_26 rfl (by omega) (by omega) (fun rv27 V28 hp29 => ?_)
  obtain ⟨hp29e, hS30, fx31⟩ := hp29
  rw [hp29e]
  obtain ⟨σ32, σ32e⟩ : ∃ zz9 : Nat → Int, zz9 = zdn hp16σ := ⟨_, rfl⟩
  rw [← σ32e] at hS30
  have fx33 := zag.tr fx25 fx31
  have hx34 : V28 (ad 1) = some (1, .inr (7, [.ref (ad 2), .ref (ad 20), .ref (ad 22), .ref (ad 24), .ref (ad 16), .ref (ad 31), .ref (ad 33), .ref (ad 35), .ref (ad 40), .ref (ad 45), .int (zI (σ32 30)), .int (zI (σ32 31)), .int (zI (σ32 32)), .int (zI (σ32 33))])) := hS30.1
  show zG C V28 (((((3010 - 1) - 1) - 1) - (cm17 - 16)) - 2) (((((6300 - 6) - 4) - 16) - 2 * (cm17 - 16)) - ((0 + cm17k).toNat + 4)) 29 [(2, .ref q5), (0, .ref (ad 1)), (1, .int (zI (q)))] [.ref hp22z]
  exact zr_aret X rfl (Or.inl ⟨_, rfl⟩) ⟨_, σ32, rfl, hS30, fx33, ⟨by omega, cm17k, by omega, by omega, by omega, by rw [σ32e, hp16q]⟩⟩ dX6_drain_29
end
