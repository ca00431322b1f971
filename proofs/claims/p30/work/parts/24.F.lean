/-! Script.append of itself -/
set_option maxRecDepth 100000 in
set_option maxHeartbeats 4000000 in
theorem m_X2_append_eq (l : Launch) (Γ : zGam) {V : zV} {b g tb tg n : Nat} {len : Int} {f : Nat → Int} (hb : V b = some (tb, .inr (4, [.ref g, .int (zI len)]))) (hg : V g = some (tg, za Γ.2.1 1 n f)) (hn : 0 ≤ len ∧ len ≤ n ∧ n ≤ 1000) (hm : len + len ≤ n) (hc : zc f) : zM l Γ 4 yX2_append wsX2_append 0 0 V [.ref b, .ref b] (fun rv V' => rv = none ∧ ∃ f', zc f' ∧ V' = zu (zu V g tg (za Γ.2.1 1 n f')) b tb (.inr (4, [.ref g, .int (zI (len + len))]))) := by
  have hbg : b ≠ g := zne_oa hb hg
  refine zM_of (cc := cX2_append) (nL := 4) (ret := none) (own := RX2) (by decide +kernel) rfl rfl (Nat.le_of_ble_eq_true rfl) (fun C X hi0 => ?_)
  show zG C V 0 0 0 [(0, .ref b), (1, .ref b)] []
  refine zr_aload_n X 1 1 dX2_append_0 rfl rfl ?_
  refine zr_txSize X 4 (Or.inr ⟨tb, tg, n, f, hb, hg, by omega, hc, rfl⟩) gX2_append_X5_size_u25X5 gX2_append_X2_size_u25X2 (by decide) (Nat.le_of_ble_eq_true rfl) dX2_append_1 rfl ?_
  refine zr_istore_n X 5 [(2, .int (zI (len))), (0, .ref b), (1, .ref b)] dX2_append_4 rfl (by decide) rfl ?_
  refine zr_iconst X 6 dX2_append_5 rfl ?_
  refine zr_istore_n X 7 [(3, .int (zI (0))), (2, .int (zI (len))), (0, .ref b), (1, .ref b)] dX2_append_6 rfl (by decide) rfl ?_
  refine zr_view (V' := zu (zu V g tg (za Γ.2.1 1 n f)) b tb (.inr (4, [.ref g, .int (zI (len + 0))]))) (by rw [zu_id hg, Int.add_zero, zu_id hb]) ?_
  refine zr_sub [0, 1, 3, 2] [(3, .int (zI (0))), (2, .int (zI (len))), (1, .ref b), (0, .ref b)] rfl ?_
  have loop : ∀ (N : Nat) (f1 : Nat → Int) (k : Int), zc f1 ∧ 0 ≤ k ∧ k ≤ len → (len - k).toNat = N → zG C (zu (zu V g tg (za Γ.2.1 1 n f1)) b tb (.inr (4, [.ref g, .int (zI (len + k))]))) 0 0 7 [(3, .int (zI (k))), (2, .int (zI (len))), (1, .ref b), (0, .ref b)] [] := by
    intro N
    induction N using Nat.strongRecOn with
    | _ N ih =>
    intro f1 k hI hN
    obtain ⟨hI1, hI2, hI3⟩ := id hI
    refine zr_iload_n X 8 0 dX2_append_7 rfl rfl ?_
    refine zr_iload_n X 9 1 dX2_append_8 rfl rfl ?_
    refine zr_icmp_ge X 27 12 dX2_append_9 rfl rfl (by first | with_reducible assumption | decide | omega) (by first | with_reducible assumption | decide | omega) (fun bq1 => ?_) (fun bq1 => ?_)
    · exact zr_vret X rfl ⟨rfl, f1, hI1, by rw [show k = len by omega]⟩ dX2_append_27
    · refine zr_aload_n X 13 3 dX2_append_12 rfl rfl ?_
      refine zr_aload_n X 14 2 dX2_append_13 rfl rfl ?_
      refine zr_iload_n X 15 0 dX2_append_14 rfl rfl ?_
      refine zr_txAt X 18 (Or.inr ⟨tb, tg, n, f1, (zu_eq _ _ _ _), ((zu_ne (Ne.symm (zne_oa hb hg))).trans (zu_eq _ _ _ _)), by omega, hI1, rfl⟩) (by first | with_reducible assumption | decide | omega) gX2_append_X5_at_u29X5 gX2_append_X2_at_u29X2 (by decide) (Nat.le_of_ble_eq_true rfl) dX2_append_15 rfl ?_
      rw [if_pos (show 0 ≤ k ∧ k < len + k by omega)]
      have hx2 := (fun k => hI1 k.toNat) k
      show zG C (zu (zu V g tg (za Γ.2.1 1 n f1)) b tb (.inr (4, [.ref g, .int (zI (len + k))]))) 0 0 18 [(3, .int (zI (k))), (2, .int (zI (len))), (1, .ref b), (0, .ref b)] [.int (zI ((fun k => f1 k.toNat) k)), .ref b]
      refine zr_callV (kc' := 0) (ks' := 0) X 21 1 (m_X2_add l Γ (x := f1 k.toNat) (zu_eq _ _ _ _) ((zu_ne (Ne.symm (zne_oa hb hg))).trans (zu_eq _ _ _ _)) (by first | with_reducible assumption | decide | omega) (hI1 _) (by first | with_reducible assumption | decide | omega)) gX2_append_X2_add rfl (by decide +kernel) rfl (by decide) (zu_eq _ _ _ _) rfl rfl (Nat.le_of_ble_eq_true rfl) dX2_append_18 rfl (by first | with_reducible assumption | decide | omega) (by first | with_reducible assumption | decide | omega) (fun rv3 V4 hp5 => ?_)
      rw [hp5.1, hp5.2]
      show zG C (zu (zu (zu (zu V g tg (za Γ.2.1 1 n f1)) b tb (.inr (4, [.ref g, .int (zI (len + k))]))) g tg (za Γ.2.1 1 n (zf f1 (len + k).toNat (f1 k.toNat)))) b tb (.inr (4, [.ref g, .int (zI (len + k + 1))]))) 0 0 21 [(3, .int (zI (k))), (2, .int (zI (len))), (1, .ref b), (0, .ref b)] []
      refine zr_iinc X 24 0 [(3, .int (zI (k + 1))), (2, .int (zI (len))), (1, .ref b), (0, .ref b)] dX2_append_21 rfl rfl (by decide) rfl ?_
      refine zr_goto X 7 dX2_append_24 rfl ?_
      refine zr_view (V' := (zu (zu V g tg (za Γ.2.1 1 n (zf f1 (len + k).toNat (f1 k.toNat)))) b tb (.inr (4, [.ref g, .int (zI (len + (k + 1)))])))) (by
          funext z
          simp only [zu]
          by_cases e0 : z = g
          · subst e0; simp [hbg, Ne.symm hbg, Int.add_assoc]
          by_cases e1 : z = b
          · subst e1; simp [hbg, Ne.symm hbg, Int.add_assoc]
          simp [e0, e1]) ?_
      exact ih _ (by first | with_reducible assumption | decide | omega) (zf f1 (len + k).toNat (f1 k.toNat)) (k + 1) ⟨zc_zf hI1 (hI1 _), by omega, by omega⟩ rfl
  exact loop _ f 0 ⟨hc, by omega, by omega⟩ rfl
/-! scripts as a whole -/
def zSs (Γ : zGam) (V V' : zV) (tb b tg g n : Nat) (len : Int) : Prop := zSc Γ V' tb b tg g n len ∧ zag (fun t => t ≠ tb ∧ t ≠ tg) V V'
theorem zSc.cl {Γ : zGam} {V : zV} {tb b tg g n : Nat} {len : Int} (h : zSc Γ V tb b tg g n len) : zCl V b 4 := by
  obtain ⟨f, h1, -⟩ := h
  exact ⟨_, _, h1⟩
theorem zSc.rg {Γ : zGam} {V : zV} {tb b tg g n : Nat} {len : Int} (h : zSc Γ V tb b tg g n len) : 0 ≤ len ∧ len ≤ n := by
  obtain ⟨f, h1, h2, h3, h4, h5⟩ := h
  exact ⟨h4, h5⟩
theorem zSs.two {Γ : zGam} {V : zV} {tb b tg g n : Nat} {len : Int} {f f' : Nat → Int} {e0 : va_E} (h1 : V b = some (tb, e0)) (h2 : V g = some (tg, za Γ.2.1 1 n f)) (hne : b ≠ g) (hc : zc f') (hl : 0 ≤ len ∧ len ≤ n) : zSs Γ V (zu (zu V g tg (za Γ.2.1 1 n f')) b tb (.inr (4, [.ref g, .int (zI len)]))) tb b tg g n len :=
  ⟨⟨f', zu_eq _ _ _ _, (zu_ne (Ne.symm hne)).trans (zu_eq _ _ _ _), hc, hl.1, hl.2⟩, (zag.rf.set h2 (fun q => q.2 rfl)).set ((zu_ne hne).trans h1) (fun q => q.1 rfl)⟩
theorem zSs.row {Γ : zGam} {V : zV} {tb b tg g n : Nat} {len : Int} {f f' : Nat → Int} (h1 : V b = some (tb, .inr (4, [.ref g, .int (zI len)]))) (h2 : V g = some (tg, za Γ.2.1 1 n f)) (hne : b ≠ g) (hc : zc f') (hl : 0 ≤ len ∧ len ≤ n) : zSs Γ V (zu V g tg (za Γ.2.1 1 n f')) tb b tg g n len :=
  ⟨⟨f', (zu_ne hne).trans h1, zu_eq _ _ _ _, hc, hl.1, hl.2⟩, zag.rf.set h2 (fun q => q.2 rfl)⟩
theorem zSs.tr {Γ : zGam} {V V' V'' : zV} {tb b tg g n : Nat} {len len' : Int} (h : zSs Γ V V' tb b tg g n len) (h' : zSs Γ V' V'' tb b tg g n len') : zSs Γ V V'' tb b tg g n len' := ⟨h'.1, h.2.tr h'.2⟩
section ZF
variable (l0 : Launch) (Γ : zGam) {V : zV} {tb b tg g n : Nat} {len : Int}
theorem f_size (h : zSc Γ V tb b tg g n len) : zM l0 Γ 0 yX2_size wsX2_size 0 0 V [.ref b] (fun rv V' => rv = some (.int (zI len)) ∧ V' = V) := by
  obtain ⟨f, h1, h2, h3, h4, h5⟩ := h
  exact m_X2_size l0 Γ h1
theorem f_at (h : zSc Γ V tb b tg g n len) (hn : n ≤ 1000) {k : Int} (hk : -2147483648 ≤ k ∧ k ≤ 2147483647) : zM l0 Γ 0 yX2_at wsX2_at 0 0 V [.ref b, .int (zI k)] (fun rv V' => ∃ x : Int, rv = some (.int (zI x)) ∧ V' = V ∧ -9 ≤ x ∧ x ≤ 255 ∧ (0 ≤ k ∧ k < len → 0 ≤ x)) := by
  obtain ⟨f, h1, h2, h3, h4, h5⟩ := h
  refine (m_X2_at l0 Γ h1 h2 ⟨h4, h5, hn⟩ hk).imp (fun rv V' hp => ?_)
  have hf := h3 k.toNat
  refine ⟨_, hp.1, hp.2, ?_⟩
  by_cases c : 0 ≤ k ∧ k < len
  · rw [if_pos c]
    exact ⟨by omega, by omega, fun _ => hf.1⟩
  · rw [if_neg c]
    exact ⟨by omega, by omega, fun q => absurd q c⟩
theorem f_clear (h : zSc Γ V tb b tg g n len) (ht : tb ≠ tg) : zM l0 Γ 0 yX2_clear wsX2_clear 0 0 V [.ref b] (fun rv V' => rv = none ∧ zSs Γ V V' tb b tg g n 0) := by
  obtain ⟨f, h1, h2, h3, h4, h5⟩ := h
  refine (m_X2_clear l0 Γ h1).imp (fun rv V' hp => ⟨hp.1, ?_⟩)
  have k := zSs.two (len := 0) h1 h2 (zne_tag h1 h2 ht) h3 ⟨Int.le_refl _, by omega⟩
  rw [zu_id h2] at k
  rw [hp.2]
  exact k
theorem f_add (h : zSc Γ V tb b tg g n len) (ht : tb ≠ tg) (hn : n ≤ 1000) {x : Int} (hx : 0 ≤ x ∧ x ≤ 255) (hlt : len < n) : zM l0 Γ 0 yX2_add wsX2_add 0 0 V [.ref b, .int (zI x)] (fun rv V' => rv = none ∧ zSs Γ V V' tb b tg g n (len + 1)) := by
  obtain ⟨f, h1, h2, h3, h4, h5⟩ := h
  refine (m_X2_add l0 Γ h1 h2 ⟨h4, h5, hn⟩ hx hlt).imp (fun rv V' hp => ⟨hp.1, ?_⟩)
  rw [hp.2]
  exact zSs.two h1 h2 (zne_tag h1 h2 ht) (zc_zf h3 hx) ⟨by omega, by omega⟩
theorem f_exchange (h : zSc Γ V tb b tg g n len) (ht : tb ≠ tg) (hn : n ≤ 1000) {p x : Int} (hx : 0 ≤ x ∧ x ≤ 255) (hp : 0 ≤ p ∧ p < len) : zM l0 Γ 1 yX2_exchange wsX2_exchange 0 0 V [.ref b, .int (zI p), .int (zI x)] (fun rv V' => ∃ y : Int, rv = some (.int (zI y)) ∧ 0 ≤ y ∧ y ≤ 255 ∧ zSs Γ V V' tb b tg g n len) := by
  obtain ⟨f, h1, h2, h3, h4, h5⟩ := h
  refine (m_X2_exchange l0 Γ h1 h2 ⟨h4, h5, hn⟩ hx hp).imp (fun rv V' hq => ⟨_, hq.1, (h3 _).1, (h3 _).2, ?_⟩)
  rw [hq.2]
  exact zSs.row h1 h2 (zne_tag h1 h2 ht) (zc_zf h3 hx) ⟨h4, h5⟩
theorem f_turn (h : zSc Γ V tb b tg g n len) (ht : tb ≠ tg) (hn : n ≤ 1000) : zM l0 Γ 2 yX2_turnRound wsX2_turnRound 0 0 V [.ref b] (fun rv V' => rv = none ∧ zSs Γ V V' tb b tg g n len) := by
  obtain ⟨f, h1, h2, h3, h4, h5⟩ := h
  refine (m_X2_turnRound l0 Γ h1 h2 ⟨h4, h5, hn⟩ h3).imp (fun rv V' hp => ?_)
  obtain ⟨e1, f', hf, e2⟩ := hp
  rw [e2]
  exact ⟨e1, zSs.row h1 h2 (zne_tag h1 h2 ht) hf ⟨h4, h5⟩⟩
variable {o r : Nat} {m : Int} {h' : Int → Int}
theorem f_append (h : zSc Γ V tb b tg g n len) (ht : tb ≠ tg) (hn : n ≤ 1000) (hT : zTx Γ V o r m h') (hob : o ≠ b) (hog : o ≠ g) (hrb : r ≠ b) (hrg : r ≠ g) (hm : len + m ≤ n) : zM l0 Γ 4 yX2_append wsX2_append 0 0 V [.ref b, .ref o] (fun rv V' => rv = none ∧ zSs Γ V V' tb b tg g n (len + m)) := by
  obtain ⟨f, h1, h2, h3, h4, h5⟩ := h
  have hr := hT.rg
  refine (m_X2_append l0 Γ h1 h2 ⟨h4, h5, hn⟩ hT hob hog hrb hrg hm h3).imp (fun rv V' hp => ?_)
  obtain ⟨e1, f', hf, e2⟩ := hp
  rw [e2]
  exact ⟨e1, zSs.two h1 h2 (zne_tag h1 h2 ht) hf ⟨by omega, hm⟩⟩
theorem f_append_eq (h : zSc Γ V tb b tg g n len) (ht : tb ≠ tg) (hn : n ≤ 1000) (hm : len + len ≤ n) : zM l0 Γ 4 yX2_append wsX2_append 0 0 V [.ref b, .ref b] (fun rv V' => rv = none ∧ zSs Γ V V' tb b tg g n (len + len)) := by
  obtain ⟨f, h1, h2, h3, h4, h5⟩ := h
  refine (m_X2_append_eq l0 Γ h1 h2 ⟨h4, h5, hn⟩ hm h3).imp (fun rv V' hp => ?_)
  obtain ⟨e1, f', hf, e2⟩ := hp
  rw [e2]
  exact ⟨e1, zSs.two h1 h2 (zne_tag h1 h2 ht) hf ⟨by omega, hm⟩⟩
theorem f_becomeText (h : zSc Γ V tb b tg g n len) (ht : tb ≠ tg) (hn : n ≤ 1000) (hT : zTx Γ V o r m h') (hob : o ≠ b) (hog : o ≠ g) (hrb : r ≠ b) (hrg : r ≠ g) (hm : m ≤ n) : zM l0 Γ 5 yX2_becomeText wsX2_becomeText 0 0 V [.ref b, .ref o] (fun rv V' => rv = none ∧ zSs Γ V V' tb b tg g n m) := by
  obtain ⟨f, h1, h2, h3, h4, h5⟩ := h
  have hr := hT.rg
  refine (m_X2_becomeText l0 Γ h1 h2 ⟨h4, h5, hn⟩ hT hob hog hrb hrg hm h3).imp (fun rv V' hp => ?_)
  obtain ⟨e1, f', hf, e2⟩ := hp
  rw [e2]
  exact ⟨e1, zSs.two h1 h2 (zne_tag h1 h2 ht) hf ⟨hr.1, hm⟩⟩
theorem f_becomeText_eq (h : zSc Γ V tb b tg g n len) : zM l0 Γ 5 yX2_becomeText wsX2_becomeText 0 0 V [.ref b, .ref b] (fun rv V' => rv = none ∧ V' = V) := by
  obtain ⟨f, h1, h2, h3, h4, h5⟩ := h
  exact m_X2_becomeText_eq l0 Γ h1
end ZF
/-! the sources' texts; moves of the state -/
theorem zS.txt {Γ : zGam} {V : zV} {ad : Nat → Nat} {σ : Nat → Int} (h : zS Γ V ad σ) {q : Int} (hq : 0 ≤ q ∧ q ≤ 7) : ∃ (r to tr : Nat) (e e' : va_E) (h' : Int → Int), zTx Γ V (zso ad q) r (zsz σ q) h' ∧ V (zso ad q) = some (to, e) ∧ V r = some (tr, e') ∧ ((10 ≤ to ∧ to ≤ 15 ∧ tr = 50 ∧ q < 6) ∨ (to = 20 ∧ tr = 21 ∧ q = 6) ∨ (to = 22 ∧ tr = 23 ∧ q = 7)) ∧ 0 ≤ zsz σ q ∧ zsz σ q ≤ 80 := by
  obtain ⟨a, b, w, d, t, p, f⟩ := h
  by_cases h6 : q < 6
  · obtain ⟨r, n, st, f, h1, h2, h3, h4, h5⟩ := w q.toNat (by first | with_reducible assumption | decide | omega)
    obtain ⟨a1, a2, a3, a4, a5, a6, a7, a8⟩ := id h3
    have e1 : zso ad q = ad (10 + q.toNat) := if_pos h6
    have e2 : zsz σ q = σ (4 * q.toNat + 1) - σ (4 * q.toNat + 2) := if_pos h6
    rw [e1, e2]
    exact ⟨r, _, _, _, _, _, Or.inl ⟨_, _, n, st, _, _, _, _, f, h1, h2, h3, h4, rfl, rfl⟩, h1, h2, Or.inl ⟨by omega, by omega, rfl, h6⟩, by omega, by omega⟩
  · by_cases h7 : q = 6
    · obtain ⟨f, h1, h2, h3, h4, h5⟩ := t.1
      have e1 : zso ad q = ad 20 := by unfold zso; rw [if_neg h6, if_pos h7]
      have e2 : zsz σ q = σ 24 := by unfold zsz; rw [if_neg h6, if_pos h7]
      rw [e1, e2]
      exact ⟨_, _, _, _, _, _, Or.inr ⟨_, _, _, f, h1, h2, ⟨h4, h5, by decide⟩, h3, rfl⟩, h1, h2, Or.inr (Or.inl ⟨rfl, rfl, h7⟩), h4, by omega⟩
    · obtain ⟨f, h1, h2, h3, h4, h5⟩ := t.2.1
      have e1 : zso ad q = ad 22 := by unfold zso; rw [if_neg h6, if_neg h7]
      have e2 : zsz σ q = σ 25 := by unfold zsz; rw [if_neg h6, if_neg h7]
      rw [e1, e2]
      exact ⟨_, _, _, _, _, _, Or.inr ⟨_, _, _, f, h1, h2, ⟨h4, h5, by decide⟩, h3, rfl⟩, h1, h2, Or.inr (Or.inr ⟨rfl, rfl, by omega⟩), h4, by omega⟩
theorem zf_ne {f : Nat → Int} {i j : Nat} {x : Int} (h : j ≠ i) : zf f i x j = f j := if_neg h
theorem zf_eq {f : Nat → Int} {i : Nat} {x : Int} : zf f i x i = x := if_pos rfl
theorem zS.setB {Γ : zGam} {V V' : zV} {ad : Nat → Nat} {σ : Nat → Int} (h : zS Γ V ad σ) {len : Int} (hb : zSs Γ V V' 20 (ad 20) 21 (ad 21) 80 len) : zS Γ V' ad (zf σ 24 len) ∧ zfx V V' := by
  obtain ⟨h1, ha⟩ := hb
  obtain ⟨a, b, w, d, t, p, f⟩ := h
  have e : ∀ j, j ≠ 24 → zf σ 24 len j = σ j := fun j hj => zf_ne hj
  have h5 : z50 Γ V V' := .of ha (by first | with_reducible assumption | decide | omega)
  refine ⟨⟨?_, b.kept ha (by first | with_reducible assumption | decide | omega), ?_, d.kept ha (by first | with_reducible assumption | decide | omega) h5, ⟨by rw [zf_eq]; exact h1, ?_, ?_, ?_⟩, ?_, f.kept ha (fun t h1 h2 => by omega)⟩, ha.mono (fun t ht => by omega)⟩
  · unfold zSx
    rw [e 30 (by first | with_reducible assumption | decide | omega), e 31 (by first | with_reducible assumption | decide | omega), e 32 (by first | with_reducible assumption | decide | omega), e 33 (by first | with_reducible assumption | decide | omega)]
    exact a.kept ha (by first | with_reducible assumption | decide | omega)
  · intro j hj
    rw [e _ (by first | with_reducible assumption | decide | omega), e _ (by first | with_reducible assumption | decide | omega), e _ (by first | with_reducible assumption | decide | omega), e _ (by first | with_reducible assumption | decide | omega)]
    exact (w j hj).row ha (by first | with_reducible assumption | decide | omega) h5
  · rw [e 25 (by first | with_reducible assumption | decide | omega)]
    exact t.2.1.kept ha (by first | with_reducible assumption | decide | omega) (by first | with_reducible assumption | decide | omega)
  · obtain ⟨n, k⟩ := t.2.2.1
    exact ⟨n, k.kept ha (by first | with_reducible assumption | decide | omega) (by first | with_reducible assumption | decide | omega)⟩
  · obtain ⟨n, k⟩ := t.2.2.2
    exact ⟨n, k.kept ha (by first | with_reducible assumption | decide | omega) (by first | with_reducible assumption | decide | omega)⟩
  · unfold zSp
    rw [e 26 (by first | with_reducible assumption | decide | omega), e 27 (by first | with_reducible assumption | decide | omega), e 28 (by first | with_reducible assumption | decide | omega), e 29 (by first | with_reducible assumption | decide | omega)]
    exact p.kept ha (by first | with_reducible assumption | decide | omega) (by first | with_reducible assumption | decide | omega) (by first | with_reducible assumption | decide | omega) (by first | with_reducible assumption | decide | omega) (by first | with_reducible assumption | decide | omega) (by first | with_reducible assumption | decide | omega) (by first | with_reducible assumption | decide | omega)
theorem zS.setK {Γ : zGam} {V V' : zV} {ad : Nat → Nat} {σ : Nat → Int} (h : zS Γ V ad σ) {len : Int} (hb : zSs Γ V V' 22 (ad 22) 23 (ad 23) 80 len) : zS Γ V' ad (zf σ 25 len) ∧ zfx V V' := by
  obtain ⟨h1, ha⟩ := hb
  obtain ⟨a, b, w, d, t, p, f⟩ := h
  have e : ∀ j, j ≠ 25 → zf σ 25 len j = σ j := fun j hj => zf_ne hj
  have h5 : z50 Γ V V' := .of ha (by first | with_reducible assumption | decide | omega)
  refine ⟨⟨?_, b.kept ha (by first | with_reducible assumption | decide | omega), ?_, d.kept ha (by first | with_reducible assumption | decide | omega) h5, ⟨?_, by rw [zf_eq]; exact h1, ?_, ?_⟩, ?_, f.kept ha (fun t h1 h2 => by omega)⟩, ha.mono (fun t ht => by omega)⟩
  · unfold zSx
    rw [e 30 (by first | with_reducible assumption | decide | omega), e 31 (by first | with_reducible assumption | decide | omega), e 32 (by first | with_reducible assumption | decide | omega), e 33 (by first | with_reducible assumption | decide | omega)]
    exact a.kept ha (by first | with_reducible assumption | decide | omega)
  · intro j hj
    rw [e _ (by first | with_reducible assumption | decide | omega), e _ (by first | with_reducible assumption | decide | omega), e _ (by first | with_reducible assumption | decide | omega), e _ (by first | with_reducible assumption | decide | omega)]
    exact (w j hj).row ha (by first | with_reducible assumption | decide | omega) h5
  · rw [e 24 (by first | with_reducible assumption | decide | omega)]
    exact t.1.kept ha (by first | with_reducible assumption | decide | omega) (by first | with_reducible assumption | decide | omega)
  · obtain ⟨n, k⟩ := t.2.2.1
    exact ⟨n, k.kept ha (by first | with_reducible assumption | decide | omega) (by first | with_reducible assumption | decide | omega)⟩
  · obtain ⟨n, k⟩ := t.2.2.2
    exact ⟨n, k.kept ha (by first | with_reducible assumption | decide | omega) (by first | with_reducible assumption | decide | omega)⟩
  · unfold zSp
    rw [e 26 (by first | with_reducible assumption | decide | omega), e 27 (by first | with_reducible assumption | decide | omega), e 28 (by first | with_reducible assumption | decide | omega), e 29 (by first | with_reducible assumption | decide | omega)]
    exact p.kept ha (by first | with_reducible assumption | decide | omega) (by first | with_reducible assumption | decide | omega) (by first | with_reducible assumption | decide | omega) (by first | with_reducible assumption | decide | omega) (by first | with_reducible assumption | decide | omega) (by first | with_reducible assumption | decide | omega) (by first | with_reducible assumption | decide | omega)
theorem zS.setDr {Γ : zGam} {V V' : zV} {ad : Nat → Nat} {σ : Nat → Int} (h : zS Γ V ad σ) {len : Int} (hb : zSs Γ V V' 31 (ad 31) 32 (ad 32) 80 len) : zS Γ V' ad σ ∧ zfx V V' := by
  obtain ⟨h1, ha⟩ := hb
  obtain ⟨a, b, w, d, t, p, f⟩ := h
  have h5 : z50 Γ V V' := .of ha (by first | with_reducible assumption | decide | omega)
  obtain ⟨n, k⟩ := t.2.2.2
  exact ⟨⟨a.kept ha (by first | with_reducible assumption | decide | omega), b.kept ha (by first | with_reducible assumption | decide | omega), w.kept ha (fun i hi => by omega) h5, d.kept ha (by first | with_reducible assumption | decide | omega) h5, ⟨t.1.kept ha (by first | with_reducible assumption | decide | omega) (by first | with_reducible assumption | decide | omega), t.2.1.kept ha (by first | with_reducible assumption | decide | omega) (by first | with_reducible assumption | decide | omega), ⟨len, h1⟩, ⟨n, k.kept ha (by first | with_reducible assumption | decide | omega) (by first | with_reducible assumption | decide | omega)⟩⟩, p.kept ha (by first | with_reducible assumption | decide | omega) (by first | with_reducible assumption | decide | omega) (by first | with_reducible assumption | decide | omega) (by first | with_reducible assumption | decide | omega) (by first | with_reducible assumption | decide | omega) (by first | with_reducible assumption | decide | omega) (by first | with_reducible assumption | decide | omega), f.kept ha (fun t h1 h2 => by omega)⟩, ha.mono (fun t ht => by omega)⟩
theorem zS.setSd {Γ : zGam} {V V' : zV} {ad : Nat → Nat} {σ : Nat → Int} (h : zS Γ V ad σ) {len : Int} (hb : zSs Γ V V' 33 (ad 33) 34 (ad 34) 80 len) : zS Γ V' ad σ ∧ zfx V V' := by
  obtain ⟨h1, ha⟩ := hb
  obtain ⟨a, b, w, d, t, p, f⟩ := h
  have h5 : z50 Γ V V' := .of ha (by first | with_reducible assumption | decide | omega)
  obtain ⟨n, k⟩ := t.2.2.1
  exact ⟨⟨a.kept ha (by first | with_reducible assumption | decide | omega), b.kept ha (by first | with_reducible assumption | decide | omega), w.kept ha (fun i hi => by omega) h5, d.kept ha (by first | with_reducible assumption | decide | omega) h5, ⟨t.1.kept ha (by first | with_reducible assumption | decide | omega) (by first | with_reducible assumption | decide | omega), t.2.1.kept ha (by first | with_reducible assumption | decide | omega) (by first | with_reducible assumption | decide | omega), ⟨n, k.kept ha (by first | with_reducible assumption | decide | omega) (by first | with_reducible assumption | decide | omega)⟩, ⟨len, h1⟩⟩, p.kept ha (by first | with_reducible assumption | decide | omega) (by first | with_reducible assumption | decide | omega) (by first | with_reducible assumption | decide | omega) (by first | with_reducible assumption | decide | omega) (by first | with_reducible assumption | decide | omega) (by first | with_reducible assumption | decide | omega) (by first | with_reducible assumption | decide | omega), f.kept ha (fun t h1 h2 => by omega)⟩, ha.mono (fun t ht => by omega)⟩
/-- the seekers and the table move, nothing else -/
theorem zS.setF {Γ : zGam} {V V' : zV} {ad : Nat → Nat} {σ : Nat → Int} (h : zS Γ V ad σ) (ha : zag (fun t => ¬ (35 ≤ t ∧ t ≤ 47)) V V') (hf : zSf Γ V' ad) : zS Γ V' ad σ ∧ zfx V V' := by
  obtain ⟨a, b, w, d, t, p, f⟩ := h
  have h5 : z50 Γ V V' := .of ha (by first | with_reducible assumption | decide | omega)
  exact ⟨⟨a.kept ha (by first | with_reducible assumption | decide | omega), b.kept ha (by first | with_reducible assumption | decide | omega), w.kept ha (fun i hi => by omega) h5, d.kept ha (by first | with_reducible assumption | decide | omega) h5, t.kept ha (by first | with_reducible assumption | decide | omega) (by first | with_reducible assumption | decide | omega) (by first | with_reducible assumption | decide | omega) (by first | with_reducible assumption | decide | omega) (by first | with_reducible assumption | decide | omega) (by first | with_reducible assumption | decide | omega) (by first | with_reducible assumption | decide | omega) (by first | with_reducible assumption | decide | omega), p.kept ha (by first | with_reducible assumption | decide | omega) (by first | with_reducible assumption | decide | omega) (by first | with_reducible assumption | decide | omega) (by first | with_reducible assumption | decide | omega) (by first | with_reducible assumption | decide | omega) (by first | with_reducible assumption | decide | omega) (by first | with_reducible assumption | decide | omega), hf⟩, ha.mono (fun t ht => by omega)⟩
/-- the pipe moves, nothing else -/
theorem zS.setP {Γ : zGam} {V V' : zV} {ad : Nat → Nat} {σ σ' : Nat → Int} (h : zS Γ V ad σ) (ha : zag (fun t => ¬ (24 ≤ t ∧ t ≤ 30)) V V') (hp : zSp Γ V' ad σ') (he : ∀ j, ¬ (26 ≤ j ∧ j ≤ 29) → σ' j = σ j) : zS Γ V' ad σ' ∧ zfx V V' := by
  obtain ⟨a, b, w, d, t, p, f⟩ := h
  have h5 : z50 Γ V V' := .of ha (by first | with_reducible assumption | decide | omega)
  refine ⟨⟨?_, b.kept ha (by first | with_reducible assumption | decide | omega), ?_, d.kept ha (by first | with_reducible assumption | decide | omega) h5, ?_, hp, f.kept ha (fun t h1 h2 => by omega)⟩, ha.mono (fun t ht => by omega)⟩
  · unfold zSx
    rw [he 30 (by first | with_reducible assumption | decide | omega), he 31 (by first | with_reducible assumption | decide | omega), he 32 (by first | with_reducible assumption | decide | omega), he 33 (by first | with_reducible assumption | decide | omega)]
    exact a.kept ha (by first | with_reducible assumption | decide | omega)
  · intro j hj
    rw [he _ (by first | with_reducible assumption | decide | omega), he _ (by first | with_reducible assumption | decide | omega), he _ (by first | with_reducible assumption | decide | omega), he _ (by first | with_reducible assumption | decide | omega)]
    exact (w j hj).row ha (by first | with_reducible assumption | decide | omega) h5
  · unfold zSt
    rw [he 24 (by first | with_reducible assumption | decide | omega), he 25 (by first | with_reducible assumption | decide | omega)]
    exact t.kept ha (by first | with_reducible assumption | decide | omega) (by first | with_reducible assumption | decide | omega) (by first | with_reducible assumption | decide | omega) (by first | with_reducible assumption | decide | omega) (by first | with_reducible assumption | decide | omega) (by first | with_reducible assumption | decide | omega) (by first | with_reducible assumption | decide | omega) (by first | with_reducible assumption | decide | omega)
