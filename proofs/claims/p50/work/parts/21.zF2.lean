/-! contents: builder and kept text -/
theorem zS.setDr {Γ : zGam} {V V' : zV} {ad : Nat → Nat} {σ : Nat → Int} (h : zS Γ V ad σ) {len : Int} (hb : zSs Γ V V' 31 (ad 31) 32 (ad 32) 80 len) : zS Γ V' ad σ ∧ zfx V V' := ⟨(h.c0.setDr hb).1.mk (h.ct.kept hb.2 (fun t ht => by omega)), (h.c0.setDr hb).2⟩
theorem zS.setSd {Γ : zGam} {V V' : zV} {ad : Nat → Nat} {σ : Nat → Int} (h : zS Γ V ad σ) {len : Int} (hb : zSs Γ V V' 33 (ad 33) 34 (ad 34) 80 len) : zS Γ V' ad σ ∧ zfx V V' := ⟨(h.c0.setSd hb).1.mk (h.ct.kept hb.2 (fun t ht => by omega)), (h.c0.setSd hb).2⟩
theorem zS.setF {Γ : zGam} {V V' : zV} {ad : Nat → Nat} {σ : Nat → Int} (h : zS Γ V ad σ) (ha : zag (fun t => ¬ (35 ≤ t ∧ t ≤ 47)) V V') (hf : zSf Γ V' ad) : zS Γ V' ad σ ∧ zfx V V' := ⟨(h.c0.setF ha hf).1.mk (h.ct.kept ha (fun t ht => by omega)), (h.c0.setF ha hf).2⟩
theorem zCw.sig2 {Γ : zGam} {V : zV} {ad : Nat → Nat} {σ σ' : Nat → Int} {rr nn ba : Nat → Nat} (h : zCw Γ V ad σ rr nn ba) (he : ∀ j, (j < 24 ∨ (40 ≤ j ∧ j ≤ 46) ∨ 1000 ≤ j) → σ' j = σ j) : zCw Γ V ad σ' rr nn ba := by
  refine ⟨fun i hi => ?_, h.2⟩
  obtain ⟨st, f, h1, h2, h3, h4, h5, h6, h7, h8⟩ := h.1 i hi
  rw [he _ (by omega), he _ (by omega), he _ (by omega), he _ (by omega), he 46 (by omega), he (40 + i) (by omega)]
  exact ⟨st, f, h1, h2, h3, h4, h5, h6, h7, fun k hk => by rw [he _ (by omega)]; exact h8 k hk⟩
theorem zS.setP {Γ : zGam} {V V' : zV} {ad : Nat → Nat} {σ σ' : Nat → Int} (h : zS Γ V ad σ) (ha : zag (fun t => ¬ (24 ≤ t ∧ t ≤ 30)) V V') (hp : zSp Γ V' ad σ') (he : ∀ j, ¬ (26 ≤ j ∧ j ≤ 29) → ¬ (300 ≤ j ∧ j < 460) → σ' j = σ j) (hs : zCs Γ V' (ad 28) σ') : zS Γ V' ad σ' ∧ zfx V V' := by
  obtain ⟨g1, g2⟩ := h.c0.setP ha hp (fun j h1 h2 => he j h2 (by omega))
  refine ⟨g1.mk ?_, g2⟩
  obtain ⟨⟨⟨rr, nn, ba, w⟩, z, -⟩, b, k⟩ := h.ct
  refine ⟨⟨⟨rr, nn, ba, (w.kept ha (fun i hi => by omega) (by omega)).sig2 (fun j hj => he j (by omega) (by omega))⟩, fun a h4 => ?_, hs⟩, ?_, ?_⟩
  · rw [he 46 (by omega) (by omega)] at h4
    rw [he _ (by omega) (by omega)]
    exact z a h4
  · obtain ⟨f, k1, k0, k2⟩ := b
    rw [he 24 (by omega) (by omega)]
    exact ⟨f, ha _ _ _ k1 (by omega), k0, fun x h8 hx => by rw [he _ (by omega) (by omega)]; exact k2 x h8 hx⟩
  · obtain ⟨f, k1, k0, k2⟩ := k
    rw [he 25 (by omega) (by omega)]
    exact ⟨f, ha _ _ _ k1 (by omega), k0, fun x h8 hx => by rw [he _ (by omega) (by omega)]; exact k2 x h8 hx⟩
/-- signs are laid into a text -/
def zly (σ : Nat → Int) (B n : Nat) (g : Nat → Int) : Nat → Int := fun j => if B ≤ j ∧ j < B + n then g (j - B) else σ j
theorem zly_ne {σ : Nat → Int} {B n : Nat} {g : Nat → Int} {j : Nat} (h : ¬ (B ≤ j ∧ j < B + n)) : zly σ B n g j = σ j := if_neg h
theorem zly_at {σ : Nat → Int} {B n : Nat} {g : Nat → Int} {k : Nat} (h : k < n) : zly σ B n g (B + k) = g k := by
  unfold zly
  rw [if_pos (by omega)]
  congr 1
  omega
/-- a text is turned round -/
def zrt (σ : Nat → Int) (n : Nat) : Nat → Int := fun j => if 100 ≤ j ∧ j < 100 + n then σ (100 + (n - 1 - (j - 100))) else σ j
theorem zS.setB {Γ : zGam} {V V' : zV} {ad : Nat → Nat} {σ σ' : Nat → Int} (h : zS Γ V ad σ) {len : Int} {f' : Nat → Int} (hb : zSs Γ V V' 20 (ad 20) 21 (ad 21) 80 len) (hf : V' (ad 21) = some (21, za Γ.2.1 1 80 f')) (hc : zc f') (h1 : ∀ k : Nat, k < 80 → (k : Int) < len → f' k = σ' (100 + k)) (h2 : σ' 24 = len) (h3 : ∀ j, j ≠ 24 → ¬ (100 ≤ j ∧ j < 100 + 80) → σ' j = σ j) : zS Γ V' ad σ' ∧ zfx V V' := by
  obtain ⟨g1, g2⟩ := h.c0.setB hb
  refine ⟨(g1.sig (fun j hj => ?_)).mk ?_, g2⟩
  · by_cases e : j = 24
    · rw [e, h2, zf_eq]
    · rw [zf_ne e]
      exact h3 j e (by omega)
  · obtain ⟨⟨⟨rr, nn, ba, w⟩, z, sn⟩, b, k⟩ := h.ct
    have ha := hb.2
    refine ⟨⟨⟨rr, nn, ba, (w.kept ha (fun i hi => by omega) (by omega)).sig2 (fun j hj => h3 j (by omega) (by omega))⟩, fun a h4 => ?_, sn.mv ha (by omega) (fun k hk => h3 _ (by omega) (by omega))⟩, ?_, ?_⟩
    · rw [h3 46 (by omega) (by omega)] at h4
      rw [h3 _ (by omega) (by omega)]
      exact z a h4
    · rw [h2]
      exact ⟨f', hf, hc, h1⟩
    · obtain ⟨f, k1, k0, k2⟩ := k
      rw [h3 25 (by omega) (by omega)]
      exact ⟨f, ha _ _ _ k1 (by omega), k0, fun x h8 hx => by rw [h3 _ (by omega) (by omega)]; exact k2 x h8 hx⟩
theorem zS.setK {Γ : zGam} {V V' : zV} {ad : Nat → Nat} {σ σ' : Nat → Int} (h : zS Γ V ad σ) {len : Int} {f' : Nat → Int} (hb : zSs Γ V V' 22 (ad 22) 23 (ad 23) 80 len) (hf : V' (ad 23) = some (23, za Γ.2.1 1 80 f')) (hc : zc f') (h1 : ∀ k : Nat, k < 80 → (k : Int) < len → f' k = σ' (200 + k)) (h2 : σ' 25 = len) (h3 : ∀ j, j ≠ 25 → ¬ (200 ≤ j ∧ j < 200 + 80) → σ' j = σ j) : zS Γ V' ad σ' ∧ zfx V V' := by
  obtain ⟨g1, g2⟩ := h.c0.setK hb
  refine ⟨(g1.sig (fun j hj => ?_)).mk ?_, g2⟩
  · by_cases e : j = 25
    · rw [e, h2, zf_eq]
    · rw [zf_ne e]
      exact h3 j e (by omega)
  · obtain ⟨⟨⟨rr, nn, ba, w⟩, z, sn⟩, b, k⟩ := h.ct
    have ha := hb.2
    refine ⟨⟨⟨rr, nn, ba, (w.kept ha (fun i hi => by omega) (by omega)).sig2 (fun j hj => h3 j (by omega) (by omega))⟩, fun a h4 => ?_, sn.mv ha (by omega) (fun k hk => h3 _ (by omega) (by omega))⟩, ?_, ?_⟩
    · rw [h3 46 (by omega) (by omega)] at h4
      rw [h3 _ (by omega) (by omega)]
      exact z a h4
    · obtain ⟨f, k1, k0, k2⟩ := b
      rw [h3 24 (by omega) (by omega)]
      exact ⟨f, ha _ _ _ k1 (by omega), k0, fun x h8 hx => by rw [h3 _ (by omega) (by omega)]; exact k2 x h8 hx⟩
    · rw [h2]
      exact ⟨f', hf, hc, h1⟩
section ZG2
variable (l0 : Launch) (Γ : zGam) {V : zV} {ad : Nat → Nat} {σ : Nat → Int}
theorem gB_text (hS : zS Γ V ad σ) {o r : Nat} {m : Int} {h' : Int → Int} {q : Int} (hT : zTx Γ V o r m h') (hob : o ≠ ad 20) (hog : o ≠ ad 21) (hrb : r ≠ ad 20) (hrg : r ≠ ad 21) (hm : m ≤ 80) (hg : ∀ k : Nat, (k : Int) < m → h' (k : Int) = zsg σ q k) : zM l0 Γ 5 yX2_becomeText wsX2_becomeText 0 0 V [.ref (ad 20), .ref o] (fun rv V' => rv = none ∧ zS Γ V' ad (zly (zf σ 24 m) 100 m.toNat (zsg σ q)) ∧ zfx V V') := by
  obtain ⟨fz, h1, -, -, h4, h5⟩ := hS.2.2.2.2.1.1
  obtain ⟨f, h2, h3, c2⟩ := hS.ct.2.1
  have hne : ad 20 ≠ ad 21 := zne_tag h1 h2 (by decide)
  have hr := hT.rg
  refine (m_X2_becomeText l0 Γ h1 h2 ⟨h4, h5, by decide⟩ hT hob hog hrb hrg hm h3).imp (fun rv V' hp => ?_)
  obtain ⟨e1, e2⟩ := hp
  refine ⟨e1, hS.setB (len := m) (f' := zap f 0 m h') ?_ ?_ (zap_zc h3 hr.2.2) (fun k h8 hk => ?_) ?_ (fun j j1 j2 => ?_)⟩
  · rw [e2]
    exact zSs.two h1 h2 hne (zap_zc h3 hr.2.2) ⟨hr.1, hm⟩
  · rw [e2, zu_ne (Ne.symm hne)]
    exact zu_eq _ _ _ _
  · rw [zly_at (by omega), ← hg k hk]
    unfold zap
    rw [if_pos (by omega), Int.sub_zero]
  · rw [zly_ne (by omega)]
    exact zf_eq
  · rw [zly_ne (by omega), zf_ne j1]
theorem gK_text (hS : zS Γ V ad σ) {o r : Nat} {m : Int} {h' : Int → Int} {q : Int} (hT : zTx Γ V o r m h') (hob : o ≠ ad 22) (hog : o ≠ ad 23) (hrb : r ≠ ad 22) (hrg : r ≠ ad 23) (hm : m ≤ 80) (hg : ∀ k : Nat, (k : Int) < m → h' (k : Int) = zsg σ q k) : zM l0 Γ 5 yX2_becomeText wsX2_becomeText 0 0 V [.ref (ad 22), .ref o] (fun rv V' => rv = none ∧ zS Γ V' ad (zly (zf σ 25 m) 200 m.toNat (zsg σ q)) ∧ zfx V V') := by
  obtain ⟨fz, h1, -, -, h4, h5⟩ := hS.2.2.2.2.1.2.1
  obtain ⟨f, h2, h3, c2⟩ := hS.ct.2.2
  have hne : ad 22 ≠ ad 23 := zne_tag h1 h2 (by decide)
  have hr := hT.rg
  refine (m_X2_becomeText l0 Γ h1 h2 ⟨h4, h5, by decide⟩ hT hob hog hrb hrg hm h3).imp (fun rv V' hp => ?_)
  obtain ⟨e1, e2⟩ := hp
  refine ⟨e1, hS.setK (len := m) (f' := zap f 0 m h') ?_ ?_ (zap_zc h3 hr.2.2) (fun k h8 hk => ?_) ?_ (fun j j1 j2 => ?_)⟩
  · rw [e2]
    exact zSs.two h1 h2 hne (zap_zc h3 hr.2.2) ⟨hr.1, hm⟩
  · rw [e2, zu_ne (Ne.symm hne)]
    exact zu_eq _ _ _ _
  · rw [zly_at (by omega), ← hg k hk]
    unfold zap
    rw [if_pos (by omega), Int.sub_zero]
  · rw [zly_ne (by omega)]
    exact zf_eq
  · rw [zly_ne (by omega), zf_ne j1]
theorem gB_append (hS : zS Γ V ad σ) {o r : Nat} {m : Int} {h' : Int → Int} {q : Int} (hT : zTx Γ V o r m h') (hob : o ≠ ad 20) (hog : o ≠ ad 21) (hrb : r ≠ ad 20) (hrg : r ≠ ad 21) (hm : σ 24 + m ≤ 80) (hg : ∀ k : Nat, (k : Int) < m → h' (k : Int) = zsg σ q k) : zM l0 Γ 4 yX2_append wsX2_append 0 0 V [.ref (ad 20), .ref o] (fun rv V' => rv = none ∧ zS Γ V' ad (zly (zf σ 24 (σ 24 + m)) (100 + (σ 24).toNat) m.toNat (zsg σ q)) ∧ zfx V V') := by
  obtain ⟨fz, h1, -, -, h4, h5⟩ := hS.2.2.2.2.1.1
  obtain ⟨f, h2, h3, c2⟩ := hS.ct.2.1
  have hne : ad 20 ≠ ad 21 := zne_tag h1 h2 (by decide)
  have hr := hT.rg
  refine (m_X2_append l0 Γ h1 h2 ⟨h4, h5, by decide⟩ hT hob hog hrb hrg hm h3).imp (fun rv V' hp => ?_)
  obtain ⟨e1, e2⟩ := hp
  refine ⟨e1, hS.setB (len := σ 24 + m) (f' := zap f (σ 24) m h') ?_ ?_ (zap_zc h3 hr.2.2) (fun k h8 hk => ?_) ?_ (fun j j1 j2 => ?_)⟩
  · rw [e2]
    exact zSs.two h1 h2 hne (zap_zc h3 hr.2.2) ⟨by omega, hm⟩
  · rw [e2, zu_ne (Ne.symm hne)]
    exact zu_eq _ _ _ _
  · by_cases c : k < (σ 24).toNat
    · rw [zly_ne (by omega), zf_ne (by omega), ← c2 k h8 (by omega)]
      unfold zap
      rw [if_neg (by omega)]
    · have e : 100 + k = 100 + (σ 24).toNat + (k - (σ 24).toNat) := by omega
      rw [e, zly_at (by omega), ← hg _ (by omega)]
      unfold zap
      rw [if_pos (by omega)]
      congr 1
      omega
  · rw [zly_ne (by omega)]
    exact zf_eq
  · rw [zly_ne (by omega), zf_ne j1]
theorem gB_append_eq (hS : zS Γ V ad σ) (hm : σ 24 + σ 24 ≤ 80) : zM l0 Γ 4 yX2_append wsX2_append 0 0 V [.ref (ad 20), .ref (ad 20)] (fun rv V' => rv = none ∧ zS Γ V' ad (zly (zf σ 24 (σ 24 + σ 24)) (100 + (σ 24).toNat) (σ 24).toNat (zsg σ 6)) ∧ zfx V V') := by
  obtain ⟨fz, h1, -, -, h4, h5⟩ := hS.2.2.2.2.1.1
  obtain ⟨f, h2, h3, c2⟩ := hS.ct.2.1
  have hne : ad 20 ≠ ad 21 := zne_tag h1 h2 (by decide)
  refine (m_X2_append_eq l0 Γ h1 h2 ⟨h4, h5, by decide⟩ hm h3).imp (fun rv V' hp => ?_)
  obtain ⟨e1, e2⟩ := hp
  refine ⟨e1, hS.setB (len := σ 24 + σ 24) (f' := zap f (σ 24) (σ 24) (fun j => f j.toNat)) ?_ ?_ (zap_zc h3 (fun j => h3 _)) (fun k h8 hk => ?_) ?_ (fun j j1 j2 => ?_)⟩
  · rw [e2]
    exact zSs.two h1 h2 hne (zap_zc h3 (fun j => h3 _)) ⟨by omega, hm⟩
  · rw [e2, zu_ne (Ne.symm hne)]
    exact zu_eq _ _ _ _
  · by_cases c : k < (σ 24).toNat
    · rw [zly_ne (by omega), zf_ne (by omega), ← c2 k h8 (by omega)]
      unfold zap
      rw [if_neg (by omega)]
    · have e : 100 + k = 100 + (σ 24).toNat + (k - (σ 24).toNat) := by omega
      have e6 : zsg σ 6 (k - (σ 24).toNat) = σ (100 + (k - (σ 24).toNat)) := by
        unfold zsg
        rw [if_neg (by decide), if_pos rfl]
      rw [e, zly_at (by omega), e6, ← c2 _ (by omega) (by omega)]
      unfold zap
      rw [if_pos (by omega)]
      show f _ = f _
      congr 1
      omega
  · rw [zly_ne (by omega)]
    exact zf_eq
  · rw [zly_ne (by omega), zf_ne j1]
theorem gB_turn (hS : zS Γ V ad σ) : zM l0 Γ 2 yX2_turnRound wsX2_turnRound 0 0 V [.ref (ad 20)] (fun rv V' => rv = none ∧ zS Γ V' ad (zrt σ (σ 24).toNat) ∧ zfx V V') := by
  obtain ⟨fz, h1, -, -, h4, h5⟩ := hS.2.2.2.2.1.1
  obtain ⟨f, h2, h3, c2⟩ := hS.ct.2.1
  have hne : ad 20 ≠ ad 21 := zne_tag h1 h2 (by decide)
  refine (m_X2_turnRound l0 Γ h1 h2 ⟨h4, h5, by decide⟩ h3).imp (fun rv V' hp => ?_)
  obtain ⟨e1, e2⟩ := hp
  refine ⟨e1, hS.setB (len := σ 24) (f' := zrv f (σ 24) (σ 24 / 2)) ?_ ?_ (zrv_zc h3) (fun k h8 hk => ?_) ?_ (fun j j1 j2 => ?_)⟩
  · rw [e2]
    exact zSs.row h1 h2 hne (zrv_zc h3) ⟨h4, h5⟩
  · rw [e2]
    exact zu_eq _ _ _ _
  · rw [zrv_end rfl hk, c2 _ (by omega) (by omega)]
    unfold zrt
    rw [if_pos (by omega)]
    congr 1
    omega
  · unfold zrt
    rw [if_neg (by omega)]
  · unfold zrt
    rw [if_neg (by omega)]
theorem gB_exch (hS : zS Γ V ad σ) {p x : Int} (hx : 0 ≤ x ∧ x ≤ 255) (hp : 0 ≤ p ∧ p < σ 24) : zM l0 Γ 1 yX2_exchange wsX2_exchange 0 0 V [.ref (ad 20), .int (zI p), .int (zI x)] (fun rv V' => rv = some (.int (zI (σ (100 + p.toNat)))) ∧ zS Γ V' ad (zf σ (100 + p.toNat) x) ∧ zfx V V') := by
  obtain ⟨fz, h1, -, -, h4, h5⟩ := hS.2.2.2.2.1.1
  obtain ⟨f, h2, h3, c2⟩ := hS.ct.2.1
  have hne : ad 20 ≠ ad 21 := zne_tag h1 h2 (by decide)
  refine (m_X2_exchange l0 Γ h1 h2 ⟨h4, h5, by decide⟩ hx hp).imp (fun rv V' hq => ?_)
  obtain ⟨e1, e2⟩ := hq
  refine ⟨?_, hS.setB (len := σ 24) (f' := zf f p.toNat x) ?_ ?_ (zc_zf h3 hx) (fun k h8 hk => ?_) ?_ (fun j j1 j2 => ?_)⟩
  · rw [e1, c2 _ (by omega) (by omega)]
  · rw [e2]
    exact zSs.row h1 h2 hne (zc_zf h3 hx) ⟨h4, h5⟩
  · rw [e2]
    exact zu_eq _ _ _ _
  · unfold zf
    by_cases c : k = p.toNat
    · rw [if_pos c, if_pos (by omega)]
    · rw [if_neg c, if_neg (by omega)]
      exact c2 k h8 hk
  · exact zf_ne (by omega)
  · exact zf_ne (by omega)
end ZG2
