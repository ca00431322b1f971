/-! searches: the first n signs of w end the first e signs of t -/
def zpr (w t : Nat → Int) (e n : Nat) : Prop := n ≤ e ∧ ∀ j, j < n → w j = t (e - n + j)
theorem zpr_0 {w t : Nat → Int} {e : Nat} : zpr w t e 0 := ⟨Nat.zero_le _, fun j hj => absurd hj (Nat.not_lt_zero _)⟩
/-- one more sign -/
theorem zpr_succ {w t : Nat → Int} {e n : Nat} : zpr w t (e + 1) (n + 1) ↔ zpr w t e n ∧ w n = t e := by
  constructor
  · intro ⟨h1, h2⟩
    refine ⟨⟨by omega, fun j hj => ?_⟩, ?_⟩
    · have := h2 j (by omega)
      rw [this]
      exact congrArg t (by omega)
    · have := h2 n (by omega)
      rw [this]
      exact congrArg t (by omega)
  · intro ⟨⟨h1, h2⟩, h3⟩
    refine ⟨by omega, fun j hj => ?_⟩
    by_cases c : j < n
    · rw [h2 j c]
      exact congrArg t (by omega)
    · rw [show j = n by omega, h3]
      exact congrArg t (by omega)
/-- a shorter one that ends the same signs ends the longer one -/
theorem zpr_in {w t : Nat → Int} {e n k : Nat} (hn : zpr w t e n) (hk : zpr w t e k) (h : k ≤ n) : zpr w w n k := by
  refine ⟨h, fun j hj => ?_⟩
  rw [hk.2 j hj, hn.2 (n - k + j) (by omega)]
  have := hn.1
  exact congrArg t (by omega)
theorem zpr_tr {w t : Nat → Int} {e n k : Nat} (hn : zpr w t e n) (hk : zpr w w n k) : zpr w t e k := by
  have h1 := hn.1
  have h2 := hk.1
  refine ⟨by omega, fun j hj => ?_⟩
  rw [hk.2 j hj, hn.2 (n - k + j) (by omega)]
  exact congrArg t (by omega)
/-- b is the greatest border of the first n signs -/
def zgb (w : Nat → Int) (n b : Nat) : Prop := (b < n ∨ (n = 0 ∧ b = 0)) ∧ zpr w w n b ∧ ∀ k, k < n → zpr w w n k → k ≤ b
theorem zgb_0 {w : Nat → Int} : zgb w 0 0 := ⟨Or.inr ⟨rfl, rfl⟩, zpr_0, fun k hk => absurd hk (Nat.not_lt_zero _)⟩
theorem zgb_1 {w : Nat → Int} : zgb w 1 0 := ⟨Or.inl (by decide), zpr_0, fun k hk _ => by omega⟩
theorem zgb.uni {w : Nat → Int} {n b c : Nat} (h : zgb w n b) (h' : zgb w n c) : b = c := by
  obtain ⟨a1, a2, a3⟩ := h
  obtain ⟨b1, b2, b3⟩ := h'
  rcases a1 with a1 | ⟨a1, a1'⟩
  · rcases b1 with b1 | ⟨b1, b1'⟩
    · have := a3 c b1 b2
      have := b3 b a1 a2
      omega
    · omega
  · rcases b1 with b1 | ⟨b1, b1'⟩
    · omega
    · omega
/-- M is the greatest number of first signs (at most top) that end the first e signs of t -/
def zgm (w t : Nat → Int) (top e M : Nat) : Prop := M ≤ top ∧ zpr w t e M ∧ ∀ k, k ≤ top → zpr w t e k → k ≤ M
/-- the state of the loop in grown: n is left, all greater ones fell -/
def zgl (w t : Nat → Int) (top e n : Nat) (s : Int) : Prop := n ≤ top ∧ zpr w t e n ∧ ∀ k, n < k → k ≤ top → zpr w t e k → w k ≠ s
theorem zgl.init {w t : Nat → Int} {top e M : Nat} {s : Int} (h : zgm w t top e M) : zgl w t top e M s := ⟨h.1, h.2.1, fun k h1 h2 h3 => absurd (h.2.2 k h2 h3) (by omega)⟩
theorem zgl.step {w t : Nat → Int} {top e n b : Nat} {s : Int} (h : zgl w t top e n s) (hb : zgb w n b) (hn : 0 < n) (hs : w n ≠ s) : zgl w t top e b s ∧ b < n := by
  obtain ⟨h1, h2, h3⟩ := h
  obtain ⟨b1, b2, b3⟩ := hb
  have hbn : b < n := by omega
  refine ⟨⟨by omega, zpr_tr h2 b2, fun k k1 k2 k3 => ?_⟩, hbn⟩
  by_cases c : n < k
  · exact h3 k c k2 k3
  · by_cases c2 : k = n
    · rw [c2]
      exact hs
    · exact absurd (b3 k (by omega) (zpr_in h2 k3 (by omega))) (by omega)
/-- at the end of the loop: it matches, or nothing does -/
theorem zgl.done {w t : Nat → Int} {m e n : Nat} (h : zgl w t m e n (t e)) (hm : w m ≠ t e) (hx : n = 0 ∨ w n = t e) : zgm w t m (e + 1) (if w n = t e then n + 1 else 0) := by
  obtain ⟨h1, h2, h3⟩ := h
  by_cases c : w n = t e
  · rw [if_pos c]
    have hnm : n ≠ m := fun q => hm (q ▸ c)
    refine ⟨by omega, zpr_succ.mpr ⟨h2, c⟩, fun k k1 k2 => ?_⟩
    cases k with
    | zero => omega
    | succ k =>
      obtain ⟨k3, k4⟩ := zpr_succ.mp k2
      by_cases q : n < k
      · exact absurd k4 (h3 k q (by omega) k3)
      · omega
  · rw [if_neg c]
    have n0 : n = 0 := hx.resolve_right c
    refine ⟨Nat.zero_le _, zpr_0, fun k k1 k2 => ?_⟩
    cases k with
    | zero => exact Nat.le_refl _
    | succ k =>
      obtain ⟨k3, k4⟩ := zpr_succ.mp k2
      by_cases q : n < k
      · exact absurd k4 (h3 k q (by omega) k3)
      · have : k = n := by omega
        rw [this] at k4
        exact absurd k4 c
/-- borders of a text: what is matched before sign e is the greatest border of the first e signs -/
theorem zgb_of_zgm {w : Nat → Int} {e M : Nat} (he : 0 < e) (h : zgm w w (e - 1) e M) : zgb w e M := ⟨Or.inl (by have := h.1; omega), h.2.1, fun k k1 k2 => h.2.2 k (by omega) k2⟩
theorem zgb.gm {w : Nat → Int} {e M : Nat} (he : 0 < e) (h : zgb w e M) : zgm w w (e - 1) e M := ⟨by have := h.1; omega, h.2.1, fun k k1 k2 => h.2.2 k (by omega) k2⟩
/-- the loop in grown while borders are measured -/
theorem zgl.bdone {w : Nat → Int} {e n : Nat} (he : 0 < e) (h : zgl w w (e - 1) e n (w e)) (hx : n = 0 ∨ w n = w e) : zgb w (e + 1) (if w n = w e then n + 1 else 0) := by
  obtain ⟨h1, h2, h3⟩ := h
  by_cases c : w n = w e
  · rw [if_pos c]
    refine ⟨Or.inl (by omega), zpr_succ.mpr ⟨h2, c⟩, fun k k1 k2 => ?_⟩
    cases k with
    | zero => omega
    | succ k =>
      obtain ⟨k3, k4⟩ := zpr_succ.mp k2
      by_cases q : n < k
      · exact absurd k4 (h3 k q (by omega) k3)
      · omega
  · rw [if_neg c]
    have n0 : n = 0 := hx.resolve_right c
    refine ⟨Or.inl (by omega), zpr_0, fun k k1 k2 => ?_⟩
    cases k with
    | zero => exact Nat.le_refl _
    | succ k =>
      obtain ⟨k3, k4⟩ := zpr_succ.mp k2
      by_cases q : n < k
      · exact absurd k4 (h3 k q (by omega) k3)
      · have : k = n := by omega
        rw [this] at k4
        exact absurd k4 c
/-- the word (m signs) lies in t at place p -/
abbrev zli (w t : Nat → Int) (m p : Nat) : Prop := ∀ j, j < m → t (p + j) = w j
theorem zli_of {w t : Nat → Int} {m e M : Nat} (h : zgm w t m e M) : (M = m ∧ m ≤ e ∧ zli w t m (e - m)) ∨ (M ≠ m ∧ ¬ (m ≤ e ∧ zli w t m (e - m))) := by
  obtain ⟨h1, h2, h3⟩ := h
  by_cases c : M = m
  · refine Or.inl ⟨c, ?_, fun j hj => ?_⟩
    · rw [← c]
      exact h2.1
    · rw [c] at h2
      exact (h2.2 j hj).symm
  · refine Or.inr ⟨c, fun ⟨q1, q2⟩ => ?_⟩
    have := h3 m (Nat.le_refl _) ⟨q1, fun j hj => (q2 j hj).symm⟩
    omega
/-- how many places below p there are at which the word lies -/
def zno (w t : Nat → Int) (m : Nat) : Nat → Nat
  | 0 => 0
  | p + 1 => zno w t m p + (if zli w t m p then 1 else 0)
theorem zno_in {w t : Nat → Int} {m p : Nat} (h : zli w t m p) : zno w t m (p + 1) = zno w t m p + 1 := by
  show zno w t m p + (if zli w t m p then 1 else 0) = _
  rw [if_pos h]
theorem zno_out {w t : Nat → Int} {m p : Nat} (h : ¬ zli w t m p) : zno w t m (p + 1) = zno w t m p := by
  show zno w t m p + (if zli w t m p then 1 else 0) = _
  rw [if_neg h]
  rfl
theorem zno_le {w t : Nat → Int} {m p : Nat} : zno w t m p ≤ p := by
  induction p with
  | zero => exact Nat.le_refl _
  | succ p ih =>
    by_cases h : zli w t m p
    · rw [zno_in h]
      omega
    · rw [zno_out h]
      omega
theorem zno_mono {w t : Nat → Int} {m p q : Nat} (h : p ≤ q) : zno w t m p ≤ zno w t m q := by
  induction q with
  | zero => rw [show p = 0 by omega]; exact Nat.le_refl _
  | succ q ih =>
    by_cases e : p = q + 1
    · rw [e]
      exact Nat.le_refl _
    · have := ih (by omega)
      by_cases h : zli w t m q
      · rw [zno_in h]
        omega
      · rw [zno_out h]
        omega
/-- y is the place with number k among the places below P -/
def zth (w t : Nat → Int) (m P : Nat) (k y : Int) : Prop := (y = -1 ∧ (k < 0 ∨ (zno w t m P : Int) ≤ k)) ∨ ∃ p : Nat, y = p ∧ p < P ∧ zli w t m p ∧ (zno w t m p : Int) = k
theorem zth.uni {w t : Nat → Int} {m P : Nat} {k y z : Int} (h : zth w t m P k y) (h' : zth w t m P k z) : y = z := by
  have key : ∀ p : Nat, p < P → zli w t m p → (zno w t m p : Int) = k → ¬ (k < 0 ∨ (zno w t m P : Int) ≤ k) := fun p a b c d => by
    have h1 := zno_mono (w := w) (t := t) (m := m) (show p + 1 ≤ P by omega)
    rw [zno_in b] at h1
    omega
  rcases h with ⟨e, a⟩ | ⟨p, e, a, b, c⟩
  · rcases h' with ⟨e', a'⟩ | ⟨p', e', a', b', c'⟩
    · omega
    · exact absurd a (key p' a' b' c')
  · rcases h' with ⟨e', a'⟩ | ⟨p', e', a', b', c'⟩
    · exact absurd a' (key p a b c)
    · rcases Nat.lt_trichotomy p p' with q | q | q
      · have h1 := zno_mono (w := w) (t := t) (m := m) (show p + 1 ≤ p' by omega)
        rw [zno_in b] at h1
        omega
      · omega
      · have h1 := zno_mono (w := w) (t := t) (m := m) (show p' + 1 ≤ p by omega)
        rw [zno_in b'] at h1
        omega
/-- the last place is the one with the greatest number -/
theorem zth_last {w t : Nat → Int} {m P p : Nat} (hp : p < P) (hl : zli w t m p) (hn : ∀ q, p < q → q < P → ¬ zli w t m q) : zth w t m P ((zno w t m P : Int) - 1) p := by
  refine Or.inr ⟨p, rfl, hp, hl, ?_⟩
  have go : ∀ q, p < q → q ≤ P → zno w t m q = zno w t m p + 1 := fun q => by
    induction q with
    | zero => intro a; omega
    | succ q ih =>
      intro a b
      by_cases e : p = q
      · rw [← e]
        exact zno_in hl
      · rw [zno_out (hn q (by omega) (by omega))]
        exact ih (by omega) (by omega)
  rw [go P hp (Nat.le_refl _)]
  omega
theorem zth_none {w t : Nat → Int} {m P : Nat} (hn : ∀ q, q < P → ¬ zli w t m q) : zno w t m P = 0 := by
  have go : ∀ q, q ≤ P → zno w t m q = 0 := fun q => by
    induction q with
    | zero => intro _; rfl
    | succ q ih => intro a; rw [zno_out (hn q (by omega))]; exact ih (by omega)
  exact go P (Nat.le_refl _)
/-- the row of places that were found below P -/
def zfo (w t : Nat → Int) (m P : Nat) (many : Int) (f : Nat → Int) : Prop := many = (zno w t m P : Int) ∧ ∀ p : Nat, p < P → zli w t m p → f (zno w t m p) = p
theorem zfo_0 {w t : Nat → Int} {m : Nat} {f : Nat → Int} : zfo w t m 0 0 f := ⟨rfl, fun p h => absurd h (Nat.not_lt_zero _)⟩
theorem zfo.put {w t : Nat → Int} {m P : Nat} {many : Int} {f f' : Nat → Int} (h : zfo w t m P many f) (hl : zli w t m P) (h1 : f' (zno w t m P) = P) (h2 : ∀ j, j ≠ zno w t m P → f' j = f j) : zfo w t m (P + 1) (many + 1) f' := by
  refine ⟨by rw [zno_in hl, h.1]; omega, fun p hp hq => ?_⟩
  by_cases e : p = P
  · rw [e]
    exact h1
  · have a := zno_mono (w := w) (t := t) (m := m) (show p + 1 ≤ P by omega)
    rw [zno_in hq] at a
    rw [h2 _ (by omega)]
    exact h.2 p (by omega) hq
theorem zfo.skip {w t : Nat → Int} {m P : Nat} {many : Int} {f : Nat → Int} (h : zfo w t m P many f) (hl : ¬ zli w t m P) : zfo w t m (P + 1) many f := by
  refine ⟨by rw [zno_out hl]; exact h.1, fun p hp hq => ?_⟩
  by_cases e : p = P
  · exact absurd (e ▸ hq) hl
  · exact h.2 p (by omega) hq
/-- what is asked of the row is the place with that number -/
theorem zfo.at {w t : Nat → Int} {m P : Nat} {many k : Int} {f : Nat → Int} (h : zfo w t m P many f) (hk : 0 ≤ k ∧ k < many) : zth w t m P k (f k.toNat) := by
  have go : ∀ q, q ≤ P → k < (zno w t m q : Int) → ∃ p, p < q ∧ zli w t m p ∧ (zno w t m p : Int) = k := fun q => by
    induction q with
    | zero => intro _ a; exact absurd (show k < 0 from a) (by omega)
    | succ q ih =>
      intro a b
      by_cases c : k < (zno w t m q : Int)
      · obtain ⟨p, p1, p2, p3⟩ := ih (by omega) c
        exact ⟨p, by omega, p2, p3⟩
      · by_cases d : zli w t m q
        · rw [zno_in d] at b
          exact ⟨q, by omega, d, by omega⟩
        · rw [zno_out d] at b
          exact absurd b c
  obtain ⟨p, p1, p2, p3⟩ := go P (Nat.le_refl _) (by rw [← h.1]; exact hk.2)
  refine Or.inr ⟨p, ?_, p1, p2, p3⟩
  rw [show k.toNat = zno w t m p by omega]
  exact h.2 p p1 p2
/-- one more sign of the text, by the number matched after it -/
theorem zfo.no {w t : Nat → Int} {M i q : Nat} {many : Int} {f : Nat → Int} (h : zfo w t M (i + 1 - M) many f) (hz : zgm w t M (i + 1) q) (hq : q ≠ M) : zfo w t M (i + 1 + 1 - M) many f := by
  rcases zli_of hz with ⟨a, -⟩ | ⟨-, a⟩
  · exact absurd a hq
  · by_cases c : M ≤ i + 1
    · rw [show i + 1 + 1 - M = (i + 1 - M) + 1 by omega]
      exact h.skip (fun b => a ⟨c, b⟩)
    · rw [show i + 1 + 1 - M = i + 1 - M by omega]
      exact h
theorem zfo.yes {w t : Nat → Int} {M i q : Nat} {many x : Int} {f f' : Nat → Int} (h : zfo w t M (i + 1 - M) many f) (hz : zgm w t M (i + 1) q) (hq : q = M) (hx : x = (i : Int) + 1 - (M : Int)) (h1 : f' many.toNat = x) (h2 : ∀ j, j ≠ many.toNat → f' j = f j) : zfo w t M (i + 1 + 1 - M) (many + 1) f' := by
  rcases zli_of hz with ⟨-, c, a⟩ | ⟨a, -⟩
  · rw [show i + 1 + 1 - M = (i + 1 - M) + 1 by omega]
    have e : many.toNat = zno w t M (i + 1 - M) := by rw [h.1]; exact Int.toNat_natCast _
    rw [e] at h1 h2
    exact h.put a (by rw [h1, hx]; omega) h2
  · exact absurd hq a
theorem zfo.le {w t : Nat → Int} {M P : Nat} {many : Int} {f : Nat → Int} (h : zfo w t M P many f) : 0 ≤ many ∧ many ≤ (P : Int) := by
  have := zno_le (w := w) (t := t) (m := M) (p := P)
  have := h.1
  omega
/-- before the first sign of the text -/
theorem zfo.one {w t : Nat → Int} {f f' : Nat → Int} (h1 : f' 0 = 0) (h2 : ∀ j, j ≠ 0 → f' j = f j) : zfo w t 0 1 1 f' :=
  (zfo_0 (w := w) (t := t) (m := 0) (f := f)).put (fun j hj => absurd hj (Nat.not_lt_zero _)) h1 h2
/-- what is asked, in or out of the row -/
theorem zfo.get {w t : Nat → Int} {m P : Nat} {many k : Int} {f : Nat → Int} (h : zfo w t m P many f) : zth w t m P k (if 0 ≤ k ∧ k < many then f k.toNat else -1) := by
  by_cases c : 0 ≤ k ∧ k < many
  · rw [if_pos c]
    exact h.at c
  · rw [if_neg c]
    exact Or.inl ⟨rfl, by rw [← h.1]; omega⟩
theorem zgm_0 {w t : Nat → Int} {M : Nat} : zgm w t M 0 0 := ⟨Nat.zero_le _, zpr_0, fun k _ h => by have := h.1; omega⟩
