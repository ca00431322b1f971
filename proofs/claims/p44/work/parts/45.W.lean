/-! the law's wrappers -/
def zOut (V : zV) (o : Nat) : Prop := ∃ (n : Int64) (s : Value), V o = some (5, .inr (8, [.long n, s])) ∧ (s = .null ∨ ∃ a, s = .ref a)
theorem zOut.kept {V V' : zV} {Q : Nat → Prop} {o : Nat} (h : zOut V o) (ha : zag Q V V') (hq : Q 5) : zOut V' o := by
  obtain ⟨n, s, h1, h2⟩ := h
  exact ⟨n, s, ha _ _ _ h1 hq, h2⟩
def zOun (V : zV) (o : Nat) (P : Prop) (y : Int) : Prop := ∃ (n : Int64) (s : Value), V o = some (5, .inr (8, [.long n, s])) ∧ (s = .null ∨ ∃ a, s = .ref a) ∧ (P → n = (zI y).toInt64)
theorem zOun.out {V : zV} {o : Nat} {P : Prop} {y : Int} (h : zOun V o P y) : zOut V o := by
  obtain ⟨n, s, h1, h2, -⟩ := h
  exact ⟨n, s, h1, h2⟩
theorem zOun.kept {V V' : zV} {Q : Nat → Prop} {o : Nat} {P : Prop} {y : Int} (h : zOun V o P y) (ha : zag Q V V') (hq : Q 5) : zOun V' o P y := by
  obtain ⟨n, s, h1, h2, h3⟩ := h
  exact ⟨n, s, ha _ _ _ h1 hq, h2, h3⟩
def zPR (Γ : zGam) (V : zV) (ad : Nat → Nat) (σ : Nat → Int) (o : Nat) (I : Prop) (R : Int → Int → (Nat → Int) → Prop) (rv : Option Value) (V' : zV) : Prop := ∃ (th y : Int) (σ' : Nat → Int), rv = some (.int (zI th)) ∧ (0 ≤ th ∧ th ≤ 3) ∧ zS Γ V' ad σ' ∧ zag (fun t => 60 ≤ t) V V' ∧ zOun V' o (th = 0 ∧ I) y ∧ σ' 32 = σ 32 ∧ R th y σ'
theorem zrf_32 {σ : Nat → Int} : zrf σ 32 = σ 32 := rfl
theorem zS.out {Γ : zGam} {V V' : zV} {ad : Nat → Nat} {σ : Nat → Int} (h : zS Γ V ad σ) (ha : zag (fun x => x ≠ 5) V V') : zS Γ V' ad σ := by
  obtain ⟨a, b, c, d, e, f, g⟩ := h.c0
  exact zS0.mk ⟨a.kept ha (by decide), b.kept ha (by decide), c.kept ha (fun i hi => by omega) (.of ha (by decide)), d.kept ha (by decide) (.of ha (by decide)), e.kept ha (by decide) (by decide) (by decide) (by decide) (by decide) (by decide) (by decide) (by decide), f.kept ha (by decide) (by decide) (by decide) (by decide) (by decide) (by decide) (by decide), g.kept ha (fun t h1 h2 => by omega)⟩ (h.ct.kept ha (fun t ht => by omega))
set_option maxRecDepth 100000 in
set_option maxHeartbeats 4000000 in
theorem m_W_allocate (l : Launch) (hlt : l.stackTraces = false) (Γ : zGam) {V : zV} {ad : Nat → Nat} {σ : Nat → Int} {q z : Int} {o : Nat} (hS : zS Γ V ad σ) (hq : -2147483648 ≤ q ∧ q ≤ 2147483647) (hz : -2147483648 ≤ z ∧ z ≤ 2147483647) (hO : zOut V o) : zM l Γ 9 yL_allocate wsL_allocate 9 100 V [.ref (ad 1), .int (zI (q)), .int (zI (z)), .ref o] (zPR Γ V ad σ o True (zr6_allocate σ q z)) := by
  have w0 : Cond.classLink RL 19 "java/lang/IndexOutOfBoundsException" ∈ wsL_allocate := by decide +kernel
  have w1 : Cond.classLink RL 21 "java/lang/IllegalArgumentException" ∈ wsL_allocate := by decide +kernel
  have iX7 : ∀ w ∈ u_ws RX7 TX7 2, w ∈ wsL_allocate := by decide +kernel
  refine zW_of (cc := cL_allocate) (nL := 5) (ret := (some .int)) (own := RL) (hh := [(0, 11, 14, 19), (0, 11, 18, 21)]) (by decide +kernel) rfl rfl (Nat.le_of_ble_eq_true rfl) (fun C X Z => ?_)
  obtain ⟨on, os, ho, hs9⟩ := id hO
  show zG C V 9 100 0 [(0, .ref (ad 1)), (1, .int (zI (q))), (2, .int (zI (z))), (3, .ref o)] []
  refine zr_aload_n X 1 3 dL_allocate_0 rfl rfl ?_
  refine zr_aload_n X 2 0 dL_allocate_1 rfl rfl ?_
  refine zr_iload_n X 3 1 dL_allocate_2 rfl rfl ?_
  refine zr_iload_n X 4 2 dL_allocate_3 rfl rfl ?_
  refine zr_callVCe (kc' := 0) (ks' := 0) X 7 2 (m_X6_allocate l hlt Γ hS hq hz) gL_allocate_X6_allocate rfl (by decide +kernel) rfl (by decide) hS.x rfl rfl (Nat.le_of_ble_eq_true rfl) dL_allocate_4 rfl (Nat.le_of_ble_eq_true rfl) (Nat.le_of_ble_eq_true rfl) (fun E V1 hX => ?_) (fun rv V1 hp => ?_)
  · obtain ⟨hv, hX⟩ := hX
    rw [hv]
    rcases hX with ⟨he, hc⟩ | ⟨he, hc⟩
    · subst he
      refine zr_catch X Z (name := "java/lang/IndexOutOfBoundsException") [] ⟨0, 11, 14, 19⟩ [⟨0, 11, 18, 21⟩] rfl (fun z hz => by cases hz) (by decide) (by decide) w0 ⟨rfl, by decide⟩ (fun q9 => ?_)
      show zG C V 0 0 14 [(0, .ref (ad 1)), (1, .int (zI (q))), (2, .int (zI (z))), (3, .ref o)] [.ref q9]
      refine zr_astore X 16 [(4, .ref q9), (0, .ref (ad 1)), (1, .int (zI (q))), (2, .int (zI (z))), (3, .ref o)] dL_allocate_14 rfl (by decide) rfl ?_
      refine zr_iconst X 17 dL_allocate_16 rfl ?_
      exact zr_iret X rfl ⟨1, 0, σ, rfl, by decide, hS, zag.rf, ⟨on, os, ho, hs9, fun h => absurd h.1 (by decide)⟩, rfl, Or.inl (⟨rfl, hc, rfl⟩)⟩ dL_allocate_17
    · subst he
      have hps : ∀ z ∈ ([⟨0, 11, 14, 19⟩] : List ExceptionTableEntry), covers z 4 = false ∨ (z.catchType ≠ 0 ∧ ∃ nm : String, Cond.classLink RL z.catchType nm ∈ wsL_allocate ∧ ("java/lang/IllegalArgumentException", nm) ∈ zxn) := by
        intro z hz
        simp only [List.mem_cons, List.not_mem_nil, or_false] at hz
        rcases hz with rfl
        · exact Or.inr ⟨by decide, "java/lang/IndexOutOfBoundsException", w0, by decide⟩
      refine zr_catch X Z (name := "java/lang/IllegalArgumentException") [⟨0, 11, 14, 19⟩] ⟨0, 11, 18, 21⟩ [] rfl hps (by decide) (by decide) w1 ⟨rfl, by decide⟩ (fun q9 => ?_)
      show zG C V 0 0 18 [(0, .ref (ad 1)), (1, .int (zI (q))), (2, .int (zI (z))), (3, .ref o)] [.ref q9]
      refine zr_astore X 20 [(4, .ref q9), (0, .ref (ad 1)), (1, .int (zI (q))), (2, .int (zI (z))), (3, .ref o)] dL_allocate_18 rfl (by decide) rfl ?_
      refine zr_iconst X 21 dL_allocate_20 rfl ?_
      exact zr_iret X rfl ⟨2, 0, σ, rfl, by decide, hS, zag.rf, ⟨on, os, ho, hs9, fun h => absurd h.1 (by decide)⟩, rfl, Or.inr (Or.inl (⟨rfl, hc, rfl⟩))⟩ dL_allocate_21
  · skip
    obtain ⟨y, σ1, hr, hS1, hx1, hrel⟩ := hp
    rw [hr]
    have h32 : σ1 32 = σ 32 := by
      rcases hrel with ⟨⟨c1, c2, c3, c4⟩, c5, c6⟩
      · exact (congrFun c6 32).trans ((zdn_ne (by decide)).trans ((zf_ne (by omega)).trans ((zf_ne (by omega)).trans ((zw4_h8 (by decide) (by omega)).trans (rfl)))))
    have ho1 := hx1 _ _ _ ho (by decide)
    show zG C V1 0 0 7 [(0, .ref (ad 1)), (1, .int (zI (q))), (2, .int (zI (z))), (3, .ref o)] [.int (zI (y)), .ref o]
    refine zr_i2l X 8 dL_allocate_7 rfl ?_
    obtain ⟨y1, y1e⟩ : ∃ zz9 : Int64, zz9 = (zI (y)).toInt64 := ⟨_, rfl⟩
    rw [← y1e]
    refine zr_putN X 11 8 0 9 [.long (y1), os] tyX7 ho1 rfl iX7 tyX7_ok nmX7 (by decide) rfl rfl rfl rfl rfl (Nat.le_of_ble_eq_true rfl) rfl dL_allocate_8 rfl ?_
    show zG C (zu V1 o 5 (.inr (8, [.long (y1), os]))) 0 0 11 [(0, .ref (ad 1)), (1, .int (zI (q))), (2, .int (zI (z))), (3, .ref o)] []
    have ha9 := zag.one (e' := .inr (8, [.long (y1), os])) ho1
    have hS2 := (hS1.out ha9)
    refine zr_goto X 22 dL_allocate_11 rfl ?_
    refine zr_iconst X 23 dL_allocate_22 rfl ?_
    exact zr_iret X rfl ⟨0, y, σ1, rfl, by decide, hS2, (hx1.mono (fun t ht => Or.inl ht)).tr (ha9.mono (fun t ht => by omega)), ⟨_, _, zu_eq _ _ _ _, hs9, fun _ => y1e⟩, h32, Or.inr (Or.inr (⟨rfl, hrel⟩))⟩ dL_allocate_23
set_option maxRecDepth 100000 in
set_option maxHeartbeats 4000000 in
theorem m_W_slice_ne (l : Launch) (hlt : l.stackTraces = false) (Γ : zGam) {V : zV} {ad : Nat → Nat} {σ : Nat → Int} {q q2 : Int} {o : Nat} (hS : zS Γ V ad σ) (hq : -2147483648 ≤ q ∧ q ≤ 2147483647) (hq2 : -2147483648 ≤ q2 ∧ q2 ≤ 2147483647) (hne : q ≠ q2) (hO : zOut V o) : zM l Γ 9 yL_slice wsL_slice 2 12 V [.ref (ad 1), .int (zI (q)), .int (zI (q2)), .ref o] (zPR Γ V ad σ o True (zr6_slice σ q q2)) := by
  have w0 : Cond.classLink RL 19 "java/lang/IndexOutOfBoundsException" ∈ wsL_slice := by decide +kernel
  have iX7 : ∀ w ∈ u_ws RX7 TX7 2, w ∈ wsL_slice := by decide +kernel
  refine zW_of (cc := cL_slice) (nL := 5) (ret := (some .int)) (own := RL) (hh := [(0, 11, 14, 19)]) (by decide +kernel) rfl rfl (Nat.le_of_ble_eq_true rfl) (fun C X Z => ?_)
  obtain ⟨on, os, ho, hs9⟩ := id hO
  show zG C V 2 12 0 [(0, .ref (ad 1)), (1, .int (zI (q))), (2, .int (zI (q2))), (3, .ref o)] []
  refine zr_aload_n X 1 3 dL_slice_0 rfl rfl ?_
  refine zr_aload_n X 2 0 dL_slice_1 rfl rfl ?_
  refine zr_iload_n X 3 1 dL_slice_2 rfl rfl ?_
  refine zr_iload_n X 4 2 dL_slice_3 rfl rfl ?_
  refine zr_callVCe (kc' := 0) (ks' := 0) X 7 2 (m_X6_slice_ne l hlt Γ hS hq hq2 hne) gL_slice_X6_slice rfl (by decide +kernel) rfl (by decide) hS.x rfl rfl (Nat.le_of_ble_eq_true rfl) dL_slice_4 rfl (Nat.le_of_ble_eq_true rfl) (Nat.le_of_ble_eq_true rfl) (fun E V1 hX => ?_) (fun rv V1 hp => ?_)
  · obtain ⟨hv, hX⟩ := hX
    rw [hv]
    rcases hX with ⟨he, hc⟩ | ⟨he, hc⟩
    · subst he
      refine zr_catch X Z (name := "java/lang/IndexOutOfBoundsException") [] ⟨0, 11, 14, 19⟩ [] rfl (fun z hz => by cases hz) (by decide) (by decide) w0 ⟨rfl, by decide⟩ (fun q9 => ?_)
      show zG C V 0 0 14 [(0, .ref (ad 1)), (1, .int (zI (q))), (2, .int (zI (q2))), (3, .ref o)] [.ref q9]
      refine zr_astore X 16 [(4, .ref q9), (0, .ref (ad 1)), (1, .int (zI (q))), (2, .int (zI (q2))), (3, .ref o)] dL_slice_14 rfl (by decide) rfl ?_
      refine zr_iconst X 17 dL_slice_16 rfl ?_
      exact zr_iret X rfl ⟨1, 0, σ, rfl, by decide, hS, zag.rf, ⟨on, os, ho, hs9, fun h => absurd h.1 (by decide)⟩, rfl, Or.inl (⟨rfl, hc, rfl⟩)⟩ dL_slice_17
    · subst he
      exact hc.elim
  · skip
    obtain ⟨y, σ1, hr, hS1, hx1, hrel⟩ := hp
    rw [hr]
    have h32 : σ1 32 = σ 32 := by
      rcases hrel with ⟨⟨c1, c2, c3, c4⟩, c5, c6⟩
      · exact (congrFun c6 32).trans ((zdn_ne (by decide)).trans ((zf_ne (by omega)).trans ((zw4_h8 (by decide) (by omega)).trans (rfl))))
    have ho1 := hx1 _ _ _ ho (by decide)
    show zG C V1 0 0 7 [(0, .ref (ad 1)), (1, .int (zI (q))), (2, .int (zI (q2))), (3, .ref o)] [.int (zI (y)), .ref o]
    refine zr_i2l X 8 dL_slice_7 rfl ?_
    obtain ⟨y1, y1e⟩ : ∃ zz9 : Int64, zz9 = (zI (y)).toInt64 := ⟨_, rfl⟩
    rw [← y1e]
    refine zr_putN X 11 8 0 9 [.long (y1), os] tyX7 ho1 rfl iX7 tyX7_ok nmX7 (by decide) rfl rfl rfl rfl rfl (Nat.le_of_ble_eq_true rfl) rfl dL_slice_8 rfl ?_
    show zG C (zu V1 o 5 (.inr (8, [.long (y1), os]))) 0 0 11 [(0, .ref (ad 1)), (1, .int (zI (q))), (2, .int (zI (q2))), (3, .ref o)] []
    have ha9 := zag.one (e' := .inr (8, [.long (y1), os])) ho1
    have hS2 := (hS1.out ha9)
    refine zr_goto X 18 dL_slice_11 rfl ?_
    refine zr_iconst X 19 dL_slice_18 rfl ?_
    exact zr_iret X rfl ⟨0, y, σ1, rfl, by decide, hS2, (hx1.mono (fun t ht => Or.inl ht)).tr (ha9.mono (fun t ht => by omega)), ⟨_, _, zu_eq _ _ _ _, hs9, fun _ => y1e⟩, h32, Or.inr (⟨rfl, hrel⟩)⟩ dL_slice_19
set_option maxRecDepth 100000 in
set_option maxHeartbeats 4000000 in
theorem m_W_slice_eq (l : Launch) (hlt : l.stackTraces = false) (Γ : zGam) {V : zV} {ad : Nat → Nat} {σ : Nat → Int} {q : Int} {o : Nat} (hS : zS Γ V ad σ) (hq : -2147483648 ≤ q ∧ q ≤ 2147483647) (hO : zOut V o) : zM l Γ 9 yL_slice wsL_slice 2 12 V [.ref (ad 1), .int (zI (q)), .int (zI (q)), .ref o] (zPR Γ V ad σ o True (zr6_slice σ q q)) := by
  have w0 : Cond.classLink RL 19 "java/lang/IndexOutOfBoundsException" ∈ wsL_slice := by decide +kernel
  have iX7 : ∀ w ∈ u_ws RX7 TX7 2, w ∈ wsL_slice := by decide +kernel
  refine zW_of (cc := cL_slice) (nL := 5) (ret := (some .int)) (own := RL) (hh := [(0, 11, 14, 19)]) (by decide +kernel) rfl rfl (Nat.le_of_ble_eq_true rfl) (fun C X Z => ?_)
  obtain ⟨on, os, ho, hs9⟩ := id hO
  show zG C V 2 12 0 [(0, .ref (ad 1)), (1, .int (zI (q))), (2, .int (zI (q))), (3, .ref o)] []
  refine zr_aload_n X 1 3 dL_slice_0 rfl rfl ?_
  refine zr_aload_n X 2 0 dL_slice_1 rfl rfl ?_
  refine zr_iload_n X 3 1 dL_slice_2 rfl rfl ?_
  refine zr_iload_n X 4 2 dL_slice_3 rfl rfl ?_
  refine zr_callVCe (kc' := 0) (ks' := 0) X 7 2 (m_X6_slice_eq l hlt Γ hS hq) gL_slice_X6_slice rfl (by decide +kernel) rfl (by decide) hS.x rfl rfl (Nat.le_of_ble_eq_true rfl) dL_slice_4 rfl (Nat.le_of_ble_eq_true rfl) (Nat.le_of_ble_eq_true rfl) (fun E V1 hX => ?_) (fun rv V1 hp => ?_)
  · obtain ⟨hv, hX⟩ := hX
    rw [hv]
    rcases hX with ⟨he, hc⟩ | ⟨he, hc⟩
    · subst he
      refine zr_catch X Z (name := "java/lang/IndexOutOfBoundsException") [] ⟨0, 11, 14, 19⟩ [] rfl (fun z hz => by cases hz) (by decide) (by decide) w0 ⟨rfl, by decide⟩ (fun q9 => ?_)
      show zG C V 0 0 14 [(0, .ref (ad 1)), (1, .int (zI (q))), (2, .int (zI (q))), (3, .ref o)] [.ref q9]
      refine zr_astore X 16 [(4, .ref q9), (0, .ref (ad 1)), (1, .int (zI (q))), (2, .int (zI (q))), (3, .ref o)] dL_slice_14 rfl (by decide) rfl ?_
      refine zr_iconst X 17 dL_slice_16 rfl ?_
      exact zr_iret X rfl ⟨1, 0, σ, rfl, by decide, hS, zag.rf, ⟨on, os, ho, hs9, fun h => absurd h.1 (by decide)⟩, rfl, Or.inl (⟨rfl, (by omega), rfl⟩)⟩ dL_slice_17
    · subst he
      exact hc.elim
  · skip
    obtain ⟨y, σ1, hr, hS1, hx1, hrel⟩ := hp
    rw [hr]
    have h32 : σ1 32 = σ 32 := by
      rcases hrel with ⟨⟨c1, c2⟩, c3, c4⟩
      · exact (congrFun c4 32).trans ((zdn_ne (by decide)).trans ((zf_ne (by omega)).trans ((zw4_h8 (by decide) (by omega)).trans (rfl))))
    have ho1 := hx1 _ _ _ ho (by decide)
    show zG C V1 0 0 7 [(0, .ref (ad 1)), (1, .int (zI (q))), (2, .int (zI (q))), (3, .ref o)] [.int (zI (y)), .ref o]
    refine zr_i2l X 8 dL_slice_7 rfl ?_
    obtain ⟨y1, y1e⟩ : ∃ zz9 : Int64, zz9 = (zI (y)).toInt64 := ⟨_, rfl⟩
    rw [← y1e]
    refine zr_putN X 11 8 0 9 [.long (y1), os] tyX7 ho1 rfl iX7 tyX7_ok nmX7 (by decide) rfl rfl rfl rfl rfl (Nat.le_of_ble_eq_true rfl) rfl dL_slice_8 rfl ?_
    show zG C (zu V1 o 5 (.inr (8, [.long (y1), os]))) 0 0 11 [(0, .ref (ad 1)), (1, .int (zI (q))), (2, .int (zI (q))), (3, .ref o)] []
    have ha9 := zag.one (e' := .inr (8, [.long (y1), os])) ho1
    have hS2 := (hS1.out ha9)
    refine zr_goto X 18 dL_slice_11 rfl ?_
    refine zr_iconst X 19 dL_slice_18 rfl ?_
    exact zr_iret X rfl ⟨0, y, σ1, rfl, by decide, hS2, (hx1.mono (fun t ht => Or.inl ht)).tr (ha9.mono (fun t ht => by omega)), ⟨_, _, zu_eq _ _ _ _, hs9, fun _ => y1e⟩, h32, Or.inr (⟨rfl, (rq_slice hrel)⟩)⟩ dL_slice_19
set_option maxRecDepth 100000 in
set_option maxHeartbeats 4000000 in
theorem m_W_duplicate_ne (l : Launch) (hlt : l.stackTraces = false) (Γ : zGam) {V : zV} {ad : Nat → Nat} {σ : Nat → Int} {q q2 : Int} {o : Nat} (hS : zS Γ V ad σ) (hq : -2147483648 ≤ q ∧ q ≤ 2147483647) (hq2 : -2147483648 ≤ q2 ∧ q2 ≤ 2147483647) (hne : q ≠ q2) (hO : zOut V o) : zM l Γ 9 yL_duplicate wsL_duplicate 2 12 V [.ref (ad 1), .int (zI (q)), .int (zI (q2)), .ref o] (zPR Γ V ad σ o True (zr6_duplicate σ q q2)) := by
  have w0 : Cond.classLink RL 19 "java/lang/IndexOutOfBoundsException" ∈ wsL_duplicate := by decide +kernel
  have iX7 : ∀ w ∈ u_ws RX7 TX7 2, w ∈ wsL_duplicate := by decide +kernel
  refine zW_of (cc := cL_duplicate) (nL := 5) (ret := (some .int)) (own := RL) (hh := [(0, 11, 14, 19)]) (by decide +kernel) rfl rfl (Nat.le_of_ble_eq_true rfl) (fun C X Z => ?_)
  obtain ⟨on, os, ho, hs9⟩ := id hO
  show zG C V 2 12 0 [(0, .ref (ad 1)), (1, .int (zI (q))), (2, .int (zI (q2))), (3, .ref o)] []
  refine zr_aload_n X 1 3 dL_duplicate_0 rfl rfl ?_
  refine zr_aload_n X 2 0 dL_duplicate_1 rfl rfl ?_
  refine zr_iload_n X 3 1 dL_duplicate_2 rfl rfl ?_
  refine zr_iload_n X 4 2 dL_duplicate_3 rfl rfl ?_
  refine zr_callVCe (kc' := 0) (ks' := 0) X 7 2 (m_X6_duplicate_ne l hlt Γ hS hq hq2 hne) gL_duplicate_X6_duplicate rfl (by decide +kernel) rfl (by decide) hS.x rfl rfl (Nat.le_of_ble_eq_true rfl) dL_duplicate_4 rfl (Nat.le_of_ble_eq_true rfl) (Nat.le_of_ble_eq_true rfl) (fun E V1 hX => ?_) (fun rv V1 hp => ?_)
  · obtain ⟨hv, hX⟩ := hX
    rw [hv]
    rcases hX with ⟨he, hc⟩ | ⟨he, hc⟩
    · subst he
      refine zr_catch X Z (name := "java/lang/IndexOutOfBoundsException") [] ⟨0, 11, 14, 19⟩ [] rfl (fun z hz => by cases hz) (by decide) (by decide) w0 ⟨rfl, by decide⟩ (fun q9 => ?_)
      show zG C V 0 0 14 [(0, .ref (ad 1)), (1, .int (zI (q))), (2, .int (zI (q2))), (3, .ref o)] [.ref q9]
      refine zr_astore X 16 [(4, .ref q9), (0, .ref (ad 1)), (1, .int (zI (q))), (2, .int (zI (q2))), (3, .ref o)] dL_duplicate_14 rfl (by decide) rfl ?_
      refine zr_iconst X 17 dL_duplicate_16 rfl ?_
      exact zr_iret X rfl ⟨1, 0, σ, rfl, by decide, hS, zag.rf, ⟨on, os, ho, hs9, fun h => absurd h.1 (by decide)⟩, rfl, Or.inl (⟨rfl, hc, rfl⟩)⟩ dL_duplicate_17
    · subst he
      exact hc.elim
  · skip
    obtain ⟨y, σ1, hr, hS1, hx1, hrel⟩ := hp
    rw [hr]
    have h32 : σ1 32 = σ 32 := by
      rcases hrel with ⟨⟨c1, c2, c3, c4⟩, c5, c6⟩
      · exact (congrFun c6 32).trans ((zdn_ne (by decide)).trans ((zf_ne (by omega)).trans ((zw4_h8 (by decide) (by omega)).trans (rfl))))
    have ho1 := hx1 _ _ _ ho (by decide)
    show zG C V1 0 0 7 [(0, .ref (ad 1)), (1, .int (zI (q))), (2, .int (zI (q2))), (3, .ref o)] [.int (zI (y)), .ref o]
    refine zr_i2l X 8 dL_duplicate_7 rfl ?_
    obtain ⟨y1, y1e⟩ : ∃ zz9 : Int64, zz9 = (zI (y)).toInt64 := ⟨_, rfl⟩
    rw [← y1e]
    refine zr_putN X 11 8 0 9 [.long (y1), os] tyX7 ho1 rfl iX7 tyX7_ok nmX7 (by decide) rfl rfl rfl rfl rfl (Nat.le_of_ble_eq_true rfl) rfl dL_duplicate_8 rfl ?_
    show zG C (zu V1 o 5 (.inr (8, [.long (y1), os]))) 0 0 11 [(0, .ref (ad 1)), (1, .int (zI (q))), (2, .int (zI (q2))), (3, .ref o)] []
    have ha9 := zag.one (e' := .inr (8, [.long (y1), os])) ho1
    have hS2 := (hS1.out ha9)
    refine zr_goto X 18 dL_duplicate_11 rfl ?_
    refine zr_iconst X 19 dL_duplicate_18 rfl ?_
    exact zr_iret X rfl ⟨0, y, σ1, rfl, by decide, hS2, (hx1.mono (fun t ht => Or.inl ht)).tr (ha9.mono (fun t ht => by omega)), ⟨_, _, zu_eq _ _ _ _, hs9, fun _ => y1e⟩, h32, Or.inr (⟨rfl, hrel⟩)⟩ dL_duplicate_19
set_option maxRecDepth 100000 in
set_option maxHeartbeats 4000000 in
theorem m_W_duplicate_eq (l : Launch) (hlt : l.stackTraces = false) (Γ : zGam) {V : zV} {ad : Nat → Nat} {σ : Nat → Int} {q : Int} {o : Nat} (hS : zS Γ V ad σ) (hq : -2147483648 ≤ q ∧ q ≤ 2147483647) (hO : zOut V o) : zM l Γ 9 yL_duplicate wsL_duplicate 2 12 V [.ref (ad 1), .int (zI (q)), .int (zI (q)), .ref o] (zPR Γ V ad σ o True (zr6_duplicate σ q q)) := by
  have w0 : Cond.classLink RL 19 "java/lang/IndexOutOfBoundsException" ∈ wsL_duplicate := by decide +kernel
  have iX7 : ∀ w ∈ u_ws RX7 TX7 2, w ∈ wsL_duplicate := by decide +kernel
  refine zW_of (cc := cL_duplicate) (nL := 5) (ret := (some .int)) (own := RL) (hh := [(0, 11, 14, 19)]) (by decide +kernel) rfl rfl (Nat.le_of_ble_eq_true rfl) (fun C X Z => ?_)
  obtain ⟨on, os, ho, hs9⟩ := id hO
  show zG C V 2 12 0 [(0, .ref (ad 1)), (1, .int (zI (q))), (2, .int (zI (q))), (3, .ref o)] []
  refine zr_aload_n X 1 3 dL_duplicate_0 rfl rfl ?_
  refine zr_aload_n X 2 0 dL_duplicate_1 rfl rfl ?_
  refine zr_iload_n X 3 1 dL_duplicate_2 rfl rfl ?_
  refine zr_iload_n X 4 2 dL_duplicate_3 rfl rfl ?_
  refine zr_callVCe (kc' := 0) (ks' := 0) X 7 2 (m_X6_duplicate_eq l hlt Γ hS hq) gL_duplicate_X6_duplicate rfl (by decide +kernel) rfl (by decide) hS.x rfl rfl (Nat.le_of_ble_eq_true rfl) dL_duplicate_4 rfl (Nat.le_of_ble_eq_true rfl) (Nat.le_of_ble_eq_true rfl) (fun E V1 hX => ?_) (fun rv V1 hp => ?_)
  · obtain ⟨hv, hX⟩ := hX
    rw [hv]
    rcases hX with ⟨he, hc⟩ | ⟨he, hc⟩
    · subst he
      refine zr_catch X Z (name := "java/lang/IndexOutOfBoundsException") [] ⟨0, 11, 14, 19⟩ [] rfl (fun z hz => by cases hz) (by decide) (by decide) w0 ⟨rfl, by decide⟩ (fun q9 => ?_)
      show zG C V 0 0 14 [(0, .ref (ad 1)), (1, .int (zI (q))), (2, .int (zI (q))), (3, .ref o)] [.ref q9]
      refine zr_astore X 16 [(4, .ref q9), (0, .ref (ad 1)), (1, .int (zI (q))), (2, .int (zI (q))), (3, .ref o)] dL_duplicate_14 rfl (by decide) rfl ?_
      refine zr_iconst X 17 dL_duplicate_16 rfl ?_
      exact zr_iret X rfl ⟨1, 0, σ, rfl, by decide, hS, zag.rf, ⟨on, os, ho, hs9, fun h => absurd h.1 (by decide)⟩, rfl, Or.inl (⟨rfl, (by omega), rfl⟩)⟩ dL_duplicate_17
    · subst he
      exact hc.elim
  · skip
    obtain ⟨y, σ1, hr, hS1, hx1, hrel⟩ := hp
    rw [hr]
    have h32 : σ1 32 = σ 32 := by
      rcases hrel with ⟨⟨c1, c2⟩, c3, c4⟩
      · exact (congrFun c4 32).trans ((zdn_ne (by decide)).trans (rfl))
    have ho1 := hx1 _ _ _ ho (by decide)
    show zG C V1 0 0 7 [(0, .ref (ad 1)), (1, .int (zI (q))), (2, .int (zI (q))), (3, .ref o)] [.int (zI (y)), .ref o]
    refine zr_i2l X 8 dL_duplicate_7 rfl ?_
    obtain ⟨y1, y1e⟩ : ∃ zz9 : Int64, zz9 = (zI (y)).toInt64 := ⟨_, rfl⟩
    rw [← y1e]
    refine zr_putN X 11 8 0 9 [.long (y1), os] tyX7 ho1 rfl iX7 tyX7_ok nmX7 (by decide) rfl rfl rfl rfl rfl (Nat.le_of_ble_eq_true rfl) rfl dL_duplicate_8 rfl ?_
    show zG C (zu V1 o 5 (.inr (8, [.long (y1), os]))) 0 0 11 [(0, .ref (ad 1)), (1, .int (zI (q))), (2, .int (zI (q))), (3, .ref o)] []
    have ha9 := zag.one (e' := .inr (8, [.long (y1), os])) ho1
    have hS2 := (hS1.out ha9)
    refine zr_goto X 18 dL_duplicate_11 rfl ?_
    refine zr_iconst X 19 dL_duplicate_18 rfl ?_
    exact zr_iret X rfl ⟨0, y, σ1, rfl, by decide, hS2, (hx1.mono (fun t ht => Or.inl ht)).tr (ha9.mono (fun t ht => by omega)), ⟨_, _, zu_eq _ _ _ _, hs9, fun _ => y1e⟩, h32, Or.inr (⟨rfl, (rq_duplicate hrel)⟩)⟩ dL_duplicate_19
set_option maxRecDepth 100000 in
set_option maxHeartbeats 4000000 in
theorem m_W_part_ne (l : Launch) (hlt : l.stackTraces = false) (Γ : zGam) {V : zV} {ad : Nat → Nat} {σ : Nat → Int} {q a b q2 : Int} {o : Nat} (hS : zS Γ V ad σ) (hq : -2147483648 ≤ q ∧ q ≤ 2147483647) (hq2 : -2147483648 ≤ q2 ∧ q2 ≤ 2147483647) (ha : -2147483648 ≤ a ∧ a ≤ 2147483647) (hb : -2147483648 ≤ b ∧ b ≤ 2147483647) (hne : q ≠ q2) (hO : zOut V o) : zM l Γ 9 yL_part wsL_part 2 12 V [.ref (ad 1), .int (zI (q)), .int (zI (a)), .int (zI (b)), .int (zI (q2)), .ref o] (zPR Γ V ad σ o True (zr6_part σ q a b q2)) := by
  have w0 : Cond.classLink RL 19 "java/lang/IndexOutOfBoundsException" ∈ wsL_part := by decide +kernel
  have iX7 : ∀ w ∈ u_ws RX7 TX7 2, w ∈ wsL_part := by decide +kernel
  refine zW_of (cc := cL_part) (nL := 7) (ret := (some .int)) (own := RL) (hh := [(0, 15, 18, 19)]) (by decide +kernel) rfl rfl (Nat.le_of_ble_eq_true rfl) (fun C X Z => ?_)
  obtain ⟨on, os, ho, hs9⟩ := id hO
  show zG C V 2 12 0 [(0, .ref (ad 1)), (1, .int (zI (q))), (2, .int (zI (a))), (3, .int (zI (b))), (4, .int (zI (q2))), (5, .ref o)] []
  refine zr_aload X 2 5 dL_part_0 rfl rfl ?_
  refine zr_aload_n X 3 0 dL_part_2 rfl rfl ?_
  refine zr_iload_n X 4 1 dL_part_3 rfl rfl ?_
  refine zr_iload_n X 5 2 dL_part_4 rfl rfl ?_
  refine zr_iload_n X 6 3 dL_part_5 rfl rfl ?_
  refine zr_iload X 8 4 dL_part_6 rfl rfl ?_
  refine zr_callVCe (kc' := 0) (ks' := 0) X 11 4 (m_X6_part_ne l hlt Γ hS hq hq2 ha hb hne) gL_part_X6_part rfl (by decide +kernel) rfl (by decide) hS.x rfl rfl (Nat.le_of_ble_eq_true rfl) dL_part_8 rfl (Nat.le_of_ble_eq_true rfl) (Nat.le_of_ble_eq_true rfl) (fun E V1 hX => ?_) (fun rv V1 hp => ?_)
  · obtain ⟨hv, hX⟩ := hX
    rw [hv]
    rcases hX with ⟨he, hc⟩ | ⟨he, hc⟩
    · subst he
      refine zr_catch X Z (name := "java/lang/IndexOutOfBoundsException") [] ⟨0, 15, 18, 19⟩ [] rfl (fun z hz => by cases hz) (by decide) (by decide) w0 ⟨rfl, by decide⟩ (fun q9 => ?_)
      show zG C V 0 0 18 [(0, .ref (ad 1)), (1, .int (zI (q))), (2, .int (zI (a))), (3, .int (zI (b))), (4, .int (zI (q2))), (5, .ref o)] [.ref q9]
      refine zr_astore X 20 [(6, .ref q9), (0, .ref (ad 1)), (1, .int (zI (q))), (2, .int (zI (a))), (3, .int (zI (b))), (4, .int (zI (q2))), (5, .ref o)] dL_part_18 rfl (by decide) rfl ?_
      refine zr_iconst X 21 dL_part_20 rfl ?_
      exact zr_iret X rfl ⟨1, 0, σ, rfl, by decide, hS, zag.rf, ⟨on, os, ho, hs9, fun h => absurd h.1 (by decide)⟩, rfl, Or.inl (⟨rfl, hc, rfl⟩)⟩ dL_part_21
    · subst he
      exact hc.elim
  · skip
    obtain ⟨y, σ1, hr, hS1, hx1, hrel⟩ := hp
    rw [hr]
    have h32 : σ1 32 = σ 32 := by
      rcases hrel with ⟨⟨c1, c2, c3, c4⟩, (⟨c5, c6, c7⟩ | ⟨⟨c8, c9, c10⟩, c11, c12⟩)⟩
      · exact (congrFun c7 32).trans ((zrf_lo (by decide)).trans (rfl))
      · exact (congrFun c12 32).trans ((zdn_ne (by decide)).trans ((zf_ne (by omega)).trans ((zw4_h8 (by decide) (by omega)).trans (rfl))))
    have ho1 := hx1 _ _ _ ho (by decide)
    show zG C V1 0 0 11 [(0, .ref (ad 1)), (1, .int (zI (q))), (2, .int (zI (a))), (3, .int (zI (b))), (4, .int (zI (q2))), (5, .ref o)] [.int (zI (y)), .ref o]
    refine zr_i2l X 12 dL_part_11 rfl ?_
    obtain ⟨y1, y1e⟩ : ∃ zz9 : Int64, zz9 = (zI (y)).toInt64 := ⟨_, rfl⟩
    rw [← y1e]
    refine zr_putN X 15 8 0 9 [.long (y1), os] tyX7 ho1 rfl iX7 tyX7_ok nmX7 (by decide) rfl rfl rfl rfl rfl (Nat.le_of_ble_eq_true rfl) rfl dL_part_12 rfl ?_
    show zG C (zu V1 o 5 (.inr (8, [.long (y1), os]))) 0 0 15 [(0, .ref (ad 1)), (1, .int (zI (q))), (2, .int (zI (a))), (3, .int (zI (b))), (4, .int (zI (q2))), (5, .ref o)] []
    have ha9 := zag.one (e' := .inr (8, [.long (y1), os])) ho1
    have hS2 := (hS1.out ha9)
    refine zr_goto X 22 dL_part_15 rfl ?_
    refine zr_iconst X 23 dL_part_22 rfl ?_
    exact zr_iret X rfl ⟨0, y, σ1, rfl, by decide, hS2, (hx1.mono (fun t ht => Or.inl ht)).tr (ha9.mono (fun t ht => by omega)), ⟨_, _, zu_eq _ _ _ _, hs9, fun _ => y1e⟩, h32, Or.inr (⟨rfl, hrel⟩)⟩ dL_part_23
set_option maxRecDepth 100000 in
set_option maxHeartbeats 4000000 in
theorem m_W_part_eq (l : Launch) (hlt : l.stackTraces = false) (Γ : zGam) {V : zV} {ad : Nat → Nat} {σ : Nat → Int} {q a b : Int} {o : Nat} (hS : zS Γ V ad σ) (hq : -2147483648 ≤ q ∧ q ≤ 2147483647) (ha : -2147483648 ≤ a ∧ a ≤ 2147483647) (hb : -2147483648 ≤ b ∧ b ≤ 2147483647) (hO : zOut V o) : zM l Γ 9 yL_part wsL_part 2 12 V [.ref (ad 1), .int (zI (q)), .int (zI (a)), .int (zI (b)), .int (zI (q)), .ref o] (zPR Γ V ad σ o True (zr6_part σ q a b q)) := by
  have w0 : Cond.classLink RL 19 "java/lang/IndexOutOfBoundsException" ∈ wsL_part := by decide +kernel
  have iX7 : ∀ w ∈ u_ws RX7 TX7 2, w ∈ wsL_part := by decide +kernel
  refine zW_of (cc := cL_part) (nL := 7) (ret := (some .int)) (own := RL) (hh := [(0, 15, 18, 19)]) (by decide +kernel) rfl rfl (Nat.le_of_ble_eq_true rfl) (fun C X Z => ?_)
  obtain ⟨on, os, ho, hs9⟩ := id hO
  show zG C V 2 12 0 [(0, .ref (ad 1)), (1, .int (zI (q))), (2, .int (zI (a))), (3, .int (zI (b))), (4, .int (zI (q))), (5, .ref o)] []
  refine zr_aload X 2 5 dL_part_0 rfl rfl ?_
  refine zr_aload_n X 3 0 dL_part_2 rfl rfl ?_
  refine zr_iload_n X 4 1 dL_part_3 rfl rfl ?_
  refine zr_iload_n X 5 2 dL_part_4 rfl rfl ?_
  refine zr_iload_n X 6 3 dL_part_5 rfl rfl ?_
  refine zr_iload X 8 4 dL_part_6 rfl rfl ?_
  refine zr_callVCe (kc' := 0) (ks' := 0) X 11 4 (m_X6_part_eq l hlt Γ hS hq ha hb) gL_part_X6_part rfl (by decide +kernel) rfl (by decide) hS.x rfl rfl (Nat.le_of_ble_eq_true rfl) dL_part_8 rfl (Nat.le_of_ble_eq_true rfl) (Nat.le_of_ble_eq_true rfl) (fun E V1 hX => ?_) (fun rv V1 hp => ?_)
  · obtain ⟨hv, hX⟩ := hX
    rw [hv]
    rcases hX with ⟨he, hc⟩ | ⟨he, hc⟩
    · subst he
      refine zr_catch X Z (name := "java/lang/IndexOutOfBoundsException") [] ⟨0, 15, 18, 19⟩ [] rfl (fun z hz => by cases hz) (by decide) (by decide) w0 ⟨rfl, by decide⟩ (fun q9 => ?_)
      show zG C V 0 0 18 [(0, .ref (ad 1)), (1, .int (zI (q))), (2, .int (zI (a))), (3, .int (zI (b))), (4, .int (zI (q))), (5, .ref o)] [.ref q9]
      refine zr_astore X 20 [(6, .ref q9), (0, .ref (ad 1)), (1, .int (zI (q))), (2, .int (zI (a))), (3, .int (zI (b))), (4, .int (zI (q))), (5, .ref o)] dL_part_18 rfl (by decide) rfl ?_
      refine zr_iconst X 21 dL_part_20 rfl ?_
      exact zr_iret X rfl ⟨1, 0, σ, rfl, by decide, hS, zag.rf, ⟨on, os, ho, hs9, fun h => absurd h.1 (by decide)⟩, rfl, Or.inl (⟨rfl, (by omega), rfl⟩)⟩ dL_part_21
    · subst he
      exact hc.elim
  · skip
    obtain ⟨y, σ1, hr, hS1, hx1, hrel⟩ := hp
    rw [hr]
    have h32 : σ1 32 = σ 32 := by
      rcases hrel with ⟨⟨c1, c2⟩, (⟨c3, c4, c5⟩ | ⟨⟨c6, c7, c8⟩, c9, c10⟩)⟩
      · exact (congrFun c5 32).trans ((zrf_lo (by decide)).trans (rfl))
      · exact (congrFun c10 32).trans ((zdn_ne (by decide)).trans ((zf_ne (by omega)).trans ((zw4_h8 (by decide) (by omega)).trans (rfl))))
    have ho1 := hx1 _ _ _ ho (by decide)
    show zG C V1 0 0 11 [(0, .ref (ad 1)), (1, .int (zI (q))), (2, .int (zI (a))), (3, .int (zI (b))), (4, .int (zI (q))), (5, .ref o)] [.int (zI (y)), .ref o]
    refine zr_i2l X 12 dL_part_11 rfl ?_
    obtain ⟨y1, y1e⟩ : ∃ zz9 : Int64, zz9 = (zI (y)).toInt64 := ⟨_, rfl⟩
    rw [← y1e]
    refine zr_putN X 15 8 0 9 [.long (y1), os] tyX7 ho1 rfl iX7 tyX7_ok nmX7 (by decide) rfl rfl rfl rfl rfl (Nat.le_of_ble_eq_true rfl) rfl dL_part_12 rfl ?_
    show zG C (zu V1 o 5 (.inr (8, [.long (y1), os]))) 0 0 15 [(0, .ref (ad 1)), (1, .int (zI (q))), (2, .int (zI (a))), (3, .int (zI (b))), (4, .int (zI (q))), (5, .ref o)] []
    have ha9 := zag.one (e' := .inr (8, [.long (y1), os])) ho1
    have hS2 := (hS1.out ha9)
    refine zr_goto X 22 dL_part_15 rfl ?_
    refine zr_iconst X 23 dL_part_22 rfl ?_
    exact zr_iret X rfl ⟨0, y, σ1, rfl, by decide, hS2, (hx1.mono (fun t ht => Or.inl ht)).tr (ha9.mono (fun t ht => by omega)), ⟨_, _, zu_eq _ _ _ _, hs9, fun _ => y1e⟩, h32, Or.inr (⟨rfl, (rq_part hrel)⟩)⟩ dL_part_23
set_option maxRecDepth 100000 in
set_option maxHeartbeats 4000000 in
theorem m_W_put (l : Launch) (hlt : l.stackTraces = false) (Γ : zGam) {V : zV} {ad : Nat → Nat} {σ : Nat → Int} {q x : Int} {o : Nat} (hS : zS Γ V ad σ) (hq : -2147483648 ≤ q ∧ q ≤ 2147483647) (hx : -2147483648 ≤ x ∧ x ≤ 2147483647) (hO : zOut V o) : zM l Γ 9 yL_put wsL_put 2 12 V [.ref (ad 1), .int (zI (q)), .int (zI (x)), .ref o] (zPR Γ V ad σ o True (zr6_put σ q x)) := by
  have w0 : Cond.classLink RL 19 "java/lang/IndexOutOfBoundsException" ∈ wsL_put := by decide +kernel
  have w1 : Cond.classLink RL 21 "java/lang/IllegalArgumentException" ∈ wsL_put := by decide +kernel
  have iX7 : ∀ w ∈ u_ws RX7 TX7 2, w ∈ wsL_put := by decide +kernel
  refine zW_of (cc := cL_put) (nL := 5) (ret := (some .int)) (own := RL) (hh := [(0, 11, 14, 19), (0, 11, 18, 21)]) (by decide +kernel) rfl rfl (Nat.le_of_ble_eq_true rfl) (fun C X Z => ?_)
  obtain ⟨on, os, ho, hs9⟩ := id hO
  show zG C V 2 12 0 [(0, .ref (ad 1)), (1, .int (zI (q))), (2, .int (zI (x))), (3, .ref o)] []
  refine zr_aload_n X 1 3 dL_put_0 rfl rfl ?_
  refine zr_aload_n X 2 0 dL_put_1 rfl rfl ?_
  refine zr_iload_n X 3 1 dL_put_2 rfl rfl ?_
  refine zr_iload_n X 4 2 dL_put_3 rfl rfl ?_
  refine zr_callVCe (kc' := 0) (ks' := 0) X 7 2 (m_X6_put l hlt Γ hS hq hx) gL_put_X6_put rfl (by decide +kernel) rfl (by decide) hS.x rfl rfl (Nat.le_of_ble_eq_true rfl) dL_put_4 rfl (Nat.le_of_ble_eq_true rfl) (Nat.le_of_ble_eq_true rfl) (fun E V1 hX => ?_) (fun rv V1 hp => ?_)
  · obtain ⟨hv, hX⟩ := hX
    rw [hv]
    rcases hX with ⟨he, hc⟩ | ⟨he, hc⟩
    · subst he
      refine zr_catch X Z (name := "java/lang/IndexOutOfBoundsException") [] ⟨0, 11, 14, 19⟩ [⟨0, 11, 18, 21⟩] rfl (fun z hz => by cases hz) (by decide) (by decide) w0 ⟨rfl, by decide⟩ (fun q9 => ?_)
      show zG C V 0 0 14 [(0, .ref (ad 1)), (1, .int (zI (q))), (2, .int (zI (x))), (3, .ref o)] [.ref q9]
      refine zr_astore X 16 [(4, .ref q9), (0, .ref (ad 1)), (1, .int (zI (q))), (2, .int (zI (x))), (3, .ref o)] dL_put_14 rfl (by decide) rfl ?_
      refine zr_iconst X 17 dL_put_16 rfl ?_
      exact zr_iret X rfl ⟨1, 0, σ, rfl, by decide, hS, zag.rf, ⟨on, os, ho, hs9, fun h => absurd h.1 (by decide)⟩, rfl, Or.inl (⟨rfl, hc, rfl⟩)⟩ dL_put_17
    · subst he
      have hps : ∀ z ∈ ([⟨0, 11, 14, 19⟩] : List ExceptionTableEntry), covers z 4 = false ∨ (z.catchType ≠ 0 ∧ ∃ nm : String, Cond.classLink RL z.catchType nm ∈ wsL_put ∧ ("java/lang/IllegalArgumentException", nm) ∈ zxn) := by
        intro z hz
        simp only [List.mem_cons, List.not_mem_nil, or_false] at hz
        rcases hz with rfl
        · exact Or.inr ⟨by decide, "java/lang/IndexOutOfBoundsException", w0, by decide⟩
      refine zr_catch X Z (name := "java/lang/IllegalArgumentException") [⟨0, 11, 14, 19⟩] ⟨0, 11, 18, 21⟩ [] rfl hps (by decide) (by decide) w1 ⟨rfl, by decide⟩ (fun q9 => ?_)
      show zG C V 0 0 18 [(0, .ref (ad 1)), (1, .int (zI (q))), (2, .int (zI (x))), (3, .ref o)] [.ref q9]
      refine zr_astore X 20 [(4, .ref q9), (0, .ref (ad 1)), (1, .int (zI (q))), (2, .int (zI (x))), (3, .ref o)] dL_put_18 rfl (by decide) rfl ?_
      refine zr_iconst X 21 dL_put_20 rfl ?_
      exact zr_iret X rfl ⟨2, 0, σ, rfl, by decide, hS, zag.rf, ⟨on, os, ho, hs9, fun h => absurd h.1 (by decide)⟩, rfl, Or.inr (Or.inl (⟨rfl, hc, rfl⟩))⟩ dL_put_21
  · skip
    obtain ⟨y, σ1, hr, hS1, hx1, hrel⟩ := hp
    rw [hr]
    have h32 : σ1 32 = σ 32 := by
      rcases hrel with ⟨⟨c1, c2, c3, c4⟩, (⟨c5, c6, c7⟩ | ⟨c8, c9, c10⟩)⟩
      · exact (congrFun c7 32).trans ((zrf_lo (by decide)).trans (rfl))
      · exact (congrFun c10 32).trans ((zdn_ne (by decide)).trans ((zfT_lo (by decide)).trans ((zw4_h8 (by decide) (by omega)).trans (rfl))))
    have ho1 := hx1 _ _ _ ho (by decide)
    show zG C V1 0 0 7 [(0, .ref (ad 1)), (1, .int (zI (q))), (2, .int (zI (x))), (3, .ref o)] [.int (zI (y)), .ref o]
    refine zr_i2l X 8 dL_put_7 rfl ?_
    obtain ⟨y1, y1e⟩ : ∃ zz9 : Int64, zz9 = (zI (y)).toInt64 := ⟨_, rfl⟩
    rw [← y1e]
    refine zr_putN X 11 8 0 9 [.long (y1), os] tyX7 ho1 rfl iX7 tyX7_ok nmX7 (by decide) rfl rfl rfl rfl rfl (Nat.le_of_ble_eq_true rfl) rfl dL_put_8 rfl ?_
    show zG C (zu V1 o 5 (.inr (8, [.long (y1), os]))) 0 0 11 [(0, .ref (ad 1)), (1, .int (zI (q))), (2, .int (zI (x))), (3, .ref o)] []
    have ha9 := zag.one (e' := .inr (8, [.long (y1), os])) ho1
    have hS2 := (hS1.out ha9)
    refine zr_goto X 22 dL_put_11 rfl ?_
    refine zr_iconst X 23 dL_put_22 rfl ?_
    exact zr_iret X rfl ⟨0, y, σ1, rfl, by decide, hS2, (hx1.mono (fun t ht => Or.inl ht)).tr (ha9.mono (fun t ht => by omega)), ⟨_, _, zu_eq _ _ _ _, hs9, fun _ => y1e⟩, h32, Or.inr (Or.inr (⟨rfl, hrel⟩))⟩ dL_put_23
set_option maxRecDepth 100000 in
set_option maxHeartbeats 4000000 in
theorem m_W_run (l : Launch) (hlt : l.stackTraces = false) (Γ : zGam) {V : zV} {ad : Nat → Nat} {σ : Nat → Int} {q x st n : Int} {o : Nat} (hS : zS Γ V ad σ) (hq : -2147483648 ≤ q ∧ q ≤ 2147483647) (hx : -2147483648 ≤ x ∧ x ≤ 2147483647) (hst : -2147483648 ≤ st ∧ st ≤ 2147483647) (hn : -2147483648 ≤ n ∧ n ≤ 2147483647) (hO : zOut V o) : zM l Γ 9 yL_run wsL_run 4 24 V [.ref (ad 1), .int (zI (q)), .int (zI (x)), .int (zI (st)), .int (zI (n)), .ref o] (zPR Γ V ad σ o True (zr6_run σ q x st n)) := by
  have w0 : Cond.classLink RL 19 "java/lang/IndexOutOfBoundsException" ∈ wsL_run := by decide +kernel
  have w1 : Cond.classLink RL 21 "java/lang/IllegalArgumentException" ∈ wsL_run := by decide +kernel
  have iX7 : ∀ w ∈ u_ws RX7 TX7 2, w ∈ wsL_run := by decide +kernel
  refine zW_of (cc := cL_run) (nL := 7) (ret := (some .int)) (own := RL) (hh := [(0, 15, 18, 19), (0, 15, 22, 21)]) (by decide +kernel) rfl rfl (Nat.le_of_ble_eq_true rfl) (fun C X Z => ?_)
  obtain ⟨on, os, ho, hs9⟩ := id hO
  show zG C V 4 24 0 [(0, .ref (ad 1)), (1, .int (zI (q))), (2, .int (zI (x))), (3, .int (zI (st))), (4, .int (zI (n))), (5, .ref o)] []
  refine zr_aload X 2 5 dL_run_0 rfl rfl ?_
  refine zr_aload_n X 3 0 dL_run_2 rfl rfl ?_
  refine zr_iload_n X 4 1 dL_run_3 rfl rfl ?_
  refine zr_iload_n X 5 2 dL_run_4 rfl rfl ?_
  refine zr_iload_n X 6 3 dL_run_5 rfl rfl ?_
  refine zr_iload X 8 4 dL_run_6 rfl rfl ?_
  refine zr_callVCe (kc' := 0) (ks' := 0) X 11 4 (m_X6_run l hlt Γ hS hq hx hst hn) gL_run_X6_run rfl (by decide +kernel) rfl (by decide) hS.x rfl rfl (Nat.le_of_ble_eq_true rfl) dL_run_8 rfl (Nat.le_of_ble_eq_true rfl) (Nat.le_of_ble_eq_true rfl) (fun E V1 hX => ?_) (fun rv V1 hp => ?_)
  · obtain ⟨hv, hX⟩ := hX
    rw [hv]
    rcases hX with ⟨he, hc⟩ | ⟨he, hc⟩
    · subst he
      refine zr_catch X Z (name := "java/lang/IndexOutOfBoundsException") [] ⟨0, 15, 18, 19⟩ [⟨0, 15, 22, 21⟩] rfl (fun z hz => by cases hz) (by decide) (by decide) w0 ⟨rfl, by decide⟩ (fun q9 => ?_)
      show zG C V 0 0 18 [(0, .ref (ad 1)), (1, .int (zI (q))), (2, .int (zI (x))), (3, .int (zI (st))), (4, .int (zI (n))), (5, .ref o)] [.ref q9]
      refine zr_astore X 20 [(6, .ref q9), (0, .ref (ad 1)), (1, .int (zI (q))), (2, .int (zI (x))), (3, .int (zI (st))), (4, .int (zI (n))), (5, .ref o)] dL_run_18 rfl (by decide) rfl ?_
      refine zr_iconst X 21 dL_run_20 rfl ?_
      exact zr_iret X rfl ⟨1, 0, σ, rfl, by decide, hS, zag.rf, ⟨on, os, ho, hs9, fun h => absurd h.1 (by decide)⟩, rfl, Or.inl (⟨rfl, hc, rfl⟩)⟩ dL_run_21
    · subst he
      have hps : ∀ z ∈ ([⟨0, 15, 18, 19⟩] : List ExceptionTableEntry), covers z 8 = false ∨ (z.catchType ≠ 0 ∧ ∃ nm : String, Cond.classLink RL z.catchType nm ∈ wsL_run ∧ ("java/lang/IllegalArgumentException", nm) ∈ zxn) := by
        intro z hz
        simp only [List.mem_cons, List.not_mem_nil, or_false] at hz
        rcases hz with rfl
        · exact Or.inr ⟨by decide, "java/lang/IndexOutOfBoundsException", w0, by decide⟩
      refine zr_catch X Z (name := "java/lang/IllegalArgumentException") [⟨0, 15, 18, 19⟩] ⟨0, 15, 22, 21⟩ [] rfl hps (by decide) (by decide) w1 ⟨rfl, by decide⟩ (fun q9 => ?_)
      show zG C V 0 0 22 [(0, .ref (ad 1)), (1, .int (zI (q))), (2, .int (zI (x))), (3, .int (zI (st))), (4, .int (zI (n))), (5, .ref o)] [.ref q9]
      refine zr_astore X 24 [(6, .ref q9), (0, .ref (ad 1)), (1, .int (zI (q))), (2, .int (zI (x))), (3, .int (zI (st))), (4, .int (zI (n))), (5, .ref o)] dL_run_22 rfl (by decide) rfl ?_
      refine zr_iconst X 25 dL_run_24 rfl ?_
      exact zr_iret X rfl ⟨2, 0, σ, rfl, by decide, hS, zag.rf, ⟨on, os, ho, hs9, fun h => absurd h.1 (by decide)⟩, rfl, Or.inr (Or.inl (⟨rfl, hc, rfl⟩))⟩ dL_run_25
  · skip
    obtain ⟨y, σ1, hr, hS1, hx1, hrel⟩ := hp
    rw [hr]
    have h32 : σ1 32 = σ 32 := by
      rcases hrel with ⟨⟨c1, c2, c3, c4, c5, c6, c7, c8⟩, c9, c10, c11, d15, c14⟩
      · exact (congrFun c14 32).trans ((zdn_ne (by decide)).trans ((zlyT_lo (by decide)).trans ((zw4_h8 (by decide) (by omega)).trans (rfl))))
    have ho1 := hx1 _ _ _ ho (by decide)
    show zG C V1 0 0 11 [(0, .ref (ad 1)), (1, .int (zI (q))), (2, .int (zI (x))), (3, .int (zI (st))), (4, .int (zI (n))), (5, .ref o)] [.int (zI (y)), .ref o]
    refine zr_i2l X 12 dL_run_11 rfl ?_
    obtain ⟨y1, y1e⟩ : ∃ zz9 : Int64, zz9 = (zI (y)).toInt64 := ⟨_, rfl⟩
    rw [← y1e]
    refine zr_putN X 15 8 0 9 [.long (y1), os] tyX7 ho1 rfl iX7 tyX7_ok nmX7 (by decide) rfl rfl rfl rfl rfl (Nat.le_of_ble_eq_true rfl) rfl dL_run_12 rfl ?_
    show zG C (zu V1 o 5 (.inr (8, [.long (y1), os]))) 0 0 15 [(0, .ref (ad 1)), (1, .int (zI (q))), (2, .int (zI (x))), (3, .int (zI (st))), (4, .int (zI (n))), (5, .ref o)] []
    have ha9 := zag.one (e' := .inr (8, [.long (y1), os])) ho1
    have hS2 := (hS1.out ha9)
    refine zr_goto X 26 dL_run_15 rfl ?_
    refine zr_iconst X 27 dL_run_26 rfl ?_
    exact zr_iret X rfl ⟨0, y, σ1, rfl, by decide, hS2, (hx1.mono (fun t ht => Or.inl ht)).tr (ha9.mono (fun t ht => by omega)), ⟨_, _, zu_eq _ _ _ _, hs9, fun _ => y1e⟩, h32, Or.inr (Or.inr (⟨rfl, hrel⟩))⟩ dL_run_27
set_option maxRecDepth 100000 in
set_option maxHeartbeats 4000000 in
theorem m_W_write (l : Launch) (hlt : l.stackTraces = false) (Γ : zGam) {V : zV} {ad : Nat → Nat} {σ : Nat → Int} {q x n : Int} {o : Nat} (hS : zS Γ V ad σ) (hq : -2147483648 ≤ q ∧ q ≤ 2147483647) (hx : -2147483648 ≤ x ∧ x ≤ 2147483647) (hn : -2147483648 ≤ n ∧ n ≤ 2147483647) (hO : zOut V o) : zM l Γ 9 yL_write wsL_write 3 18 V [.ref (ad 1), .int (zI (q)), .int (zI (x)), .int (zI (n)), .ref o] (zPR Γ V ad σ o True (zr6_write σ q x n)) := by
  have w0 : Cond.classLink RL 19 "java/lang/IndexOutOfBoundsException" ∈ wsL_write := by decide +kernel
  have w1 : Cond.classLink RL 21 "java/lang/IllegalArgumentException" ∈ wsL_write := by decide +kernel
  have iX7 : ∀ w ∈ u_ws RX7 TX7 2, w ∈ wsL_write := by decide +kernel
  refine zW_of (cc := cL_write) (nL := 6) (ret := (some .int)) (own := RL) (hh := [(0, 13, 16, 19), (0, 13, 20, 21)]) (by decide +kernel) rfl rfl (Nat.le_of_ble_eq_true rfl) (fun C X Z => ?_)
  obtain ⟨on, os, ho, hs9⟩ := id hO
  show zG C V 3 18 0 [(0, .ref (ad 1)), (1, .int (zI (q))), (2, .int (zI (x))), (3, .int (zI (n))), (4, .ref o)] []
  refine zr_aload X 2 4 dL_write_0 rfl rfl ?_
  refine zr_aload_n X 3 0 dL_write_2 rfl rfl ?_
  refine zr_iload_n X 4 1 dL_write_3 rfl rfl ?_
  refine zr_iload_n X 5 2 dL_write_4 rfl rfl ?_
  refine zr_iload_n X 6 3 dL_write_5 rfl rfl ?_
  refine zr_callVCe (kc' := 0) (ks' := 0) X 9 3 (m_X6_write l hlt Γ hS hq hx hn) gL_write_X6_write rfl (by decide +kernel) rfl (by decide) hS.x rfl rfl (Nat.le_of_ble_eq_true rfl) dL_write_6 rfl (Nat.le_of_ble_eq_true rfl) (Nat.le_of_ble_eq_true rfl) (fun E V1 hX => ?_) (fun rv V1 hp => ?_)
  · obtain ⟨hv, hX⟩ := hX
    rw [hv]
    rcases hX with ⟨he, hc⟩ | ⟨he, hc⟩
    · subst he
      refine zr_catch X Z (name := "java/lang/IndexOutOfBoundsException") [] ⟨0, 13, 16, 19⟩ [⟨0, 13, 20, 21⟩] rfl (fun z hz => by cases hz) (by decide) (by decide) w0 ⟨rfl, by decide⟩ (fun q9 => ?_)
      show zG C V 0 0 16 [(0, .ref (ad 1)), (1, .int (zI (q))), (2, .int (zI (x))), (3, .int (zI (n))), (4, .ref o)] [.ref q9]
      refine zr_astore X 18 [(5, .ref q9), (0, .ref (ad 1)), (1, .int (zI (q))), (2, .int (zI (x))), (3, .int (zI (n))), (4, .ref o)] dL_write_16 rfl (by decide) rfl ?_
      refine zr_iconst X 19 dL_write_18 rfl ?_
      exact zr_iret X rfl ⟨1, 0, σ, rfl, by decide, hS, zag.rf, ⟨on, os, ho, hs9, fun h => absurd h.1 (by decide)⟩, rfl, Or.inl (⟨rfl, hc, rfl⟩)⟩ dL_write_19
    · subst he
      have hps : ∀ z ∈ ([⟨0, 13, 16, 19⟩] : List ExceptionTableEntry), covers z 6 = false ∨ (z.catchType ≠ 0 ∧ ∃ nm : String, Cond.classLink RL z.catchType nm ∈ wsL_write ∧ ("java/lang/IllegalArgumentException", nm) ∈ zxn) := by
        intro z hz
        simp only [List.mem_cons, List.not_mem_nil, or_false] at hz
        rcases hz with rfl
        · exact Or.inr ⟨by decide, "java/lang/IndexOutOfBoundsException", w0, by decide⟩
      refine zr_catch X Z (name := "java/lang/IllegalArgumentException") [⟨0, 13, 16, 19⟩] ⟨0, 13, 20, 21⟩ [] rfl hps (by decide) (by decide) w1 ⟨rfl, by decide⟩ (fun q9 => ?_)
      show zG C V 0 0 20 [(0, .ref (ad 1)), (1, .int (zI (q))), (2, .int (zI (x))), (3, .int (zI (n))), (4, .ref o)] [.ref q9]
      refine zr_astore X 22 [(5, .ref q9), (0, .ref (ad 1)), (1, .int (zI (q))), (2, .int (zI (x))), (3, .int (zI (n))), (4, .ref o)] dL_write_20 rfl (by decide) rfl ?_
      refine zr_iconst X 23 dL_write_22 rfl ?_
      exact zr_iret X rfl ⟨2, 0, σ, rfl, by decide, hS, zag.rf, ⟨on, os, ho, hs9, fun h => absurd h.1 (by decide)⟩, rfl, Or.inr (Or.inl (⟨rfl, hc, rfl⟩))⟩ dL_write_23
  · skip
    obtain ⟨y, σ1, hr, hS1, hx1, hrel⟩ := hp
    rw [hr]
    have h32 : σ1 32 = σ 32 := by
      rcases hrel with ⟨⟨c1, c2, c3, c4, c5⟩, c6, c7, c8, d12, c11⟩
      · exact (congrFun c11 32).trans ((zdn_ne (by decide)).trans ((zlyT_lo (by decide)).trans ((zw4_h8 (by decide) (by omega)).trans (rfl))))
    have ho1 := hx1 _ _ _ ho (by decide)
    show zG C V1 0 0 9 [(0, .ref (ad 1)), (1, .int (zI (q))), (2, .int (zI (x))), (3, .int (zI (n))), (4, .ref o)] [.int (zI (y)), .ref o]
    refine zr_i2l X 10 dL_write_9 rfl ?_
    obtain ⟨y1, y1e⟩ : ∃ zz9 : Int64, zz9 = (zI (y)).toInt64 := ⟨_, rfl⟩
    rw [← y1e]
    refine zr_putN X 13 8 0 9 [.long (y1), os] tyX7 ho1 rfl iX7 tyX7_ok nmX7 (by decide) rfl rfl rfl rfl rfl (Nat.le_of_ble_eq_true rfl) rfl dL_write_10 rfl ?_
    show zG C (zu V1 o 5 (.inr (8, [.long (y1), os]))) 0 0 13 [(0, .ref (ad 1)), (1, .int (zI (q))), (2, .int (zI (x))), (3, .int (zI (n))), (4, .ref o)] []
    have ha9 := zag.one (e' := .inr (8, [.long (y1), os])) ho1
    have hS2 := (hS1.out ha9)
    refine zr_goto X 24 dL_write_13 rfl ?_
    refine zr_iconst X 25 dL_write_24 rfl ?_
    exact zr_iret X rfl ⟨0, y, σ1, rfl, by decide, hS2, (hx1.mono (fun t ht => Or.inl ht)).tr (ha9.mono (fun t ht => by omega)), ⟨_, _, zu_eq _ _ _ _, hs9, fun _ => y1e⟩, h32, Or.inr (Or.inr (⟨rfl, hrel⟩))⟩ dL_write_25
set_option maxRecDepth 100000 in
set_option maxHeartbeats 4000000 in
theorem m_W_get (l : Launch) (hlt : l.stackTraces = false) (Γ : zGam) {V : zV} {ad : Nat → Nat} {σ : Nat → Int} {q : Int} {o : Nat} (hS : zS Γ V ad σ) (hq : -2147483648 ≤ q ∧ q ≤ 2147483647) (hO : zOut V o) : zM l Γ 9 yL_get wsL_get 2 12 V [.ref (ad 1), .int (zI (q)), .ref o] (zPR Γ V ad σ o True (zr6_get σ q)) := by
  have w0 : Cond.classLink RL 19 "java/lang/IndexOutOfBoundsException" ∈ wsL_get := by decide +kernel
  have iX7 : ∀ w ∈ u_ws RX7 TX7 2, w ∈ wsL_get := by decide +kernel
  refine zW_of (cc := cL_get) (nL := 4) (ret := (some .int)) (own := RL) (hh := [(0, 10, 13, 19)]) (by decide +kernel) rfl rfl (Nat.le_of_ble_eq_true rfl) (fun C X Z => ?_)
  obtain ⟨on, os, ho, hs9⟩ := id hO
  show zG C V 2 12 0 [(0, .ref (ad 1)), (1, .int (zI (q))), (2, .ref o)] []
  refine zr_aload_n X 1 2 dL_get_0 rfl rfl ?_
  refine zr_aload_n X 2 0 dL_get_1 rfl rfl ?_
  refine zr_iload_n X 3 1 dL_get_2 rfl rfl ?_
  refine zr_callVCe (kc' := 0) (ks' := 0) X 6 1 (m_X6_get l hlt Γ hS hq) gL_get_X6_get rfl (by decide +kernel) rfl (by decide) hS.x rfl rfl (Nat.le_of_ble_eq_true rfl) dL_get_3 rfl (Nat.le_of_ble_eq_true rfl) (Nat.le_of_ble_eq_true rfl) (fun E V1 hX => ?_) (fun rv V1 hp => ?_)
  · obtain ⟨hv, hX⟩ := hX
    rw [hv]
    rcases hX with ⟨he, hc⟩ | ⟨he, hc⟩
    · subst he
      refine zr_catch X Z (name := "java/lang/IndexOutOfBoundsException") [] ⟨0, 10, 13, 19⟩ [] rfl (fun z hz => by cases hz) (by decide) (by decide) w0 ⟨rfl, by decide⟩ (fun q9 => ?_)
      show zG C V 0 0 13 [(0, .ref (ad 1)), (1, .int (zI (q))), (2, .ref o)] [.ref q9]
      refine zr_astore_n X 14 [(3, .ref q9), (0, .ref (ad 1)), (1, .int (zI (q))), (2, .ref o)] dL_get_13 rfl (by decide) rfl ?_
      refine zr_iconst X 15 dL_get_14 rfl ?_
      exact zr_iret X rfl ⟨1, 0, σ, rfl, by decide, hS, zag.rf, ⟨on, os, ho, hs9, fun h => absurd h.1 (by decide)⟩, rfl, Or.inl (⟨rfl, hc, rfl⟩)⟩ dL_get_15
    · subst he
      exact hc.elim
  · skip
    obtain ⟨y, σ1, hr, hS1, hx1, hrel⟩ := hp
    rw [hr]
    have h32 : σ1 32 = σ 32 := by
      rcases hrel with ⟨⟨c1, c2⟩, (⟨c3, c4, c5⟩ | ⟨c6, c7, c8⟩)⟩
      · exact (congrFun c5 32).trans ((zrf_lo (by decide)).trans (rfl))
      · exact (congrFun c8 32).trans ((zdn_ne (by decide)).trans ((zw4_h8 (by decide) (by omega)).trans (rfl)))
    have ho1 := hx1 _ _ _ ho (by decide)
    show zG C V1 0 0 6 [(0, .ref (ad 1)), (1, .int (zI (q))), (2, .ref o)] [.int (zI (y)), .ref o]
    refine zr_i2l X 7 dL_get_6 rfl ?_
    obtain ⟨y1, y1e⟩ : ∃ zz9 : Int64, zz9 = (zI (y)).toInt64 := ⟨_, rfl⟩
    rw [← y1e]
    refine zr_putN X 10 8 0 9 [.long (y1), os] tyX7 ho1 rfl iX7 tyX7_ok nmX7 (by decide) rfl rfl rfl rfl rfl (Nat.le_of_ble_eq_true rfl) rfl dL_get_7 rfl ?_
    show zG C (zu V1 o 5 (.inr (8, [.long (y1), os]))) 0 0 10 [(0, .ref (ad 1)), (1, .int (zI (q))), (2, .ref o)] []
    have ha9 := zag.one (e' := .inr (8, [.long (y1), os])) ho1
    have hS2 := (hS1.out ha9)
    refine zr_goto X 16 dL_get_10 rfl ?_
    refine zr_iconst X 17 dL_get_16 rfl ?_
    exact zr_iret X rfl ⟨0, y, σ1, rfl, by decide, hS2, (hx1.mono (fun t ht => Or.inl ht)).tr (ha9.mono (fun t ht => by omega)), ⟨_, _, zu_eq _ _ _ _, hs9, fun _ => y1e⟩, h32, Or.inr (⟨rfl, hrel⟩)⟩ dL_get_17
set_option maxRecDepth 100000 in
set_option maxHeartbeats 4000000 in
theorem m_W_read (l : Launch) (hlt : l.stackTraces = false) (Γ : zGam) {V : zV} {ad : Nat → Nat} {σ : Nat → Int} {q n : Int} {o : Nat} (hS : zS Γ V ad σ) (hq : -2147483648 ≤ q ∧ q ≤ 2147483647) (hn : -2147483648 ≤ n ∧ n ≤ 2147483647) (hO : zOut V o) : zM l Γ 11 yL_read wsL_read 3010 6300 V [.ref (ad 1), .int (zI (q)), .int (zI (n)), .ref o] (zPR Γ V ad σ o False (zr6_read σ q n)) := by
  have w0 : Cond.classLink RL 19 "java/lang/IndexOutOfBoundsException" ∈ wsL_read := by decide +kernel
  have w1 : Cond.classLink RL 21 "java/lang/IllegalArgumentException" ∈ wsL_read := by decide +kernel
  have iX7 : ∀ w ∈ u_ws RX7 TX7 2, w ∈ wsL_read := by decide +kernel
  refine zW_of (cc := cL_read) (nL := 5) (ret := (some .int)) (own := RL) (hh := [(0, 10, 13, 19), (0, 10, 17, 21)]) (by decide +kernel) rfl rfl (Nat.le_of_ble_eq_true rfl) (fun C X Z => ?_)
  obtain ⟨on, os, ho, hs9⟩ := id hO
  show zG C V 3010 6300 0 [(0, .ref (ad 1)), (1, .int (zI (q))), (2, .int (zI (n))), (3, .ref o)] []
  refine zr_aload_n X 1 3 dL_read_0 rfl rfl ?_
  refine zr_aload_n X 2 0 dL_read_1 rfl rfl ?_
  refine zr_iload_n X 3 1 dL_read_2 rfl rfl ?_
  refine zr_iload_n X 4 2 dL_read_3 rfl rfl ?_
  refine zr_callVCe (kc' := 0) (ks' := 0) X 7 2 (m_X6_read l hlt Γ hS hq hn) gL_read_X6_read rfl (by decide +kernel) rfl (by decide) hS.x rfl rfl (Nat.le_of_ble_eq_true rfl) dL_read_4 rfl (Nat.le_of_ble_eq_true rfl) (Nat.le_of_ble_eq_true rfl) (fun E V1 hX => ?_) (fun rv V1 hp => ?_)
  · obtain ⟨hv, hX⟩ := hX
    rw [hv]
    rcases hX with ⟨he, hc⟩ | ⟨he, hc⟩
    · subst he
      refine zr_catch X Z (name := "java/lang/IndexOutOfBoundsException") [] ⟨0, 10, 13, 19⟩ [⟨0, 10, 17, 21⟩] rfl (fun z hz => by cases hz) (by decide) (by decide) w0 ⟨rfl, by decide⟩ (fun q9 => ?_)
      show zG C V 0 0 13 [(0, .ref (ad 1)), (1, .int (zI (q))), (2, .int (zI (n))), (3, .ref o)] [.ref q9]
      refine zr_astore X 15 [(4, .ref q9), (0, .ref (ad 1)), (1, .int (zI (q))), (2, .int (zI (n))), (3, .ref o)] dL_read_13 rfl (by decide) rfl ?_
      refine zr_iconst X 16 dL_read_15 rfl ?_
      exact zr_iret X rfl ⟨1, 0, σ, rfl, by decide, hS, zag.rf, ⟨on, os, ho, hs9, fun h => absurd h.1 (by decide)⟩, rfl, Or.inl (⟨rfl, hc, rfl⟩)⟩ dL_read_16
    · subst he
      have hps : ∀ z ∈ ([⟨0, 10, 13, 19⟩] : List ExceptionTableEntry), covers z 4 = false ∨ (z.catchType ≠ 0 ∧ ∃ nm : String, Cond.classLink RL z.catchType nm ∈ wsL_read ∧ ("java/lang/IllegalArgumentException", nm) ∈ zxn) := by
        intro z hz
        simp only [List.mem_cons, List.not_mem_nil, or_false] at hz
        rcases hz with rfl
        · exact Or.inr ⟨by decide, "java/lang/IndexOutOfBoundsException", w0, by decide⟩
      refine zr_catch X Z (name := "java/lang/IllegalArgumentException") [⟨0, 10, 13, 19⟩] ⟨0, 10, 17, 21⟩ [] rfl hps (by decide) (by decide) w1 ⟨rfl, by decide⟩ (fun q9 => ?_)
      show zG C V 0 0 17 [(0, .ref (ad 1)), (1, .int (zI (q))), (2, .int (zI (n))), (3, .ref o)] [.ref q9]
      refine zr_astore X 19 [(4, .ref q9), (0, .ref (ad 1)), (1, .int (zI (q))), (2, .int (zI (n))), (3, .ref o)] dL_read_17 rfl (by decide) rfl ?_
      refine zr_iconst X 20 dL_read_19 rfl ?_
      exact zr_iret X rfl ⟨2, 0, σ, rfl, by decide, hS, zag.rf, ⟨on, os, ho, hs9, fun h => absurd h.1 (by decide)⟩, rfl, Or.inr (Or.inl (⟨rfl, hc, rfl⟩))⟩ dL_read_20
  · skip
    obtain ⟨y, σ1, hr, hS1, hx1, hrel⟩ := hp
    rw [hr]
    have h32 : σ1 32 = σ 32 := by
      rcases hrel with ⟨⟨c1, c2, c3, c4⟩, ⟨k, ⟨c5, c6, c7, d11, c10⟩⟩⟩
      · exact (congrFun c10 32).trans ((zdn_ne (by decide)).trans ((zw4_h8 (by decide) (by omega)).trans (rfl)))
    have ho1 := hx1 _ _ _ ho (by decide)
    show zG C V1 0 0 7 [(0, .ref (ad 1)), (1, .int (zI (q))), (2, .int (zI (n))), (3, .ref o)] [.ref y, .ref o]
    refine zr_putN X 10 8 1 10 [.long on, .ref y] tyX7 ho1 rfl iX7 tyX7_ok nmX7 (by decide) rfl rfl rfl rfl rfl (Nat.le_of_ble_eq_true rfl) rfl dL_read_7 rfl ?_
    show zG C (zu V1 o 5 (.inr (8, [.long on, .ref y]))) 0 0 10 [(0, .ref (ad 1)), (1, .int (zI (q))), (2, .int (zI (n))), (3, .ref o)] []
    have ha9 := zag.one (e' := .inr (8, [.long on, .ref y])) ho1
    have hS2 := (hS1.out ha9)
    refine zr_goto X 21 dL_read_10 rfl ?_
    refine zr_iconst X 22 dL_read_21 rfl ?_
    exact zr_iret X rfl ⟨0, 0, σ1, rfl, by decide, hS2, (hx1.mono (fun t ht => Or.inl ht)).tr (ha9.mono (fun t ht => by omega)), ⟨_, _, zu_eq _ _ _ _, Or.inr ⟨_, rfl⟩, fun h => h.2.elim⟩, h32, Or.inr (Or.inr (⟨rfl, hrel⟩))⟩ dL_read_22
set_option maxRecDepth 100000 in
set_option maxHeartbeats 4000000 in
theorem m_W_pour_ne (l : Launch) (hlt : l.stackTraces = false) (Γ : zGam) {V : zV} {ad : Nat → Nat} {σ : Nat → Int} {q q2 n : Int} {o : Nat} (hS : zS Γ V ad σ) (hq : -2147483648 ≤ q ∧ q ≤ 2147483647) (hq2 : -2147483648 ≤ q2 ∧ q2 ≤ 2147483647) (hn : -2147483648 ≤ n ∧ n ≤ 2147483647) (hne : q ≠ q2) (hO : zOut V o) : zM l Γ 9 yL_pour wsL_pour 4 24 V [.ref (ad 1), .int (zI (q)), .int (zI (q2)), .int (zI (n)), .ref o] (zPR Γ V ad σ o True (zr6_pour σ q q2 n)) := by
  have w0 : Cond.classLink RL 19 "java/lang/IndexOutOfBoundsException" ∈ wsL_pour := by decide +kernel
  have w1 : Cond.classLink RL 21 "java/lang/IllegalArgumentException" ∈ wsL_pour := by decide +kernel
  have iX7 : ∀ w ∈ u_ws RX7 TX7 2, w ∈ wsL_pour := by decide +kernel
  refine zW_of (cc := cL_pour) (nL := 6) (ret := (some .int)) (own := RL) (hh := [(0, 13, 16, 19), (0, 13, 20, 21)]) (by decide +kernel) rfl rfl (Nat.le_of_ble_eq_true rfl) (fun C X Z => ?_)
  obtain ⟨on, os, ho, hs9⟩ := id hO
  show zG C V 4 24 0 [(0, .ref (ad 1)), (1, .int (zI (q))), (2, .int (zI (q2))), (3, .int (zI (n))), (4, .ref o)] []
  refine zr_aload X 2 4 dL_pour_0 rfl rfl ?_
  refine zr_aload_n X 3 0 dL_pour_2 rfl rfl ?_
  refine zr_iload_n X 4 1 dL_pour_3 rfl rfl ?_
  refine zr_iload_n X 5 2 dL_pour_4 rfl rfl ?_
  refine zr_iload_n X 6 3 dL_pour_5 rfl rfl ?_
  refine zr_callVCe (kc' := 0) (ks' := 0) X 9 3 (m_X6_pour_ne l hlt Γ hS hq hq2 hn hne) gL_pour_X6_pour rfl (by decide +kernel) rfl (by decide) hS.x rfl rfl (Nat.le_of_ble_eq_true rfl) dL_pour_6 rfl (Nat.le_of_ble_eq_true rfl) (Nat.le_of_ble_eq_true rfl) (fun E V1 hX => ?_) (fun rv V1 hp => ?_)
  · obtain ⟨hv, hX⟩ := hX
    rw [hv]
    rcases hX with ⟨he, hc⟩ | ⟨he, hc⟩
    · subst he
      refine zr_catch X Z (name := "java/lang/IndexOutOfBoundsException") [] ⟨0, 13, 16, 19⟩ [⟨0, 13, 20, 21⟩] rfl (fun z hz => by cases hz) (by decide) (by decide) w0 ⟨rfl, by decide⟩ (fun q9 => ?_)
      show zG C V 0 0 16 [(0, .ref (ad 1)), (1, .int (zI (q))), (2, .int (zI (q2))), (3, .int (zI (n))), (4, .ref o)] [.ref q9]
      refine zr_astore X 18 [(5, .ref q9), (0, .ref (ad 1)), (1, .int (zI (q))), (2, .int (zI (q2))), (3, .int (zI (n))), (4, .ref o)] dL_pour_16 rfl (by decide) rfl ?_
      refine zr_iconst X 19 dL_pour_18 rfl ?_
      exact zr_iret X rfl ⟨1, 0, σ, rfl, by decide, hS, zag.rf, ⟨on, os, ho, hs9, fun h => absurd h.1 (by decide)⟩, rfl, Or.inl (⟨rfl, hc, rfl⟩)⟩ dL_pour_19
    · subst he
      have hps : ∀ z ∈ ([⟨0, 13, 16, 19⟩] : List ExceptionTableEntry), covers z 6 = false ∨ (z.catchType ≠ 0 ∧ ∃ nm : String, Cond.classLink RL z.catchType nm ∈ wsL_pour ∧ ("java/lang/IllegalArgumentException", nm) ∈ zxn) := by
        intro z hz
        simp only [List.mem_cons, List.not_mem_nil, or_false] at hz
        rcases hz with rfl
        · exact Or.inr ⟨by decide, "java/lang/IndexOutOfBoundsException", w0, by decide⟩
      refine zr_catch X Z (name := "java/lang/IllegalArgumentException") [⟨0, 13, 16, 19⟩] ⟨0, 13, 20, 21⟩ [] rfl hps (by decide) (by decide) w1 ⟨rfl, by decide⟩ (fun q9 => ?_)
      show zG C V 0 0 20 [(0, .ref (ad 1)), (1, .int (zI (q))), (2, .int (zI (q2))), (3, .int (zI (n))), (4, .ref o)] [.ref q9]
      refine zr_astore X 22 [(5, .ref q9), (0, .ref (ad 1)), (1, .int (zI (q))), (2, .int (zI (q2))), (3, .int (zI (n))), (4, .ref o)] dL_pour_20 rfl (by decide) rfl ?_
      refine zr_iconst X 23 dL_pour_22 rfl ?_
      exact zr_iret X rfl ⟨2, 0, σ, rfl, by decide, hS, zag.rf, ⟨on, os, ho, hs9, fun h => absurd h.1 (by decide)⟩, rfl, Or.inr (Or.inl (⟨rfl, hc, rfl⟩))⟩ dL_pour_23
  · skip
    obtain ⟨y, σ1, hr, hS1, hx1, hrel⟩ := hp
    rw [hr]
    have h32 : σ1 32 = σ 32 := by
      rcases hrel with ⟨⟨c1, c2, c3, c4, c5, c6, c7⟩, c8, c9, c10, c11, d16, c15⟩
      · exact (congrFun c15 32).trans ((zdn_ne (by decide)).trans ((zpoT_lo (by decide)).trans ((zw4_h8 (by decide) (by omega)).trans ((zw4_h8 (by decide) (by omega)).trans (rfl)))))
    have ho1 := hx1 _ _ _ ho (by decide)
    show zG C V1 0 0 9 [(0, .ref (ad 1)), (1, .int (zI (q))), (2, .int (zI (q2))), (3, .int (zI (n))), (4, .ref o)] [.int (zI (y)), .ref o]
    refine zr_i2l X 10 dL_pour_9 rfl ?_
    obtain ⟨y1, y1e⟩ : ∃ zz9 : Int64, zz9 = (zI (y)).toInt64 := ⟨_, rfl⟩
    rw [← y1e]
    refine zr_putN X 13 8 0 9 [.long (y1), os] tyX7 ho1 rfl iX7 tyX7_ok nmX7 (by decide) rfl rfl rfl rfl rfl (Nat.le_of_ble_eq_true rfl) rfl dL_pour_10 rfl ?_
    show zG C (zu V1 o 5 (.inr (8, [.long (y1), os]))) 0 0 13 [(0, .ref (ad 1)), (1, .int (zI (q))), (2, .int (zI (q2))), (3, .int (zI (n))), (4, .ref o)] []
    have ha9 := zag.one (e' := .inr (8, [.long (y1), os])) ho1
    have hS2 := (hS1.out ha9)
    refine zr_goto X 24 dL_pour_13 rfl ?_
    refine zr_iconst X 25 dL_pour_24 rfl ?_
    exact zr_iret X rfl ⟨0, y, σ1, rfl, by decide, hS2, (hx1.mono (fun t ht => Or.inl ht)).tr (ha9.mono (fun t ht => by omega)), ⟨_, _, zu_eq _ _ _ _, hs9, fun _ => y1e⟩, h32, Or.inr (Or.inr (⟨rfl, hrel⟩))⟩ dL_pour_25
set_option maxRecDepth 100000 in
set_option maxHeartbeats 4000000 in
theorem m_W_pour_eq (l : Launch) (hlt : l.stackTraces = false) (Γ : zGam) {V : zV} {ad : Nat → Nat} {σ : Nat → Int} {q n : Int} {o : Nat} (hS : zS Γ V ad σ) (hq : -2147483648 ≤ q ∧ q ≤ 2147483647) (hn : -2147483648 ≤ n ∧ n ≤ 2147483647) (hO : zOut V o) : zM l Γ 9 yL_pour wsL_pour 4 24 V [.ref (ad 1), .int (zI (q)), .int (zI (q)), .int (zI (n)), .ref o] (zPR Γ V ad σ o True (zr6_pour σ q q n)) := by
  have w0 : Cond.classLink RL 19 "java/lang/IndexOutOfBoundsException" ∈ wsL_pour := by decide +kernel
  have w1 : Cond.classLink RL 21 "java/lang/IllegalArgumentException" ∈ wsL_pour := by decide +kernel
  refine zW_of (cc := cL_pour) (nL := 6) (ret := (some .int)) (own := RL) (hh := [(0, 13, 16, 19), (0, 13, 20, 21)]) (by decide +kernel) rfl rfl (Nat.le_of_ble_eq_true rfl) (fun C X Z => ?_)
  obtain ⟨on, os, ho, hs9⟩ := id hO
  show zG C V 4 24 0 [(0, .ref (ad 1)), (1, .int (zI (q))), (2, .int (zI (q))), (3, .int (zI (n))), (4, .ref o)] []
  refine zr_aload X 2 4 dL_pour_0 rfl rfl ?_
  refine zr_aload_n X 3 0 dL_pour_2 rfl rfl ?_
  refine zr_iload_n X 4 1 dL_pour_3 rfl rfl ?_
  refine zr_iload_n X 5 2 dL_pour_4 rfl rfl ?_
  refine zr_iload_n X 6 3 dL_pour_5 rfl rfl ?_
  refine zr_callVCe (kc' := 0) (ks' := 0) X 9 3 (m_X6_pour_eq l hlt Γ hS hq hn) gL_pour_X6_pour rfl (by decide +kernel) rfl (by decide) hS.x rfl rfl (Nat.le_of_ble_eq_true rfl) dL_pour_6 rfl (Nat.le_of_ble_eq_true rfl) (Nat.le_of_ble_eq_true rfl) (fun E V1 hX => ?_) (fun rv V1 hp => ?_)
  · obtain ⟨hv, hX⟩ := hX
    rw [hv]
    rcases hX with ⟨he, hc⟩ | ⟨he, hc⟩
    · subst he
      refine zr_catch X Z (name := "java/lang/IndexOutOfBoundsException") [] ⟨0, 13, 16, 19⟩ [⟨0, 13, 20, 21⟩] rfl (fun z hz => by cases hz) (by decide) (by decide) w0 ⟨rfl, by decide⟩ (fun q9 => ?_)
      show zG C V 0 0 16 [(0, .ref (ad 1)), (1, .int (zI (q))), (2, .int (zI (q))), (3, .int (zI (n))), (4, .ref o)] [.ref q9]
      refine zr_astore X 18 [(5, .ref q9), (0, .ref (ad 1)), (1, .int (zI (q))), (2, .int (zI (q))), (3, .int (zI (n))), (4, .ref o)] dL_pour_16 rfl (by decide) rfl ?_
      refine zr_iconst X 19 dL_pour_18 rfl ?_
      exact zr_iret X rfl ⟨1, 0, σ, rfl, by decide, hS, zag.rf, ⟨on, os, ho, hs9, fun h => absurd h.1 (by decide)⟩, rfl, Or.inl (⟨rfl, (by omega), rfl⟩)⟩ dL_pour_19
    · subst he
      have hps : ∀ z ∈ ([⟨0, 13, 16, 19⟩] : List ExceptionTableEntry), covers z 6 = false ∨ (z.catchType ≠ 0 ∧ ∃ nm : String, Cond.classLink RL z.catchType nm ∈ wsL_pour ∧ ("java/lang/IllegalArgumentException", nm) ∈ zxn) := by
        intro z hz
        simp only [List.mem_cons, List.not_mem_nil, or_false] at hz
        rcases hz with rfl
        · exact Or.inr ⟨by decide, "java/lang/IndexOutOfBoundsException", w0, by decide⟩
      refine zr_catch X Z (name := "java/lang/IllegalArgumentException") [⟨0, 13, 16, 19⟩] ⟨0, 13, 20, 21⟩ [] rfl hps (by decide) (by decide) w1 ⟨rfl, by decide⟩ (fun q9 => ?_)
      show zG C V 0 0 20 [(0, .ref (ad 1)), (1, .int (zI (q))), (2, .int (zI (q))), (3, .int (zI (n))), (4, .ref o)] [.ref q9]
      refine zr_astore X 22 [(5, .ref q9), (0, .ref (ad 1)), (1, .int (zI (q))), (2, .int (zI (q))), (3, .int (zI (n))), (4, .ref o)] dL_pour_20 rfl (by decide) rfl ?_
      refine zr_iconst X 23 dL_pour_22 rfl ?_
      exact zr_iret X rfl ⟨2, 0, σ, rfl, by decide, hS, zag.rf, ⟨on, os, ho, hs9, fun h => absurd h.1 (by decide)⟩, rfl, Or.inr (Or.inl (⟨rfl, (by omega), rfl⟩))⟩ dL_pour_23
  · skip
    obtain ⟨y, σ1, hr, hS1, hx1, hrel⟩ := hp
    rw [hr]
    exact hrel.elim
set_option maxRecDepth 100000 in
set_option maxHeartbeats 4000000 in
theorem m_W_mark (l : Launch) (hlt : l.stackTraces = false) (Γ : zGam) {V : zV} {ad : Nat → Nat} {σ : Nat → Int} {q : Int} {o : Nat} (hS : zS Γ V ad σ) (hq : -2147483648 ≤ q ∧ q ≤ 2147483647) (hO : zOut V o) : zM l Γ 9 yL_mark wsL_mark 1 6 V [.ref (ad 1), .int (zI (q)), .ref o] (zPR Γ V ad σ o True (zr6_mark σ q)) := by
  have w0 : Cond.classLink RL 19 "java/lang/IndexOutOfBoundsException" ∈ wsL_mark := by decide +kernel
  have iX7 : ∀ w ∈ u_ws RX7 TX7 2, w ∈ wsL_mark := by decide +kernel
  refine zW_of (cc := cL_mark) (nL := 4) (ret := (some .int)) (own := RL) (hh := [(0, 10, 13, 19)]) (by decide +kernel) rfl rfl (Nat.le_of_ble_eq_true rfl) (fun C X Z => ?_)
  obtain ⟨on, os, ho, hs9⟩ := id hO
  show zG C V 1 6 0 [(0, .ref (ad 1)), (1, .int (zI (q))), (2, .ref o)] []
  refine zr_aload_n X 1 2 dL_mark_0 rfl rfl ?_
  refine zr_aload_n X 2 0 dL_mark_1 rfl rfl ?_
  refine zr_iload_n X 3 1 dL_mark_2 rfl rfl ?_
  refine zr_callVCe (kc' := 0) (ks' := 0) X 6 1 (m_X6_mark l hlt Γ hS hq) gL_mark_X6_mark rfl (by decide +kernel) rfl (by decide) hS.x rfl rfl (Nat.le_of_ble_eq_true rfl) dL_mark_3 rfl (Nat.le_of_ble_eq_true rfl) (Nat.le_of_ble_eq_true rfl) (fun E V1 hX => ?_) (fun rv V1 hp => ?_)
  · obtain ⟨hv, hX⟩ := hX
    rw [hv]
    rcases hX with ⟨he, hc⟩ | ⟨he, hc⟩
    · subst he
      refine zr_catch X Z (name := "java/lang/IndexOutOfBoundsException") [] ⟨0, 10, 13, 19⟩ [] rfl (fun z hz => by cases hz) (by decide) (by decide) w0 ⟨rfl, by decide⟩ (fun q9 => ?_)
      show zG C V 0 0 13 [(0, .ref (ad 1)), (1, .int (zI (q))), (2, .ref o)] [.ref q9]
      refine zr_astore_n X 14 [(3, .ref q9), (0, .ref (ad 1)), (1, .int (zI (q))), (2, .ref o)] dL_mark_13 rfl (by decide) rfl ?_
      refine zr_iconst X 15 dL_mark_14 rfl ?_
      exact zr_iret X rfl ⟨1, 0, σ, rfl, by decide, hS, zag.rf, ⟨on, os, ho, hs9, fun h => absurd h.1 (by decide)⟩, rfl, Or.inl (⟨rfl, hc, rfl⟩)⟩ dL_mark_15
    · subst he
      exact hc.elim
  · skip
    obtain ⟨y, σ1, hr, hS1, hx1, hrel⟩ := hp
    rw [hr]
    have h32 : σ1 32 = σ 32 := by
      rcases hrel with ⟨⟨c1, c2⟩, c3, c4⟩
      · exact (congrFun c4 32).trans ((zdn_ne (by decide)).trans ((zw4_h8 (by decide) (by omega)).trans (rfl)))
    have ho1 := hx1 _ _ _ ho (by decide)
    show zG C V1 0 0 6 [(0, .ref (ad 1)), (1, .int (zI (q))), (2, .ref o)] [.int (zI (y)), .ref o]
    refine zr_i2l X 7 dL_mark_6 rfl ?_
    obtain ⟨y1, y1e⟩ : ∃ zz9 : Int64, zz9 = (zI (y)).toInt64 := ⟨_, rfl⟩
    rw [← y1e]
    refine zr_putN X 10 8 0 9 [.long (y1), os] tyX7 ho1 rfl iX7 tyX7_ok nmX7 (by decide) rfl rfl rfl rfl rfl (Nat.le_of_ble_eq_true rfl) rfl dL_mark_7 rfl ?_
    show zG C (zu V1 o 5 (.inr (8, [.long (y1), os]))) 0 0 10 [(0, .ref (ad 1)), (1, .int (zI (q))), (2, .ref o)] []
    have ha9 := zag.one (e' := .inr (8, [.long (y1), os])) ho1
    have hS2 := (hS1.out ha9)
    refine zr_goto X 16 dL_mark_10 rfl ?_
    refine zr_iconst X 17 dL_mark_16 rfl ?_
    exact zr_iret X rfl ⟨0, y, σ1, rfl, by decide, hS2, (hx1.mono (fun t ht => Or.inl ht)).tr (ha9.mono (fun t ht => by omega)), ⟨_, _, zu_eq _ _ _ _, hs9, fun _ => y1e⟩, h32, Or.inr (⟨rfl, hrel⟩)⟩ dL_mark_17
set_option maxRecDepth 100000 in
set_option maxHeartbeats 4000000 in
theorem m_W_reset (l : Launch) (hlt : l.stackTraces = false) (Γ : zGam) {V : zV} {ad : Nat → Nat} {σ : Nat → Int} {q : Int} {o : Nat} (hS : zS Γ V ad σ) (hq : -2147483648 ≤ q ∧ q ≤ 2147483647) (hO : zOut V o) : zM l Γ 9 yL_reset wsL_reset 1 6 V [.ref (ad 1), .int (zI (q)), .ref o] (zPR Γ V ad σ o True (zr6_reset σ q)) := by
  have w0 : Cond.classLink RL 19 "java/lang/IndexOutOfBoundsException" ∈ wsL_reset := by decide +kernel
  have iX7 : ∀ w ∈ u_ws RX7 TX7 2, w ∈ wsL_reset := by decide +kernel
  refine zW_of (cc := cL_reset) (nL := 4) (ret := (some .int)) (own := RL) (hh := [(0, 10, 13, 19)]) (by decide +kernel) rfl rfl (Nat.le_of_ble_eq_true rfl) (fun C X Z => ?_)
  obtain ⟨on, os, ho, hs9⟩ := id hO
  show zG C V 1 6 0 [(0, .ref (ad 1)), (1, .int (zI (q))), (2, .ref o)] []
  refine zr_aload_n X 1 2 dL_reset_0 rfl rfl ?_
  refine zr_aload_n X 2 0 dL_reset_1 rfl rfl ?_
  refine zr_iload_n X 3 1 dL_reset_2 rfl rfl ?_
  refine zr_callVCe (kc' := 0) (ks' := 0) X 6 1 (m_X6_reset l hlt Γ hS hq) gL_reset_X6_reset rfl (by decide +kernel) rfl (by decide) hS.x rfl rfl (Nat.le_of_ble_eq_true rfl) dL_reset_3 rfl (Nat.le_of_ble_eq_true rfl) (Nat.le_of_ble_eq_true rfl) (fun E V1 hX => ?_) (fun rv V1 hp => ?_)
  · obtain ⟨hv, hX⟩ := hX
    rw [hv]
    rcases hX with ⟨he, hc⟩ | ⟨he, hc⟩
    · subst he
      refine zr_catch X Z (name := "java/lang/IndexOutOfBoundsException") [] ⟨0, 10, 13, 19⟩ [] rfl (fun z hz => by cases hz) (by decide) (by decide) w0 ⟨rfl, by decide⟩ (fun q9 => ?_)
      show zG C V 0 0 13 [(0, .ref (ad 1)), (1, .int (zI (q))), (2, .ref o)] [.ref q9]
      refine zr_astore_n X 14 [(3, .ref q9), (0, .ref (ad 1)), (1, .int (zI (q))), (2, .ref o)] dL_reset_13 rfl (by decide) rfl ?_
      refine zr_iconst X 15 dL_reset_14 rfl ?_
      exact zr_iret X rfl ⟨1, 0, σ, rfl, by decide, hS, zag.rf, ⟨on, os, ho, hs9, fun h => absurd h.1 (by decide)⟩, rfl, Or.inl (⟨rfl, hc, rfl⟩)⟩ dL_reset_15
    · subst he
      exact hc.elim
  · skip
    obtain ⟨y, σ1, hr, hS1, hx1, hrel⟩ := hp
    rw [hr]
    have h32 : σ1 32 = σ 32 := by
      rcases hrel with ⟨⟨c1, c2⟩, (⟨c3, c4, c5⟩ | ⟨c6, c7, c8⟩)⟩
      · exact (congrFun c5 32).trans ((zrf_lo (by decide)).trans (rfl))
      · exact (congrFun c8 32).trans ((zdn_ne (by decide)).trans ((zw4_h8 (by decide) (by omega)).trans (rfl)))
    have ho1 := hx1 _ _ _ ho (by decide)
    show zG C V1 0 0 6 [(0, .ref (ad 1)), (1, .int (zI (q))), (2, .ref o)] [.int (zI (y)), .ref o]
    refine zr_i2l X 7 dL_reset_6 rfl ?_
    obtain ⟨y1, y1e⟩ : ∃ zz9 : Int64, zz9 = (zI (y)).toInt64 := ⟨_, rfl⟩
    rw [← y1e]
    refine zr_putN X 10 8 0 9 [.long (y1), os] tyX7 ho1 rfl iX7 tyX7_ok nmX7 (by decide) rfl rfl rfl rfl rfl (Nat.le_of_ble_eq_true rfl) rfl dL_reset_7 rfl ?_
    show zG C (zu V1 o 5 (.inr (8, [.long (y1), os]))) 0 0 10 [(0, .ref (ad 1)), (1, .int (zI (q))), (2, .ref o)] []
    have ha9 := zag.one (e' := .inr (8, [.long (y1), os])) ho1
    have hS2 := (hS1.out ha9)
    refine zr_goto X 16 dL_reset_10 rfl ?_
    refine zr_iconst X 17 dL_reset_16 rfl ?_
    exact zr_iret X rfl ⟨0, y, σ1, rfl, by decide, hS2, (hx1.mono (fun t ht => Or.inl ht)).tr (ha9.mono (fun t ht => by omega)), ⟨_, _, zu_eq _ _ _ _, hs9, fun _ => y1e⟩, h32, Or.inr (⟨rfl, hrel⟩)⟩ dL_reset_17
set_option maxRecDepth 100000 in
set_option maxHeartbeats 4000000 in
theorem m_W_rewind (l : Launch) (hlt : l.stackTraces = false) (Γ : zGam) {V : zV} {ad : Nat → Nat} {σ : Nat → Int} {q : Int} {o : Nat} (hS : zS Γ V ad σ) (hq : -2147483648 ≤ q ∧ q ≤ 2147483647) (hO : zOut V o) : zM l Γ 9 yL_rewind wsL_rewind 1 6 V [.ref (ad 1), .int (zI (q)), .ref o] (zPR Γ V ad σ o True (zr6_rewind σ q)) := by
  have w0 : Cond.classLink RL 19 "java/lang/IndexOutOfBoundsException" ∈ wsL_rewind := by decide +kernel
  have iX7 : ∀ w ∈ u_ws RX7 TX7 2, w ∈ wsL_rewind := by decide +kernel
  refine zW_of (cc := cL_rewind) (nL := 4) (ret := (some .int)) (own := RL) (hh := [(0, 10, 13, 19)]) (by decide +kernel) rfl rfl (Nat.le_of_ble_eq_true rfl) (fun C X Z => ?_)
  obtain ⟨on, os, ho, hs9⟩ := id hO
  show zG C V 1 6 0 [(0, .ref (ad 1)), (1, .int (zI (q))), (2, .ref o)] []
  refine zr_aload_n X 1 2 dL_rewind_0 rfl rfl ?_
  refine zr_aload_n X 2 0 dL_rewind_1 rfl rfl ?_
  refine zr_iload_n X 3 1 dL_rewind_2 rfl rfl ?_
  refine zr_callVCe (kc' := 0) (ks' := 0) X 6 1 (m_X6_rewind l hlt Γ hS hq) gL_rewind_X6_rewind rfl (by decide +kernel) rfl (by decide) hS.x rfl rfl (Nat.le_of_ble_eq_true rfl) dL_rewind_3 rfl (Nat.le_of_ble_eq_true rfl) (Nat.le_of_ble_eq_true rfl) (fun E V1 hX => ?_) (fun rv V1 hp => ?_)
  · obtain ⟨hv, hX⟩ := hX
    rw [hv]
    rcases hX with ⟨he, hc⟩ | ⟨he, hc⟩
    · subst he
      refine zr_catch X Z (name := "java/lang/IndexOutOfBoundsException") [] ⟨0, 10, 13, 19⟩ [] rfl (fun z hz => by cases hz) (by decide) (by decide) w0 ⟨rfl, by decide⟩ (fun q9 => ?_)
      show zG C V 0 0 13 [(0, .ref (ad 1)), (1, .int (zI (q))), (2, .ref o)] [.ref q9]
      refine zr_astore_n X 14 [(3, .ref q9), (0, .ref (ad 1)), (1, .int (zI (q))), (2, .ref o)] dL_rewind_13 rfl (by decide) rfl ?_
      refine zr_iconst X 15 dL_rewind_14 rfl ?_
      exact zr_iret X rfl ⟨1, 0, σ, rfl, by decide, hS, zag.rf, ⟨on, os, ho, hs9, fun h => absurd h.1 (by decide)⟩, rfl, Or.inl (⟨rfl, hc, rfl⟩)⟩ dL_rewind_15
    · subst he
      exact hc.elim
  · skip
    obtain ⟨y, σ1, hr, hS1, hx1, hrel⟩ := hp
    rw [hr]
    have h32 : σ1 32 = σ 32 := by
      rcases hrel with ⟨⟨c1, c2⟩, c3, c4⟩
      · exact (congrFun c4 32).trans ((zdn_ne (by decide)).trans ((zw4_h8 (by decide) (by omega)).trans (rfl)))
    have ho1 := hx1 _ _ _ ho (by decide)
    show zG C V1 0 0 6 [(0, .ref (ad 1)), (1, .int (zI (q))), (2, .ref o)] [.int (zI (y)), .ref o]
    refine zr_i2l X 7 dL_rewind_6 rfl ?_
    obtain ⟨y1, y1e⟩ : ∃ zz9 : Int64, zz9 = (zI (y)).toInt64 := ⟨_, rfl⟩
    rw [← y1e]
    refine zr_putN X 10 8 0 9 [.long (y1), os] tyX7 ho1 rfl iX7 tyX7_ok nmX7 (by decide) rfl rfl rfl rfl rfl (Nat.le_of_ble_eq_true rfl) rfl dL_rewind_7 rfl ?_
    show zG C (zu V1 o 5 (.inr (8, [.long (y1), os]))) 0 0 10 [(0, .ref (ad 1)), (1, .int (zI (q))), (2, .ref o)] []
    have ha9 := zag.one (e' := .inr (8, [.long (y1), os])) ho1
    have hS2 := (hS1.out ha9)
    refine zr_goto X 16 dL_rewind_10 rfl ?_
    refine zr_iconst X 17 dL_rewind_16 rfl ?_
    exact zr_iret X rfl ⟨0, y, σ1, rfl, by decide, hS2, (hx1.mono (fun t ht => Or.inl ht)).tr (ha9.mono (fun t ht => by omega)), ⟨_, _, zu_eq _ _ _ _, hs9, fun _ => y1e⟩, h32, Or.inr (⟨rfl, hrel⟩)⟩ dL_rewind_17
set_option maxRecDepth 100000 in
set_option maxHeartbeats 4000000 in
theorem m_W_flip (l : Launch) (hlt : l.stackTraces = false) (Γ : zGam) {V : zV} {ad : Nat → Nat} {σ : Nat → Int} {q : Int} {o : Nat} (hS : zS Γ V ad σ) (hq : -2147483648 ≤ q ∧ q ≤ 2147483647) (hO : zOut V o) : zM l Γ 9 yL_flip wsL_flip 1 6 V [.ref (ad 1), .int (zI (q)), .ref o] (zPR Γ V ad σ o True (zr6_flip σ q)) := by
  have w0 : Cond.classLink RL 19 "java/lang/IndexOutOfBoundsException" ∈ wsL_flip := by decide +kernel
  have iX7 : ∀ w ∈ u_ws RX7 TX7 2, w ∈ wsL_flip := by decide +kernel
  refine zW_of (cc := cL_flip) (nL := 4) (ret := (some .int)) (own := RL) (hh := [(0, 10, 13, 19)]) (by decide +kernel) rfl rfl (Nat.le_of_ble_eq_true rfl) (fun C X Z => ?_)
  obtain ⟨on, os, ho, hs9⟩ := id hO
  show zG C V 1 6 0 [(0, .ref (ad 1)), (1, .int (zI (q))), (2, .ref o)] []
  refine zr_aload_n X 1 2 dL_flip_0 rfl rfl ?_
  refine zr_aload_n X 2 0 dL_flip_1 rfl rfl ?_
  refine zr_iload_n X 3 1 dL_flip_2 rfl rfl ?_
  refine zr_callVCe (kc' := 0) (ks' := 0) X 6 1 (m_X6_flip l hlt Γ hS hq) gL_flip_X6_flip rfl (by decide +kernel) rfl (by decide) hS.x rfl rfl (Nat.le_of_ble_eq_true rfl) dL_flip_3 rfl (Nat.le_of_ble_eq_true rfl) (Nat.le_of_ble_eq_true rfl) (fun E V1 hX => ?_) (fun rv V1 hp => ?_)
  · obtain ⟨hv, hX⟩ := hX
    rw [hv]
    rcases hX with ⟨he, hc⟩ | ⟨he, hc⟩
    · subst he
      refine zr_catch X Z (name := "java/lang/IndexOutOfBoundsException") [] ⟨0, 10, 13, 19⟩ [] rfl (fun z hz => by cases hz) (by decide) (by decide) w0 ⟨rfl, by decide⟩ (fun q9 => ?_)
      show zG C V 0 0 13 [(0, .ref (ad 1)), (1, .int (zI (q))), (2, .ref o)] [.ref q9]
      refine zr_astore_n X 14 [(3, .ref q9), (0, .ref (ad 1)), (1, .int (zI (q))), (2, .ref o)] dL_flip_13 rfl (by decide) rfl ?_
      refine zr_iconst X 15 dL_flip_14 rfl ?_
      exact zr_iret X rfl ⟨1, 0, σ, rfl, by decide, hS, zag.rf, ⟨on, os, ho, hs9, fun h => absurd h.1 (by decide)⟩, rfl, Or.inl (⟨rfl, hc, rfl⟩)⟩ dL_flip_15
    · subst he
      exact hc.elim
  · skip
    obtain ⟨y, σ1, hr, hS1, hx1, hrel⟩ := hp
    rw [hr]
    have h32 : σ1 32 = σ 32 := by
      rcases hrel with ⟨⟨c1, c2⟩, c3, c4⟩
      · exact (congrFun c4 32).trans ((zdn_ne (by decide)).trans ((zw4_h8 (by decide) (by omega)).trans (rfl)))
    have ho1 := hx1 _ _ _ ho (by decide)
    show zG C V1 0 0 6 [(0, .ref (ad 1)), (1, .int (zI (q))), (2, .ref o)] [.int (zI (y)), .ref o]
    refine zr_i2l X 7 dL_flip_6 rfl ?_
    obtain ⟨y1, y1e⟩ : ∃ zz9 : Int64, zz9 = (zI (y)).toInt64 := ⟨_, rfl⟩
    rw [← y1e]
    refine zr_putN X 10 8 0 9 [.long (y1), os] tyX7 ho1 rfl iX7 tyX7_ok nmX7 (by decide) rfl rfl rfl rfl rfl (Nat.le_of_ble_eq_true rfl) rfl dL_flip_7 rfl ?_
    show zG C (zu V1 o 5 (.inr (8, [.long (y1), os]))) 0 0 10 [(0, .ref (ad 1)), (1, .int (zI (q))), (2, .ref o)] []
    have ha9 := zag.one (e' := .inr (8, [.long (y1), os])) ho1
    have hS2 := (hS1.out ha9)
    refine zr_goto X 16 dL_flip_10 rfl ?_
    refine zr_iconst X 17 dL_flip_16 rfl ?_
    exact zr_iret X rfl ⟨0, y, σ1, rfl, by decide, hS2, (hx1.mono (fun t ht => Or.inl ht)).tr (ha9.mono (fun t ht => by omega)), ⟨_, _, zu_eq _ _ _ _, hs9, fun _ => y1e⟩, h32, Or.inr (⟨rfl, hrel⟩)⟩ dL_flip_17
set_option maxRecDepth 100000 in
set_option maxHeartbeats 4000000 in
theorem m_W_compact (l : Launch) (hlt : l.stackTraces = false) (Γ : zGam) {V : zV} {ad : Nat → Nat} {σ : Nat → Int} {q : Int} {o : Nat} (hS : zS Γ V ad σ) (hq : -2147483648 ≤ q ∧ q ≤ 2147483647) (hO : zOut V o) : zM l Γ 9 yL_compact wsL_compact 1 6 V [.ref (ad 1), .int (zI (q)), .ref o] (zPR Γ V ad σ o True (zr6_compact σ q)) := by
  have w0 : Cond.classLink RL 19 "java/lang/IndexOutOfBoundsException" ∈ wsL_compact := by decide +kernel
  have iX7 : ∀ w ∈ u_ws RX7 TX7 2, w ∈ wsL_compact := by decide +kernel
  refine zW_of (cc := cL_compact) (nL := 4) (ret := (some .int)) (own := RL) (hh := [(0, 10, 13, 19)]) (by decide +kernel) rfl rfl (Nat.le_of_ble_eq_true rfl) (fun C X Z => ?_)
  obtain ⟨on, os, ho, hs9⟩ := id hO
  show zG C V 1 6 0 [(0, .ref (ad 1)), (1, .int (zI (q))), (2, .ref o)] []
  refine zr_aload_n X 1 2 dL_compact_0 rfl rfl ?_
  refine zr_aload_n X 2 0 dL_compact_1 rfl rfl ?_
  refine zr_iload_n X 3 1 dL_compact_2 rfl rfl ?_
  refine zr_callVCe (kc' := 0) (ks' := 0) X 6 1 (m_X6_compact l hlt Γ hS hq) gL_compact_X6_compact rfl (by decide +kernel) rfl (by decide) hS.x rfl rfl (Nat.le_of_ble_eq_true rfl) dL_compact_3 rfl (Nat.le_of_ble_eq_true rfl) (Nat.le_of_ble_eq_true rfl) (fun E V1 hX => ?_) (fun rv V1 hp => ?_)
  · obtain ⟨hv, hX⟩ := hX
    rw [hv]
    rcases hX with ⟨he, hc⟩ | ⟨he, hc⟩
    · subst he
      refine zr_catch X Z (name := "java/lang/IndexOutOfBoundsException") [] ⟨0, 10, 13, 19⟩ [] rfl (fun z hz => by cases hz) (by decide) (by decide) w0 ⟨rfl, by decide⟩ (fun q9 => ?_)
      show zG C V 0 0 13 [(0, .ref (ad 1)), (1, .int (zI (q))), (2, .ref o)] [.ref q9]
      refine zr_astore_n X 14 [(3, .ref q9), (0, .ref (ad 1)), (1, .int (zI (q))), (2, .ref o)] dL_compact_13 rfl (by decide) rfl ?_
      refine zr_iconst X 15 dL_compact_14 rfl ?_
      exact zr_iret X rfl ⟨1, 0, σ, rfl, by decide, hS, zag.rf, ⟨on, os, ho, hs9, fun h => absurd h.1 (by decide)⟩, rfl, Or.inl (⟨rfl, hc, rfl⟩)⟩ dL_compact_15
    · subst he
      exact hc.elim
  · skip
    obtain ⟨y, σ1, hr, hS1, hx1, hrel⟩ := hp
    rw [hr]
    have h32 : σ1 32 = σ 32 := by
      rcases hrel with ⟨⟨c1, c2⟩, c3, c4⟩
      · exact (congrFun c4 32).trans ((zdn_ne (by decide)).trans ((zmt_lo (by decide)).trans ((zw4_h8 (by decide) (by omega)).trans (rfl))))
    have ho1 := hx1 _ _ _ ho (by decide)
    show zG C V1 0 0 6 [(0, .ref (ad 1)), (1, .int (zI (q))), (2, .ref o)] [.int (zI (y)), .ref o]
    refine zr_i2l X 7 dL_compact_6 rfl ?_
    obtain ⟨y1, y1e⟩ : ∃ zz9 : Int64, zz9 = (zI (y)).toInt64 := ⟨_, rfl⟩
    rw [← y1e]
    refine zr_putN X 10 8 0 9 [.long (y1), os] tyX7 ho1 rfl iX7 tyX7_ok nmX7 (by decide) rfl rfl rfl rfl rfl (Nat.le_of_ble_eq_true rfl) rfl dL_compact_7 rfl ?_
    show zG C (zu V1 o 5 (.inr (8, [.long (y1), os]))) 0 0 10 [(0, .ref (ad 1)), (1, .int (zI (q))), (2, .ref o)] []
    have ha9 := zag.one (e' := .inr (8, [.long (y1), os])) ho1
    have hS2 := (hS1.out ha9)
    refine zr_goto X 16 dL_compact_10 rfl ?_
    refine zr_iconst X 17 dL_compact_16 rfl ?_
    exact zr_iret X rfl ⟨0, y, σ1, rfl, by decide, hS2, (hx1.mono (fun t ht => Or.inl ht)).tr (ha9.mono (fun t ht => by omega)), ⟨_, _, zu_eq _ _ _ _, hs9, fun _ => y1e⟩, h32, Or.inr (⟨rfl, hrel⟩)⟩ dL_compact_17
set_option maxRecDepth 100000 in
set_option maxHeartbeats 4000000 in
theorem m_W_open (l : Launch) (hlt : l.stackTraces = false) (Γ : zGam) {V : zV} {ad : Nat → Nat} {σ : Nat → Int} {q : Int} {o : Nat} (hS : zS Γ V ad σ) (hq : -2147483648 ≤ q ∧ q ≤ 2147483647) (hO : zOut V o) : zM l Γ 9 yL_open wsL_open 1 6 V [.ref (ad 1), .int (zI (q)), .ref o] (zPR Γ V ad σ o True (zr6_open σ q)) := by
  have w0 : Cond.classLink RL 19 "java/lang/IndexOutOfBoundsException" ∈ wsL_open := by decide +kernel
  have iX7 : ∀ w ∈ u_ws RX7 TX7 2, w ∈ wsL_open := by decide +kernel
  refine zW_of (cc := cL_open) (nL := 4) (ret := (some .int)) (own := RL) (hh := [(0, 10, 13, 19)]) (by decide +kernel) rfl rfl (Nat.le_of_ble_eq_true rfl) (fun C X Z => ?_)
  obtain ⟨on, os, ho, hs9⟩ := id hO
  show zG C V 1 6 0 [(0, .ref (ad 1)), (1, .int (zI (q))), (2, .ref o)] []
  refine zr_aload_n X 1 2 dL_open_0 rfl rfl ?_
  refine zr_aload_n X 2 0 dL_open_1 rfl rfl ?_
  refine zr_iload_n X 3 1 dL_open_2 rfl rfl ?_
  refine zr_callVCe (kc' := 0) (ks' := 0) X 6 1 (m_X6_open l hlt Γ hS hq) gL_open_X6_open rfl (by decide +kernel) rfl (by decide) hS.x rfl rfl (Nat.le_of_ble_eq_true rfl) dL_open_3 rfl (Nat.le_of_ble_eq_true rfl) (Nat.le_of_ble_eq_true rfl) (fun E V1 hX => ?_) (fun rv V1 hp => ?_)
  · obtain ⟨hv, hX⟩ := hX
    rw [hv]
    rcases hX with ⟨he, hc⟩ | ⟨he, hc⟩
    · subst he
      refine zr_catch X Z (name := "java/lang/IndexOutOfBoundsException") [] ⟨0, 10, 13, 19⟩ [] rfl (fun z hz => by cases hz) (by decide) (by decide) w0 ⟨rfl, by decide⟩ (fun q9 => ?_)
      show zG C V 0 0 13 [(0, .ref (ad 1)), (1, .int (zI (q))), (2, .ref o)] [.ref q9]
      refine zr_astore_n X 14 [(3, .ref q9), (0, .ref (ad 1)), (1, .int (zI (q))), (2, .ref o)] dL_open_13 rfl (by decide) rfl ?_
      refine zr_iconst X 15 dL_open_14 rfl ?_
      exact zr_iret X rfl ⟨1, 0, σ, rfl, by decide, hS, zag.rf, ⟨on, os, ho, hs9, fun h => absurd h.1 (by decide)⟩, rfl, Or.inl (⟨rfl, hc, rfl⟩)⟩ dL_open_15
    · subst he
      exact hc.elim
  · skip
    obtain ⟨y, σ1, hr, hS1, hx1, hrel⟩ := hp
    rw [hr]
    have h32 : σ1 32 = σ 32 := by
      rcases hrel with ⟨⟨c1, c2⟩, c3, c4⟩
      · exact (congrFun c4 32).trans ((zdn_ne (by decide)).trans ((zw4_h8 (by decide) (by omega)).trans (rfl)))
    have ho1 := hx1 _ _ _ ho (by decide)
    show zG C V1 0 0 6 [(0, .ref (ad 1)), (1, .int (zI (q))), (2, .ref o)] [.int (zI (y)), .ref o]
    refine zr_i2l X 7 dL_open_6 rfl ?_
    obtain ⟨y1, y1e⟩ : ∃ zz9 : Int64, zz9 = (zI (y)).toInt64 := ⟨_, rfl⟩
    rw [← y1e]
    refine zr_putN X 10 8 0 9 [.long (y1), os] tyX7 ho1 rfl iX7 tyX7_ok nmX7 (by decide) rfl rfl rfl rfl rfl (Nat.le_of_ble_eq_true rfl) rfl dL_open_7 rfl ?_
    show zG C (zu V1 o 5 (.inr (8, [.long (y1), os]))) 0 0 10 [(0, .ref (ad 1)), (1, .int (zI (q))), (2, .ref o)] []
    have ha9 := zag.one (e' := .inr (8, [.long (y1), os])) ho1
    have hS2 := (hS1.out ha9)
    refine zr_goto X 16 dL_open_10 rfl ?_
    refine zr_iconst X 17 dL_open_16 rfl ?_
    exact zr_iret X rfl ⟨0, y, σ1, rfl, by decide, hS2, (hx1.mono (fun t ht => Or.inl ht)).tr (ha9.mono (fun t ht => by omega)), ⟨_, _, zu_eq _ _ _ _, hs9, fun _ => y1e⟩, h32, Or.inr (⟨rfl, hrel⟩)⟩ dL_open_17
set_option maxRecDepth 100000 in
set_option maxHeartbeats 4000000 in
theorem m_W_keep (l : Launch) (hlt : l.stackTraces = false) (Γ : zGam) {V : zV} {ad : Nat → Nat} {σ : Nat → Int} {q : Int} {o : Nat} (hS : zS Γ V ad σ) (hq : -2147483648 ≤ q ∧ q ≤ 2147483647) (hO : zOut V o) : zM l Γ 9 yL_keep wsL_keep 1 6 V [.ref (ad 1), .int (zI (q)), .ref o] (zPR Γ V ad σ o True (zr6_keep σ q)) := by
  have w0 : Cond.classLink RL 19 "java/lang/IndexOutOfBoundsException" ∈ wsL_keep := by decide +kernel
  have iX7 : ∀ w ∈ u_ws RX7 TX7 2, w ∈ wsL_keep := by decide +kernel
  refine zW_of (cc := cL_keep) (nL := 4) (ret := (some .int)) (own := RL) (hh := [(0, 10, 13, 19)]) (by decide +kernel) rfl rfl (Nat.le_of_ble_eq_true rfl) (fun C X Z => ?_)
  obtain ⟨on, os, ho, hs9⟩ := id hO
  show zG C V 1 6 0 [(0, .ref (ad 1)), (1, .int (zI (q))), (2, .ref o)] []
  refine zr_aload_n X 1 2 dL_keep_0 rfl rfl ?_
  refine zr_aload_n X 2 0 dL_keep_1 rfl rfl ?_
  refine zr_iload_n X 3 1 dL_keep_2 rfl rfl ?_
  refine zr_callVCe (kc' := 0) (ks' := 0) X 6 1 (m_X6_keep l hlt Γ hS hq) gL_keep_X6_keep rfl (by decide +kernel) rfl (by decide) hS.x rfl rfl (Nat.le_of_ble_eq_true rfl) dL_keep_3 rfl (Nat.le_of_ble_eq_true rfl) (Nat.le_of_ble_eq_true rfl) (fun E V1 hX => ?_) (fun rv V1 hp => ?_)
  · obtain ⟨hv, hX⟩ := hX
    rw [hv]
    rcases hX with ⟨he, hc⟩ | ⟨he, hc⟩
    · subst he
      refine zr_catch X Z (name := "java/lang/IndexOutOfBoundsException") [] ⟨0, 10, 13, 19⟩ [] rfl (fun z hz => by cases hz) (by decide) (by decide) w0 ⟨rfl, by decide⟩ (fun q9 => ?_)
      show zG C V 0 0 13 [(0, .ref (ad 1)), (1, .int (zI (q))), (2, .ref o)] [.ref q9]
      refine zr_astore_n X 14 [(3, .ref q9), (0, .ref (ad 1)), (1, .int (zI (q))), (2, .ref o)] dL_keep_13 rfl (by decide) rfl ?_
      refine zr_iconst X 15 dL_keep_14 rfl ?_
      exact zr_iret X rfl ⟨1, 0, σ, rfl, by decide, hS, zag.rf, ⟨on, os, ho, hs9, fun h => absurd h.1 (by decide)⟩, rfl, Or.inl (⟨rfl, hc, rfl⟩)⟩ dL_keep_15
    · subst he
      exact hc.elim
  · skip
    obtain ⟨y, σ1, hr, hS1, hx1, hrel⟩ := hp
    rw [hr]
    have h32 : σ1 32 = σ 32 := by
      rcases hrel with ⟨⟨c1, c2⟩, c3, c4⟩
      · exact (congrFun c4 32).trans ((zdn_ne (by decide)).trans ((zly_ne (by omega)).trans ((zf_ne (by omega)).trans (rfl))))
    have ho1 := hx1 _ _ _ ho (by decide)
    show zG C V1 0 0 6 [(0, .ref (ad 1)), (1, .int (zI (q))), (2, .ref o)] [.int (zI (y)), .ref o]
    refine zr_i2l X 7 dL_keep_6 rfl ?_
    obtain ⟨y1, y1e⟩ : ∃ zz9 : Int64, zz9 = (zI (y)).toInt64 := ⟨_, rfl⟩
    rw [← y1e]
    refine zr_putN X 10 8 0 9 [.long (y1), os] tyX7 ho1 rfl iX7 tyX7_ok nmX7 (by decide) rfl rfl rfl rfl rfl (Nat.le_of_ble_eq_true rfl) rfl dL_keep_7 rfl ?_
    show zG C (zu V1 o 5 (.inr (8, [.long (y1), os]))) 0 0 10 [(0, .ref (ad 1)), (1, .int (zI (q))), (2, .ref o)] []
    have ha9 := zag.one (e' := .inr (8, [.long (y1), os])) ho1
    have hS2 := (hS1.out ha9)
    refine zr_goto X 16 dL_keep_10 rfl ?_
    refine zr_iconst X 17 dL_keep_16 rfl ?_
    exact zr_iret X rfl ⟨0, y, σ1, rfl, by decide, hS2, (hx1.mono (fun t ht => Or.inl ht)).tr (ha9.mono (fun t ht => by omega)), ⟨_, _, zu_eq _ _ _ _, hs9, fun _ => y1e⟩, h32, Or.inr (⟨rfl, hrel⟩)⟩ dL_keep_17
set_option maxRecDepth 100000 in
set_option maxHeartbeats 4000000 in
theorem m_W_load (l : Launch) (hlt : l.stackTraces = false) (Γ : zGam) {V : zV} {ad : Nat → Nat} {σ : Nat → Int} {q : Int} {o : Nat} (hS : zS Γ V ad σ) (hq : -2147483648 ≤ q ∧ q ≤ 2147483647) (hO : zOut V o) : zM l Γ 9 yL_load wsL_load 1 6 V [.ref (ad 1), .int (zI (q)), .ref o] (zPR Γ V ad σ o True (zr6_load σ q)) := by
  have w0 : Cond.classLink RL 19 "java/lang/IndexOutOfBoundsException" ∈ wsL_load := by decide +kernel
  have iX7 : ∀ w ∈ u_ws RX7 TX7 2, w ∈ wsL_load := by decide +kernel
  refine zW_of (cc := cL_load) (nL := 4) (ret := (some .int)) (own := RL) (hh := [(0, 10, 13, 19)]) (by decide +kernel) rfl rfl (Nat.le_of_ble_eq_true rfl) (fun C X Z => ?_)
  obtain ⟨on, os, ho, hs9⟩ := id hO
  show zG C V 1 6 0 [(0, .ref (ad 1)), (1, .int (zI (q))), (2, .ref o)] []
  refine zr_aload_n X 1 2 dL_load_0 rfl rfl ?_
  refine zr_aload_n X 2 0 dL_load_1 rfl rfl ?_
  refine zr_iload_n X 3 1 dL_load_2 rfl rfl ?_
  refine zr_callVCe (kc' := 0) (ks' := 0) X 6 1 (m_X6_load l hlt Γ hS hq) gL_load_X6_load rfl (by decide +kernel) rfl (by decide) hS.x rfl rfl (Nat.le_of_ble_eq_true rfl) dL_load_3 rfl (Nat.le_of_ble_eq_true rfl) (Nat.le_of_ble_eq_true rfl) (fun E V1 hX => ?_) (fun rv V1 hp => ?_)
  · obtain ⟨hv, hX⟩ := hX
    rw [hv]
    rcases hX with ⟨he, hc⟩ | ⟨he, hc⟩
    · subst he
      refine zr_catch X Z (name := "java/lang/IndexOutOfBoundsException") [] ⟨0, 10, 13, 19⟩ [] rfl (fun z hz => by cases hz) (by decide) (by decide) w0 ⟨rfl, by decide⟩ (fun q9 => ?_)
      show zG C V 0 0 13 [(0, .ref (ad 1)), (1, .int (zI (q))), (2, .ref o)] [.ref q9]
      refine zr_astore_n X 14 [(3, .ref q9), (0, .ref (ad 1)), (1, .int (zI (q))), (2, .ref o)] dL_load_13 rfl (by decide) rfl ?_
      refine zr_iconst X 15 dL_load_14 rfl ?_
      exact zr_iret X rfl ⟨1, 0, σ, rfl, by decide, hS, zag.rf, ⟨on, os, ho, hs9, fun h => absurd h.1 (by decide)⟩, rfl, Or.inl (⟨rfl, hc, rfl⟩)⟩ dL_load_15
    · subst he
      exact hc.elim
  · skip
    obtain ⟨y, σ1, hr, hS1, hx1, hrel⟩ := hp
    rw [hr]
    have h32 : σ1 32 = σ 32 := by
      rcases hrel with ⟨⟨c1, c2⟩, c3, c4⟩
      · exact (congrFun c4 32).trans ((zdn_ne (by decide)).trans ((zly_ne (by omega)).trans ((zf_ne (by omega)).trans (rfl))))
    have ho1 := hx1 _ _ _ ho (by decide)
    show zG C V1 0 0 6 [(0, .ref (ad 1)), (1, .int (zI (q))), (2, .ref o)] [.int (zI (y)), .ref o]
    refine zr_i2l X 7 dL_load_6 rfl ?_
    obtain ⟨y1, y1e⟩ : ∃ zz9 : Int64, zz9 = (zI (y)).toInt64 := ⟨_, rfl⟩
    rw [← y1e]
    refine zr_putN X 10 8 0 9 [.long (y1), os] tyX7 ho1 rfl iX7 tyX7_ok nmX7 (by decide) rfl rfl rfl rfl rfl (Nat.le_of_ble_eq_true rfl) rfl dL_load_7 rfl ?_
    show zG C (zu V1 o 5 (.inr (8, [.long (y1), os]))) 0 0 10 [(0, .ref (ad 1)), (1, .int (zI (q))), (2, .ref o)] []
    have ha9 := zag.one (e' := .inr (8, [.long (y1), os])) ho1
    have hS2 := (hS1.out ha9)
    refine zr_goto X 16 dL_load_10 rfl ?_
    refine zr_iconst X 17 dL_load_16 rfl ?_
    exact zr_iret X rfl ⟨0, y, σ1, rfl, by decide, hS2, (hx1.mono (fun t ht => Or.inl ht)).tr (ha9.mono (fun t ht => by omega)), ⟨_, _, zu_eq _ _ _ _, hs9, fun _ => y1e⟩, h32, Or.inr (⟨rfl, hrel⟩)⟩ dL_load_17
set_option maxRecDepth 100000 in
set_option maxHeartbeats 4000000 in
theorem m_W_build (l : Launch) (hlt : l.stackTraces = false) (Γ : zGam) {V : zV} {ad : Nat → Nat} {σ : Nat → Int} {q : Int} {o : Nat} (hS : zS Γ V ad σ) (hq : -2147483648 ≤ q ∧ q ≤ 2147483647) (hO : zOut V o) : zM l Γ 9 yL_build wsL_build 2 12 V [.ref (ad 1), .int (zI (q)), .ref o] (zPR Γ V ad σ o True (zr6_build σ q)) := by
  have w0 : Cond.classLink RL 19 "java/lang/IndexOutOfBoundsException" ∈ wsL_build := by decide +kernel
  have w1 : Cond.classLink RL 85 "java/lang/IllegalStateException" ∈ wsL_build := by decide +kernel
  have iX7 : ∀ w ∈ u_ws RX7 TX7 2, w ∈ wsL_build := by decide +kernel
  refine zW_of (cc := cL_build) (nL := 4) (ret := (some .int)) (own := RL) (hh := [(0, 10, 13, 19), (0, 10, 16, 85)]) (by decide +kernel) rfl rfl (Nat.le_of_ble_eq_true rfl) (fun C X Z => ?_)
  obtain ⟨on, os, ho, hs9⟩ := id hO
  show zG C V 2 12 0 [(0, .ref (ad 1)), (1, .int (zI (q))), (2, .ref o)] []
  refine zr_aload_n X 1 2 dL_build_0 rfl rfl ?_
  refine zr_aload_n X 2 0 dL_build_1 rfl rfl ?_
  refine zr_iload_n X 3 1 dL_build_2 rfl rfl ?_
  refine zr_callVCe (kc' := 0) (ks' := 0) X 6 1 (m_X6_build l hlt Γ hS hq) gL_build_X6_build rfl (by decide +kernel) rfl (by decide) hS.x rfl rfl (Nat.le_of_ble_eq_true rfl) dL_build_3 rfl (Nat.le_of_ble_eq_true rfl) (Nat.le_of_ble_eq_true rfl) (fun E V1 hX => ?_) (fun rv V1 hp => ?_)
  · obtain ⟨hv, hX⟩ := hX
    rw [hv]
    rcases hX with ⟨he, hc⟩ | ⟨he, hc⟩
    · subst he
      refine zr_catch X Z (name := "java/lang/IndexOutOfBoundsException") [] ⟨0, 10, 13, 19⟩ [⟨0, 10, 16, 85⟩] rfl (fun z hz => by cases hz) (by decide) (by decide) w0 ⟨rfl, by decide⟩ (fun q9 => ?_)
      show zG C V 0 0 13 [(0, .ref (ad 1)), (1, .int (zI (q))), (2, .ref o)] [.ref q9]
      refine zr_astore_n X 14 [(3, .ref q9), (0, .ref (ad 1)), (1, .int (zI (q))), (2, .ref o)] dL_build_13 rfl (by decide) rfl ?_
      refine zr_iconst X 15 dL_build_14 rfl ?_
      exact zr_iret X rfl ⟨1, 0, σ, rfl, by decide, hS, zag.rf, ⟨on, os, ho, hs9, fun h => absurd h.1 (by decide)⟩, rfl, Or.inl (⟨rfl, hc, rfl⟩)⟩ dL_build_15
    · subst he
      have hps : ∀ z ∈ ([⟨0, 10, 13, 19⟩] : List ExceptionTableEntry), covers z 3 = false ∨ (z.catchType ≠ 0 ∧ ∃ nm : String, Cond.classLink RL z.catchType nm ∈ wsL_build ∧ ("java/lang/IllegalStateException", nm) ∈ zxn) := by
        intro z hz
        simp only [List.mem_cons, List.not_mem_nil, or_false] at hz
        rcases hz with rfl
        · exact Or.inr ⟨by decide, "java/lang/IndexOutOfBoundsException", w0, by decide⟩
      refine zr_catch X Z (name := "java/lang/IllegalStateException") [⟨0, 10, 13, 19⟩] ⟨0, 10, 16, 85⟩ [] rfl hps (by decide) (by decide) w1 ⟨rfl, by decide⟩ (fun q9 => ?_)
      show zG C V 0 0 16 [(0, .ref (ad 1)), (1, .int (zI (q))), (2, .ref o)] [.ref q9]
      refine zr_astore_n X 17 [(3, .ref q9), (0, .ref (ad 1)), (1, .int (zI (q))), (2, .ref o)] dL_build_16 rfl (by decide) rfl ?_
      refine zr_iconst X 18 dL_build_17 rfl ?_
      exact zr_iret X rfl ⟨2, 0, σ, rfl, by decide, hS, zag.rf, ⟨on, os, ho, hs9, fun h => absurd h.1 (by decide)⟩, rfl, Or.inr (Or.inl (⟨rfl, hc, rfl⟩))⟩ dL_build_18
  · skip
    obtain ⟨y, σ1, hr, hS1, hx1, hrel⟩ := hp
    rw [hr]
    have h32 : σ1 32 = σ 32 := by
      rcases hrel with ⟨⟨c1, c2⟩, c3, c4, c5⟩
      · exact (congrFun c5 32).trans ((zdn_ne (by decide)).trans ((zly_ne (by omega)).trans ((zf_ne (by omega)).trans (rfl))))
    have ho1 := hx1 _ _ _ ho (by decide)
    show zG C V1 0 0 6 [(0, .ref (ad 1)), (1, .int (zI (q))), (2, .ref o)] [.int (zI (y)), .ref o]
    refine zr_i2l X 7 dL_build_6 rfl ?_
    obtain ⟨y1, y1e⟩ : ∃ zz9 : Int64, zz9 = (zI (y)).toInt64 := ⟨_, rfl⟩
    rw [← y1e]
    refine zr_putN X 10 8 0 9 [.long (y1), os] tyX7 ho1 rfl iX7 tyX7_ok nmX7 (by decide) rfl rfl rfl rfl rfl (Nat.le_of_ble_eq_true rfl) rfl dL_build_7 rfl ?_
    show zG C (zu V1 o 5 (.inr (8, [.long (y1), os]))) 0 0 10 [(0, .ref (ad 1)), (1, .int (zI (q))), (2, .ref o)] []
    have ha9 := zag.one (e' := .inr (8, [.long (y1), os])) ho1
    have hS2 := (hS1.out ha9)
    refine zr_goto X 19 dL_build_10 rfl ?_
    refine zr_iconst X 20 dL_build_19 rfl ?_
    exact zr_iret X rfl ⟨0, y, σ1, rfl, by decide, hS2, (hx1.mono (fun t ht => Or.inl ht)).tr (ha9.mono (fun t ht => by omega)), ⟨_, _, zu_eq _ _ _ _, hs9, fun _ => y1e⟩, h32, Or.inr (Or.inr (⟨rfl, hrel⟩))⟩ dL_build_20
set_option maxRecDepth 100000 in
set_option maxHeartbeats 4000000 in
theorem m_W_change (l : Launch) (hlt : l.stackTraces = false) (Γ : zGam) {V : zV} {ad : Nat → Nat} {σ : Nat → Int} {q x : Int} {o : Nat} (hS : zS Γ V ad σ) (hq : -2147483648 ≤ q ∧ q ≤ 2147483647) (hx : -2147483648 ≤ x ∧ x ≤ 2147483647) (hO : zOut V o) : zM l Γ 9 yL_change wsL_change 2 12 V [.ref (ad 1), .int (zI (q)), .int (zI (x)), .ref o] (zPR Γ V ad σ o True (zr6_change σ q x)) := by
  have w0 : Cond.classLink RL 19 "java/lang/IndexOutOfBoundsException" ∈ wsL_change := by decide +kernel
  have w1 : Cond.classLink RL 21 "java/lang/IllegalArgumentException" ∈ wsL_change := by decide +kernel
  have iX7 : ∀ w ∈ u_ws RX7 TX7 2, w ∈ wsL_change := by decide +kernel
  refine zW_of (cc := cL_change) (nL := 5) (ret := (some .int)) (own := RL) (hh := [(0, 11, 14, 19), (0, 11, 18, 21)]) (by decide +kernel) rfl rfl (Nat.le_of_ble_eq_true rfl) (fun C X Z => ?_)
  obtain ⟨on, os, ho, hs9⟩ := id hO
  show zG C V 2 12 0 [(0, .ref (ad 1)), (1, .int (zI (q))), (2, .int (zI (x))), (3, .ref o)] []
  refine zr_aload_n X 1 3 dL_change_0 rfl rfl ?_
  refine zr_aload_n X 2 0 dL_change_1 rfl rfl ?_
  refine zr_iload_n X 3 1 dL_change_2 rfl rfl ?_
  refine zr_iload_n X 4 2 dL_change_3 rfl rfl ?_
  refine zr_callVCe (kc' := 0) (ks' := 0) X 7 2 (m_X6_change l hlt Γ hS hq hx) gL_change_X6_change rfl (by decide +kernel) rfl (by decide) hS.x rfl rfl (Nat.le_of_ble_eq_true rfl) dL_change_4 rfl (Nat.le_of_ble_eq_true rfl) (Nat.le_of_ble_eq_true rfl) (fun E V1 hX => ?_) (fun rv V1 hp => ?_)
  · obtain ⟨hv, hX⟩ := hX
    rw [hv]
    rcases hX with ⟨he, hc⟩ | ⟨he, hc⟩
    · subst he
      refine zr_catch X Z (name := "java/lang/IndexOutOfBoundsException") [] ⟨0, 11, 14, 19⟩ [⟨0, 11, 18, 21⟩] rfl (fun z hz => by cases hz) (by decide) (by decide) w0 ⟨rfl, by decide⟩ (fun q9 => ?_)
      show zG C V 0 0 14 [(0, .ref (ad 1)), (1, .int (zI (q))), (2, .int (zI (x))), (3, .ref o)] [.ref q9]
      refine zr_astore X 16 [(4, .ref q9), (0, .ref (ad 1)), (1, .int (zI (q))), (2, .int (zI (x))), (3, .ref o)] dL_change_14 rfl (by decide) rfl ?_
      refine zr_iconst X 17 dL_change_16 rfl ?_
      exact zr_iret X rfl ⟨1, 0, σ, rfl, by decide, hS, zag.rf, ⟨on, os, ho, hs9, fun h => absurd h.1 (by decide)⟩, rfl, Or.inl (⟨rfl, hc, rfl⟩)⟩ dL_change_17
    · subst he
      have hps : ∀ z ∈ ([⟨0, 11, 14, 19⟩] : List ExceptionTableEntry), covers z 4 = false ∨ (z.catchType ≠ 0 ∧ ∃ nm : String, Cond.classLink RL z.catchType nm ∈ wsL_change ∧ ("java/lang/IllegalArgumentException", nm) ∈ zxn) := by
        intro z hz
        simp only [List.mem_cons, List.not_mem_nil, or_false] at hz
        rcases hz with rfl
        · exact Or.inr ⟨by decide, "java/lang/IndexOutOfBoundsException", w0, by decide⟩
      refine zr_catch X Z (name := "java/lang/IllegalArgumentException") [⟨0, 11, 14, 19⟩] ⟨0, 11, 18, 21⟩ [] rfl hps (by decide) (by decide) w1 ⟨rfl, by decide⟩ (fun q9 => ?_)
      show zG C V 0 0 18 [(0, .ref (ad 1)), (1, .int (zI (q))), (2, .int (zI (x))), (3, .ref o)] [.ref q9]
      refine zr_astore X 20 [(4, .ref q9), (0, .ref (ad 1)), (1, .int (zI (q))), (2, .int (zI (x))), (3, .ref o)] dL_change_18 rfl (by decide) rfl ?_
      refine zr_iconst X 21 dL_change_20 rfl ?_
      exact zr_iret X rfl ⟨2, 0, σ, rfl, by decide, hS, zag.rf, ⟨on, os, ho, hs9, fun h => absurd h.1 (by decide)⟩, rfl, Or.inr (Or.inl (⟨rfl, hc, rfl⟩))⟩ dL_change_21
  · skip
    obtain ⟨y, σ1, hr, hS1, hx1, hrel⟩ := hp
    rw [hr]
    have h32 : σ1 32 = σ 32 := by
      rcases hrel with ⟨⟨c1, c2, c3, c4⟩, c5, c6⟩
      · exact (congrFun c6 32).trans ((zdn_ne (by decide)).trans ((zf_ne (by omega)).trans (rfl)))
    have ho1 := hx1 _ _ _ ho (by decide)
    show zG C V1 0 0 7 [(0, .ref (ad 1)), (1, .int (zI (q))), (2, .int (zI (x))), (3, .ref o)] [.int (zI (y)), .ref o]
    refine zr_i2l X 8 dL_change_7 rfl ?_
    obtain ⟨y1, y1e⟩ : ∃ zz9 : Int64, zz9 = (zI (y)).toInt64 := ⟨_, rfl⟩
    rw [← y1e]
    refine zr_putN X 11 8 0 9 [.long (y1), os] tyX7 ho1 rfl iX7 tyX7_ok nmX7 (by decide) rfl rfl rfl rfl rfl (Nat.le_of_ble_eq_true rfl) rfl dL_change_8 rfl ?_
    show zG C (zu V1 o 5 (.inr (8, [.long (y1), os]))) 0 0 11 [(0, .ref (ad 1)), (1, .int (zI (q))), (2, .int (zI (x))), (3, .ref o)] []
    have ha9 := zag.one (e' := .inr (8, [.long (y1), os])) ho1
    have hS2 := (hS1.out ha9)
    refine zr_goto X 22 dL_change_11 rfl ?_
    refine zr_iconst X 23 dL_change_22 rfl ?_
    exact zr_iret X rfl ⟨0, y, σ1, rfl, by decide, hS2, (hx1.mono (fun t ht => Or.inl ht)).tr (ha9.mono (fun t ht => by omega)), ⟨_, _, zu_eq _ _ _ _, hs9, fun _ => y1e⟩, h32, Or.inr (Or.inr (⟨rfl, hrel⟩))⟩ dL_change_23
set_option maxRecDepth 100000 in
set_option maxHeartbeats 4000000 in
theorem m_W_pipe (l : Launch) (hlt : l.stackTraces = false) (Γ : zGam) {V : zV} {ad : Nat → Nat} {σ : Nat → Int} {q : Int} {o : Nat} (hS : zS Γ V ad σ) (hq : -2147483648 ≤ q ∧ q ≤ 2147483647) (hO : zOut V o) : zM l Γ 9 yL_pipe wsL_pipe 1 6 V [.ref (ad 1), .int (zI (q)), .ref o] (zPR Γ V ad σ o True (zr6_pipe σ q)) := by
  have w0 : Cond.classLink RL 21 "java/lang/IllegalArgumentException" ∈ wsL_pipe := by decide +kernel
  have iX7 : ∀ w ∈ u_ws RX7 TX7 2, w ∈ wsL_pipe := by decide +kernel
  refine zW_of (cc := cL_pipe) (nL := 4) (ret := (some .int)) (own := RL) (hh := [(0, 10, 13, 21)]) (by decide +kernel) rfl rfl (Nat.le_of_ble_eq_true rfl) (fun C X Z => ?_)
  obtain ⟨on, os, ho, hs9⟩ := id hO
  show zG C V 1 6 0 [(0, .ref (ad 1)), (1, .int (zI (q))), (2, .ref o)] []
  refine zr_aload_n X 1 2 dL_pipe_0 rfl rfl ?_
  refine zr_aload_n X 2 0 dL_pipe_1 rfl rfl ?_
  refine zr_iload_n X 3 1 dL_pipe_2 rfl rfl ?_
  refine zr_callVCe (kc' := 0) (ks' := 0) X 6 1 (m_X6_pipe l hlt Γ hS hq) gL_pipe_X6_pipe rfl (by decide +kernel) rfl (by decide) hS.x rfl rfl (Nat.le_of_ble_eq_true rfl) dL_pipe_3 rfl (Nat.le_of_ble_eq_true rfl) (Nat.le_of_ble_eq_true rfl) (fun E V1 hX => ?_) (fun rv V1 hp => ?_)
  · obtain ⟨hv, hX⟩ := hX
    rw [hv]
    rcases hX with ⟨he, hc⟩ | ⟨he, hc⟩
    · subst he
      exact hc.elim
    · subst he
      refine zr_catch X Z (name := "java/lang/IllegalArgumentException") [] ⟨0, 10, 13, 21⟩ [] rfl (fun z hz => by cases hz) (by decide) (by decide) w0 ⟨rfl, by decide⟩ (fun q9 => ?_)
      show zG C V 0 0 13 [(0, .ref (ad 1)), (1, .int (zI (q))), (2, .ref o)] [.ref q9]
      refine zr_astore_n X 14 [(3, .ref q9), (0, .ref (ad 1)), (1, .int (zI (q))), (2, .ref o)] dL_pipe_13 rfl (by decide) rfl ?_
      refine zr_iconst X 15 dL_pipe_14 rfl ?_
      exact zr_iret X rfl ⟨1, 0, σ, rfl, by decide, hS, zag.rf, ⟨on, os, ho, hs9, fun h => absurd h.1 (by decide)⟩, rfl, Or.inl (⟨rfl, hc, rfl⟩)⟩ dL_pipe_15
  · skip
    obtain ⟨y, σ1, hr, hS1, hx1, hrel⟩ := hp
    rw [hr]
    have h32 : σ1 32 = σ 32 := by
      rcases hrel with ⟨⟨c1, c2⟩, c3, c4⟩
      · exact (congrFun c4 32).trans ((zdn_ne (by decide)).trans ((zpi_ne (by decide)).trans (rfl)))
    have ho1 := hx1 _ _ _ ho (by decide)
    show zG C V1 0 0 6 [(0, .ref (ad 1)), (1, .int (zI (q))), (2, .ref o)] [.int (zI (y)), .ref o]
    refine zr_i2l X 7 dL_pipe_6 rfl ?_
    obtain ⟨y1, y1e⟩ : ∃ zz9 : Int64, zz9 = (zI (y)).toInt64 := ⟨_, rfl⟩
    rw [← y1e]
    refine zr_putN X 10 8 0 9 [.long (y1), os] tyX7 ho1 rfl iX7 tyX7_ok nmX7 (by decide) rfl rfl rfl rfl rfl (Nat.le_of_ble_eq_true rfl) rfl dL_pipe_7 rfl ?_
    show zG C (zu V1 o 5 (.inr (8, [.long (y1), os]))) 0 0 10 [(0, .ref (ad 1)), (1, .int (zI (q))), (2, .ref o)] []
    have ha9 := zag.one (e' := .inr (8, [.long (y1), os])) ho1
    have hS2 := (hS1.out ha9)
    refine zr_goto X 16 dL_pipe_10 rfl ?_
    refine zr_iconst X 17 dL_pipe_16 rfl ?_
    exact zr_iret X rfl ⟨0, y, σ1, rfl, by decide, hS2, (hx1.mono (fun t ht => Or.inl ht)).tr (ha9.mono (fun t ht => by omega)), ⟨_, _, zu_eq _ _ _ _, hs9, fun _ => y1e⟩, h32, Or.inr (⟨rfl, hrel⟩)⟩ dL_pipe_17
set_option maxRecDepth 100000 in
set_option maxHeartbeats 4000000 in
theorem m_W_feed (l : Launch) (hlt : l.stackTraces = false) (Γ : zGam) {V : zV} {ad : Nat → Nat} {σ : Nat → Int} {x n : Int} {o : Nat} (hS : zS Γ V ad σ) (hx : -2147483648 ≤ x ∧ x ≤ 2147483647) (hn : -2147483648 ≤ n ∧ n ≤ 2147483647) (hO : zOut V o) : zM l Γ 10 yL_feed wsL_feed 2 12 V [.ref (ad 1), .int (zI (x)), .int (zI (n)), .ref o] (zPR Γ V ad σ o True (zr6_feed σ x n)) := by
  have w0 : Cond.classLink RL 21 "java/lang/IllegalArgumentException" ∈ wsL_feed := by decide +kernel
  have iX7 : ∀ w ∈ u_ws RX7 TX7 2, w ∈ wsL_feed := by decide +kernel
  refine zW_of (cc := cL_feed) (nL := 5) (ret := (some .int)) (own := RL) (hh := [(0, 11, 14, 21)]) (by decide +kernel) rfl rfl (Nat.le_of_ble_eq_true rfl) (fun C X Z => ?_)
  obtain ⟨on, os, ho, hs9⟩ := id hO
  show zG C V 2 12 0 [(0, .ref (ad 1)), (1, .int (zI (x))), (2, .int (zI (n))), (3, .ref o)] []
  refine zr_aload_n X 1 3 dL_feed_0 rfl rfl ?_
  refine zr_aload_n X 2 0 dL_feed_1 rfl rfl ?_
  refine zr_iload_n X 3 1 dL_feed_2 rfl rfl ?_
  refine zr_iload_n X 4 2 dL_feed_3 rfl rfl ?_
  refine zr_callVCe (kc' := 0) (ks' := 0) X 7 2 (m_X6_feed l hlt Γ hS hx hn) gL_feed_X6_feed rfl (by decide +kernel) rfl (by decide) hS.x rfl rfl (Nat.le_of_ble_eq_true rfl) dL_feed_4 rfl (Nat.le_of_ble_eq_true rfl) (Nat.le_of_ble_eq_true rfl) (fun E V1 hX => ?_) (fun rv V1 hp => ?_)
  · obtain ⟨hv, hX⟩ := hX
    rw [hv]
    rcases hX with ⟨he, hc⟩ | ⟨he, hc⟩
    · subst he
      exact hc.elim
    · subst he
      refine zr_catch X Z (name := "java/lang/IllegalArgumentException") [] ⟨0, 11, 14, 21⟩ [] rfl (fun z hz => by cases hz) (by decide) (by decide) w0 ⟨rfl, by decide⟩ (fun q9 => ?_)
      show zG C V 0 0 14 [(0, .ref (ad 1)), (1, .int (zI (x))), (2, .int (zI (n))), (3, .ref o)] [.ref q9]
      refine zr_astore X 16 [(4, .ref q9), (0, .ref (ad 1)), (1, .int (zI (x))), (2, .int (zI (n))), (3, .ref o)] dL_feed_14 rfl (by decide) rfl ?_
      refine zr_iconst X 17 dL_feed_16 rfl ?_
      exact zr_iret X rfl ⟨1, 0, σ, rfl, by decide, hS, zag.rf, ⟨on, os, ho, hs9, fun h => absurd h.1 (by decide)⟩, rfl, Or.inl (⟨rfl, hc, rfl⟩)⟩ dL_feed_17
  · skip
    obtain ⟨y, σ1, hr, hS1, hx1, hrel⟩ := hp
    rw [hr]
    have h32 : σ1 32 = σ 32 := by
      rcases hrel with ⟨⟨c1, c2, c3⟩, ⟨c4, c5, d10⟩, c9⟩
      · exact (congrFun c9 32).trans ((zdn_ne (by decide)).trans ((zpi_ne (by decide)).trans (rfl)))
    have ho1 := hx1 _ _ _ ho (by decide)
    show zG C V1 0 0 7 [(0, .ref (ad 1)), (1, .int (zI (x))), (2, .int (zI (n))), (3, .ref o)] [.int (zI (y)), .ref o]
    refine zr_i2l X 8 dL_feed_7 rfl ?_
    obtain ⟨y1, y1e⟩ : ∃ zz9 : Int64, zz9 = (zI (y)).toInt64 := ⟨_, rfl⟩
    rw [← y1e]
    refine zr_putN X 11 8 0 9 [.long (y1), os] tyX7 ho1 rfl iX7 tyX7_ok nmX7 (by decide) rfl rfl rfl rfl rfl (Nat.le_of_ble_eq_true rfl) rfl dL_feed_8 rfl ?_
    show zG C (zu V1 o 5 (.inr (8, [.long (y1), os]))) 0 0 11 [(0, .ref (ad 1)), (1, .int (zI (x))), (2, .int (zI (n))), (3, .ref o)] []
    have ha9 := zag.one (e' := .inr (8, [.long (y1), os])) ho1
    have hS2 := (hS1.out ha9)
    refine zr_goto X 18 dL_feed_11 rfl ?_
    refine zr_iconst X 19 dL_feed_18 rfl ?_
    exact zr_iret X rfl ⟨0, y, σ1, rfl, by decide, hS2, (hx1.mono (fun t ht => Or.inl ht)).tr (ha9.mono (fun t ht => by omega)), ⟨_, _, zu_eq _ _ _ _, hs9, fun _ => y1e⟩, h32, Or.inr (⟨rfl, hrel⟩)⟩ dL_feed_19
set_option maxRecDepth 100000 in
set_option maxHeartbeats 4000000 in
theorem m_W_drain (l : Launch) (hlt : l.stackTraces = false) (Γ : zGam) {V : zV} {ad : Nat → Nat} {σ : Nat → Int} {q : Int} {o : Nat} (hS : zS Γ V ad σ) (hq : -2147483648 ≤ q ∧ q ≤ 2147483647) (hO : zOut V o) : zM l Γ 11 yL_drain wsL_drain 3010 6300 V [.ref (ad 1), .int (zI (q)), .ref o] (zPR Γ V ad σ o False (zr6_drain σ q)) := by
  have w0 : Cond.classLink RL 21 "java/lang/IllegalArgumentException" ∈ wsL_drain := by decide +kernel
  have iX7 : ∀ w ∈ u_ws RX7 TX7 2, w ∈ wsL_drain := by decide +kernel
  refine zW_of (cc := cL_drain) (nL := 4) (ret := (some .int)) (own := RL) (hh := [(0, 9, 12, 21)]) (by decide +kernel) rfl rfl (Nat.le_of_ble_eq_true rfl) (fun C X Z => ?_)
  obtain ⟨on, os, ho, hs9⟩ := id hO
  show zG C V 3010 6300 0 [(0, .ref (ad 1)), (1, .int (zI (q))), (2, .ref o)] []
  refine zr_aload_n X 1 2 dL_drain_0 rfl rfl ?_
  refine zr_aload_n X 2 0 dL_drain_1 rfl rfl ?_
  refine zr_iload_n X 3 1 dL_drain_2 rfl rfl ?_
  refine zr_callVCe (kc' := 0) (ks' := 0) X 6 1 (m_X6_drain l hlt Γ hS hq) gL_drain_X6_drain rfl (by decide +kernel) rfl (by decide) hS.x rfl rfl (Nat.le_of_ble_eq_true rfl) dL_drain_3 rfl (Nat.le_of_ble_eq_true rfl) (Nat.le_of_ble_eq_true rfl) (fun E V1 hX => ?_) (fun rv V1 hp => ?_)
  · obtain ⟨hv, hX⟩ := hX
    rw [hv]
    rcases hX with ⟨he, hc⟩ | ⟨he, hc⟩
    · subst he
      exact hc.elim
    · subst he
      refine zr_catch X Z (name := "java/lang/IllegalArgumentException") [] ⟨0, 9, 12, 21⟩ [] rfl (fun z hz => by cases hz) (by decide) (by decide) w0 ⟨rfl, by decide⟩ (fun q9 => ?_)
      show zG C V 0 0 12 [(0, .ref (ad 1)), (1, .int (zI (q))), (2, .ref o)] [.ref q9]
      refine zr_astore_n X 13 [(3, .ref q9), (0, .ref (ad 1)), (1, .int (zI (q))), (2, .ref o)] dL_drain_12 rfl (by decide) rfl ?_
      refine zr_iconst X 14 dL_drain_13 rfl ?_
      exact zr_iret X rfl ⟨1, 0, σ, rfl, by decide, hS, zag.rf, ⟨on, os, ho, hs9, fun h => absurd h.1 (by decide)⟩, rfl, Or.inl (⟨rfl, hc, rfl⟩)⟩ dL_drain_14
  · skip
    obtain ⟨y, σ1, hr, hS1, hx1, hrel⟩ := hp
    rw [hr]
    have h32 : σ1 32 = σ 32 := by
      rcases hrel with ⟨⟨c1, c2⟩, ⟨k, ⟨c3, c4, d8, c7⟩⟩⟩
      · exact (congrFun c7 32).trans ((zdn_ne (by decide)).trans ((zpi_ne (by decide)).trans (rfl)))
    have ho1 := hx1 _ _ _ ho (by decide)
    show zG C V1 0 0 6 [(0, .ref (ad 1)), (1, .int (zI (q))), (2, .ref o)] [.ref y, .ref o]
    refine zr_putN X 9 8 1 10 [.long on, .ref y] tyX7 ho1 rfl iX7 tyX7_ok nmX7 (by decide) rfl rfl rfl rfl rfl (Nat.le_of_ble_eq_true rfl) rfl dL_drain_6 rfl ?_
    show zG C (zu V1 o 5 (.inr (8, [.long on, .ref y]))) 0 0 9 [(0, .ref (ad 1)), (1, .int (zI (q))), (2, .ref o)] []
    have ha9 := zag.one (e' := .inr (8, [.long on, .ref y])) ho1
    have hS2 := (hS1.out ha9)
    refine zr_goto X 15 dL_drain_9 rfl ?_
    refine zr_iconst X 16 dL_drain_15 rfl ?_
    exact zr_iret X rfl ⟨0, 0, σ1, rfl, by decide, hS2, (hx1.mono (fun t ht => Or.inl ht)).tr (ha9.mono (fun t ht => by omega)), ⟨_, _, zu_eq _ _ _ _, Or.inr ⟨_, rfl⟩, fun h => h.2.elim⟩, h32, Or.inr (⟨rfl, hrel⟩)⟩ dL_drain_16
set_option maxRecDepth 100000 in
set_option maxHeartbeats 4000000 in
theorem m_W_pump (l : Launch) (hlt : l.stackTraces = false) (Γ : zGam) {V : zV} {ad : Nat → Nat} {σ : Nat → Int} {q a b : Int} {o : Nat} (hS : zS Γ V ad σ) (hq : -2147483648 ≤ q ∧ q ≤ 2147483647) (ha : -2147483648 ≤ a ∧ a ≤ 2147483647) (hb : -2147483648 ≤ b ∧ b ≤ 2147483647) (hO : zOut V o) : zM l Γ 12 yL_pump wsL_pump 3010 6300 V [.ref (ad 1), .int (zI (q)), .int (zI (a)), .int (zI (b)), .ref o] (zPR Γ V ad σ o False (zr6_pump σ q a b)) := by
  have w0 : Cond.classLink RL 19 "java/lang/IndexOutOfBoundsException" ∈ wsL_pump := by decide +kernel
  have w1 : Cond.classLink RL 21 "java/lang/IllegalArgumentException" ∈ wsL_pump := by decide +kernel
  have w2 : Cond.classLink RL 85 "java/lang/IllegalStateException" ∈ wsL_pump := by decide +kernel
  have iX7 : ∀ w ∈ u_ws RX7 TX7 2, w ∈ wsL_pump := by decide +kernel
  refine zW_of (cc := cL_pump) (nL := 6) (ret := (some .int)) (own := RL) (hh := [(0, 12, 15, 19), (0, 12, 19, 21), (0, 12, 23, 85)]) (by decide +kernel) rfl rfl (Nat.le_of_ble_eq_true rfl) (fun C X Z => ?_)
  obtain ⟨on, os, ho, hs9⟩ := id hO
  show zG C V 3010 6300 0 [(0, .ref (ad 1)), (1, .int (zI (q))), (2, .int (zI (a))), (3, .int (zI (b))), (4, .ref o)] []
  refine zr_aload X 2 4 dL_pump_0 rfl rfl ?_
  refine zr_aload_n X 3 0 dL_pump_2 rfl rfl ?_
  refine zr_iload_n X 4 1 dL_pump_3 rfl rfl ?_
  refine zr_iload_n X 5 2 dL_pump_4 rfl rfl ?_
  refine zr_iload_n X 6 3 dL_pump_5 rfl rfl ?_
  refine zr_callVCe (kc' := 0) (ks' := 0) X 9 3 (m_X6_pump l hlt Γ hS hq ha hb) gL_pump_X6_pump rfl (by decide +kernel) rfl (by decide) hS.x rfl rfl (Nat.le_of_ble_eq_true rfl) dL_pump_6 rfl (Nat.le_of_ble_eq_true rfl) (Nat.le_of_ble_eq_true rfl) (fun E V1 hX => ?_) (fun rv V1 hp => ?_)
  · obtain ⟨hv, hX⟩ := hX
    rw [hv]
    rcases hX with ⟨he, hc⟩ | ⟨he, hc⟩ | ⟨he, hc⟩
    · subst he
      refine zr_catch X Z (name := "java/lang/IndexOutOfBoundsException") [] ⟨0, 12, 15, 19⟩ [⟨0, 12, 19, 21⟩, ⟨0, 12, 23, 85⟩] rfl (fun z hz => by cases hz) (by decide) (by decide) w0 ⟨rfl, by decide⟩ (fun q9 => ?_)
      show zG C V 0 0 15 [(0, .ref (ad 1)), (1, .int (zI (q))), (2, .int (zI (a))), (3, .int (zI (b))), (4, .ref o)] [.ref q9]
      refine zr_astore X 17 [(5, .ref q9), (0, .ref (ad 1)), (1, .int (zI (q))), (2, .int (zI (a))), (3, .int (zI (b))), (4, .ref o)] dL_pump_15 rfl (by decide) rfl ?_
      refine zr_iconst X 18 dL_pump_17 rfl ?_
      exact zr_iret X rfl ⟨1, 0, σ, rfl, by decide, hS, zag.rf, ⟨on, os, ho, hs9, fun h => absurd h.1 (by decide)⟩, rfl, Or.inl (⟨rfl, hc, rfl⟩)⟩ dL_pump_18
    · subst he
      have hps : ∀ z ∈ ([⟨0, 12, 15, 19⟩] : List ExceptionTableEntry), covers z 6 = false ∨ (z.catchType ≠ 0 ∧ ∃ nm : String, Cond.classLink RL z.catchType nm ∈ wsL_pump ∧ ("java/lang/IllegalArgumentException", nm) ∈ zxn) := by
        intro z hz
        simp only [List.mem_cons, List.not_mem_nil, or_false] at hz
        rcases hz with rfl
        · exact Or.inr ⟨by decide, "java/lang/IndexOutOfBoundsException", w0, by decide⟩
      refine zr_catch X Z (name := "java/lang/IllegalArgumentException") [⟨0, 12, 15, 19⟩] ⟨0, 12, 19, 21⟩ [⟨0, 12, 23, 85⟩] rfl hps (by decide) (by decide) w1 ⟨rfl, by decide⟩ (fun q9 => ?_)
      show zG C V 0 0 19 [(0, .ref (ad 1)), (1, .int (zI (q))), (2, .int (zI (a))), (3, .int (zI (b))), (4, .ref o)] [.ref q9]
      refine zr_astore X 21 [(5, .ref q9), (0, .ref (ad 1)), (1, .int (zI (q))), (2, .int (zI (a))), (3, .int (zI (b))), (4, .ref o)] dL_pump_19 rfl (by decide) rfl ?_
      refine zr_iconst X 22 dL_pump_21 rfl ?_
      exact zr_iret X rfl ⟨2, 0, σ, rfl, by decide, hS, zag.rf, ⟨on, os, ho, hs9, fun h => absurd h.1 (by decide)⟩, rfl, Or.inr (Or.inl (⟨rfl, hc, rfl⟩))⟩ dL_pump_22
    · subst he
      have hps : ∀ z ∈ ([⟨0, 12, 15, 19⟩, ⟨0, 12, 19, 21⟩] : List ExceptionTableEntry), covers z 6 = false ∨ (z.catchType ≠ 0 ∧ ∃ nm : String, Cond.classLink RL z.catchType nm ∈ wsL_pump ∧ ("java/lang/IllegalStateException", nm) ∈ zxn) := by
        intro z hz
        simp only [List.mem_cons, List.not_mem_nil, or_false] at hz
        rcases hz with rfl | rfl
        · exact Or.inr ⟨by decide, "java/lang/IndexOutOfBoundsException", w0, by decide⟩
        · exact Or.inr ⟨by decide, "java/lang/IllegalArgumentException", w1, by decide⟩
      refine zr_catch X Z (name := "java/lang/IllegalStateException") [⟨0, 12, 15, 19⟩, ⟨0, 12, 19, 21⟩] ⟨0, 12, 23, 85⟩ [] rfl hps (by decide) (by decide) w2 ⟨rfl, by decide⟩ (fun q9 => ?_)
      show zG C V 0 0 23 [(0, .ref (ad 1)), (1, .int (zI (q))), (2, .int (zI (a))), (3, .int (zI (b))), (4, .ref o)] [.ref q9]
      refine zr_astore X 25 [(5, .ref q9), (0, .ref (ad 1)), (1, .int (zI (q))), (2, .int (zI (a))), (3, .int (zI (b))), (4, .ref o)] dL_pump_23 rfl (by decide) rfl ?_
      refine zr_iconst X 26 dL_pump_25 rfl ?_
      exact zr_iret X rfl ⟨3, 0, σ, rfl, by decide, hS, zag.rf, ⟨on, os, ho, hs9, fun h => absurd h.1 (by decide)⟩, rfl, Or.inr (Or.inr (Or.inl (⟨rfl, hc, rfl⟩)))⟩ dL_pump_26
  · skip
    obtain ⟨y, σ1, hr, hS1, hx1, hrel⟩ := hp
    rw [hr]
    have h32 : σ1 32 = σ 32 := hrel.2.2.1 32 (by decide) (by decide) (by decide)
    have ho1 := hx1 _ _ _ ho (by decide)
    show zG C V1 0 0 9 [(0, .ref (ad 1)), (1, .int (zI (q))), (2, .int (zI (a))), (3, .int (zI (b))), (4, .ref o)] [.ref y, .ref o]
    refine zr_putN X 12 8 1 10 [.long on, .ref y] tyX7 ho1 rfl iX7 tyX7_ok nmX7 (by decide) rfl rfl rfl rfl rfl (Nat.le_of_ble_eq_true rfl) rfl dL_pump_9 rfl ?_
    show zG C (zu V1 o 5 (.inr (8, [.long on, .ref y]))) 0 0 12 [(0, .ref (ad 1)), (1, .int (zI (q))), (2, .int (zI (a))), (3, .int (zI (b))), (4, .ref o)] []
    have ha9 := zag.one (e' := .inr (8, [.long on, .ref y])) ho1
    have hS2 := (hS1.out ha9)
    refine zr_goto X 27 dL_pump_12 rfl ?_
    refine zr_iconst X 28 dL_pump_27 rfl ?_
    exact zr_iret X rfl ⟨0, 0, σ1, rfl, by decide, hS2, (hx1.mono (fun t ht => Or.inl ht)).tr (ha9.mono (fun t ht => by omega)), ⟨_, _, zu_eq _ _ _ _, Or.inr ⟨_, rfl⟩, fun h => h.2.elim⟩, h32, Or.inr (Or.inr (Or.inr (⟨rfl, hrel⟩)))⟩ dL_pump_28
set_option maxRecDepth 100000 in
set_option maxHeartbeats 4000000 in
theorem m_W_left (l : Launch) (hlt : l.stackTraces = false) (Γ : zGam) {V : zV} {ad : Nat → Nat} {σ : Nat → Int} {q z : Int} {o : Nat} (hS : zS Γ V ad σ) (hq : -2147483648 ≤ q ∧ q ≤ 2147483647) (hz : -2147483648 ≤ z ∧ z ≤ 2147483647) (hO : zOut V o) : zM l Γ 9 yL_left wsL_left 2 12 V [.ref (ad 1), .int (zI (q)), .int (zI (z)), .ref o] (zPR Γ V ad σ o True (zr6_left σ q z)) := by
  have w0 : Cond.classLink RL 19 "java/lang/IndexOutOfBoundsException" ∈ wsL_left := by decide +kernel
  have w1 : Cond.classLink RL 21 "java/lang/IllegalArgumentException" ∈ wsL_left := by decide +kernel
  have iX7 : ∀ w ∈ u_ws RX7 TX7 2, w ∈ wsL_left := by decide +kernel
  refine zW_of (cc := cL_left) (nL := 5) (ret := (some .int)) (own := RL) (hh := [(0, 11, 14, 19), (0, 11, 18, 21)]) (by decide +kernel) rfl rfl (Nat.le_of_ble_eq_true rfl) (fun C X Z => ?_)
  obtain ⟨on, os, ho, hs9⟩ := id hO
  show zG C V 2 12 0 [(0, .ref (ad 1)), (1, .int (zI (q))), (2, .int (zI (z))), (3, .ref o)] []
  refine zr_aload_n X 1 3 dL_left_0 rfl rfl ?_
  refine zr_aload_n X 2 0 dL_left_1 rfl rfl ?_
  refine zr_iload_n X 3 1 dL_left_2 rfl rfl ?_
  refine zr_iload_n X 4 2 dL_left_3 rfl rfl ?_
  refine zr_callVCe (kc' := 0) (ks' := 0) X 7 2 (m_X6_left l hlt Γ hS hq hz) gL_left_X6_left rfl (by decide +kernel) rfl (by decide) hS.x rfl rfl (Nat.le_of_ble_eq_true rfl) dL_left_4 rfl (Nat.le_of_ble_eq_true rfl) (Nat.le_of_ble_eq_true rfl) (fun E V1 hX => ?_) (fun rv V1 hp => ?_)
  · obtain ⟨hv, hX⟩ := hX
    rw [hv]
    rcases hX with ⟨he, hc⟩ | ⟨he, hc⟩
    · subst he
      refine zr_catch X Z (name := "java/lang/IndexOutOfBoundsException") [] ⟨0, 11, 14, 19⟩ [⟨0, 11, 18, 21⟩] rfl (fun z hz => by cases hz) (by decide) (by decide) w0 ⟨rfl, by decide⟩ (fun q9 => ?_)
      show zG C V 0 0 14 [(0, .ref (ad 1)), (1, .int (zI (q))), (2, .int (zI (z))), (3, .ref o)] [.ref q9]
      refine zr_astore X 16 [(4, .ref q9), (0, .ref (ad 1)), (1, .int (zI (q))), (2, .int (zI (z))), (3, .ref o)] dL_left_14 rfl (by decide) rfl ?_
      refine zr_iconst X 17 dL_left_16 rfl ?_
      exact zr_iret X rfl ⟨1, 0, σ, rfl, by decide, hS, zag.rf, ⟨on, os, ho, hs9, fun h => absurd h.1 (by decide)⟩, rfl, Or.inl (⟨rfl, hc, rfl⟩)⟩ dL_left_17
    · subst he
      have hps : ∀ z ∈ ([⟨0, 11, 14, 19⟩] : List ExceptionTableEntry), covers z 4 = false ∨ (z.catchType ≠ 0 ∧ ∃ nm : String, Cond.classLink RL z.catchType nm ∈ wsL_left ∧ ("java/lang/IllegalArgumentException", nm) ∈ zxn) := by
        intro z hz
        simp only [List.mem_cons, List.not_mem_nil, or_false] at hz
        rcases hz with rfl
        · exact Or.inr ⟨by decide, "java/lang/IndexOutOfBoundsException", w0, by decide⟩
      refine zr_catch X Z (name := "java/lang/IllegalArgumentException") [⟨0, 11, 14, 19⟩] ⟨0, 11, 18, 21⟩ [] rfl hps (by decide) (by decide) w1 ⟨rfl, by decide⟩ (fun q9 => ?_)
      show zG C V 0 0 18 [(0, .ref (ad 1)), (1, .int (zI (q))), (2, .int (zI (z))), (3, .ref o)] [.ref q9]
      refine zr_astore X 20 [(4, .ref q9), (0, .ref (ad 1)), (1, .int (zI (q))), (2, .int (zI (z))), (3, .ref o)] dL_left_18 rfl (by decide) rfl ?_
      refine zr_iconst X 21 dL_left_20 rfl ?_
      exact zr_iret X rfl ⟨2, 0, σ, rfl, by decide, hS, zag.rf, ⟨on, os, ho, hs9, fun h => absurd h.1 (by decide)⟩, rfl, Or.inr (Or.inl (⟨rfl, hc, rfl⟩))⟩ dL_left_21
  · skip
    obtain ⟨y, σ1, hr, hS1, hx1, hrel⟩ := hp
    rw [hr]
    have h32 : σ1 32 = σ 32 := by
      rcases hrel with ⟨⟨c1, c2, c3, c4⟩, c5, c6⟩
      · exact (congrFun c6 32).trans (rfl)
    have ho1 := hx1 _ _ _ ho (by decide)
    show zG C V1 0 0 7 [(0, .ref (ad 1)), (1, .int (zI (q))), (2, .int (zI (z))), (3, .ref o)] [.int (zI (y)), .ref o]
    refine zr_i2l X 8 dL_left_7 rfl ?_
    obtain ⟨y1, y1e⟩ : ∃ zz9 : Int64, zz9 = (zI (y)).toInt64 := ⟨_, rfl⟩
    rw [← y1e]
    refine zr_putN X 11 8 0 9 [.long (y1), os] tyX7 ho1 rfl iX7 tyX7_ok nmX7 (by decide) rfl rfl rfl rfl rfl (Nat.le_of_ble_eq_true rfl) rfl dL_left_8 rfl ?_
    show zG C (zu V1 o 5 (.inr (8, [.long (y1), os]))) 0 0 11 [(0, .ref (ad 1)), (1, .int (zI (q))), (2, .int (zI (z))), (3, .ref o)] []
    have ha9 := zag.one (e' := .inr (8, [.long (y1), os])) ho1
    have hS2 := (hS1.out ha9)
    refine zr_goto X 22 dL_left_11 rfl ?_
    refine zr_iconst X 23 dL_left_22 rfl ?_
    exact zr_iret X rfl ⟨0, y, σ1, rfl, by decide, hS2, (hx1.mono (fun t ht => Or.inl ht)).tr (ha9.mono (fun t ht => by omega)), ⟨_, _, zu_eq _ _ _ _, hs9, fun _ => y1e⟩, h32, Or.inr (Or.inr (⟨rfl, hrel⟩))⟩ dL_left_23
set_option maxRecDepth 100000 in
set_option maxHeartbeats 4000000 in
theorem m_W_position (l : Launch) (hlt : l.stackTraces = false) (Γ : zGam) {V : zV} {ad : Nat → Nat} {σ : Nat → Int} {q : Int} {o : Nat} (hS : zS Γ V ad σ) (hq : -2147483648 ≤ q ∧ q ≤ 2147483647) (hO : zOut V o) : zM l Γ 9 yL_position wsL_position 1 6 V [.ref (ad 1), .int (zI (q)), .ref o] (zPR Γ V ad σ o True (zr6_position σ q)) := by
  have w0 : Cond.classLink RL 19 "java/lang/IndexOutOfBoundsException" ∈ wsL_position := by decide +kernel
  have iX7 : ∀ w ∈ u_ws RX7 TX7 2, w ∈ wsL_position := by decide +kernel
  refine zW_of (cc := cL_position) (nL := 4) (ret := (some .int)) (own := RL) (hh := [(0, 10, 13, 19)]) (by decide +kernel) rfl rfl (Nat.le_of_ble_eq_true rfl) (fun C X Z => ?_)
  obtain ⟨on, os, ho, hs9⟩ := id hO
  show zG C V 1 6 0 [(0, .ref (ad 1)), (1, .int (zI (q))), (2, .ref o)] []
  refine zr_aload_n X 1 2 dL_position_0 rfl rfl ?_
  refine zr_aload_n X 2 0 dL_position_1 rfl rfl ?_
  refine zr_iload_n X 3 1 dL_position_2 rfl rfl ?_
  refine zr_callVCe (kc' := 0) (ks' := 0) X 6 1 (m_X6_position l hlt Γ hS hq) gL_position_X6_position rfl (by decide +kernel) rfl (by decide) hS.x rfl rfl (Nat.le_of_ble_eq_true rfl) dL_position_3 rfl (Nat.le_of_ble_eq_true rfl) (Nat.le_of_ble_eq_true rfl) (fun E V1 hX => ?_) (fun rv V1 hp => ?_)
  · obtain ⟨hv, hX⟩ := hX
    rw [hv]
    rcases hX with ⟨he, hc⟩ | ⟨he, hc⟩
    · subst he
      refine zr_catch X Z (name := "java/lang/IndexOutOfBoundsException") [] ⟨0, 10, 13, 19⟩ [] rfl (fun z hz => by cases hz) (by decide) (by decide) w0 ⟨rfl, by decide⟩ (fun q9 => ?_)
      show zG C V 0 0 13 [(0, .ref (ad 1)), (1, .int (zI (q))), (2, .ref o)] [.ref q9]
      refine zr_astore_n X 14 [(3, .ref q9), (0, .ref (ad 1)), (1, .int (zI (q))), (2, .ref o)] dL_position_13 rfl (by decide) rfl ?_
      refine zr_iconst X 15 dL_position_14 rfl ?_
      exact zr_iret X rfl ⟨1, 0, σ, rfl, by decide, hS, zag.rf, ⟨on, os, ho, hs9, fun h => absurd h.1 (by decide)⟩, rfl, Or.inl (⟨rfl, hc, rfl⟩)⟩ dL_position_15
    · subst he
      exact hc.elim
  · skip
    obtain ⟨y, σ1, hr, hS1, hx1, hrel⟩ := hp
    rw [hr]
    have h32 : σ1 32 = σ 32 := by
      rcases hrel with ⟨⟨c1, c2⟩, c3, c4⟩
      · exact (congrFun c4 32).trans (rfl)
    have ho1 := hx1 _ _ _ ho (by decide)
    show zG C V1 0 0 6 [(0, .ref (ad 1)), (1, .int (zI (q))), (2, .ref o)] [.int (zI (y)), .ref o]
    refine zr_i2l X 7 dL_position_6 rfl ?_
    obtain ⟨y1, y1e⟩ : ∃ zz9 : Int64, zz9 = (zI (y)).toInt64 := ⟨_, rfl⟩
    rw [← y1e]
    refine zr_putN X 10 8 0 9 [.long (y1), os] tyX7 ho1 rfl iX7 tyX7_ok nmX7 (by decide) rfl rfl rfl rfl rfl (Nat.le_of_ble_eq_true rfl) rfl dL_position_7 rfl ?_
    show zG C (zu V1 o 5 (.inr (8, [.long (y1), os]))) 0 0 10 [(0, .ref (ad 1)), (1, .int (zI (q))), (2, .ref o)] []
    have ha9 := zag.one (e' := .inr (8, [.long (y1), os])) ho1
    have hS2 := (hS1.out ha9)
    refine zr_goto X 16 dL_position_10 rfl ?_
    refine zr_iconst X 17 dL_position_16 rfl ?_
    exact zr_iret X rfl ⟨0, y, σ1, rfl, by decide, hS2, (hx1.mono (fun t ht => Or.inl ht)).tr (ha9.mono (fun t ht => by omega)), ⟨_, _, zu_eq _ _ _ _, hs9, fun _ => y1e⟩, h32, Or.inr (⟨rfl, hrel⟩)⟩ dL_position_17
set_option maxRecDepth 100000 in
set_option maxHeartbeats 4000000 in
theorem m_W_limit (l : Launch) (hlt : l.stackTraces = false) (Γ : zGam) {V : zV} {ad : Nat → Nat} {σ : Nat → Int} {q : Int} {o : Nat} (hS : zS Γ V ad σ) (hq : -2147483648 ≤ q ∧ q ≤ 2147483647) (hO : zOut V o) : zM l Γ 9 yL_limit wsL_limit 1 6 V [.ref (ad 1), .int (zI (q)), .ref o] (zPR Γ V ad σ o True (zr6_limit σ q)) := by
  have w0 : Cond.classLink RL 19 "java/lang/IndexOutOfBoundsException" ∈ wsL_limit := by decide +kernel
  have iX7 : ∀ w ∈ u_ws RX7 TX7 2, w ∈ wsL_limit := by decide +kernel
  refine zW_of (cc := cL_limit) (nL := 4) (ret := (some .int)) (own := RL) (hh := [(0, 10, 13, 19)]) (by decide +kernel) rfl rfl (Nat.le_of_ble_eq_true rfl) (fun C X Z => ?_)
  obtain ⟨on, os, ho, hs9⟩ := id hO
  show zG C V 1 6 0 [(0, .ref (ad 1)), (1, .int (zI (q))), (2, .ref o)] []
  refine zr_aload_n X 1 2 dL_limit_0 rfl rfl ?_
  refine zr_aload_n X 2 0 dL_limit_1 rfl rfl ?_
  refine zr_iload_n X 3 1 dL_limit_2 rfl rfl ?_
  refine zr_callVCe (kc' := 0) (ks' := 0) X 6 1 (m_X6_limit l hlt Γ hS hq) gL_limit_X6_limit rfl (by decide +kernel) rfl (by decide) hS.x rfl rfl (Nat.le_of_ble_eq_true rfl) dL_limit_3 rfl (Nat.le_of_ble_eq_true rfl) (Nat.le_of_ble_eq_true rfl) (fun E V1 hX => ?_) (fun rv V1 hp => ?_)
  · obtain ⟨hv, hX⟩ := hX
    rw [hv]
    rcases hX with ⟨he, hc⟩ | ⟨he, hc⟩
    · subst he
      refine zr_catch X Z (name := "java/lang/IndexOutOfBoundsException") [] ⟨0, 10, 13, 19⟩ [] rfl (fun z hz => by cases hz) (by decide) (by decide) w0 ⟨rfl, by decide⟩ (fun q9 => ?_)
      show zG C V 0 0 13 [(0, .ref (ad 1)), (1, .int (zI (q))), (2, .ref o)] [.ref q9]
      refine zr_astore_n X 14 [(3, .ref q9), (0, .ref (ad 1)), (1, .int (zI (q))), (2, .ref o)] dL_limit_13 rfl (by decide) rfl ?_
      refine zr_iconst X 15 dL_limit_14 rfl ?_
      exact zr_iret X rfl ⟨1, 0, σ, rfl, by decide, hS, zag.rf, ⟨on, os, ho, hs9, fun h => absurd h.1 (by decide)⟩, rfl, Or.inl (⟨rfl, hc, rfl⟩)⟩ dL_limit_15
    · subst he
      exact hc.elim
  · skip
    obtain ⟨y, σ1, hr, hS1, hx1, hrel⟩ := hp
    rw [hr]
    have h32 : σ1 32 = σ 32 := by
      rcases hrel with ⟨⟨c1, c2⟩, c3, c4⟩
      · exact (congrFun c4 32).trans (rfl)
    have ho1 := hx1 _ _ _ ho (by decide)
    show zG C V1 0 0 6 [(0, .ref (ad 1)), (1, .int (zI (q))), (2, .ref o)] [.int (zI (y)), .ref o]
    refine zr_i2l X 7 dL_limit_6 rfl ?_
    obtain ⟨y1, y1e⟩ : ∃ zz9 : Int64, zz9 = (zI (y)).toInt64 := ⟨_, rfl⟩
    rw [← y1e]
    refine zr_putN X 10 8 0 9 [.long (y1), os] tyX7 ho1 rfl iX7 tyX7_ok nmX7 (by decide) rfl rfl rfl rfl rfl (Nat.le_of_ble_eq_true rfl) rfl dL_limit_7 rfl ?_
    show zG C (zu V1 o 5 (.inr (8, [.long (y1), os]))) 0 0 10 [(0, .ref (ad 1)), (1, .int (zI (q))), (2, .ref o)] []
    have ha9 := zag.one (e' := .inr (8, [.long (y1), os])) ho1
    have hS2 := (hS1.out ha9)
    refine zr_goto X 16 dL_limit_10 rfl ?_
    refine zr_iconst X 17 dL_limit_16 rfl ?_
    exact zr_iret X rfl ⟨0, y, σ1, rfl, by decide, hS2, (hx1.mono (fun t ht => Or.inl ht)).tr (ha9.mono (fun t ht => by omega)), ⟨_, _, zu_eq _ _ _ _, hs9, fun _ => y1e⟩, h32, Or.inr (⟨rfl, hrel⟩)⟩ dL_limit_17
set_option maxRecDepth 100000 in
set_option maxHeartbeats 4000000 in
theorem m_W_capacity (l : Launch) (hlt : l.stackTraces = false) (Γ : zGam) {V : zV} {ad : Nat → Nat} {σ : Nat → Int} {q : Int} {o : Nat} (hS : zS Γ V ad σ) (hq : -2147483648 ≤ q ∧ q ≤ 2147483647) (hO : zOut V o) : zM l Γ 9 yL_capacity wsL_capacity 1 6 V [.ref (ad 1), .int (zI (q)), .ref o] (zPR Γ V ad σ o True (zr6_capacity σ q)) := by
  have w0 : Cond.classLink RL 19 "java/lang/IndexOutOfBoundsException" ∈ wsL_capacity := by decide +kernel
  have iX7 : ∀ w ∈ u_ws RX7 TX7 2, w ∈ wsL_capacity := by decide +kernel
  refine zW_of (cc := cL_capacity) (nL := 4) (ret := (some .int)) (own := RL) (hh := [(0, 10, 13, 19)]) (by decide +kernel) rfl rfl (Nat.le_of_ble_eq_true rfl) (fun C X Z => ?_)
  obtain ⟨on, os, ho, hs9⟩ := id hO
  show zG C V 1 6 0 [(0, .ref (ad 1)), (1, .int (zI (q))), (2, .ref o)] []
  refine zr_aload_n X 1 2 dL_capacity_0 rfl rfl ?_
  refine zr_aload_n X 2 0 dL_capacity_1 rfl rfl ?_
  refine zr_iload_n X 3 1 dL_capacity_2 rfl rfl ?_
  refine zr_callVCe (kc' := 0) (ks' := 0) X 6 1 (m_X6_capacity l hlt Γ hS hq) gL_capacity_X6_capacity rfl (by decide +kernel) rfl (by decide) hS.x rfl rfl (Nat.le_of_ble_eq_true rfl) dL_capacity_3 rfl (Nat.le_of_ble_eq_true rfl) (Nat.le_of_ble_eq_true rfl) (fun E V1 hX => ?_) (fun rv V1 hp => ?_)
  · obtain ⟨hv, hX⟩ := hX
    rw [hv]
    rcases hX with ⟨he, hc⟩ | ⟨he, hc⟩
    · subst he
      refine zr_catch X Z (name := "java/lang/IndexOutOfBoundsException") [] ⟨0, 10, 13, 19⟩ [] rfl (fun z hz => by cases hz) (by decide) (by decide) w0 ⟨rfl, by decide⟩ (fun q9 => ?_)
      show zG C V 0 0 13 [(0, .ref (ad 1)), (1, .int (zI (q))), (2, .ref o)] [.ref q9]
      refine zr_astore_n X 14 [(3, .ref q9), (0, .ref (ad 1)), (1, .int (zI (q))), (2, .ref o)] dL_capacity_13 rfl (by decide) rfl ?_
      refine zr_iconst X 15 dL_capacity_14 rfl ?_
      exact zr_iret X rfl ⟨1, 0, σ, rfl, by decide, hS, zag.rf, ⟨on, os, ho, hs9, fun h => absurd h.1 (by decide)⟩, rfl, Or.inl (⟨rfl, hc, rfl⟩)⟩ dL_capacity_15
    · subst he
      exact hc.elim
  · skip
    obtain ⟨y, σ1, hr, hS1, hx1, hrel⟩ := hp
    rw [hr]
    have h32 : σ1 32 = σ 32 := by
      rcases hrel with ⟨⟨c1, c2⟩, c3, c4⟩
      · exact (congrFun c4 32).trans (rfl)
    have ho1 := hx1 _ _ _ ho (by decide)
    show zG C V1 0 0 6 [(0, .ref (ad 1)), (1, .int (zI (q))), (2, .ref o)] [.int (zI (y)), .ref o]
    refine zr_i2l X 7 dL_capacity_6 rfl ?_
    obtain ⟨y1, y1e⟩ : ∃ zz9 : Int64, zz9 = (zI (y)).toInt64 := ⟨_, rfl⟩
    rw [← y1e]
    refine zr_putN X 10 8 0 9 [.long (y1), os] tyX7 ho1 rfl iX7 tyX7_ok nmX7 (by decide) rfl rfl rfl rfl rfl (Nat.le_of_ble_eq_true rfl) rfl dL_capacity_7 rfl ?_
    show zG C (zu V1 o 5 (.inr (8, [.long (y1), os]))) 0 0 10 [(0, .ref (ad 1)), (1, .int (zI (q))), (2, .ref o)] []
    have ha9 := zag.one (e' := .inr (8, [.long (y1), os])) ho1
    have hS2 := (hS1.out ha9)
    refine zr_goto X 16 dL_capacity_10 rfl ?_
    refine zr_iconst X 17 dL_capacity_16 rfl ?_
    exact zr_iret X rfl ⟨0, y, σ1, rfl, by decide, hS2, (hx1.mono (fun t ht => Or.inl ht)).tr (ha9.mono (fun t ht => by omega)), ⟨_, _, zu_eq _ _ _ _, hs9, fun _ => y1e⟩, h32, Or.inr (⟨rfl, hrel⟩)⟩ dL_capacity_17
set_option maxRecDepth 100000 in
set_option maxHeartbeats 4000000 in
theorem m_W_marked (l : Launch) (hlt : l.stackTraces = false) (Γ : zGam) {V : zV} {ad : Nat → Nat} {σ : Nat → Int} {q : Int} {o : Nat} (hS : zS Γ V ad σ) (hq : -2147483648 ≤ q ∧ q ≤ 2147483647) (hO : zOut V o) : zM l Γ 9 yL_marked wsL_marked 1 6 V [.ref (ad 1), .int (zI (q)), .ref o] (zPR Γ V ad σ o True (zr6_marked σ q)) := by
  have w0 : Cond.classLink RL 19 "java/lang/IndexOutOfBoundsException" ∈ wsL_marked := by decide +kernel
  have iX7 : ∀ w ∈ u_ws RX7 TX7 2, w ∈ wsL_marked := by decide +kernel
  refine zW_of (cc := cL_marked) (nL := 4) (ret := (some .int)) (own := RL) (hh := [(0, 10, 13, 19)]) (by decide +kernel) rfl rfl (Nat.le_of_ble_eq_true rfl) (fun C X Z => ?_)
  obtain ⟨on, os, ho, hs9⟩ := id hO
  show zG C V 1 6 0 [(0, .ref (ad 1)), (1, .int (zI (q))), (2, .ref o)] []
  refine zr_aload_n X 1 2 dL_marked_0 rfl rfl ?_
  refine zr_aload_n X 2 0 dL_marked_1 rfl rfl ?_
  refine zr_iload_n X 3 1 dL_marked_2 rfl rfl ?_
  refine zr_callVCe (kc' := 0) (ks' := 0) X 6 1 (m_X6_marked l hlt Γ hS hq) gL_marked_X6_marked rfl (by decide +kernel) rfl (by decide) hS.x rfl rfl (Nat.le_of_ble_eq_true rfl) dL_marked_3 rfl (Nat.le_of_ble_eq_true rfl) (Nat.le_of_ble_eq_true rfl) (fun E V1 hX => ?_) (fun rv V1 hp => ?_)
  · obtain ⟨hv, hX⟩ := hX
    rw [hv]
    rcases hX with ⟨he, hc⟩ | ⟨he, hc⟩
    · subst he
      refine zr_catch X Z (name := "java/lang/IndexOutOfBoundsException") [] ⟨0, 10, 13, 19⟩ [] rfl (fun z hz => by cases hz) (by decide) (by decide) w0 ⟨rfl, by decide⟩ (fun q9 => ?_)
      show zG C V 0 0 13 [(0, .ref (ad 1)), (1, .int (zI (q))), (2, .ref o)] [.ref q9]
      refine zr_astore_n X 14 [(3, .ref q9), (0, .ref (ad 1)), (1, .int (zI (q))), (2, .ref o)] dL_marked_13 rfl (by decide) rfl ?_
      refine zr_iconst X 15 dL_marked_14 rfl ?_
      exact zr_iret X rfl ⟨1, 0, σ, rfl, by decide, hS, zag.rf, ⟨on, os, ho, hs9, fun h => absurd h.1 (by decide)⟩, rfl, Or.inl (⟨rfl, hc, rfl⟩)⟩ dL_marked_15
    · subst he
      exact hc.elim
  · skip
    obtain ⟨y, σ1, hr, hS1, hx1, hrel⟩ := hp
    rw [hr]
    have h32 : σ1 32 = σ 32 := by
      rcases hrel with ⟨⟨c1, c2⟩, c3, c4⟩
      · exact (congrFun c4 32).trans (rfl)
    have ho1 := hx1 _ _ _ ho (by decide)
    show zG C V1 0 0 6 [(0, .ref (ad 1)), (1, .int (zI (q))), (2, .ref o)] [.int (zI (y)), .ref o]
    refine zr_i2l X 7 dL_marked_6 rfl ?_
    obtain ⟨y1, y1e⟩ : ∃ zz9 : Int64, zz9 = (zI (y)).toInt64 := ⟨_, rfl⟩
    rw [← y1e]
    refine zr_putN X 10 8 0 9 [.long (y1), os] tyX7 ho1 rfl iX7 tyX7_ok nmX7 (by decide) rfl rfl rfl rfl rfl (Nat.le_of_ble_eq_true rfl) rfl dL_marked_7 rfl ?_
    show zG C (zu V1 o 5 (.inr (8, [.long (y1), os]))) 0 0 10 [(0, .ref (ad 1)), (1, .int (zI (q))), (2, .ref o)] []
    have ha9 := zag.one (e' := .inr (8, [.long (y1), os])) ho1
    have hS2 := (hS1.out ha9)
    refine zr_goto X 16 dL_marked_10 rfl ?_
    refine zr_iconst X 17 dL_marked_16 rfl ?_
    exact zr_iret X rfl ⟨0, y, σ1, rfl, by decide, hS2, (hx1.mono (fun t ht => Or.inl ht)).tr (ha9.mono (fun t ht => by omega)), ⟨_, _, zu_eq _ _ _ _, hs9, fun _ => y1e⟩, h32, Or.inr (⟨rfl, hrel⟩)⟩ dL_marked_17
set_option maxRecDepth 100000 in
set_option maxHeartbeats 4000000 in
theorem m_W_sign (l : Launch) (hlt : l.stackTraces = false) (Γ : zGam) {V : zV} {ad : Nat → Nat} {σ : Nat → Int} {q z : Int} {o : Nat} (hS : zS Γ V ad σ) (hq : -2147483648 ≤ q ∧ q ≤ 2147483647) (hz : -2147483648 ≤ z ∧ z ≤ 2147483647) (hO : zOut V o) : zM l Γ 9 yL_sign wsL_sign 2 12 V [.ref (ad 1), .int (zI (q)), .int (zI (z)), .ref o] (zPR Γ V ad σ o True (zr6_sign σ q z)) := by
  have w0 : Cond.classLink RL 19 "java/lang/IndexOutOfBoundsException" ∈ wsL_sign := by decide +kernel
  have iX7 : ∀ w ∈ u_ws RX7 TX7 2, w ∈ wsL_sign := by decide +kernel
  refine zW_of (cc := cL_sign) (nL := 5) (ret := (some .int)) (own := RL) (hh := [(0, 11, 14, 19)]) (by decide +kernel) rfl rfl (Nat.le_of_ble_eq_true rfl) (fun C X Z => ?_)
  obtain ⟨on, os, ho, hs9⟩ := id hO
  show zG C V 2 12 0 [(0, .ref (ad 1)), (1, .int (zI (q))), (2, .int (zI (z))), (3, .ref o)] []
  refine zr_aload_n X 1 3 dL_sign_0 rfl rfl ?_
  refine zr_aload_n X 2 0 dL_sign_1 rfl rfl ?_
  refine zr_iload_n X 3 1 dL_sign_2 rfl rfl ?_
  refine zr_iload_n X 4 2 dL_sign_3 rfl rfl ?_
  refine zr_callVCe (kc' := 0) (ks' := 0) X 7 2 (m_X6_sign l hlt Γ hS hq hz) gL_sign_X6_sign rfl (by decide +kernel) rfl (by decide) hS.x rfl rfl (Nat.le_of_ble_eq_true rfl) dL_sign_4 rfl (Nat.le_of_ble_eq_true rfl) (Nat.le_of_ble_eq_true rfl) (fun E V1 hX => ?_) (fun rv V1 hp => ?_)
  · obtain ⟨hv, hX⟩ := hX
    rw [hv]
    rcases hX with ⟨he, hc⟩ | ⟨he, hc⟩
    · subst he
      refine zr_catch X Z (name := "java/lang/IndexOutOfBoundsException") [] ⟨0, 11, 14, 19⟩ [] rfl (fun z hz => by cases hz) (by decide) (by decide) w0 ⟨rfl, by decide⟩ (fun q9 => ?_)
      show zG C V 0 0 14 [(0, .ref (ad 1)), (1, .int (zI (q))), (2, .int (zI (z))), (3, .ref o)] [.ref q9]
      refine zr_astore X 16 [(4, .ref q9), (0, .ref (ad 1)), (1, .int (zI (q))), (2, .int (zI (z))), (3, .ref o)] dL_sign_14 rfl (by decide) rfl ?_
      refine zr_iconst X 17 dL_sign_16 rfl ?_
      exact zr_iret X rfl ⟨1, 0, σ, rfl, by decide, hS, zag.rf, ⟨on, os, ho, hs9, fun h => absurd h.1 (by decide)⟩, rfl, Or.inl (⟨rfl, hc, rfl⟩)⟩ dL_sign_17
    · subst he
      exact hc.elim
  · skip
    obtain ⟨y, σ1, hr, hS1, hx1, hrel⟩ := hp
    rw [hr]
    have h32 : σ1 32 = σ 32 := by
      rcases hrel with ⟨⟨c1, c2⟩, c3, c4⟩
      · exact (congrFun c4 32).trans (rfl)
    have ho1 := hx1 _ _ _ ho (by decide)
    show zG C V1 0 0 7 [(0, .ref (ad 1)), (1, .int (zI (q))), (2, .int (zI (z))), (3, .ref o)] [.int (zI (y)), .ref o]
    refine zr_i2l X 8 dL_sign_7 rfl ?_
    obtain ⟨y1, y1e⟩ : ∃ zz9 : Int64, zz9 = (zI (y)).toInt64 := ⟨_, rfl⟩
    rw [← y1e]
    refine zr_putN X 11 8 0 9 [.long (y1), os] tyX7 ho1 rfl iX7 tyX7_ok nmX7 (by decide) rfl rfl rfl rfl rfl (Nat.le_of_ble_eq_true rfl) rfl dL_sign_8 rfl ?_
    show zG C (zu V1 o 5 (.inr (8, [.long (y1), os]))) 0 0 11 [(0, .ref (ad 1)), (1, .int (zI (q))), (2, .int (zI (z))), (3, .ref o)] []
    have ha9 := zag.one (e' := .inr (8, [.long (y1), os])) ho1
    have hS2 := (hS1.out ha9)
    refine zr_goto X 18 dL_sign_11 rfl ?_
    refine zr_iconst X 19 dL_sign_18 rfl ?_
    exact zr_iret X rfl ⟨0, y, σ1, rfl, by decide, hS2, (hx1.mono (fun t ht => Or.inl ht)).tr (ha9.mono (fun t ht => by omega)), ⟨_, _, zu_eq _ _ _ _, hs9, fun _ => y1e⟩, h32, Or.inr (⟨rfl, hrel⟩)⟩ dL_sign_19
set_option maxRecDepth 100000 in
set_option maxHeartbeats 4000000 in
theorem m_W_look (l : Launch) (hlt : l.stackTraces = false) (Γ : zGam) {V : zV} {ad : Nat → Nat} {σ : Nat → Int} {q z : Int} {o : Nat} (hS : zS Γ V ad σ) (hq : -2147483648 ≤ q ∧ q ≤ 2147483647) (hz : -2147483648 ≤ z ∧ z ≤ 2147483647) (hO : zOut V o) : zM l Γ 9 yL_look wsL_look 2 12 V [.ref (ad 1), .int (zI (q)), .int (zI (z)), .ref o] (zPR Γ V ad σ o True (zr6_look σ q z)) := by
  have w0 : Cond.classLink RL 19 "java/lang/IndexOutOfBoundsException" ∈ wsL_look := by decide +kernel
  have iX7 : ∀ w ∈ u_ws RX7 TX7 2, w ∈ wsL_look := by decide +kernel
  refine zW_of (cc := cL_look) (nL := 5) (ret := (some .int)) (own := RL) (hh := [(0, 11, 14, 19)]) (by decide +kernel) rfl rfl (Nat.le_of_ble_eq_true rfl) (fun C X Z => ?_)
  obtain ⟨on, os, ho, hs9⟩ := id hO
  show zG C V 2 12 0 [(0, .ref (ad 1)), (1, .int (zI (q))), (2, .int (zI (z))), (3, .ref o)] []
  refine zr_aload_n X 1 3 dL_look_0 rfl rfl ?_
  refine zr_aload_n X 2 0 dL_look_1 rfl rfl ?_
  refine zr_iload_n X 3 1 dL_look_2 rfl rfl ?_
  refine zr_iload_n X 4 2 dL_look_3 rfl rfl ?_
  refine zr_callVCe (kc' := 0) (ks' := 0) X 7 2 (m_X6_look l hlt Γ hS hq hz) gL_look_X6_look rfl (by decide +kernel) rfl (by decide) hS.x rfl rfl (Nat.le_of_ble_eq_true rfl) dL_look_4 rfl (Nat.le_of_ble_eq_true rfl) (Nat.le_of_ble_eq_true rfl) (fun E V1 hX => ?_) (fun rv V1 hp => ?_)
  · obtain ⟨hv, hX⟩ := hX
    rw [hv]
    rcases hX with ⟨he, hc⟩ | ⟨he, hc⟩
    · subst he
      refine zr_catch X Z (name := "java/lang/IndexOutOfBoundsException") [] ⟨0, 11, 14, 19⟩ [] rfl (fun z hz => by cases hz) (by decide) (by decide) w0 ⟨rfl, by decide⟩ (fun q9 => ?_)
      show zG C V 0 0 14 [(0, .ref (ad 1)), (1, .int (zI (q))), (2, .int (zI (z))), (3, .ref o)] [.ref q9]
      refine zr_astore X 16 [(4, .ref q9), (0, .ref (ad 1)), (1, .int (zI (q))), (2, .int (zI (z))), (3, .ref o)] dL_look_14 rfl (by decide) rfl ?_
      refine zr_iconst X 17 dL_look_16 rfl ?_
      exact zr_iret X rfl ⟨1, 0, σ, rfl, by decide, hS, zag.rf, ⟨on, os, ho, hs9, fun h => absurd h.1 (by decide)⟩, rfl, Or.inl (⟨rfl, hc, rfl⟩)⟩ dL_look_17
    · subst he
      exact hc.elim
  · skip
    obtain ⟨y, σ1, hr, hS1, hx1, hrel⟩ := hp
    rw [hr]
    have h32 : σ1 32 = σ 32 := by
      rcases hrel with ⟨⟨c1, c2⟩, c3, c4⟩
      · exact (congrFun c4 32).trans (rfl)
    have ho1 := hx1 _ _ _ ho (by decide)
    show zG C V1 0 0 7 [(0, .ref (ad 1)), (1, .int (zI (q))), (2, .int (zI (z))), (3, .ref o)] [.int (zI (y)), .ref o]
    refine zr_i2l X 8 dL_look_7 rfl ?_
    obtain ⟨y1, y1e⟩ : ∃ zz9 : Int64, zz9 = (zI (y)).toInt64 := ⟨_, rfl⟩
    rw [← y1e]
    refine zr_putN X 11 8 0 9 [.long (y1), os] tyX7 ho1 rfl iX7 tyX7_ok nmX7 (by decide) rfl rfl rfl rfl rfl (Nat.le_of_ble_eq_true rfl) rfl dL_look_8 rfl ?_
    show zG C (zu V1 o 5 (.inr (8, [.long (y1), os]))) 0 0 11 [(0, .ref (ad 1)), (1, .int (zI (q))), (2, .int (zI (z))), (3, .ref o)] []
    have ha9 := zag.one (e' := .inr (8, [.long (y1), os])) ho1
    have hS2 := (hS1.out ha9)
    refine zr_goto X 18 dL_look_11 rfl ?_
    refine zr_iconst X 19 dL_look_18 rfl ?_
    exact zr_iret X rfl ⟨0, y, σ1, rfl, by decide, hS2, (hx1.mono (fun t ht => Or.inl ht)).tr (ha9.mono (fun t ht => by omega)), ⟨_, _, zu_eq _ _ _ _, hs9, fun _ => y1e⟩, h32, Or.inr (⟨rfl, hrel⟩)⟩ dL_look_19
set_option maxRecDepth 100000 in
set_option maxHeartbeats 4000000 in
theorem m_W_text (l : Launch) (hlt : l.stackTraces = false) (Γ : zGam) {V : zV} {ad : Nat → Nat} {σ : Nat → Int} {q how : Int} {o : Nat} (hS : zS Γ V ad σ) (hq : -2147483648 ≤ q ∧ q ≤ 2147483647) (hh : -2147483648 ≤ how ∧ how ≤ 2147483647) (hO : zOut V o) : zM l Γ 11 yL_text wsL_text 3012 6312 V [.ref (ad 1), .int (zI (q)), .int (zI (how)), .ref o] (zPR Γ V ad σ o False (zr6_text σ q how)) := by
  have w0 : Cond.classLink RL 19 "java/lang/IndexOutOfBoundsException" ∈ wsL_text := by decide +kernel
  have w1 : Cond.classLink RL 21 "java/lang/IllegalArgumentException" ∈ wsL_text := by decide +kernel
  have iX7 : ∀ w ∈ u_ws RX7 TX7 2, w ∈ wsL_text := by decide +kernel
  refine zW_of (cc := cL_text) (nL := 5) (ret := (some .int)) (own := RL) (hh := [(0, 10, 13, 19), (0, 10, 17, 21)]) (by decide +kernel) rfl rfl (Nat.le_of_ble_eq_true rfl) (fun C X Z => ?_)
  obtain ⟨on, os, ho, hs9⟩ := id hO
  show zG C V 3012 6312 0 [(0, .ref (ad 1)), (1, .int (zI (q))), (2, .int (zI (how))), (3, .ref o)] []
  refine zr_aload_n X 1 3 dL_text_0 rfl rfl ?_
  refine zr_aload_n X 2 0 dL_text_1 rfl rfl ?_
  refine zr_iload_n X 3 1 dL_text_2 rfl rfl ?_
  refine zr_iload_n X 4 2 dL_text_3 rfl rfl ?_
  refine zr_callVCe (kc' := 0) (ks' := 0) X 7 2 (m_X6_text l hlt Γ hS hq hh) gL_text_X6_text rfl (by decide +kernel) rfl (by decide) hS.x rfl rfl (Nat.le_of_ble_eq_true rfl) dL_text_4 rfl (Nat.le_of_ble_eq_true rfl) (Nat.le_of_ble_eq_true rfl) (fun E V1 hX => ?_) (fun rv V1 hp => ?_)
  · obtain ⟨hv, hX⟩ := hX
    rw [hv]
    rcases hX with ⟨he, hc⟩ | ⟨he, hc⟩
    · subst he
      refine zr_catch X Z (name := "java/lang/IndexOutOfBoundsException") [] ⟨0, 10, 13, 19⟩ [⟨0, 10, 17, 21⟩] rfl (fun z hz => by cases hz) (by decide) (by decide) w0 ⟨rfl, by decide⟩ (fun q9 => ?_)
      show zG C V 0 0 13 [(0, .ref (ad 1)), (1, .int (zI (q))), (2, .int (zI (how))), (3, .ref o)] [.ref q9]
      refine zr_astore X 15 [(4, .ref q9), (0, .ref (ad 1)), (1, .int (zI (q))), (2, .int (zI (how))), (3, .ref o)] dL_text_13 rfl (by decide) rfl ?_
      refine zr_iconst X 16 dL_text_15 rfl ?_
      exact zr_iret X rfl ⟨1, 0, σ, rfl, by decide, hS, zag.rf, ⟨on, os, ho, hs9, fun h => absurd h.1 (by decide)⟩, rfl, Or.inl (⟨rfl, hc, rfl⟩)⟩ dL_text_16
    · subst he
      have hps : ∀ z ∈ ([⟨0, 10, 13, 19⟩] : List ExceptionTableEntry), covers z 4 = false ∨ (z.catchType ≠ 0 ∧ ∃ nm : String, Cond.classLink RL z.catchType nm ∈ wsL_text ∧ ("java/lang/IllegalArgumentException", nm) ∈ zxn) := by
        intro z hz
        simp only [List.mem_cons, List.not_mem_nil, or_false] at hz
        rcases hz with rfl
        · exact Or.inr ⟨by decide, "java/lang/IndexOutOfBoundsException", w0, by decide⟩
      refine zr_catch X Z (name := "java/lang/IllegalArgumentException") [⟨0, 10, 13, 19⟩] ⟨0, 10, 17, 21⟩ [] rfl hps (by decide) (by decide) w1 ⟨rfl, by decide⟩ (fun q9 => ?_)
      show zG C V 0 0 17 [(0, .ref (ad 1)), (1, .int (zI (q))), (2, .int (zI (how))), (3, .ref o)] [.ref q9]
      refine zr_astore X 19 [(4, .ref q9), (0, .ref (ad 1)), (1, .int (zI (q))), (2, .int (zI (how))), (3, .ref o)] dL_text_17 rfl (by decide) rfl ?_
      refine zr_iconst X 20 dL_text_19 rfl ?_
      exact zr_iret X rfl ⟨2, 0, σ, rfl, by decide, hS, zag.rf, ⟨on, os, ho, hs9, fun h => absurd h.1 (by decide)⟩, rfl, Or.inr (Or.inl (⟨rfl, hc, rfl⟩))⟩ dL_text_20
  · skip
    obtain ⟨y, σ1, hr, hS1, hx1, hrel⟩ := hp
    rw [hr]
    have h32 : σ1 32 = σ 32 := by
      rcases hrel with ⟨⟨c1, c2, c3, c4⟩, c5⟩
      · exact (congrFun c5 32).trans (rfl)
    have ho1 := hx1 _ _ _ ho (by decide)
    show zG C V1 0 0 7 [(0, .ref (ad 1)), (1, .int (zI (q))), (2, .int (zI (how))), (3, .ref o)] [.ref y, .ref o]
    refine zr_putN X 10 8 1 10 [.long on, .ref y] tyX7 ho1 rfl iX7 tyX7_ok nmX7 (by decide) rfl rfl rfl rfl rfl (Nat.le_of_ble_eq_true rfl) rfl dL_text_7 rfl ?_
    show zG C (zu V1 o 5 (.inr (8, [.long on, .ref y]))) 0 0 10 [(0, .ref (ad 1)), (1, .int (zI (q))), (2, .int (zI (how))), (3, .ref o)] []
    have ha9 := zag.one (e' := .inr (8, [.long on, .ref y])) ho1
    have hS2 := (hS1.out ha9)
    refine zr_goto X 21 dL_text_10 rfl ?_
    refine zr_iconst X 22 dL_text_21 rfl ?_
    exact zr_iret X rfl ⟨0, 0, σ1, rfl, by decide, hS2, (hx1.mono (fun t ht => Or.inl ht)).tr (ha9.mono (fun t ht => by omega)), ⟨_, _, zu_eq _ _ _ _, Or.inr ⟨_, rfl⟩, fun h => h.2.elim⟩, h32, Or.inr (Or.inr (⟨rfl, hrel⟩))⟩ dL_text_22
set_option maxRecDepth 100000 in
set_option maxHeartbeats 4000000 in
theorem m_W_inner (l : Launch) (hlt : l.stackTraces = false) (Γ : zGam) {V : zV} {ad : Nat → Nat} {σ : Nat → Int} {q a b c e how : Int} {o : Nat} (hS : zS Γ V ad σ) (hq : -2147483648 ≤ q ∧ q ≤ 2147483647) (ha : -2147483648 ≤ a ∧ a ≤ 2147483647) (hb : -2147483648 ≤ b ∧ b ≤ 2147483647) (hc : -2147483648 ≤ c ∧ c ≤ 2147483647) (he : -2147483648 ≤ e ∧ e ≤ 2147483647) (hh : -2147483648 ≤ how ∧ how ≤ 2147483647) (hO : zOut V o) : zM l Γ 11 yL_inner wsL_inner 3013 6318 V [.ref (ad 1), .int (zI (q)), .int (zI (a)), .int (zI (b)), .int (zI (c)), .int (zI (e)), .int (zI (how)), .ref o] (zPR Γ V ad σ o False (zr6_inner σ q a b c e how)) := by
  have w0 : Cond.classLink RL 19 "java/lang/IndexOutOfBoundsException" ∈ wsL_inner := by decide +kernel
  have w1 : Cond.classLink RL 21 "java/lang/IllegalArgumentException" ∈ wsL_inner := by decide +kernel
  have iX7 : ∀ w ∈ u_ws RX7 TX7 2, w ∈ wsL_inner := by decide +kernel
  refine zW_of (cc := cL_inner) (nL := 9) (ret := (some .int)) (own := RL) (hh := [(0, 18, 21, 19), (0, 18, 25, 21)]) (by decide +kernel) rfl rfl (Nat.le_of_ble_eq_true rfl) (fun C X Z => ?_)
  obtain ⟨on, os, ho, hs9⟩ := id hO
  show zG C V 3013 6318 0 [(0, .ref (ad 1)), (1, .int (zI (q))), (2, .int (zI (a))), (3, .int (zI (b))), (4, .int (zI (c))), (5, .int (zI (e))), (6, .int (zI (how))), (7, .ref o)] []
  refine zr_aload X 2 7 dL_inner_0 rfl rfl ?_
  refine zr_aload_n X 3 0 dL_inner_2 rfl rfl ?_
  refine zr_iload_n X 4 1 dL_inner_3 rfl rfl ?_
  refine zr_iload_n X 5 2 dL_inner_4 rfl rfl ?_
  refine zr_iload_n X 6 3 dL_inner_5 rfl rfl ?_
  refine zr_iload X 8 4 dL_inner_6 rfl rfl ?_
  refine zr_iload X 10 5 dL_inner_8 rfl rfl ?_
  refine zr_iload X 12 6 dL_inner_10 rfl rfl ?_
  refine zr_callVCe (kc' := 0) (ks' := 0) X 15 6 (m_X6_inner l hlt Γ hS hq ha hb hc he hh) gL_inner_X6_inner rfl (by decide +kernel) rfl (by decide) hS.x rfl rfl (Nat.le_of_ble_eq_true rfl) dL_inner_12 rfl (Nat.le_of_ble_eq_true rfl) (Nat.le_of_ble_eq_true rfl) (fun E V1 hX => ?_) (fun rv V1 hp => ?_)
  · obtain ⟨hv, hX⟩ := hX
    rw [hv]
    rcases hX with ⟨he, hc⟩ | ⟨he, hc⟩
    · subst he
      refine zr_catch X Z (name := "java/lang/IndexOutOfBoundsException") [] ⟨0, 18, 21, 19⟩ [⟨0, 18, 25, 21⟩] rfl (fun z hz => by cases hz) (by decide) (by decide) w0 ⟨rfl, by decide⟩ (fun q9 => ?_)
      show zG C V 0 0 21 [(0, .ref (ad 1)), (1, .int (zI (q))), (2, .int (zI (a))), (3, .int (zI (b))), (4, .int (zI (c))), (5, .int (zI (e))), (6, .int (zI (how))), (7, .ref o)] [.ref q9]
      refine zr_astore X 23 [(8, .ref q9), (0, .ref (ad 1)), (1, .int (zI (q))), (2, .int (zI (a))), (3, .int (zI (b))), (4, .int (zI (c))), (5, .int (zI (e))), (6, .int (zI (how))), (7, .ref o)] dL_inner_21 rfl (by decide) rfl ?_
      refine zr_iconst X 24 dL_inner_23 rfl ?_
      exact zr_iret X rfl ⟨1, 0, σ, rfl, by decide, hS, zag.rf, ⟨on, os, ho, hs9, fun h => absurd h.1 (by decide)⟩, rfl, Or.inl (⟨rfl, hc, rfl⟩)⟩ dL_inner_24
    · subst he
      have hps : ∀ z ∈ ([⟨0, 18, 21, 19⟩] : List ExceptionTableEntry), covers z 12 = false ∨ (z.catchType ≠ 0 ∧ ∃ nm : String, Cond.classLink RL z.catchType nm ∈ wsL_inner ∧ ("java/lang/IllegalArgumentException", nm) ∈ zxn) := by
        intro z hz
        simp only [List.mem_cons, List.not_mem_nil, or_false] at hz
        rcases hz with rfl
        · exact Or.inr ⟨by decide, "java/lang/IndexOutOfBoundsException", w0, by decide⟩
      refine zr_catch X Z (name := "java/lang/IllegalArgumentException") [⟨0, 18, 21, 19⟩] ⟨0, 18, 25, 21⟩ [] rfl hps (by decide) (by decide) w1 ⟨rfl, by decide⟩ (fun q9 => ?_)
      show zG C V 0 0 25 [(0, .ref (ad 1)), (1, .int (zI (q))), (2, .int (zI (a))), (3, .int (zI (b))), (4, .int (zI (c))), (5, .int (zI (e))), (6, .int (zI (how))), (7, .ref o)] [.ref q9]
      refine zr_astore X 27 [(8, .ref q9), (0, .ref (ad 1)), (1, .int (zI (q))), (2, .int (zI (a))), (3, .int (zI (b))), (4, .int (zI (c))), (5, .int (zI (e))), (6, .int (zI (how))), (7, .ref o)] dL_inner_25 rfl (by decide) rfl ?_
      refine zr_iconst X 28 dL_inner_27 rfl ?_
      exact zr_iret X rfl ⟨2, 0, σ, rfl, by decide, hS, zag.rf, ⟨on, os, ho, hs9, fun h => absurd h.1 (by decide)⟩, rfl, Or.inr (Or.inl (⟨rfl, hc, rfl⟩))⟩ dL_inner_28
  · skip
    obtain ⟨y, σ1, hr, hS1, hx1, hrel⟩ := hp
    rw [hr]
    have h32 : σ1 32 = σ 32 := by
      rcases hrel with ⟨⟨c1, c2⟩, ⟨c3, c4, c5, c6, c7, c8, c9, c10⟩, c11⟩
      · exact (congrFun c11 32).trans (rfl)
    have ho1 := hx1 _ _ _ ho (by decide)
    show zG C V1 0 0 15 [(0, .ref (ad 1)), (1, .int (zI (q))), (2, .int (zI (a))), (3, .int (zI (b))), (4, .int (zI (c))), (5, .int (zI (e))), (6, .int (zI (how))), (7, .ref o)] [.ref y, .ref o]
    refine zr_putN X 18 8 1 10 [.long on, .ref y] tyX7 ho1 rfl iX7 tyX7_ok nmX7 (by decide) rfl rfl rfl rfl rfl (Nat.le_of_ble_eq_true rfl) rfl dL_inner_15 rfl ?_
    show zG C (zu V1 o 5 (.inr (8, [.long on, .ref y]))) 0 0 18 [(0, .ref (ad 1)), (1, .int (zI (q))), (2, .int (zI (a))), (3, .int (zI (b))), (4, .int (zI (c))), (5, .int (zI (e))), (6, .int (zI (how))), (7, .ref o)] []
    have ha9 := zag.one (e' := .inr (8, [.long on, .ref y])) ho1
    have hS2 := (hS1.out ha9)
    refine zr_goto X 29 dL_inner_18 rfl ?_
    refine zr_iconst X 30 dL_inner_29 rfl ?_
    exact zr_iret X rfl ⟨0, 0, σ1, rfl, by decide, hS2, (hx1.mono (fun t ht => Or.inl ht)).tr (ha9.mono (fun t ht => by omega)), ⟨_, _, zu_eq _ _ _ _, Or.inr ⟨_, rfl⟩, fun h => h.2.elim⟩, h32, Or.inr (Or.inr (⟨rfl, hrel⟩))⟩ dL_inner_30
set_option maxRecDepth 100000 in
set_option maxHeartbeats 4000000 in
theorem m_W_first (l : Launch) (hlt : l.stackTraces = false) (Γ : zGam) {V : zV} {ad : Nat → Nat} {σ : Nat → Int} {q q2 : Int} {o : Nat} (hS : zS Γ V ad σ) (hq : -2147483648 ≤ q ∧ q ≤ 2147483647) (hq2 : -2147483648 ≤ q2 ∧ q2 ≤ 2147483647) (hO : zOut V o) : zM l Γ 10 yL_first wsL_first 2 12 V [.ref (ad 1), .int (zI (q)), .int (zI (q2)), .ref o] (zPR Γ V ad σ o True (zr6_first σ q q2)) := by
  have w0 : Cond.classLink RL 19 "java/lang/IndexOutOfBoundsException" ∈ wsL_first := by decide +kernel
  have iX7 : ∀ w ∈ u_ws RX7 TX7 2, w ∈ wsL_first := by decide +kernel
  refine zW_of (cc := cL_first) (nL := 5) (ret := (some .int)) (own := RL) (hh := [(0, 11, 14, 19)]) (by decide +kernel) rfl rfl (Nat.le_of_ble_eq_true rfl) (fun C X Z => ?_)
  obtain ⟨on, os, ho, hs9⟩ := id hO
  show zG C V 2 12 0 [(0, .ref (ad 1)), (1, .int (zI (q))), (2, .int (zI (q2))), (3, .ref o)] []
  refine zr_aload_n X 1 3 dL_first_0 rfl rfl ?_
  refine zr_aload_n X 2 0 dL_first_1 rfl rfl ?_
  refine zr_iload_n X 3 1 dL_first_2 rfl rfl ?_
  refine zr_iload_n X 4 2 dL_first_3 rfl rfl ?_
  refine zr_callVCe (kc' := 0) (ks' := 0) X 7 2 (m_X6_first l hlt Γ hS hq hq2) gL_first_X6_first rfl (by decide +kernel) rfl (by decide) hS.x rfl rfl (Nat.le_of_ble_eq_true rfl) dL_first_4 rfl (Nat.le_of_ble_eq_true rfl) (Nat.le_of_ble_eq_true rfl) (fun E V1 hX => ?_) (fun rv V1 hp => ?_)
  · obtain ⟨hv, hX⟩ := hX
    rw [hv]
    rcases hX with ⟨he, hc⟩ | ⟨he, hc⟩
    · subst he
      refine zr_catch X Z (name := "java/lang/IndexOutOfBoundsException") [] ⟨0, 11, 14, 19⟩ [] rfl (fun z hz => by cases hz) (by decide) (by decide) w0 ⟨rfl, by decide⟩ (fun q9 => ?_)
      show zG C V 0 0 14 [(0, .ref (ad 1)), (1, .int (zI (q))), (2, .int (zI (q2))), (3, .ref o)] [.ref q9]
      refine zr_astore X 16 [(4, .ref q9), (0, .ref (ad 1)), (1, .int (zI (q))), (2, .int (zI (q2))), (3, .ref o)] dL_first_14 rfl (by decide) rfl ?_
      refine zr_iconst X 17 dL_first_16 rfl ?_
      exact zr_iret X rfl ⟨1, 0, σ, rfl, by decide, hS, zag.rf, ⟨on, os, ho, hs9, fun h => absurd h.1 (by decide)⟩, rfl, Or.inl (⟨rfl, hc, rfl⟩)⟩ dL_first_17
    · subst he
      exact hc.elim
  · skip
    obtain ⟨y, σ1, hr, hS1, hx1, hrel⟩ := hp
    rw [hr]
    have h32 : σ1 32 = σ 32 := by
      rcases hrel with ⟨⟨c1, c2, c3, c4⟩, c5, c6⟩
      · exact (congrFun c6 32).trans (rfl)
    have ho1 := hx1 _ _ _ ho (by decide)
    show zG C V1 0 0 7 [(0, .ref (ad 1)), (1, .int (zI (q))), (2, .int (zI (q2))), (3, .ref o)] [.int (zI (y)), .ref o]
    refine zr_i2l X 8 dL_first_7 rfl ?_
    obtain ⟨y1, y1e⟩ : ∃ zz9 : Int64, zz9 = (zI (y)).toInt64 := ⟨_, rfl⟩
    rw [← y1e]
    refine zr_putN X 11 8 0 9 [.long (y1), os] tyX7 ho1 rfl iX7 tyX7_ok nmX7 (by decide) rfl rfl rfl rfl rfl (Nat.le_of_ble_eq_true rfl) rfl dL_first_8 rfl ?_
    show zG C (zu V1 o 5 (.inr (8, [.long (y1), os]))) 0 0 11 [(0, .ref (ad 1)), (1, .int (zI (q))), (2, .int (zI (q2))), (3, .ref o)] []
    have ha9 := zag.one (e' := .inr (8, [.long (y1), os])) ho1
    have hS2 := (hS1.out ha9)
    refine zr_goto X 18 dL_first_11 rfl ?_
    refine zr_iconst X 19 dL_first_18 rfl ?_
    exact zr_iret X rfl ⟨0, y, σ1, rfl, by decide, hS2, (hx1.mono (fun t ht => Or.inl ht)).tr (ha9.mono (fun t ht => by omega)), ⟨_, _, zu_eq _ _ _ _, hs9, fun _ => y1e⟩, h32, Or.inr (⟨rfl, hrel⟩)⟩ dL_first_19
set_option maxRecDepth 100000 in
set_option maxHeartbeats 4000000 in
theorem m_W_last (l : Launch) (hlt : l.stackTraces = false) (Γ : zGam) {V : zV} {ad : Nat → Nat} {σ : Nat → Int} {q q2 : Int} {o : Nat} (hS : zS Γ V ad σ) (hq : -2147483648 ≤ q ∧ q ≤ 2147483647) (hq2 : -2147483648 ≤ q2 ∧ q2 ≤ 2147483647) (hO : zOut V o) : zM l Γ 10 yL_last wsL_last 2 12 V [.ref (ad 1), .int (zI (q)), .int (zI (q2)), .ref o] (zPR Γ V ad σ o True (zr6_last σ q q2)) := by
  have w0 : Cond.classLink RL 19 "java/lang/IndexOutOfBoundsException" ∈ wsL_last := by decide +kernel
  have iX7 : ∀ w ∈ u_ws RX7 TX7 2, w ∈ wsL_last := by decide +kernel
  refine zW_of (cc := cL_last) (nL := 5) (ret := (some .int)) (own := RL) (hh := [(0, 11, 14, 19)]) (by decide +kernel) rfl rfl (Nat.le_of_ble_eq_true rfl) (fun C X Z => ?_)
  obtain ⟨on, os, ho, hs9⟩ := id hO
  show zG C V 2 12 0 [(0, .ref (ad 1)), (1, .int (zI (q))), (2, .int (zI (q2))), (3, .ref o)] []
  refine zr_aload_n X 1 3 dL_last_0 rfl rfl ?_
  refine zr_aload_n X 2 0 dL_last_1 rfl rfl ?_
  refine zr_iload_n X 3 1 dL_last_2 rfl rfl ?_
  refine zr_iload_n X 4 2 dL_last_3 rfl rfl ?_
  refine zr_callVCe (kc' := 0) (ks' := 0) X 7 2 (m_X6_last l hlt Γ hS hq hq2) gL_last_X6_last rfl (by decide +kernel) rfl (by decide) hS.x rfl rfl (Nat.le_of_ble_eq_true rfl) dL_last_4 rfl (Nat.le_of_ble_eq_true rfl) (Nat.le_of_ble_eq_true rfl) (fun E V1 hX => ?_) (fun rv V1 hp => ?_)
  · obtain ⟨hv, hX⟩ := hX
    rw [hv]
    rcases hX with ⟨he, hc⟩ | ⟨he, hc⟩
    · subst he
      refine zr_catch X Z (name := "java/lang/IndexOutOfBoundsException") [] ⟨0, 11, 14, 19⟩ [] rfl (fun z hz => by cases hz) (by decide) (by decide) w0 ⟨rfl, by decide⟩ (fun q9 => ?_)
      show zG C V 0 0 14 [(0, .ref (ad 1)), (1, .int (zI (q))), (2, .int (zI (q2))), (3, .ref o)] [.ref q9]
      refine zr_astore X 16 [(4, .ref q9), (0, .ref (ad 1)), (1, .int (zI (q))), (2, .int (zI (q2))), (3, .ref o)] dL_last_14 rfl (by decide) rfl ?_
      refine zr_iconst X 17 dL_last_16 rfl ?_
      exact zr_iret X rfl ⟨1, 0, σ, rfl, by decide, hS, zag.rf, ⟨on, os, ho, hs9, fun h => absurd h.1 (by decide)⟩, rfl, Or.inl (⟨rfl, hc, rfl⟩)⟩ dL_last_17
    · subst he
      exact hc.elim
  · skip
    obtain ⟨y, σ1, hr, hS1, hx1, hrel⟩ := hp
    rw [hr]
    have h32 : σ1 32 = σ 32 := by
      rcases hrel with ⟨⟨c1, c2, c3, c4⟩, c5, c6⟩
      · exact (congrFun c6 32).trans (rfl)
    have ho1 := hx1 _ _ _ ho (by decide)
    show zG C V1 0 0 7 [(0, .ref (ad 1)), (1, .int (zI (q))), (2, .int (zI (q2))), (3, .ref o)] [.int (zI (y)), .ref o]
    refine zr_i2l X 8 dL_last_7 rfl ?_
    obtain ⟨y1, y1e⟩ : ∃ zz9 : Int64, zz9 = (zI (y)).toInt64 := ⟨_, rfl⟩
    rw [← y1e]
    refine zr_putN X 11 8 0 9 [.long (y1), os] tyX7 ho1 rfl iX7 tyX7_ok nmX7 (by decide) rfl rfl rfl rfl rfl (Nat.le_of_ble_eq_true rfl) rfl dL_last_8 rfl ?_
    show zG C (zu V1 o 5 (.inr (8, [.long (y1), os]))) 0 0 11 [(0, .ref (ad 1)), (1, .int (zI (q))), (2, .int (zI (q2))), (3, .ref o)] []
    have ha9 := zag.one (e' := .inr (8, [.long (y1), os])) ho1
    have hS2 := (hS1.out ha9)
    refine zr_goto X 18 dL_last_11 rfl ?_
    refine zr_iconst X 19 dL_last_18 rfl ?_
    exact zr_iret X rfl ⟨0, y, σ1, rfl, by decide, hS2, (hx1.mono (fun t ht => Or.inl ht)).tr (ha9.mono (fun t ht => by omega)), ⟨_, _, zu_eq _ _ _ _, hs9, fun _ => y1e⟩, h32, Or.inr (⟨rfl, hrel⟩)⟩ dL_last_19
set_option maxRecDepth 100000 in
set_option maxHeartbeats 4000000 in
theorem m_W_count (l : Launch) (hlt : l.stackTraces = false) (Γ : zGam) {V : zV} {ad : Nat → Nat} {σ : Nat → Int} {q q2 : Int} {o : Nat} (hS : zS Γ V ad σ) (hq : -2147483648 ≤ q ∧ q ≤ 2147483647) (hq2 : -2147483648 ≤ q2 ∧ q2 ≤ 2147483647) (hO : zOut V o) : zM l Γ 10 yL_count wsL_count 2 12 V [.ref (ad 1), .int (zI (q)), .int (zI (q2)), .ref o] (zPR Γ V ad σ o True (zr6_count σ q q2)) := by
  have w0 : Cond.classLink RL 19 "java/lang/IndexOutOfBoundsException" ∈ wsL_count := by decide +kernel
  have iX7 : ∀ w ∈ u_ws RX7 TX7 2, w ∈ wsL_count := by decide +kernel
  refine zW_of (cc := cL_count) (nL := 5) (ret := (some .int)) (own := RL) (hh := [(0, 11, 14, 19)]) (by decide +kernel) rfl rfl (Nat.le_of_ble_eq_true rfl) (fun C X Z => ?_)
  obtain ⟨on, os, ho, hs9⟩ := id hO
  show zG C V 2 12 0 [(0, .ref (ad 1)), (1, .int (zI (q))), (2, .int (zI (q2))), (3, .ref o)] []
  refine zr_aload_n X 1 3 dL_count_0 rfl rfl ?_
  refine zr_aload_n X 2 0 dL_count_1 rfl rfl ?_
  refine zr_iload_n X 3 1 dL_count_2 rfl rfl ?_
  refine zr_iload_n X 4 2 dL_count_3 rfl rfl ?_
  refine zr_callVCe (kc' := 0) (ks' := 0) X 7 2 (m_X6_count l hlt Γ hS hq hq2) gL_count_X6_count rfl (by decide +kernel) rfl (by decide) hS.x rfl rfl (Nat.le_of_ble_eq_true rfl) dL_count_4 rfl (Nat.le_of_ble_eq_true rfl) (Nat.le_of_ble_eq_true rfl) (fun E V1 hX => ?_) (fun rv V1 hp => ?_)
  · obtain ⟨hv, hX⟩ := hX
    rw [hv]
    rcases hX with ⟨he, hc⟩ | ⟨he, hc⟩
    · subst he
      refine zr_catch X Z (name := "java/lang/IndexOutOfBoundsException") [] ⟨0, 11, 14, 19⟩ [] rfl (fun z hz => by cases hz) (by decide) (by decide) w0 ⟨rfl, by decide⟩ (fun q9 => ?_)
      show zG C V 0 0 14 [(0, .ref (ad 1)), (1, .int (zI (q))), (2, .int (zI (q2))), (3, .ref o)] [.ref q9]
      refine zr_astore X 16 [(4, .ref q9), (0, .ref (ad 1)), (1, .int (zI (q))), (2, .int (zI (q2))), (3, .ref o)] dL_count_14 rfl (by decide) rfl ?_
      refine zr_iconst X 17 dL_count_16 rfl ?_
      exact zr_iret X rfl ⟨1, 0, σ, rfl, by decide, hS, zag.rf, ⟨on, os, ho, hs9, fun h => absurd h.1 (by decide)⟩, rfl, Or.inl (⟨rfl, hc, rfl⟩)⟩ dL_count_17
    · subst he
      exact hc.elim
  · skip
    obtain ⟨y, σ1, hr, hS1, hx1, hrel⟩ := hp
    rw [hr]
    have h32 : σ1 32 = σ 32 := by
      rcases hrel with ⟨⟨c1, c2, c3, c4⟩, c5, c6⟩
      · exact (congrFun c6 32).trans (rfl)
    have ho1 := hx1 _ _ _ ho (by decide)
    show zG C V1 0 0 7 [(0, .ref (ad 1)), (1, .int (zI (q))), (2, .int (zI (q2))), (3, .ref o)] [.int (zI (y)), .ref o]
    refine zr_i2l X 8 dL_count_7 rfl ?_
    obtain ⟨y1, y1e⟩ : ∃ zz9 : Int64, zz9 = (zI (y)).toInt64 := ⟨_, rfl⟩
    rw [← y1e]
    refine zr_putN X 11 8 0 9 [.long (y1), os] tyX7 ho1 rfl iX7 tyX7_ok nmX7 (by decide) rfl rfl rfl rfl rfl (Nat.le_of_ble_eq_true rfl) rfl dL_count_8 rfl ?_
    show zG C (zu V1 o 5 (.inr (8, [.long (y1), os]))) 0 0 11 [(0, .ref (ad 1)), (1, .int (zI (q))), (2, .int (zI (q2))), (3, .ref o)] []
    have ha9 := zag.one (e' := .inr (8, [.long (y1), os])) ho1
    have hS2 := (hS1.out ha9)
    refine zr_goto X 18 dL_count_11 rfl ?_
    refine zr_iconst X 19 dL_count_18 rfl ?_
    exact zr_iret X rfl ⟨0, y, σ1, rfl, by decide, hS2, (hx1.mono (fun t ht => Or.inl ht)).tr (ha9.mono (fun t ht => by omega)), ⟨_, _, zu_eq _ _ _ _, hs9, fun _ => y1e⟩, h32, Or.inr (⟨rfl, hrel⟩)⟩ dL_count_19
set_option maxRecDepth 100000 in
set_option maxHeartbeats 4000000 in
theorem m_W_place (l : Launch) (hlt : l.stackTraces = false) (Γ : zGam) {V : zV} {ad : Nat → Nat} {σ : Nat → Int} {q q2 z : Int} {o : Nat} (hS : zS Γ V ad σ) (hq : -2147483648 ≤ q ∧ q ≤ 2147483647) (hq2 : -2147483648 ≤ q2 ∧ q2 ≤ 2147483647) (hz : -2147483648 ≤ z ∧ z ≤ 2147483647) (hO : zOut V o) : zM l Γ 10 yL_place wsL_place 3 18 V [.ref (ad 1), .int (zI (q)), .int (zI (q2)), .int (zI (z)), .ref o] (zPR Γ V ad σ o True (zr6_place σ q q2 z)) := by
  have w0 : Cond.classLink RL 19 "java/lang/IndexOutOfBoundsException" ∈ wsL_place := by decide +kernel
  have w1 : Cond.classLink RL 21 "java/lang/IllegalArgumentException" ∈ wsL_place := by decide +kernel
  have iX7 : ∀ w ∈ u_ws RX7 TX7 2, w ∈ wsL_place := by decide +kernel
  refine zW_of (cc := cL_place) (nL := 6) (ret := (some .int)) (own := RL) (hh := [(0, 13, 16, 19), (0, 13, 20, 21)]) (by decide +kernel) rfl rfl (Nat.le_of_ble_eq_true rfl) (fun C X Z => ?_)
  obtain ⟨on, os, ho, hs9⟩ := id hO
  show zG C V 3 18 0 [(0, .ref (ad 1)), (1, .int (zI (q))), (2, .int (zI (q2))), (3, .int (zI (z))), (4, .ref o)] []
  refine zr_aload X 2 4 dL_place_0 rfl rfl ?_
  refine zr_aload_n X 3 0 dL_place_2 rfl rfl ?_
  refine zr_iload_n X 4 1 dL_place_3 rfl rfl ?_
  refine zr_iload_n X 5 2 dL_place_4 rfl rfl ?_
  refine zr_iload_n X 6 3 dL_place_5 rfl rfl ?_
  refine zr_callVCe (kc' := 0) (ks' := 0) X 9 3 (m_X6_place l hlt Γ hS hq hq2 hz) gL_place_X6_place rfl (by decide +kernel) rfl (by decide) hS.x rfl rfl (Nat.le_of_ble_eq_true rfl) dL_place_6 rfl (Nat.le_of_ble_eq_true rfl) (Nat.le_of_ble_eq_true rfl) (fun E V1 hX => ?_) (fun rv V1 hp => ?_)
  · obtain ⟨hv, hX⟩ := hX
    rw [hv]
    rcases hX with ⟨he, hc⟩ | ⟨he, hc⟩
    · subst he
      refine zr_catch X Z (name := "java/lang/IndexOutOfBoundsException") [] ⟨0, 13, 16, 19⟩ [⟨0, 13, 20, 21⟩] rfl (fun z hz => by cases hz) (by decide) (by decide) w0 ⟨rfl, by decide⟩ (fun q9 => ?_)
      show zG C V 0 0 16 [(0, .ref (ad 1)), (1, .int (zI (q))), (2, .int (zI (q2))), (3, .int (zI (z))), (4, .ref o)] [.ref q9]
      refine zr_astore X 18 [(5, .ref q9), (0, .ref (ad 1)), (1, .int (zI (q))), (2, .int (zI (q2))), (3, .int (zI (z))), (4, .ref o)] dL_place_16 rfl (by decide) rfl ?_
      refine zr_iconst X 19 dL_place_18 rfl ?_
      exact zr_iret X rfl ⟨1, 0, σ, rfl, by decide, hS, zag.rf, ⟨on, os, ho, hs9, fun h => absurd h.1 (by decide)⟩, rfl, Or.inl (⟨rfl, hc, rfl⟩)⟩ dL_place_19
    · subst he
      have hps : ∀ z ∈ ([⟨0, 13, 16, 19⟩] : List ExceptionTableEntry), covers z 6 = false ∨ (z.catchType ≠ 0 ∧ ∃ nm : String, Cond.classLink RL z.catchType nm ∈ wsL_place ∧ ("java/lang/IllegalArgumentException", nm) ∈ zxn) := by
        intro z hz
        simp only [List.mem_cons, List.not_mem_nil, or_false] at hz
        rcases hz with rfl
        · exact Or.inr ⟨by decide, "java/lang/IndexOutOfBoundsException", w0, by decide⟩
      refine zr_catch X Z (name := "java/lang/IllegalArgumentException") [⟨0, 13, 16, 19⟩] ⟨0, 13, 20, 21⟩ [] rfl hps (by decide) (by decide) w1 ⟨rfl, by decide⟩ (fun q9 => ?_)
      show zG C V 0 0 20 [(0, .ref (ad 1)), (1, .int (zI (q))), (2, .int (zI (q2))), (3, .int (zI (z))), (4, .ref o)] [.ref q9]
      refine zr_astore X 22 [(5, .ref q9), (0, .ref (ad 1)), (1, .int (zI (q))), (2, .int (zI (q2))), (3, .int (zI (z))), (4, .ref o)] dL_place_20 rfl (by decide) rfl ?_
      refine zr_iconst X 23 dL_place_22 rfl ?_
      exact zr_iret X rfl ⟨2, 0, σ, rfl, by decide, hS, zag.rf, ⟨on, os, ho, hs9, fun h => absurd h.1 (by decide)⟩, rfl, Or.inr (Or.inl (⟨rfl, hc, rfl⟩))⟩ dL_place_23
  · skip
    obtain ⟨y, σ1, hr, hS1, hx1, hrel⟩ := hp
    rw [hr]
    have h32 : σ1 32 = σ 32 := by
      rcases hrel with ⟨⟨⟨c1, c2, c3, c4⟩, c5, c6⟩, c7, c8⟩
      · exact (congrFun c8 32).trans (rfl)
    have ho1 := hx1 _ _ _ ho (by decide)
    show zG C V1 0 0 9 [(0, .ref (ad 1)), (1, .int (zI (q))), (2, .int (zI (q2))), (3, .int (zI (z))), (4, .ref o)] [.int (zI (y)), .ref o]
    refine zr_i2l X 10 dL_place_9 rfl ?_
    obtain ⟨y1, y1e⟩ : ∃ zz9 : Int64, zz9 = (zI (y)).toInt64 := ⟨_, rfl⟩
    rw [← y1e]
    refine zr_putN X 13 8 0 9 [.long (y1), os] tyX7 ho1 rfl iX7 tyX7_ok nmX7 (by decide) rfl rfl rfl rfl rfl (Nat.le_of_ble_eq_true rfl) rfl dL_place_10 rfl ?_
    show zG C (zu V1 o 5 (.inr (8, [.long (y1), os]))) 0 0 13 [(0, .ref (ad 1)), (1, .int (zI (q))), (2, .int (zI (q2))), (3, .int (zI (z))), (4, .ref o)] []
    have ha9 := zag.one (e' := .inr (8, [.long (y1), os])) ho1
    have hS2 := (hS1.out ha9)
    refine zr_goto X 24 dL_place_13 rfl ?_
    refine zr_iconst X 25 dL_place_24 rfl ?_
    exact zr_iret X rfl ⟨0, y, σ1, rfl, by decide, hS2, (hx1.mono (fun t ht => Or.inl ht)).tr (ha9.mono (fun t ht => by omega)), ⟨_, _, zu_eq _ _ _ _, hs9, fun _ => y1e⟩, h32, Or.inr (Or.inr (⟨rfl, hrel⟩))⟩ dL_place_25
set_option maxRecDepth 100000 in
set_option maxHeartbeats 4000000 in
theorem m_W_border (l : Launch) (hlt : l.stackTraces = false) (Γ : zGam) {V : zV} {ad : Nat → Nat} {σ : Nat → Int} {q : Int} {o : Nat} (hS : zS Γ V ad σ) (hq : -2147483648 ≤ q ∧ q ≤ 2147483647) (hO : zOut V o) : zM l Γ 10 yL_border wsL_border 1 6 V [.ref (ad 1), .int (zI (q)), .ref o] (zPR Γ V ad σ o True (zr6_border σ q)) := by
  have w0 : Cond.classLink RL 19 "java/lang/IndexOutOfBoundsException" ∈ wsL_border := by decide +kernel
  have iX7 : ∀ w ∈ u_ws RX7 TX7 2, w ∈ wsL_border := by decide +kernel
  refine zW_of (cc := cL_border) (nL := 4) (ret := (some .int)) (own := RL) (hh := [(0, 10, 13, 19)]) (by decide +kernel) rfl rfl (Nat.le_of_ble_eq_true rfl) (fun C X Z => ?_)
  obtain ⟨on, os, ho, hs9⟩ := id hO
  show zG C V 1 6 0 [(0, .ref (ad 1)), (1, .int (zI (q))), (2, .ref o)] []
  refine zr_aload_n X 1 2 dL_border_0 rfl rfl ?_
  refine zr_aload_n X 2 0 dL_border_1 rfl rfl ?_
  refine zr_iload_n X 3 1 dL_border_2 rfl rfl ?_
  refine zr_callVCe (kc' := 0) (ks' := 0) X 6 1 (m_X6_border l hlt Γ hS hq) gL_border_X6_border rfl (by decide +kernel) rfl (by decide) hS.x rfl rfl (Nat.le_of_ble_eq_true rfl) dL_border_3 rfl (Nat.le_of_ble_eq_true rfl) (Nat.le_of_ble_eq_true rfl) (fun E V1 hX => ?_) (fun rv V1 hp => ?_)
  · obtain ⟨hv, hX⟩ := hX
    rw [hv]
    rcases hX with ⟨he, hc⟩ | ⟨he, hc⟩
    · subst he
      refine zr_catch X Z (name := "java/lang/IndexOutOfBoundsException") [] ⟨0, 10, 13, 19⟩ [] rfl (fun z hz => by cases hz) (by decide) (by decide) w0 ⟨rfl, by decide⟩ (fun q9 => ?_)
      show zG C V 0 0 13 [(0, .ref (ad 1)), (1, .int (zI (q))), (2, .ref o)] [.ref q9]
      refine zr_astore_n X 14 [(3, .ref q9), (0, .ref (ad 1)), (1, .int (zI (q))), (2, .ref o)] dL_border_13 rfl (by decide) rfl ?_
      refine zr_iconst X 15 dL_border_14 rfl ?_
      exact zr_iret X rfl ⟨1, 0, σ, rfl, by decide, hS, zag.rf, ⟨on, os, ho, hs9, fun h => absurd h.1 (by decide)⟩, rfl, Or.inl (⟨rfl, hc, rfl⟩)⟩ dL_border_15
    · subst he
      exact hc.elim
  · skip
    obtain ⟨y, σ1, hr, hS1, hx1, hrel⟩ := hp
    rw [hr]
    have h32 : σ1 32 = σ 32 := by
      rcases hrel with ⟨⟨c1, c2⟩, c3, c4⟩
      · exact (congrFun c4 32).trans (rfl)
    have ho1 := hx1 _ _ _ ho (by decide)
    show zG C V1 0 0 6 [(0, .ref (ad 1)), (1, .int (zI (q))), (2, .ref o)] [.int (zI (y)), .ref o]
    refine zr_i2l X 7 dL_border_6 rfl ?_
    obtain ⟨y1, y1e⟩ : ∃ zz9 : Int64, zz9 = (zI (y)).toInt64 := ⟨_, rfl⟩
    rw [← y1e]
    refine zr_putN X 10 8 0 9 [.long (y1), os] tyX7 ho1 rfl iX7 tyX7_ok nmX7 (by decide) rfl rfl rfl rfl rfl (Nat.le_of_ble_eq_true rfl) rfl dL_border_7 rfl ?_
    show zG C (zu V1 o 5 (.inr (8, [.long (y1), os]))) 0 0 10 [(0, .ref (ad 1)), (1, .int (zI (q))), (2, .ref o)] []
    have ha9 := zag.one (e' := .inr (8, [.long (y1), os])) ho1
    have hS2 := (hS1.out ha9)
    refine zr_goto X 16 dL_border_10 rfl ?_
    refine zr_iconst X 17 dL_border_16 rfl ?_
    exact zr_iret X rfl ⟨0, y, σ1, rfl, by decide, hS2, (hx1.mono (fun t ht => Or.inl ht)).tr (ha9.mono (fun t ht => by omega)), ⟨_, _, zu_eq _ _ _ _, hs9, fun _ => y1e⟩, h32, Or.inr (⟨rfl, hrel⟩)⟩ dL_border_17
set_option maxRecDepth 100000 in
set_option maxHeartbeats 4000000 in
theorem m_W_borders (l : Launch) (hlt : l.stackTraces = false) (Γ : zGam) {V : zV} {ad : Nat → Nat} {σ : Nat → Int} {q : Int} {o : Nat} (hS : zS Γ V ad σ) (hq : -2147483648 ≤ q ∧ q ≤ 2147483647) (hO : zOut V o) : zM l Γ 11 yL_borders wsL_borders 3010 6300 V [.ref (ad 1), .int (zI (q)), .ref o] (zPR Γ V ad σ o False (zr6_borders σ q)) := by
  have w0 : Cond.classLink RL 19 "java/lang/IndexOutOfBoundsException" ∈ wsL_borders := by decide +kernel
  have iX7 : ∀ w ∈ u_ws RX7 TX7 2, w ∈ wsL_borders := by decide +kernel
  refine zW_of (cc := cL_borders) (nL := 4) (ret := (some .int)) (own := RL) (hh := [(0, 9, 12, 19)]) (by decide +kernel) rfl rfl (Nat.le_of_ble_eq_true rfl) (fun C X Z => ?_)
  obtain ⟨on, os, ho, hs9⟩ := id hO
  show zG C V 3010 6300 0 [(0, .ref (ad 1)), (1, .int (zI (q))), (2, .ref o)] []
  refine zr_aload_n X 1 2 dL_borders_0 rfl rfl ?_
  refine zr_aload_n X 2 0 dL_borders_1 rfl rfl ?_
  refine zr_iload_n X 3 1 dL_borders_2 rfl rfl ?_
  refine zr_callVCe (kc' := 0) (ks' := 0) X 6 1 (m_X6_borders l hlt Γ hS hq) gL_borders_X6_borders rfl (by decide +kernel) rfl (by decide) hS.x rfl rfl (Nat.le_of_ble_eq_true rfl) dL_borders_3 rfl (Nat.le_of_ble_eq_true rfl) (Nat.le_of_ble_eq_true rfl) (fun E V1 hX => ?_) (fun rv V1 hp => ?_)
  · obtain ⟨hv, hX⟩ := hX
    rw [hv]
    rcases hX with ⟨he, hc⟩ | ⟨he, hc⟩
    · subst he
      refine zr_catch X Z (name := "java/lang/IndexOutOfBoundsException") [] ⟨0, 9, 12, 19⟩ [] rfl (fun z hz => by cases hz) (by decide) (by decide) w0 ⟨rfl, by decide⟩ (fun q9 => ?_)
      show zG C V 0 0 12 [(0, .ref (ad 1)), (1, .int (zI (q))), (2, .ref o)] [.ref q9]
      refine zr_astore_n X 13 [(3, .ref q9), (0, .ref (ad 1)), (1, .int (zI (q))), (2, .ref o)] dL_borders_12 rfl (by decide) rfl ?_
      refine zr_iconst X 14 dL_borders_13 rfl ?_
      exact zr_iret X rfl ⟨1, 0, σ, rfl, by decide, hS, zag.rf, ⟨on, os, ho, hs9, fun h => absurd h.1 (by decide)⟩, rfl, Or.inl (⟨rfl, hc, rfl⟩)⟩ dL_borders_14
    · subst he
      exact hc.elim
  · skip
    obtain ⟨y, σ1, hr, hS1, hx1, hrel⟩ := hp
    rw [hr]
    have h32 : σ1 32 = σ 32 := by
      rcases hrel with ⟨⟨c1, c2⟩, c3⟩
      · exact (congrFun c3 32).trans (rfl)
    have ho1 := hx1 _ _ _ ho (by decide)
    show zG C V1 0 0 6 [(0, .ref (ad 1)), (1, .int (zI (q))), (2, .ref o)] [.ref y, .ref o]
    refine zr_putN X 9 8 1 10 [.long on, .ref y] tyX7 ho1 rfl iX7 tyX7_ok nmX7 (by decide) rfl rfl rfl rfl rfl (Nat.le_of_ble_eq_true rfl) rfl dL_borders_6 rfl ?_
    show zG C (zu V1 o 5 (.inr (8, [.long on, .ref y]))) 0 0 9 [(0, .ref (ad 1)), (1, .int (zI (q))), (2, .ref o)] []
    have ha9 := zag.one (e' := .inr (8, [.long on, .ref y])) ho1
    have hS2 := (hS1.out ha9)
    refine zr_goto X 15 dL_borders_9 rfl ?_
    refine zr_iconst X 16 dL_borders_15 rfl ?_
    exact zr_iret X rfl ⟨0, 0, σ1, rfl, by decide, hS2, (hx1.mono (fun t ht => Or.inl ht)).tr (ha9.mono (fun t ht => by omega)), ⟨_, _, zu_eq _ _ _ _, Or.inr ⟨_, rfl⟩, fun h => h.2.elim⟩, h32, Or.inr (⟨rfl, hrel⟩)⟩ dL_borders_16
set_option maxRecDepth 100000 in
set_option maxHeartbeats 4000000 in
theorem m_W_chain (l : Launch) (hlt : l.stackTraces = false) (Γ : zGam) {V : zV} {ad : Nat → Nat} {σ : Nat → Int} {q : Int} {o : Nat} (hS : zS Γ V ad σ) (hq : -2147483648 ≤ q ∧ q ≤ 2147483647) (hO : zOut V o) : zM l Γ 11 yL_chain wsL_chain 3010 6300 V [.ref (ad 1), .int (zI (q)), .ref o] (zPR Γ V ad σ o False (zr6_chain σ q)) := by
  have w0 : Cond.classLink RL 19 "java/lang/IndexOutOfBoundsException" ∈ wsL_chain := by decide +kernel
  have iX7 : ∀ w ∈ u_ws RX7 TX7 2, w ∈ wsL_chain := by decide +kernel
  refine zW_of (cc := cL_chain) (nL := 4) (ret := (some .int)) (own := RL) (hh := [(0, 9, 12, 19)]) (by decide +kernel) rfl rfl (Nat.le_of_ble_eq_true rfl) (fun C X Z => ?_)
  obtain ⟨on, os, ho, hs9⟩ := id hO
  show zG C V 3010 6300 0 [(0, .ref (ad 1)), (1, .int (zI (q))), (2, .ref o)] []
  refine zr_aload_n X 1 2 dL_chain_0 rfl rfl ?_
  refine zr_aload_n X 2 0 dL_chain_1 rfl rfl ?_
  refine zr_iload_n X 3 1 dL_chain_2 rfl rfl ?_
  refine zr_callVCe (kc' := 0) (ks' := 0) X 6 1 (m_X6_chain l hlt Γ hS hq) gL_chain_X6_chain rfl (by decide +kernel) rfl (by decide) hS.x rfl rfl (Nat.le_of_ble_eq_true rfl) dL_chain_3 rfl (Nat.le_of_ble_eq_true rfl) (Nat.le_of_ble_eq_true rfl) (fun E V1 hX => ?_) (fun rv V1 hp => ?_)
  · obtain ⟨hv, hX⟩ := hX
    rw [hv]
    rcases hX with ⟨he, hc⟩ | ⟨he, hc⟩
    · subst he
      refine zr_catch X Z (name := "java/lang/IndexOutOfBoundsException") [] ⟨0, 9, 12, 19⟩ [] rfl (fun z hz => by cases hz) (by decide) (by decide) w0 ⟨rfl, by decide⟩ (fun q9 => ?_)
      show zG C V 0 0 12 [(0, .ref (ad 1)), (1, .int (zI (q))), (2, .ref o)] [.ref q9]
      refine zr_astore_n X 13 [(3, .ref q9), (0, .ref (ad 1)), (1, .int (zI (q))), (2, .ref o)] dL_chain_12 rfl (by decide) rfl ?_
      refine zr_iconst X 14 dL_chain_13 rfl ?_
      exact zr_iret X rfl ⟨1, 0, σ, rfl, by decide, hS, zag.rf, ⟨on, os, ho, hs9, fun h => absurd h.1 (by decide)⟩, rfl, Or.inl (⟨rfl, hc, rfl⟩)⟩ dL_chain_14
    · subst he
      exact hc.elim
  · skip
    obtain ⟨y, σ1, hr, hS1, hx1, hrel⟩ := hp
    rw [hr]
    have h32 : σ1 32 = σ 32 := by
      rcases hrel with ⟨⟨c1, c2⟩, c3⟩
      · exact (congrFun c3 32).trans (rfl)
    have ho1 := hx1 _ _ _ ho (by decide)
    show zG C V1 0 0 6 [(0, .ref (ad 1)), (1, .int (zI (q))), (2, .ref o)] [.ref y, .ref o]
    refine zr_putN X 9 8 1 10 [.long on, .ref y] tyX7 ho1 rfl iX7 tyX7_ok nmX7 (by decide) rfl rfl rfl rfl rfl (Nat.le_of_ble_eq_true rfl) rfl dL_chain_6 rfl ?_
    show zG C (zu V1 o 5 (.inr (8, [.long on, .ref y]))) 0 0 9 [(0, .ref (ad 1)), (1, .int (zI (q))), (2, .ref o)] []
    have ha9 := zag.one (e' := .inr (8, [.long on, .ref y])) ho1
    have hS2 := (hS1.out ha9)
    refine zr_goto X 15 dL_chain_9 rfl ?_
    refine zr_iconst X 16 dL_chain_15 rfl ?_
    exact zr_iret X rfl ⟨0, 0, σ1, rfl, by decide, hS2, (hx1.mono (fun t ht => Or.inl ht)).tr (ha9.mono (fun t ht => by omega)), ⟨_, _, zu_eq _ _ _ _, Or.inr ⟨_, rfl⟩, fun h => h.2.elim⟩, h32, Or.inr (⟨rfl, hrel⟩)⟩ dL_chain_16
set_option maxRecDepth 100000 in
set_option maxHeartbeats 4000000 in
theorem m_W_differ (l : Launch) (hlt : l.stackTraces = false) (Γ : zGam) {V : zV} {ad : Nat → Nat} {σ : Nat → Int} {q q2 : Int} {o : Nat} (hS : zS Γ V ad σ) (hq : -2147483648 ≤ q ∧ q ≤ 2147483647) (hq2 : -2147483648 ≤ q2 ∧ q2 ≤ 2147483647) (hO : zOut V o) : zM l Γ 10 yL_differ wsL_differ 2 12 V [.ref (ad 1), .int (zI (q)), .int (zI (q2)), .ref o] (zPR Γ V ad σ o True (zr6_differ σ q q2)) := by
  have w0 : Cond.classLink RL 19 "java/lang/IndexOutOfBoundsException" ∈ wsL_differ := by decide +kernel
  have iX7 : ∀ w ∈ u_ws RX7 TX7 2, w ∈ wsL_differ := by decide +kernel
  refine zW_of (cc := cL_differ) (nL := 5) (ret := (some .int)) (own := RL) (hh := [(0, 11, 14, 19)]) (by decide +kernel) rfl rfl (Nat.le_of_ble_eq_true rfl) (fun C X Z => ?_)
  obtain ⟨on, os, ho, hs9⟩ := id hO
  show zG C V 2 12 0 [(0, .ref (ad 1)), (1, .int (zI (q))), (2, .int (zI (q2))), (3, .ref o)] []
  refine zr_aload_n X 1 3 dL_differ_0 rfl rfl ?_
  refine zr_aload_n X 2 0 dL_differ_1 rfl rfl ?_
  refine zr_iload_n X 3 1 dL_differ_2 rfl rfl ?_
  refine zr_iload_n X 4 2 dL_differ_3 rfl rfl ?_
  refine zr_callVCe (kc' := 0) (ks' := 0) X 7 2 (m_X6_differ l hlt Γ hS hq hq2) gL_differ_X6_differ rfl (by decide +kernel) rfl (by decide) hS.x rfl rfl (Nat.le_of_ble_eq_true rfl) dL_differ_4 rfl (Nat.le_of_ble_eq_true rfl) (Nat.le_of_ble_eq_true rfl) (fun E V1 hX => ?_) (fun rv V1 hp => ?_)
  · obtain ⟨hv, hX⟩ := hX
    rw [hv]
    rcases hX with ⟨he, hc⟩ | ⟨he, hc⟩
    · subst he
      refine zr_catch X Z (name := "java/lang/IndexOutOfBoundsException") [] ⟨0, 11, 14, 19⟩ [] rfl (fun z hz => by cases hz) (by decide) (by decide) w0 ⟨rfl, by decide⟩ (fun q9 => ?_)
      show zG C V 0 0 14 [(0, .ref (ad 1)), (1, .int (zI (q))), (2, .int (zI (q2))), (3, .ref o)] [.ref q9]
      refine zr_astore X 16 [(4, .ref q9), (0, .ref (ad 1)), (1, .int (zI (q))), (2, .int (zI (q2))), (3, .ref o)] dL_differ_14 rfl (by decide) rfl ?_
      refine zr_iconst X 17 dL_differ_16 rfl ?_
      exact zr_iret X rfl ⟨1, 0, σ, rfl, by decide, hS, zag.rf, ⟨on, os, ho, hs9, fun h => absurd h.1 (by decide)⟩, rfl, Or.inl (⟨rfl, hc, rfl⟩)⟩ dL_differ_17
    · subst he
      exact hc.elim
  · skip
    obtain ⟨y, σ1, hr, hS1, hx1, hrel⟩ := hp
    rw [hr]
    have h32 : σ1 32 = σ 32 := by
      rcases hrel with ⟨⟨c1, c2, c3, c4⟩, c5, c6⟩
      · exact (congrFun c6 32).trans (rfl)
    have ho1 := hx1 _ _ _ ho (by decide)
    show zG C V1 0 0 7 [(0, .ref (ad 1)), (1, .int (zI (q))), (2, .int (zI (q2))), (3, .ref o)] [.int (zI (y)), .ref o]
    refine zr_i2l X 8 dL_differ_7 rfl ?_
    obtain ⟨y1, y1e⟩ : ∃ zz9 : Int64, zz9 = (zI (y)).toInt64 := ⟨_, rfl⟩
    rw [← y1e]
    refine zr_putN X 11 8 0 9 [.long (y1), os] tyX7 ho1 rfl iX7 tyX7_ok nmX7 (by decide) rfl rfl rfl rfl rfl (Nat.le_of_ble_eq_true rfl) rfl dL_differ_8 rfl ?_
    show zG C (zu V1 o 5 (.inr (8, [.long (y1), os]))) 0 0 11 [(0, .ref (ad 1)), (1, .int (zI (q))), (2, .int (zI (q2))), (3, .ref o)] []
    have ha9 := zag.one (e' := .inr (8, [.long (y1), os])) ho1
    have hS2 := (hS1.out ha9)
    refine zr_goto X 18 dL_differ_11 rfl ?_
    refine zr_iconst X 19 dL_differ_18 rfl ?_
    exact zr_iret X rfl ⟨0, y, σ1, rfl, by decide, hS2, (hx1.mono (fun t ht => Or.inl ht)).tr (ha9.mono (fun t ht => by omega)), ⟨_, _, zu_eq _ _ _ _, hs9, fun _ => y1e⟩, h32, Or.inr (⟨rfl, hrel⟩)⟩ dL_differ_19
set_option maxRecDepth 100000 in
set_option maxHeartbeats 4000000 in
theorem m_W_known (l : Launch) (hlt : l.stackTraces = false) (Γ : zGam) {V : zV} {ad : Nat → Nat} {σ : Nat → Int} {q z : Int} {o : Nat} (hS : zS Γ V ad σ) (hq : -2147483648 ≤ q ∧ q ≤ 2147483647) (hz : -2147483648 ≤ z ∧ z ≤ 2147483647) (hO : zOut V o) : zM l Γ 10 yL_known wsL_known 2 12 V [.ref (ad 1), .int (zI (q)), .int (zI (z)), .ref o] (zPR Γ V ad σ o True (zr6_known σ q z)) := by
  have w0 : Cond.classLink RL 19 "java/lang/IndexOutOfBoundsException" ∈ wsL_known := by decide +kernel
  have w1 : Cond.classLink RL 21 "java/lang/IllegalArgumentException" ∈ wsL_known := by decide +kernel
  have iX7 : ∀ w ∈ u_ws RX7 TX7 2, w ∈ wsL_known := by decide +kernel
  refine zW_of (cc := cL_known) (nL := 5) (ret := (some .int)) (own := RL) (hh := [(0, 11, 14, 19), (0, 11, 18, 21)]) (by decide +kernel) rfl rfl (Nat.le_of_ble_eq_true rfl) (fun C X Z => ?_)
  obtain ⟨on, os, ho, hs9⟩ := id hO
  show zG C V 2 12 0 [(0, .ref (ad 1)), (1, .int (zI (q))), (2, .int (zI (z))), (3, .ref o)] []
  refine zr_aload_n X 1 3 dL_known_0 rfl rfl ?_
  refine zr_aload_n X 2 0 dL_known_1 rfl rfl ?_
  refine zr_iload_n X 3 1 dL_known_2 rfl rfl ?_
  refine zr_iload_n X 4 2 dL_known_3 rfl rfl ?_
  refine zr_callVCe (kc' := 0) (ks' := 0) X 7 2 (m_X6_known l hlt Γ hS hq hz) gL_known_X6_known rfl (by decide +kernel) rfl (by decide) hS.x rfl rfl (Nat.le_of_ble_eq_true rfl) dL_known_4 rfl (Nat.le_of_ble_eq_true rfl) (Nat.le_of_ble_eq_true rfl) (fun E V1 hX => ?_) (fun rv V1 hp => ?_)
  · obtain ⟨hv, hX⟩ := hX
    rw [hv]
    rcases hX with ⟨he, hc⟩ | ⟨he, hc⟩
    · subst he
      refine zr_catch X Z (name := "java/lang/IndexOutOfBoundsException") [] ⟨0, 11, 14, 19⟩ [⟨0, 11, 18, 21⟩] rfl (fun z hz => by cases hz) (by decide) (by decide) w0 ⟨rfl, by decide⟩ (fun q9 => ?_)
      show zG C V 0 0 14 [(0, .ref (ad 1)), (1, .int (zI (q))), (2, .int (zI (z))), (3, .ref o)] [.ref q9]
      refine zr_astore X 16 [(4, .ref q9), (0, .ref (ad 1)), (1, .int (zI (q))), (2, .int (zI (z))), (3, .ref o)] dL_known_14 rfl (by decide) rfl ?_
      refine zr_iconst X 17 dL_known_16 rfl ?_
      exact zr_iret X rfl ⟨1, 0, σ, rfl, by decide, hS, zag.rf, ⟨on, os, ho, hs9, fun h => absurd h.1 (by decide)⟩, rfl, Or.inl (⟨rfl, hc, rfl⟩)⟩ dL_known_17
    · subst he
      have hps : ∀ z ∈ ([⟨0, 11, 14, 19⟩] : List ExceptionTableEntry), covers z 4 = false ∨ (z.catchType ≠ 0 ∧ ∃ nm : String, Cond.classLink RL z.catchType nm ∈ wsL_known ∧ ("java/lang/IllegalArgumentException", nm) ∈ zxn) := by
        intro z hz
        simp only [List.mem_cons, List.not_mem_nil, or_false] at hz
        rcases hz with rfl
        · exact Or.inr ⟨by decide, "java/lang/IndexOutOfBoundsException", w0, by decide⟩
      refine zr_catch X Z (name := "java/lang/IllegalArgumentException") [⟨0, 11, 14, 19⟩] ⟨0, 11, 18, 21⟩ [] rfl hps (by decide) (by decide) w1 ⟨rfl, by decide⟩ (fun q9 => ?_)
      show zG C V 0 0 18 [(0, .ref (ad 1)), (1, .int (zI (q))), (2, .int (zI (z))), (3, .ref o)] [.ref q9]
      refine zr_astore X 20 [(4, .ref q9), (0, .ref (ad 1)), (1, .int (zI (q))), (2, .int (zI (z))), (3, .ref o)] dL_known_18 rfl (by decide) rfl ?_
      refine zr_iconst X 21 dL_known_20 rfl ?_
      exact zr_iret X rfl ⟨2, 0, σ, rfl, by decide, hS, zag.rf, ⟨on, os, ho, hs9, fun h => absurd h.1 (by decide)⟩, rfl, Or.inr (Or.inl (⟨rfl, hc, rfl⟩))⟩ dL_known_21
  · skip
    obtain ⟨y, σ1, hr, hS1, hx1, hrel⟩ := hp
    rw [hr]
    have h32 : σ1 32 = σ 32 := by
      rcases hrel with ⟨⟨c1, c2, c3, c4⟩, c5, c6⟩
      · exact (congrFun c6 32).trans (rfl)
    have ho1 := hx1 _ _ _ ho (by decide)
    show zG C V1 0 0 7 [(0, .ref (ad 1)), (1, .int (zI (q))), (2, .int (zI (z))), (3, .ref o)] [.int (zI (y)), .ref o]
    refine zr_i2l X 8 dL_known_7 rfl ?_
    obtain ⟨y1, y1e⟩ : ∃ zz9 : Int64, zz9 = (zI (y)).toInt64 := ⟨_, rfl⟩
    rw [← y1e]
    refine zr_putN X 11 8 0 9 [.long (y1), os] tyX7 ho1 rfl iX7 tyX7_ok nmX7 (by decide) rfl rfl rfl rfl rfl (Nat.le_of_ble_eq_true rfl) rfl dL_known_8 rfl ?_
    show zG C (zu V1 o 5 (.inr (8, [.long (y1), os]))) 0 0 11 [(0, .ref (ad 1)), (1, .int (zI (q))), (2, .int (zI (z))), (3, .ref o)] []
    have ha9 := zag.one (e' := .inr (8, [.long (y1), os])) ho1
    have hS2 := (hS1.out ha9)
    refine zr_goto X 22 dL_known_11 rfl ?_
    refine zr_iconst X 23 dL_known_22 rfl ?_
    exact zr_iret X rfl ⟨0, y, σ1, rfl, by decide, hS2, (hx1.mono (fun t ht => Or.inl ht)).tr (ha9.mono (fun t ht => by omega)), ⟨_, _, zu_eq _ _ _ _, hs9, fun _ => y1e⟩, h32, Or.inr (Or.inr (⟨rfl, hrel⟩))⟩ dL_known_23
set_option maxRecDepth 100000 in
set_option maxHeartbeats 4000000 in
theorem m_W_travelled (l : Launch) (hlt : l.stackTraces = false) (Γ : zGam) {V : zV} {ad : Nat → Nat} {σ : Nat → Int} {q : Int} {o : Nat} (hS : zS Γ V ad σ) (hq : -2147483648 ≤ q ∧ q ≤ 2147483647) (hO : zOut V o) : zM l Γ 11 yL_travelled wsL_travelled 3011 6306 V [.ref (ad 1), .int (zI (q)), .ref o] (zPR Γ V ad σ o False (zr6_travelled σ q)) := by
  have w0 : Cond.classLink RL 21 "java/lang/IllegalArgumentException" ∈ wsL_travelled := by decide +kernel
  have iX7 : ∀ w ∈ u_ws RX7 TX7 2, w ∈ wsL_travelled := by decide +kernel
  refine zW_of (cc := cL_travelled) (nL := 4) (ret := (some .int)) (own := RL) (hh := [(0, 9, 12, 21)]) (by decide +kernel) rfl rfl (Nat.le_of_ble_eq_true rfl) (fun C X Z => ?_)
  obtain ⟨on, os, ho, hs9⟩ := id hO
  show zG C V 3011 6306 0 [(0, .ref (ad 1)), (1, .int (zI (q))), (2, .ref o)] []
  refine zr_aload_n X 1 2 dL_travelled_0 rfl rfl ?_
  refine zr_aload_n X 2 0 dL_travelled_1 rfl rfl ?_
  refine zr_iload_n X 3 1 dL_travelled_2 rfl rfl ?_
  refine zr_callVCe (kc' := 0) (ks' := 0) X 6 1 (m_X6_travelled l hlt Γ hS hq) gL_travelled_X6_travelled rfl (by decide +kernel) rfl (by decide) hS.x rfl rfl (Nat.le_of_ble_eq_true rfl) dL_travelled_3 rfl (Nat.le_of_ble_eq_true rfl) (Nat.le_of_ble_eq_true rfl) (fun E V1 hX => ?_) (fun rv V1 hp => ?_)
  · obtain ⟨hv, hX⟩ := hX
    rw [hv]
    rcases hX with ⟨he, hc⟩ | ⟨he, hc⟩
    · subst he
      exact hc.elim
    · subst he
      refine zr_catch X Z (name := "java/lang/IllegalArgumentException") [] ⟨0, 9, 12, 21⟩ [] rfl (fun z hz => by cases hz) (by decide) (by decide) w0 ⟨rfl, by decide⟩ (fun q9 => ?_)
      show zG C V 0 0 12 [(0, .ref (ad 1)), (1, .int (zI (q))), (2, .ref o)] [.ref q9]
      refine zr_astore_n X 13 [(3, .ref q9), (0, .ref (ad 1)), (1, .int (zI (q))), (2, .ref o)] dL_travelled_12 rfl (by decide) rfl ?_
      refine zr_iconst X 14 dL_travelled_13 rfl ?_
      exact zr_iret X rfl ⟨1, 0, σ, rfl, by decide, hS, zag.rf, ⟨on, os, ho, hs9, fun h => absurd h.1 (by decide)⟩, rfl, Or.inl (⟨rfl, hc, rfl⟩)⟩ dL_travelled_14
  · skip
    obtain ⟨y, σ1, hr, hS1, hx1, hrel⟩ := hp
    rw [hr]
    have h32 : σ1 32 = σ 32 := by
      rcases hrel with ⟨⟨c1, c2⟩, c3⟩
      · exact (congrFun c3 32).trans (rfl)
    have ho1 := hx1 _ _ _ ho (by decide)
    show zG C V1 0 0 6 [(0, .ref (ad 1)), (1, .int (zI (q))), (2, .ref o)] [.ref y, .ref o]
    refine zr_putN X 9 8 1 10 [.long on, .ref y] tyX7 ho1 rfl iX7 tyX7_ok nmX7 (by decide) rfl rfl rfl rfl rfl (Nat.le_of_ble_eq_true rfl) rfl dL_travelled_6 rfl ?_
    show zG C (zu V1 o 5 (.inr (8, [.long on, .ref y]))) 0 0 9 [(0, .ref (ad 1)), (1, .int (zI (q))), (2, .ref o)] []
    have ha9 := zag.one (e' := .inr (8, [.long on, .ref y])) ho1
    have hS2 := (hS1.out ha9)
    refine zr_goto X 15 dL_travelled_9 rfl ?_
    refine zr_iconst X 16 dL_travelled_15 rfl ?_
    exact zr_iret X rfl ⟨0, 0, σ1, rfl, by decide, hS2, (hx1.mono (fun t ht => Or.inl ht)).tr (ha9.mono (fun t ht => by omega)), ⟨_, _, zu_eq _ _ _ _, Or.inr ⟨_, rfl⟩, fun h => h.2.elim⟩, h32, Or.inr (⟨rfl, hrel⟩)⟩ dL_travelled_16
set_option maxRecDepth 100000 in
set_option maxHeartbeats 4000000 in
theorem m_W_house (l : Launch) (hlt : l.stackTraces = false) (Γ : zGam) {V : zV} {ad : Nat → Nat} {σ : Nat → Int} {q : Int} {o : Nat} (hS : zS Γ V ad σ) (hq : -2147483648 ≤ q ∧ q ≤ 2147483647) (hO : zOut V o) : zM l Γ 9 yL_house wsL_house 1 6 V [.ref (ad 1), .int (zI (q)), .ref o] (zPR Γ V ad σ o True (zr6_house σ q)) := by
  have w0 : Cond.classLink RL 21 "java/lang/IllegalArgumentException" ∈ wsL_house := by decide +kernel
  have iX7 : ∀ w ∈ u_ws RX7 TX7 2, w ∈ wsL_house := by decide +kernel
  refine zW_of (cc := cL_house) (nL := 4) (ret := (some .int)) (own := RL) (hh := [(0, 10, 13, 21)]) (by decide +kernel) rfl rfl (Nat.le_of_ble_eq_true rfl) (fun C X Z => ?_)
  obtain ⟨on, os, ho, hs9⟩ := id hO
  show zG C V 1 6 0 [(0, .ref (ad 1)), (1, .int (zI (q))), (2, .ref o)] []
  refine zr_aload_n X 1 2 dL_house_0 rfl rfl ?_
  refine zr_aload_n X 2 0 dL_house_1 rfl rfl ?_
  refine zr_iload_n X 3 1 dL_house_2 rfl rfl ?_
  refine zr_callVCe (kc' := 0) (ks' := 0) X 6 1 (m_X6_house l hlt Γ hS hq) gL_house_X6_house rfl (by decide +kernel) rfl (by decide) hS.x rfl rfl (Nat.le_of_ble_eq_true rfl) dL_house_3 rfl (Nat.le_of_ble_eq_true rfl) (Nat.le_of_ble_eq_true rfl) (fun E V1 hX => ?_) (fun rv V1 hp => ?_)
  · obtain ⟨hv, hX⟩ := hX
    rw [hv]
    rcases hX with ⟨he, hc⟩ | ⟨he, hc⟩
    · subst he
      exact hc.elim
    · subst he
      refine zr_catch X Z (name := "java/lang/IllegalArgumentException") [] ⟨0, 10, 13, 21⟩ [] rfl (fun z hz => by cases hz) (by decide) (by decide) w0 ⟨rfl, by decide⟩ (fun q9 => ?_)
      show zG C V 0 0 13 [(0, .ref (ad 1)), (1, .int (zI (q))), (2, .ref o)] [.ref q9]
      refine zr_astore_n X 14 [(3, .ref q9), (0, .ref (ad 1)), (1, .int (zI (q))), (2, .ref o)] dL_house_13 rfl (by decide) rfl ?_
      refine zr_iconst X 15 dL_house_14 rfl ?_
      exact zr_iret X rfl ⟨1, 0, σ, rfl, by decide, hS, zag.rf, ⟨on, os, ho, hs9, fun h => absurd h.1 (by decide)⟩, rfl, Or.inl (⟨rfl, hc, rfl⟩)⟩ dL_house_15
  · skip
    obtain ⟨y, σ1, hr, hS1, hx1, hrel⟩ := hp
    rw [hr]
    have h32 : σ1 32 = σ 32 := by
      rcases hrel with ⟨⟨c1, c2⟩, d12, c11⟩
      · exact (congrFun c11 32).trans (rfl)
    have ho1 := hx1 _ _ _ ho (by decide)
    show zG C V1 0 0 6 [(0, .ref (ad 1)), (1, .int (zI (q))), (2, .ref o)] [.int (zI (y)), .ref o]
    refine zr_i2l X 7 dL_house_6 rfl ?_
    obtain ⟨y1, y1e⟩ : ∃ zz9 : Int64, zz9 = (zI (y)).toInt64 := ⟨_, rfl⟩
    rw [← y1e]
    refine zr_putN X 10 8 0 9 [.long (y1), os] tyX7 ho1 rfl iX7 tyX7_ok nmX7 (by decide) rfl rfl rfl rfl rfl (Nat.le_of_ble_eq_true rfl) rfl dL_house_7 rfl ?_
    show zG C (zu V1 o 5 (.inr (8, [.long (y1), os]))) 0 0 10 [(0, .ref (ad 1)), (1, .int (zI (q))), (2, .ref o)] []
    have ha9 := zag.one (e' := .inr (8, [.long (y1), os])) ho1
    have hS2 := (hS1.out ha9)
    refine zr_goto X 16 dL_house_10 rfl ?_
    refine zr_iconst X 17 dL_house_16 rfl ?_
    exact zr_iret X rfl ⟨0, y, σ1, rfl, by decide, hS2, (hx1.mono (fun t ht => Or.inl ht)).tr (ha9.mono (fun t ht => by omega)), ⟨_, _, zu_eq _ _ _ _, hs9, fun _ => y1e⟩, h32, Or.inr (⟨rfl, hrel⟩)⟩ dL_house_17
