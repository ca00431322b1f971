section
/-! constructors -/
/-- all but b is kept -/
def zbt (b : Nat) (V V' : zV) : Prop := ∀ (a t : Nat) (e : va_E), V a = some (t, e) → a ≠ b → V' a = some (t, e)
def zal : Nat → Prop := fun _ => True
theorem zbt.rf {b : Nat} {V : zV} : zbt b V V := fun _ _ _ h _ => h
theorem zbt.tr {b : Nat} {V V' V'' : zV} (h : zbt b V V') (h' : zbt b V' V'') : zbt b V V'' := fun a t e h1 h2 => h' a t e (h a t e h1 h2) h2
theorem zbt.put {b : Nat} {V V' : zV} {t : Nat} {e : va_E} (h : zbt b V V') : zbt b V (zu V' b t e) := fun a t1 e1 h1 h2 => (zu_ne h2).trans (h a t1 e1 h1 h2)
theorem zbt.full {b : Nat} {V V' V'' : zV} (h : zbt b V V') (h' : zag zal V' V'') : zbt b V V'' := fun a t e h1 h2 => h' a t e (h a t e h1 h2) trivial
theorem zbt.new {b t : Nat} {e : va_E} {V V' : zV} (hb : V b = none) (h : zbt b (zu V b t e) V') : zag zal V V' := fun a t1 e1 h1 _ => by
  have hne : a ≠ b := fun q => by
    rw [q, hb] at h1
    cases h1
  exact h a t1 e1 ((zu_ne hne).trans h1) hne
theorem zbt.ag {b tb : Nat} {e0 : va_E} {V V' : zV} (h : zbt b V V') (hb : V b = some (tb, e0)) : zag (fun t => t ≠ tb) V V' := fun a t e h1 h2 => h a t e h1 (fun q => by
  rw [q, hb] at h1
  exact h2 (Prod.mk.inj (Option.some.inj h1)).1.symm)
theorem zarr_eq (c : ClassId) (n : Nat) (f f' : Nat → Option Nat) (h : ∀ i, i < n → f i = f' i) : vp_cell c (n, .inr (.inr (.inr (.inr f)))) = vp_cell c (n, .inr (.inr (.inr (.inr f')))) := by
  have e : (Array.ofFn (n := n) fun j => va_rf (f j.val)) = (Array.ofFn (n := n) fun j => va_rf (f' j.val)) := by
    congr 1
    funext j
    rw [h j.val j.isLt]
  show arrV c n (fun j => va_rf (f j)) = arrV c n (fun j => va_rf (f' j))
  unfold arrV
  rw [e]
theorem z0c : zc (fun _ => 0) := fun _ => ⟨Int.le_refl 0, by show (0 : Int) ≤ 255; decide⟩
theorem z0b : zbd (fun _ => 0) := fun _ => ⟨Int.le_refl 0, by show (0 : Int) ≤ 1000; decide⟩
theorem z0p : zpl (fun _ => 0) := fun _ => ⟨by show (-2000 : Int) ≤ 0; decide, by show (0 : Int) ≤ 2000; decide⟩
/-- a row of references may be named by another function that agrees over its places -/
theorem zr_same {C : zC} {l0 : Launch} {Γ0 : zGam} {n0 : Nat} {own : String} {cc : ByteArray} {ws : List Cond} {d : Nat} {ret : Option FieldType} {Post : Option Value → zV → Prop} {V : zV} {kc ks pc : Nat} {lv : List (Nat × Value)} {rest : List Value} (X : zK C l0 Γ0 n0 own cc ws d ret Post) {a tg k n : Nat} {f : Nat → Option Nat} (f' : Nat → Option Nat) (hV : V a = some (tg, zq Γ0.2.1 k n f)) (hf : ∀ i, i < n → f i = f' i) (kk : zG C (zu V a tg (zq Γ0.2.1 k n f')) kc ks pc lv rest) : zG C V kc ks pc lv rest := by
  obtain ⟨⟨p, l, e, R, s, m, args, below, meth, c⟩, Γ, ⟨nL, mc, ms⟩, Q⟩ := C
  obtain ⟨hx, hb, hml, hown, hts, hO, hB0, hlk, hret, hmc, hms, hdf, hdl, hQ, rfl, rfl, rfl⟩ := X
  have hVa := hV
  intro H locs cells slots ls hV hS hl' hcc hs
  obtain ⟨W0, hL, hP, hD⟩ := hV
  obtain ⟨q0, hq⟩ := (hL _ _).mp (zd_of hVa)
  refine kk H locs cells slots ls ⟨W0.set q0 (a, zq Γ.2.1 k n f'), ?_, ?_, ?_⟩ hS hl' hcc hs
  · rw [zd_zu]
    exact hL.set hD hq
  · refine hP.set hD hq ?_ (fun _ _ => rfl)
    have h1 := hP q0 _ hq
    show H[a]? = some (vp_cell (Γ.2.1 k) (n, .inr (.inr (.inr (.inr f')))))
    rw [← zarr_eq (Γ.2.1 k) n f f' hf]
    exact h1
  · exact hD.set hq
set_option maxRecDepth 100000 in
set_option maxHeartbeats 4000000 in
theorem m_X4_init_4 (l : Launch) (Γ : zGam) {V : zV} {b tb : Nat} (hb : V b = some (tb, .inr (4, [.null, .int (zI (0))])))  : zM l Γ 2 yX4_init wsX4_init 0 0 V [.ref b] (fun rv V' => rv = none ∧ V' = V) := by
  have w0 : Cond.methodLink RX4 1 objectInit ∈ wsX4_init := by decide +kernel
  have w1 : Cond.instanceMethod objectInit ∈ wsX4_init := by decide +kernel
  have w2 : Cond.code objectInit ⟨#[0xb1]⟩ 1 none ∈ wsX4_init := by decide +kernel
  refine zM_of (cc := cX4_init) (nL := 1) (ret := none) (own := RX4) (by decide +kernel) rfl rfl (Nat.le_of_ble_eq_true rfl) (fun C X hi0 => ?_)
  have hi0 := hi0 rfl
  show zG C V 0 0 0 [(0, .ref b)] []
  refine zr_aload_n X 1 0 dX4_init_0 rfl rfl ?_
  refine zr_objInit X 4 hb rfl w0 w1 w2 (by decide) (Nat.le_of_ble_eq_true rfl) dX4_init_1 rfl ?_
  exact zr_vret X rfl ⟨rfl, rfl⟩ dX4_init_4
set_option maxRecDepth 100000 in
set_option maxHeartbeats 4000000 in
theorem m_X4_init_6 (l : Launch) (Γ : zGam) {V : zV} {b tb : Nat} (hb : V b = some (tb, .inr (6, [.null, .int (zI (0)), .int (zI (0)), .int (zI (0)), .int (zI (0)), .int (zI (0))])))  : zM l Γ 2 yX4_init wsX4_init 0 0 V [.ref b] (fun rv V' => rv = none ∧ V' = V) := by
  have w0 : Cond.methodLink RX4 1 objectInit ∈ wsX4_init := by decide +kernel
  have w1 : Cond.instanceMethod objectInit ∈ wsX4_init := by decide +kernel
  have w2 : Cond.code objectInit ⟨#[0xb1]⟩ 1 none ∈ wsX4_init := by decide +kernel
  refine zM_of (cc := cX4_init) (nL := 1) (ret := none) (own := RX4) (by decide +kernel) rfl rfl (Nat.le_of_ble_eq_true rfl) (fun C X hi0 => ?_)
  have hi0 := hi0 rfl
  show zG C V 0 0 0 [(0, .ref b)] []
  refine zr_aload_n X 1 0 dX4_init_0 rfl rfl ?_
  refine zr_objInit X 4 hb rfl w0 w1 w2 (by decide) (Nat.le_of_ble_eq_true rfl) dX4_init_1 rfl ?_
  exact zr_vret X rfl ⟨rfl, rfl⟩ dX4_init_4
set_option maxRecDepth 100000 in
set_option maxHeartbeats 4000000 in
theorem m_X2_init (l : Launch) (Γ : zGam) {V : zV} {b tb tg : Nat} {n : Int} (hb : V b = some (tb, .inr (4, [.null, .int (zI (0))]))) (hn : 0 ≤ n ∧ n ≤ 1000) : zM l Γ 4 yX2_init wsX2_init 1 n.toNat V [.ref b, .int (zI (n))] (fun rv V' => rv = none ∧ ∃ g, zSc Γ V' tb b tg g n.toNat 0 ∧ zbt b V V') := by
  have w0 : Cond.initialized yX4_init.cls ∈ wsX2_init := by decide +kernel
  have w1 : Cond.instanceMethod yX4_init ∈ wsX2_init := by decide +kernel
  have w2 : Cond.methodLink RX2 9 Lib.Math.max.name ∈ wsX2_init := by decide +kernel
  have w3 : Cond.static Lib.Math.max.name ∈ wsX2_init := by decide +kernel
  have w4 : Cond.initialized "java/lang/Math" ∈ wsX2_init := by decide +kernel
  have w5 : Cond.code Lib.Math.max.name Lib.Math.max.code 2 (some .int) ∈ wsX2_init := by decide +kernel
  have w6 : Cond.arrayClass .char ∈ wsX2_init := by decide +kernel
  have w7 : Cond.fieldLink RX2 15 "Sashwords$Script" "signs" "[C" ∈ wsX2_init := by decide +kernel
  have iX2 : ∀ w ∈ u_ws RX2 TX2 2, w ∈ wsX2_init := by decide +kernel
  refine zM_of (cc := cX2_init) (nL := 2) (ret := none) (own := RX2) (by decide +kernel) rfl rfl (Nat.le_of_ble_eq_true rfl) (fun C X hi0 => ?_)
  have hi0 := hi0 rfl
  show zG C V 1 n.toNat 0 [(0, .ref b), (1, .int (zI (n)))] []
  refine zr_aload_n X 1 0 dX2_init_0 rfl rfl ?_
  refine zr_callIN (kc' := 1) (ks' := n.toNat) X 4 0 0 (m_X4_init_4 l Γ hb) gX2_init_X4_init_n3 rfl w0 rfl w1 rfl (by decide +kernel) rfl (by decide) rfl (Nat.le_of_ble_eq_true rfl) dX2_init_1 rfl (by omega) (by omega) (fun rv1 V2 hp3 => ?_)
  rw [hp3.1, hp3.2]
  show zG C V 1 n.toNat 4 [(0, .ref b), (1, .int (zI (n)))] []
  refine zr_aload_n X 5 0 dX2_init_4 rfl rfl ?_
  refine zr_iload_n X 6 1 dX2_init_5 rfl rfl ?_
  refine zr_iconst X 7 dX2_init_6 rfl ?_
  refine zr_mmax X 10 (n) w2 w3 w4 w5 (by decide) (Nat.le_of_ble_eq_true rfl) (by omega) (by omega) (by split <;> omega) dX2_init_7 rfl ?_
  refine zr_newac (kc' := (1 - 1)) (ks' := (n.toNat - (n).toNat)) X 12 tg w6 (by omega) dX2_init_10 rfl (by omega) (by omega) (fun q4 hq5 => ?_)
  refine zr_putF X 15 4 0 [.ref q4, .int (zI (0))] tyX2 hi0 ((zu_ne (zne_new hb hq5)).trans hb) rfl iX2 tyX2_ok nmX2 (by decide) w7 rfl rfl rfl rfl rfl (Nat.le_of_ble_eq_true rfl) rfl dX2_init_12 rfl ?_
  exact zr_vret X rfl ⟨rfl, q4, ⟨fun _ => 0, (zu_eq _ _ _ _), ((zu_ne (Ne.symm (zne_new hb hq5))).trans (zu_eq _ _ _ _)), z0c, by omega, by omega⟩, (zbt.full (zbt.rf) (zag.rf.new hq5)).put⟩ dX2_init_15
set_option maxRecDepth 100000 in
set_option maxHeartbeats 4000000 in
theorem m_X5_init (l : Launch) (Γ : zGam) {V : zV} {b tb : Nat} {n : Int} (hb : V b = some (tb, .inr (6, [.null, .int (zI (0)), .int (zI (0)), .int (zI (0)), .int (zI (0)), .int (zI (0))]))) (hn : 0 ≤ n ∧ n ≤ 40) : zM l Γ 4 yX5_init wsX5_init 1 n.toNat V [.ref b, .int (zI (n))] (fun rv V' => rv = none ∧ zWi Γ V' tb b n n 0 (-9) ∧ zbt b V V') := by
  have w0 : Cond.initialized yX4_init.cls ∈ wsX5_init := by decide +kernel
  have w1 : Cond.instanceMethod yX4_init ∈ wsX5_init := by decide +kernel
  have w2 : Cond.methodLink RX5 9 Lib.Math.max.name ∈ wsX5_init := by decide +kernel
  have w3 : Cond.static Lib.Math.max.name ∈ wsX5_init := by decide +kernel
  have w4 : Cond.initialized "java/lang/Math" ∈ wsX5_init := by decide +kernel
  have w5 : Cond.code Lib.Math.max.name Lib.Math.max.code 2 (some .int) ∈ wsX5_init := by decide +kernel
  have w6 : Cond.arrayClass .char ∈ wsX5_init := by decide +kernel
  have w7 : Cond.fieldLink RX5 15 "Sashwords$Window" "row" "[C" ∈ wsX5_init := by decide +kernel
  have iX5 : ∀ w ∈ u_ws RX5 TX5 6, w ∈ wsX5_init := by decide +kernel
  have w9 : Cond.fieldLink RX5 21 "Sashwords$Window" "capacity" "I" ∈ wsX5_init := by decide +kernel
  have w10 : Cond.fieldLink RX5 25 "Sashwords$Window" "limit" "I" ∈ wsX5_init := by decide +kernel
  have w11 : Cond.fieldLink RX5 28 "Sashwords$Window" "mark" "I" ∈ wsX5_init := by decide +kernel
  refine zM_of (cc := cX5_init) (nL := 2) (ret := none) (own := RX5) (by decide +kernel) rfl rfl (Nat.le_of_ble_eq_true rfl) (fun C X hi0 => ?_)
  have hi0 := hi0 rfl
  show zG C V 1 n.toNat 0 [(0, .ref b), (1, .int (zI (n)))] []
  refine zr_aload_n X 1 0 dX5_init_0 rfl rfl ?_
  refine zr_callIN (kc' := 1) (ks' := n.toNat) X 4 0 2 (m_X4_init_6 l Γ hb) gX5_init_X4_init_n3 rfl w0 rfl w1 rfl (by decide +kernel) rfl (by decide) rfl (Nat.le_of_ble_eq_true rfl) dX5_init_1 rfl (by omega) (by omega) (fun rv1 V2 hp3 => ?_)
  rw [hp3.1, hp3.2]
  show zG C V 1 n.toNat 4 [(0, .ref b), (1, .int (zI (n)))] []
  refine zr_aload_n X 5 0 dX5_init_4 rfl rfl ?_
  refine zr_iload_n X 6 1 dX5_init_5 rfl rfl ?_
  refine zr_iconst X 7 dX5_init_6 rfl ?_
  refine zr_mmax X 10 (n) w2 w3 w4 w5 (by decide) (Nat.le_of_ble_eq_true rfl) (by omega) (by omega) (by split <;> omega) dX5_init_7 rfl ?_
  refine zr_newac (kc' := (1 - 1)) (ks' := (n.toNat - (n).toNat)) X 12 50 w6 (by omega) dX5_init_10 rfl (by omega) (by omega) (fun q4 hq5 => ?_)
  refine zr_put X 15 6 0 [.ref q4, .int (zI (0)), .int (zI (0)), .int (zI (0)), .int (zI (0)), .int (zI (0))] tyX5 ((zu_ne (zne_new hb hq5)).trans hb) rfl iX5 tyX5_ok nmX5 (by decide) w7 rfl rfl rfl rfl (Nat.le_of_ble_eq_true rfl) rfl dX5_init_12 rfl ?_
  refine zr_aload_n X 16 0 dX5_init_15 rfl rfl ?_
  refine zr_aload_n X 17 0 dX5_init_16 rfl rfl ?_
  refine zr_get X 20 6 0 (zu_eq _ _ _ _) rfl iX5 (by decide) w7 rfl rfl dX5_init_17 rfl ?_
  refine zr_alen X 21 1 ((zu_ne (Ne.symm (zne_new hb hq5))).trans (zu_eq _ _ _ _)) (by decide) dX5_init_20 rfl ?_
  rw [show (((n).toNat : Nat) : Int) = n by omega]
  show zG C (zu (zu V q4 50 (za Γ.2.1 1 ((n).toNat) (fun _ => 0))) b tb (.inr (6, [.ref q4, .int (zI (0)), .int (zI (0)), .int (zI (0)), .int (zI (0)), .int (zI (0))]))) (1 - 1) (n.toNat - (n).toNat) 21 [(0, .ref b), (1, .int (zI (n)))] [.int (zI (n)), .ref b]
  refine zr_put X 24 6 2 [.ref q4, .int (zI (0)), .int (zI (n)), .int (zI (0)), .int (zI (0)), .int (zI (0))] tyX5 (zu_eq _ _ _ _) rfl iX5 tyX5_ok nmX5 (by decide) w9 rfl rfl rfl rfl (Nat.le_of_ble_eq_true rfl) rfl dX5_init_21 rfl ?_
  refine zr_view (zu_zu _ _ _ _ _ _) ?_
  refine zr_aload_n X 25 0 dX5_init_24 rfl rfl ?_
  refine zr_aload_n X 26 0 dX5_init_25 rfl rfl ?_
  refine zr_get X 29 6 0 (zu_eq _ _ _ _) rfl iX5 (by decide) w7 rfl rfl dX5_init_26 rfl ?_
  refine zr_alen X 30 1 ((zu_ne (Ne.symm (zne_new hb hq5))).trans (zu_eq _ _ _ _)) (by decide) dX5_init_29 rfl ?_
  rw [show (((n).toNat : Nat) : Int) = n by omega]
  show zG C (zu (zu V q4 50 (za Γ.2.1 1 ((n).toNat) (fun _ => 0))) b tb (.inr (6, [.ref q4, .int (zI (0)), .int (zI (n)), .int (zI (0)), .int (zI (0)), .int (zI (0))]))) (1 - 1) (n.toNat - (n).toNat) 30 [(0, .ref b), (1, .int (zI (n)))] [.int (zI (n)), .ref b]
  refine zr_put X 33 6 3 [.ref q4, .int (zI (0)), .int (zI (n)), .int (zI (n)), .int (zI (0)), .int (zI (0))] tyX5 (zu_eq _ _ _ _) rfl iX5 tyX5_ok nmX5 (by decide) w10 rfl rfl rfl rfl (Nat.le_of_ble_eq_true rfl) rfl dX5_init_30 rfl ?_
  refine zr_view (zu_zu _ _ _ _ _ _) ?_
  refine zr_aload_n X 34 0 dX5_init_33 rfl rfl ?_
  refine zr_bipush X 36 (-9) dX5_init_34 rfl (by decide) ?_
  refine zr_put X 39 6 5 [.ref q4, .int (zI (0)), .int (zI (n)), .int (zI (n)), .int (zI (0)), .int (zI (-9))] tyX5 (zu_eq _ _ _ _) rfl iX5 tyX5_ok nmX5 (by decide) w11 rfl rfl rfl rfl (Nat.le_of_ble_eq_true rfl) rfl dX5_init_36 rfl ?_
  refine zr_view (zu_zu _ _ _ _ _ _) ?_
  exact zr_vret X rfl ⟨rfl, ⟨q4, n.toNat, 0, fun _ => 0, (zu_eq _ _ _ _), ((zu_ne (Ne.symm (zne_new hb hq5))).trans (zu_eq _ _ _ _)), ⟨by omega, by omega, by omega, by omega, by omega, by omega, by omega, by omega⟩, z0c, by omega⟩, (zbt.full (zbt.rf) (zag.rf.new hq5)).put⟩ dX5_init_39
set_option maxRecDepth 100000 in
set_option maxHeartbeats 4000000 in
theorem m_X0_init (l : Launch) (Γ : zGam) {V : zV} {b tb ta tc : Nat} (hb : V b = some (tb, .inr (2, [.null, .null, .int (zI (0))]))) (hne : ta ≠ tc) : zM l Γ 3 yX0_init wsX0_init 2 161 V [.ref b] (fun rv V' => rv = none ∧ ∃ ga ca, zBo Γ V' tb b ta ga tc ca ∧ zbt b V V') := by
  have w0 : Cond.methodLink RX0 3 objectInit ∈ wsX0_init := by decide +kernel
  have w1 : Cond.instanceMethod objectInit ∈ wsX0_init := by decide +kernel
  have w2 : Cond.code objectInit ⟨#[0xb1]⟩ 1 none ∈ wsX0_init := by decide +kernel
  have w3 : Cond.arrayClass .int ∈ wsX0_init := by decide +kernel
  have w4 : Cond.fieldLink RX0 9 "Sashwords$Borders" "greatest" "[I" ∈ wsX0_init := by decide +kernel
  have iX0 : ∀ w ∈ u_ws RX0 TX0 3, w ∈ wsX0_init := by decide +kernel
  have w6 : Cond.fieldLink RX0 15 "Sashwords$Borders" "chainRow" "[I" ∈ wsX0_init := by decide +kernel
  refine zM_of (cc := cX0_init) (nL := 1) (ret := none) (own := RX0) (by decide +kernel) rfl rfl (Nat.le_of_ble_eq_true rfl) (fun C X hi0 => ?_)
  have hi0 := hi0 rfl
  show zG C V 2 161 0 [(0, .ref b)] []
  refine zr_aload_n X 1 0 dX0_init_0 rfl rfl ?_
  refine zr_objInit X 4 hb rfl w0 w1 w2 (by decide) (Nat.le_of_ble_eq_true rfl) dX0_init_1 rfl ?_
  refine zr_aload_n X 5 0 dX0_init_4 rfl rfl ?_
  refine zr_bipush X 7 (81) dX0_init_5 rfl (by decide) ?_
  refine zr_newai (kc' := (2 - 1)) (ks' := (161 - (81 : Int).toNat)) X 9 ta w3 (by omega) dX0_init_7 rfl (by omega) (by omega) (fun q1 hq2 => ?_)
  refine zr_putF X 12 2 0 [.ref q1, .null, .int (zI (0))] tyX0 hi0 ((zu_ne (zne_new hb hq2)).trans hb) rfl iX0 tyX0_ok nmX0 (by decide) w4 rfl rfl rfl rfl rfl (Nat.le_of_ble_eq_true rfl) rfl dX0_init_9 rfl ?_
  refine zr_aload_n X 13 0 dX0_init_12 rfl rfl ?_
  refine zr_bipush X 15 (80) dX0_init_13 rfl (by decide) ?_
  refine zr_newai (kc' := ((2 - 1) - 1)) (ks' := ((161 - (81 : Int).toNat) - (80 : Int).toNat)) X 17 tc w3 (by omega) dX0_init_15 rfl (by omega) (by omega) (fun q3 hq4 => ?_)
  refine zr_putF X 20 2 1 [.ref q1, .ref q3, .int (zI (0))] tyX0 hi0 ((zu_ne (zne_new (zu_eq _ _ _ _) hq4)).trans (zu_eq _ _ _ _)) rfl iX0 tyX0_ok nmX0 (by decide) w6 rfl rfl rfl rfl rfl (Nat.le_of_ble_eq_true rfl) rfl dX0_init_17 rfl ?_
  exact zr_vret X rfl ⟨rfl, q1, q3, ⟨0, fun _ => 0, fun _ => 0, (zu_eq _ _ _ _), ((zu_ne (Ne.symm (zne_new hb hq2))).trans ((zu_ne (zne_new ((zu_ne (Ne.symm (zne_new hb hq2))).trans (zu_eq _ _ _ _)) hq4)).trans ((zu_ne (Ne.symm (zne_new hb hq2))).trans (zu_eq _ _ _ _)))), ((zu_ne (Ne.symm (zne_new (zu_eq _ _ _ _) hq4))).trans (zu_eq _ _ _ _)), z0b, z0b, by omega, by omega⟩, (zbt.full ((zbt.full (zbt.rf) (zag.rf.new hq2)).put) (zag.rf.new hq4)).put⟩ dX0_init_20
set_option maxRecDepth 100000 in
set_option maxHeartbeats 4000000 in
theorem m_X1_init (l : Launch) (Γ : zGam) {V : zV} {b : Nat} (hb : V b = some (24, .inr (3, [.null, .null, .null, .int (zI (0))])))  : zM l Γ 5 yX1_init wsX1_init 9 343 V [.ref b] (fun rv V' => rv = none ∧ ∃ a1 a2 a3 g1 g2 g3, V' b = some (24, .inr (3, [.ref a1, .ref a2, .ref a3, .int (zI 4)])) ∧ zSc Γ V' 25 a1 26 g1 8 0 ∧ zSc Γ V' 27 a2 28 g2 160 0 ∧ zSc Γ V' 29 a3 30 g3 160 0 ∧ zbt b V V') := by
  have w0 : Cond.methodLink RX1 3 objectInit ∈ wsX1_init := by decide +kernel
  have w1 : Cond.instanceMethod objectInit ∈ wsX1_init := by decide +kernel
  have w2 : Cond.code objectInit ⟨#[0xb1]⟩ 1 none ∈ wsX1_init := by decide +kernel
  have w3 : Cond.classLink RX1 9 RX2 ∈ wsX1_init := by decide +kernel
  have w4 : Cond.instantiable RX2 2 ∈ wsX1_init := by decide +kernel
  have w5 : Cond.initialized RX2 ∈ wsX1_init := by decide +kernel
  have iX2 : ∀ w ∈ u_ws RX2 TX2 2, w ∈ wsX1_init := by decide +kernel
  have w7 : Cond.initialized yX2_init.cls ∈ wsX1_init := by decide +kernel
  have w8 : Cond.instanceMethod yX2_init ∈ wsX1_init := by decide +kernel
  have w9 : Cond.methodLink RX1 11 yX2_init ∈ wsX1_init := by decide +kernel
  have w10 : Cond.fieldLink RX1 14 "Sashwords$Pipe" "holds" "LSashwords$Script;" ∈ wsX1_init := by decide +kernel
  have iX1 : ∀ w ∈ u_ws RX1 TX1 4, w ∈ wsX1_init := by decide +kernel
  have w12 : Cond.fieldLink RX1 20 "Sashwords$Pipe" "sent" "LSashwords$Script;" ∈ wsX1_init := by decide +kernel
  have w13 : Cond.fieldLink RX1 23 "Sashwords$Pipe" "came" "LSashwords$Script;" ∈ wsX1_init := by decide +kernel
  have w14 : Cond.fieldLink RX1 26 "Sashwords$Pipe" "width" "I" ∈ wsX1_init := by decide +kernel
  refine zM_of (cc := cX1_init) (nL := 1) (ret := none) (own := RX1) (by decide +kernel) rfl rfl (Nat.le_of_ble_eq_true rfl) (fun C X hi0 => ?_)
  have hi0 := hi0 rfl
  show zG C V 9 343 0 [(0, .ref b)] []
  refine zr_aload_n X 1 0 dX1_init_0 rfl rfl ?_
  refine zr_objInit X 4 hb rfl w0 w1 w2 (by decide) (Nat.le_of_ble_eq_true rfl) dX1_init_1 rfl ?_
  refine zr_aload_n X 5 0 dX1_init_4 rfl rfl ?_
  refine zr_new (kc' := (9 - 1)) (ks' := (343 - 2)) X 8 4 25 [.null, .int (zI (0))] tyX2 rfl iX2 tyX2_ok w3 w4 w5 (zdf_X2) dX1_init_5 rfl (by omega) (by omega) (fun q1 hq2 => ?_)
  refine zr_dup X 9 dX1_init_8 rfl rfl ?_
  refine zr_bipush X 11 (8) dX1_init_9 rfl (by decide) ?_
  refine zr_callI (kc' := ((9 - 1) - 1)) (ks' := ((343 - 2) - ((8 : Int).toNat))) X 14 1 (m_X2_init l Γ (tg := 26) (n := 8) (zu_eq _ _ _ _) (by omega)) gX1_init_X2_init rfl w7 w9 w8 rfl (by decide +kernel) rfl (by decide) rfl (Nat.le_of_ble_eq_true rfl) dX1_init_11 rfl (by omega) (by omega) (fun rv3 V4 hp5 => ?_)
  obtain ⟨hp5e, hp5g, hp5s, hp5f⟩ := hp5
  rw [hp5e]
  have fr6 : zag zal V V4 := zbt.new hq2 hp5f
  have hc7 : V4 b = some (24, .inr (3, [.null, .null, .null, .int (zI (0))])) := fr6 _ _ _ hb trivial
  show zG C V4 ((9 - 1) - 1) ((343 - 2) - ((8 : Int).toNat)) 14 [(0, .ref b)] [.ref q1, .ref b]
  refine zr_putF X 17 3 0 [.ref q1, .null, .null, .int (zI (0))] tyX1 hi0 hc7 rfl iX1 tyX1_ok nmX1 (by decide) w10 rfl rfl rfl rfl rfl (Nat.le_of_ble_eq_true rfl) rfl dX1_init_14 rfl ?_
  refine zr_aload_n X 18 0 dX1_init_17 rfl rfl ?_
  refine zr_new (kc' := (((9 - 1) - 1) - 1)) (ks' := (((343 - 2) - ((8 : Int).toNat)) - 2)) X 21 4 27 [.null, .int (zI (0))] tyX2 rfl iX2 tyX2_ok w3 w4 w5 (zdf_X2) dX1_init_18 rfl (by omega) (by omega) (fun q8 hq9 => ?_)
  refine zr_dup X 22 dX1_init_21 rfl rfl ?_
  refine zr_sipush X 25 (160) dX1_init_22 rfl (by decide) ?_
  refine zr_callI (kc' := ((((9 - 1) - 1) - 1) - 1)) (ks' := ((((343 - 2) - ((8 : Int).toNat)) - 2) - ((160 : Int).toNat))) X 28 1 (m_X2_init l Γ (tg := 28) (n := 160) (zu_eq _ _ _ _) (by omega)) gX1_init_X2_init rfl w7 w9 w8 rfl (by decide +kernel) rfl (by decide) rfl (Nat.le_of_ble_eq_true rfl) dX1_init_25 rfl (by omega) (by omega) (fun rv10 V11 hp12 => ?_)
  obtain ⟨hp12e, hp12g, hp12s, hp12f⟩ := hp12
  rw [hp12e]
  have fr13 : zag zal (zu V4 b 24 (.inr (3, [.ref q1, .null, .null, .int (zI (0))]))) V11 := zbt.new hq9 hp12f
  have hc14 : V11 b = some (24, .inr (3, [.ref q1, .null, .null, .int (zI (0))])) := fr13 _ _ _ (zu_eq _ _ _ _) trivial
  show zG C V11 ((((9 - 1) - 1) - 1) - 1) ((((343 - 2) - ((8 : Int).toNat)) - 2) - ((160 : Int).toNat)) 28 [(0, .ref b)] [.ref q8, .ref b]
  refine zr_putF X 31 3 1 [.ref q1, .ref q8, .null, .int (zI (0))] tyX1 hi0 hc14 rfl iX1 tyX1_ok nmX1 (by decide) w12 rfl rfl rfl rfl rfl (Nat.le_of_ble_eq_true rfl) rfl dX1_init_28 rfl ?_
  refine zr_aload_n X 32 0 dX1_init_31 rfl rfl ?_
  refine zr_new (kc' := (((((9 - 1) - 1) - 1) - 1) - 1)) (ks' := (((((343 - 2) - ((8 : Int).toNat)) - 2) - ((160 : Int).toNat)) - 2)) X 35 4 29 [.null, .int (zI (0))] tyX2 rfl iX2 tyX2_ok w3 w4 w5 (zdf_X2) dX1_init_32 rfl (by omega) (by omega) (fun q15 hq16 => ?_)
  refine zr_dup X 36 dX1_init_35 rfl rfl ?_
  refine zr_sipush X 39 (160) dX1_init_36 rfl (by decide) ?_
  refine zr_callI (kc' := ((((((9 - 1) - 1) - 1) - 1) - 1) - 1)) (ks' := ((((((343 - 2) - ((8 : Int).toNat)) - 2) - ((160 : Int).toNat)) - 2) - ((160 : Int).toNat))) X 42 1 (m_X2_init l Γ (tg := 30) (n := 160) (zu_eq _ _ _ _) (by omega)) gX1_init_X2_init rfl w7 w9 w8 rfl (by decide +kernel) rfl (by decide) rfl (Nat.le_of_ble_eq_true rfl) dX1_init_39 rfl (by omega) (by omega) (fun rv17 V18 hp19 => ?_)
  obtain ⟨hp19e, hp19g, hp19s, hp19f⟩ := hp19
  rw [hp19e]
  have fr20 : zag zal (zu V11 b 24 (.inr (3, [.ref q1, .ref q8, .null, .int (zI (0))]))) V18 := zbt.new hq16 hp19f
  have hc21 : V18 b = some (24, .inr (3, [.ref q1, .ref q8, .null, .int (zI (0))])) := fr20 _ _ _ (zu_eq _ _ _ _) trivial
  show zG C V18 ((((((9 - 1) - 1) - 1) - 1) - 1) - 1) ((((((343 - 2) - ((8 : Int).toNat)) - 2) - ((160 : Int).toNat)) - 2) - ((160 : Int).toNat)) 42 [(0, .ref b)] [.ref q15, .ref b]
  refine zr_putF X 45 3 2 [.ref q1, .ref q8, .ref q15, .int (zI (0))] tyX1 hi0 hc21 rfl iX1 tyX1_ok nmX1 (by decide) w13 rfl rfl rfl rfl rfl (Nat.le_of_ble_eq_true rfl) rfl dX1_init_42 rfl ?_
  refine zr_aload_n X 46 0 dX1_init_45 rfl rfl ?_
  refine zr_iconst X 47 dX1_init_46 rfl ?_
  refine zr_put X 50 3 3 [.ref q1, .ref q8, .ref q15, .int (zI (4))] tyX1 (zu_eq _ _ _ _) rfl iX1 tyX1_ok nmX1 (by decide) w14 rfl rfl rfl rfl (Nat.le_of_ble_eq_true rfl) rfl dX1_init_47 rfl ?_
  refine zr_view (zu_zu _ _ _ _ _ _) ?_
  have en22 : zbt b V18 (zu V18 b 24 (.inr (3, [.ref q1, .ref q8, .ref q15, .int (zI (4))]))) := (zbt.rf).put
  have en23 : zbt b V11 (zu V18 b 24 (.inr (3, [.ref q1, .ref q8, .ref q15, .int (zI (4))]))) := (zbt.full ((zbt.rf).put) fr20).tr en22
  have en24 : zbt b V4 (zu V18 b 24 (.inr (3, [.ref q1, .ref q8, .ref q15, .int (zI (4))]))) := (zbt.full ((zbt.rf).put) fr13).tr en23
  have en25 : zbt b V (zu V18 b 24 (.inr (3, [.ref q1, .ref q8, .ref q15, .int (zI (4))]))) := (zbt.full (zbt.rf) fr6).tr en24
  have fa26 := hp5s.kept (en24.ag hc7) (by decide) (by decide)
  have fa27 := hp12s.kept (en23.ag hc14) (by decide) (by decide)
  have fa28 := hp19s.kept (en22.ag hc21) (by decide) (by decide)
  exact zr_vret X rfl ⟨rfl, q1, q8, q15, hp5g, hp12g, hp19g, (zu_eq _ _ _ _), fa26, fa27, fa28, en25⟩ dX1_init_50
set_option maxRecDepth 100000 in
set_option maxHeartbeats 4000000 in
theorem m_X3_init (l : Launch) (Γ : zGam) {V : zV} {b tb tp tt ta tc : Nat} (hb : V b = some (tb, .inr (5, [.null, .null, .int (zI (0))]))) (hne : ta ≠ tc ∧ tt ≠ tb ∧ ta ≠ tb ∧ tc ≠ tb) : zM l Γ 4 yX3_init wsX3_init 4 245 V [.ref b] (fun rv V' => rv = none ∧ ∃ pl bo ga ca, zSk Γ V' tb b tp pl bo ∧ zBo Γ V' tt bo ta ga tc ca ∧ zbt b V V') := by
  have w0 : Cond.methodLink RX3 3 objectInit ∈ wsX3_init := by decide +kernel
  have w1 : Cond.instanceMethod objectInit ∈ wsX3_init := by decide +kernel
  have w2 : Cond.code objectInit ⟨#[0xb1]⟩ 1 none ∈ wsX3_init := by decide +kernel
  have w3 : Cond.classLink RX3 9 RX0 ∈ wsX3_init := by decide +kernel
  have w4 : Cond.instantiable RX0 3 ∈ wsX3_init := by decide +kernel
  have w5 : Cond.initialized RX0 ∈ wsX3_init := by decide +kernel
  have iX0 : ∀ w ∈ u_ws RX0 TX0 3, w ∈ wsX3_init := by decide +kernel
  have w7 : Cond.initialized yX0_init.cls ∈ wsX3_init := by decide +kernel
  have w8 : Cond.instanceMethod yX0_init ∈ wsX3_init := by decide +kernel
  have w9 : Cond.fieldLink RX3 12 "Sashwords$Seeker" "borders" "LSashwords$Borders;" ∈ wsX3_init := by decide +kernel
  have iX3 : ∀ w ∈ u_ws RX3 TX3 3, w ∈ wsX3_init := by decide +kernel
  have w11 : Cond.arrayClass .int ∈ wsX3_init := by decide +kernel
  have w12 : Cond.fieldLink RX3 18 "Sashwords$Seeker" "places" "[I" ∈ wsX3_init := by decide +kernel
  refine zM_of (cc := cX3_init) (nL := 1) (ret := none) (own := RX3) (by decide +kernel) rfl rfl (Nat.le_of_ble_eq_true rfl) (fun C X hi0 => ?_)
  have hi0 := hi0 rfl
  show zG C V 4 245 0 [(0, .ref b)] []
  refine zr_aload_n X 1 0 dX3_init_0 rfl rfl ?_
  refine zr_objInit X 4 hb rfl w0 w1 w2 (by decide) (Nat.le_of_ble_eq_true rfl) dX3_init_1 rfl ?_
  refine zr_aload_n X 5 0 dX3_init_4 rfl rfl ?_
  refine zr_new (kc' := (4 - 1)) (ks' := (245 - 3)) X 8 2 tt [.null, .null, .int (zI (0))] tyX0 rfl iX0 tyX0_ok w3 w4 w5 (zdf_X0) dX3_init_5 rfl (by omega) (by omega) (fun q1 hq2 => ?_)
  refine zr_dup X 9 dX3_init_8 rfl rfl ?_
  refine zr_callIN (kc' := ((4 - 1) - 2)) (ks' := ((245 - 3) - 161)) X 12 0 4 (m_X0_init l Γ (ta := ta) (tc := tc) (zu_eq _ _ _ _) (by omega)) gX3_init_X0_init_n11 rfl w7 rfl w8 rfl (by decide +kernel) rfl (by decide) rfl (Nat.le_of_ble_eq_true rfl) dX3_init_9 rfl (by omega) (by omega) (fun rv3 V4 hp5 => ?_)
  obtain ⟨hp5e, hp5g, hp5c, hp5s, hp5f⟩ := hp5
  rw [hp5e]
  have fr6 : zag zal V V4 := zbt.new hq2 hp5f
  have hc7 : V4 b = some (tb, .inr (5, [.null, .null, .int (zI (0))])) := fr6 _ _ _ hb trivial
  show zG C V4 ((4 - 1) - 2) ((245 - 3) - 161) 12 [(0, .ref b)] [.ref q1, .ref b]
  refine zr_putF X 15 5 0 [.ref q1, .null, .int (zI (0))] tyX3 hi0 hc7 rfl iX3 tyX3_ok nmX3 (by decide) w9 rfl rfl rfl rfl rfl (Nat.le_of_ble_eq_true rfl) rfl dX3_init_12 rfl ?_
  refine zr_aload_n X 16 0 dX3_init_15 rfl rfl ?_
  refine zr_bipush X 18 (81) dX3_init_16 rfl (by decide) ?_
  refine zr_newai (kc' := (((4 - 1) - 2) - 1)) (ks' := (((245 - 3) - 161) - (81 : Int).toNat)) X 20 tp w11 (by omega) dX3_init_18 rfl (by omega) (by omega) (fun q8 hq9 => ?_)
  refine zr_putF X 23 5 1 [.ref q1, .ref q8, .int (zI (0))] tyX3 hi0 ((zu_ne (zne_new (zu_eq _ _ _ _) hq9)).trans (zu_eq _ _ _ _)) rfl iX3 tyX3_ok nmX3 (by decide) w12 rfl rfl rfl rfl rfl (Nat.le_of_ble_eq_true rfl) rfl dX3_init_20 rfl ?_
  have en10 : zbt b V4 (zu (zu (zu V4 b tb (.inr (5, [.ref q1, .null, .int (zI (0))]))) q8 tp (za Γ.2.1 0 ((81 : Int).toNat) (fun _ => 0))) b tb (.inr (5, [.ref q1, .ref q8, .int (zI (0))]))) := (zbt.full ((zbt.rf).put) (zag.rf.new hq9)).put
  have en11 : zbt b V (zu (zu (zu V4 b tb (.inr (5, [.ref q1, .null, .int (zI (0))]))) q8 tp (za Γ.2.1 0 ((81 : Int).toNat) (fun _ => 0))) b tb (.inr (5, [.ref q1, .ref q8, .int (zI (0))]))) := (zbt.full zbt.rf fr6).tr en10
  have fa12 := hp5s.kept (en10.ag hc7) (by omega) (by omega) (by omega)
  exact zr_vret X rfl ⟨rfl, q8, q1, hp5g, hp5c, ⟨0, fun _ => 0, (zu_eq _ _ _ _), ((zu_ne (Ne.symm (zne_new (zu_eq _ _ _ _) hq9))).trans (zu_eq _ _ _ _)), z0p, by omega, by omega⟩, fa12, en11⟩ dX3_init_23
end
section
/-! Sashwords' constructor -/
def zad (L : List Nat) : Nat → Nat := fun t => L.getD t 0
def zs0 : Nat → Int := fun j => ([12, 12, 0, -9, 12, 12, 0, -9, 12, 12, 0, -9, 12, 12, 0, -9, 12, 12, 0, -9, 12, 12, 0, -9, 0, 0, 4, 0, 0, 0, 0, 0, 0, 0] : List Int).getD j 0
def zp12 : Nat → Prop := fun t => t ≠ 1 ∧ t ≠ 2
set_option maxRecDepth 100000 in
set_option maxHeartbeats 4000000 in
theorem m_X6_init (l : Launch) (Γ : zGam) {V : zV} {x : Nat} (hb : V x = some (1, .inr (7, [.null, .null, .null, .null, .null, .null, .null, .null, .null, .null, .int (zI (0)), .int (zI (0)), .int (zI (0)), .int (zI (0))])))  : zM l Γ 6 yX6_init wsX6_init 60 1600 V [.ref x] (fun rv V' => rv = none ∧ ∃ ad, ad 1 = x ∧ zS Γ V' ad zs0 ∧ zag zp12 V V') := by
  have w0 : Cond.methodLink RX6 1 objectInit ∈ wsX6_init := by decide +kernel
  have w1 : Cond.instanceMethod objectInit ∈ wsX6_init := by decide +kernel
  have w2 : Cond.code objectInit ⟨#[0xb1]⟩ 1 none ∈ wsX6_init := by decide +kernel
  have w3 : Cond.classLink RX6 9 RX5 ∈ wsX6_init := by decide +kernel
  have w4 : Cond.fieldLink RX6 11 "Sashwords" "windows" "[LSashwords$Window;" ∈ wsX6_init := by decide +kernel
  have iX6 : ∀ w ∈ u_ws RX6 TX6 14, w ∈ wsX6_init := by decide +kernel
  have w6 : Cond.classLink RX6 15 RX2 ∈ wsX6_init := by decide +kernel
  have w7 : Cond.instantiable RX2 2 ∈ wsX6_init := by decide +kernel
  have w8 : Cond.initialized RX2 ∈ wsX6_init := by decide +kernel
  have iX2 : ∀ w ∈ u_ws RX2 TX2 2, w ∈ wsX6_init := by decide +kernel
  have w10 : Cond.initialized yX2_init.cls ∈ wsX6_init := by decide +kernel
  have w11 : Cond.instanceMethod yX2_init ∈ wsX6_init := by decide +kernel
  have w12 : Cond.methodLink RX6 17 yX2_init ∈ wsX6_init := by decide +kernel
  have w13 : Cond.fieldLink RX6 20 "Sashwords" "builder" "LSashwords$Script;" ∈ wsX6_init := by decide +kernel
  have w14 : Cond.fieldLink RX6 24 "Sashwords" "kept" "LSashwords$Script;" ∈ wsX6_init := by decide +kernel
  have w15 : Cond.classLink RX6 27 RX1 ∈ wsX6_init := by decide +kernel
  have w16 : Cond.instantiable RX1 4 ∈ wsX6_init := by decide +kernel
  have w17 : Cond.initialized RX1 ∈ wsX6_init := by decide +kernel
  have iX1 : ∀ w ∈ u_ws RX1 TX1 4, w ∈ wsX6_init := by decide +kernel
  have w19 : Cond.initialized yX1_init.cls ∈ wsX6_init := by decide +kernel
  have w20 : Cond.instanceMethod yX1_init ∈ wsX6_init := by decide +kernel
  have w21 : Cond.fieldLink RX6 30 "Sashwords" "line" "LSashwords$Pipe;" ∈ wsX6_init := by decide +kernel
  have w22 : Cond.instantiable RX5 6 ∈ wsX6_init := by decide +kernel
  have w23 : Cond.initialized RX5 ∈ wsX6_init := by decide +kernel
  have iX5 : ∀ w ∈ u_ws RX5 TX5 6, w ∈ wsX6_init := by decide +kernel
  have w25 : Cond.initialized yX5_init.cls ∈ wsX6_init := by decide +kernel
  have w26 : Cond.instanceMethod yX5_init ∈ wsX6_init := by decide +kernel
  have w27 : Cond.methodLink RX6 34 yX5_init ∈ wsX6_init := by decide +kernel
  have w28 : Cond.fieldLink RX6 35 "Sashwords" "aside" "LSashwords$Window;" ∈ wsX6_init := by decide +kernel
  have w29 : Cond.fieldLink RX6 39 "Sashwords" "draft" "LSashwords$Script;" ∈ wsX6_init := by decide +kernel
  have w30 : Cond.fieldLink RX6 42 "Sashwords" "secondDraft" "LSashwords$Script;" ∈ wsX6_init := by decide +kernel
  have w31 : Cond.classLink RX6 45 RX3 ∈ wsX6_init := by decide +kernel
  have w32 : Cond.instantiable RX3 3 ∈ wsX6_init := by decide +kernel
  have w33 : Cond.initialized RX3 ∈ wsX6_init := by decide +kernel
  have iX3 : ∀ w ∈ u_ws RX3 TX3 3, w ∈ wsX6_init := by decide +kernel
  have w35 : Cond.initialized yX3_init.cls ∈ wsX6_init := by decide +kernel
  have w36 : Cond.instanceMethod yX3_init ∈ wsX6_init := by decide +kernel
  have w37 : Cond.fieldLink RX6 48 "Sashwords" "road" "LSashwords$Seeker;" ∈ wsX6_init := by decide +kernel
  have w38 : Cond.fieldLink RX6 52 "Sashwords" "secondRoad" "LSashwords$Seeker;" ∈ wsX6_init := by decide +kernel
  have w39 : Cond.classLink RX6 55 RX0 ∈ wsX6_init := by decide +kernel
  have w40 : Cond.instantiable RX0 3 ∈ wsX6_init := by decide +kernel
  have w41 : Cond.initialized RX0 ∈ wsX6_init := by decide +kernel
  have iX0 : ∀ w ∈ u_ws RX0 TX0 3, w ∈ wsX6_init := by decide +kernel
  have w43 : Cond.initialized yX0_init.cls ∈ wsX6_init := by decide +kernel
  have w44 : Cond.instanceMethod yX0_init ∈ wsX6_init := by decide +kernel
  have w45 : Cond.fieldLink RX6 58 "Sashwords" "table" "LSashwords$Borders;" ∈ wsX6_init := by decide +kernel
  refine zM_of (cc := cX6_init) (nL := 2) (ret := none) (own := RX6) (by decide +kernel) rfl rfl (Nat.le_of_ble_eq_true rfl) (fun C X hi0 => ?_)
  have hi0 := hi0 rfl
  show zG C V 60 1600 0 [(0, .ref x)] []
  refine zr_aload_n X 1 0 dX6_init_0 rfl rfl ?_
  refine zr_objInit X 4 hb rfl w0 w1 w2 (by decide) (Nat.le_of_ble_eq_true rfl) dX6_init_1 rfl ?_
  refine zr_aload_n X 5 0 dX6_init_4 rfl rfl ?_
  refine zr_bipush X 7 (6) dX6_init_5 rfl (by decide) ?_
  refine zr_newq (kc' := (60 - 1)) (ks' := (1600 - (6 : Int).toNat)) X 10 2 w3 (by omega) dX6_init_7 rfl (by omega) (by omega) (fun wa hwa => ?_)
  refine zr_putF X 13 7 0 [.ref wa, .null, .null, .null, .null, .null, .null, .null, .null, .null, .int (zI (0)), .int (zI (0)), .int (zI (0)), .int (zI (0))] tyX6 hi0 ((zu_ne (zne_new hb hwa)).trans hb) rfl iX6 tyX6_ok nmX6 (by decide) w4 rfl rfl rfl rfl rfl (Nat.le_of_ble_eq_true rfl) rfl dX6_init_10 rfl ?_
  refine zr_aload_n X 14 0 dX6_init_13 rfl rfl ?_
  refine zr_new (kc' := ((60 - 1) - 1)) (ks' := ((1600 - (6 : Int).toNat) - 2)) X 17 4 20 [.null, .int (zI (0))] tyX2 rfl iX2 tyX2_ok w6 w7 w8 (zdf_X2) dX6_init_14 rfl (by omega) (by omega) (fun q1 hq2 => ?_)
  refine zr_dup X 18 dX6_init_17 rfl rfl ?_
  refine zr_bipush X 20 (80) dX6_init_18 rfl (by decide) ?_
  refine zr_callI (kc' := (((60 - 1) - 1) - 1)) (ks' := (((1600 - (6 : Int).toNat) - 2) - ((80 : Int).toNat))) X 23 1 (m_X2_init l Γ (tg := 21) (n := 80) (zu_eq _ _ _ _) (by omega)) gX6_init_X2_init rfl w10 w12 w11 rfl (by decide +kernel) rfl (by decide) rfl (Nat.le_of_ble_eq_true rfl) dX6_init_20 rfl (by omega) (by omega) (fun rv3 V4 hp5 => ?_)
  obtain ⟨hp5e, hp5g, hp5s, hp5f⟩ := hp5
  rw [hp5e]
  have fr6 : zag zal (zu (zu V wa 2 (zq Γ.2.1 3 ((6 : Int).toNat) (fun _ => none))) x 1 (.inr (7, [.ref wa, .null, .null, .null, .null, .null, .null, .null, .null, .null, .int (zI (0)), .int (zI (0)), .int (zI (0)), .int (zI (0))]))) V4 := zbt.new hq2 hp5f
  have hc7 : V4 x = some (1, .inr (7, [.ref wa, .null, .null, .null, .null, .null, .null, .null, .null, .null, .int (zI (0)), .int (zI (0)), .int (zI (0)), .int (zI (0))])) := fr6 _ _ _ (zu_eq _ _ _ _) trivial
  have hc8 : V4 wa = some (2, zq Γ.2.1 3 ((6 : Int).toNat) (fun _ => none)) := fr6 _ _ _ ((zu_ne (Ne.symm (zne_new hb hwa))).trans (zu_eq _ _ _ _)) trivial
  show zG C V4 (((60 - 1) - 1) - 1) (((1600 - (6 : Int).toNat) - 2) - ((80 : Int).toNat)) 23 [(0, .ref x)] [.ref q1, .ref x]
  refine zr_putF X 26 7 1 [.ref wa, .ref q1, .null, .null, .null, .null, .null, .null, .null, .null, .int (zI (0)), .int (zI (0)), .int (zI (0)), .int (zI (0))] tyX6 hi0 hc7 rfl iX6 tyX6_ok nmX6 (by decide) w13 rfl rfl rfl rfl rfl (Nat.le_of_ble_eq_true rfl) rfl dX6_init_23 rfl ?_
  refine zr_aload_n X 27 0 dX6_init_26 rfl rfl ?_
  refine zr_new (kc' := ((((60 - 1) - 1) - 1) - 1)) (ks' := ((((1600 - (6 : Int).toNat) - 2) - ((80 : Int).toNat)) - 2)) X 30 4 22 [.null, .int (zI (0))] tyX2 rfl iX2 tyX2_ok w6 w7 w8 (zdf_X2) dX6_init_27 rfl (by omega) (by omega) (fun q9 hq10 => ?_)
  refine zr_dup X 31 dX6_init_30 rfl rfl ?_
  refine zr_bipush X 33 (80) dX6_init_31 rfl (by decide) ?_
  refine zr_callI (kc' := (((((60 - 1) - 1) - 1) - 1) - 1)) (ks' := (((((1600 - (6 : Int).toNat) - 2) - ((80 : Int).toNat)) - 2) - ((80 : Int).toNat))) X 36 1 (m_X2_init l Γ (tg := 23) (n := 80) (zu_eq _ _ _ _) (by omega)) gX6_init_X2_init rfl w10 w12 w11 rfl (by decide +kernel) rfl (by decide) rfl (Nat.le_of_ble_eq_true rfl) dX6_init_33 rfl (by omega) (by omega) (fun rv11 V12 hp13 => ?_)
  obtain ⟨hp13e, hp13g, hp13s, hp13f⟩ := hp13
  rw [hp13e]
  have fr14 : zag zal (zu V4 x 1 (.inr (7, [.ref wa, .ref q1, .null, .null, .null, .null, .null, .null, .null, .null, .int (zI (0)), .int (zI (0)), .int (zI (0)), .int (zI (0))]))) V12 := zbt.new hq10 hp13f
  have hc15 : V12 x = some (1, .inr (7, [.ref wa, .ref q1, .null, .null, .null, .null, .null, .null, .null, .null, .int (zI (0)), .int (zI (0)), .int (zI (0)), .int (zI (0))])) := fr14 _ _ _ (zu_eq _ _ _ _) trivial
  have hc16 : V12 wa = some (2, zq Γ.2.1 3 ((6 : Int).toNat) (fun _ => none)) := fr14 _ _ _ ((zu_ne (Ne.symm (zne_oq hc7 hc8))).trans hc8) trivial
  show zG C V12 (((((60 - 1) - 1) - 1) - 1) - 1) (((((1600 - (6 : Int).toNat) - 2) - ((80 : Int).toNat)) - 2) - ((80 : Int).toNat)) 36 [(0, .ref x)] [.ref q9, .ref x]
  refine zr_putF X 39 7 2 [.ref wa, .ref q1, .ref q9, .null, .null, .null, .null, .null, .null, .null, .int (zI (0)), .int (zI (0)), .int (zI (0)), .int (zI (0))] tyX6 hi0 hc15 rfl iX6 tyX6_ok nmX6 (by decide) w14 rfl rfl rfl rfl rfl (Nat.le_of_ble_eq_true rfl) rfl dX6_init_36 rfl ?_
  refine zr_aload_n X 40 0 dX6_init_39 rfl rfl ?_
  refine zr_new (kc' := ((((((60 - 1) - 1) - 1) - 1) - 1) - 1)) (ks' := ((((((1600 - (6 : Int).toNat) - 2) - ((80 : Int).toNat)) - 2) - ((80 : Int).toNat)) - 4)) X 43 3 24 [.null, .null, .null, .int (zI (0))] tyX1 rfl iX1 tyX1_ok w15 w16 w17 (zdf_X1) dX6_init_40 rfl (by omega) (by omega) (fun q17 hq18 => ?_)
  refine zr_dup X 44 dX6_init_43 rfl rfl ?_
  refine zr_callIN (kc' := (((((((60 - 1) - 1) - 1) - 1) - 1) - 1) - 9)) (ks' := (((((((1600 - (6 : Int).toNat) - 2) - ((80 : Int).toNat)) - 2) - ((80 : Int).toNat)) - 4) - 343)) X 47 0 1 (m_X1_init l Γ (zu_eq _ _ _ _)) gX6_init_X1_init_n29 rfl w19 rfl w20 rfl (by decide +kernel) rfl (by decide) rfl (Nat.le_of_ble_eq_true rfl) dX6_init_44 rfl (by omega) (by omega) (fun rv19 V20 hp21 => ?_)
  obtain ⟨hp21e, hp21a1, hp21a2, hp21a3, hp21g1, hp21g2, hp21g3, hp21c, hp21s1, hp21s2, hp21s3, hp21f⟩ := hp21
  rw [hp21e]
  have fr22 : zag zal (zu V12 x 1 (.inr (7, [.ref wa, .ref q1, .ref q9, .null, .null, .null, .null, .null, .null, .null, .int (zI (0)), .int (zI (0)), .int (zI (0)), .int (zI (0))]))) V20 := zbt.new hq18 hp21f
  have hc23 : V20 x = some (1, .inr (7, [.ref wa, .ref q1, .ref q9, .null, .null, .null, .null, .null, .null, .null, .int (zI (0)), .int (zI (0)), .int (zI (0)), .int (zI (0))])) := fr22 _ _ _ (zu_eq _ _ _ _) trivial
  have hc24 : V20 wa = some (2, zq Γ.2.1 3 ((6 : Int).toNat) (fun _ => none)) := fr22 _ _ _ ((zu_ne (Ne.symm (zne_oq hc15 hc16))).trans hc16) trivial
  show zG C V20 (((((((60 - 1) - 1) - 1) - 1) - 1) - 1) - 9) (((((((1600 - (6 : Int).toNat) - 2) - ((80 : Int).toNat)) - 2) - ((80 : Int).toNat)) - 4) - 343) 47 [(0, .ref x)] [.ref q17, .ref x]
  refine zr_putF X 50 7 3 [.ref wa, .ref q1, .ref q9, .ref q17, .null, .null, .null, .null, .null, .null, .int (zI (0)), .int (zI (0)), .int (zI (0)), .int (zI (0))] tyX6 hi0 hc23 rfl iX6 tyX6_ok nmX6 (by decide) w21 rfl rfl rfl rfl rfl (Nat.le_of_ble_eq_true rfl) rfl dX6_init_47 rfl ?_
  refine zr_aload_n X 51 0 dX6_init_50 rfl rfl ?_
  refine zr_new (kc' := ((((((((60 - 1) - 1) - 1) - 1) - 1) - 1) - 9) - 1)) (ks' := ((((((((1600 - (6 : Int).toNat) - 2) - ((80 : Int).toNat)) - 2) - ((80 : Int).toNat)) - 4) - 343) - 6)) X 54 6 16 [.null, .int (zI (0)), .int (zI (0)), .int (zI (0)), .int (zI (0)), .int (zI (0))] tyX5 rfl iX5 tyX5_ok w3 w22 w23 (zdf_X5) dX6_init_51 rfl (by omega) (by omega) (fun q25 hq26 => ?_)
  refine zr_dup X 55 dX6_init_54 rfl rfl ?_
  refine zr_iconst X 56 dX6_init_55 rfl ?_
  refine zr_callI (kc' := (((((((((60 - 1) - 1) - 1) - 1) - 1) - 1) - 9) - 1) - 1)) (ks' := (((((((((1600 - (6 : Int).toNat) - 2) - ((80 : Int).toNat)) - 2) - ((80 : Int).toNat)) - 4) - 343) - 6) - ((0 : Int).toNat))) X 59 1 (m_X5_init l Γ (n := 0) (zu_eq _ _ _ _) (by omega)) gX6_init_X5_init rfl w25 w27 w26 rfl (by decide +kernel) rfl (by decide) rfl (Nat.le_of_ble_eq_true rfl) dX6_init_56 rfl (by omega) (by omega) (fun rv27 V28 hp29 => ?_)
  obtain ⟨hp29e, hp29s, hp29f⟩ := hp29
  rw [hp29e]
  have fr30 : zag zal (zu V20 x 1 (.inr (7, [.ref wa, .ref q1, .ref q9, .ref q17, .null, .null, .null, .null, .null, .null, .int (zI (0)), .int (zI (0)), .int (zI (0)), .int (zI (0))]))) V28 := zbt.new hq26 hp29f
  have hc31 : V28 x = some (1, .inr (7, [.ref wa, .ref q1, .ref q9, .ref q17, .null, .null, .null, .null, .null, .null, .int (zI (0)), .int (zI (0)), .int (zI (0)), .int (zI (0))])) := fr30 _ _ _ (zu_eq _ _ _ _) trivial
  have hc32 : V28 wa = some (2, zq Γ.2.1 3 ((6 : Int).toNat) (fun _ => none)) := fr30 _ _ _ ((zu_ne (Ne.symm (zne_oq hc23 hc24))).trans hc24) trivial
  show zG C V28 (((((((((60 - 1) - 1) - 1) - 1) - 1) - 1) - 9) - 1) - 1) (((((((((1600 - (6 : Int).toNat) - 2) - ((80 : Int).toNat)) - 2) - ((80 : Int).toNat)) - 4) - 343) - 6) - ((0 : Int).toNat)) 59 [(0, .ref x)] [.ref q25, .ref x]
  refine zr_putF X 62 7 4 [.ref wa, .ref q1, .ref q9, .ref q17, .ref q25, .null, .null, .null, .null, .null, .int (zI (0)), .int (zI (0)), .int (zI (0)), .int (zI (0))] tyX6 hi0 hc31 rfl iX6 tyX6_ok nmX6 (by decide) w28 rfl rfl rfl rfl rfl (Nat.le_of_ble_eq_true rfl) rfl dX6_init_59 rfl ?_
  refine zr_aload_n X 63 0 dX6_init_62 rfl rfl ?_
  refine zr_new (kc' := ((((((((((60 - 1) - 1) - 1) - 1) - 1) - 1) - 9) - 1) - 1) - 1)) (ks' := ((((((((((1600 - (6 : Int).toNat) - 2) - ((80 : Int).toNat)) - 2) - ((80 : Int).toNat)) - 4) - 343) - 6) - ((0 : Int).toNat)) - 2)) X 66 4 31 [.null, .int (zI (0))] tyX2 rfl iX2 tyX2_ok w6 w7 w8 (zdf_X2) dX6_init_63 rfl (by omega) (by omega) (fun q33 hq34 => ?_)
  refine zr_dup X 67 dX6_init_66 rfl rfl ?_
  refine zr_bipush X 69 (80) dX6_init_67 rfl (by decide) ?_
  refine zr_callI (kc' := (((((((((((60 - 1) - 1) - 1) - 1) - 1) - 1) - 9) - 1) - 1) - 1) - 1)) (ks' := (((((((((((1600 - (6 : Int).toNat) - 2) - ((80 : Int).toNat)) - 2) - ((80 : Int).toNat)) - 4) - 343) - 6) - ((0 : Int).toNat)) - 2) - ((80 : Int).toNat))) X 72 1 (m_X2_init l Γ (tg := 32) (n := 80) (zu_eq _ _ _ _) (by omega)) gX6_init_X2_init rfl w10 w12 w11 rfl (by decide +kernel) rfl (by decide) rfl (Nat.le_of_ble_eq_true rfl) dX6_init_69 rfl (by omega) (by omega) (fun rv35 V36 hp37 => ?_)
  obtain ⟨hp37e, hp37g, hp37s, hp37f⟩ := hp37
  rw [hp37e]
  have fr38 : zag zal (zu V28 x 1 (.inr (7, [.ref wa, .ref q1, .ref q9, .ref q17, .ref q25, .null, .null, .null, .null, .null, .int (zI (0)), .int (zI (0)), .int (zI (0)), .int (zI (0))]))) V36 := zbt.new hq34 hp37f
  have hc39 : V36 x = some (1, .inr (7, [.ref wa, .ref q1, .ref q9, .ref q17, .ref q25, .null, .null, .null, .null, .null, .int (zI (0)), .int (zI (0)), .int (zI (0)), .int (zI (0))])) := fr38 _ _ _ (zu_eq _ _ _ _) trivial
  have hc40 : V36 wa = some (2, zq Γ.2.1 3 ((6 : Int).toNat) (fun _ => none)) := fr38 _ _ _ ((zu_ne (Ne.symm (zne_oq hc31 hc32))).trans hc32) trivial
  show zG C V36 (((((((((((60 - 1) - 1) - 1) - 1) - 1) - 1) - 9) - 1) - 1) - 1) - 1) (((((((((((1600 - (6 : Int).toNat) - 2) - ((80 : Int).toNat)) - 2) - ((80 : Int).toNat)) - 4) - 343) - 6) - ((0 : Int).toNat)) - 2) - ((80 : Int).toNat)) 72 [(0, .ref x)] [.ref q33, .ref x]
  refine zr_putF X 75 7 5 [.ref wa, .ref q1, .ref q9, .ref q17, .ref q25, .ref q33, .null, .null, .null, .null, .int (zI (0)), .int (zI (0)), .int (zI (0)), .int (zI (0))] tyX6 hi0 hc39 rfl iX6 tyX6_ok nmX6 (by decide) w29 rfl rfl rfl rfl rfl (Nat.le_of_ble_eq_true rfl) rfl dX6_init_72 rfl ?_
  refine zr_aload_n X 76 0 dX6_init_75 rfl rfl ?_
  refine zr_new (kc' := ((((((((((((60 - 1) - 1) - 1) - 1) - 1) - 1) - 9) - 1) - 1) - 1) - 1) - 1)) (ks' := ((((((((((((1600 - (6 : Int).toNat) - 2) - ((80 : Int).toNat)) - 2) - ((80 : Int).toNat)) - 4) - 343) - 6) - ((0 : Int).toNat)) - 2) - ((80 : Int).toNat)) - 2)) X 79 4 33 [.null, .int (zI (0))] tyX2 rfl iX2 tyX2_ok w6 w7 w8 (zdf_X2) dX6_init_76 rfl (by omega) (by omega) (fun q41 hq42 => ?_)
  refine zr_dup X 80 dX6_init_79 rfl rfl ?_
  refine zr_bipush X 82 (80) dX6_init_80 rfl (by decide) ?_
  refine zr_callI (kc' := (((((((((((((60 - 1) - 1) - 1) - 1) - 1) - 1) - 9) - 1) - 1) - 1) - 1) - 1) - 1)) (ks' := (((((((((((((1600 - (6 : Int).toNat) - 2) - ((80 : Int).toNat)) - 2) - ((80 : Int).toNat)) - 4) - 343) - 6) - ((0 : Int).toNat)) - 2) - ((80 : Int).toNat)) - 2) - ((80 : Int).toNat))) X 85 1 (m_X2_init l Γ (tg := 34) (n := 80) (zu_eq _ _ _ _) (by omega)) gX6_init_X2_init rfl w10 w12 w11 rfl (by decide +kernel) rfl (by decide) rfl (Nat.le_of_ble_eq_true rfl) dX6_init_82 rfl (by omega) (by omega) (fun rv43 V44 hp45 => ?_)
  obtain ⟨hp45e, hp45g, hp45s, hp45f⟩ := hp45
  rw [hp45e]
  have fr46 : zag zal (zu V36 x 1 (.inr (7, [.ref wa, .ref q1, .ref q9, .ref q17, .ref q25, .ref q33, .null, .null, .null, .null, .int (zI (0)), .int (zI (0)), .int (zI (0)), .int (zI (0))]))) V44 := zbt.new hq42 hp45f
  have hc47 : V44 x = some (1, .inr (7, [.ref wa, .ref q1, .ref q9, .ref q17, .ref q25, .ref q33, .null, .null, .null, .null, .int (zI (0)), .int (zI (0)), .int (zI (0)), .int (zI (0))])) := fr46 _ _ _ (zu_eq _ _ _ _) trivial
  have hc48 : V44 wa = some (2, zq Γ.2.1 3 ((6 : Int).toNat) (fun _ => none)) := fr46 _ _ _ ((zu_ne (Ne.symm (zne_oq hc39 hc40))).trans hc40) trivial
  show zG C V44 (((((((((((((60 - 1) - 1) - 1) - 1) - 1) - 1) - 9) - 1) - 1) - 1) - 1) - 1) - 1) (((((((((((((1600 - (6 : Int).toNat) - 2) - ((80 : Int).toNat)) - 2) - ((80 : Int).toNat)) - 4) - 343) - 6) - ((0 : Int).toNat)) - 2) - ((80 : Int).toNat)) - 2) - ((80 : Int).toNat)) 85 [(0, .ref x)] [.ref q41, .ref x]
  refine zr_putF X 88 7 6 [.ref wa, .ref q1, .ref q9, .ref q17, .ref q25, .ref q33, .ref q41, .null, .null, .null, .int (zI (0)), .int (zI (0)), .int (zI (0)), .int (zI (0))] tyX6 hi0 hc47 rfl iX6 tyX6_ok nmX6 (by decide) w30 rfl rfl rfl rfl rfl (Nat.le_of_ble_eq_true rfl) rfl dX6_init_85 rfl ?_
  refine zr_aload_n X 89 0 dX6_init_88 rfl rfl ?_
  refine zr_new (kc' := ((((((((((((((60 - 1) - 1) - 1) - 1) - 1) - 1) - 9) - 1) - 1) - 1) - 1) - 1) - 1) - 1)) (ks' := ((((((((((((((1600 - (6 : Int).toNat) - 2) - ((80 : Int).toNat)) - 2) - ((80 : Int).toNat)) - 4) - 343) - 6) - ((0 : Int).toNat)) - 2) - ((80 : Int).toNat)) - 2) - ((80 : Int).toNat)) - 3)) X 92 5 35 [.null, .null, .int (zI (0))] tyX3 rfl iX3 tyX3_ok w31 w32 w33 (zdf_X3) dX6_init_89 rfl (by omega) (by omega) (fun q49 hq50 => ?_)
  refine zr_dup X 93 dX6_init_92 rfl rfl ?_
  refine zr_callIN (kc' := (((((((((((((((60 - 1) - 1) - 1) - 1) - 1) - 1) - 9) - 1) - 1) - 1) - 1) - 1) - 1) - 1) - 4)) (ks' := (((((((((((((((1600 - (6 : Int).toNat) - 2) - ((80 : Int).toNat)) - 2) - ((80 : Int).toNat)) - 4) - 343) - 6) - ((0 : Int).toNat)) - 2) - ((80 : Int).toNat)) - 2) - ((80 : Int).toNat)) - 3) - 245)) X 96 0 3 (m_X3_init l Γ (tp := 39) (tt := 36) (ta := 37) (tc := 38) (zu_eq _ _ _ _) (by decide)) gX6_init_X3_init_n47 rfl w35 rfl w36 rfl (by decide +kernel) rfl (by decide) rfl (Nat.le_of_ble_eq_true rfl) dX6_init_93 rfl (by omega) (by omega) (fun rv51 V52 hp53 => ?_)
  obtain ⟨hp53e, hp53p, hp53b, hp53g, hp53c, hp53k, hp53s, hp53f⟩ := hp53
  rw [hp53e]
  have fr54 : zag zal (zu V44 x 1 (.inr (7, [.ref wa, .ref q1, .ref q9, .ref q17, .ref q25, .ref q33, .ref q41, .null, .null, .null, .int (zI (0)), .int (zI (0)), .int (zI (0)), .int (zI (0))]))) V52 := zbt.new hq50 hp53f
  have hc55 : V52 x = some (1, .inr (7, [.ref wa, .ref q1, .ref q9, .ref q17, .ref q25, .ref q33, .ref q41, .null, .null, .null, .int (zI (0)), .int (zI (0)), .int (zI (0)), .int (zI (0))])) := fr54 _ _ _ (zu_eq _ _ _ _) trivial
  have hc56 : V52 wa = some (2, zq Γ.2.1 3 ((6 : Int).toNat) (fun _ => none)) := fr54 _ _ _ ((zu_ne (Ne.symm (zne_oq hc47 hc48))).trans hc48) trivial
  show zG C V52 (((((((((((((((60 - 1) - 1) - 1) - 1) - 1) - 1) - 9) - 1) - 1) - 1) - 1) - 1) - 1) - 1) - 4) (((((((((((((((1600 - (6 : Int).toNat) - 2) - ((80 : Int).toNat)) - 2) - ((80 : Int).toNat)) - 4) - 343) - 6) - ((0 : Int).toNat)) - 2) - ((80 : Int).toNat)) - 2) - ((80 : Int).toNat)) - 3) - 245) 96 [(0, .ref x)] [.ref q49, .ref x]
  refine zr_putF X 99 7 7 [.ref wa, .ref q1, .ref q9, .ref q17, .ref q25, .ref q33, .ref q41, .ref q49, .null, .null, .int (zI (0)), .int (zI (0)), .int (zI (0)), .int (zI (0))] tyX6 hi0 hc55 rfl iX6 tyX6_ok nmX6 (by decide) w37 rfl rfl rfl rfl rfl (Nat.le_of_ble_eq_true rfl) rfl dX6_init_96 rfl ?_
  refine zr_aload_n X 100 0 dX6_init_99 rfl rfl ?_
  refine zr_new (kc' := ((((((((((((((((60 - 1) - 1) - 1) - 1) - 1) - 1) - 9) - 1) - 1) - 1) - 1) - 1) - 1) - 1) - 4) - 1)) (ks' := ((((((((((((((((1600 - (6 : Int).toNat) - 2) - ((80 : Int).toNat)) - 2) - ((80 : Int).toNat)) - 4) - 343) - 6) - ((0 : Int).toNat)) - 2) - ((80 : Int).toNat)) - 2) - ((80 : Int).toNat)) - 3) - 245) - 3)) X 103 5 40 [.null, .null, .int (zI (0))] tyX3 rfl iX3 tyX3_ok w31 w32 w33 (zdf_X3) dX6_init_100 rfl (by omega) (by omega) (fun q57 hq58 => ?_)
  refine zr_dup X 104 dX6_init_103 rfl rfl ?_
  refine zr_callIN (kc' := (((((((((((((((((60 - 1) - 1) - 1) - 1) - 1) - 1) - 9) - 1) - 1) - 1) - 1) - 1) - 1) - 1) - 4) - 1) - 4)) (ks' := (((((((((((((((((1600 - (6 : Int).toNat) - 2) - ((80 : Int).toNat)) - 2) - ((80 : Int).toNat)) - 4) - 343) - 6) - ((0 : Int).toNat)) - 2) - ((80 : Int).toNat)) - 2) - ((80 : Int).toNat)) - 3) - 245) - 3) - 245)) X 107 0 3 (m_X3_init l Γ (tp := 44) (tt := 41) (ta := 42) (tc := 43) (zu_eq _ _ _ _) (by decide)) gX6_init_X3_init_n47 rfl w35 rfl w36 rfl (by decide +kernel) rfl (by decide) rfl (Nat.le_of_ble_eq_true rfl) dX6_init_104 rfl (by omega) (by omega) (fun rv59 V60 hp61 => ?_)
  obtain ⟨hp61e, hp61p, hp61b, hp61g, hp61c, hp61k, hp61s, hp61f⟩ := hp61
  rw [hp61e]
  have fr62 : zag zal (zu V52 x 1 (.inr (7, [.ref wa, .ref q1, .ref q9, .ref q17, .ref q25, .ref q33, .ref q41, .ref q49, .null, .null, .int (zI (0)), .int (zI (0)), .int (zI (0)), .int (zI (0))]))) V60 := zbt.new hq58 hp61f
  have hc63 : V60 x = some (1, .inr (7, [.ref wa, .ref q1, .ref q9, .ref q17, .ref q25, .ref q33, .ref q41, .ref q49, .null, .null, .int (zI (0)), .int (zI (0)), .int (zI (0)), .int (zI (0))])) := fr62 _ _ _ (zu_eq _ _ _ _) trivial
  have hc64 : V60 wa = some (2, zq Γ.2.1 3 ((6 : Int).toNat) (fun _ => none)) := fr62 _ _ _ ((zu_ne (Ne.symm (zne_oq hc55 hc56))).trans hc56) trivial
  show zG C V60 (((((((((((((((((60 - 1) - 1) - 1) - 1) - 1) - 1) - 9) - 1) - 1) - 1) - 1) - 1) - 1) - 1) - 4) - 1) - 4) (((((((((((((((((1600 - (6 : Int).toNat) - 2) - ((80 : Int).toNat)) - 2) - ((80 : Int).toNat)) - 4) - 343) - 6) - ((0 : Int).toNat)) - 2) - ((80 : Int).toNat)) - 2) - ((80 : Int).toNat)) - 3) - 245) - 3) - 245) 107 [(0, .ref x)] [.ref q57, .ref x]
  refine zr_putF X 110 7 8 [.ref wa, .ref q1, .ref q9, .ref q17, .ref q25, .ref q33, .ref q41, .ref q49, .ref q57, .null, .int (zI (0)), .int (zI (0)), .int (zI (0)), .int (zI (0))] tyX6 hi0 hc63 rfl iX6 tyX6_ok nmX6 (by decide) w38 rfl rfl rfl rfl rfl (Nat.le_of_ble_eq_true rfl) rfl dX6_init_107 rfl ?_
  refine zr_aload_n X 111 0 dX6_init_110 rfl rfl ?_
  refine zr_new (kc' := ((((((((((((((((((60 - 1) - 1) - 1) - 1) - 1) - 1) - 9) - 1) - 1) - 1) - 1) - 1) - 1) - 1) - 4) - 1) - 4) - 1)) (ks' := ((((((((((((((((((1600 - (6 : Int).toNat) - 2) - ((80 : Int).toNat)) - 2) - ((80 : Int).toNat)) - 4) - 343) - 6) - ((0 : Int).toNat)) - 2) - ((80 : Int).toNat)) - 2) - ((80 : Int).toNat)) - 3) - 245) - 3) - 245) - 3)) X 114 2 45 [.null, .null, .int (zI (0))] tyX0 rfl iX0 tyX0_ok w39 w40 w41 (zdf_X0) dX6_init_111 rfl (by omega) (by omega) (fun q65 hq66 => ?_)
  refine zr_dup X 115 dX6_init_114 rfl rfl ?_
  refine zr_callIN (kc' := (((((((((((((((((((60 - 1) - 1) - 1) - 1) - 1) - 1) - 9) - 1) - 1) - 1) - 1) - 1) - 1) - 1) - 4) - 1) - 4) - 1) - 2)) (ks' := (((((((((((((((((((1600 - (6 : Int).toNat) - 2) - ((80 : Int).toNat)) - 2) - ((80 : Int).toNat)) - 4) - 343) - 6) - ((0 : Int).toNat)) - 2) - ((80 : Int).toNat)) - 2) - ((80 : Int).toNat)) - 3) - 245) - 3) - 245) - 3) - 161)) X 118 0 5 (m_X0_init l Γ (ta := 46) (tc := 47) (zu_eq _ _ _ _) (by decide)) gX6_init_X0_init_n57 rfl w43 rfl w44 rfl (by decide +kernel) rfl (by decide) rfl (Nat.le_of_ble_eq_true rfl) dX6_init_115 rfl (by omega) (by omega) (fun rv67 V68 hp69 => ?_)
  obtain ⟨hp69e, hp69g, hp69c, hp69s, hp69f⟩ := hp69
  rw [hp69e]
  have fr70 : zag zal (zu V60 x 1 (.inr (7, [.ref wa, .ref q1, .ref q9, .ref q17, .ref q25, .ref q33, .ref q41, .ref q49, .ref q57, .null, .int (zI (0)), .int (zI (0)), .int (zI (0)), .int (zI (0))]))) V68 := zbt.new hq66 hp69f
  have hc71 : V68 x = some (1, .inr (7, [.ref wa, .ref q1, .ref q9, .ref q17, .ref q25, .ref q33, .ref q41, .ref q49, .ref q57, .null, .int (zI (0)), .int (zI (0)), .int (zI (0)), .int (zI (0))])) := fr70 _ _ _ (zu_eq _ _ _ _) trivial
  have hc72 : V68 wa = some (2, zq Γ.2.1 3 ((6 : Int).toNat) (fun _ => none)) := fr70 _ _ _ ((zu_ne (Ne.symm (zne_oq hc63 hc64))).trans hc64) trivial
  show zG C V68 (((((((((((((((((((60 - 1) - 1) - 1) - 1) - 1) - 1) - 9) - 1) - 1) - 1) - 1) - 1) - 1) - 1) - 4) - 1) - 4) - 1) - 2) (((((((((((((((((((1600 - (6 : Int).toNat) - 2) - ((80 : Int).toNat)) - 2) - ((80 : Int).toNat)) - 4) - 343) - 6) - ((0 : Int).toNat)) - 2) - ((80 : Int).toNat)) - 2) - ((80 : Int).toNat)) - 3) - 245) - 3) - 245) - 3) - 161) 118 [(0, .ref x)] [.ref q65, .ref x]
  refine zr_putF X 121 7 9 [.ref wa, .ref q1, .ref q9, .ref q17, .ref q25, .ref q33, .ref q41, .ref q49, .ref q57, .ref q65, .int (zI (0)), .int (zI (0)), .int (zI (0)), .int (zI (0))] tyX6 hi0 hc71 rfl iX6 tyX6_ok nmX6 (by decide) w45 rfl rfl rfl rfl rfl (Nat.le_of_ble_eq_true rfl) rfl dX6_init_118 rfl ?_
  refine zr_iconst X 122 dX6_init_121 rfl ?_
  refine zr_istore_n X 123 [(1, .int (zI (0))), (0, .ref x)] dX6_init_122 rfl (by decide) rfl ?_
  refine zr_iload_n X 124 0 dX6_init_123 rfl rfl ?_
  refine zr_aload_n X 125 1 dX6_init_124 rfl rfl ?_
  refine zr_get X 128 7 0 (zu_eq _ _ _ _) rfl iX6 (by decide) w4 rfl rfl dX6_init_125 rfl ?_
  refine zr_alenq X 129 3 ((zu_ne (Ne.symm (zne_oq hc71 hc72))).trans hc72) (by decide) dX6_init_128 rfl ?_
  refine zr_icmp_ge X 153 132 dX6_init_129 rfl rfl (by omega) (by omega) (fun h73 => absurd h73 (by omega)) (fun h73 => ?_)
  refine zr_aload_n X 133 1 dX6_init_132 rfl rfl ?_
  refine zr_get X 136 7 0 (zu_eq _ _ _ _) rfl iX6 (by decide) w4 rfl rfl dX6_init_133 rfl ?_
  refine zr_iload_n X 137 0 dX6_init_136 rfl rfl ?_
  refine zr_new (kc' := ((((((((((((((((((((60 - 1) - 1) - 1) - 1) - 1) - 1) - 9) - 1) - 1) - 1) - 1) - 1) - 1) - 1) - 4) - 1) - 4) - 1) - 2) - 1)) (ks' := ((((((((((((((((((((1600 - (6 : Int).toNat) - 2) - ((80 : Int).toNat)) - 2) - ((80 : Int).toNat)) - 4) - 343) - 6) - ((0 : Int).toNat)) - 2) - ((80 : Int).toNat)) - 2) - ((80 : Int).toNat)) - 3) - 245) - 3) - 245) - 3) - 161) - 6)) X 140 6 10 [.null, .int (zI (0)), .int (zI (0)), .int (zI (0)), .int (zI (0)), .int (zI (0))] tyX5 rfl iX5 tyX5_ok w3 w22 w23 (zdf_X5) dX6_init_137 rfl (by omega) (by omega) (fun q74 hq75 => ?_)
  refine zr_dup X 141 dX6_init_140 rfl rfl ?_
  refine zr_bipush X 143 (12) dX6_init_141 rfl (by decide) ?_
  refine zr_callI (kc' := (((((((((((((((((((((60 - 1) - 1) - 1) - 1) - 1) - 1) - 9) - 1) - 1) - 1) - 1) - 1) - 1) - 1) - 4) - 1) - 4) - 1) - 2) - 1) - 1)) (ks' := (((((((((((((((((((((1600 - (6 : Int).toNat) - 2) - ((80 : Int).toNat)) - 2) - ((80 : Int).toNat)) - 4) - 343) - 6) - ((0 : Int).toNat)) - 2) - ((80 : Int).toNat)) - 2) - ((80 : Int).toNat)) - 3) - 245) - 3) - 245) - 3) - 161) - 6) - ((12 : Int).toNat))) X 146 1 (m_X5_init l Γ (n := 12) (zu_eq _ _ _ _) (by omega)) gX6_init_X5_init rfl w25 w27 w26 rfl (by decide +kernel) rfl (by decide) rfl (Nat.le_of_ble_eq_true rfl) dX6_init_143 rfl (by omega) (by omega) (fun rv76 V77 hp78 => ?_)
  obtain ⟨hp78e, hp78s, hp78f⟩ := hp78
  rw [hp78e]
  have fr79 : zag zal (zu V68 x 1 (.inr (7, [.ref wa, .ref q1, .ref q9, .ref q17, .ref q25, .ref q33, .ref q41, .ref q49, .ref q57, .ref q65, .int (zI (0)), .int (zI (0)), .int (zI (0)), .int (zI (0))]))) V77 := zbt.new hq75 hp78f
  have hc80 : V77 x = some (1, .inr (7, [.ref wa, .ref q1, .ref q9, .ref q17, .ref q25, .ref q33, .ref q41, .ref q49, .ref q57, .ref q65, .int (zI (0)), .int (zI (0)), .int (zI (0)), .int (zI (0))])) := fr79 _ _ _ (zu_eq _ _ _ _) trivial
  have hc81 : V77 wa = some (2, zq Γ.2.1 3 ((6 : Int).toNat) (fun _ => none)) := fr79 _ _ _ ((zu_ne (Ne.symm (zne_oq hc71 hc72))).trans hc72) trivial
  show zG C V77 (((((((((((((((((((((60 - 1) - 1) - 1) - 1) - 1) - 1) - 9) - 1) - 1) - 1) - 1) - 1) - 1) - 1) - 4) - 1) - 4) - 1) - 2) - 1) - 1) (((((((((((((((((((((1600 - (6 : Int).toNat) - 2) - ((80 : Int).toNat)) - 2) - ((80 : Int).toNat)) - 4) - 343) - 6) - ((0 : Int).toNat)) - 2) - ((80 : Int).toNat)) - 2) - ((80 : Int).toNat)) - 3) - 245) - 3) - 245) - 3) - 161) - 6) - ((12 : Int).toNat)) 146 [(1, .int (zI (0))), (0, .ref x)] [.ref q74, .int (zI (0)), .ref wa]
  obtain ⟨ow82r, ow82n, ow82s, ow82f, ow82k, -⟩ := id hp78s
  refine zr_aast X 147 hc81 ow82k (by omega) dX6_init_146 rfl ?_
  refine zr_iinc X 150 0 [(1, .int (zI (0 + 1))), (0, .ref x)] dX6_init_147 rfl rfl (by decide) rfl ?_
  show zG C (zu V77 wa 2 (zq Γ.2.1 3 ((6 : Int).toNat) (zg (fun _ => none) (0 : Int).toNat q74))) (((((((((((((((((((((60 - 1) - 1) - 1) - 1) - 1) - 1) - 9) - 1) - 1) - 1) - 1) - 1) - 1) - 1) - 4) - 1) - 4) - 1) - 2) - 1) - 1) (((((((((((((((((((((1600 - (6 : Int).toNat) - 2) - ((80 : Int).toNat)) - 2) - ((80 : Int).toNat)) - 4) - 343) - 6) - ((0 : Int).toNat)) - 2) - ((80 : Int).toNat)) - 2) - ((80 : Int).toNat)) - 3) - 245) - 3) - 245) - 3) - 161) - 6) - ((12 : Int).toNat)) 150 [(1, .int (zI (1))), (0, .ref x)] []
  refine zr_goto X 123 dX6_init_150 rfl ?_
  refine zr_iload_n X 124 0 dX6_init_123 rfl rfl ?_
  refine zr_aload_n X 125 1 dX6_init_124 rfl rfl ?_
  refine zr_get X 128 7 0 ((zu_ne (zne_oq hc80 hc81)).trans hc80) rfl iX6 (by decide) w4 rfl rfl dX6_init_125 rfl ?_
  refine zr_alenq X 129 3 (zu_eq _ _ _ _) (by decide) dX6_init_128 rfl ?_
  refine zr_icmp_ge X 153 132 dX6_init_129 rfl rfl (by omega) (by omega) (fun h83 => absurd h83 (by omega)) (fun h83 => ?_)
  refine zr_aload_n X 133 1 dX6_init_132 rfl rfl ?_
  refine zr_get X 136 7 0 ((zu_ne (zne_oq hc80 hc81)).trans hc80) rfl iX6 (by decide) w4 rfl rfl dX6_init_133 rfl ?_
  refine zr_iload_n X 137 0 dX6_init_136 rfl rfl ?_
  refine zr_new (kc' := ((((((((((((((((((((((60 - 1) - 1) - 1) - 1) - 1) - 1) - 9) - 1) - 1) - 1) - 1) - 1) - 1) - 1) - 4) - 1) - 4) - 1) - 2) - 1) - 1) - 1)) (ks' := ((((((((((((((((((((((1600 - (6 : Int).toNat) - 2) - ((80 : Int).toNat)) - 2) - ((80 : Int).toNat)) - 4) - 343) - 6) - ((0 : Int).toNat)) - 2) - ((80 : Int).toNat)) - 2) - ((80 : Int).toNat)) - 3) - 245) - 3) - 245) - 3) - 161) - 6) - ((12 : Int).toNat)) - 6)) X 140 6 11 [.null, .int (zI (0)), .int (zI (0)), .int (zI (0)), .int (zI (0)), .int (zI (0))] tyX5 rfl iX5 tyX5_ok w3 w22 w23 (zdf_X5) dX6_init_137 rfl (by omega) (by omega) (fun q84 hq85 => ?_)
  refine zr_dup X 141 dX6_init_140 rfl rfl ?_
  refine zr_bipush X 143 (12) dX6_init_141 rfl (by decide) ?_
  refine zr_callI (kc' := (((((((((((((((((((((((60 - 1) - 1) - 1) - 1) - 1) - 1) - 9) - 1) - 1) - 1) - 1) - 1) - 1) - 1) - 4) - 1) - 4) - 1) - 2) - 1) - 1) - 1) - 1)) (ks' := (((((((((((((((((((((((1600 - (6 : Int).toNat) - 2) - ((80 : Int).toNat)) - 2) - ((80 : Int).toNat)) - 4) - 343) - 6) - ((0 : Int).toNat)) - 2) - ((80 : Int).toNat)) - 2) - ((80 : Int).toNat)) - 3) - 245) - 3) - 245) - 3) - 161) - 6) - ((12 : Int).toNat)) - 6) - ((12 : Int).toNat))) X 146 1 (m_X5_init l Γ (n := 12) (zu_eq _ _ _ _) (by omega)) gX6_init_X5_init rfl w25 w27 w26 rfl (by decide +kernel) rfl (by decide) rfl (Nat.le_of_ble_eq_true rfl) dX6_init_143 rfl (by omega) (by omega) (fun rv86 V87 hp88 => ?_)
  obtain ⟨hp88e, hp88s, hp88f⟩ := hp88
  rw [hp88e]
  have fr89 : zag zal (zu V77 wa 2 (zq Γ.2.1 3 ((6 : Int).toNat) (zg (fun _ => none) (0 : Int).toNat q74))) V87 := zbt.new hq85 hp88f
  have hc90 : V87 x = some (1, .inr (7, [.ref wa, .ref q1, .ref q9, .ref q17, .ref q25, .ref q33, .ref q41, .ref q49, .ref q57, .ref q65, .int (zI (0)), .int (zI (0)), .int (zI (0)), .int (zI (0))])) := fr89 _ _ _ ((zu_ne (zne_oq hc80 hc81)).trans hc80) trivial
  have hc91 : V87 wa = some (2, zq Γ.2.1 3 ((6 : Int).toNat) (zg (fun _ => none) (0 : Int).toNat q74)) := fr89 _ _ _ (zu_eq _ _ _ _) trivial
  show zG C V87 (((((((((((((((((((((((60 - 1) - 1) - 1) - 1) - 1) - 1) - 9) - 1) - 1) - 1) - 1) - 1) - 1) - 1) - 4) - 1) - 4) - 1) - 2) - 1) - 1) - 1) - 1) (((((((((((((((((((((((1600 - (6 : Int).toNat) - 2) - ((80 : Int).toNat)) - 2) - ((80 : Int).toNat)) - 4) - 343) - 6) - ((0 : Int).toNat)) - 2) - ((80 : Int).toNat)) - 2) - ((80 : Int).toNat)) - 3) - 245) - 3) - 245) - 3) - 161) - 6) - ((12 : Int).toNat)) - 6) - ((12 : Int).toNat)) 146 [(1, .int (zI (1))), (0, .ref x)] [.ref q84, .int (zI (1)), .ref wa]
  obtain ⟨ow92r, ow92n, ow92s, ow92f, ow92k, -⟩ := id hp88s
  refine zr_aast X 147 hc91 ow92k (by omega) dX6_init_146 rfl ?_
  refine zr_iinc X 150 0 [(1, .int (zI (1 + 1))), (0, .ref x)] dX6_init_147 rfl rfl (by decide) rfl ?_
  show zG C (zu V87 wa 2 (zq Γ.2.1 3 ((6 : Int).toNat) (zg (zg (fun _ => none) (0 : Int).toNat q74) (1 : Int).toNat q84))) (((((((((((((((((((((((60 - 1) - 1) - 1) - 1) - 1) - 1) - 9) - 1) - 1) - 1) - 1) - 1) - 1) - 1) - 4) - 1) - 4) - 1) - 2) - 1) - 1) - 1) - 1) (((((((((((((((((((((((1600 - (6 : Int).toNat) - 2) - ((80 : Int).toNat)) - 2) - ((80 : Int).toNat)) - 4) - 343) - 6) - ((0 : Int).toNat)) - 2) - ((80 : Int).toNat)) - 2) - ((80 : Int).toNat)) - 3) - 245) - 3) - 245) - 3) - 161) - 6) - ((12 : Int).toNat)) - 6) - ((12 : Int).toNat)) 150 [(1, .int (zI (2))), (0, .ref x)] []
  refine zr_goto X 123 dX6_init_150 rfl ?_
  refine zr_iload_n X 124 0 dX6_init_123 rfl rfl ?_
  refine zr_aload_n X 125 1 dX6_init_124 rfl rfl ?_
  refine zr_get X 128 7 0 ((zu_ne (zne_oq hc90 hc91)).trans hc90) rfl iX6 (by decide) w4 rfl rfl dX6_init_125 rfl ?_
  refine zr_alenq X 129 3 (zu_eq _ _ _ _) (by decide) dX6_init_128 rfl ?_
  refine zr_icmp_ge X 153 132 dX6_init_129 rfl rfl (by omega) (by omega) (fun h93 => absurd h93 (by omega)) (fun h93 => ?_)
  refine zr_aload_n X 133 1 dX6_init_132 rfl rfl ?_
  refine zr_get X 136 7 0 ((zu_ne (zne_oq hc90 hc91)).trans hc90) rfl iX6 (by decide) w4 rfl rfl dX6_init_133 rfl ?_
  refine zr_iload_n X 137 0 dX6_init_136 rfl rfl ?_
  refine zr_new (kc' := ((((((((((((((((((((((((60 - 1) - 1) - 1) - 1) - 1) - 1) - 9) - 1) - 1) - 1) - 1) - 1) - 1) - 1) - 4) - 1) - 4) - 1) - 2) - 1) - 1) - 1) - 1) - 1)) (ks' := ((((((((((((((((((((((((1600 - (6 : Int).toNat) - 2) - ((80 : Int).toNat)) - 2) - ((80 : Int).toNat)) - 4) - 343) - 6) - ((0 : Int).toNat)) - 2) - ((80 : Int).toNat)) - 2) - ((80 : Int).toNat)) - 3) - 245) - 3) - 245) - 3) - 161) - 6) - ((12 : Int).toNat)) - 6) - ((12 : Int).toNat)) - 6)) X 140 6 12 [.null, .int (zI (0)), .int (zI (0)), .int (zI (0)), .int (zI (0)), .int (zI (0))] tyX5 rfl iX5 tyX5_ok w3 w22 w23 (zdf_X5) dX6_init_137 rfl (by omega) (by omega) (fun q94 hq95 => ?_)
  refine zr_dup X 141 dX6_init_140 rfl rfl ?_
  refine zr_bipush X 143 (12) dX6_init_141 rfl (by decide) ?_
  refine zr_callI (kc' := (((((((((((((((((((((((((60 - 1) - 1) - 1) - 1) - 1) - 1) - 9) - 1) - 1) - 1) - 1) - 1) - 1) - 1) - 4) - 1) - 4) - 1) - 2) - 1) - 1) - 1) - 1) - 1) - 1)) (ks' := (((((((((((((((((((((((((1600 - (6 : Int).toNat) - 2) - ((80 : Int).toNat)) - 2) - ((80 : Int).toNat)) - 4) - 343) - 6) - ((0 : Int).toNat)) - 2) - ((80 : Int).toNat)) - 2) - ((80 : Int).toNat)) - 3) - 245) - 3) - 245) - 3) - 161) - 6) - ((12 : Int).toNat)) - 6) - ((12 : Int).toNat)) - 6) - ((12 : Int).toNat))) X 146 1 (m_X5_init l Γ (n := 12) (zu_eq _ _ _ _) (by omega)) gX6_init_X5_init rfl w25 w27 w26 rfl (by decide +kernel) rfl (by decide) rfl (Nat.le_of_ble_eq_true rfl) dX6_init_143 rfl (by omega) (by omega) (fun rv96 V97 hp98 => ?_)
  obtain ⟨hp98e, hp98s, hp98f⟩ := hp98
  rw [hp98e]
  have fr99 : zag zal (zu V87 wa 2 (zq Γ.2.1 3 ((6 : Int).toNat) (zg (zg (fun _ => none) (0 : Int).toNat q74) (1 : Int).toNat q84))) V97 := zbt.new hq95 hp98f
  have hc100 : V97 x = some (1, .inr (7, [.ref wa, .ref q1, .ref q9, .ref q17, .ref q25, .ref q33, .ref q41, .ref q49, .ref q57, .ref q65, .int (zI (0)), .int (zI (0)), .int (zI (0)), .int (zI (0))])) := fr99 _ _ _ ((zu_ne (zne_oq hc90 hc91)).trans hc90) trivial
  have hc101 : V97 wa = some (2, zq Γ.2.1 3 ((6 : Int).toNat) (zg (zg (fun _ => none) (0 : Int).toNat q74) (1 : Int).toNat q84)) := fr99 _ _ _ (zu_eq _ _ _ _) trivial
  show zG C V97 (((((((((((((((((((((((((60 - 1) - 1) - 1) - 1) - 1) - 1) - 9) - 1) - 1) - 1) - 1) - 1) - 1) - 1) - 4) - 1) - 4) - 1) - 2) - 1) - 1) - 1) - 1) - 1) - 1) (((((((((((((((((((((((((1600 - (6 : Int).toNat) - 2) - ((80 : Int).toNat)) - 2) - ((80 : Int).toNat)) - 4) - 343) - 6) - ((0 : Int).toNat)) - 2) - ((80 : Int).toNat)) - 2) - ((80 : Int).toNat)) - 3) - 245) - 3) - 245) - 3) - 161) - 6) - ((12 : Int).toNat)) - 6) - ((12 : Int).toNat)) - 6) - ((12 : Int).toNat)) 146 [(1, .int (zI (2))), (0, .ref x)] [.ref q94, .int (zI (2)), .ref wa]
  obtain ⟨ow102r, ow102n, ow102s, ow102f, ow102k, -⟩ := id hp98s
  refine zr_aast X 147 hc101 ow102k (by omega) dX6_init_146 rfl ?_
  refine zr_iinc X 150 0 [(1, .int (zI (2 + 1))), (0, .ref x)] dX6_init_147 rfl rfl (by decide) rfl ?_
  show zG C (zu V97 wa 2 (zq Γ.2.1 3 ((6 : Int).toNat) (zg (zg (zg (fun _ => none) (0 : Int).toNat q74) (1 : Int).toNat q84) (2 : Int).toNat q94))) (((((((((((((((((((((((((60 - 1) - 1) - 1) - 1) - 1) - 1) - 9) - 1) - 1) - 1) - 1) - 1) - 1) - 1) - 4) - 1) - 4) - 1) - 2) - 1) - 1) - 1) - 1) - 1) - 1) (((((((((((((((((((((((((1600 - (6 : Int).toNat) - 2) - ((80 : Int).toNat)) - 2) - ((80 : Int).toNat)) - 4) - 343) - 6) - ((0 : Int).toNat)) - 2) - ((80 : Int).toNat)) - 2) - ((80 : Int).toNat)) - 3) - 245) - 3) - 245) - 3) - 161) - 6) - ((12 : Int).toNat)) - 6) - ((12 : Int).toNat)) - 6) - ((12 : Int).toNat)) 150 [(1, .int (zI (3))), (0, .ref x)] []
  refine zr_goto X 123 dX6_init_150 rfl ?_
  refine zr_iload_n X 124 0 dX6_init_123 rfl rfl ?_
  refine zr_aload_n X 125 1 dX6_init_124 rfl rfl ?_
  refine zr_get X 128 7 0 ((zu_ne (zne_oq hc100 hc101)).trans hc100) rfl iX6 (by decide) w4 rfl rfl dX6_init_125 rfl ?_
  refine zr_alenq X 129 3 (zu_eq _ _ _ _) (by decide) dX6_init_128 rfl ?_
  refine zr_icmp_ge X 153 132 dX6_init_129 rfl rfl (by omega) (by omega) (fun h103 => absurd h103 (by omega)) (fun h103 => ?_)
  refine zr_aload_n X 133 1 dX6_init_132 rfl rfl ?_
  refine zr_get X 136 7 0 ((zu_ne (zne_oq hc100 hc101)).trans hc100) rfl iX6 (by decide) w4 rfl rfl dX6_init_133 rfl ?_
  refine zr_iload_n X 137 0 dX6_init_136 rfl rfl ?_
  refine zr_new (kc' := ((((((((((((((((((((((((((60 - 1) - 1) - 1) - 1) - 1) - 1) - 9) - 1) - 1) - 1) - 1) - 1) - 1) - 1) - 4) - 1) - 4) - 1) - 2) - 1) - 1) - 1) - 1) - 1) - 1) - 1)) (ks' := ((((((((((((((((((((((((((1600 - (6 : Int).toNat) - 2) - ((80 : Int).toNat)) - 2) - ((80 : Int).toNat)) - 4) - 343) - 6) - ((0 : Int).toNat)) - 2) - ((80 : Int).toNat)) - 2) - ((80 : Int).toNat)) - 3) - 245) - 3) - 245) - 3) - 161) - 6) - ((12 : Int).toNat)) - 6) - ((12 : Int).toNat)) - 6) - ((12 : Int).toNat)) - 6)) X 140 6 13 [.null, .int (zI (0)), .int (zI (0)), .int (zI (0)), .int (zI (0)), .int (zI (0))] tyX5 rfl iX5 tyX5_ok w3 w22 w23 (zdf_X5) dX6_init_137 rfl (by omega) (by omega) (fun q104 hq105 => ?_)
  refine zr_dup X 141 dX6_init_140 rfl rfl ?_
  refine zr_bipush X 143 (12) dX6_init_141 rfl (by decide) ?_
  refine zr_callI (kc' := (((((((((((((((((((((((((((60 - 1) - 1) - 1) - 1) - 1) - 1) - 9) - 1) - 1) - 1) - 1) - 1) - 1) - 1) - 4) - 1) - 4) - 1) - 2) - 1) - 1) - 1) - 1) - 1) - 1) - 1) - 1)) (ks' := (((((((((((((((((((((((((((1600 - (6 : Int).toNat) - 2) - ((80 : Int).toNat)) - 2) - ((80 : Int).toNat)) - 4) - 343) - 6) - ((0 : Int).toNat)) - 2) - ((80 : Int).toNat)) - 2) - ((80 : Int).toNat)) - 3) - 245) - 3) - 245) - 3) - 161) - 6) - ((12 : Int).toNat)) - 6) - ((12 : Int).toNat)) - 6) - ((12 : Int).toNat)) - 6) - ((12 : Int).toNat))) X 146 1 (m_X5_init l Γ (n := 12) (zu_eq _ _ _ _) (by omega)) gX6_init_X5_init rfl w25 w27 w26 rfl (by decide +kernel) rfl (by decide) rfl (Nat.le_of_ble_eq_true rfl) dX6_init_143 rfl (by omega) (by omega) (fun rv106 V107 hp108 => ?_)
  obtain ⟨hp108e, hp108s, hp108f⟩ := hp108
  rw [hp108e]
  have fr109 : zag zal (zu V97 wa 2 (zq Γ.2.1 3 ((6 : Int).toNat) (zg (zg (zg (fun _ => none) (0 : Int).toNat q74) (1 : Int).toNat q84) (2 : Int).toNat q94))) V107 := zbt.new hq105 hp108f
  have hc110 : V107 x = some (1, .inr (7, [.ref wa, .ref q1, .ref q9, .ref q17, .ref q25, .ref q33, .ref q41, .ref q49, .ref q57, .ref q65, .int (zI (0)), .int (zI (0)), .int (zI (0)), .int (zI (0))])) := fr109 _ _ _ ((zu_ne (zne_oq hc100 hc101)).trans hc100) trivial
  have hc111 : V107 wa = some (2, zq Γ.2.1 3 ((6 : Int).toNat) (zg (zg (zg (fun _ => none) (0 : Int).toNat q74) (1 : Int).toNat q84) (2 : Int).toNat q94)) := fr109 _ _ _ (zu_eq _ _ _ _) trivial
  show zG C V107 (((((((((((((((((((((((((((60 - 1) - 1) - 1) - 1) - 1) - 1) - 9) - 1) - 1) - 1) - 1) - 1) - 1) - 1) - 4) - 1) - 4) - 1) - 2) - 1) - 1) - 1) - 1) - 1) - 1) - 1) - 1) (((((((((((((((((((((((((((1600 - (6 : Int).toNat) - 2) - ((80 : Int).toNat)) - 2) - ((80 : Int).toNat)) - 4) - 343) - 6) - ((0 : Int).toNat)) - 2) - ((80 : Int).toNat)) - 2) - ((80 : Int).toNat)) - 3) - 245) - 3) - 245) - 3) - 161) - 6) - ((12 : Int).toNat)) - 6) - ((12 : Int).toNat)) - 6) - ((12 : Int).toNat)) - 6) - ((12 : Int).toNat)) 146 [(1, .int (zI (3))), (0, .ref x)] [.ref q104, .int (zI (3)), .ref wa]
  obtain ⟨ow112r, ow112n, ow112s, ow112f, ow112k, -⟩ := id hp108s
  refine zr_aast X 147 hc111 ow112k (by omega) dX6_init_146 rfl ?_
  refine zr_iinc X 150 0 [(1, .int (zI (3 + 1))), (0, .ref x)] dX6_init_147 rfl rfl (by decide) rfl ?_
  show zG C (zu V107 wa 2 (zq Γ.2.1 3 ((6 : Int).toNat) (zg (zg (zg (zg (fun _ => none) (0 : Int).toNat q74) (1 : Int).toNat q84) (2 : Int).toNat q94) (3 : Int).toNat q104))) (((((((((((((((((((((((((((60 - 1) - 1) - 1) - 1) - 1) - 1) - 9) - 1) - 1) - 1) - 1) - 1) - 1) - 1) - 4) - 1) - 4) - 1) - 2) - 1) - 1) - 1) - 1) - 1) - 1) - 1) - 1) (((((((((((((((((((((((((((1600 - (6 : Int).toNat) - 2) - ((80 : Int).toNat)) - 2) - ((80 : Int).toNat)) - 4) - 343) - 6) - ((0 : Int).toNat)) - 2) - ((80 : Int).toNat)) - 2) - ((80 : Int).toNat)) - 3) - 245) - 3) - 245) - 3) - 161) - 6) - ((12 : Int).toNat)) - 6) - ((12 : Int).toNat)) - 6) - ((12 : Int).toNat)) - 6) - ((12 : Int).toNat)) 150 [(1, .int (zI (4))), (0, .ref x)] []
  refine zr_goto X 123 dX6_init_150 rfl ?_
  refine zr_iload_n X 124 0 dX6_init_123 rfl rfl ?_
  refine zr_aload_n X 125 1 dX6_init_124 rfl rfl ?_
  refine zr_get X 128 7 0 ((zu_ne (zne_oq hc110 hc111)).trans hc110) rfl iX6 (by decide) w4 rfl rfl dX6_init_125 rfl ?_
  refine zr_alenq X 129 3 (zu_eq _ _ _ _) (by decide) dX6_init_128 rfl ?_
  refine zr_icmp_ge X 153 132 dX6_init_129 rfl rfl (by omega) (by omega) (fun h113 => absurd h113 (by omega)) (fun h113 => ?_)
  refine zr_aload_n X 133 1 dX6_init_132 rfl rfl ?_
  refine zr_get X 136 7 0 ((zu_ne (zne_oq hc110 hc111)).trans hc110) rfl iX6 (by decide) w4 rfl rfl dX6_init_133 rfl ?_
  refine zr_iload_n X 137 0 dX6_init_136 rfl rfl ?_
  refine zr_new (kc' := ((((((((((((((((((((((((((((60 - 1) - 1) - 1) - 1) - 1) - 1) - 9) - 1) - 1) - 1) - 1) - 1) - 1) - 1) - 4) - 1) - 4) - 1) - 2) - 1) - 1) - 1) - 1) - 1) - 1) - 1) - 1) - 1)) (ks' := ((((((((((((((((((((((((((((1600 - (6 : Int).toNat) - 2) - ((80 : Int).toNat)) - 2) - ((80 : Int).toNat)) - 4) - 343) - 6) - ((0 : Int).toNat)) - 2) - ((80 : Int).toNat)) - 2) - ((80 : Int).toNat)) - 3) - 245) - 3) - 245) - 3) - 161) - 6) - ((12 : Int).toNat)) - 6) - ((12 : Int).toNat)) - 6) - ((12 : Int).toNat)) - 6) - ((12 : Int).toNat)) - 6)) X 140 6 14 [.null, .int (zI (0)), .int (zI (0)), .int (zI (0)), .int (zI (0)), .int (zI (0))] tyX5 rfl iX5 tyX5_ok w3 w22 w23 (zdf_X5) dX6_init_137 rfl (by omega) (by omega) (fun q114 hq115 => ?_)
  refine zr_dup X 141 dX6_init_140 rfl rfl ?_
  refine zr_bipush X 143 (12) dX6_init_141 rfl (by decide) ?_
  refine zr_callI (kc' := (((((((((((((((((((((((((((((60 - 1) - 1) - 1) - 1) - 1) - 1) - 9) - 1) - 1) - 1) - 1) - 1) - 1) - 1) - 4) - 1) - 4) - 1) - 2) - 1) - 1) - 1) - 1) - 1) - 1) - 1) - 1) - 1) - 1)) (ks' := (((((((((((((((((((((((((((((1600 - (6 : Int).toNat) - 2) - ((80 : Int).toNat)) - 2) - ((80 : Int).toNat)) - 4) - 343) - 6) - ((0 : Int).toNat)) - 2) - ((80 : Int).toNat)) - 2) - ((80 : Int).toNat)) - 3) - 245) - 3) - 245) - 3) - 161) - 6) - ((12 : Int).toNat)) - 6) - ((12 : Int).toNat)) - 6) - ((12 : Int).toNat)) - 6) - ((12 : Int).toNat)) - 6) - ((12 : Int).toNat))) X 146 1 (m_X5_init l Γ (n := 12) (zu_eq _ _ _ _) (by omega)) gX6_init_X5_init rfl w25 w27 w26 rfl (by decide +kernel) rfl (by decide) rfl (Nat.le_of_ble_eq_true rfl) dX6_init_143 rfl (by omega) (by omega) (fun rv116 V117 hp118 => ?_)
  obtain ⟨hp118e, hp118s, hp118f⟩ := hp118
  rw [hp118e]
  have fr119 : zag zal (zu V107 wa 2 (zq Γ.2.1 3 ((6 : Int).toNat) (zg (zg (zg (zg (fun _ => none) (0 : Int).toNat q74) (1 : Int).toNat q84) (2 : Int).toNat q94) (3 : Int).toNat q104))) V117 := zbt.new hq115 hp118f
  have hc120 : V117 x = some (1, .inr (7, [.ref wa, .ref q1, .ref q9, .ref q17, .ref q25, .ref q33, .ref q41, .ref q49, .ref q57, .ref q65, .int (zI (0)), .int (zI (0)), .int (zI (0)), .int (zI (0))])) := fr119 _ _ _ ((zu_ne (zne_oq hc110 hc111)).trans hc110) trivial
  have hc121 : V117 wa = some (2, zq Γ.2.1 3 ((6 : Int).toNat) (zg (zg (zg (zg (fun _ => none) (0 : Int).toNat q74) (1 : Int).toNat q84) (2 : Int).toNat q94) (3 : Int).toNat q104)) := fr119 _ _ _ (zu_eq _ _ _ _) trivial
  show zG C V117 (((((((((((((((((((((((((((((60 - 1) - 1) - 1) - 1) - 1) - 1) - 9) - 1) - 1) - 1) - 1) - 1) - 1) - 1) - 4) - 1) - 4) - 1) - 2) - 1) - 1) - 1) - 1) - 1) - 1) - 1) - 1) - 1) - 1) (((((((((((((((((((((((((((((1600 - (6 : Int).toNat) - 2) - ((80 : Int).toNat)) - 2) - ((80 : Int).toNat)) - 4) - 343) - 6) - ((0 : Int).toNat)) - 2) - ((80 : Int).toNat)) - 2) - ((80 : Int).toNat)) - 3) - 245) - 3) - 245) - 3) - 161) - 6) - ((12 : Int).toNat)) - 6) - ((12 : Int).toNat)) - 6) - ((12 : Int).toNat)) - 6) - ((12 : Int).toNat)) - 6) - ((12 : Int).toNat)) 146 [(1, .int (zI (4))), (0, .ref x)] [.ref q114, .int (zI (4)), .ref wa]
  obtain ⟨ow122r, ow122n, ow122s, ow122f, ow122k, -⟩ := id hp118s
  refine zr_aast X 147 hc121 ow122k (by omega) dX6_init_146 rfl ?_
  refine zr_iinc X 150 0 [(1, .int (zI (4 + 1))), (0, .ref x)] dX6_init_147 rfl rfl (by decide) rfl ?_
  show zG C (zu V117 wa 2 (zq Γ.2.1 3 ((6 : Int).toNat) (zg (zg (zg (zg (zg (fun _ => none) (0 : Int).toNat q74) (1 : Int).toNat q84) (2 : Int).toNat q94) (3 : Int).toNat q104) (4 : Int).toNat q114))) (((((((((((((((((((((((((((((60 - 1) - 1) - 1) - 1) - 1) - 1) - 9) - 1) - 1) - 1) - 1) - 1) - 1) - 1) - 4) - 1) - 4) - 1) - 2) - 1) - 1) - 1) - 1) - 1) - 1) - 1) - 1) - 1) - 1) (((((((((((((((((((((((((((((1600 - (6 : Int).toNat) - 2) - ((80 : Int).toNat)) - 2) - ((80 : Int).toNat)) - 4) - 343) - 6) - ((0 : Int).toNat)) - 2) - ((80 : Int).toNat)) - 2) - ((80 : Int).toNat)) - 3) - 245) - 3) - 245) - 3) - 161) - 6) - ((12 : Int).toNat)) - 6) - ((12 : Int).toNat)) - 6) - ((12 : Int).toNat)) - 6) - ((12 : Int).toNat)) - 6) - ((12 : Int).toNat)) 150 [(1, .int (zI (5))), (0, .ref x)] []
  refine zr_goto X 123 dX6_init_150 rfl ?_
  refine zr_iload_n X 124 0 dX6_init_123 rfl rfl ?_
  refine zr_aload_n X 125 1 dX6_init_124 rfl rfl ?_
  refine zr_get X 128 7 0 ((zu_ne (zne_oq hc120 hc121)).trans hc120) rfl iX6 (by decide) w4 rfl rfl dX6_init_125 rfl ?_
  refine zr_alenq X 129 3 (zu_eq _ _ _ _) (by decide) dX6_init_128 rfl ?_
  refine zr_icmp_ge X 153 132 dX6_init_129 rfl rfl (by omega) (by omega) (fun h123 => absurd h123 (by omega)) (fun h123 => ?_)
  refine zr_aload_n X 133 1 dX6_init_132 rfl rfl ?_
  refine zr_get X 136 7 0 ((zu_ne (zne_oq hc120 hc121)).trans hc120) rfl iX6 (by decide) w4 rfl rfl dX6_init_133 rfl ?_
  refine zr_iload_n X 137 0 dX6_init_136 rfl rfl ?_
  refine zr_new (kc' := ((((((((((((((((((((((((((((((60 - 1) - 1) - 1) - 1) - 1) - 1) - 9) - 1) - 1) - 1) - 1) - 1) - 1) - 1) - 4) - 1) - 4) - 1) - 2) - 1) - 1) - 1) - 1) - 1) - 1) - 1) - 1) - 1) - 1) - 1)) (ks' := ((((((((((((((((((((((((((((((1600 - (6 : Int).toNat) - 2) - ((80 : Int).toNat)) - 2) - ((80 : Int).toNat)) - 4) - 343) - 6) - ((0 : Int).toNat)) - 2) - ((80 : Int).toNat)) - 2) - ((80 : Int).toNat)) - 3) - 245) - 3) - 245) - 3) - 161) - 6) - ((12 : Int).toNat)) - 6) - ((12 : Int).toNat)) - 6) - ((12 : Int).toNat)) - 6) - ((12 : Int).toNat)) - 6) - ((12 : Int).toNat)) - 6)) X 140 6 15 [.null, .int (zI (0)), .int (zI (0)), .int (zI (0)), .int (zI (0)), .int (zI (0))] tyX5 rfl iX5 tyX5_ok w3 w22 w23 (zdf_X5) dX6_init_137 rfl (by omega) (by omega) (fun q124 hq125 => ?_)
  refine zr_dup X 141 dX6_init_140 rfl rfl ?_
  refine zr_bipush X 143 (12) dX6_init_141 rfl (by decide) ?_
  refine zr_callI (kc' := (((((((((((((((((((((((((((((((60 - 1) - 1) - 1) - 1) - 1) - 1) - 9) - 1) - 1) - 1) - 1) - 1) - 1) - 1) - 4) - 1) - 4) - 1) - 2) - 1) - 1) - 1) - 1) - 1) - 1) - 1) - 1) - 1) - 1) - 1) - 1)) (ks' := (((((((((((((((((((((((((((((((1600 - (6 : Int).toNat) - 2) - ((80 : Int).toNat)) - 2) - ((80 : Int).toNat)) - 4) - 343) - 6) - ((0 : Int).toNat)) - 2) - ((80 : Int).toNat)) - 2) - ((80 : Int).toNat)) - 3) - 245) - 3) - 245) - 3) - 161) - 6) - ((12 : Int).toNat)) - 6) - ((12 : Int).toNat)) - 6) - ((12 : Int).toNat)) - 6) - ((12 : Int).toNat)) - 6) - ((12 : Int).toNat)) - 6) - ((12 : Int).toNat))) X 146 1 (m_X5_init l Γ (n := 12) (zu_eq _ _ _ _) (by omega)) gX6_init_X5_init rfl w25 w27 w26 rfl (by decide +kernel) rfl (by decide) rfl (Nat.le_of_ble_eq_true rfl) dX6_init_143 rfl (by omega) (by omega) (fun rv126 V127 hp128 => ?_)
  obtain ⟨hp128e, hp128s, hp128f⟩ := hp128
  rw [hp128e]
  have fr129 : zag zal (zu V117 wa 2 (zq Γ.2.1 3 ((6 : Int).toNat) (zg (zg (zg (zg (zg (fun _ => none) (0 : Int).toNat q74) (1 : Int).toNat q84) (2 : Int).toNat q94) (3 : Int).toNat q104) (4 : Int).toNat q114))) V127 := zbt.new hq125 hp128f
  have hc130 : V127 x = some (1, .inr (7, [.ref wa, .ref q1, .ref q9, .ref q17, .ref q25, .ref q33, .ref q41, .ref q49, .ref q57, .ref q65, .int (zI (0)), .int (zI (0)), .int (zI (0)), .int (zI (0))])) := fr129 _ _ _ ((zu_ne (zne_oq hc120 hc121)).trans hc120) trivial
  have hc131 : V127 wa = some (2, zq Γ.2.1 3 ((6 : Int).toNat) (zg (zg (zg (zg (zg (fun _ => none) (0 : Int).toNat q74) (1 : Int).toNat q84) (2 : Int).toNat q94) (3 : Int).toNat q104) (4 : Int).toNat q114)) := fr129 _ _ _ (zu_eq _ _ _ _) trivial
  show zG C V127 (((((((((((((((((((((((((((((((60 - 1) - 1) - 1) - 1) - 1) - 1) - 9) - 1) - 1) - 1) - 1) - 1) - 1) - 1) - 4) - 1) - 4) - 1) - 2) - 1) - 1) - 1) - 1) - 1) - 1) - 1) - 1) - 1) - 1) - 1) - 1) (((((((((((((((((((((((((((((((1600 - (6 : Int).toNat) - 2) - ((80 : Int).toNat)) - 2) - ((80 : Int).toNat)) - 4) - 343) - 6) - ((0 : Int).toNat)) - 2) - ((80 : Int).toNat)) - 2) - ((80 : Int).toNat)) - 3) - 245) - 3) - 245) - 3) - 161) - 6) - ((12 : Int).toNat)) - 6) - ((12 : Int).toNat)) - 6) - ((12 : Int).toNat)) - 6) - ((12 : Int).toNat)) - 6) - ((12 : Int).toNat)) - 6) - ((12 : Int).toNat)) 146 [(1, .int (zI (5))), (0, .ref x)] [.ref q124, .int (zI (5)), .ref wa]
  obtain ⟨ow132r, ow132n, ow132s, ow132f, ow132k, -⟩ := id hp128s
  refine zr_aast X 147 hc131 ow132k (by omega) dX6_init_146 rfl ?_
  refine zr_iinc X 150 0 [(1, .int (zI (5 + 1))), (0, .ref x)] dX6_init_147 rfl rfl (by decide) rfl ?_
  show zG C (zu V127 wa 2 (zq Γ.2.1 3 ((6 : Int).toNat) (zg (zg (zg (zg (zg (zg (fun _ => none) (0 : Int).toNat q74) (1 : Int).toNat q84) (2 : Int).toNat q94) (3 : Int).toNat q104) (4 : Int).toNat q114) (5 : Int).toNat q124))) (((((((((((((((((((((((((((((((60 - 1) - 1) - 1) - 1) - 1) - 1) - 9) - 1) - 1) - 1) - 1) - 1) - 1) - 1) - 4) - 1) - 4) - 1) - 2) - 1) - 1) - 1) - 1) - 1) - 1) - 1) - 1) - 1) - 1) - 1) - 1) (((((((((((((((((((((((((((((((1600 - (6 : Int).toNat) - 2) - ((80 : Int).toNat)) - 2) - ((80 : Int).toNat)) - 4) - 343) - 6) - ((0 : Int).toNat)) - 2) - ((80 : Int).toNat)) - 2) - ((80 : Int).toNat)) - 3) - 245) - 3) - 245) - 3) - 161) - 6) - ((12 : Int).toNat)) - 6) - ((12 : Int).toNat)) - 6) - ((12 : Int).toNat)) - 6) - ((12 : Int).toNat)) - 6) - ((12 : Int).toNat)) - 6) - ((12 : Int).toNat)) 150 [(1, .int (zI (6))), (0, .ref x)] []
  refine zr_goto X 123 dX6_init_150 rfl ?_
  refine zr_iload_n X 124 0 dX6_init_123 rfl rfl ?_
  refine zr_aload_n X 125 1 dX6_init_124 rfl rfl ?_
  refine zr_get X 128 7 0 ((zu_ne (zne_oq hc130 hc131)).trans hc130) rfl iX6 (by decide) w4 rfl rfl dX6_init_125 rfl ?_
  refine zr_alenq X 129 3 (zu_eq _ _ _ _) (by decide) dX6_init_128 rfl ?_
  refine zr_icmp_ge X 153 132 dX6_init_129 rfl rfl (by omega) (by omega) (fun h133 => ?_) (fun h133 => absurd (show (6 : Int) ≥ ((6 : Int).toNat : Nat) by omega) h133)
  refine zr_same X (fun i => some ((zad [0, x, wa, 0, 0, 0, 0, 0, 0, 0, q74, q84, q94, q104, q114, q124, q25, 0, 0, 0, q1, hp5g, q9, hp13g, q17, hp21a1, hp21g1, hp21a2, hp21g2, hp21a3, hp21g3, q33, hp37g, q41, hp45g, q49, hp53b, hp53g, hp53c, hp53p, q57, hp61b, hp61g, hp61c, hp61p, q65, hp69g, hp69c, 0, 0, 0]) (10 + i))) (zu_eq _ _ _ _) (fun i hi => by
    rcases (by omega : i = 0 ∨ i = 1 ∨ i = 2 ∨ i = 3 ∨ i = 4 ∨ i = 5) with rfl | rfl | rfl | rfl | rfl | rfl <;> rfl) ?_
  refine zr_view (zu_zu _ _ _ _ _ _) ?_
  have en134 : zag zp12 V127 (zu V127 wa 2 (zq Γ.2.1 3 (6 : Int).toNat (fun i => some ((zad [0, x, wa, 0, 0, 0, 0, 0, 0, 0, q74, q84, q94, q104, q114, q124, q25, 0, 0, 0, q1, hp5g, q9, hp13g, q17, hp21a1, hp21g1, hp21a2, hp21g2, hp21a3, hp21g3, q33, hp37g, q41, hp45g, q49, hp53b, hp53g, hp53c, hp53p, q57, hp61b, hp61g, hp61c, hp61p, q65, hp69g, hp69c, 0, 0, 0]) (10 + i))))) := zag.set (zag.rf) hc131 (fun z9 => z9.2 rfl)
  have en135 : zag zp12 V117 (zu V127 wa 2 (zq Γ.2.1 3 (6 : Int).toNat (fun i => some ((zad [0, x, wa, 0, 0, 0, 0, 0, 0, 0, q74, q84, q94, q104, q114, q124, q25, 0, 0, 0, q1, hp5g, q9, hp13g, q17, hp21a1, hp21g1, hp21a2, hp21g2, hp21a3, hp21g3, q33, hp37g, q41, hp45g, q49, hp53b, hp53g, hp53c, hp53p, q57, hp61b, hp61g, hp61c, hp61p, q65, hp69g, hp69c, 0, 0, 0]) (10 + i))))) := (zag.tr (zag.set (zag.rf) hc121 (fun z9 => z9.2 rfl)) (fr129.mono (fun _ _ => trivial))).tr en134
  have en136 : zag zp12 V107 (zu V127 wa 2 (zq Γ.2.1 3 (6 : Int).toNat (fun i => some ((zad [0, x, wa, 0, 0, 0, 0, 0, 0, 0, q74, q84, q94, q104, q114, q124, q25, 0, 0, 0, q1, hp5g, q9, hp13g, q17, hp21a1, hp21g1, hp21a2, hp21g2, hp21a3, hp21g3, q33, hp37g, q41, hp45g, q49, hp53b, hp53g, hp53c, hp53p, q57, hp61b, hp61g, hp61c, hp61p, q65, hp69g, hp69c, 0, 0, 0]) (10 + i))))) := (zag.tr (zag.set (zag.rf) hc111 (fun z9 => z9.2 rfl)) (fr119.mono (fun _ _ => trivial))).tr en135
  have en137 : zag zp12 V97 (zu V127 wa 2 (zq Γ.2.1 3 (6 : Int).toNat (fun i => some ((zad [0, x, wa, 0, 0, 0, 0, 0, 0, 0, q74, q84, q94, q104, q114, q124, q25, 0, 0, 0, q1, hp5g, q9, hp13g, q17, hp21a1, hp21g1, hp21a2, hp21g2, hp21a3, hp21g3, q33, hp37g, q41, hp45g, q49, hp53b, hp53g, hp53c, hp53p, q57, hp61b, hp61g, hp61c, hp61p, q65, hp69g, hp69c, 0, 0, 0]) (10 + i))))) := (zag.tr (zag.set (zag.rf) hc101 (fun z9 => z9.2 rfl)) (fr109.mono (fun _ _ => trivial))).tr en136
  have en138 : zag zp12 V87 (zu V127 wa 2 (zq Γ.2.1 3 (6 : Int).toNat (fun i => some ((zad [0, x, wa, 0, 0, 0, 0, 0, 0, 0, q74, q84, q94, q104, q114, q124, q25, 0, 0, 0, q1, hp5g, q9, hp13g, q17, hp21a1, hp21g1, hp21a2, hp21g2, hp21a3, hp21g3, q33, hp37g, q41, hp45g, q49, hp53b, hp53g, hp53c, hp53p, q57, hp61b, hp61g, hp61c, hp61p, q65, hp69g, hp69c, 0, 0, 0]) (10 + i))))) := (zag.tr (zag.set (zag.rf) hc91 (fun z9 => z9.2 rfl)) (fr99.mono (fun _ _ => trivial))).tr en137
  have en139 : zag zp12 V77 (zu V127 wa 2 (zq Γ.2.1 3 (6 : Int).toNat (fun i => some ((zad [0, x, wa, 0, 0, 0, 0, 0, 0, 0, q74, q84, q94, q104, q114, q124, q25, 0, 0, 0, q1, hp5g, q9, hp13g, q17, hp21a1, hp21g1, hp21a2, hp21g2, hp21a3, hp21g3, q33, hp37g, q41, hp45g, q49, hp53b, hp53g, hp53c, hp53p, q57, hp61b, hp61g, hp61c, hp61p, q65, hp69g, hp69c, 0, 0, 0]) (10 + i))))) := (zag.tr (zag.set (zag.rf) hc81 (fun z9 => z9.2 rfl)) (fr89.mono (fun _ _ => trivial))).tr en138
  have en140 : zag zp12 V68 (zu V127 wa 2 (zq Γ.2.1 3 (6 : Int).toNat (fun i => some ((zad [0, x, wa, 0, 0, 0, 0, 0, 0, 0, q74, q84, q94, q104, q114, q124, q25, 0, 0, 0, q1, hp5g, q9, hp13g, q17, hp21a1, hp21g1, hp21a2, hp21g2, hp21a3, hp21g3, q33, hp37g, q41, hp45g, q49, hp53b, hp53g, hp53c, hp53p, q57, hp61b, hp61g, hp61c, hp61p, q65, hp69g, hp69c, 0, 0, 0]) (10 + i))))) := (zag.tr (zag.set (zag.rf) hc71 (fun z9 => z9.1 rfl)) (fr79.mono (fun _ _ => trivial))).tr en139
  have en141 : zag zp12 V60 (zu V127 wa 2 (zq Γ.2.1 3 (6 : Int).toNat (fun i => some ((zad [0, x, wa, 0, 0, 0, 0, 0, 0, 0, q74, q84, q94, q104, q114, q124, q25, 0, 0, 0, q1, hp5g, q9, hp13g, q17, hp21a1, hp21g1, hp21a2, hp21g2, hp21a3, hp21g3, q33, hp37g, q41, hp45g, q49, hp53b, hp53g, hp53c, hp53p, q57, hp61b, hp61g, hp61c, hp61p, q65, hp69g, hp69c, 0, 0, 0]) (10 + i))))) := (zag.tr (zag.set (zag.rf) hc63 (fun z9 => z9.1 rfl)) (fr70.mono (fun _ _ => trivial))).tr en140
  have en142 : zag zp12 V52 (zu V127 wa 2 (zq Γ.2.1 3 (6 : Int).toNat (fun i => some ((zad [0, x, wa, 0, 0, 0, 0, 0, 0, 0, q74, q84, q94, q104, q114, q124, q25, 0, 0, 0, q1, hp5g, q9, hp13g, q17, hp21a1, hp21g1, hp21a2, hp21g2, hp21a3, hp21g3, q33, hp37g, q41, hp45g, q49, hp53b, hp53g, hp53c, hp53p, q57, hp61b, hp61g, hp61c, hp61p, q65, hp69g, hp69c, 0, 0, 0]) (10 + i))))) := (zag.tr (zag.set (zag.rf) hc55 (fun z9 => z9.1 rfl)) (fr62.mono (fun _ _ => trivial))).tr en141
  have en143 : zag zp12 V44 (zu V127 wa 2 (zq Γ.2.1 3 (6 : Int).toNat (fun i => some ((zad [0, x, wa, 0, 0, 0, 0, 0, 0, 0, q74, q84, q94, q104, q114, q124, q25, 0, 0, 0, q1, hp5g, q9, hp13g, q17, hp21a1, hp21g1, hp21a2, hp21g2, hp21a3, hp21g3, q33, hp37g, q41, hp45g, q49, hp53b, hp53g, hp53c, hp53p, q57, hp61b, hp61g, hp61c, hp61p, q65, hp69g, hp69c, 0, 0, 0]) (10 + i))))) := (zag.tr (zag.set (zag.rf) hc47 (fun z9 => z9.1 rfl)) (fr54.mono (fun _ _ => trivial))).tr en142
  have en144 : zag zp12 V36 (zu V127 wa 2 (zq Γ.2.1 3 (6 : Int).toNat (fun i => some ((zad [0, x, wa, 0, 0, 0, 0, 0, 0, 0, q74, q84, q94, q104, q114, q124, q25, 0, 0, 0, q1, hp5g, q9, hp13g, q17, hp21a1, hp21g1, hp21a2, hp21g2, hp21a3, hp21g3, q33, hp37g, q41, hp45g, q49, hp53b, hp53g, hp53c, hp53p, q57, hp61b, hp61g, hp61c, hp61p, q65, hp69g, hp69c, 0, 0, 0]) (10 + i))))) := (zag.tr (zag.set (zag.rf) hc39 (fun z9 => z9.1 rfl)) (fr46.mono (fun _ _ => trivial))).tr en143
  have en145 : zag zp12 V28 (zu V127 wa 2 (zq Γ.2.1 3 (6 : Int).toNat (fun i => some ((zad [0, x, wa, 0, 0, 0, 0, 0, 0, 0, q74, q84, q94, q104, q114, q124, q25, 0, 0, 0, q1, hp5g, q9, hp13g, q17, hp21a1, hp21g1, hp21a2, hp21g2, hp21a3, hp21g3, q33, hp37g, q41, hp45g, q49, hp53b, hp53g, hp53c, hp53p, q57, hp61b, hp61g, hp61c, hp61p, q65, hp69g, hp69c, 0, 0, 0]) (10 + i))))) := (zag.tr (zag.set (zag.rf) hc31 (fun z9 => z9.1 rfl)) (fr38.mono (fun _ _ => trivial))).tr en144
  have en146 : zag zp12 V20 (zu V127 wa 2 (zq Γ.2.1 3 (6 : Int).toNat (fun i => some ((zad [0, x, wa, 0, 0, 0, 0, 0, 0, 0, q74, q84, q94, q104, q114, q124, q25, 0, 0, 0, q1, hp5g, q9, hp13g, q17, hp21a1, hp21g1, hp21a2, hp21g2, hp21a3, hp21g3, q33, hp37g, q41, hp45g, q49, hp53b, hp53g, hp53c, hp53p, q57, hp61b, hp61g, hp61c, hp61p, q65, hp69g, hp69c, 0, 0, 0]) (10 + i))))) := (zag.tr (zag.set (zag.rf) hc23 (fun z9 => z9.1 rfl)) (fr30.mono (fun _ _ => trivial))).tr en145
  have en147 : zag zp12 V12 (zu V127 wa 2 (zq Γ.2.1 3 (6 : Int).toNat (fun i => some ((zad [0, x, wa, 0, 0, 0, 0, 0, 0, 0, q74, q84, q94, q104, q114, q124, q25, 0, 0, 0, q1, hp5g, q9, hp13g, q17, hp21a1, hp21g1, hp21a2, hp21g2, hp21a3, hp21g3, q33, hp37g, q41, hp45g, q49, hp53b, hp53g, hp53c, hp53p, q57, hp61b, hp61g, hp61c, hp61p, q65, hp69g, hp69c, 0, 0, 0]) (10 + i))))) := (zag.tr (zag.set (zag.rf) hc15 (fun z9 => z9.1 rfl)) (fr22.mono (fun _ _ => trivial))).tr en146
  have en148 : zag zp12 V4 (zu V127 wa 2 (zq Γ.2.1 3 (6 : Int).toNat (fun i => some ((zad [0, x, wa, 0, 0, 0, 0, 0, 0, 0, q74, q84, q94, q104, q114, q124, q25, 0, 0, 0, q1, hp5g, q9, hp13g, q17, hp21a1, hp21g1, hp21a2, hp21g2, hp21a3, hp21g3, q33, hp37g, q41, hp45g, q49, hp53b, hp53g, hp53c, hp53p, q57, hp61b, hp61g, hp61c, hp61p, q65, hp69g, hp69c, 0, 0, 0]) (10 + i))))) := (zag.tr (zag.set (zag.rf) hc7 (fun z9 => z9.1 rfl)) (fr14.mono (fun _ _ => trivial))).tr en147
  have en149 : zag zp12 V (zu V127 wa 2 (zq Γ.2.1 3 (6 : Int).toNat (fun i => some ((zad [0, x, wa, 0, 0, 0, 0, 0, 0, 0, q74, q84, q94, q104, q114, q124, q25, 0, 0, 0, q1, hp5g, q9, hp13g, q17, hp21a1, hp21g1, hp21a2, hp21g2, hp21a3, hp21g3, q33, hp37g, q41, hp45g, q49, hp53b, hp53g, hp53c, hp53p, q57, hp61b, hp61g, hp61c, hp61p, q65, hp69g, hp69c, 0, 0, 0]) (10 + i))))) := (zag.tr (zag.set (zag.new (zag.rf) hwa) ((zu_ne (zne_new hb hwa)).trans hb) (fun z9 => z9.1 rfl)) (fr6.mono (fun _ _ => trivial))).tr en148
  have fs150w0 := hp78s.kept en139 ⟨by decide, by decide⟩ ⟨by decide, by decide⟩
  have fs150w1 := hp88s.kept en138 ⟨by decide, by decide⟩ ⟨by decide, by decide⟩
  have fs150w2 := hp98s.kept en137 ⟨by decide, by decide⟩ ⟨by decide, by decide⟩
  have fs150w3 := hp108s.kept en136 ⟨by decide, by decide⟩ ⟨by decide, by decide⟩
  have fs150w4 := hp118s.kept en135 ⟨by decide, by decide⟩ ⟨by decide, by decide⟩
  have fs150w5 := hp128s.kept en134 ⟨by decide, by decide⟩ ⟨by decide, by decide⟩
  have fs150d := hp29s.kept en145 ⟨by decide, by decide⟩ ⟨by decide, by decide⟩
  have fs150t0 := hp5s.kept en148 ⟨by decide, by decide⟩ ⟨by decide, by decide⟩
  have fs150t1 := hp13s.kept en147 ⟨by decide, by decide⟩ ⟨by decide, by decide⟩
  have fs150t4 := hp37s.kept en144 ⟨by decide, by decide⟩ ⟨by decide, by decide⟩
  have fs150t5 := hp45s.kept en143 ⟨by decide, by decide⟩ ⟨by decide, by decide⟩
  have fs150p := en146 _ _ _ hp21c ⟨by decide, by decide⟩
  have fs150p1 := hp21s1.kept en146 ⟨by decide, by decide⟩ ⟨by decide, by decide⟩
  have fs150p2 := hp21s2.kept en146 ⟨by decide, by decide⟩ ⟨by decide, by decide⟩
  have fs150p3 := hp21s3.kept en146 ⟨by decide, by decide⟩ ⟨by decide, by decide⟩
  have fs150k6 := hp53k.kept en142 ⟨by decide, by decide⟩ ⟨by decide, by decide⟩
  have fs150b6 := hp53s.kept en142 ⟨by decide, by decide⟩ ⟨by decide, by decide⟩ ⟨by decide, by decide⟩
  have fs150k7 := hp61k.kept en141 ⟨by decide, by decide⟩ ⟨by decide, by decide⟩
  have fs150b7 := hp61s.kept en141 ⟨by decide, by decide⟩ ⟨by decide, by decide⟩ ⟨by decide, by decide⟩
  have fs150b8 := hp69s.kept en140 ⟨by decide, by decide⟩ ⟨by decide, by decide⟩ ⟨by decide, by decide⟩
  have fs1500 : zag zp12 V (zu V127 wa 2 (zq Γ.2.1 3 (6 : Int).toNat (fun i => some ((zad [0, x, wa, 0, 0, 0, 0, 0, 0, 0, q74, q84, q94, q104, q114, q124, q25, 0, 0, 0, q1, hp5g, q9, hp13g, q17, hp21a1, hp21g1, hp21a2, hp21g2, hp21a3, hp21g3, q33, hp37g, q41, hp45g, q49, hp53b, hp53g, hp53c, hp53p, q57, hp61b, hp61g, hp61c, hp61p, q65, hp69g, hp69c, 0, 0, 0]) (10 + i))))) := en149
  have fs150w : zSw Γ (zu V127 wa 2 (zq Γ.2.1 3 (6 : Int).toNat (fun i => some ((zad [0, x, wa, 0, 0, 0, 0, 0, 0, 0, q74, q84, q94, q104, q114, q124, q25, 0, 0, 0, q1, hp5g, q9, hp13g, q17, hp21a1, hp21g1, hp21a2, hp21g2, hp21a3, hp21g3, q33, hp37g, q41, hp45g, q49, hp53b, hp53g, hp53c, hp53p, q57, hp61b, hp61g, hp61c, hp61p, q65, hp69g, hp69c, 0, 0, 0]) (10 + i))))) (zad [0, x, wa, 0, 0, 0, 0, 0, 0, 0, q74, q84, q94, q104, q114, q124, q25, 0, 0, 0, q1, hp5g, q9, hp13g, q17, hp21a1, hp21g1, hp21a2, hp21g2, hp21a3, hp21g3, q33, hp37g, q41, hp45g, q49, hp53b, hp53g, hp53c, hp53p, q57, hp61b, hp61g, hp61c, hp61p, q65, hp69g, hp69c, 0, 0, 0]) zs0 := by
    intro i hi
    rcases (by omega : i = 0 ∨ i = 1 ∨ i = 2 ∨ i = 3 ∨ i = 4 ∨ i = 5) with rfl | rfl | rfl | rfl | rfl | rfl
    · exact fs150w0
    · exact fs150w1
    · exact fs150w2
    · exact fs150w3
    · exact fs150w4
    · exact fs150w5
  exact zr_vret X rfl ⟨rfl, zad [0, x, wa, 0, 0, 0, 0, 0, 0, 0, q74, q84, q94, q104, q114, q124, q25, 0, 0, 0, q1, hp5g, q9, hp13g, q17, hp21a1, hp21g1, hp21a2, hp21g2, hp21a3, hp21g3, q33, hp37g, q41, hp45g, q49, hp53b, hp53g, hp53c, hp53p, q57, hp61b, hp61g, hp61c, hp61p, q65, hp69g, hp69c, 0, 0, 0], rfl, ⟨((zu_ne (zne_oq hc130 hc131)).trans hc130), (zu_eq _ _ _ _), fs150w, ⟨_, _, _, _, fs150d⟩, ⟨fs150t0, fs150t1, ⟨_, fs150t4⟩, ⟨_, fs150t5⟩⟩, ⟨fs150p, fs150p1, fs150p2, fs150p3, by decide, by decide, by decide, by decide⟩, ⟨fs150k6, fs150b6, fs150k7, fs150b7, fs150b8⟩⟩, fs1500⟩ dX6_init_153
end
section
/-! the model's state -/
def zr5 (a b c d e : Int) : Nat → Int := fun j => if j = 0 then a else if j = 1 then b else if j = 2 then c else if j = 3 then d else if j = 4 then e else 0
theorem zr5_2 {a b c d e x : Int} : zf (zr5 a b c d e) 2 x = zr5 a b x d e := by
  funext j
  unfold zf zr5
  by_cases h : j = 2
  · simp [h]
  · simp [h]
theorem zr5_3 {a b c d e x : Int} : zf (zr5 a b c d e) 3 x = zr5 a b c x e := by
  funext j
  unfold zf zr5
  by_cases h : j = 3
  · simp [h]
  · simp [h]
theorem zr5_4 {a b c d e x : Int} : zf (zr5 a b c d e) 4 x = zr5 a b c d x := by
  funext j
  unfold zf zr5
  by_cases h : j = 4
  · simp [h]
  · simp [h]
theorem zr5_new {a b c d e : Int} : zf (zf (zf (zf (zf (fun _ => 0) 0 a) 1 b) 2 c) 3 d) 4 e = zr5 a b c d e := by
  funext j
  unfold zf zr5
  by_cases h4 : j = 4
  · simp [h4]
  · by_cases h3 : j = 3
    · simp [h3]
    · by_cases h2 : j = 2
      · simp [h2]
      · by_cases h1 : j = 1
        · simp [h1]
        · by_cases h0 : j = 0
          · simp [h0]
          · simp [h0, h1, h2, h3, h4]
def zmu (md : Nat → Nat) (k q : Nat) : Nat → Nat := fun t => if t = k then q else md t
theorem zmu_eq {md : Nat → Nat} {k q : Nat} : zmu md k q k = q := if_pos rfl
theorem zmu_ne {md : Nat → Nat} {k q t : Nat} (h : t ≠ k) : zmu md k q t = md t := if_neg h
/-- a row of ints of the model -/
def zAr (Γ : zGam) (V : zV) (tag a n : Nat) : Prop := ∃ f : Nat → Int, V a = some (tag, za Γ.2.1 0 n f) ∧ zc f
theorem zAr.kept {Γ : zGam} {V V' : zV} {Q : Nat → Prop} {tag a n : Nat} (h : zAr Γ V tag a n) (ha : zag Q V V') (hq : Q tag) : zAr Γ V' tag a n := by
  obtain ⟨f, h1, h2⟩ := h
  exact ⟨f, ha _ _ _ h1 hq, h2⟩
def zMc (c md : Nat → Nat) (en sz i o th : Int) : va_E := .inr (9, [.ref (md 61), .int (zI en), .ref (c 62), .ref (md 63), .ref (md 64), .ref (c 65), .int (zI sz), .int (zI i), .int (zI o), .ref (c 66), .int (zI th)])
/-- a window of the model -/
def zWm (Γ : zGam) (V : zV) (tag w : Nat) (en c l p m st mk : Int) : Prop := V w = some (tag, za Γ.2.1 0 5 (zr5 st c l p mk)) ∧ 0 ≤ st ∧ st + c ≤ en ∧ 0 ≤ p ∧ p ≤ l ∧ l ≤ c ∧ c ≤ 40 ∧ ((m = -9 ∧ mk = -1) ∨ (m = mk ∧ 0 ≤ mk)) ∧ m ≤ p
theorem zWm.kept {Γ : zGam} {V V' : zV} {Q : Nat → Prop} {tag w : Nat} {en c l p m st mk : Int} (h : zWm Γ V tag w en c l p m st mk) (ha : zag Q V V') (hq : Q tag) : zWm Γ V' tag w en c l p m st mk := ⟨ha _ _ _ h.1 hq, h.2⟩
theorem zWm.more {Γ : zGam} {V : zV} {tag w : Nat} {en en' c l p m st mk : Int} (h : zWm Γ V tag w en c l p m st mk) (he : en ≤ en') : zWm Γ V tag w en' c l p m st mk := ⟨h.1, h.2.1, by have := h.2.2.1; omega, h.2.2.2⟩
def zTm (V : zV) (c md : Nat → Nat) (τ κ : Nat → Int) : Prop := V (c 60) = some (60, zMc c md (κ 0) (τ 26) (τ 28) (τ 29) (τ 36))
def zTi (Γ : zGam) (V : zV) (c md : Nat → Nat) : Prop := V (c 62) = some (62, zq Γ.2.1 4 6 (fun i => some (md (70 + i))))
def zTw (Γ : zGam) (V : zV) (md : Nat → Nat) (τ κ : Nat → Int) : Prop := ∀ i, i < 6 → zWm Γ V (70 + i) (md (70 + i)) (κ 0) (τ (4 * i)) (τ (4 * i + 1)) (τ (4 * i + 2)) (τ (4 * i + 3)) (κ (10 + i)) (κ (20 + i))
def zTl (Γ : zGam) (V : zV) (a : Nat) (τ : Nat → Int) : Prop := ∃ f : Nat → Int, V a = some (66, za Γ.2.1 0 4 f) ∧ f 0 = τ 30 ∧ f 1 = τ 31 ∧ f 2 = τ 32 ∧ f 3 = τ 33
def zTn (τ κ : Nat → Int) (E : Int) : Prop := (0 ≤ κ 0 ∧ κ 0 ≤ κ 1 ∧ κ 0 ≤ E ∧ κ 1 ≤ 7000) ∧ (0 ≤ τ 24 ∧ τ 24 ≤ 80 ∧ 0 ≤ τ 25 ∧ τ 25 ≤ 80) ∧ 1 ≤ τ 26 ∧ τ 26 ≤ 8 ∧ 0 ≤ τ 29 ∧ τ 29 ≤ τ 28 ∧ τ 28 ≤ 160 ∧ τ 27 ≤ τ 26 ∧ τ 27 = τ 28 - τ 29
def zMo (Γ : zGam) (V : zV) (c md : Nat → Nat) (τ κ : Nat → Int) (E : Int) : Prop := zTm V c md τ κ ∧ zAr Γ V 61 (md 61) (κ 1).toNat ∧ zTi Γ V c md ∧ zTw Γ V md τ κ ∧ zAr Γ V 63 (md 63) (τ 24).toNat ∧ zAr Γ V 64 (md 64) (τ 25).toNat ∧ zAr Γ V 65 (c 65) 160 ∧ zTl Γ V (c 66) τ ∧ zTn τ κ E
theorem zTl.kept {Γ : zGam} {V V' : zV} {Q : Nat → Prop} {a : Nat} {τ : Nat → Int} (h : zTl Γ V a τ) (ha : zag Q V V') (hq : Q 66) : zTl Γ V' a τ := by
  obtain ⟨f, h1, h2⟩ := h
  exact ⟨f, ha _ _ _ h1 hq, h2⟩
theorem zMo.kept {Γ : zGam} {V V' : zV} {c md : Nat → Nat} {τ κ : Nat → Int} {E : Int} {Q : Nat → Prop} (h : zMo Γ V c md τ κ E) (ha : zag Q V V') (hq : ∀ t, 60 ≤ t → t ≤ 75 → Q t) : zMo Γ V' c md τ κ E := by
  obtain ⟨h1, h2, h3, h4, h5, h6, h7, h8, h9⟩ := h
  exact ⟨ha _ _ _ h1 (hq _ (by omega) (by omega)), h2.kept ha (hq _ (by omega) (by omega)), ha _ _ _ h3 (hq _ (by omega) (by omega)), fun i hi => (h4 i hi).kept ha (hq _ (by omega) (by omega)), h5.kept ha (hq _ (by omega) (by omega)), h6.kept ha (hq _ (by omega) (by omega)), h7.kept ha (hq _ (by omega) (by omega)), h8.kept ha (hq _ (by omega) (by omega)), h9⟩
theorem zMo.w {Γ : zGam} {V : zV} {c md : Nat → Nat} {τ κ : Nat → Int} {E : Int} (h : zMo Γ V c md τ κ E) {i : Nat} (hi : i < 6) : zWm Γ V (70 + i) (md (70 + i)) (κ 0) (τ (4 * i)) (τ (4 * i + 1)) (τ (4 * i + 2)) (τ (4 * i + 3)) (κ (10 + i)) (κ (20 + i)) := h.2.2.2.1 i hi
theorem zMo.n {Γ : zGam} {V : zV} {c md : Nat → Nat} {τ κ : Nat → Int} {E : Int} (h : zMo Γ V c md τ κ E) : zTn τ κ E := h.2.2.2.2.2.2.2.2
theorem zMo.le {Γ : zGam} {V : zV} {c md : Nat → Nat} {τ κ : Nat → Int} {E E' : Int} (h : zMo Γ V c md τ κ E) (he : E ≤ E') : zMo Γ V c md τ κ E' := by
  obtain ⟨h1, h2, h3, h4, h5, h6, h7, h8, ⟨h9, h10, h11, h12⟩, h13⟩ := h
  exact ⟨h1, h2, h3, h4, h5, h6, h7, h8, ⟨h9, h10, by omega, h12⟩, h13⟩
/-- the pipe's numbers and the thrown one -/
def zmf (τ : Nat → Int) (sz i o th : Int) : Nat → Int := fun j => if j = 26 then sz else if j = 27 then i - o else if j = 28 then i else if j = 29 then o else if j = 36 then th else τ j
theorem zmf_ne {τ : Nat → Int} {sz i o th : Int} {j : Nat} (h : ¬ (26 ≤ j ∧ j ≤ 29) ∧ j ≠ 36) : zmf τ sz i o th j = τ j := by
  unfold zmf
  rw [if_neg (by omega), if_neg (by omega), if_neg (by omega), if_neg (by omega), if_neg (by omega)]
theorem zag.one {V : zV} {a t : Nat} {e e' : va_E} (h : V a = some (t, e)) : zag (fun x => x ≠ t) V (zu V a t e') := zag.rf.set h (fun q => q rfl)
section ZTS
variable {Γ : zGam} {V : zV} {c md : Nat → Nat} {τ κ : Nat → Int} {E : Int}
theorem zMo.setM (h : zMo Γ V c md τ κ E) (sz i o th : Int) (hn : 1 ≤ sz ∧ sz ≤ 8 ∧ 0 ≤ o ∧ o ≤ i ∧ i ≤ 160 ∧ i - o ≤ sz) : zMo Γ (zu V (c 60) 60 (zMc c md (κ 0) sz i o th)) c md (zmf τ sz i o th) κ E ∧ zag (fun x => x ≠ 60) V (zu V (c 60) 60 (zMc c md (κ 0) sz i o th)) := by
  obtain ⟨h1, h2, h3, h4, h5, h6, h7, ⟨f, h8, k0, k1, k2, k3⟩, n1, n2, n3⟩ := h
  have ha := zag.one (e' := zMc c md (κ 0) sz i o th) h1
  refine ⟨⟨zu_eq _ _ _ _, h2.kept ha (by decide), ha _ _ _ h3 (by decide), fun i hi => ?_, h5.kept ha (by decide), h6.kept ha (by decide), h7.kept ha (by decide), ⟨f, ha _ _ _ h8 (by decide), k0, k1, k2, k3⟩, n1, n2, ?_⟩, ha⟩
  · have k := (h4 i hi).kept ha (by omega)
    rw [zmf_ne (by omega), zmf_ne (by omega), zmf_ne (by omega), zmf_ne (by omega)]
    exact k
  · exact ⟨hn.1, hn.2.1, hn.2.2.1, hn.2.2.2.1, hn.2.2.2.2.1, hn.2.2.2.2.2, rfl⟩
theorem zMo.setTal (h : zMo Γ V c md τ κ E) {f : Nat → Int} (hf : V (c 66) = some (66, za Γ.2.1 0 4 f)) (hv : f 0 = τ 30 ∧ f 1 = τ 31 ∧ f 2 = τ 32 ∧ f 3 = τ 33) (k : Nat) (hk : k < 4) (x : Int) : zMo Γ (zu V (c 66) 66 (za Γ.2.1 0 4 (zf f k x))) c md (zf τ (30 + k) x) κ E ∧ zag (fun x => x ≠ 66) V (zu V (c 66) 66 (za Γ.2.1 0 4 (zf f k x))) := by
  obtain ⟨h1, h2, h3, h4, h5, h6, h7, -, n1, n2, n3⟩ := h
  have ha := zag.one (e' := za Γ.2.1 0 4 (zf f k x)) hf
  have e : ∀ j, (j < 30 ∨ 34 ≤ j) → zf τ (30 + k) x j = τ j := fun j hj => zf_ne (by omega)
  refine ⟨⟨?_, h2.kept ha (by decide), ha _ _ _ h3 (by decide), fun i hi => ?_, ?_, ?_, h7.kept ha (by decide), ⟨_, zu_eq _ _ _ _, ?_⟩, n1, ?_, ?_⟩, ha⟩
  · unfold zTm
    rw [e 26 (by omega), e 28 (by omega), e 29 (by omega), e 36 (by omega)]
    exact ha _ _ _ h1 (by decide)
  · have q := (h4 i hi).kept ha (by omega)
    rw [e _ (by omega), e _ (by omega), e _ (by omega), e _ (by omega)]
    exact q
  · rw [e 24 (by omega)]
    exact h5.kept ha (by decide)
  · rw [e 25 (by omega)]
    exact h6.kept ha (by decide)
  · obtain ⟨v0, v1, v2, v3⟩ := hv
    rcases (by omega : k = 0 ∨ k = 1 ∨ k = 2 ∨ k = 3) with rfl | rfl | rfl | rfl
    · exact ⟨rfl, v1, v2, v3⟩
    · exact ⟨v0, rfl, v2, v3⟩
    · exact ⟨v0, v1, rfl, v3⟩
    · exact ⟨v0, v1, v2, rfl⟩
  · rw [e 24 (by omega), e 25 (by omega)]
    exact n2
  · rw [e 26 (by omega), e 27 (by omega), e 28 (by omega), e 29 (by omega)]
    exact n3
theorem zMo.setTape (h : zMo Γ V c md τ κ E) {f : Nat → Int} (hf : zc f) : zMo Γ (zu V (md 61) 61 (za Γ.2.1 0 (κ 1).toNat f)) c md τ κ E ∧ zag (fun x => x ≠ 61) V (zu V (md 61) 61 (za Γ.2.1 0 (κ 1).toNat f)) := by
  obtain ⟨h1, ⟨f0, h2, -⟩, h3, h4, h5, h6, h7, h8, h9⟩ := h
  have ha := zag.one (e' := za Γ.2.1 0 (κ 1).toNat f) h2
  exact ⟨⟨ha _ _ _ h1 (by decide), ⟨f, zu_eq _ _ _ _, hf⟩, ha _ _ _ h3 (by decide), fun i hi => (h4 i hi).kept ha (by omega), h5.kept ha (by decide), h6.kept ha (by decide), h7.kept ha (by decide), h8.kept ha (by decide), h9⟩, ha⟩
theorem zMo.setSent (h : zMo Γ V c md τ κ E) {f : Nat → Int} (hf : zc f) : zMo Γ (zu V (c 65) 65 (za Γ.2.1 0 160 f)) c md τ κ E ∧ zag (fun x => x ≠ 65) V (zu V (c 65) 65 (za Γ.2.1 0 160 f)) := by
  obtain ⟨h1, h2, h3, h4, h5, h6, ⟨f0, h7, -⟩, h8, h9⟩ := h
  have ha := zag.one (e' := za Γ.2.1 0 160 f) h7
  exact ⟨⟨ha _ _ _ h1 (by decide), h2.kept ha (by decide), ha _ _ _ h3 (by decide), fun i hi => (h4 i hi).kept ha (by omega), h5.kept ha (by decide), h6.kept ha (by decide), ⟨f, zu_eq _ _ _ _, hf⟩, h8.kept ha (by decide), h9⟩, ha⟩
theorem zMo.setBuilt (h : zMo Γ V c md τ κ E) {f : Nat → Int} (hf : zc f) : zMo Γ (zu V (md 63) 63 (za Γ.2.1 0 (τ 24).toNat f)) c md τ κ E ∧ zag (fun x => x ≠ 63) V (zu V (md 63) 63 (za Γ.2.1 0 (τ 24).toNat f)) := by
  obtain ⟨h1, h2, h3, h4, ⟨f0, h5, -⟩, h6, h7, h8, h9⟩ := h
  have ha := zag.one (e' := za Γ.2.1 0 (τ 24).toNat f) h5
  exact ⟨⟨ha _ _ _ h1 (by decide), h2.kept ha (by decide), ha _ _ _ h3 (by decide), fun i hi => (h4 i hi).kept ha (by omega), ⟨f, zu_eq _ _ _ _, hf⟩, h6.kept ha (by decide), h7.kept ha (by decide), h8.kept ha (by decide), h9⟩, ha⟩
theorem zMo.setW (h : zMo Γ V c md τ κ E) {i : Nat} (hi : i < 6) (l p m mk : Int) (hn : 0 ≤ p ∧ p ≤ l ∧ l ≤ τ (4 * i) ∧ ((m = -9 ∧ mk = -1) ∨ (m = mk ∧ 0 ≤ mk)) ∧ m ≤ p) : zMo Γ (zu V (md (70 + i)) (70 + i) (za Γ.2.1 0 5 (zr5 (κ (10 + i)) (τ (4 * i)) l p mk))) c md (zw4 τ i (τ (4 * i)) l p m) (zf κ (20 + i) mk) E ∧ zag (fun x => x ≠ 70 + i) V (zu V (md (70 + i)) (70 + i) (za Γ.2.1 0 5 (zr5 (κ (10 + i)) (τ (4 * i)) l p mk))) := by
  obtain ⟨h1, h2, h3, h4, h5, h6, h7, h8, n1, n2, n3⟩ := h
  have hw := h4 i hi
  have ha := zag.one (e' := za Γ.2.1 0 5 (zr5 (κ (10 + i)) (τ (4 * i)) l p mk)) hw.1
  have e : ∀ j, 24 ≤ j → zw4 τ i (τ (4 * i)) l p m j = τ j := fun j hj => by
    unfold zw4
    rw [if_neg (by omega), if_neg (by omega), if_neg (by omega), if_neg (by omega)]
  have ek : ∀ j, j < 20 → zf κ (20 + i) mk j = κ j := fun j hj => zf_ne (by omega)
  refine ⟨⟨?_, ?_, ha _ _ _ h3 (by omega), fun j hj => ?_, ?_, ?_, h7.kept ha (by omega), ?_, ?_, ?_, ?_⟩, ha⟩
  · unfold zTm
    rw [e 26 (by omega), e 28 (by omega), e 29 (by omega), e 36 (by omega), ek 0 (by omega)]
    exact ha _ _ _ h1 (by omega)
  · rw [ek 1 (by omega)]
    exact h2.kept ha (by omega)
  · by_cases hj2 : j = i
    · subst hj2
      rw [zw4_0, zw4_1, zw4_2, zw4_3, ek 0 (by omega), ek _ (by omega), zf_eq]
      exact ⟨zu_eq _ _ _ _, hw.2.1, hw.2.2.1, hn.1, hn.2.1, hn.2.2.1, hw.2.2.2.2.2.2.1, hn.2.2.2⟩
    · rw [zw4_ne0 hj2, zw4_ne hj2 (by omega), zw4_ne hj2 (by omega), zw4_ne hj2 (by omega), ek 0 (by omega), ek _ (by omega), zf_ne (by omega)]
      exact (h4 j hj).kept ha (by omega)
  · rw [e 24 (by omega)]
    exact h5.kept ha (by omega)
  · rw [e 25 (by omega)]
    exact h6.kept ha (by omega)
  · obtain ⟨f, k, k0, k1, k2, k3⟩ := h8
    exact ⟨f, ha _ _ _ k (by omega), by rw [e 30 (by omega)]; exact k0, by rw [e 31 (by omega)]; exact k1, by rw [e 32 (by omega)]; exact k2, by rw [e 33 (by omega)]; exact k3⟩
  · rw [ek 0 (by omega), ek 1 (by omega)]
    exact n1
  · rw [e 24 (by omega), e 25 (by omega)]
    exact n2
  · rw [e 26 (by omega), e 27 (by omega), e 28 (by omega), e 29 (by omega)]
    exact n3
theorem zMo.newB (h : zMo Γ V c md τ κ E) {q n : Nat} (hq : zAr Γ V 63 q n) (hn : n ≤ 80) : zMo Γ (zu V (c 60) 60 (zMc c (zmu md 63 q) (κ 0) (τ 26) (τ 28) (τ 29) (τ 36))) c (zmu md 63 q) (zf τ 24 n) κ E ∧ zag (fun x => x ≠ 60) V (zu V (c 60) 60 (zMc c (zmu md 63 q) (κ 0) (τ 26) (τ 28) (τ 29) (τ 36))) := by
  obtain ⟨h1, h2, h3, h4, h5, h6, h7, h8, n1, n2, n3⟩ := h
  have ha := zag.one (e' := zMc c (zmu md 63 q) (κ 0) (τ 26) (τ 28) (τ 29) (τ 36)) h1
  have e : ∀ j, j ≠ 24 → zf τ 24 n j = τ j := fun j hj => zf_ne hj
  refine ⟨⟨?_, h2.kept ha (by decide), ?_, fun i hi => ?_, ?_, ?_, h7.kept ha (by decide), ?_, n1, ?_, ?_⟩, ha⟩
  · unfold zTm
    rw [e 26 (by omega), e 28 (by omega), e 29 (by omega), e 36 (by omega)]
    exact zu_eq _ _ _ _
  · have e2 : (fun i => some (zmu md 63 q (70 + i))) = (fun i => some (md (70 + i))) := funext fun i => by rw [zmu_ne (by omega)]
    unfold zTi
    rw [e2]
    exact ha _ _ _ h3 (by decide)
  · have k := (h4 i hi).kept ha (by omega)
    rw [e _ (by omega), e _ (by omega), e _ (by omega), e _ (by omega), zmu_ne (by omega)]
    exact k
  · rw [zf_eq, Int.toNat_natCast]
    exact hq.kept ha (by decide)
  · rw [e 25 (by omega)]
    exact h6.kept ha (by decide)
  · obtain ⟨f, k, k0, k1, k2, k3⟩ := h8
    exact ⟨f, ha _ _ _ k (by decide), by rw [e 30 (by omega)]; exact k0, by rw [e 31 (by omega)]; exact k1, by rw [e 32 (by omega)]; exact k2, by rw [e 33 (by omega)]; exact k3⟩
  · rw [zf_eq, e 25 (by omega)]
    omega
  · rw [e 26 (by omega), e 27 (by omega), e 28 (by omega), e 29 (by omega)]
    exact n3
theorem zMo.newK (h : zMo Γ V c md τ κ E) {q n : Nat} (hq : zAr Γ V 64 q n) (hn : n ≤ 80) : zMo Γ (zu V (c 60) 60 (zMc c (zmu md 64 q) (κ 0) (τ 26) (τ 28) (τ 29) (τ 36))) c (zmu md 64 q) (zf τ 25 n) κ E ∧ zag (fun x => x ≠ 60) V (zu V (c 60) 60 (zMc c (zmu md 64 q) (κ 0) (τ 26) (τ 28) (τ 29) (τ 36))) := by
  obtain ⟨h1, h2, h3, h4, h5, h6, h7, h8, n1, n2, n3⟩ := h
  have ha := zag.one (e' := zMc c (zmu md 64 q) (κ 0) (τ 26) (τ 28) (τ 29) (τ 36)) h1
  have e : ∀ j, j ≠ 25 → zf τ 25 n j = τ j := fun j hj => zf_ne hj
  refine ⟨⟨?_, h2.kept ha (by decide), ?_, fun i hi => ?_, ?_, ?_, h7.kept ha (by decide), ?_, n1, ?_, ?_⟩, ha⟩
  · unfold zTm
    rw [e 26 (by omega), e 28 (by omega), e 29 (by omega), e 36 (by omega)]
    exact zu_eq _ _ _ _
  · have e2 : (fun i => some (zmu md 64 q (70 + i))) = (fun i => some (md (70 + i))) := funext fun i => by rw [zmu_ne (by omega)]
    unfold zTi
    rw [e2]
    exact ha _ _ _ h3 (by decide)
  · have k := (h4 i hi).kept ha (by omega)
    rw [e _ (by omega), e _ (by omega), e _ (by omega), e _ (by omega), zmu_ne (by omega)]
    exact k
  · rw [e 24 (by omega)]
    exact h5.kept ha (by decide)
  · rw [zf_eq, Int.toNat_natCast]
    exact hq.kept ha (by decide)
  · obtain ⟨f, k, k0, k1, k2, k3⟩ := h8
    exact ⟨f, ha _ _ _ k (by decide), by rw [e 30 (by omega)]; exact k0, by rw [e 31 (by omega)]; exact k1, by rw [e 32 (by omega)]; exact k2, by rw [e 33 (by omega)]; exact k3⟩
  · rw [zf_eq, e 24 (by omega)]
    omega
  · rw [e 26 (by omega), e 27 (by omega), e 28 (by omega), e 29 (by omega)]
    exact n3
/-- a window's row is another one -/
theorem zMo.newW (h : zMo Γ V c md τ κ E) {i q : Nat} (hi : i < 6) {cp l p m st mk : Int} (hq : zWm Γ V (70 + i) q (κ 0) cp l p m st mk) : zMo Γ (zu V (c 62) 62 (zq Γ.2.1 4 6 (zg (fun j => some (md (70 + j))) i q))) c (zmu md (70 + i) q) (zw4 τ i cp l p m) (zf (zf κ (10 + i) st) (20 + i) mk) E ∧ zag (fun x => x ≠ 62) V (zu V (c 62) 62 (zq Γ.2.1 4 6 (zg (fun j => some (md (70 + j))) i q))) := by
  obtain ⟨h1, h2, h3, h4, h5, h6, h7, h8, n1, n2, n3⟩ := h
  have ha := zag.one (e' := zq Γ.2.1 4 6 (zg (fun j => some (md (70 + j))) i q)) h3
  have e : ∀ j, 24 ≤ j → zw4 τ i cp l p m j = τ j := fun j hj => by
    unfold zw4
    rw [if_neg (by omega), if_neg (by omega), if_neg (by omega), if_neg (by omega)]
  have ek : ∀ j, j < 10 → zf (zf κ (10 + i) st) (20 + i) mk j = κ j := fun j hj => by rw [zf_ne (by omega), zf_ne (by omega)]
  refine ⟨⟨?_, ?_, ?_, fun j hj => ?_, ?_, ?_, h7.kept ha (by decide), ?_, ?_, ?_, ?_⟩, ha⟩
  · unfold zTm zMc
    rw [e 26 (by omega), e 28 (by omega), e 29 (by omega), e 36 (by omega), ek 0 (by omega), zmu_ne (by omega), zmu_ne (by omega), zmu_ne (by omega)]
    exact ha _ _ _ h1 (by decide)
  · rw [ek 1 (by omega), zmu_ne (by omega)]
    exact h2.kept ha (by decide)
  · have e2 : (fun j => some (zmu md (70 + i) q (70 + j))) = zg (fun j => some (md (70 + j))) i q := funext fun j => by
      unfold zg
      by_cases hj : j = i
      · rw [if_pos hj, hj, zmu_eq]
      · rw [if_neg hj, zmu_ne (by omega)]
    unfold zTi
    rw [e2]
    exact zu_eq _ _ _ _
  · by_cases hj2 : j = i
    · subst hj2
      rw [zw4_0, zw4_1, zw4_2, zw4_3, ek 0 (by omega), zmu_eq, zf_eq, zf_ne (by omega), zf_eq]
      exact hq.kept ha (by omega)
    · rw [zw4_ne0 hj2, zw4_ne hj2 (by omega), zw4_ne hj2 (by omega), zw4_ne hj2 (by omega), ek 0 (by omega), zmu_ne (by omega), zf_ne (by omega), zf_ne (by omega), zf_ne (by omega), zf_ne (by omega)]
      exact (h4 j hj).kept ha (by omega)
  · rw [e 24 (by omega), zmu_ne (by omega)]
    exact h5.kept ha (by decide)
  · rw [e 25 (by omega), zmu_ne (by omega)]
    exact h6.kept ha (by decide)
  · obtain ⟨f, k, k0, k1, k2, k3⟩ := h8
    exact ⟨f, ha _ _ _ k (by decide), by rw [e 30 (by omega)]; exact k0, by rw [e 31 (by omega)]; exact k1, by rw [e 32 (by omega)]; exact k2, by rw [e 33 (by omega)]; exact k3⟩
  · rw [ek 0 (by omega), ek 1 (by omega)]
    exact n1
  · rw [e 24 (by omega), e 25 (by omega)]
    exact n2
  · rw [e 26 (by omega), e 27 (by omega), e 28 (by omega), e 29 (by omega)]
    exact n3
/-- the end moves, the tape may be another one -/
theorem zMo.grow (h : zMo Γ V c md τ κ E) {q n : Nat} {en E' : Int} (hq : zAr Γ V 61 q n) (hn : κ 0 ≤ en ∧ en ≤ n ∧ en ≤ E' ∧ n ≤ 7000) : zMo Γ (zu V (c 60) 60 (zMc c (zmu md 61 q) en (τ 26) (τ 28) (τ 29) (τ 36))) c (zmu md 61 q) τ (zf (zf κ 0 en) 1 n) E' ∧ zag (fun x => x ≠ 60) V (zu V (c 60) 60 (zMc c (zmu md 61 q) en (τ 26) (τ 28) (τ 29) (τ 36))) := by
  obtain ⟨h1, h2, h3, h4, h5, h6, h7, h8, n1, n2, n3⟩ := h
  have ha := zag.one (e' := zMc c (zmu md 61 q) en (τ 26) (τ 28) (τ 29) (τ 36)) h1
  have e1 : zf (zf κ 0 en) 1 n 1 = (n : Int) := zf_eq
  have e0 : zf (zf κ 0 en) 1 n 0 = en := rfl
  refine ⟨⟨zu_eq _ _ _ _, ?_, ?_, fun i hi => ?_, h5.kept ha (by decide), h6.kept ha (by decide), h7.kept ha (by decide), h8.kept ha (by decide), ?_, n2, n3⟩, ha⟩
  · rw [e1, Int.toNat_natCast]
    exact hq.kept ha (by decide)
  · have e2 : (fun i => some (zmu md 61 q (70 + i))) = (fun i => some (md (70 + i))) := funext fun i => by rw [zmu_ne (by omega)]
    unfold zTi
    rw [e2]
    exact ha _ _ _ h3 (by decide)
  · have k := ((h4 i hi).kept ha (by omega)).more hn.1
    rw [zmu_ne (by omega), e0, zf_ne (by omega), zf_ne (by omega), zf_ne (by omega), zf_ne (by omega)]
    exact k
  · rw [e1, e0]
    omega
end ZTS
theorem zr_copyw {C : zC} {l0 : Launch} {Γ0 : zGam} {n0 : Nat} {own : String} {cc : ByteArray} {ws : List Cond} {d : Nat} {ret : Option FieldType} {Post : Option Value → zV → Prop} {V : zV} {kc ks pc : Nat} {lv : List (Nat × Value)} {rest : List Value} (X : zK C l0 Γ0 n0 own cc ws d ret Post) (n' : Nat) {index a0 a tg0 tg n0 n1 : Nat} {f g : Nat → Int} {sp dp n : Int} (h0 : V a0 = some (tg0, za Γ0.2.1 0 n0 f)) (h1 : V a = some (tg, za Γ0.2.1 0 n1 g)) (hlink : Cond.methodLink own index arraycopyName ∈ ws) (hnat : Cond.native arraycopyName ∈ ws) (hstat : Cond.static arraycopyName ∈ ws) (hini : Cond.initialized "java/lang/System" ∈ ws)
    (hr : 0 ≤ sp ∧ 0 ≤ dp ∧ 0 ≤ n ∧ sp + n ≤ n0 ∧ dp + n ≤ n1 ∧ n0 ≤ 100000 ∧ n1 ≤ 100000) (hd : 2 ≤ d) (hcat : (rest.map fun v => v.category).sum ≤ 8) (hdg : decode cc pc = .ok (.invokestatic index, 3)) (hn : pc + 3 = n') (kk : zG C (zu V a tg (za Γ0.2.1 0 n1 (zcp f g sp.toNat dp.toNat n.toNat))) kc ks n' lv rest) : zG C V kc ks pc lv (.int (zI n) :: .int (zI dp) :: .ref a :: .int (zI sp) :: .ref a0 :: rest) := by
  obtain ⟨⟨p, l, e, R, s, m, args, below, meth, c⟩, Γ, ⟨nL, mc, ms⟩, Q⟩ := C
  obtain ⟨hx, hb, hml, hown, hts, hO, hB0, hlk, hret, hmc, hms, hdf, hdl, hQ, rfl, rfl, rfl⟩ := X
  subst hn
  intro H locs cells slots ls hV hS hl hcc hs
  obtain ⟨W0, hL, hP, hD⟩ := hV
  obtain ⟨q0, hq0⟩ := (hL _ _).mp (zd_of h0)
  obtain ⟨q1, hq1⟩ := (hL _ _).mp (zd_of h1)
  have c1 : (zI sp).toNatClampNeg = sp.toNat := zI_clamp hr.1 (by omega)
  have c2 : (zI dp).toNatClampNeg = dp.toNat := zI_clamp hr.2.1 (by omega)
  have c3 : (zI n).toNatClampNeg = n.toNat := zI_clamp hr.2.2.1 (by omega)
  have ng : ∀ z : Int, 0 ≤ z → z ≤ 100000 → ¬ zI z < 0 := fun z hz hz2 => by rw [← zI_0, zI_lt (by omega) (by omega)]; omega
  refine va_copyi hx hb (hml.trans hl.1.symm) hown (hts _ hlink) (hts _ hnat) (hts _ hstat) (hts _ hini) hO.1 hP hD hS q0 q1 0 0 (ty := .int) hq0 hq1 rfl rfl rfl (ng _ hr.1 (by omega)) (ng _ hr.2.1 (by omega)) (ng _ hr.2.2.1 (by omega)) (by rw [c1, c3]; omega) (by rw [c2, c3]; omega) (fun i _ => rfl) (by omega) ?_ hdg (fun H1 locs1 hP1 hD1 hS1 => ?_)
  · have e : nativeFrameWords "java/lang/System" "arraycopy" 5 ≤ 60 := by decide +kernel
    omega
  · rw [c1, c2, c3] at hP1 hD1
    have e : va_cpy (fun j => zI (f j)) (fun j => zI (g j)) sp.toNat dp.toNat n.toNat = fun j => zI (zcp f g sp.toNat dp.toNat n.toNat j) := by
      funext j
      unfold va_cpy zcp
      split <;> rfl
    rw [e] at hP1 hD1
    exact kk H1 locs1 cells slots ls ⟨_, by rw [zd_zu]; exact hL.set hD hq1, hP1, hD1⟩ hS1 hl hcc hs
theorem zc_zcp {f g : Nat → Int} (hf : zc f) (hg : zc g) {a b n : Nat} : zc (zcp f g a b n) := by
  intro j
  unfold zcp
  split
  · exact hf _
  · exact hg _
end
section
/-! the model: its helpers -/
theorem zmf_36 {τ : Nat → Int} {k : Int} (h : τ 27 = τ 28 - τ 29) : zmf τ (τ 26) (τ 28) (τ 29) k = zf τ 36 k := by
  funext j
  unfold zmf zf
  by_cases h1 : j = 26
  · simp [h1]
  · by_cases h2 : j = 27
    · simp [h2, h]
    · by_cases h3 : j = 28
      · simp [h3]
      · by_cases h4 : j = 29
        · simp [h4]
        · simp [h1, h2, h3, h4]
theorem zdn_zf {τ : Nat → Int} : zf τ (30 + 0) (τ 30 + 1) = zdn τ := by
  funext j
  unfold zdn zx4 zf
  by_cases h1 : j = 30
  · simp [h1]
  · by_cases h2 : j = 31
    · simp [h2]
    · by_cases h3 : j = 32
      · simp [h3]
      · by_cases h4 : j = 33
        · simp [h4]
        · simp [h1, h2, h3, h4]
theorem zrf_zf {τ : Nat → Int} : zf τ (30 + 1) (τ 31 + 1) = zrf τ := by
  funext j
  unfold zrf zx4 zf
  by_cases h1 : j = 30
  · simp [h1]
  · by_cases h2 : j = 31
    · simp [h2]
    · by_cases h3 : j = 32
      · simp [h3]
      · by_cases h4 : j = 33
        · simp [h4]
        · simp [h1, h2, h3, h4]
theorem zv5_2 {V : zV} {a tg : Nat} {aC : Nat → ClassId} {x1 x2 x3 x4 x5 x : Int} : zu V a tg (za aC 0 5 (zf (zr5 x1 x2 x3 x4 x5) (2 : Int).toNat x)) = zu V a tg (za aC 0 5 (zr5 x1 x2 x x4 x5)) := by
  rw [show (2 : Int).toNat = 2 from rfl, zr5_2]
theorem zv5_3 {V : zV} {a tg : Nat} {aC : Nat → ClassId} {x1 x2 x3 x4 x5 x : Int} : zu V a tg (za aC 0 5 (zf (zr5 x1 x2 x3 x4 x5) (3 : Int).toNat x)) = zu V a tg (za aC 0 5 (zr5 x1 x2 x3 x x5)) := by
  rw [show (3 : Int).toNat = 3 from rfl, zr5_3]
theorem zv5_4 {V : zV} {a tg : Nat} {aC : Nat → ClassId} {x1 x2 x3 x4 x5 x : Int} : zu V a tg (za aC 0 5 (zf (zr5 x1 x2 x3 x4 x5) (4 : Int).toNat x)) = zu V a tg (za aC 0 5 (zr5 x1 x2 x3 x4 x)) := by
  rw [show (4 : Int).toNat = 4 from rfl, zr5_4]
theorem zv5_n {V : zV} {a tg : Nat} {aC : Nat → ClassId} {x1 x2 x3 x4 x5 : Int} : zu V a tg (za aC 0 5 (zf (zf (zf (zf (zf (fun _ => 0) (0 : Int).toNat x1) (1 : Int).toNat x2) (2 : Int).toNat x3) (3 : Int).toNat x4) (4 : Int).toNat x5)) = zu V a tg (za aC 0 5 (zr5 x1 x2 x3 x4 x5)) := congrArg (fun g => zu V a tg (za aC 0 5 g)) zr5_new
theorem znz {y : Int} (h : y = 0 ∨ y = 1) : narrow .boolean (.int (zI y)) = .int (zI y) := by
  rcases h with rfl | rfl <;> rfl
theorem zc.b {f : Nat → Int} (h : zc f) (j : Nat) : 0 ≤ f j ∧ f j ≤ 255 := h j
/-- what the model leaves as it is -/
def zfm (V V' : zV) : Prop := zag (fun t => t < 60 ∧ t ≠ 7) V V'
set_option maxRecDepth 100000 in
set_option maxHeartbeats 4000000 in
theorem m_X8_isNo (l : Launch) (Γ : zGam) {V : zV} {x a b : Int} (hx : -2147483648 ≤ x ∧ x ≤ 2147483647) (ha : -2147483648 ≤ a ∧ a ≤ 2147483647) (hb : -2147483648 ≤ b ∧ b ≤ 2147483647) : zM l Γ 0 yX8_isNo wsX8_isNo 0 0 V [.int (zI (x)), .int (zI (a)), .int (zI (b))] (fun rv V' => (∃ y : Int, rv = some (.int (zI y)) ∧ ((y = 0 ∧ a ≤ x ∧ x ≤ b) ∨ (y = 1 ∧ ¬ (a ≤ x ∧ x ≤ b)))) ∧ V' = V) := by
  refine zM_of (cc := cX8_isNo) (nL := 3) (ret := (some .boolean)) (own := RX8) (by decide +kernel) rfl rfl (Nat.le_of_ble_eq_true rfl) (fun C X hi0 => ?_)
  show zG C V 0 0 0 [(0, .int (zI (x))), (1, .int (zI (a))), (2, .int (zI (b)))] []
  refine zr_iload_n X 1 0 dX8_isNo_0 rfl rfl ?_
  refine zr_iload_n X 2 1 dX8_isNo_1 rfl rfl ?_
  refine zr_icmp_lt X 10 5 dX8_isNo_2 rfl rfl (by omega) (by omega) (fun bq1 => ?_) (fun bq1 => ?_)
  · refine zr_iconst X 11 dX8_isNo_10 rfl ?_
    refine zr_goto X 15 dX8_isNo_11 rfl ?_
    exact zr_zret X rfl rfl ⟨⟨1, rfl, by omega⟩, rfl⟩ dX8_isNo_15
  · refine zr_iload_n X 6 0 dX8_isNo_5 rfl rfl ?_
    refine zr_iload_n X 7 2 dX8_isNo_6 rfl rfl ?_
    refine zr_icmp_le X 14 10 dX8_isNo_7 rfl rfl (by omega) (by omega) (fun bq2 => ?_) (fun bq2 => ?_)
    · refine zr_iconst X 15 dX8_isNo_14 rfl ?_
      exact zr_zret X rfl rfl ⟨⟨0, rfl, by omega⟩, rfl⟩ dX8_isNo_15
    · refine zr_iconst X 11 dX8_isNo_10 rfl ?_
      refine zr_goto X 15 dX8_isNo_11 rfl ?_
      exact zr_zret X rfl rfl ⟨⟨1, rfl, by omega⟩, rfl⟩ dX8_isNo_15
set_option maxRecDepth 100000 in
set_option maxHeartbeats 4000000 in
theorem m_X8_isNoWindow (l : Launch) (Γ : zGam) {V : zV} {x : Int} (hx : -2147483648 ≤ x ∧ x ≤ 2147483647) : zM l Γ 1 yX8_isNoWindow wsX8_isNoWindow 0 0 V [.int (zI (x))] (fun rv V' => (∃ y : Int, rv = some (.int (zI y)) ∧ ((y = 0 ∧ 0 ≤ x ∧ x ≤ 5) ∨ (y = 1 ∧ ¬ (0 ≤ x ∧ x ≤ 5)))) ∧ V' = V) := by
  refine zM_of (cc := cX8_isNoWindow) (nL := 1) (ret := (some .boolean)) (own := RX8) (by decide +kernel) rfl rfl (Nat.le_of_ble_eq_true rfl) (fun C X hi0 => ?_)
  show zG C V 0 0 0 [(0, .int (zI (x)))] []
  refine zr_iload_n X 1 0 dX8_isNoWindow_0 rfl rfl ?_
  refine zr_iconst X 2 dX8_isNoWindow_1 rfl ?_
  refine zr_iconst X 3 dX8_isNoWindow_2 rfl ?_
  refine zr_callS (kc' := 0) (ks' := 0) X 6 3 (m_X8_isNo l Γ (V := V) (x := x) (a := 0) (b := 5) (by omega) (by omega) (by omega)) gX8_isNoWindow_X8_isNo rfl (by decide +kernel) rfl (by decide) rfl (Nat.le_of_ble_eq_true rfl) dX8_isNoWindow_3 rfl (by omega) (by omega) (fun rv1 V2 hp3 => ?_)
  obtain ⟨⟨no4, no4e, no4a⟩, no4v⟩ := hp3
  rw [no4e, no4v]
  show zG C V 0 0 6 [(0, .int (zI (x)))] [.int (zI (no4))]
  exact zr_zret X rfl (znz (by omega)) ⟨⟨no4, rfl, by omega⟩, rfl⟩ dX8_isNoWindow_6
set_option maxRecDepth 100000 in
set_option maxHeartbeats 4000000 in
theorem m_X8_isNoSource (l : Launch) (Γ : zGam) {V : zV} {x : Int} (hx : -2147483648 ≤ x ∧ x ≤ 2147483647) : zM l Γ 1 yX8_isNoSource wsX8_isNoSource 0 0 V [.int (zI (x))] (fun rv V' => (∃ y : Int, rv = some (.int (zI y)) ∧ ((y = 0 ∧ 0 ≤ x ∧ x ≤ 7) ∨ (y = 1 ∧ ¬ (0 ≤ x ∧ x ≤ 7)))) ∧ V' = V) := by
  refine zM_of (cc := cX8_isNoSource) (nL := 1) (ret := (some .boolean)) (own := RX8) (by decide +kernel) rfl rfl (Nat.le_of_ble_eq_true rfl) (fun C X hi0 => ?_)
  show zG C V 0 0 0 [(0, .int (zI (x)))] []
  refine zr_iload_n X 1 0 dX8_isNoSource_0 rfl rfl ?_
  refine zr_iconst X 2 dX8_isNoSource_1 rfl ?_
  refine zr_bipush X 4 (7) dX8_isNoSource_2 rfl (by decide) ?_
  refine zr_callS (kc' := 0) (ks' := 0) X 7 3 (m_X8_isNo l Γ (V := V) (x := x) (a := 0) (b := 7) (by omega) (by omega) (by omega)) gX8_isNoSource_X8_isNo rfl (by decide +kernel) rfl (by decide) rfl (Nat.le_of_ble_eq_true rfl) dX8_isNoSource_4 rfl (by omega) (by omega) (fun rv1 V2 hp3 => ?_)
  obtain ⟨⟨no4, no4e, no4a⟩, no4v⟩ := hp3
  rw [no4e, no4v]
  show zG C V 0 0 7 [(0, .int (zI (x)))] [.int (zI (no4))]
  exact zr_zret X rfl (znz (by omega)) ⟨⟨no4, rfl, by omega⟩, rfl⟩ dX8_isNoSource_7
set_option maxRecDepth 100000 in
set_option maxHeartbeats 4000000 in
theorem m_X8_length (l : Launch) (Γ : zGam) {V : zV} {w tg : Nat} {st cp li po mk : Int} (hw : V w = some (tg, za Γ.2.1 0 5 (zr5 st cp li po mk))) (hr : 0 ≤ po ∧ po ≤ li ∧ li ≤ 40) : zM l Γ 0 yX8_length wsX8_length 0 0 V [.ref w] (fun rv V' => rv = some (.int (zI (li - po))) ∧ V' = V) := by
  refine zM_of (cc := cX8_length) (nL := 1) (ret := (some .int)) (own := RX8) (by decide +kernel) rfl rfl (Nat.le_of_ble_eq_true rfl) (fun C X hi0 => ?_)
  show zG C V 0 0 0 [(0, .ref w)] []
  refine zr_aload_n X 1 0 dX8_length_0 rfl rfl ?_
  refine zr_iconst X 2 dX8_length_1 rfl ?_
  refine zr_iald X 3 hw (by omega) dX8_length_2 rfl ?_
  show zG C V 0 0 3 [(0, .ref w)] [.int (zI (li))]
  refine zr_aload_n X 4 0 dX8_length_3 rfl rfl ?_
  refine zr_iconst X 5 dX8_length_4 rfl ?_
  refine zr_iald X 6 hw (by omega) dX8_length_5 rfl ?_
  show zG C V 0 0 6 [(0, .ref w)] [.int (zI (po)), .int (zI (li))]
  refine zr_isub X 7 dX8_length_6 rfl ?_
  exact zr_iret X rfl ⟨rfl, rfl⟩ dX8_length_7
set_option maxRecDepth 100000 in
set_option maxHeartbeats 4000000 in
theorem m_X8_markOf (l : Launch) (Γ : zGam) {V : zV} {w tg : Nat} {st cp li po mk : Int} (hw : V w = some (tg, za Γ.2.1 0 5 (zr5 st cp li po mk))) (hr : 0 ≤ po ∧ po ≤ li ∧ li ≤ 40) (hmk : -1 ≤ mk ∧ mk ≤ 40) : zM l Γ 0 yX8_markOf wsX8_markOf 0 0 V [.ref w] (fun rv V' => (∃ y : Int, rv = some (.int (zI y)) ∧ ((mk < 0 ∧ y = -9) ∨ (0 ≤ mk ∧ y = mk))) ∧ V' = V) := by
  refine zM_of (cc := cX8_markOf) (nL := 1) (ret := (some .int)) (own := RX8) (by decide +kernel) rfl rfl (Nat.le_of_ble_eq_true rfl) (fun C X hi0 => ?_)
  show zG C V 0 0 0 [(0, .ref w)] []
  refine zr_aload_n X 1 0 dX8_markOf_0 rfl rfl ?_
  refine zr_iconst X 2 dX8_markOf_1 rfl ?_
  refine zr_iald X 3 hw (by omega) dX8_markOf_2 rfl ?_
  show zG C V 0 0 3 [(0, .ref w)] [.int (zI (mk))]
  refine zr_if_ge X 11 6 dX8_markOf_3 rfl rfl (by omega) (fun bq1 => ?_) (fun bq1 => ?_)
  · refine zr_aload_n X 12 0 dX8_markOf_11 rfl rfl ?_
    refine zr_iconst X 13 dX8_markOf_12 rfl ?_
    refine zr_iald X 14 hw (by omega) dX8_markOf_13 rfl ?_
    show zG C V 0 0 14 [(0, .ref w)] [.int (zI (mk))]
    exact zr_iret X rfl ⟨⟨mk, rfl, by omega⟩, rfl⟩ dX8_markOf_14
  · refine zr_bipush X 8 (-9) dX8_markOf_6 rfl (by decide) ?_
    refine zr_goto X 14 dX8_markOf_8 rfl ?_
    exact zr_iret X rfl ⟨⟨-9, rfl, by omega⟩, rfl⟩ dX8_markOf_14
set_option maxRecDepth 100000 in
set_option maxHeartbeats 4000000 in
theorem m_X8_place (l : Launch) (Γ : zGam) {V : zV} {w tg : Nat} {st cp li po mk : Int} {p1 l1 m1 : Int} (hw : V w = some (tg, za Γ.2.1 0 5 (zr5 st cp li po mk))) (hr : 0 ≤ po ∧ po ≤ li ∧ li ≤ 40) : zM l Γ 0 yX8_place wsX8_place 0 0 V [.ref w, .int (zI (p1)), .int (zI (l1)), .int (zI (m1))] (fun rv V' => rv = none ∧ V' = zu V w tg (za Γ.2.1 0 5 (zr5 st cp l1 p1 m1))) := by
  refine zM_of (cc := cX8_place) (nL := 4) (ret := none) (own := RX8) (by decide +kernel) rfl rfl (Nat.le_of_ble_eq_true rfl) (fun C X hi0 => ?_)
  show zG C V 0 0 0 [(0, .ref w), (1, .int (zI (p1))), (2, .int (zI (l1))), (3, .int (zI (m1)))] []
  refine zr_aload_n X 1 0 dX8_place_0 rfl rfl ?_
  refine zr_iconst X 2 dX8_place_1 rfl ?_
  refine zr_iload_n X 3 1 dX8_place_2 rfl rfl ?_
  refine zr_iast X 4 hw (by omega) dX8_place_3 rfl ?_
  refine zr_view zv5_3 ?_
  show zG C (zu V w tg (za Γ.2.1 0 5 (zr5 st cp li p1 mk))) 0 0 4 [(0, .ref w), (1, .int (zI (p1))), (2, .int (zI (l1))), (3, .int (zI (m1)))] []
  refine zr_aload_n X 5 0 dX8_place_4 rfl rfl ?_
  refine zr_iconst X 6 dX8_place_5 rfl ?_
  refine zr_iload_n X 7 2 dX8_place_6 rfl rfl ?_
  refine zr_iast X 8 (zu_eq _ _ _ _) (by omega) dX8_place_7 rfl ?_
  refine zr_view zv5_2 ?_
  refine zr_view (zu_zu _ _ _ _ _ _) ?_
  show zG C (zu V w tg (za Γ.2.1 0 5 (zr5 st cp l1 p1 mk))) 0 0 8 [(0, .ref w), (1, .int (zI (p1))), (2, .int (zI (l1))), (3, .int (zI (m1)))] []
  refine zr_aload_n X 9 0 dX8_place_8 rfl rfl ?_
  refine zr_iconst X 10 dX8_place_9 rfl ?_
  refine zr_iload_n X 11 3 dX8_place_10 rfl rfl ?_
  refine zr_iast X 12 (zu_eq _ _ _ _) (by omega) dX8_place_11 rfl ?_
  refine zr_view zv5_4 ?_
  refine zr_view (zu_zu _ _ _ _ _ _) ?_
  show zG C (zu V w tg (za Γ.2.1 0 5 (zr5 st cp l1 p1 m1))) 0 0 12 [(0, .ref w), (1, .int (zI (p1))), (2, .int (zI (l1))), (3, .int (zI (m1)))] []
  exact zr_vret X rfl ⟨rfl, rfl⟩ dX8_place_12
set_option maxRecDepth 100000 in
set_option maxHeartbeats 4000000 in
theorem m_X8_letter (l : Launch) (Γ : zGam) {V : zV} {x k : Int} (hx : 0 ≤ x ∧ x ≤ 2147483647) (hk : 0 ≤ k ∧ k ≤ 1000) : zM l Γ 0 yX8_letter wsX8_letter 0 0 V [.int (zI (x)), .int (zI (k))] (fun rv V' => (∃ y : Int, rv = some (.int (zI y)) ∧ 97 ≤ y ∧ y ≤ 99) ∧ V' = V) := by
  refine zM_of (cc := cX8_letter) (nL := 4) (ret := (some .int)) (own := RX8) (by decide +kernel) rfl rfl (Nat.le_of_ble_eq_true rfl) (fun C X hi0 => ?_)
  show zG C V 0 0 0 [(0, .int (zI (x))), (1, .int (zI (k)))] []
  refine zr_iload_n X 1 0 dX8_letter_0 rfl rfl ?_
  refine zr_istore_n X 2 [(2, .int (zI (x))), (0, .int (zI (x))), (1, .int (zI (k)))] dX8_letter_1 rfl (by decide) rfl ?_
  refine zr_iconst X 3 dX8_letter_2 rfl ?_
  refine zr_istore_n X 4 [(3, .int (zI (0))), (2, .int (zI (x))), (0, .int (zI (x))), (1, .int (zI (k)))] dX8_letter_3 rfl (by decide) rfl ?_
  refine zr_sub [0, 1, 3, 2] [(3, .int (zI (0))), (2, .int (zI (x))), (1, .int (zI (k))), (0, .int (zI (x)))] rfl ?_
  have loop : ∀ (N : Nat) (x1 : Int) (j : Int), 0 ≤ x1 ∧ x1 ≤ 2147483647 ∧ 0 ≤ j ∧ j ≤ k → (k - j).toNat = N → zG C V 0 0 4 [(3, .int (zI (j))), (2, .int (zI (x1))), (1, .int (zI (k))), (0, .int (zI (x)))] [] := by
    intro N
    induction N using Nat.strongRecOn with
    | _ N ih =>
    intro x1 j hI hN
    obtain ⟨hI1, hI2, hI3, hI4⟩ := id hI
    refine zr_iload_n X 5 0 dX8_letter_4 rfl rfl ?_
    refine zr_iload_n X 6 2 dX8_letter_5 rfl rfl ?_
    refine zr_icmp_ge X 19 9 dX8_letter_6 rfl rfl (by omega) (by omega) (fun bq1 => ?_) (fun bq1 => ?_)
    · refine zr_bipush X 21 (97) dX8_letter_19 rfl (by decide) ?_
      refine zr_iload_n X 22 1 dX8_letter_21 rfl rfl ?_
      refine zr_iconst X 23 dX8_letter_22 rfl ?_
      refine zr_irem X 24 dX8_letter_23 rfl (by omega) (by omega) ?_
      refine zr_iadd X 25 dX8_letter_24 rfl ?_
      exact zr_iret X rfl ⟨⟨97 + (x1 % 3), rfl, by omega, by omega⟩, rfl⟩ dX8_letter_25
    · refine zr_iload_n X 10 1 dX8_letter_9 rfl rfl ?_
      refine zr_iconst X 11 dX8_letter_10 rfl ?_
      refine zr_idiv X 12 dX8_letter_11 rfl (by omega) (by omega) ?_
      refine zr_istore_n X 13 [(2, .int (zI (x1 / 3))), (3, .int (zI (j))), (1, .int (zI (k))), (0, .int (zI (x)))] dX8_letter_12 rfl (by decide) rfl ?_
      refine zr_iinc X 16 1 [(3, .int (zI (j + 1))), (2, .int (zI (x1 / 3))), (1, .int (zI (k))), (0, .int (zI (x)))] dX8_letter_13 rfl rfl (by decide) rfl ?_
      refine zr_goto X 4 dX8_letter_16 rfl ?_
      exact ih _ (by omega) (x1 / 3) (j + 1) ⟨by omega, by omega, by omega, by omega⟩ rfl
  exact loop _ x 0 ⟨by omega, by omega, by omega, by omega⟩ rfl
set_option maxRecDepth 100000 in
set_option maxHeartbeats 4000000 in
theorem m_X8_told (l : Launch) (Γ : zGam) {V : zV}{a ta n : Nat} {f : Nat → Int} {fr to : Int} (ha : V a = some (ta, za Γ.2.1 0 n f)) (hac : zc f) (han : n ≤ 200) (h7 : ta ≠ 7) (hft : 0 ≤ fr ∧ fr ≤ 200 ∧ to ≤ n ∧ -1000 ≤ to ∧ to - fr ≤ 160) : zM l Γ 8 yX8_told wsX8_told 3010 6300 V [.ref a, .int (zI (fr)), .int (zI (to))] (fun rv V' => ∃ z : Nat, rv = some (.ref z) ∧ zfr V V') := by
  have w0 : Cond.classLink RX8 66 RJ4 ∈ wsX8_told := by decide +kernel
  have w1 : Cond.instantiable RJ4 4 ∈ wsX8_told := by decide +kernel
  have w2 : Cond.initialized RJ4 ∈ wsX8_told := by decide +kernel
  have iJ4 : ∀ w ∈ u_ws RJ4 TJ4 4, w ∈ wsX8_told := by decide +kernel
  have w4 : Cond.initialized yJ4_init_da8c8.cls ∈ wsX8_told := by decide +kernel
  have w5 : Cond.methodLink RX8 68 yJ4_init_da8c8 ∈ wsX8_told := by decide +kernel
  have w6 : Cond.instanceMethod yJ4_init_da8c8 ∈ wsX8_told := by decide +kernel
  refine zM_of (cc := cX8_told) (nL := 5) (ret := (some (.object "java/lang/String"))) (own := RX8) (by decide +kernel) rfl rfl (Nat.le_of_ble_eq_true rfl) (fun C X hi0 => ?_)
  show zG C V 3010 6300 0 [(0, .ref a), (1, .int (zI (fr))), (2, .int (zI (to)))] []
  refine zr_new (kc' := (3010 - 1)) (ks' := (6300 - 4)) X 3 1 7 [.null, .int (zI (0)), .int (zI (0)), .int (zI (0))] tyJ4 rfl iJ4 tyJ4_ok w0 w1 w2 (zdf_J4) dX8_told_0 rfl (by omega) (by omega) (fun q1 hq2 => ?_)
  refine zr_dup X 4 dX8_told_3 rfl rfl ?_
  refine zr_callI (kc' := (3010 - 1) - 1) (ks' := (6300 - 4) - 16) X 7 0 (m_J4_init_da8c8 l Γ (zu_eq _ _ _ _)) gX8_told_J4_init_da8c8 rfl w4 w5 w6 rfl (by decide +kernel) rfl (by decide) rfl (Nat.le_of_ble_eq_true rfl) dX8_told_4 rfl (by omega) (by omega) (fun rv3 V4 hp5 => ?_)
  obtain ⟨hp5e, hp5b, hp5f⟩ := hp5
  rw [hp5e]
  have ff6 : zfr V V4 := zag.tr (P := fun t => t ≠ 7) (zag.rf.new hq2) hp5f
  have ff7 := zag.tr (P := fun t => t ≠ 7) zag.rf ff6
  show zG C V4 ((3010 - 1) - 1) ((6300 - 4) - 16) 7 [(0, .ref a), (1, .int (zI (fr))), (2, .int (zI (to)))] [.ref q1]
  refine zr_astore_n X 8 [(3, .ref q1), (0, .ref a), (1, .int (zI (fr))), (2, .int (zI (to)))] dX8_told_7 rfl (by decide) rfl ?_
  refine zr_iload_n X 9 2 dX8_told_8 rfl rfl ?_
  refine zr_istore X 11 [(4, .int (zI (fr))), (3, .ref q1), (0, .ref a), (1, .int (zI (fr))), (2, .int (zI (to)))] dX8_told_9 rfl (by decide) rfl ?_
  refine zr_room (3002 - 16) (6200 - 2 * 16) (by omega) (by omega) ?_
  have hb8 : zSB Γ V4 q1 (fr - fr) 16 := by
    rw [Int.sub_self]
    exact hp5b
  refine zr_sub [0, 1, 4, 3, 2] [(4, .int (zI (fr))), (3, .ref q1), (2, .int (zI (to))), (1, .int (zI (fr))), (0, .ref a)] rfl ?_
  have loop : ∀ (N : Nat) (V1 : zV) (k : Int) (cap : Nat), zSB Γ V1 q1 (k - fr) cap ∧ zfr V V1 ∧ fr ≤ k ∧ (k ≤ to ∨ k = fr) ∧ 16 ≤ cap ∧ cap ≤ 900 → (to - k).toNat = N → zG C V1 (3002 - cap) (6200 - 2 * cap) 11 [(4, .int (zI (k))), (3, .ref q1), (2, .int (zI (to))), (1, .int (zI (fr))), (0, .ref a)] [] := by
    intro N
    induction N using Nat.strongRecOn with
    | _ N ih =>
    intro V1 k cap hI hN
    obtain ⟨hI1, hI2, hI3, hI4, hI5, hI6⟩ := id hI
    have ha1 := hI2 _ _ _ ha h7
    refine zr_iload X 13 0 dX8_told_11 rfl rfl ?_
    refine zr_iload_n X 14 2 dX8_told_13 rfl rfl ?_
    refine zr_icmp_ge X 33 17 dX8_told_14 rfl rfl (by omega) (by omega) (fun bq9 => ?_) (fun bq9 => ?_)
    · refine zr_aload_n X 34 1 dX8_told_33 rfl rfl ?_
      have hp12r := hI1.rg
      refine zr_callVe (kc' := 3002 - cap - 2) (ks' := 6200 - 2 * cap - ((k - fr).toNat + 4)) X 37 0 (zsb_str l Γ hI1) gX8_told_J4_toString_0e30d rfl (by decide +kernel) rfl (by decide) hI1.cl rfl rfl (Nat.le_of_ble_eq_true rfl) dX8_told_34 rfl (by omega) (by omega) (fun rv10 V11 hp12 => ?_)
      obtain ⟨hp12z, hp12e, hp12n, hp12f⟩ := hp12
      rw [hp12e]
      have ff13 := zag.tr (P := fun t => t ≠ 7) hI2 hp12f
      show zG C V11 (3002 - cap - 2) (6200 - 2 * cap - ((k - fr).toNat + 4)) 37 [(4, .int (zI (k))), (3, .ref q1), (2, .int (zI (to))), (1, .int (zI (fr))), (0, .ref a)] [.ref hp12z]
      exact zr_aret X rfl (Or.inl ⟨_, rfl⟩) ⟨_, rfl, ff13⟩ dX8_told_37
    · refine zr_aload_n X 18 1 dX8_told_17 rfl rfl ?_
      refine zr_aload_n X 19 4 dX8_told_18 rfl rfl ?_
      refine zr_iload X 21 0 dX8_told_19 rfl rfl ?_
      refine zr_iald X 22 ha1 (by omega) dX8_told_21 rfl ?_
      have zb14 := zc.b hac (k).toNat
      refine zr_i2cI X 23 dX8_told_22 rfl (by omega) ?_
      have gr18r := hI1.rg
      obtain ⟨gr18p, gr18c, gr18k, gr18⟩ := zgrow1w (k - fr) cap (by omega)
      refine zr_callVe (kc' := 3002 - cap - gr18c) (ks' := 6200 - 2 * cap - gr18k) X 26 1 (zsb_app_c l Γ hI1 (x := (f (k).toNat)) (by omega) gr18) gX8_told_J4_append_cf468 rfl (by decide +kernel) rfl (by decide) hI1.cl rfl rfl (Nat.le_of_ble_eq_true rfl) dX8_told_23 rfl (by omega) (by omega) (fun rv15 V16 hp17 => ?_)
      obtain ⟨hp17e, hp17b, hp17f⟩ := hp17
      rw [hp17e]
      have gr18s := hp17b.rg
      have ff19 := zag.tr (P := fun t => t ≠ 7) hI2 hp17f
      show zG C V16 (3002 - cap - gr18c) (6200 - 2 * cap - gr18k) 26 [(4, .int (zI (k))), (3, .ref q1), (2, .int (zI (to))), (1, .int (zI (fr))), (0, .ref a)] [.ref q1]
      refine zr_pop X 27 dX8_told_26 rfl rfl ?_
      refine zr_iinc X 30 0 [(4, .int (zI (k + 1))), (3, .ref q1), (2, .int (zI (to))), (1, .int (zI (fr))), (0, .ref a)] dX8_told_27 rfl rfl (by decide) rfl ?_
      refine zr_goto X 11 dX8_told_30 rfl ?_
      refine zr_room (3002 - gr18p) (6200 - 2 * gr18p) (by omega) (by omega) ?_
      have hb20 : zSB Γ V16 q1 (k + 1 - fr) gr18p := by
        rw [show k + 1 - fr = k - fr + 1 by omega]
        exact hp17b
      exact ih _ (by omega) V16 (k + 1) gr18p ⟨hb20, ff19, by omega, by omega, by omega, by omega⟩ rfl
  exact loop _ V4 fr 16 ⟨hb8, ff7, by omega, by omega, by omega, by omega⟩ rfl
set_option maxRecDepth 100000 in
set_option maxHeartbeats 4000000 in
theorem m_X8_joined (l : Launch) (Γ : zGam) {V : zV}{a ta n : Nat} {f : Nat → Int} {b tb m : Nat} {h : Nat → Int} {tg : Nat} (ha : V a = some (ta, za Γ.2.1 0 n f)) (hac : zc f) (han : n ≤ 200) (hb : V b = some (tb, za Γ.2.1 0 m h)) (hbc : zc h) (hbn : m ≤ 200) : zM l Γ 0 yX8_joined wsX8_joined 1 (n + m) V [.ref a, .ref b] (fun rv V' => ∃ (q : Nat) (f' : Nat → Int), rv = some (.ref q) ∧ V' q = some (tg, za Γ.2.1 0 (n + m) f') ∧ zc f' ∧ zag zal V V') := by
  have w0 : Cond.arrayClass .int ∈ wsX8_joined := by decide +kernel
  refine zM_of (cc := cX8_joined) (nL := 4) (ret := (some (.array .int))) (own := RX8) (by decide +kernel) rfl rfl (Nat.le_of_ble_eq_true rfl) (fun C X hi0 => ?_)
  show zG C V 1 (n + m) 0 [(0, .ref a), (1, .ref b)] []
  refine zr_aload_n X 1 0 dX8_joined_0 rfl rfl ?_
  refine zr_alen X 2 0 ha (by decide) dX8_joined_1 rfl ?_
  refine zr_aload_n X 3 1 dX8_joined_2 rfl rfl ?_
  refine zr_alen X 4 0 hb (by decide) dX8_joined_3 rfl ?_
  refine zr_iadd X 5 dX8_joined_4 rfl ?_
  refine zr_newai (kc' := (1 - 1)) (ks' := ((n + m) - ((n : Nat) + (m : Nat) : Int).toNat)) X 7 tg w0 (by omega) dX8_joined_5 rfl (by omega) (by omega) (fun q1 hq2 => ?_)
  refine zr_astore_n X 8 [(2, .ref q1), (0, .ref a), (1, .ref b)] dX8_joined_7 rfl (by decide) rfl ?_
  refine zr_iconst X 9 dX8_joined_8 rfl ?_
  refine zr_istore_n X 10 [(3, .int (zI (0))), (2, .ref q1), (0, .ref a), (1, .ref b)] dX8_joined_9 rfl (by decide) rfl ?_
  refine zr_view (V' := zu V q1 tg (za Γ.2.1 0 (n + m) (fun _ => 0))) (by rw [show ((n : Int) + (m : Int)).toNat = n + m by omega]) ?_
  refine zr_sub [0, 1, 3, 2] [(3, .int (zI (0))), (2, .ref q1), (1, .ref b), (0, .ref a)] rfl ?_
  have loop : ∀ (N : Nat) (f1 : Nat → Int) (k : Int), zc f1 ∧ 0 ≤ k ∧ k ≤ ((n + m : Nat) : Int) → (((n + m : Nat) : Int) - k).toNat = N → zG C (zu V q1 tg (za Γ.2.1 0 (n + m) f1)) (1 - 1) ((n + m) - ((n : Nat) + (m : Nat) : Int).toNat) 10 [(3, .int (zI (k))), (2, .ref q1), (1, .ref b), (0, .ref a)] [] := by
    intro N
    induction N using Nat.strongRecOn with
    | _ N ih =>
    intro f1 k hI hN
    obtain ⟨hI1, hI2, hI3⟩ := id hI
    refine zr_iload_n X 11 0 dX8_joined_10 rfl rfl ?_
    refine zr_aload_n X 12 1 dX8_joined_11 rfl rfl ?_
    refine zr_alen X 13 0 (zu_eq _ _ _ _) (by decide) dX8_joined_12 rfl ?_
    refine zr_icmp_ge X 43 16 dX8_joined_13 rfl rfl (by omega) (by omega) (fun bq3 => ?_) (fun bq3 => ?_)
    · refine zr_aload_n X 44 1 dX8_joined_43 rfl rfl ?_
      exact zr_aret X rfl (Or.inr ⟨_, rfl⟩) ⟨q1, f1, rfl, zu_eq _ _ _ _, hI1, zag.rf.new hq2⟩ dX8_joined_44
    · refine zr_aload_n X 17 1 dX8_joined_16 rfl rfl ?_
      refine zr_iload_n X 18 0 dX8_joined_17 rfl rfl ?_
      refine zr_iload_n X 19 0 dX8_joined_18 rfl rfl ?_
      refine zr_aload_n X 20 3 dX8_joined_19 rfl rfl ?_
      refine zr_alen X 21 0 ((zu_ne (zne_new ha hq2)).trans ha) (by decide) dX8_joined_20 rfl ?_
      refine zr_icmp_ge X 30 24 dX8_joined_21 rfl rfl (by omega) (by omega) (fun bq4 => ?_) (fun bq4 => ?_)
      · refine zr_aload_n X 31 2 dX8_joined_30 rfl rfl ?_
        refine zr_iload_n X 32 0 dX8_joined_31 rfl rfl ?_
        refine zr_aload_n X 33 3 dX8_joined_32 rfl rfl ?_
        refine zr_alen X 34 0 ((zu_ne (zne_new ha hq2)).trans ha) (by decide) dX8_joined_33 rfl ?_
        refine zr_isub X 35 dX8_joined_34 rfl ?_
        refine zr_iald X 36 ((zu_ne (zne_new hb hq2)).trans hb) (by omega) dX8_joined_35 rfl ?_
        have zb5 := zc.b hbc (k - (n : Nat)).toNat
        refine zr_iast X 37 (zu_eq _ _ _ _) (by omega) dX8_joined_36 rfl ?_
        refine zr_view (zu_zu _ _ _ _ _ _) ?_
        refine zr_iinc X 40 0 [(3, .int (zI (k + 1))), (2, .ref q1), (1, .ref b), (0, .ref a)] dX8_joined_37 rfl rfl (by decide) rfl ?_
        refine zr_goto X 10 dX8_joined_40 rfl ?_
        exact ih _ (by omega) (zf f1 (k).toNat (h (k - (n : Nat)).toNat)) (k + 1) ⟨zc_zf hI1 (by omega), by omega, by omega⟩ rfl
      · refine zr_aload_n X 25 3 dX8_joined_24 rfl rfl ?_
        refine zr_iload_n X 26 0 dX8_joined_25 rfl rfl ?_
        refine zr_iald X 27 ((zu_ne (zne_new ha hq2)).trans ha) (by omega) dX8_joined_26 rfl ?_
        have zb6 := zc.b hac (k).toNat
        refine zr_goto X 36 dX8_joined_27 rfl ?_
        refine zr_iast X 37 (zu_eq _ _ _ _) (by omega) dX8_joined_36 rfl ?_
        refine zr_view (zu_zu _ _ _ _ _ _) ?_
        refine zr_iinc X 40 0 [(3, .int (zI (k + 1))), (2, .ref q1), (1, .ref b), (0, .ref a)] dX8_joined_37 rfl rfl (by decide) rfl ?_
        refine zr_goto X 10 dX8_joined_40 rfl ?_
        exact ih _ (by omega) (zf f1 (k).toNat (f (k).toNat)) (k + 1) ⟨zc_zf hI1 (by omega), by omega, by omega⟩ rfl
  exact loop _ (fun _ => 0) 0 ⟨z0c, by omega, by omega⟩ rfl
set_option maxRecDepth 100000 in
set_option maxHeartbeats 4000000 in
theorem m_X8_lies (l : Launch) (Γ : zGam) {V : zV}{a ta n : Nat} {f : Nat → Int} {b tb m : Nat} {h : Nat → Int} {p : Int} (ha : V a = some (ta, za Γ.2.1 0 n f)) (hac : zc f) (han : n ≤ 200) (hb : V b = some (tb, za Γ.2.1 0 m h)) (hbc : zc h) (hbn : m ≤ 200) (hp : 0 ≤ p ∧ p ≤ 1000) : zM l Γ 0 yX8_lies wsX8_lies 0 0 V [.ref a, .ref b, .int (zI (p))] (fun rv V' => (∃ y : Int, rv = some (.int (zI y)) ∧ (y = 0 ∨ y = 1)) ∧ V' = V) := by
  refine zM_of (cc := cX8_lies) (nL := 4) (ret := (some .boolean)) (own := RX8) (by decide +kernel) rfl rfl (Nat.le_of_ble_eq_true rfl) (fun C X hi0 => ?_)
  show zG C V 0 0 0 [(0, .ref a), (1, .ref b), (2, .int (zI (p)))] []
  refine zr_iload_n X 1 2 dX8_lies_0 rfl rfl ?_
  refine zr_aload_n X 2 1 dX8_lies_1 rfl rfl ?_
  refine zr_alen X 3 0 hb (by decide) dX8_lies_2 rfl ?_
  refine zr_iadd X 4 dX8_lies_3 rfl ?_
  refine zr_aload_n X 5 0 dX8_lies_4 rfl rfl ?_
  refine zr_alen X 6 0 ha (by decide) dX8_lies_5 rfl ?_
  refine zr_icmp_le X 11 9 dX8_lies_6 rfl rfl (by omega) (by omega) (fun bq1 => ?_) (fun bq1 => ?_)
  · refine zr_iconst X 12 dX8_lies_11 rfl ?_
    refine zr_istore_n X 13 [(3, .int (zI (0))), (0, .ref a), (1, .ref b), (2, .int (zI (p)))] dX8_lies_12 rfl (by decide) rfl ?_
    refine zr_sub [0, 3, 2, 1] [(3, .int (zI (0))), (2, .int (zI (p))), (1, .ref b), (0, .ref a)] rfl ?_
    have loop : ∀ (N : Nat) (k : Int), 0 ≤ k ∧ k ≤ (m : Int) → ((m : Int) - k).toNat = N → zG C V 0 0 13 [(3, .int (zI (k))), (2, .int (zI (p))), (1, .ref b), (0, .ref a)] [] := by
      intro N
      induction N using Nat.strongRecOn with
      | _ N ih =>
      intro k hI hN
      obtain ⟨hI1, hI2⟩ := id hI
      refine zr_iload_n X 14 0 dX8_lies_13 rfl rfl ?_
      refine zr_aload_n X 15 2 dX8_lies_14 rfl rfl ?_
      refine zr_alen X 16 0 hb (by decide) dX8_lies_15 rfl ?_
      refine zr_icmp_ge X 36 19 dX8_lies_16 rfl rfl (by omega) (by omega) (fun bq2 => ?_) (fun bq2 => ?_)
      · refine zr_iload_n X 37 0 dX8_lies_36 rfl rfl ?_
        refine zr_aload_n X 38 2 dX8_lies_37 rfl rfl ?_
        refine zr_alen X 39 0 hb (by decide) dX8_lies_38 rfl ?_
        refine zr_icmp_ne X 46 42 dX8_lies_39 rfl rfl (by omega) (by omega) (fun bq3 => ?_) (fun bq3 => ?_)
        · refine zr_iconst X 47 dX8_lies_46 rfl ?_
          exact zr_zret X rfl rfl ⟨⟨0, rfl, by omega⟩, rfl⟩ dX8_lies_47
        · refine zr_iconst X 43 dX8_lies_42 rfl ?_
          refine zr_goto X 47 dX8_lies_43 rfl ?_
          exact zr_zret X rfl rfl ⟨⟨1, rfl, by omega⟩, rfl⟩ dX8_lies_47
      · refine zr_aload_n X 20 3 dX8_lies_19 rfl rfl ?_
        refine zr_iload_n X 21 1 dX8_lies_20 rfl rfl ?_
        refine zr_iload_n X 22 0 dX8_lies_21 rfl rfl ?_
        refine zr_iadd X 23 dX8_lies_22 rfl ?_
        refine zr_iald X 24 ha (by omega) dX8_lies_23 rfl ?_
        have zb4 := zc.b hac (p + k).toNat
        refine zr_aload_n X 25 2 dX8_lies_24 rfl rfl ?_
        refine zr_iload_n X 26 0 dX8_lies_25 rfl rfl ?_
        refine zr_iald X 27 hb (by omega) dX8_lies_26 rfl ?_
        have zb5 := zc.b hbc (k).toNat
        refine zr_icmp_ne X 36 30 dX8_lies_27 rfl rfl (by omega) (by omega) (fun bq6 => ?_) (fun bq6 => ?_)
        · refine zr_iload_n X 37 0 dX8_lies_36 rfl rfl ?_
          refine zr_aload_n X 38 2 dX8_lies_37 rfl rfl ?_
          refine zr_alen X 39 0 hb (by decide) dX8_lies_38 rfl ?_
          refine zr_icmp_ne X 46 42 dX8_lies_39 rfl rfl (by omega) (by omega) (fun bq7 => ?_) (fun bq7 => ?_)
          · refine zr_iconst X 47 dX8_lies_46 rfl ?_
            exact zr_zret X rfl rfl ⟨⟨0, rfl, by omega⟩, rfl⟩ dX8_lies_47
          · refine zr_iconst X 43 dX8_lies_42 rfl ?_
            refine zr_goto X 47 dX8_lies_43 rfl ?_
            exact zr_zret X rfl rfl ⟨⟨1, rfl, by omega⟩, rfl⟩ dX8_lies_47
        · refine zr_iinc X 33 0 [(3, .int (zI (k + 1))), (2, .int (zI (p))), (1, .ref b), (0, .ref a)] dX8_lies_30 rfl rfl (by decide) rfl ?_
          refine zr_goto X 13 dX8_lies_33 rfl ?_
          exact ih _ (by omega) (k + 1) ⟨by omega, by omega⟩ rfl
    exact loop _ 0 ⟨by omega, by omega⟩ rfl
  · refine zr_iconst X 10 dX8_lies_9 rfl ?_
    exact zr_zret X rfl rfl ⟨⟨0, rfl, by omega⟩, rfl⟩ dX8_lies_10
set_option maxRecDepth 100000 in
set_option maxHeartbeats 4000000 in
theorem m_X8_nth (l : Launch) (Γ : zGam) {V : zV}{a ta n : Nat} {f : Nat → Int} {b tb m : Nat} {h : Nat → Int} {w : Int} (ha : V a = some (ta, za Γ.2.1 0 n f)) (hac : zc f) (han : n ≤ 200) (hb : V b = some (tb, za Γ.2.1 0 m h)) (hbc : zc h) (hbn : m ≤ 200) (hw : 0 ≤ w ∧ w ≤ 1000) : zM l Γ 1 yX8_nth wsX8_nth 0 0 V [.ref a, .ref b, .int (zI (w))] (fun rv V' => (∃ y : Int, rv = some (.int (zI y)) ∧ -1 ≤ y ∧ y ≤ (n : Int) ∧ (0 ≤ y → w ≤ y)) ∧ V' = V) := by
  refine zM_of (cc := cX8_nth) (nL := 5) (ret := (some .int)) (own := RX8) (by decide +kernel) rfl rfl (Nat.le_of_ble_eq_true rfl) (fun C X hi0 => ?_)
  show zG C V 0 0 0 [(0, .ref a), (1, .ref b), (2, .int (zI (w)))] []
  refine zr_iload_n X 1 2 dX8_nth_0 rfl rfl ?_
  refine zr_istore_n X 2 [(3, .int (zI (w))), (0, .ref a), (1, .ref b), (2, .int (zI (w)))] dX8_nth_1 rfl (by decide) rfl ?_
  refine zr_iconst X 3 dX8_nth_2 rfl ?_
  refine zr_istore X 5 [(4, .int (zI (0))), (3, .int (zI (w))), (0, .ref a), (1, .ref b), (2, .int (zI (w)))] dX8_nth_3 rfl (by decide) rfl ?_
  refine zr_sub [0, 1, 4, 3, 2] [(4, .int (zI (0))), (3, .int (zI (w))), (2, .int (zI (w))), (1, .ref b), (0, .ref a)] rfl ?_
  have loop : ∀ (N : Nat) (lf : Int) (p : Int), 0 ≤ p ∧ p ≤ (n : Int) + 1 ∧ 0 ≤ lf ∧ w - p ≤ lf ∧ lf ≤ w → ((n : Int) + 1 - p).toNat = N → zG C V 0 0 5 [(4, .int (zI (p))), (3, .int (zI (lf))), (2, .int (zI (w))), (1, .ref b), (0, .ref a)] [] := by
    intro N
    induction N using Nat.strongRecOn with
    | _ N ih =>
    intro lf p hI hN
    obtain ⟨hI1, hI2, hI3, hI4, hI5⟩ := id hI
    refine zr_iload X 7 0 dX8_nth_5 rfl rfl ?_
    refine zr_aload_n X 8 3 dX8_nth_7 rfl rfl ?_
    refine zr_alen X 9 0 hb (by decide) dX8_nth_8 rfl ?_
    refine zr_iadd X 10 dX8_nth_9 rfl ?_
    refine zr_aload_n X 11 4 dX8_nth_10 rfl rfl ?_
    refine zr_alen X 12 0 ha (by decide) dX8_nth_11 rfl ?_
    refine zr_icmp_gt X 44 15 dX8_nth_12 rfl rfl (by omega) (by omega) (fun bq1 => ?_) (fun bq1 => ?_)
    · refine zr_iconst X 45 dX8_nth_44 rfl ?_
      exact zr_iret X rfl ⟨⟨-1, rfl, by omega, by omega, by omega⟩, rfl⟩ dX8_nth_45
    · refine zr_aload_n X 16 4 dX8_nth_15 rfl rfl ?_
      refine zr_aload_n X 17 3 dX8_nth_16 rfl rfl ?_
      refine zr_iload X 19 0 dX8_nth_17 rfl rfl ?_
      refine zr_callS (kc' := 0) (ks' := 0) X 22 3 (m_X8_lies l Γ (p := p) ha hac (by omega) hb hbc (by omega) (by omega)) gX8_nth_X8_lies rfl (by decide +kernel) rfl (by decide) rfl (Nat.le_of_ble_eq_true rfl) dX8_nth_19 rfl (by omega) (by omega) (fun rv2 V3 hp4 => ?_)
      obtain ⟨⟨y5, y5e, y50⟩, y5v⟩ := hp4
      rw [y5e, y5v]
      show zG C V 0 0 22 [(4, .int (zI (p))), (3, .int (zI (lf))), (2, .int (zI (w))), (1, .ref b), (0, .ref a)] [.int (zI (y5))]
      refine zr_if_ne X 28 25 dX8_nth_22 rfl rfl (by omega) (fun bq6 => ?_) (fun bq6 => ?_)
      · refine zr_iload_n X 29 1 dX8_nth_28 rfl rfl ?_
        refine zr_if_ne X 35 32 dX8_nth_29 rfl rfl (by omega) (fun bq7 => ?_) (fun bq7 => ?_)
        · refine zr_iinc X 38 1 [(3, .int (zI (lf + (-1)))), (4, .int (zI (p))), (2, .int (zI (w))), (1, .ref b), (0, .ref a)] dX8_nth_35 rfl rfl (by decide) rfl ?_
          refine zr_iinc X 41 1 [(4, .int (zI (p + 1))), (3, .int (zI (lf + (-1)))), (2, .int (zI (w))), (1, .ref b), (0, .ref a)] dX8_nth_38 rfl rfl (by decide) rfl ?_
          refine zr_goto X 5 dX8_nth_41 rfl ?_
          exact ih _ (by omega) (lf + (-1)) (p + 1) ⟨by omega, by omega, by omega, by omega, by omega⟩ rfl
        · refine zr_iload X 34 0 dX8_nth_32 rfl rfl ?_
          exact zr_iret X rfl ⟨⟨p, rfl, by omega, by omega, by omega⟩, rfl⟩ dX8_nth_34
      · refine zr_goto X 38 dX8_nth_25 rfl ?_
        refine zr_iinc X 41 0 [(4, .int (zI (p + 1))), (3, .int (zI (lf))), (2, .int (zI (w))), (1, .ref b), (0, .ref a)] dX8_nth_38 rfl rfl (by decide) rfl ?_
        refine zr_goto X 5 dX8_nth_41 rfl ?_
        exact ih _ (by omega) lf (p + 1) ⟨by omega, by omega, by omega, by omega, by omega⟩ rfl
  exact loop _ w 0 ⟨by omega, by omega, by omega, by omega, by omega⟩ rfl
set_option maxRecDepth 100000 in
set_option maxHeartbeats 4000000 in
theorem m_X8_places (l : Launch) (Γ : zGam) {V : zV}{a ta n : Nat} {f : Nat → Int} {b tb m : Nat} {h : Nat → Int} (ha : V a = some (ta, za Γ.2.1 0 n f)) (hac : zc f) (han : n ≤ 200) (hb : V b = some (tb, za Γ.2.1 0 m h)) (hbc : zc h) (hbn : m ≤ 200) : zM l Γ 2 yX8_places wsX8_places 0 0 V [.ref a, .ref b] (fun rv V' => (∃ y : Int, rv = some (.int (zI y)) ∧ 0 ≤ y ∧ y ≤ 1000) ∧ V' = V) := by
  refine zM_of (cc := cX8_places) (nL := 3) (ret := (some .int)) (own := RX8) (by decide +kernel) rfl rfl (Nat.le_of_ble_eq_true rfl) (fun C X hi0 => ?_)
  show zG C V 0 0 0 [(0, .ref a), (1, .ref b)] []
  refine zr_iconst X 1 dX8_places_0 rfl ?_
  refine zr_istore_n X 2 [(2, .int (zI (0))), (0, .ref a), (1, .ref b)] dX8_places_1 rfl (by decide) rfl ?_
  refine zr_sub [0, 2, 1] [(2, .int (zI (0))), (1, .ref b), (0, .ref a)] rfl ?_
  have loop : ∀ (N : Nat) (k : Int), 0 ≤ k ∧ k ≤ (n : Int) + 1 → ((n : Int) + 1 - k).toNat = N → zG C V 0 0 2 [(2, .int (zI (k))), (1, .ref b), (0, .ref a)] [] := by
    intro N
    induction N using Nat.strongRecOn with
    | _ N ih =>
    intro k hI hN
    obtain ⟨hI1, hI2⟩ := id hI
    refine zr_aload_n X 3 2 dX8_places_2 rfl rfl ?_
    refine zr_aload_n X 4 1 dX8_places_3 rfl rfl ?_
    refine zr_iload_n X 5 0 dX8_places_4 rfl rfl ?_
    refine zr_callS (kc' := 0) (ks' := 0) X 8 3 (m_X8_nth l Γ (w := k) ha hac (by omega) hb hbc (by omega) (by omega)) gX8_places_X8_nth rfl (by decide +kernel) rfl (by decide) rfl (Nat.le_of_ble_eq_true rfl) dX8_places_5 rfl (by omega) (by omega) (fun rv1 V2 hp3 => ?_)
    obtain ⟨⟨y4, y4e, y40, y41, y42⟩, y4v⟩ := hp3
    rw [y4e, y4v]
    show zG C V 0 0 8 [(2, .int (zI (k))), (1, .ref b), (0, .ref a)] [.int (zI (y4))]
    refine zr_if_lt X 17 11 dX8_places_8 rfl rfl (by omega) (fun bq5 => ?_) (fun bq5 => ?_)
    · refine zr_iload_n X 18 0 dX8_places_17 rfl rfl ?_
      exact zr_iret X rfl ⟨⟨k, rfl, by omega, by omega⟩, rfl⟩ dX8_places_18
    · refine zr_iinc X 14 0 [(2, .int (zI (k + 1))), (1, .ref b), (0, .ref a)] dX8_places_11 rfl rfl (by decide) rfl ?_
      refine zr_goto X 2 dX8_places_14 rfl ?_
      exact ih _ (by omega) (k + 1) ⟨by omega, by omega⟩ rfl
  exact loop _ 0 ⟨by omega, by omega⟩ rfl
theorem zmaxe (x y : Int) : ∃ z9 : Int, z9 = (if x < y then y else x) ∧ ((x < y ∧ z9 = y) ∨ (¬ x < y ∧ z9 = x)) := by
  by_cases h : x < y
  · exact ⟨y, (if_pos h).symm, Or.inl ⟨h, rfl⟩⟩
  · exact ⟨x, (if_neg h).symm, Or.inr ⟨h, rfl⟩⟩
theorem zmine (x y : Int) : ∃ z9 : Int, z9 = (if y < x then y else x) ∧ ((y < x ∧ z9 = y) ∨ (¬ y < x ∧ z9 = x)) := by
  by_cases h : y < x
  · exact ⟨y, (if_pos h).symm, Or.inl ⟨h, rfl⟩⟩
  · exact ⟨x, (if_neg h).symm, Or.inr ⟨h, rfl⟩⟩
set_option maxRecDepth 100000 in
set_option maxHeartbeats 4000000 in
theorem m_X8_lastOf (l : Launch) (Γ : zGam) {V : zV}{a ta n : Nat} {f : Nat → Int} {b tb m : Nat} {h : Nat → Int} (ha : V a = some (ta, za Γ.2.1 0 n f)) (hac : zc f) (han : n ≤ 200) (hb : V b = some (tb, za Γ.2.1 0 m h)) (hbc : zc h) (hbn : m ≤ 200) : zM l Γ 1 yX8_lastOf wsX8_lastOf 0 0 V [.ref a, .ref b] (fun rv V' => (∃ y : Int, rv = some (.int (zI y)) ∧ -1 ≤ y ∧ y ≤ 1000) ∧ V' = V) := by
  have w0 : Cond.methodLink RX8 146 Lib.Math.max.name ∈ wsX8_lastOf := by decide +kernel
  have w1 : Cond.static Lib.Math.max.name ∈ wsX8_lastOf := by decide +kernel
  have w2 : Cond.initialized "java/lang/Math" ∈ wsX8_lastOf := by decide +kernel
  have w3 : Cond.code Lib.Math.max.name Lib.Math.max.code 2 (some .int) ∈ wsX8_lastOf := by decide +kernel
  refine zM_of (cc := cX8_lastOf) (nL := 3) (ret := (some .int)) (own := RX8) (by decide +kernel) rfl rfl (Nat.le_of_ble_eq_true rfl) (fun C X hi0 => ?_)
  show zG C V 0 0 0 [(0, .ref a), (1, .ref b)] []
  refine zr_aload_n X 1 0 dX8_lastOf_0 rfl rfl ?_
  refine zr_alen X 2 0 ha (by decide) dX8_lastOf_1 rfl ?_
  refine zr_aload_n X 3 1 dX8_lastOf_2 rfl rfl ?_
  refine zr_alen X 4 0 hb (by decide) dX8_lastOf_3 rfl ?_
  refine zr_isub X 5 dX8_lastOf_4 rfl ?_
  refine zr_istore_n X 6 [(2, .int (zI ((n : Nat) - (m : Nat)))), (0, .ref a), (1, .ref b)] dX8_lastOf_5 rfl (by decide) rfl ?_
  refine zr_sub [0, 2, 1] [(2, .int (zI ((n : Nat) - (m : Nat)))), (1, .ref b), (0, .ref a)] rfl ?_
  have loop : ∀ (N : Nat) (k : Int), -1000 ≤ k ∧ k ≤ (n : Int) → (k + 1000).toNat = N → zG C V 0 0 6 [(2, .int (zI (k))), (1, .ref b), (0, .ref a)] [] := by
    intro N
    induction N using Nat.strongRecOn with
    | _ N ih =>
    intro k hI hN
    obtain ⟨hI1, hI2⟩ := id hI
    refine zr_iload_n X 7 0 dX8_lastOf_6 rfl rfl ?_
    refine zr_if_lt X 25 10 dX8_lastOf_7 rfl rfl (by omega) (fun bq1 => ?_) (fun bq1 => ?_)
    · refine zr_iload_n X 26 0 dX8_lastOf_25 rfl rfl ?_
      refine zr_iconst X 27 dX8_lastOf_26 rfl ?_
      obtain ⟨mz2, mz2e, mz2a⟩ : ∃ z9 : Int, z9 = (if k < -1 then -1 else k) ∧ ((k < -1 ∧ z9 = -1) ∨ (¬ k < -1 ∧ z9 = k)) := zmaxe _ _
      refine zr_mmax X 30 (mz2) w0 w1 w2 w3 (by decide) (Nat.le_of_ble_eq_true rfl) (by omega) (by omega) mz2e dX8_lastOf_27 rfl ?_
      clear mz2e
      exact zr_iret X rfl ⟨⟨mz2, rfl, by omega, by omega⟩, rfl⟩ dX8_lastOf_30
    · refine zr_aload_n X 11 2 dX8_lastOf_10 rfl rfl ?_
      refine zr_aload_n X 12 1 dX8_lastOf_11 rfl rfl ?_
      refine zr_iload_n X 13 0 dX8_lastOf_12 rfl rfl ?_
      refine zr_callS (kc' := 0) (ks' := 0) X 16 3 (m_X8_lies l Γ (p := k) ha hac (by omega) hb hbc (by omega) (by omega)) gX8_lastOf_X8_lies rfl (by decide +kernel) rfl (by decide) rfl (Nat.le_of_ble_eq_true rfl) dX8_lastOf_13 rfl (by omega) (by omega) (fun rv3 V4 hp5 => ?_)
      obtain ⟨⟨y6, y6e, y60⟩, y6v⟩ := hp5
      rw [y6e, y6v]
      show zG C V 0 0 16 [(2, .int (zI (k))), (1, .ref b), (0, .ref a)] [.int (zI (y6))]
      refine zr_if_ne X 25 19 dX8_lastOf_16 rfl rfl (by omega) (fun bq7 => ?_) (fun bq7 => ?_)
      · refine zr_iload_n X 26 0 dX8_lastOf_25 rfl rfl ?_
        refine zr_iconst X 27 dX8_lastOf_26 rfl ?_
        obtain ⟨mz8, mz8e, mz8a⟩ : ∃ z9 : Int, z9 = (if k < -1 then -1 else k) ∧ ((k < -1 ∧ z9 = -1) ∨ (¬ k < -1 ∧ z9 = k)) := zmaxe _ _
        refine zr_mmax X 30 (mz8) w0 w1 w2 w3 (by decide) (Nat.le_of_ble_eq_true rfl) (by omega) (by omega) mz8e dX8_lastOf_27 rfl ?_
        clear mz8e
        exact zr_iret X rfl ⟨⟨mz8, rfl, by omega, by omega⟩, rfl⟩ dX8_lastOf_30
      · refine zr_iinc X 22 0 [(2, .int (zI (k + (-1)))), (1, .ref b), (0, .ref a)] dX8_lastOf_19 rfl rfl (by decide) rfl ?_
        refine zr_goto X 6 dX8_lastOf_22 rfl ?_
        exact ih _ (by omega) (k + (-1)) ⟨by omega, by omega⟩ rfl
  exact loop _ ((n : Nat) - (m : Nat)) ⟨by omega, by omega⟩ rfl
set_option maxRecDepth 100000 in
set_option maxHeartbeats 4000000 in
theorem m_X8_isBorder (l : Launch) (Γ : zGam) {V : zV}{a ta n : Nat} {f : Nat → Int} {mn q : Int} (ha : V a = some (ta, za Γ.2.1 0 n f)) (hac : zc f) (han : n ≤ 200) (hm : 0 ≤ mn ∧ mn ≤ (n : Int)) (hq : -1 ≤ q ∧ q ≤ 1000) : zM l Γ 0 yX8_isBorder wsX8_isBorder 0 0 V [.ref a, .int (zI (mn)), .int (zI (q))] (fun rv V' => (∃ y : Int, rv = some (.int (zI y)) ∧ (y = 0 ∨ y = 1)) ∧ V' = V) := by
  refine zM_of (cc := cX8_isBorder) (nL := 5) (ret := (some .boolean)) (own := RX8) (by decide +kernel) rfl rfl (Nat.le_of_ble_eq_true rfl) (fun C X hi0 => ?_)
  show zG C V 0 0 0 [(0, .ref a), (1, .int (zI (mn))), (2, .int (zI (q)))] []
  refine zr_iload_n X 1 2 dX8_isBorder_0 rfl rfl ?_
  refine zr_iload_n X 2 1 dX8_isBorder_1 rfl rfl ?_
  refine zr_icmp_ge X 9 5 dX8_isBorder_2 rfl rfl (by omega) (by omega) (fun bq1 => ?_) (fun bq1 => ?_)
  · refine zr_iconst X 10 dX8_isBorder_9 rfl ?_
    refine zr_istore_n X 11 [(3, .int (zI (0))), (0, .ref a), (1, .int (zI (mn))), (2, .int (zI (q)))] dX8_isBorder_10 rfl (by decide) rfl ?_
    refine zr_iconst X 12 dX8_isBorder_11 rfl ?_
    refine zr_istore X 14 [(4, .int (zI (0))), (3, .int (zI (0))), (0, .ref a), (1, .int (zI (mn))), (2, .int (zI (q)))] dX8_isBorder_12 rfl (by decide) rfl ?_
    refine zr_sub [0, 1, 4, 3, 2] [(4, .int (zI (0))), (3, .int (zI (0))), (2, .int (zI (q))), (1, .int (zI (mn))), (0, .ref a)] rfl ?_
    have loop : ∀ (N : Nat) (is : Int) (k : Int), 0 ≤ k ∧ k ≤ 1000 ∧ (is = 0 ∨ is = 1) ∧ (is = 1 → q < mn) ∧ (k ≤ q ∨ k = 0) → (1000 - k).toNat = N → zG C V 0 0 14 [(4, .int (zI (k))), (3, .int (zI (is))), (2, .int (zI (q))), (1, .int (zI (mn))), (0, .ref a)] [] := by
      intro N
      induction N using Nat.strongRecOn with
      | _ N ih =>
      intro is k hI hN
      obtain ⟨hI1, hI2, hI3, hI4, hI5⟩ := id hI
      refine zr_iload X 16 0 dX8_isBorder_14 rfl rfl ?_
      refine zr_iload_n X 17 2 dX8_isBorder_16 rfl rfl ?_
      refine zr_icmp_ge X 51 20 dX8_isBorder_17 rfl rfl (by omega) (by omega) (fun bq2 => ?_) (fun bq2 => ?_)
      · refine zr_iload_n X 52 1 dX8_isBorder_51 rfl rfl ?_
        exact zr_zret X rfl (znz (by omega)) ⟨⟨is, rfl, by omega⟩, rfl⟩ dX8_isBorder_52
      · refine zr_iload_n X 21 1 dX8_isBorder_20 rfl rfl ?_
        refine zr_if_eq X 51 24 dX8_isBorder_21 rfl rfl (by omega) (fun bq3 => ?_) (fun bq3 => ?_)
        · refine zr_iload_n X 52 1 dX8_isBorder_51 rfl rfl ?_
          exact zr_zret X rfl (znz (by omega)) ⟨⟨is, rfl, by omega⟩, rfl⟩ dX8_isBorder_52
        · refine zr_aload_n X 25 4 dX8_isBorder_24 rfl rfl ?_
          refine zr_iload X 27 0 dX8_isBorder_25 rfl rfl ?_
          refine zr_iald X 28 ha (by omega) dX8_isBorder_27 rfl ?_
          have zb4 := zc.b hac (k).toNat
          refine zr_aload_n X 29 4 dX8_isBorder_28 rfl rfl ?_
          refine zr_iload_n X 30 3 dX8_isBorder_29 rfl rfl ?_
          refine zr_iload_n X 31 2 dX8_isBorder_30 rfl rfl ?_
          refine zr_isub X 32 dX8_isBorder_31 rfl ?_
          refine zr_iload X 34 0 dX8_isBorder_32 rfl rfl ?_
          refine zr_iadd X 35 dX8_isBorder_34 rfl ?_
          refine zr_iald X 36 ha (by omega) dX8_isBorder_35 rfl ?_
          have zb5 := zc.b hac ((mn - q) + k).toNat
          refine zr_icmp_ne X 43 39 dX8_isBorder_36 rfl rfl (by omega) (by omega) (fun bq6 => ?_) (fun bq6 => ?_)
          · refine zr_iconst X 44 dX8_isBorder_43 rfl ?_
            refine zr_istore_n X 45 [(3, .int (zI (0))), (4, .int (zI (k))), (2, .int (zI (q))), (1, .int (zI (mn))), (0, .ref a)] dX8_isBorder_44 rfl (by decide) rfl ?_
            refine zr_iinc X 48 1 [(4, .int (zI (k + 1))), (3, .int (zI (0))), (2, .int (zI (q))), (1, .int (zI (mn))), (0, .ref a)] dX8_isBorder_45 rfl rfl (by decide) rfl ?_
            refine zr_goto X 14 dX8_isBorder_48 rfl ?_
            exact ih _ (by omega) 0 (k + 1) ⟨by omega, by omega, by omega, by omega, by omega⟩ rfl
          · refine zr_iconst X 40 dX8_isBorder_39 rfl ?_
            refine zr_goto X 44 dX8_isBorder_40 rfl ?_
            refine zr_istore_n X 45 [(3, .int (zI (1))), (4, .int (zI (k))), (2, .int (zI (q))), (1, .int (zI (mn))), (0, .ref a)] dX8_isBorder_44 rfl (by decide) rfl ?_
            refine zr_iinc X 48 1 [(4, .int (zI (k + 1))), (3, .int (zI (1))), (2, .int (zI (q))), (1, .int (zI (mn))), (0, .ref a)] dX8_isBorder_45 rfl rfl (by decide) rfl ?_
            refine zr_goto X 14 dX8_isBorder_48 rfl ?_
            exact ih _ (by omega) 1 (k + 1) ⟨by omega, by omega, by omega, by omega, by omega⟩ rfl
    exact loop _ 0 0 ⟨by omega, by omega, by omega, by omega, by omega⟩ rfl
  · refine zr_iconst X 6 dX8_isBorder_5 rfl ?_
    refine zr_goto X 10 dX8_isBorder_6 rfl ?_
    refine zr_istore_n X 11 [(3, .int (zI (1))), (0, .ref a), (1, .int (zI (mn))), (2, .int (zI (q)))] dX8_isBorder_10 rfl (by decide) rfl ?_
    refine zr_iconst X 12 dX8_isBorder_11 rfl ?_
    refine zr_istore X 14 [(4, .int (zI (0))), (3, .int (zI (1))), (0, .ref a), (1, .int (zI (mn))), (2, .int (zI (q)))] dX8_isBorder_12 rfl (by decide) rfl ?_
    refine zr_sub [0, 1, 4, 3, 2] [(4, .int (zI (0))), (3, .int (zI (1))), (2, .int (zI (q))), (1, .int (zI (mn))), (0, .ref a)] rfl ?_
    have loop : ∀ (N : Nat) (is : Int) (k : Int), 0 ≤ k ∧ k ≤ 1000 ∧ (is = 0 ∨ is = 1) ∧ (is = 1 → q < mn) ∧ (k ≤ q ∨ k = 0) → (1000 - k).toNat = N → zG C V 0 0 14 [(4, .int (zI (k))), (3, .int (zI (is))), (2, .int (zI (q))), (1, .int (zI (mn))), (0, .ref a)] [] := by
      intro N
      induction N using Nat.strongRecOn with
      | _ N ih =>
      intro is k hI hN
      obtain ⟨hI1, hI2, hI3, hI4, hI5⟩ := id hI
      refine zr_iload X 16 0 dX8_isBorder_14 rfl rfl ?_
      refine zr_iload_n X 17 2 dX8_isBorder_16 rfl rfl ?_
      refine zr_icmp_ge X 51 20 dX8_isBorder_17 rfl rfl (by omega) (by omega) (fun bq7 => ?_) (fun bq7 => ?_)
      · refine zr_iload_n X 52 1 dX8_isBorder_51 rfl rfl ?_
        exact zr_zret X rfl (znz (by omega)) ⟨⟨is, rfl, by omega⟩, rfl⟩ dX8_isBorder_52
      · refine zr_iload_n X 21 1 dX8_isBorder_20 rfl rfl ?_
        refine zr_if_eq X 51 24 dX8_isBorder_21 rfl rfl (by omega) (fun bq8 => ?_) (fun bq8 => ?_)
        · refine zr_iload_n X 52 1 dX8_isBorder_51 rfl rfl ?_
          exact zr_zret X rfl (znz (by omega)) ⟨⟨is, rfl, by omega⟩, rfl⟩ dX8_isBorder_52
        · refine zr_aload_n X 25 4 dX8_isBorder_24 rfl rfl ?_
          refine zr_iload X 27 0 dX8_isBorder_25 rfl rfl ?_
          refine zr_iald X 28 ha (by omega) dX8_isBorder_27 rfl ?_
          have zb9 := zc.b hac (k).toNat
          refine zr_aload_n X 29 4 dX8_isBorder_28 rfl rfl ?_
          refine zr_iload_n X 30 3 dX8_isBorder_29 rfl rfl ?_
          refine zr_iload_n X 31 2 dX8_isBorder_30 rfl rfl ?_
          refine zr_isub X 32 dX8_isBorder_31 rfl ?_
          refine zr_iload X 34 0 dX8_isBorder_32 rfl rfl ?_
          refine zr_iadd X 35 dX8_isBorder_34 rfl ?_
          refine zr_iald X 36 ha (by omega) dX8_isBorder_35 rfl ?_
          have zb10 := zc.b hac ((mn - q) + k).toNat
          refine zr_icmp_ne X 43 39 dX8_isBorder_36 rfl rfl (by omega) (by omega) (fun bq11 => ?_) (fun bq11 => ?_)
          · refine zr_iconst X 44 dX8_isBorder_43 rfl ?_
            refine zr_istore_n X 45 [(3, .int (zI (0))), (4, .int (zI (k))), (2, .int (zI (q))), (1, .int (zI (mn))), (0, .ref a)] dX8_isBorder_44 rfl (by decide) rfl ?_
            refine zr_iinc X 48 1 [(4, .int (zI (k + 1))), (3, .int (zI (0))), (2, .int (zI (q))), (1, .int (zI (mn))), (0, .ref a)] dX8_isBorder_45 rfl rfl (by decide) rfl ?_
            refine zr_goto X 14 dX8_isBorder_48 rfl ?_
            exact ih _ (by omega) 0 (k + 1) ⟨by omega, by omega, by omega, by omega, by omega⟩ rfl
          · refine zr_iconst X 40 dX8_isBorder_39 rfl ?_
            refine zr_goto X 44 dX8_isBorder_40 rfl ?_
            refine zr_istore_n X 45 [(3, .int (zI (1))), (4, .int (zI (k))), (2, .int (zI (q))), (1, .int (zI (mn))), (0, .ref a)] dX8_isBorder_44 rfl (by decide) rfl ?_
            refine zr_iinc X 48 1 [(4, .int (zI (k + 1))), (3, .int (zI (1))), (2, .int (zI (q))), (1, .int (zI (mn))), (0, .ref a)] dX8_isBorder_45 rfl rfl (by decide) rfl ?_
            refine zr_goto X 14 dX8_isBorder_48 rfl ?_
            exact ih _ (by omega) 1 (k + 1) ⟨by omega, by omega, by omega, by omega, by omega⟩ rfl
    exact loop _ 1 0 ⟨by omega, by omega, by omega, by omega, by omega⟩ rfl
set_option maxRecDepth 100000 in
set_option maxHeartbeats 4000000 in
theorem m_X8_greatest (l : Launch) (Γ : zGam) {V : zV}{a ta n : Nat} {f : Nat → Int} {mn : Int} (ha : V a = some (ta, za Γ.2.1 0 n f)) (hac : zc f) (han : n ≤ 200) (hm : 0 ≤ mn ∧ mn ≤ (n : Int)) : zM l Γ 1 yX8_greatest wsX8_greatest 0 0 V [.ref a, .int (zI (mn))] (fun rv V' => (∃ y : Int, rv = some (.int (zI y)) ∧ 0 ≤ y ∧ y ≤ 1000) ∧ V' = V) := by
  have w0 : Cond.methodLink RX8 146 Lib.Math.max.name ∈ wsX8_greatest := by decide +kernel
  have w1 : Cond.static Lib.Math.max.name ∈ wsX8_greatest := by decide +kernel
  have w2 : Cond.initialized "java/lang/Math" ∈ wsX8_greatest := by decide +kernel
  have w3 : Cond.code Lib.Math.max.name Lib.Math.max.code 2 (some .int) ∈ wsX8_greatest := by decide +kernel
  refine zM_of (cc := cX8_greatest) (nL := 3) (ret := (some .int)) (own := RX8) (by decide +kernel) rfl rfl (Nat.le_of_ble_eq_true rfl) (fun C X hi0 => ?_)
  show zG C V 0 0 0 [(0, .ref a), (1, .int (zI (mn)))] []
  refine zr_iload_n X 1 1 dX8_greatest_0 rfl rfl ?_
  refine zr_iconst X 2 dX8_greatest_1 rfl ?_
  refine zr_isub X 3 dX8_greatest_2 rfl ?_
  refine zr_iconst X 4 dX8_greatest_3 rfl ?_
  obtain ⟨mz1, mz1e, mz1a⟩ : ∃ z9 : Int, z9 = (if mn - 1 < 0 then 0 else mn - 1) ∧ ((mn - 1 < 0 ∧ z9 = 0) ∨ (¬ mn - 1 < 0 ∧ z9 = mn - 1)) := zmaxe _ _
  refine zr_mmax X 7 (mz1) w0 w1 w2 w3 (by decide) (Nat.le_of_ble_eq_true rfl) (by omega) (by omega) mz1e dX8_greatest_4 rfl ?_
  clear mz1e
  refine zr_istore_n X 8 [(2, .int (zI (mz1))), (0, .ref a), (1, .int (zI (mn)))] dX8_greatest_7 rfl (by decide) rfl ?_
  refine zr_sub [0, 2, 1] [(2, .int (zI (mz1))), (1, .int (zI (mn))), (0, .ref a)] rfl ?_
  have loop : ∀ (N : Nat) (q : Int), 0 ≤ q ∧ q ≤ 1000 → q.toNat = N → zG C V 0 0 8 [(2, .int (zI (q))), (1, .int (zI (mn))), (0, .ref a)] [] := by
    intro N
    induction N using Nat.strongRecOn with
    | _ N ih =>
    intro q hI hN
    obtain ⟨hI1, hI2⟩ := id hI
    refine zr_iload_n X 9 0 dX8_greatest_8 rfl rfl ?_
    refine zr_if_le X 27 12 dX8_greatest_9 rfl rfl (by omega) (fun bq2 => ?_) (fun bq2 => ?_)
    · refine zr_iload_n X 28 0 dX8_greatest_27 rfl rfl ?_
      exact zr_iret X rfl ⟨⟨q, rfl, by omega, by omega⟩, rfl⟩ dX8_greatest_28
    · refine zr_aload_n X 13 2 dX8_greatest_12 rfl rfl ?_
      refine zr_iload_n X 14 1 dX8_greatest_13 rfl rfl ?_
      refine zr_iload_n X 15 0 dX8_greatest_14 rfl rfl ?_
      refine zr_callS (kc' := 0) (ks' := 0) X 18 3 (m_X8_isBorder l Γ (mn := mn) (q := q) ha hac (by omega) (by omega) (by omega)) gX8_greatest_X8_isBorder rfl (by decide +kernel) rfl (by decide) rfl (Nat.le_of_ble_eq_true rfl) dX8_greatest_15 rfl (by omega) (by omega) (fun rv3 V4 hp5 => ?_)
      obtain ⟨⟨y6, y6e, y60⟩, y6v⟩ := hp5
      rw [y6e, y6v]
      show zG C V 0 0 18 [(2, .int (zI (q))), (1, .int (zI (mn))), (0, .ref a)] [.int (zI (y6))]
      refine zr_if_ne X 27 21 dX8_greatest_18 rfl rfl (by omega) (fun bq7 => ?_) (fun bq7 => ?_)
      · refine zr_iload_n X 28 0 dX8_greatest_27 rfl rfl ?_
        exact zr_iret X rfl ⟨⟨q, rfl, by omega, by omega⟩, rfl⟩ dX8_greatest_28
      · refine zr_iinc X 24 0 [(2, .int (zI (q + (-1)))), (1, .int (zI (mn))), (0, .ref a)] dX8_greatest_21 rfl rfl (by decide) rfl ?_
        refine zr_goto X 8 dX8_greatest_24 rfl ?_
        exact ih _ (by omega) (q + (-1)) ⟨by omega, by omega⟩ rfl
  exact loop _ mz1 ⟨by omega, by omega⟩ rfl
end
