/-! constructors -/
/-- all but b is kept -/
def zbt (b : Nat) (V V' : zV) : Prop := ∀ (a t : Nat) (e : va_E), V a = some (t, e) → a ≠ b → V' a = some (t, e)
def zal : Nat → Prop := fun _ => True
theorem zbt.rf {b : Nat} {V : zV} : zbt b V V := fun _ _ _ h _ => h
theorem zbt.tr {b : Nat} {V V' V'' : zV} (h : zbt b V V') (h' : zbt b V' V'') : zbt b V V'' := fun a t e h1 h2 => h' a t e (h a t e h1 h2) h2
theorem zbt.put {b : Nat} {V V' : zV} {t : Nat} {e : va_E} (h : zbt b V V') : zbt b V (zu V' b t e) := fun a t1 e1 h1 h2 => (zu_ne h2).trans (h a t1 e1 h1 h2)
theorem zbt.full {b : Nat} {V V' V'' : zV} (h : zbt b V V') (h' : zag zal V' V'') : zbt b V V'' := fun a t e h1 h2 => h' a t e (h a t e h1 h2) trivial
theorem zbt.new {b t : Nat} {e : va_E} {V V' : zV} (hb : V b = none) (h : zbt b (zu V b t e) V') : zag zal V V' := fun a t1 e1 h1 _ => by
  have hne : a ≠ b := fun q => by
    rw [q, hb] at h1
    cases h1
  exact h a t1 e1 ((zu_ne hne).trans h1) hne
theorem zbt.ag {b tb : Nat} {e0 : va_E} {V V' : zV} (h : zbt b V V') (hb : V b = some (tb, e0)) : zag (fun t => t ≠ tb) V V' := fun a t e h1 h2 => h a t e h1 (fun q => by
  rw [q, hb] at h1
  exact h2 (Prod.mk.inj (Option.some.inj h1)).1.symm)
theorem zarr_eq (c : ClassId) (n : Nat) (f f' : Nat → Option Nat) (h : ∀ i, i < n → f i = f' i) : vp_cell c (n, .inr (.inr (.inr (.inr f)))) = vp_cell c (n, .inr (.inr (.inr (.inr f')))) := by
  have e : (Array.ofFn (n := n) fun j => va_rf (f j.val)) = (Array.ofFn (n := n) fun j => va_rf (f' j.val)) := by
    congr 1
    funext j
    rw [h j.val j.isLt]
  show arrV c n (fun j => va_rf (f j)) = arrV c n (fun j => va_rf (f' j))
  unfold arrV
  rw [e]
theorem z0c : zc (fun _ => 0) := fun _ => ⟨Int.le_refl 0, by show (0 : Int) ≤ 255; decide⟩
theorem z0b : zbd (fun _ => 0) := fun _ => ⟨Int.le_refl 0, by show (0 : Int) ≤ 1000; decide⟩
theorem z0p : zpl (fun _ => 0) := fun _ => ⟨by show (-2000 : Int) ≤ 0; decide, by show (0 : Int) ≤ 2000; decide⟩
/-- a row of references may be named by another function that agrees over its places -/
theorem zr_same {C : zC} {l0 : Launch} {Γ0 : zGam} {n0 : Nat} {own : String} {cc : ByteArray} {ws : List Cond} {d : Nat} {ret : Option FieldType} {Post : Option Value → zV → Prop} {V : zV} {kc ks pc : Nat} {lv : List (Nat × Value)} {rest : List Value} (X : zK C l0 Γ0 n0 own cc ws d ret Post) {a tg k n : Nat} {f : Nat → Option Nat} (f' : Nat → Option Nat) (hV : V a = some (tg, zq Γ0.2.1 k n f)) (hf : ∀ i, i < n → f i = f' i) (kk : zG C (zu V a tg (zq Γ0.2.1 k n f')) kc ks pc lv rest) : zG C V kc ks pc lv rest := by
  obtain ⟨⟨p, l, e, R, s, m, args, below, meth, c⟩, Γ, ⟨nL, mc, ms⟩, Q⟩ := C
  obtain ⟨hx, hb, hml, hown, hts, hO, hB0, hlk, hret, hmc, hms, hdf, hdl, hQ, rfl, rfl, rfl⟩ := X
  have hVa := hV
  intro H locs cells slots ls hV hS hl' hcc hs
  obtain ⟨W0, hL, hP, hD⟩ := hV
  obtain ⟨q0, hq⟩ := (hL _ _).mp (zd_of hVa)
  refine kk H locs cells slots ls ⟨W0.set q0 (a, zq Γ.2.1 k n f'), ?_, ?_, ?_⟩ hS hl' hcc hs
  · rw [zd_zu]
    exact hL.set hD hq
  · refine hP.set hD hq ?_ (fun _ _ => rfl)
    have h1 := hP q0 _ hq
    show H[a]? = some (vp_cell (Γ.2.1 k) (n, .inr (.inr (.inr (.inr f')))))
    rw [← zarr_eq (Γ.2.1 k) n f f' hf]
    exact h1
  · exact hD.set hq
set_option maxRecDepth 100000 in
set_option maxHeartbeats 4000000 in
theorem m_X4_init_4 (l : Launch) (Γ : zGam) {V : zV} {b tb : Nat} (hb : V b = some (tb, .inr (4, [.null, .int (zI (0))])))  : zM l Γ 2 yX4_init wsX4_init 0 0 V [.ref b] (fun rv V' => rv = none ∧ V' = V) := by
  have w0 : Cond.methodLink RX4 1 objectInit ∈ wsX4_init := by decide +kernel
  have w1 : Cond.instanceMethod objectInit ∈ wsX4_init := by decide +kernel
  have w2 : Cond.code objectInit ⟨#[0xb1]⟩ 1 none ∈ wsX4_init := by decide +kernel
  refine zM_of (cc := cX4_init) (nL := 1) (ret := none) (own := RX4) (by decide +kernel) rfl rfl (Nat.le_of_ble_eq_true rfl) (fun C X hi0 => ?_)
  have hi0 := hi0 rfl
  show zG C V 0 0 0 [(0, .ref b)] []
  refine zr_aload_n X 1 0 dX4_init_0 rfl rfl ?_
  refine zr_objInit X 4 hb rfl w0 w1 w2 (by decide) (Nat.le_of_ble_eq_true rfl) dX4_init_1 rfl ?_
  exact zr_vret X rfl ⟨rfl, rfl⟩ dX4_init_4
set_option maxRecDepth 100000 in
set_option maxHeartbeats 4000000 in
theorem m_X4_init_6 (l : Launch) (Γ : zGam) {V : zV} {b tb : Nat} (hb : V b = some (tb, .inr (6, [.null, .int (zI (0)), .int (zI (0)), .int (zI (0)), .int (zI (0)), .int (zI (0))])))  : zM l Γ 2 yX4_init wsX4_init 0 0 V [.ref b] (fun rv V' => rv = none ∧ V' = V) := by
  have w0 : Cond.methodLink RX4 1 objectInit ∈ wsX4_init := by decide +kernel
  have w1 : Cond.instanceMethod objectInit ∈ wsX4_init := by decide +kernel
  have w2 : Cond.code objectInit ⟨#[0xb1]⟩ 1 none ∈ wsX4_init := by decide +kernel
  refine zM_of (cc := cX4_init) (nL := 1) (ret := none) (own := RX4) (by decide +kernel) rfl rfl (Nat.le_of_ble_eq_true rfl) (fun C X hi0 => ?_)
  have hi0 := hi0 rfl
  show zG C V 0 0 0 [(0, .ref b)] []
  refine zr_aload_n X 1 0 dX4_init_0 rfl rfl ?_
  refine zr_objInit X 4 hb rfl w0 w1 w2 (by decide) (Nat.le_of_ble_eq_true rfl) dX4_init_1 rfl ?_
  exact zr_vret X rfl ⟨rfl, rfl⟩ dX4_init_4
set_option maxRecDepth 100000 in
set_option maxHeartbeats 4000000 in
theorem m_X2_init (l : Launch) (Γ : zGam) {V : zV} {b tb tg : Nat} {n : Int} (hb : V b = some (tb, .inr (4, [.null, .int (zI (0))]))) (hn : 0 ≤ n ∧ n ≤ 1000) : zM l Γ 4 yX2_init wsX2_init 1 n.toNat V [.ref b, .int (zI (n))] (fun rv V' => rv = none ∧ ∃ g, zSc Γ V' tb b tg g n.toNat 0 ∧ zbt b V V') := by
  have w0 : Cond.initialized yX4_init.cls ∈ wsX2_init := by decide +kernel
  have w1 : Cond.instanceMethod yX4_init ∈ wsX2_init := by decide +kernel
  have w2 : Cond.methodLink RX2 9 Lib.Math.max.name ∈ wsX2_init := by decide +kernel
  have w3 : Cond.static Lib.Math.max.name ∈ wsX2_init := by decide +kernel
  have w4 : Cond.initialized "java/lang/Math" ∈ wsX2_init := by decide +kernel
  have w5 : Cond.code Lib.Math.max.name Lib.Math.max.code 2 (some .int) ∈ wsX2_init := by decide +kernel
  have w6 : Cond.arrayClass .char ∈ wsX2_init := by decide +kernel
  have w7 : Cond.fieldLink RX2 15 "Sashwords$Script" "signs" "[C" ∈ wsX2_init := by decide +kernel
  have iX2 : ∀ w ∈ u_ws RX2 TX2 2, w ∈ wsX2_init := by decide +kernel
  refine zM_of (cc := cX2_init) (nL := 2) (ret := none) (own := RX2) (by decide +kernel) rfl rfl (Nat.le_of_ble_eq_true rfl) (fun C X hi0 => ?_)
  have hi0 := hi0 rfl
  show zG C V 1 n.toNat 0 [(0, .ref b), (1, .int (zI (n)))] []
  refine zr_aload_n X 1 0 dX2_init_0 rfl rfl ?_
  refine zr_callIN (kc' := 1) (ks' := n.toNat) X 4 0 0 (m_X4_init_4 l Γ hb) gX2_init_X4_init_n3 rfl w0 rfl w1 rfl (by decide +kernel) rfl (by decide) rfl (Nat.le_of_ble_eq_true rfl) dX2_init_1 rfl (by omega) (by omega) (fun rv1 V2 hp3 => ?_)
  rw [hp3.1, hp3.2]
  show zG C V 1 n.toNat 4 [(0, .ref b), (1, .int (zI (n)))] []
  refine zr_aload_n X 5 0 dX2_init_4 rfl rfl ?_
  refine zr_iload_n X 6 1 dX2_init_5 rfl rfl ?_
  refine zr_iconst X 7 dX2_init_6 rfl ?_
  refine zr_mmax X 10 (n) w2 w3 w4 w5 (by decide) (Nat.le_of_ble_eq_true rfl) (by omega) (by omega) (by split <;> omega) dX2_init_7 rfl ?_
  refine zr_newac (kc' := (1 - 1)) (ks' := (n.toNat - (n).toNat)) X 12 tg w6 (by omega) dX2_init_10 rfl (by omega) (by omega) (fun q4 hq5 => ?_)
  refine zr_putF X 15 4 0 [.ref q4, .int (zI (0))] tyX2 hi0 ((zu_ne (zne_new hb hq5)).trans hb) rfl iX2 tyX2_ok nmX2 (by decide) w7 rfl rfl rfl rfl rfl (Nat.le_of_ble_eq_true rfl) rfl dX2_init_12 rfl ?_
  exact zr_vret X rfl ⟨rfl, q4, ⟨fun _ => 0, (zu_eq _ _ _ _), ((zu_ne (Ne.symm (zne_new hb hq5))).trans (zu_eq _ _ _ _)), z0c, by omega, by omega⟩, (zbt.full (zbt.rf) (zag.rf.new hq5)).put⟩ dX2_init_15
/-- a new window, with its row -/
def zwn (Γ : zGam) (V V' : zV) (tb b : Nat) (n : Int) : Prop := ∃ r : Nat, V r = none ∧ V' b = some (tb, .inr (6, [.ref r, .int (zI 0), .int (zI n), .int (zI n), .int (zI 0), .int (zI (-9))])) ∧ V' r = some (50, za Γ.2.1 1 n.toNat (fun _ => 0))
set_option maxRecDepth 100000 in
set_option maxHeartbeats 4000000 in
theorem m_X5_init (l : Launch) (Γ : zGam) {V : zV} {b tb : Nat} {n : Int} (hb : V b = some (tb, .inr (6, [.null, .int (zI (0)), .int (zI (0)), .int (zI (0)), .int (zI (0)), .int (zI (0))]))) (hn : 0 ≤ n ∧ n ≤ 40) : zM l Γ 4 yX5_init wsX5_init 1 n.toNat V [.ref b, .int (zI (n))] (fun rv V' => rv = none ∧ zWi Γ V' tb b n n 0 (-9) ∧ zbt b V V' ∧ zwn Γ V V' tb b n) := by
  have w0 : Cond.initialized yX4_init.cls ∈ wsX5_init := by decide +kernel
  have w1 : Cond.instanceMethod yX4_init ∈ wsX5_init := by decide +kernel
  have w2 : Cond.methodLink RX5 9 Lib.Math.max.name ∈ wsX5_init := by decide +kernel
  have w3 : Cond.static Lib.Math.max.name ∈ wsX5_init := by decide +kernel
  have w4 : Cond.initialized "java/lang/Math" ∈ wsX5_init := by decide +kernel
  have w5 : Cond.code Lib.Math.max.name Lib.Math.max.code 2 (some .int) ∈ wsX5_init := by decide +kernel
  have w6 : Cond.arrayClass .char ∈ wsX5_init := by decide +kernel
  have w7 : Cond.fieldLink RX5 15 "Sashwords$Window" "row" "[C" ∈ wsX5_init := by decide +kernel
  have iX5 : ∀ w ∈ u_ws RX5 TX5 6, w ∈ wsX5_init := by decide +kernel
  have w9 : Cond.fieldLink RX5 21 "Sashwords$Window" "capacity" "I" ∈ wsX5_init := by decide +kernel
  have w10 : Cond.fieldLink RX5 25 "Sashwords$Window" "limit" "I" ∈ wsX5_init := by decide +kernel
  have w11 : Cond.fieldLink RX5 28 "Sashwords$Window" "mark" "I" ∈ wsX5_init := by decide +kernel
  refine zM_of (cc := cX5_init) (nL := 2) (ret := none) (own := RX5) (by decide +kernel) rfl rfl (Nat.le_of_ble_eq_true rfl) (fun C X hi0 => ?_)
  have hi0 := hi0 rfl
  show zG C V 1 n.toNat 0 [(0, .ref b), (1, .int (zI (n)))] []
  refine zr_aload_n X 1 0 dX5_init_0 rfl rfl ?_
  refine zr_callIN (kc' := 1) (ks' := n.toNat) X 4 0 2 (m_X4_init_6 l Γ hb) gX5_init_X4_init_n3 rfl w0 rfl w1 rfl (by decide +kernel) rfl (by decide) rfl (Nat.le_of_ble_eq_true rfl) dX5_init_1 rfl (by omega) (by omega) (fun rv1 V2 hp3 => ?_)
  rw [hp3.1, hp3.2]
  show zG C V 1 n.toNat 4 [(0, .ref b), (1, .int (zI (n)))] []
  refine zr_aload_n X 5 0 dX5_init_4 rfl rfl ?_
  refine zr_iload_n X 6 1 dX5_init_5 rfl rfl ?_
  refine zr_iconst X 7 dX5_init_6 rfl ?_
  refine zr_mmax X 10 (n) w2 w3 w4 w5 (by decide) (Nat.le_of_ble_eq_true rfl) (by omega) (by omega) (by split <;> omega) dX5_init_7 rfl ?_
  refine zr_newac (kc' := (1 - 1)) (ks' := (n.toNat - (n).toNat)) X 12 50 w6 (by omega) dX5_init_10 rfl (by omega) (by omega) (fun q4 hq5 => ?_)
  refine zr_put X 15 6 0 [.ref q4, .int (zI (0)), .int (zI (0)), .int (zI (0)), .int (zI (0)), .int (zI (0))] tyX5 ((zu_ne (zne_new hb hq5)).trans hb) rfl iX5 tyX5_ok nmX5 (by decide) w7 rfl rfl rfl rfl (Nat.le_of_ble_eq_true rfl) rfl dX5_init_12 rfl ?_
  refine zr_aload_n X 16 0 dX5_init_15 rfl rfl ?_
  refine zr_aload_n X 17 0 dX5_init_16 rfl rfl ?_
  refine zr_get X 20 6 0 (zu_eq _ _ _ _) rfl iX5 (by decide) w7 rfl rfl dX5_init_17 rfl ?_
  refine zr_alen X 21 1 ((zu_ne (Ne.symm (zne_new hb hq5))).trans (zu_eq _ _ _ _)) (by decide) dX5_init_20 rfl ?_
  rw [show (((n).toNat : Nat) : Int) = n by omega]
  show zG C (zu (zu V q4 50 (za Γ.2.1 1 ((n).toNat) (fun _ => 0))) b tb (.inr (6, [.ref q4, .int (zI (0)), .int (zI (0)), .int (zI (0)), .int (zI (0)), .int (zI (0))]))) (1 - 1) (n.toNat - (n).toNat) 21 [(0, .ref b), (1, .int (zI (n)))] [.int (zI (n)), .ref b]
  refine zr_put X 24 6 2 [.ref q4, .int (zI (0)), .int (zI (n)), .int (zI (0)), .int (zI (0)), .int (zI (0))] tyX5 (zu_eq _ _ _ _) rfl iX5 tyX5_ok nmX5 (by decide) w9 rfl rfl rfl rfl (Nat.le_of_ble_eq_true rfl) rfl dX5_init_21 rfl ?_
  refine zr_view (zu_zu _ _ _ _ _ _) ?_
  refine zr_aload_n X 25 0 dX5_init_24 rfl rfl ?_
  refine zr_aload_n X 26 0 dX5_init_25 rfl rfl ?_
  refine zr_get X 29 6 0 (zu_eq _ _ _ _) rfl iX5 (by decide) w7 rfl rfl dX5_init_26 rfl ?_
  refine zr_alen X 30 1 ((zu_ne (Ne.symm (zne_new hb hq5))).trans (zu_eq _ _ _ _)) (by decide) dX5_init_29 rfl ?_
  rw [show (((n).toNat : Nat) : Int) = n by omega]
  show zG C (zu (zu V q4 50 (za Γ.2.1 1 ((n).toNat) (fun _ => 0))) b tb (.inr (6, [.ref q4, .int (zI (0)), .int (zI (n)), .int (zI (0)), .int (zI (0)), .int (zI (0))]))) (1 - 1) (n.toNat - (n).toNat) 30 [(0, .ref b), (1, .int (zI (n)))] [.int (zI (n)), .ref b]
  refine zr_put X 33 6 3 [.ref q4, .int (zI (0)), .int (zI (n)), .int (zI (n)), .int (zI (0)), .int (zI (0))] tyX5 (zu_eq _ _ _ _) rfl iX5 tyX5_ok nmX5 (by decide) w10 rfl rfl rfl rfl (Nat.le_of_ble_eq_true rfl) rfl dX5_init_30 rfl ?_
  refine zr_view (zu_zu _ _ _ _ _ _) ?_
  refine zr_aload_n X 34 0 dX5_init_33 rfl rfl ?_
  refine zr_bipush X 36 (-9) dX5_init_34 rfl (by decide) ?_
  refine zr_put X 39 6 5 [.ref q4, .int (zI (0)), .int (zI (n)), .int (zI (n)), .int (zI (0)), .int (zI (-9))] tyX5 (zu_eq _ _ _ _) rfl iX5 tyX5_ok nmX5 (by decide) w11 rfl rfl rfl rfl (Nat.le_of_ble_eq_true rfl) rfl dX5_init_36 rfl ?_
  refine zr_view (zu_zu _ _ _ _ _ _) ?_
  exact zr_vret X rfl ⟨rfl, ⟨q4, n.toNat, 0, fun _ => 0, (zu_eq _ _ _ _), ((zu_ne (Ne.symm (zne_new hb hq5))).trans (zu_eq _ _ _ _)), ⟨by omega, by omega, by omega, by omega, by omega, by omega, by omega, by omega⟩, z0c, by omega⟩, (zbt.full (zbt.rf) (zag.rf.new hq5)).put, ⟨q4, hq5, (zu_eq _ _ _ _), ((zu_ne (Ne.symm (zne_new hb hq5))).trans (zu_eq _ _ _ _))⟩⟩ dX5_init_39
set_option maxRecDepth 100000 in
set_option maxHeartbeats 4000000 in
theorem m_X0_init (l : Launch) (Γ : zGam) {V : zV} {b tb ta tc : Nat} (hb : V b = some (tb, .inr (2, [.null, .null, .int (zI (0))]))) (hne : ta ≠ tc) : zM l Γ 3 yX0_init wsX0_init 2 161 V [.ref b] (fun rv V' => rv = none ∧ ∃ ga ca, zBo Γ V' tb b ta ga tc ca ∧ zbt b V V') := by
  have w0 : Cond.methodLink RX0 3 objectInit ∈ wsX0_init := by decide +kernel
  have w1 : Cond.instanceMethod objectInit ∈ wsX0_init := by decide +kernel
  have w2 : Cond.code objectInit ⟨#[0xb1]⟩ 1 none ∈ wsX0_init := by decide +kernel
  have w3 : Cond.arrayClass .int ∈ wsX0_init := by decide +kernel
  have w4 : Cond.fieldLink RX0 9 "Sashwords$Borders" "greatest" "[I" ∈ wsX0_init := by decide +kernel
  have iX0 : ∀ w ∈ u_ws RX0 TX0 3, w ∈ wsX0_init := by decide +kernel
  have w6 : Cond.fieldLink RX0 15 "Sashwords$Borders" "chainRow" "[I" ∈ wsX0_init := by decide +kernel
  refine zM_of (cc := cX0_init) (nL := 1) (ret := none) (own := RX0) (by decide +kernel) rfl rfl (Nat.le_of_ble_eq_true rfl) (fun C X hi0 => ?_)
  have hi0 := hi0 rfl
  show zG C V 2 161 0 [(0, .ref b)] []
  refine zr_aload_n X 1 0 dX0_init_0 rfl rfl ?_
  refine zr_objInit X 4 hb rfl w0 w1 w2 (by decide) (Nat.le_of_ble_eq_true rfl) dX0_init_1 rfl ?_
  refine zr_aload_n X 5 0 dX0_init_4 rfl rfl ?_
  refine zr_bipush X 7 (81) dX0_init_5 rfl (by decide) ?_
  refine zr_newai (kc' := (2 - 1)) (ks' := (161 - (81 : Int).toNat)) X 9 ta w3 (by omega) dX0_init_7 rfl (by omega) (by omega) (fun q1 hq2 => ?_)
  refine zr_putF X 12 2 0 [.ref q1, .null, .int (zI (0))] tyX0 hi0 ((zu_ne (zne_new hb hq2)).trans hb) rfl iX0 tyX0_ok nmX0 (by decide) w4 rfl rfl rfl rfl rfl (Nat.le_of_ble_eq_true rfl) rfl dX0_init_9 rfl ?_
  refine zr_aload_n X 13 0 dX0_init_12 rfl rfl ?_
  refine zr_bipush X 15 (80) dX0_init_13 rfl (by decide) ?_
  refine zr_newai (kc' := ((2 - 1) - 1)) (ks' := ((161 - (81 : Int).toNat) - (80 : Int).toNat)) X 17 tc w3 (by omega) dX0_init_15 rfl (by omega) (by omega) (fun q3 hq4 => ?_)
  refine zr_putF X 20 2 1 [.ref q1, .ref q3, .int (zI (0))] tyX0 hi0 ((zu_ne (zne_new (zu_eq _ _ _ _) hq4)).trans (zu_eq _ _ _ _)) rfl iX0 tyX0_ok nmX0 (by decide) w6 rfl rfl rfl rfl rfl (Nat.le_of_ble_eq_true rfl) rfl dX0_init_17 rfl ?_
  exact zr_vret X rfl ⟨rfl, q1, q3, ⟨0, fun _ => 0, fun _ => 0, (zu_eq _ _ _ _), ((zu_ne (Ne.symm (zne_new hb hq2))).trans ((zu_ne (zne_new ((zu_ne (Ne.symm (zne_new hb hq2))).trans (zu_eq _ _ _ _)) hq4)).trans ((zu_ne (Ne.symm (zne_new hb hq2))).trans (zu_eq _ _ _ _)))), ((zu_ne (Ne.symm (zne_new (zu_eq _ _ _ _) hq4))).trans (zu_eq _ _ _ _)), z0b, z0b, by omega, by omega, ⟨rfl, rfl⟩⟩, (zbt.full ((zbt.full (zbt.rf) (zag.rf.new hq2)).put) (zag.rf.new hq4)).put⟩ dX0_init_20
set_option maxRecDepth 100000 in
set_option maxHeartbeats 4000000 in
theorem m_X1_init (l : Launch) (Γ : zGam) {V : zV} {b : Nat} (hb : V b = some (24, .inr (3, [.null, .null, .null, .int (zI (0))])))  : zM l Γ 5 yX1_init wsX1_init 9 343 V [.ref b] (fun rv V' => rv = none ∧ ∃ a1 a2 a3 g1 g2 g3, V' b = some (24, .inr (3, [.ref a1, .ref a2, .ref a3, .int (zI 4)])) ∧ zSc Γ V' 25 a1 26 g1 8 0 ∧ zSc Γ V' 27 a2 28 g2 160 0 ∧ zSc Γ V' 29 a3 30 g3 160 0 ∧ zbt b V V') := by
  have w0 : Cond.methodLink RX1 3 objectInit ∈ wsX1_init := by decide +kernel
  have w1 : Cond.instanceMethod objectInit ∈ wsX1_init := by decide +kernel
  have w2 : Cond.code objectInit ⟨#[0xb1]⟩ 1 none ∈ wsX1_init := by decide +kernel
  have w3 : Cond.classLink RX1 9 RX2 ∈ wsX1_init := by decide +kernel
  have w4 : Cond.instantiable RX2 2 ∈ wsX1_init := by decide +kernel
  have w5 : Cond.initialized RX2 ∈ wsX1_init := by decide +kernel
  have iX2 : ∀ w ∈ u_ws RX2 TX2 2, w ∈ wsX1_init := by decide +kernel
  have w7 : Cond.initialized yX2_init.cls ∈ wsX1_init := by decide +kernel
  have w8 : Cond.instanceMethod yX2_init ∈ wsX1_init := by decide +kernel
  have w9 : Cond.methodLink RX1 11 yX2_init ∈ wsX1_init := by decide +kernel
  have w10 : Cond.fieldLink RX1 14 "Sashwords$Pipe" "holds" "LSashwords$Script;" ∈ wsX1_init := by decide +kernel
  have iX1 : ∀ w ∈ u_ws RX1 TX1 4, w ∈ wsX1_init := by decide +kernel
  have w12 : Cond.fieldLink RX1 20 "Sashwords$Pipe" "sent" "LSashwords$Script;" ∈ wsX1_init := by decide +kernel
  have w13 : Cond.fieldLink RX1 23 "Sashwords$Pipe" "came" "LSashwords$Script;" ∈ wsX1_init := by decide +kernel
  have w14 : Cond.fieldLink RX1 26 "Sashwords$Pipe" "width" "I" ∈ wsX1_init := by decide +kernel
  refine zM_of (cc := cX1_init) (nL := 1) (ret := none) (own := RX1) (by decide +kernel) rfl rfl (Nat.le_of_ble_eq_true rfl) (fun C X hi0 => ?_)
  have hi0 := hi0 rfl
  show zG C V 9 343 0 [(0, .ref b)] []
  refine zr_aload_n X 1 0 dX1_init_0 rfl rfl ?_
  refine zr_objInit X 4 hb rfl w0 w1 w2 (by decide) (Nat.le_of_ble_eq_true rfl) dX1_init_1 rfl ?_
  refine zr_aload_n X 5 0 dX1_init_4 rfl rfl ?_
  refine zr_new (kc' := (9 - 1)) (ks' := (343 - 2)) X 8 4 25 [.null, .int (zI (0))] tyX2 rfl iX2 tyX2_ok w3 w4 w5 (zdf_X2) dX1_init_5 rfl (by omega) (by omega) (fun q1 hq2 => ?_)
  refine zr_dup X 9 dX1_init_8 rfl rfl ?_
  refine zr_bipush X 11 (8) dX1_init_9 rfl (by decide) ?_
  refine zr_callI (kc' := ((9 - 1) - 1)) (ks' := ((343 - 2) - ((8 : Int).toNat))) X 14 1 (m_X2_init l Γ (tg := 26) (n := 8) (zu_eq _ _ _ _) (by omega)) gX1_init_X2_init rfl w7 w9 w8 rfl (by decide +kernel) rfl (by decide) rfl (Nat.le_of_ble_eq_true rfl) dX1_init_11 rfl (by omega) (by omega) (fun rv3 V4 hp5 => ?_)
  obtain ⟨hp5e, hp5g, hp5s, hp5f⟩ := hp5
  rw [hp5e]
  have fr6 : zag zal V V4 := zbt.new hq2 hp5f
  have hc7 : V4 b = some (24, .inr (3, [.null, .null, .null, .int (zI (0))])) := fr6 _ _ _ hb trivial
  show zG C V4 ((9 - 1) - 1) ((343 - 2) - ((8 : Int).toNat)) 14 [(0, .ref b)] [.ref q1, .ref b]
  refine zr_putF X 17 3 0 [.ref q1, .null, .null, .int (zI (0))] tyX1 hi0 hc7 rfl iX1 tyX1_ok nmX1 (by decide) w10 rfl rfl rfl rfl rfl (Nat.le_of_ble_eq_true rfl) rfl dX1_init_14 rfl ?_
  refine zr_aload_n X 18 0 dX1_init_17 rfl rfl ?_
  refine zr_new (kc' := (((9 - 1) - 1) - 1)) (ks' := (((343 - 2) - ((8 : Int).toNat)) - 2)) X 21 4 27 [.null, .int (zI (0))] tyX2 rfl iX2 tyX2_ok w3 w4 w5 (zdf_X2) dX1_init_18 rfl (by omega) (by omega) (fun q8 hq9 => ?_)
  refine zr_dup X 22 dX1_init_21 rfl rfl ?_
  refine zr_sipush X 25 (160) dX1_init_22 rfl (by decide) ?_
  refine zr_callI (kc' := ((((9 - 1) - 1) - 1) - 1)) (ks' := ((((343 - 2) - ((8 : Int).toNat)) - 2) - ((160 : Int).toNat))) X 28 1 (m_X2_init l Γ (tg := 28) (n := 160) (zu_eq _ _ _ _) (by omega)) gX1_init_X2_init rfl w7 w9 w8 rfl (by decide +kernel) rfl (by decide) rfl (Nat.le_of_ble_eq_true rfl) dX1_init_25 rfl (by omega) (by omega) (fun rv10 V11 hp12 => ?_)
  obtain ⟨hp12e, hp12g, hp12s, hp12f⟩ := hp12
  rw [hp12e]
  have fr13 : zag zal (zu V4 b 24 (.inr (3, [.ref q1, .null, .null, .int (zI (0))]))) V11 := zbt.new hq9 hp12f
  have hc14 : V11 b = some (24, .inr (3, [.ref q1, .null, .null, .int (zI (0))])) := fr13 _ _ _ (zu_eq _ _ _ _) trivial
  show zG C V11 ((((9 - 1) - 1) - 1) - 1) ((((343 - 2) - ((8 : Int).toNat)) - 2) - ((160 : Int).toNat)) 28 [(0, .ref b)] [.ref q8, .ref b]
  refine zr_putF X 31 3 1 [.ref q1, .ref q8, .null, .int (zI (0))] tyX1 hi0 hc14 rfl iX1 tyX1_ok nmX1 (by decide) w12 rfl rfl rfl rfl rfl (Nat.le_of_ble_eq_true rfl) rfl dX1_init_28 rfl ?_
  refine zr_aload_n X 32 0 dX1_init_31 rfl rfl ?_
  refine zr_new (kc' := (((((9 - 1) - 1) - 1) - 1) - 1)) (ks' := (((((343 - 2) - ((8 : Int).toNat)) - 2) - ((160 : Int).toNat)) - 2)) X 35 4 29 [.null, .int (zI (0))] tyX2 rfl iX2 tyX2_ok w3 w4 w5 (zdf_X2) dX1_init_32 rfl (by omega) (by omega) (fun q15 hq16 => ?_)
  refine zr_dup X 36 dX1_init_35 rfl rfl ?_
  refine zr_sipush X 39 (160) dX1_init_36 rfl (by decide) ?_
  refine zr_callI (kc' := ((((((9 - 1) - 1) - 1) - 1) - 1) - 1)) (ks' := ((((((343 - 2) - ((8 : Int).toNat)) - 2) - ((160 : Int).toNat)) - 2) - ((160 : Int).toNat))) X 42 1 (m_X2_init l Γ (tg := 30) (n := 160) (zu_eq _ _ _ _) (by omega)) gX1_init_X2_init rfl w7 w9 w8 rfl (by decide +kernel) rfl (by decide) rfl (Nat.le_of_ble_eq_true rfl) dX1_init_39 rfl (by omega) (by omega) (fun rv17 V18 hp19 => ?_)
  obtain ⟨hp19e, hp19g, hp19s, hp19f⟩ := hp19
  rw [hp19e]
  have fr20 : zag zal (zu V11 b 24 (.inr (3, [.ref q1, .ref q8, .null, .int (zI (0))]))) V18 := zbt.new hq16 hp19f
  have hc21 : V18 b = some (24, .inr (3, [.ref q1, .ref q8, .null, .int (zI (0))])) := fr20 _ _ _ (zu_eq _ _ _ _) trivial
  show zG C V18 ((((((9 - 1) - 1) - 1) - 1) - 1) - 1) ((((((343 - 2) - ((8 : Int).toNat)) - 2) - ((160 : Int).toNat)) - 2) - ((160 : Int).toNat)) 42 [(0, .ref b)] [.ref q15, .ref b]
  refine zr_putF X 45 3 2 [.ref q1, .ref q8, .ref q15, .int (zI (0))] tyX1 hi0 hc21 rfl iX1 tyX1_ok nmX1 (by decide) w13 rfl rfl rfl rfl rfl (Nat.le_of_ble_eq_true rfl) rfl dX1_init_42 rfl ?_
  refine zr_aload_n X 46 0 dX1_init_45 rfl rfl ?_
  refine zr_iconst X 47 dX1_init_46 rfl ?_
  refine zr_put X 50 3 3 [.ref q1, .ref q8, .ref q15, .int (zI (4))] tyX1 (zu_eq _ _ _ _) rfl iX1 tyX1_ok nmX1 (by decide) w14 rfl rfl rfl rfl (Nat.le_of_ble_eq_true rfl) rfl dX1_init_47 rfl ?_
  refine zr_view (zu_zu _ _ _ _ _ _) ?_
  have en22 : zbt b V18 (zu V18 b 24 (.inr (3, [.ref q1, .ref q8, .ref q15, .int (zI (4))]))) := (zbt.rf).put
  have en23 : zbt b V11 (zu V18 b 24 (.inr (3, [.ref q1, .ref q8, .ref q15, .int (zI (4))]))) := (zbt.full ((zbt.rf).put) fr20).tr en22
  have en24 : zbt b V4 (zu V18 b 24 (.inr (3, [.ref q1, .ref q8, .ref q15, .int (zI (4))]))) := (zbt.full ((zbt.rf).put) fr13).tr en23
  have en25 : zbt b V (zu V18 b 24 (.inr (3, [.ref q1, .ref q8, .ref q15, .int (zI (4))]))) := (zbt.full (zbt.rf) fr6).tr en24
  have fa26 := hp5s.kept (en24.ag hc7) (by decide) (by decide)
  have fa27 := hp12s.kept (en23.ag hc14) (by decide) (by decide)
  have fa28 := hp19s.kept (en22.ag hc21) (by decide) (by decide)
  exact zr_vret X rfl ⟨rfl, q1, q8, q15, hp5g, hp12g, hp19g, (zu_eq _ _ _ _), fa26, fa27, fa28, en25⟩ dX1_init_50
set_option maxRecDepth 100000 in
set_option maxHeartbeats 4000000 in
theorem m_X3_init (l : Launch) (Γ : zGam) {V : zV} {b tb tp tt ta tc : Nat} (hb : V b = some (tb, .inr (5, [.null, .null, .int (zI (0))]))) (hne : ta ≠ tc ∧ tt ≠ tb ∧ ta ≠ tb ∧ tc ≠ tb) : zM l Γ 4 yX3_init wsX3_init 4 245 V [.ref b] (fun rv V' => rv = none ∧ ∃ pl bo ga ca, zSk Γ V' tb b tp pl bo ∧ zBo Γ V' tt bo ta ga tc ca ∧ zbt b V V') := by
  have w0 : Cond.methodLink RX3 3 objectInit ∈ wsX3_init := by decide +kernel
  have w1 : Cond.instanceMethod objectInit ∈ wsX3_init := by decide +kernel
  have w2 : Cond.code objectInit ⟨#[0xb1]⟩ 1 none ∈ wsX3_init := by decide +kernel
  have w3 : Cond.classLink RX3 9 RX0 ∈ wsX3_init := by decide +kernel
  have w4 : Cond.instantiable RX0 3 ∈ wsX3_init := by decide +kernel
  have w5 : Cond.initialized RX0 ∈ wsX3_init := by decide +kernel
  have iX0 : ∀ w ∈ u_ws RX0 TX0 3, w ∈ wsX3_init := by decide +kernel
  have w7 : Cond.initialized yX0_init.cls ∈ wsX3_init := by decide +kernel
  have w8 : Cond.instanceMethod yX0_init ∈ wsX3_init := by decide +kernel
  have w9 : Cond.fieldLink RX3 12 "Sashwords$Seeker" "borders" "LSashwords$Borders;" ∈ wsX3_init := by decide +kernel
  have iX3 : ∀ w ∈ u_ws RX3 TX3 3, w ∈ wsX3_init := by decide +kernel
  have w11 : Cond.arrayClass .int ∈ wsX3_init := by decide +kernel
  have w12 : Cond.fieldLink RX3 18 "Sashwords$Seeker" "places" "[I" ∈ wsX3_init := by decide +kernel
  refine zM_of (cc := cX3_init) (nL := 1) (ret := none) (own := RX3) (by decide +kernel) rfl rfl (Nat.le_of_ble_eq_true rfl) (fun C X hi0 => ?_)
  have hi0 := hi0 rfl
  show zG C V 4 245 0 [(0, .ref b)] []
  refine zr_aload_n X 1 0 dX3_init_0 rfl rfl ?_
  refine zr_objInit X 4 hb rfl w0 w1 w2 (by decide) (Nat.le_of_ble_eq_true rfl) dX3_init_1 rfl ?_
  refine zr_aload_n X 5 0 dX3_init_4 rfl rfl ?_
  refine zr_new (kc' := (4 - 1)) (ks' := (245 - 3)) X 8 2 tt [.null, .null, .int (zI (0))] tyX0 rfl iX0 tyX0_ok w3 w4 w5 (zdf_X0) dX3_init_5 rfl (by omega) (by omega) (fun q1 hq2 => ?_)
  refine zr_dup X 9 dX3_init_8 rfl rfl ?_
  refine zr_callIN (kc' := ((4 - 1) - 2)) (ks' := ((245 - 3) - 161)) X 12 0 4 (m_X0_init l Γ (ta := ta) (tc := tc) (zu_eq _ _ _ _) (by omega)) gX3_init_X0_init_n11 rfl w7 rfl w8 rfl (by decide +kernel) rfl (by decide) rfl (Nat.le_of_ble_eq_true rfl) dX3_init_9 rfl (by omega) (by omega) (fun rv3 V4 hp5 => ?_)
  obtain ⟨hp5e, hp5g, hp5c, hp5s, hp5f⟩ := hp5
  rw [hp5e]
  have fr6 : zag zal V V4 := zbt.new hq2 hp5f
  have hc7 : V4 b = some (tb, .inr (5, [.null, .null, .int (zI (0))])) := fr6 _ _ _ hb trivial
  show zG C V4 ((4 - 1) - 2) ((245 - 3) - 161) 12 [(0, .ref b)] [.ref q1, .ref b]
  refine zr_putF X 15 5 0 [.ref q1, .null, .int (zI (0))] tyX3 hi0 hc7 rfl iX3 tyX3_ok nmX3 (by decide) w9 rfl rfl rfl rfl rfl (Nat.le_of_ble_eq_true rfl) rfl dX3_init_12 rfl ?_
  refine zr_aload_n X 16 0 dX3_init_15 rfl rfl ?_
  refine zr_bipush X 18 (81) dX3_init_16 rfl (by decide) ?_
  refine zr_newai (kc' := (((4 - 1) - 2) - 1)) (ks' := (((245 - 3) - 161) - (81 : Int).toNat)) X 20 tp w11 (by omega) dX3_init_18 rfl (by omega) (by omega) (fun q8 hq9 => ?_)
  refine zr_putF X 23 5 1 [.ref q1, .ref q8, .int (zI (0))] tyX3 hi0 ((zu_ne (zne_new (zu_eq _ _ _ _) hq9)).trans (zu_eq _ _ _ _)) rfl iX3 tyX3_ok nmX3 (by decide) w12 rfl rfl rfl rfl rfl (Nat.le_of_ble_eq_true rfl) rfl dX3_init_20 rfl ?_
  have en10 : zbt b V4 (zu (zu (zu V4 b tb (.inr (5, [.ref q1, .null, .int (zI (0))]))) q8 tp (za Γ.2.1 0 ((81 : Int).toNat) (fun _ => 0))) b tb (.inr (5, [.ref q1, .ref q8, .int (zI (0))]))) := (zbt.full ((zbt.rf).put) (zag.rf.new hq9)).put
  have en11 : zbt b V (zu (zu (zu V4 b tb (.inr (5, [.ref q1, .null, .int (zI (0))]))) q8 tp (za Γ.2.1 0 ((81 : Int).toNat) (fun _ => 0))) b tb (.inr (5, [.ref q1, .ref q8, .int (zI (0))]))) := (zbt.full zbt.rf fr6).tr en10
  have fa12 := hp5s.kept (en10.ag hc7) (by omega) (by omega) (by omega)
  exact zr_vret X rfl ⟨rfl, q8, q1, hp5g, hp5c, ⟨0, fun _ => 0, (zu_eq _ _ _ _), ((zu_ne (Ne.symm (zne_new (zu_eq _ _ _ _) hq9))).trans (zu_eq _ _ _ _)), z0p, by omega, by omega⟩, fa12, en11⟩ dX3_init_23
