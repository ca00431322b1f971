/-! class Script -/
/-- signs -/
def zc (f : Nat → Int) : Prop := ∀ j, 0 ≤ f j ∧ f j ≤ 255
theorem zc_zf {f : Nat → Int} (h : zc f) {i : Nat} {x : Int} (hx : 0 ≤ x ∧ x ≤ 255) : zc (zf f i x) := by
  intro j
  unfold zf
  split
  · exact hx
  · exact h j
theorem zc_zero : zc (fun _ => 0) := fun _ => ⟨Int.le_refl _, (by decide : (0 : Int) ≤ 255)⟩
set_option maxRecDepth 100000 in
set_option maxHeartbeats 4000000 in
theorem m_X2_size (l : Launch) (Γ : zGam) {V : zV} {b g tb : Nat} {len : Int} (hb : V b = some (tb, .inr (4, [.ref g, .int (zI len)]))) : zM l Γ 0 yX2_size wsX2_size 0 0 V [.ref b] (fun rv V' => rv = some (.int (zI len)) ∧ V' = V) := by
  have w0 : Cond.fieldLink RX2 21 "Sashwords$Script" "length" "I" ∈ wsX2_size := by decide +kernel
  have iX2 : ∀ w ∈ u_ws RX2 TX2 2, w ∈ wsX2_size := by decide +kernel
  refine zM_of (cc := cX2_size) (nL := 1) (ret := (some .int)) (own := RX2) (by decide +kernel) rfl rfl (Nat.le_of_ble_eq_true rfl) (fun C X hi0 => ?_)
  show zG C V 0 0 0 [(0, .ref b)] []
  refine zr_aload_n X 1 0 dX2_size_0 rfl rfl ?_
  refine zr_get X 4 4 1 hb rfl iX2 (by decide) w0 rfl rfl dX2_size_1 rfl ?_
  exact zr_iret X rfl ⟨rfl, rfl⟩ dX2_size_4
set_option maxRecDepth 100000 in
set_option maxHeartbeats 4000000 in
theorem m_X2_at (l : Launch) (Γ : zGam) {V : zV} {b g tb tg n : Nat} {len : Int} {f : Nat → Int} {k : Int} (hb : V b = some (tb, .inr (4, [.ref g, .int (zI len)]))) (hg : V g = some (tg, za Γ.2.1 1 n f)) (hn : 0 ≤ len ∧ len ≤ n ∧ n ≤ 1000) (hk : -2147483648 ≤ k ∧ k ≤ 2147483647) : zM l Γ 0 yX2_at wsX2_at 0 0 V [.ref b, .int (zI (k))] (fun rv V' => rv = some (.int (zI (if 0 ≤ k ∧ k < len then f k.toNat else -9))) ∧ V' = V) := by
  have w0 : Cond.fieldLink RX2 21 "Sashwords$Script" "length" "I" ∈ wsX2_at := by decide +kernel
  have iX2 : ∀ w ∈ u_ws RX2 TX2 2, w ∈ wsX2_at := by decide +kernel
  have w2 : Cond.fieldLink RX2 15 "Sashwords$Script" "signs" "[C" ∈ wsX2_at := by decide +kernel
  refine zM_of (cc := cX2_at) (nL := 2) (ret := (some .int)) (own := RX2) (by decide +kernel) rfl rfl (Nat.le_of_ble_eq_true rfl) (fun C X hi0 => ?_)
  show zG C V 0 0 0 [(0, .ref b), (1, .int (zI (k)))] []
  refine zr_iload_n X 1 1 dX2_at_0 rfl rfl ?_
  refine zr_if_lt X 21 4 dX2_at_1 rfl rfl (by first | with_reducible assumption | decide | omega) (fun bq1 => ?_) (fun bq1 => ?_)
  · refine zr_bipush X 23 (-9) dX2_at_21 rfl (by decide) ?_
    refine zr_goto X 32 dX2_at_23 rfl ?_
    exact zr_iret X rfl ⟨by rw [if_neg (by first | with_reducible assumption | decide | omega)], rfl⟩ dX2_at_32
  · refine zr_iload_n X 5 1 dX2_at_4 rfl rfl ?_
    refine zr_aload_n X 6 0 dX2_at_5 rfl rfl ?_
    refine zr_get X 9 4 1 hb rfl iX2 (by decide) w0 rfl rfl dX2_at_6 rfl ?_
    refine zr_icmp_ge X 21 12 dX2_at_9 rfl rfl (by first | with_reducible assumption | decide | omega) (by first | with_reducible assumption | decide | omega) (fun bq2 => ?_) (fun bq2 => ?_)
    · refine zr_bipush X 23 (-9) dX2_at_21 rfl (by decide) ?_
      refine zr_goto X 32 dX2_at_23 rfl ?_
      exact zr_iret X rfl ⟨by rw [if_neg (by first | with_reducible assumption | decide | omega)], rfl⟩ dX2_at_32
    · refine zr_iload_n X 13 1 dX2_at_12 rfl rfl ?_
      refine zr_aload_n X 14 0 dX2_at_13 rfl rfl ?_
      refine zr_get X 17 4 0 hb rfl iX2 (by decide) w2 rfl rfl dX2_at_14 rfl ?_
      refine zr_alen X 18 1 hg (by decide) dX2_at_17 rfl ?_
      refine zr_icmp_lt X 26 21 dX2_at_18 rfl rfl (by first | with_reducible assumption | decide | omega) (by first | with_reducible assumption | decide | omega) (fun bq3 => ?_) (fun bq3 => ?_)
      · refine zr_aload_n X 27 0 dX2_at_26 rfl rfl ?_
        refine zr_get X 30 4 0 hb rfl iX2 (by decide) w2 rfl rfl dX2_at_27 rfl ?_
        refine zr_iload_n X 31 1 dX2_at_30 rfl rfl ?_
        refine zr_cald X 32 hg (by first | with_reducible assumption | decide | omega) dX2_at_31 rfl ?_
        exact zr_iret X rfl ⟨by rw [if_pos (by first | with_reducible assumption | decide | omega)], rfl⟩ dX2_at_32
      · refine zr_bipush X 23 (-9) dX2_at_21 rfl (by decide) ?_
        refine zr_goto X 32 dX2_at_23 rfl ?_
        exact zr_iret X rfl ⟨by rw [if_neg (by first | with_reducible assumption | decide | omega)], rfl⟩ dX2_at_32
set_option maxRecDepth 100000 in
set_option maxHeartbeats 4000000 in
theorem m_X2_isFull (l : Launch) (Γ : zGam) {V : zV} {b g tb tg n : Nat} {len : Int} {f : Nat → Int} (hb : V b = some (tb, .inr (4, [.ref g, .int (zI len)]))) (hg : V g = some (tg, za Γ.2.1 1 n f)) (hn : 0 ≤ len ∧ len ≤ n ∧ n ≤ 1000) : zM l Γ 0 yX2_isFull wsX2_isFull 0 0 V [.ref b] (fun rv V' => rv = some (.int (zI (if (n : Int) ≤ len then 1 else 0))) ∧ V' = V) := by
  have w0 : Cond.fieldLink RX2 21 "Sashwords$Script" "length" "I" ∈ wsX2_isFull := by decide +kernel
  have iX2 : ∀ w ∈ u_ws RX2 TX2 2, w ∈ wsX2_isFull := by decide +kernel
  have w2 : Cond.fieldLink RX2 15 "Sashwords$Script" "signs" "[C" ∈ wsX2_isFull := by decide +kernel
  refine zM_of (cc := cX2_isFull) (nL := 1) (ret := (some .boolean)) (own := RX2) (by decide +kernel) rfl rfl (Nat.le_of_ble_eq_true rfl) (fun C X hi0 => ?_)
  show zG C V 0 0 0 [(0, .ref b)] []
  refine zr_aload_n X 1 0 dX2_isFull_0 rfl rfl ?_
  refine zr_get X 4 4 1 hb rfl iX2 (by decide) w0 rfl rfl dX2_isFull_1 rfl ?_
  refine zr_aload_n X 5 0 dX2_isFull_4 rfl rfl ?_
  refine zr_get X 8 4 0 hb rfl iX2 (by decide) w2 rfl rfl dX2_isFull_5 rfl ?_
  refine zr_alen X 9 1 hg (by decide) dX2_isFull_8 rfl ?_
  refine zr_icmp_lt X 16 12 dX2_isFull_9 rfl rfl (by first | with_reducible assumption | decide | omega) (by first | with_reducible assumption | decide | omega) (fun bq1 => ?_) (fun bq1 => ?_)
  · refine zr_iconst X 17 dX2_isFull_16 rfl ?_
    exact zr_zret X rfl rfl ⟨by rw [if_neg (by first | with_reducible assumption | decide | omega)], rfl⟩ dX2_isFull_17
  · refine zr_iconst X 13 dX2_isFull_12 rfl ?_
    refine zr_goto X 17 dX2_isFull_13 rfl ?_
    exact zr_zret X rfl rfl ⟨by rw [if_pos (by first | with_reducible assumption | decide | omega)], rfl⟩ dX2_isFull_17
set_option maxRecDepth 100000 in
set_option maxHeartbeats 4000000 in
theorem m_X2_clear (l : Launch) (Γ : zGam) {V : zV} {b g tb : Nat} {len : Int} (hb : V b = some (tb, .inr (4, [.ref g, .int (zI len)]))) : zM l Γ 0 yX2_clear wsX2_clear 0 0 V [.ref b] (fun rv V' => rv = none ∧ V' = zu V b tb (.inr (4, [.ref g, .int (zI 0)]))) := by
  have w0 : Cond.fieldLink RX2 21 "Sashwords$Script" "length" "I" ∈ wsX2_clear := by decide +kernel
  have iX2 : ∀ w ∈ u_ws RX2 TX2 2, w ∈ wsX2_clear := by decide +kernel
  refine zM_of (cc := cX2_clear) (nL := 1) (ret := none) (own := RX2) (by decide +kernel) rfl rfl (Nat.le_of_ble_eq_true rfl) (fun C X hi0 => ?_)
  show zG C V 0 0 0 [(0, .ref b)] []
  refine zr_aload_n X 1 0 dX2_clear_0 rfl rfl ?_
  refine zr_iconst X 2 dX2_clear_1 rfl ?_
  refine zr_put X 5 4 1 [.ref g, .int (zI (0))] tyX2 hb rfl iX2 tyX2_ok nmX2 (by decide) w0 rfl rfl rfl rfl (Nat.le_of_ble_eq_true rfl) rfl dX2_clear_2 rfl ?_
  exact zr_vret X rfl ⟨rfl, rfl⟩ dX2_clear_5
set_option maxRecDepth 100000 in
set_option maxHeartbeats 4000000 in
theorem m_X2_add (l : Launch) (Γ : zGam) {V : zV} {b g tb tg n : Nat} {len : Int} {f : Nat → Int} {x : Int} (hb : V b = some (tb, .inr (4, [.ref g, .int (zI len)]))) (hg : V g = some (tg, za Γ.2.1 1 n f)) (hn : 0 ≤ len ∧ len ≤ n ∧ n ≤ 1000) (hx : 0 ≤ x ∧ x ≤ 255) (hlt : len < n) : zM l Γ 0 yX2_add wsX2_add 0 0 V [.ref b, .int (zI (x))] (fun rv V' => rv = none ∧ V' = zu (zu V g tg (za Γ.2.1 1 n (zf f len.toNat x))) b tb (.inr (4, [.ref g, .int (zI (len + 1))]))) := by
  have w0 : Cond.fieldLink RX2 21 "Sashwords$Script" "length" "I" ∈ wsX2_add := by decide +kernel
  have iX2 : ∀ w ∈ u_ws RX2 TX2 2, w ∈ wsX2_add := by decide +kernel
  have w2 : Cond.fieldLink RX2 15 "Sashwords$Script" "signs" "[C" ∈ wsX2_add := by decide +kernel
  refine zM_of (cc := cX2_add) (nL := 2) (ret := none) (own := RX2) (by decide +kernel) rfl rfl (Nat.le_of_ble_eq_true rfl) (fun C X hi0 => ?_)
  show zG C V 0 0 0 [(0, .ref b), (1, .int (zI (x)))] []
  refine zr_aload_n X 1 0 dX2_add_0 rfl rfl ?_
  refine zr_get X 4 4 1 hb rfl iX2 (by decide) w0 rfl rfl dX2_add_1 rfl ?_
  refine zr_if_lt X 40 7 dX2_add_4 rfl rfl (by first | with_reducible assumption | decide | omega) (fun bq1 => ?_) (fun bq1 => ?_)
  · exact zr_vret X rfl (by exfalso; omega) dX2_add_40
  · refine zr_aload_n X 8 0 dX2_add_7 rfl rfl ?_
    refine zr_get X 11 4 1 hb rfl iX2 (by decide) w0 rfl rfl dX2_add_8 rfl ?_
    refine zr_aload_n X 12 0 dX2_add_11 rfl rfl ?_
    refine zr_get X 15 4 0 hb rfl iX2 (by decide) w2 rfl rfl dX2_add_12 rfl ?_
    refine zr_alen X 16 1 hg (by decide) dX2_add_15 rfl ?_
    refine zr_icmp_ge X 40 19 dX2_add_16 rfl rfl (by first | with_reducible assumption | decide | omega) (by first | with_reducible assumption | decide | omega) (fun bq2 => ?_) (fun bq2 => ?_)
    · exact zr_vret X rfl (by exfalso; omega) dX2_add_40
    · refine zr_aload_n X 20 0 dX2_add_19 rfl rfl ?_
      refine zr_get X 23 4 0 hb rfl iX2 (by decide) w2 rfl rfl dX2_add_20 rfl ?_
      refine zr_aload_n X 24 0 dX2_add_23 rfl rfl ?_
      refine zr_get X 27 4 1 hb rfl iX2 (by decide) w0 rfl rfl dX2_add_24 rfl ?_
      refine zr_iload_n X 28 1 dX2_add_27 rfl rfl ?_
      refine zr_i2cI X 29 dX2_add_28 rfl (by first | with_reducible assumption | decide | omega) ?_
      refine zr_cast X 30 hg (by first | with_reducible assumption | decide | omega) (by first | with_reducible assumption | decide | omega) dX2_add_29 rfl ?_
      refine zr_aload_n X 31 0 dX2_add_30 rfl rfl ?_
      refine zr_dup X 32 dX2_add_31 rfl rfl ?_
      refine zr_get X 35 4 1 ((zu_ne (zne_oa hb hg)).trans hb) rfl iX2 (by decide) w0 rfl rfl dX2_add_32 rfl ?_
      refine zr_iconst X 36 dX2_add_35 rfl ?_
      refine zr_iadd X 37 dX2_add_36 rfl ?_
      refine zr_put X 40 4 1 [.ref g, .int (zI (len + 1))] tyX2 ((zu_ne (zne_oa hb hg)).trans hb) rfl iX2 tyX2_ok nmX2 (by decide) w0 rfl rfl rfl rfl (Nat.le_of_ble_eq_true rfl) rfl dX2_add_37 rfl ?_
      exact zr_vret X rfl ⟨rfl, rfl⟩ dX2_add_40
set_option maxRecDepth 100000 in
set_option maxHeartbeats 4000000 in
theorem m_X2_exchange (l : Launch) (Γ : zGam) {V : zV} {b g tb tg n : Nat} {len : Int} {f : Nat → Int} {p x : Int} (hb : V b = some (tb, .inr (4, [.ref g, .int (zI len)]))) (hg : V g = some (tg, za Γ.2.1 1 n f)) (hn : 0 ≤ len ∧ len ≤ n ∧ n ≤ 1000) (hx : 0 ≤ x ∧ x ≤ 255) (hp : 0 ≤ p ∧ p < len) : zM l Γ 1 yX2_exchange wsX2_exchange 0 0 V [.ref b, .int (zI (p)), .int (zI (x))] (fun rv V' => rv = some (.int (zI (f p.toNat))) ∧ V' = zu V g tg (za Γ.2.1 1 n (zf f p.toNat x))) := by
  have w0 : Cond.fieldLink RX2 15 "Sashwords$Script" "signs" "[C" ∈ wsX2_exchange := by decide +kernel
  have iX2 : ∀ w ∈ u_ws RX2 TX2 2, w ∈ wsX2_exchange := by decide +kernel
  refine zM_of (cc := cX2_exchange) (nL := 4) (ret := (some .int)) (own := RX2) (by decide +kernel) rfl rfl (Nat.le_of_ble_eq_true rfl) (fun C X hi0 => ?_)
  show zG C V 0 0 0 [(0, .ref b), (1, .int (zI (p))), (2, .int (zI (x)))] []
  refine zr_aload_n X 1 0 dX2_exchange_0 rfl rfl ?_
  refine zr_iload_n X 2 1 dX2_exchange_1 rfl rfl ?_
  refine zr_callV (kc' := 0) (ks' := 0) X 5 1 (m_X2_at l Γ (k := p) hb hg hn (by first | with_reducible assumption | decide | omega)) gX2_exchange_X2_at rfl (by decide +kernel) rfl (by decide) hb rfl rfl (Nat.le_of_ble_eq_true rfl) dX2_exchange_2 rfl (by first | with_reducible assumption | decide | omega) (by first | with_reducible assumption | decide | omega) (fun rv1 V2 hp3 => ?_)
  rw [hp3.1, hp3.2]
  rw [if_pos (show (0 : Int) ≤ p ∧ p < len by omega)]
  show zG C V 0 0 5 [(0, .ref b), (1, .int (zI (p))), (2, .int (zI (x)))] [.int (zI (f p.toNat))]
  refine zr_istore_n X 6 [(3, .int (zI (f p.toNat))), (0, .ref b), (1, .int (zI (p))), (2, .int (zI (x)))] dX2_exchange_5 rfl (by decide) rfl ?_
  refine zr_iload_n X 7 2 dX2_exchange_6 rfl rfl ?_
  refine zr_if_lt X 27 10 dX2_exchange_7 rfl rfl (by first | with_reducible assumption | decide | omega) (fun bq4 => ?_) (fun bq4 => ?_)
  · refine zr_iload_n X 28 0 dX2_exchange_27 rfl rfl ?_
    exact zr_iret X rfl (by exfalso; omega) dX2_exchange_28
  · refine zr_iload_n X 11 2 dX2_exchange_10 rfl rfl ?_
    refine zr_aload_n X 12 1 dX2_exchange_11 rfl rfl ?_
    refine zr_get X 15 4 0 hb rfl iX2 (by decide) w0 rfl rfl dX2_exchange_12 rfl ?_
    refine zr_alen X 16 1 hg (by decide) dX2_exchange_15 rfl ?_
    refine zr_icmp_ge X 27 19 dX2_exchange_16 rfl rfl (by first | with_reducible assumption | decide | omega) (by first | with_reducible assumption | decide | omega) (fun bq5 => ?_) (fun bq5 => ?_)
    · refine zr_iload_n X 28 0 dX2_exchange_27 rfl rfl ?_
      exact zr_iret X rfl (by exfalso; omega) dX2_exchange_28
    · refine zr_aload_n X 20 1 dX2_exchange_19 rfl rfl ?_
      refine zr_get X 23 4 0 hb rfl iX2 (by decide) w0 rfl rfl dX2_exchange_20 rfl ?_
      refine zr_iload_n X 24 2 dX2_exchange_23 rfl rfl ?_
      refine zr_iload_n X 25 3 dX2_exchange_24 rfl rfl ?_
      refine zr_i2cI X 26 dX2_exchange_25 rfl (by first | with_reducible assumption | decide | omega) ?_
      refine zr_cast X 27 hg (by first | with_reducible assumption | decide | omega) (by first | with_reducible assumption | decide | omega) dX2_exchange_26 rfl ?_
      refine zr_iload_n X 28 0 dX2_exchange_27 rfl rfl ?_
      exact zr_iret X rfl ⟨rfl, rfl⟩ dX2_exchange_28
/-- what stands at o (and, of signs, at r) is a text of m signs, h the sign at each place -/
def zTx (Γ : zGam) (V : zV) (o r : Nat) (m : Int) (h : Int → Int) : Prop :=
  (∃ (to tr n : Nat) (st cap lim pos mk : Int) (f : Nat → Int), V o = some (to, .inr (6, [.ref r, .int (zI st), .int (zI cap), .int (zI lim), .int (zI pos), .int (zI mk)])) ∧ V r = some (tr, za Γ.2.1 1 n f) ∧ zWb st cap lim pos mk n ∧ zc f ∧ m = lim - pos ∧ h = fun k => f (st + pos + k).toNat) ∨
  (∃ (to tr n : Nat) (f : Nat → Int), V o = some (to, .inr (4, [.ref r, .int (zI m)])) ∧ V r = some (tr, za Γ.2.1 1 n f) ∧ (0 ≤ m ∧ m ≤ n ∧ n ≤ 1000) ∧ zc f ∧ h = fun k => f k.toNat)
theorem zTx.rg {Γ : zGam} {V : zV} {o r : Nat} {m : Int} {h : Int → Int} (hT : zTx Γ V o r m h) : 0 ≤ m ∧ m ≤ 1000 ∧ ∀ k, 0 ≤ h k ∧ h k ≤ 255 := by
  rcases hT with ⟨to, tr, n, st, cap, lim, pos, mk, f, h1, h2, h3, h4, h5, h6⟩ | ⟨to, tr, n, f, h1, h2, h3, h4, h5⟩
  · obtain ⟨b1, b2, b3, b4, b5, b6, b7, b8⟩ := h3
    exact ⟨by omega, by omega, fun k => by rw [h6]; exact h4 _⟩
  · exact ⟨by omega, by omega, fun k => by rw [h5]; exact h4 _⟩
theorem zTx.kept {Γ : zGam} {V V' : zV} {o r : Nat} {m : Int} {h : Int → Int} (hT : zTx Γ V o r m h) (h1 : V' o = V o) (h2 : V' r = V r) : zTx Γ V' o r m h := by
  unfold zTx
  rw [h1, h2]
  exact hT
theorem zTx_if {m : Int} {h : Int → Int} (hh : ∀ k, 0 ≤ h k ∧ h k ≤ 255) (k : Int) : ∃ x : Int, (if 0 ≤ k ∧ k < m then h k else -9) = x ∧ -9 ≤ x ∧ x ≤ 255 ∧ (0 ≤ x → 0 ≤ k ∧ k < m) := by
  have h1 := hh k
  by_cases c : 0 ≤ k ∧ k < m
  · exact ⟨h k, if_pos c, by omega, by omega, fun _ => c⟩
  · exact ⟨-9, if_neg c, by omega, by omega, fun h => by omega⟩
section ZTX
variable {C : zC} {l0 : Launch} {Γ0 : zGam} {n0 : Nat} {own : String} {cc : ByteArray} {ws : List Cond} {d : Nat} {ret : Option FieldType} {Post : Option Value → zV → Prop} {V : zV} {kc ks pc : Nat} {lv : List (Nat × Value)} {rest : List Value}
theorem zr_txSize (X : zK C l0 Γ0 n0 own cc ws d ret Post) (n' : Nat) {index o r : Nat} {m : Int} {h : Int → Int} (hT : zTx Γ0 V o r m h) (g5 : GoodIn ws (va_wsU own index RX5 "Sashwords$Text" ⟨"Sashwords$Text", "size", "()I"⟩ yX5_size wsX5_size)) (g2 : GoodIn ws (va_wsU own index RX2 "Sashwords$Text" ⟨"Sashwords$Text", "size", "()I"⟩ yX2_size wsX2_size)) (hd : 2 ≤ d) (hcat : (rest.map fun v => v.category).sum ≤ 8) (hdg : decode cc pc = .ok (.invokevirtual index, 3)) (hn : pc + 3 = n') (kk : zG C V kc ks n' lv (.int (zI m) :: rest)) : zG C V kc ks pc lv (.ref o :: rest) := by
  rcases hT with ⟨to, tr, n, st, cap, lim, pos, mk, f, h1, h2, h3, h4, h5, h6⟩ | ⟨to, tr, n, f, h1, h2, h3, h4, h5⟩
  · obtain ⟨b1, b2, b3, b4, b5, b6, b7, b8⟩ := h3
    refine zr_callU (kc' := kc) (ks' := ks) X n' 0 (m_X5_size l0 Γ0 h1 (by first | with_reducible assumption | decide | omega)) g5 rfl (by decide) (by decide +kernel) rfl (by first | with_reducible assumption | decide | omega) h1 rfl rfl hcat hdg hn (by first | with_reducible assumption | decide | omega) (by first | with_reducible assumption | decide | omega) (fun rv V1 hp => ?_)
    rw [hp.1, hp.2, ← h5]
    exact kk
  · refine zr_callU (kc' := kc) (ks' := ks) X n' 0 (m_X2_size l0 Γ0 h1) g2 rfl (by decide) (by decide +kernel) rfl (by first | with_reducible assumption | decide | omega) h1 rfl rfl hcat hdg hn (by first | with_reducible assumption | decide | omega) (by first | with_reducible assumption | decide | omega) (fun rv V1 hp => ?_)
    rw [hp.1, hp.2]
    exact kk
theorem zr_txAt (X : zK C l0 Γ0 n0 own cc ws d ret Post) (n' : Nat) {index o r : Nat} {m k : Int} {h : Int → Int} (hT : zTx Γ0 V o r m h) (hk : -2147483648 ≤ k ∧ k ≤ 2147483647) (g5 : GoodIn ws (va_wsU own index RX5 "Sashwords$Text" ⟨"Sashwords$Text", "at", "(I)I"⟩ yX5_at wsX5_at)) (g2 : GoodIn ws (va_wsU own index RX2 "Sashwords$Text" ⟨"Sashwords$Text", "at", "(I)I"⟩ yX2_at wsX2_at)) (hd : 3 ≤ d) (hcat : (rest.map fun v => v.category).sum ≤ 8) (hdg : decode cc pc = .ok (.invokevirtual index, 3)) (hn : pc + 3 = n') (kk : zG C V kc ks n' lv (.int (zI (if 0 ≤ k ∧ k < m then h k else -9)) :: rest)) : zG C V kc ks pc lv (.int (zI k) :: .ref o :: rest) := by
  rcases hT with ⟨to, tr, n, st, cap, lim, pos, mk, f, h1, h2, h3, h4, h5, h6⟩ | ⟨to, tr, n, f, h1, h2, h3, h4, h5⟩
  · refine zr_callU (As := [.int (zI k)]) (kc' := kc) (ks' := ks) X n' 1 (m_X5_at l0 Γ0 (k := k) h1 h2 h3 hk) g5 rfl (by decide) (by decide +kernel) rfl (by first | with_reducible assumption | decide | omega) h1 rfl rfl hcat hdg hn (by first | with_reducible assumption | decide | omega) (by first | with_reducible assumption | decide | omega) (fun rv V1 hp => ?_)
    rw [hp.1, hp.2]
    rw [h5, h6] at kk
    exact kk
  · refine zr_callU (As := [.int (zI k)]) (kc' := kc) (ks' := ks) X n' 1 (m_X2_at l0 Γ0 (k := k) h1 h2 h3 hk) g2 rfl (by decide) (by decide +kernel) rfl (by first | with_reducible assumption | decide | omega) h1 rfl rfl hcat hdg hn (by first | with_reducible assumption | decide | omega) (by first | with_reducible assumption | decide | omega) (fun rv V1 hp => ?_)
    rw [hp.1, hp.2]
    rw [h5] at kk
    exact kk
end ZTX
set_option maxRecDepth 100000 in
set_option maxHeartbeats 4000000 in
theorem m_X2_append (l : Launch) (Γ : zGam) {V : zV} {b g tb tg n : Nat} {len : Int} {f : Nat → Int} {o r : Nat} {m : Int} {h : Int → Int} (hb : V b = some (tb, .inr (4, [.ref g, .int (zI len)]))) (hg : V g = some (tg, za Γ.2.1 1 n f)) (hn : 0 ≤ len ∧ len ≤ n ∧ n ≤ 1000) (hT : zTx Γ V o r m h) (hob : o ≠ b) (hog : o ≠ g) (hrb : r ≠ b) (hrg : r ≠ g) (hm : len + m ≤ n) (hc : zc f) : zM l Γ 4 yX2_append wsX2_append 0 0 V [.ref b, .ref o] (fun rv V' => rv = none ∧ ∃ f', zc f' ∧ V' = zu (zu V g tg (za Γ.2.1 1 n f')) b tb (.inr (4, [.ref g, .int (zI (len + m))]))) := by
  have hTr := hT.rg
  have hbg : b ≠ g := zne_oa hb hg
  have hrg2 : ∀ k, 0 ≤ h k ∧ h k ≤ 255 := hTr.2.2
  refine zM_of (cc := cX2_append) (nL := 4) (ret := none) (own := RX2) (by decide +kernel) rfl rfl (Nat.le_of_ble_eq_true rfl) (fun C X hi0 => ?_)
  show zG C V 0 0 0 [(0, .ref b), (1, .ref o)] []
  refine zr_aload_n X 1 1 dX2_append_0 rfl rfl ?_
  refine zr_txSize X 4 hT gX2_append_X5_size_u25X5 gX2_append_X2_size_u25X2 (by decide) (Nat.le_of_ble_eq_true rfl) dX2_append_1 rfl ?_
  refine zr_istore_n X 5 [(2, .int (zI (m))), (0, .ref b), (1, .ref o)] dX2_append_4 rfl (by decide) rfl ?_
  refine zr_iconst X 6 dX2_append_5 rfl ?_
  refine zr_istore_n X 7 [(3, .int (zI (0))), (2, .int (zI (m))), (0, .ref b), (1, .ref o)] dX2_append_6 rfl (by decide) rfl ?_
  refine zr_view (V' := zu (zu V g tg (za Γ.2.1 1 n f)) b tb (.inr (4, [.ref g, .int (zI (len + 0))]))) (by rw [zu_id hg, Int.add_zero, zu_id hb]) ?_
  refine zr_sub [0, 1, 3, 2] [(3, .int (zI (0))), (2, .int (zI (m))), (1, .ref o), (0, .ref b)] rfl ?_
  have loop : ∀ (N : Nat) (f1 : Nat → Int) (k : Int), zc f1 ∧ 0 ≤ k ∧ k ≤ m → (m - k).toNat = N → zG C (zu (zu V g tg (za Γ.2.1 1 n f1)) b tb (.inr (4, [.ref g, .int (zI (len + k))]))) 0 0 7 [(3, .int (zI (k))), (2, .int (zI (m))), (1, .ref o), (0, .ref b)] [] := by
    intro N
    induction N using Nat.strongRecOn with
    | _ N ih =>
    intro f1 k hI hN
    obtain ⟨hI1, hI2, hI3⟩ := id hI
    refine zr_iload_n X 8 0 dX2_append_7 rfl rfl ?_
    refine zr_iload_n X 9 1 dX2_append_8 rfl rfl ?_
    refine zr_icmp_ge X 27 12 dX2_append_9 rfl rfl (by first | with_reducible assumption | decide | omega) (by first | with_reducible assumption | decide | omega) (fun bq1 => ?_) (fun bq1 => ?_)
    · exact zr_vret X rfl ⟨rfl, f1, hI1, by rw [show k = m by omega]⟩ dX2_append_27
    · refine zr_aload_n X 13 3 dX2_append_12 rfl rfl ?_
      refine zr_aload_n X 14 2 dX2_append_13 rfl rfl ?_
      refine zr_iload_n X 15 0 dX2_append_14 rfl rfl ?_
      refine zr_txAt X 18 (hT.kept (by simp [zu, hob, hog]) (by simp [zu, hrb, hrg])) (by first | with_reducible assumption | decide | omega) gX2_append_X5_at_u29X5 gX2_append_X2_at_u29X2 (by decide) (Nat.le_of_ble_eq_true rfl) dX2_append_15 rfl ?_
      rw [if_pos (show 0 ≤ k ∧ k < m by omega)]
      have hx2 := hTr.2.2 k
      show zG C (zu (zu V g tg (za Γ.2.1 1 n f1)) b tb (.inr (4, [.ref g, .int (zI (len + k))]))) 0 0 18 [(3, .int (zI (k))), (2, .int (zI (m))), (1, .ref o), (0, .ref b)] [.int (zI (h k)), .ref b]
      refine zr_callV (kc' := 0) (ks' := 0) X 21 1 (m_X2_add l Γ (x := h k) (zu_eq _ _ _ _) ((zu_ne (Ne.symm (zne_oa hb hg))).trans (zu_eq _ _ _ _)) (by first | with_reducible assumption | decide | omega) (hTr.2.2 _) (by first | with_reducible assumption | decide | omega)) gX2_append_X2_add rfl (by decide +kernel) rfl (by decide) (zu_eq _ _ _ _) rfl rfl (Nat.le_of_ble_eq_true rfl) dX2_append_18 rfl (by first | with_reducible assumption | decide | omega) (by first | with_reducible assumption | decide | omega) (fun rv3 V4 hp5 => ?_)
      rw [hp5.1, hp5.2]
      show zG C (zu (zu (zu (zu V g tg (za Γ.2.1 1 n f1)) b tb (.inr (4, [.ref g, .int (zI (len + k))]))) g tg (za Γ.2.1 1 n (zf f1 (len + k).toNat (h k)))) b tb (.inr (4, [.ref g, .int (zI ((len + k) + 1))]))) 0 0 21 [(3, .int (zI (k))), (2, .int (zI (m))), (1, .ref o), (0, .ref b)] []
      refine zr_iinc X 24 0 [(3, .int (zI (k + 1))), (2, .int (zI (m))), (1, .ref o), (0, .ref b)] dX2_append_21 rfl rfl (by decide) rfl ?_
      refine zr_goto X 7 dX2_append_24 rfl ?_
      refine zr_view (V' := (zu (zu V g tg (za Γ.2.1 1 n (zf f1 (len + k).toNat (h k)))) b tb (.inr (4, [.ref g, .int (zI (len + (k + 1)))])))) (by
          funext z
          simp only [zu]
          by_cases e0 : z = g
          · subst e0; simp [hbg, Ne.symm hbg, Int.add_assoc]
          by_cases e1 : z = b
          · subst e1; simp [hbg, Ne.symm hbg, Int.add_assoc]
          simp [e0, e1]) ?_
      
      exact ih _ (by first | with_reducible assumption | decide | omega) (zf f1 (len + k).toNat (h k)) (k + 1) ⟨zc_zf hI1 (hTr.2.2 k), by omega, by omega⟩ rfl
  exact loop _ f 0 ⟨hc, by omega, by omega⟩ rfl
theorem zr_acmp_eq {C : zC} {l0 : Launch} {Γ0 : zGam} {n0 : Nat} {own : String} {cc : ByteArray} {ws : List Cond} {d : Nat} {ret : Option FieldType} {Post : Option Value → zV → Prop} {V : zV} {kc ks pc : Nat} {lv : List (Nat × Value)} {rest : List Value} (X : zK C l0 Γ0 n0 own cc ws d ret Post) (n1 n2 : Nat) {off : Int} {x y : Nat} (hdg : decode cc pc = .ok (.if_acmp .eq off, 3)) (ht : (pc : Int) + off = (n1 : Int)) (hn : pc + 3 = n2) (kt : x = y → zG C V kc ks n1 lv rest) (kf : ¬ x = y → zG C V kc ks n2 lv rest) : zG C V kc ks pc lv (.ref y :: .ref x :: rest) := by
  obtain ⟨⟨p, l, e, R, s, m, args, below, meth, c⟩, Γ, ⟨nL, mc, ms⟩, Q⟩ := C
  subst hn
  intro H locs cells slots ls hV hS hl hc hs
  exact lv_acmp_eq (rx := some x) (ry := some y) X.1 X.2.1 hdg ht (fun h => kt (Option.some.inj h) H locs cells slots ls hV hS hl hc hs) (fun h => kf (fun q => h (congrArg some q)) H locs cells slots ls hV hS hl hc hs)
theorem zswp {V : zV} {g b tg tb : Nat} {x y z : va_E} (hbg : b ≠ g) : zu (zu (zu V b tb y) g tg x) b tb z = zu (zu V g tg x) b tb z := by
  rw [zu_swap V hbg, zu_zu]
set_option maxRecDepth 100000 in
set_option maxHeartbeats 4000000 in
theorem m_X2_becomeText (l : Launch) (Γ : zGam) {V : zV} {b g tb tg n : Nat} {len : Int} {f : Nat → Int} {o r : Nat} {m : Int} {h : Int → Int} (hb : V b = some (tb, .inr (4, [.ref g, .int (zI len)]))) (hg : V g = some (tg, za Γ.2.1 1 n f)) (hn : 0 ≤ len ∧ len ≤ n ∧ n ≤ 1000) (hT : zTx Γ V o r m h) (hob : o ≠ b) (hog : o ≠ g) (hrb : r ≠ b) (hrg : r ≠ g) (hm : m ≤ n) (hc : zc f) : zM l Γ 5 yX2_becomeText wsX2_becomeText 0 0 V [.ref b, .ref o] (fun rv V' => rv = none ∧ ∃ f', zc f' ∧ V' = zu (zu V g tg (za Γ.2.1 1 n f')) b tb (.inr (4, [.ref g, .int (zI m)]))) := by
  have hTr := hT.rg
  have hbg : b ≠ g := zne_oa hb hg
  refine zM_of (cc := cX2_becomeText) (nL := 2) (ret := none) (own := RX2) (by decide +kernel) rfl rfl (Nat.le_of_ble_eq_true rfl) (fun C X hi0 => ?_)
  show zG C V 0 0 0 [(0, .ref b), (1, .ref o)] []
  refine zr_aload_n X 1 1 dX2_becomeText_0 rfl rfl ?_
  refine zr_aload_n X 2 0 dX2_becomeText_1 rfl rfl ?_
  refine zr_acmp_eq X 14 5 dX2_becomeText_2 rfl rfl (fun bq1 => ?_) (fun bq1 => ?_)
  · exact absurd bq1 hob
  · skip
    refine zr_aload_n X 6 0 dX2_becomeText_5 rfl rfl ?_
    refine zr_callV (kc' := 0) (ks' := 0) X 9 0 (m_X2_clear l Γ hb) gX2_becomeText_X2_clear rfl (by decide +kernel) rfl (by decide) hb rfl rfl (Nat.le_of_ble_eq_true rfl) dX2_becomeText_6 rfl (by first | with_reducible assumption | decide | omega) (by first | with_reducible assumption | decide | omega) (fun rv2 V3 hp4 => ?_)
    rw [hp4.1, hp4.2]
    show zG C (zu V b tb (.inr (4, [.ref g, .int (zI (0))]))) 0 0 9 [(0, .ref b), (1, .ref o)] []
    refine zr_aload_n X 10 0 dX2_becomeText_9 rfl rfl ?_
    refine zr_aload_n X 11 1 dX2_becomeText_10 rfl rfl ?_
    refine zr_callV (kc' := 0) (ks' := 0) X 14 1 (m_X2_append l Γ (zu_eq _ _ _ _) ((zu_ne (Ne.symm (zne_oa hb hg))).trans hg) (by first | with_reducible assumption | decide | omega) (hT.kept (by simp [zu, hob]) (by simp [zu, hrb])) hob hog hrb hrg (by first | with_reducible assumption | decide | omega) hc) gX2_becomeText_X2_append rfl (by decide +kernel) rfl (by decide) (zu_eq _ _ _ _) rfl rfl (Nat.le_of_ble_eq_true rfl) dX2_becomeText_11 rfl (by first | with_reducible assumption | decide | omega) (by first | with_reducible assumption | decide | omega) (fun rv5 V6 hp7 => ?_)
    obtain ⟨e10, f8, hc9, e10b⟩ := hp7
    rw [e10, e10b]
    show zG C (zu (zu (zu V b tb (.inr (4, [.ref g, .int (zI (0))]))) g tg (za Γ.2.1 1 n f8)) b tb (.inr (4, [.ref g, .int (zI (0 + m))]))) 0 0 14 [(0, .ref b), (1, .ref o)] []
    exact zr_vret X rfl ⟨rfl, f8, hc9, by rw [Int.zero_add]; exact zswp hbg⟩ dX2_becomeText_14
set_option maxRecDepth 100000 in
set_option maxHeartbeats 4000000 in
theorem m_X2_becomeText_eq (l : Launch) (Γ : zGam) {V : zV} {b g tb : Nat} {len : Int} (hb : V b = some (tb, .inr (4, [.ref g, .int (zI len)]))) : zM l Γ 5 yX2_becomeText wsX2_becomeText 0 0 V [.ref b, .ref b] (fun rv V' => rv = none ∧ V' = V) := by
  refine zM_of (cc := cX2_becomeText) (nL := 2) (ret := none) (own := RX2) (by decide +kernel) rfl rfl (Nat.le_of_ble_eq_true rfl) (fun C X hi0 => ?_)
  show zG C V 0 0 0 [(0, .ref b), (1, .ref b)] []
  refine zr_aload_n X 1 1 dX2_becomeText_0 rfl rfl ?_
  refine zr_aload_n X 2 0 dX2_becomeText_1 rfl rfl ?_
  refine zr_acmp_eq X 14 5 dX2_becomeText_2 rfl rfl (fun bq1 => ?_) (fun bq1 => ?_)
  · skip
    exact zr_vret X rfl ⟨rfl, rfl⟩ dX2_becomeText_14
  · exact absurd rfl bq1
theorem zc_zf2 {f : Nat → Int} (h : zc f) {x : Int} (hx : 0 ≤ x ∧ x ≤ 255) {i : Nat} (j : Nat) : 0 ≤ zf f i x j ∧ zf f i x j ≤ 255 := zc_zf h hx j
set_option maxRecDepth 100000 in
set_option maxHeartbeats 4000000 in
theorem m_X2_turnRound (l : Launch) (Γ : zGam) {V : zV} {b g tb tg n : Nat} {len : Int} {f : Nat → Int} (hb : V b = some (tb, .inr (4, [.ref g, .int (zI len)]))) (hg : V g = some (tg, za Γ.2.1 1 n f)) (hn : 0 ≤ len ∧ len ≤ n ∧ n ≤ 1000) (hc : zc f) : zM l Γ 2 yX2_turnRound wsX2_turnRound 0 0 V [.ref b] (fun rv V' => rv = none ∧ ∃ f', zc f' ∧ V' = zu V g tg (za Γ.2.1 1 n f')) := by
  have w0 : Cond.fieldLink RX2 21 "Sashwords$Script" "length" "I" ∈ wsX2_turnRound := by decide +kernel
  have iX2 : ∀ w ∈ u_ws RX2 TX2 2, w ∈ wsX2_turnRound := by decide +kernel
  refine zM_of (cc := cX2_turnRound) (nL := 3) (ret := none) (own := RX2) (by decide +kernel) rfl rfl (Nat.le_of_ble_eq_true rfl) (fun C X hi0 => ?_)
  show zG C V 0 0 0 [(0, .ref b)] []
  refine zr_iconst X 1 dX2_turnRound_0 rfl ?_
  refine zr_istore_n X 2 [(1, .int (zI (0))), (0, .ref b)] dX2_turnRound_1 rfl (by decide) rfl ?_
  refine zr_view (V' := zu V g tg (za Γ.2.1 1 n f)) (zu_id hg).symm ?_
  have loop : ∀ (N : Nat) (f1 : Nat → Int) (k : Int), zc f1 ∧ 0 ≤ k ∧ k ≤ len → (len / 2 - k).toNat = N → zG C (zu V g tg (za Γ.2.1 1 n f1)) 0 0 2 [(1, .int (zI (k))), (0, .ref b)] [] := by
    intro N
    induction N using Nat.strongRecOn with
    | _ N ih =>
    intro f1 k hI hN
    obtain ⟨hI1, hI2, hI3⟩ := id hI
    refine zr_iload_n X 3 0 dX2_turnRound_2 rfl rfl ?_
    refine zr_aload_n X 4 1 dX2_turnRound_3 rfl rfl ?_
    refine zr_get X 7 4 1 ((zu_ne (zne_oa hb hg)).trans hb) rfl iX2 (by decide) w0 rfl rfl dX2_turnRound_4 rfl ?_
    refine zr_iconst X 8 dX2_turnRound_7 rfl ?_
    refine zr_idiv X 9 dX2_turnRound_8 rfl (by first | with_reducible assumption | decide | omega) (by first | with_reducible assumption | decide | omega) ?_
    refine zr_icmp_ge X 43 12 dX2_turnRound_9 rfl rfl (by first | with_reducible assumption | decide | omega) (by first | with_reducible assumption | decide | omega) (fun bq1 => ?_) (fun bq1 => ?_)
    · exact zr_vret X rfl ⟨rfl, f1, hI1, rfl⟩ dX2_turnRound_43
    · refine zr_aload_n X 13 1 dX2_turnRound_12 rfl rfl ?_
      refine zr_get X 16 4 1 ((zu_ne (zne_oa hb hg)).trans hb) rfl iX2 (by decide) w0 rfl rfl dX2_turnRound_13 rfl ?_
      refine zr_iconst X 17 dX2_turnRound_16 rfl ?_
      refine zr_isub X 18 dX2_turnRound_17 rfl ?_
      refine zr_iload_n X 19 0 dX2_turnRound_18 rfl rfl ?_
      refine zr_isub X 20 dX2_turnRound_19 rfl ?_
      refine zr_istore_n X 21 [(2, .int (zI ((len - 1) - k))), (1, .int (zI (k))), (0, .ref b)] dX2_turnRound_20 rfl (by decide) rfl ?_
      refine zr_aload_n X 22 2 dX2_turnRound_21 rfl rfl ?_
      refine zr_iload_n X 23 0 dX2_turnRound_22 rfl rfl ?_
      refine zr_aload_n X 24 2 dX2_turnRound_23 rfl rfl ?_
      refine zr_iload_n X 25 1 dX2_turnRound_24 rfl rfl ?_
      refine zr_aload_n X 26 2 dX2_turnRound_25 rfl rfl ?_
      refine zr_iload_n X 27 0 dX2_turnRound_26 rfl rfl ?_
      refine zr_callV (kc' := 0) (ks' := 0) X 30 1 (m_X2_at l Γ (k := (len - 1) - k) ((zu_ne (zne_oa hb hg)).trans hb) (zu_eq _ _ _ _) hn (by first | with_reducible assumption | decide | omega)) gX2_turnRound_X2_at rfl (by decide +kernel) rfl (by decide) ((zu_ne (zne_oa hb hg)).trans hb) rfl rfl (Nat.le_of_ble_eq_true rfl) dX2_turnRound_27 rfl (by first | with_reducible assumption | decide | omega) (by first | with_reducible assumption | decide | omega) (fun rv2 V3 hp4 => ?_)
      rw [hp4.1, hp4.2]
      rw [if_pos (show (0 : Int) ≤ ((len - 1) - k) ∧ ((len - 1) - k) < len by omega)]
      show zG C (zu V g tg (za Γ.2.1 1 n f1)) 0 0 30 [(2, .int (zI ((len - 1) - k))), (1, .int (zI (k))), (0, .ref b)] [.int (zI (f1 ((len - 1) - k).toNat)), .int (zI (k)), .ref b, .int (zI ((len - 1) - k)), .ref b]
      refine zr_callV (kc' := 0) (ks' := 0) X 33 2 (m_X2_exchange l Γ (p := k) (x := f1 ((len - 1) - k).toNat) ((zu_ne (zne_oa hb hg)).trans hb) (zu_eq _ _ _ _) (by first | with_reducible assumption | decide | omega) (hI1 _) (by first | with_reducible assumption | decide | omega)) gX2_turnRound_X2_exchange rfl (by decide +kernel) rfl (by decide) ((zu_ne (zne_oa hb hg)).trans hb) rfl rfl (Nat.le_of_ble_eq_true rfl) dX2_turnRound_30 rfl (by first | with_reducible assumption | decide | omega) (by first | with_reducible assumption | decide | omega) (fun rv5 V6 hp7 => ?_)
      rw [hp7.1, hp7.2]
      rw [zu_zu]
      show zG C (zu V g tg (za Γ.2.1 1 n (zf f1 k.toNat (f1 ((len - 1) - k).toNat)))) 0 0 33 [(2, .int (zI ((len - 1) - k))), (1, .int (zI (k))), (0, .ref b)] [.int (zI (f1 k.toNat)), .int (zI ((len - 1) - k)), .ref b]
      refine zr_callV (kc' := 0) (ks' := 0) X 36 2 (m_X2_exchange l Γ (p := (len - 1) - k) (x := f1 k.toNat) ((zu_ne (zne_oa hb hg)).trans hb) (zu_eq _ _ _ _) (by first | with_reducible assumption | decide | omega) (hI1 _) (by first | with_reducible assumption | decide | omega)) gX2_turnRound_X2_exchange rfl (by decide +kernel) rfl (by decide) ((zu_ne (zne_oa hb hg)).trans hb) rfl rfl (Nat.le_of_ble_eq_true rfl) dX2_turnRound_33 rfl (by first | with_reducible assumption | decide | omega) (by first | with_reducible assumption | decide | omega) (fun rv8 V9 hp10 => ?_)
      rw [hp10.1, hp10.2]
      rw [zu_zu]
      show zG C (zu V g tg (za Γ.2.1 1 n (zf (zf f1 k.toNat (f1 ((len - 1) - k).toNat)) ((len - 1) - k).toNat (f1 k.toNat)))) 0 0 36 [(2, .int (zI ((len - 1) - k))), (1, .int (zI (k))), (0, .ref b)] [.int (zI ((zf f1 k.toNat (f1 ((len - 1) - k).toNat)) ((len - 1) - k).toNat))]
      refine zr_pop X 37 dX2_turnRound_36 rfl rfl ?_
      refine zr_iinc X 40 1 [(1, .int (zI (k + 1))), (2, .int (zI ((len - 1) - k))), (0, .ref b)] dX2_turnRound_37 rfl rfl (by decide) rfl ?_
      refine zr_goto X 2 dX2_turnRound_40 rfl ?_
      refine zr_sub [0, 2] [(1, .int (zI (k + 1))), (0, .ref b)] rfl ?_
      exact ih _ (by first | with_reducible assumption | decide | omega) (zf (zf f1 k.toNat (f1 ((len - 1) - k).toNat)) ((len - 1) - k).toNat (f1 k.toNat)) (k + 1) ⟨zc_zf (zc_zf hI1 (hI1 _)) (hI1 _), by omega, by omega⟩ rfl
  exact loop _ f 0 ⟨hc, by omega, by omega⟩ rfl
set_option maxRecDepth 100000 in
set_option maxHeartbeats 4000000 in
theorem m_X2_takeFirst (l : Launch) (Γ : zGam) {V : zV} {b g tb tg n : Nat} {len : Int} {f : Nat → Int} (hb : V b = some (tb, .inr (4, [.ref g, .int (zI len)]))) (hg : V g = some (tg, za Γ.2.1 1 n f)) (hn : 0 ≤ len ∧ len ≤ n ∧ n ≤ 1000) (hc : zc f) (hlt : 0 < len) : zM l Γ 3 yX2_takeFirst wsX2_takeFirst 0 0 V [.ref b] (fun rv V' => rv = some (.int (zI (f 0))) ∧ ∃ f', zc f' ∧ V' = zu (zu V g tg (za Γ.2.1 1 n f')) b tb (.inr (4, [.ref g, .int (zI (len - 1))]))) := by
  have w0 : Cond.fieldLink RX2 21 "Sashwords$Script" "length" "I" ∈ wsX2_takeFirst := by decide +kernel
  have iX2 : ∀ w ∈ u_ws RX2 TX2 2, w ∈ wsX2_takeFirst := by decide +kernel
  have w2 : Cond.methodLink RX2 9 Lib.Math.max.name ∈ wsX2_takeFirst := by decide +kernel
  have w3 : Cond.static Lib.Math.max.name ∈ wsX2_takeFirst := by decide +kernel
  have w4 : Cond.initialized "java/lang/Math" ∈ wsX2_takeFirst := by decide +kernel
  have w5 : Cond.code Lib.Math.max.name Lib.Math.max.code 2 (some .int) ∈ wsX2_takeFirst := by decide +kernel
  refine zM_of (cc := cX2_takeFirst) (nL := 3) (ret := (some .int)) (own := RX2) (by decide +kernel) rfl rfl (Nat.le_of_ble_eq_true rfl) (fun C X hi0 => ?_)
  show zG C V 0 0 0 [(0, .ref b)] []
  refine zr_aload_n X 1 0 dX2_takeFirst_0 rfl rfl ?_
  refine zr_iconst X 2 dX2_takeFirst_1 rfl ?_
  refine zr_callV (kc' := 0) (ks' := 0) X 5 1 (m_X2_at l Γ (k := 0) hb hg hn (by first | with_reducible assumption | decide | omega)) gX2_takeFirst_X2_at rfl (by decide +kernel) rfl (by decide) hb rfl rfl (Nat.le_of_ble_eq_true rfl) dX2_takeFirst_2 rfl (by first | with_reducible assumption | decide | omega) (by first | with_reducible assumption | decide | omega) (fun rv1 V2 hp3 => ?_)
  rw [hp3.1, hp3.2]
  rw [if_pos (show (0 : Int) ≤ 0 ∧ 0 < len by omega)]
  show zG C V 0 0 5 [(0, .ref b)] [.int (zI (f (0 : Int).toNat))]
  refine zr_istore_n X 6 [(1, .int (zI (f (0 : Int).toNat))), (0, .ref b)] dX2_takeFirst_5 rfl (by decide) rfl ?_
  refine zr_iconst X 7 dX2_takeFirst_6 rfl ?_
  refine zr_istore_n X 8 [(2, .int (zI (1))), (1, .int (zI (f (0 : Int).toNat))), (0, .ref b)] dX2_takeFirst_7 rfl (by decide) rfl ?_
  refine zr_view (V' := zu V g tg (za Γ.2.1 1 n f)) (zu_id hg).symm ?_
  have loop : ∀ (N : Nat) (f1 : Nat → Int) (k : Int), zc f1 ∧ 1 ≤ k ∧ k ≤ len → (len - k).toNat = N → zG C (zu V g tg (za Γ.2.1 1 n f1)) 0 0 8 [(2, .int (zI (k))), (1, .int (zI ((f 0)))), (0, .ref b)] [] := by
    intro N
    induction N using Nat.strongRecOn with
    | _ N ih =>
    intro f1 k hI hN
    obtain ⟨hI1, hI2, hI3⟩ := id hI
    refine zr_iload_n X 9 0 dX2_takeFirst_8 rfl rfl ?_
    refine zr_aload_n X 10 2 dX2_takeFirst_9 rfl rfl ?_
    refine zr_get X 13 4 1 ((zu_ne (zne_oa hb hg)).trans hb) rfl iX2 (by decide) w0 rfl rfl dX2_takeFirst_10 rfl ?_
    refine zr_icmp_ge X 35 16 dX2_takeFirst_13 rfl rfl (by first | with_reducible assumption | decide | omega) (by first | with_reducible assumption | decide | omega) (fun bq4 => ?_) (fun bq4 => ?_)
    · refine zr_aload_n X 36 2 dX2_takeFirst_35 rfl rfl ?_
      refine zr_aload_n X 37 2 dX2_takeFirst_36 rfl rfl ?_
      refine zr_get X 40 4 1 ((zu_ne (zne_oa hb hg)).trans hb) rfl iX2 (by decide) w0 rfl rfl dX2_takeFirst_37 rfl ?_
      refine zr_iconst X 41 dX2_takeFirst_40 rfl ?_
      refine zr_isub X 42 dX2_takeFirst_41 rfl ?_
      refine zr_iconst X 43 dX2_takeFirst_42 rfl ?_
      refine zr_mmax X 46 (len - 1) w2 w3 w4 w5 (by decide) (Nat.le_of_ble_eq_true rfl) (by first | with_reducible assumption | decide | omega) (by first | with_reducible assumption | decide | omega) (by split <;> omega) dX2_takeFirst_43 rfl ?_
      refine zr_put X 49 4 1 [.ref g, .int (zI (len - 1))] tyX2 ((zu_ne (zne_oa hb hg)).trans hb) rfl iX2 tyX2_ok nmX2 (by decide) w0 rfl rfl rfl rfl (Nat.le_of_ble_eq_true rfl) rfl dX2_takeFirst_46 rfl ?_
      refine zr_iload_n X 50 1 dX2_takeFirst_49 rfl rfl ?_
      exact zr_iret X rfl ⟨rfl, f1, hI1, rfl⟩ dX2_takeFirst_50
    · refine zr_aload_n X 17 2 dX2_takeFirst_16 rfl rfl ?_
      refine zr_iload_n X 18 0 dX2_takeFirst_17 rfl rfl ?_
      refine zr_iconst X 19 dX2_takeFirst_18 rfl ?_
      refine zr_isub X 20 dX2_takeFirst_19 rfl ?_
      refine zr_aload_n X 21 2 dX2_takeFirst_20 rfl rfl ?_
      refine zr_iload_n X 22 0 dX2_takeFirst_21 rfl rfl ?_
      refine zr_callV (kc' := 0) (ks' := 0) X 25 1 (m_X2_at l Γ (k := k) ((zu_ne (zne_oa hb hg)).trans hb) (zu_eq _ _ _ _) hn (by first | with_reducible assumption | decide | omega)) gX2_takeFirst_X2_at rfl (by decide +kernel) rfl (by decide) ((zu_ne (zne_oa hb hg)).trans hb) rfl rfl (Nat.le_of_ble_eq_true rfl) dX2_takeFirst_22 rfl (by first | with_reducible assumption | decide | omega) (by first | with_reducible assumption | decide | omega) (fun rv5 V6 hp7 => ?_)
      rw [hp7.1, hp7.2]
      rw [if_pos (show (0 : Int) ≤ k ∧ k < len by omega)]
      show zG C (zu V g tg (za Γ.2.1 1 n f1)) 0 0 25 [(2, .int (zI (k))), (1, .int (zI ((f 0)))), (0, .ref b)] [.int (zI (f1 k.toNat)), .int (zI (k - 1)), .ref b]
      refine zr_callV (kc' := 0) (ks' := 0) X 28 2 (m_X2_exchange l Γ (p := k - 1) (x := f1 k.toNat) ((zu_ne (zne_oa hb hg)).trans hb) (zu_eq _ _ _ _) (by first | with_reducible assumption | decide | omega) (hI1 _) (by first | with_reducible assumption | decide | omega)) gX2_takeFirst_X2_exchange rfl (by decide +kernel) rfl (by decide) ((zu_ne (zne_oa hb hg)).trans hb) rfl rfl (Nat.le_of_ble_eq_true rfl) dX2_takeFirst_25 rfl (by first | with_reducible assumption | decide | omega) (by first | with_reducible assumption | decide | omega) (fun rv8 V9 hp10 => ?_)
      rw [hp10.1, hp10.2]
      rw [zu_zu]
      show zG C (zu V g tg (za Γ.2.1 1 n (zf f1 (k - 1).toNat (f1 k.toNat)))) 0 0 28 [(2, .int (zI (k))), (1, .int (zI ((f 0)))), (0, .ref b)] [.int (zI (f1 (k - 1).toNat))]
      refine zr_pop X 29 dX2_takeFirst_28 rfl rfl ?_
      refine zr_iinc X 32 0 [(2, .int (zI (k + 1))), (1, .int (zI ((f 0)))), (0, .ref b)] dX2_takeFirst_29 rfl rfl (by decide) rfl ?_
      refine zr_goto X 8 dX2_takeFirst_32 rfl ?_
      exact ih _ (by first | with_reducible assumption | decide | omega) (zf f1 (k - 1).toNat (f1 k.toNat)) (k + 1) ⟨zc_zf hI1 (hI1 _), by omega, by omega⟩ rfl
  exact loop _ f 1 ⟨hc, by omega, by omega⟩ rfl
