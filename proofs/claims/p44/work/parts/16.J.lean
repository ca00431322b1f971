/-! the JDK's StringBuilder, the road of signs below 256 -/
def zby (f : Nat → Int) : Prop := ∀ j, -128 ≤ f j ∧ f j ≤ 127
theorem zby_zf {f : Nat → Int} (h : zby f) {i : Nat} {x : Int} (hx : -128 ≤ x ∧ x ≤ 127) : zby (zf f i x) := by
  intro j
  unfold zf
  split
  · exact hx
  · exact h j
theorem zby_zero : zby (fun _ => 0) := fun _ => ⟨(by decide : (-128 : Int) ≤ 0), (by decide : (0 : Int) ≤ 127)⟩
theorem zby_zcp {f g : Nat → Int} (hf : zby f) (hg : zby g) {sp dp n : Nat} : zby (zcp f g sp dp n) := by
  intro j
  unfold zcp
  split
  · exact hf _
  · exact hg _
/-- the cells that are no builder's stay -/
def zfr (V V' : zV) : Prop := ∀ (a t : Nat) (e : va_E), V a = some (t, e) → t ≠ 7 → V' a = some (t, e)
theorem zfr.rf {V : zV} : zfr V V := fun _ _ _ h _ => h
theorem zfr.tr {V V' V'' : zV} (h : zfr V V') (h' : zfr V' V'') : zfr V V'' := fun a t e h1 h2 => h' a t e (h a t e h1 h2) h2
theorem zfr.set {V V' : zV} (h : zfr V V') {b t : Nat} {e0 e : va_E} (hb : V' b = some (7, e0)) : zfr V (zu V' b t e) := fun a t1 e1 h1 h2 => by
  have h3 := h a t1 e1 h1 h2
  have hne : a ≠ b := fun q => by
    rw [q, hb] at h3
    cases h3
    exact h2 rfl
  rw [zu_ne hne]
  exact h3
theorem zfr.new {V V' : zV} (h : zfr V V') {b t : Nat} {e : va_E} (hb : V' b = none) : zfr V (zu V' b t e) := fun a t1 e1 h1 h2 => by
  have h3 := h a t1 e1 h1 h2
  have hne : a ≠ b := fun q => by
    rw [q, hb] at h3
    cases h3
  rw [zu_ne hne]
  exact h3
/-- a builder at sb of cnt signs, room for cap -/
def zSB (Γ : zGam) (V : zV) (sb : Nat) (cnt : Int) (cap : Nat) : Prop := ∃ (v : Nat) (mb : Int) (f : Nat → Int), V sb = some (7, .inr (1, [.ref v, .int (zI 0), .int (zI mb), .int (zI cnt)])) ∧ V v = some (7, za Γ.2.1 2 cap f) ∧ zby f ∧ 0 ≤ cnt ∧ cnt ≤ cap ∧ cap ≤ 3000
set_option maxRecDepth 100000 in
set_option maxHeartbeats 4000000 in
theorem m_J5_isLatin1_aae02 (l : Launch) (Γ : zGam) {V : zV} {b v : Nat} {mb cnt : Int} (hb : V b = some (7, .inr (1, [.ref v, .int (zI 0), .int (zI mb), .int (zI cnt)]))) : zM l Γ 0 yJ5_isLatin1_aae02 wsJ5_isLatin1_aae02 0 0 V [.ref b] (fun rv V' => rv = some (.int (zI 1)) ∧ V' = V) := by
  have w0 : Cond.fieldLink RJ5 18 RJ0 "COMPACT_STRINGS" "Z" ∈ wsJ5_isLatin1_aae02 := by decide +kernel
  have w1 : Cond.fieldLink RJ5 22 "java/lang/AbstractStringBuilder" "coder" "B" ∈ wsJ5_isLatin1_aae02 := by decide +kernel
  have iJ4 : ∀ w ∈ u_ws RJ4 TJ4 4, w ∈ wsJ5_isLatin1_aae02 := by decide +kernel
  refine zM_of (cc := cJ5_isLatin1_aae02) (nL := 1) (ret := (some .boolean)) (own := RJ5) (by decide +kernel) rfl rfl (Nat.le_of_ble_eq_true rfl) (fun C X hi0 => ?_)
  show zG C V 0 0 0 [(0, .ref b)] []
  refine zr_gets X 3 w0 dJ5_isLatin1_aae02_0 rfl ?_
  refine zr_if_eq X 17 6 dJ5_isLatin1_aae02_3 rfl rfl (by omega) (fun bq1 => absurd bq1 (by omega)) (fun bq1 => ?_)
  refine zr_aload_n X 7 0 dJ5_isLatin1_aae02_6 rfl rfl ?_
  refine zr_get X 10 1 1 hb rfl iJ4 (by decide) w1 rfl rfl dJ5_isLatin1_aae02_7 rfl ?_
  refine zr_if_ne X 17 13 dJ5_isLatin1_aae02_10 rfl rfl (by omega) (fun bq2 => absurd bq2 (by omega)) (fun bq2 => ?_)
  refine zr_iconst X 14 dJ5_isLatin1_aae02_13 rfl ?_
  refine zr_goto X 18 dJ5_isLatin1_aae02_14 rfl ?_
  exact zr_zret X rfl rfl ⟨rfl, rfl⟩ dJ5_isLatin1_aae02_18
set_option maxRecDepth 100000 in
set_option maxHeartbeats 4000000 in
theorem m_J5_getValue_6d5f1 (l : Launch) (Γ : zGam) {V : zV} {b v : Nat} {mb cnt : Int} (hb : V b = some (7, .inr (1, [.ref v, .int (zI 0), .int (zI mb), .int (zI cnt)]))) : zM l Γ 0 yJ5_getValue_6d5f1 wsJ5_getValue_6d5f1 0 0 V [.ref b] (fun rv V' => rv = some (.ref v) ∧ V' = V) := by
  have w0 : Cond.fieldLink RJ5 15 "java/lang/AbstractStringBuilder" "value" "[B" ∈ wsJ5_getValue_6d5f1 := by decide +kernel
  have iJ4 : ∀ w ∈ u_ws RJ4 TJ4 4, w ∈ wsJ5_getValue_6d5f1 := by decide +kernel
  refine zM_of (cc := cJ5_getValue_6d5f1) (nL := 1) (ret := (some (.array .byte))) (own := RJ5) (by decide +kernel) rfl rfl (Nat.le_of_ble_eq_true rfl) (fun C X hi0 => ?_)
  show zG C V 0 0 0 [(0, .ref b)] []
  refine zr_aload_n X 1 0 dJ5_getValue_6d5f1_0 rfl rfl ?_
  refine zr_get X 4 1 0 hb rfl iJ4 (by decide) w0 rfl rfl dJ5_getValue_6d5f1_1 rfl ?_
  exact zr_aret X rfl (Or.inr ⟨_, rfl⟩) ⟨rfl, rfl⟩ dJ5_getValue_6d5f1_4
set_option maxRecDepth 100000 in
set_option maxHeartbeats 4000000 in
theorem m_J5_length_8abf5 (l : Launch) (Γ : zGam) {V : zV} {b v : Nat} {mb cnt : Int} (hb : V b = some (7, .inr (1, [.ref v, .int (zI 0), .int (zI mb), .int (zI cnt)]))) : zM l Γ 0 yJ5_length_8abf5 wsJ5_length_8abf5 0 0 V [.ref b] (fun rv V' => rv = some (.int (zI cnt)) ∧ V' = V) := by
  have w0 : Cond.fieldLink RJ5 79 "java/lang/AbstractStringBuilder" "count" "I" ∈ wsJ5_length_8abf5 := by decide +kernel
  have iJ4 : ∀ w ∈ u_ws RJ4 TJ4 4, w ∈ wsJ5_length_8abf5 := by decide +kernel
  refine zM_of (cc := cJ5_length_8abf5) (nL := 1) (ret := (some .int)) (own := RJ5) (by decide +kernel) rfl rfl (Nat.le_of_ble_eq_true rfl) (fun C X hi0 => ?_)
  show zG C V 0 0 0 [(0, .ref b)] []
  refine zr_aload_n X 1 0 dJ5_length_8abf5_0 rfl rfl ?_
  refine zr_get X 4 1 3 hb rfl iJ4 (by decide) w0 rfl rfl dJ5_length_8abf5_1 rfl ?_
  exact zr_iret X rfl ⟨rfl, rfl⟩ dJ5_length_8abf5_4
set_option maxRecDepth 100000 in
set_option maxHeartbeats 4000000 in
theorem m_J4_length_8abf5 (l : Launch) (Γ : zGam) {V : zV} {b v : Nat} {mb cnt : Int} (hb : V b = some (7, .inr (1, [.ref v, .int (zI 0), .int (zI mb), .int (zI cnt)]))) : zM l Γ 1 yJ4_length_8abf5 wsJ4_length_8abf5 0 0 V [.ref b] (fun rv V' => rv = some (.int (zI cnt)) ∧ V' = V) := by
  refine zM_of (cc := cJ4_length_8abf5) (nL := 1) (ret := (some .int)) (own := RJ4) (by decide +kernel) rfl rfl (Nat.le_of_ble_eq_true rfl) (fun C X hi0 => ?_)
  show zG C V 0 0 0 [(0, .ref b)] []
  refine zr_aload_n X 1 0 dJ4_length_8abf5_0 rfl rfl ?_
  refine zr_callSU (kc' := 0) (ks' := 0) X 4 0 (m_J5_length_8abf5 l Γ hb) gJ4_length_8abf5_J5_length_8abf5_s343 rfl (by decide +kernel) rfl (by decide) hb rfl rfl (Nat.le_of_ble_eq_true rfl) dJ4_length_8abf5_1 rfl (by omega) (by omega) (fun rv1 V2 hp3 => ?_)
  rw [hp3.1, hp3.2]
  show zG C V 0 0 4 [(0, .ref b)] [.int (zI (cnt))]
  exact zr_iret X rfl ⟨rfl, rfl⟩ dJ4_length_8abf5_4
set_option maxRecDepth 100000 in
set_option maxHeartbeats 4000000 in
theorem m_J1_canEncode_fc78d (l : Launch) (Γ : zGam) {V : zV} {x : Int} (hx : 0 ≤ x ∧ x ≤ 255) : zM l Γ 0 yJ1_canEncode_fc78d wsJ1_canEncode_fc78d 0 0 V [.int (zI (x))] (fun rv V' => rv = some (.int (zI 1)) ∧ V' = V) := by
  refine zM_of (cc := cJ1_canEncode_fc78d) (nL := 1) (ret := (some .boolean)) (own := RJ1) (by decide +kernel) rfl rfl (Nat.le_of_ble_eq_true rfl) (fun C X hi0 => ?_)
  show zG C V 0 0 0 [(0, .int (zI (x)))] []
  refine zr_iload_n X 1 0 dJ1_canEncode_fc78d_0 rfl rfl ?_
  refine zr_sipush X 4 (255) dJ1_canEncode_fc78d_1 rfl (by decide) ?_
  refine zr_icmp_gt X 11 7 dJ1_canEncode_fc78d_4 rfl rfl (by omega) (by omega) (fun bq1 => ?_) (fun bq1 => ?_)
  · refine zr_iconst X 12 dJ1_canEncode_fc78d_11 rfl ?_
    exact zr_zret X rfl rfl (by exfalso; omega) dJ1_canEncode_fc78d_12
  · refine zr_iconst X 8 dJ1_canEncode_fc78d_7 rfl ?_
    refine zr_goto X 12 dJ1_canEncode_fc78d_8 rfl ?_
    exact zr_zret X rfl rfl ⟨rfl, rfl⟩ dJ1_canEncode_fc78d_12
set_option maxRecDepth 100000 in
set_option maxHeartbeats 4000000 in
theorem m_J8_newLength_cabcc (l : Launch) (Γ : zGam) {V : zV} {o p q : Int} (hr : 0 ≤ o ∧ o ≤ 100000 ∧ 0 ≤ p ∧ p ≤ q ∧ 0 < q ∧ q ≤ 100000) : zM l Γ 2 yJ8_newLength_cabcc wsJ8_newLength_cabcc 0 0 V [.int (zI (o)), .int (zI (p)), .int (zI (q))] (fun rv V' => rv = some (.int (zI (o + q))) ∧ V' = V) := by
  have w0 : Cond.methodLink RJ8 194 Lib.Math.max.name ∈ wsJ8_newLength_cabcc := by decide +kernel
  have w1 : Cond.static Lib.Math.max.name ∈ wsJ8_newLength_cabcc := by decide +kernel
  have w2 : Cond.initialized "java/lang/Math" ∈ wsJ8_newLength_cabcc := by decide +kernel
  have w3 : Cond.code Lib.Math.max.name Lib.Math.max.code 2 (some .int) ∈ wsJ8_newLength_cabcc := by decide +kernel
  have w4 : Cond.constant RJ8 200 (2147483639) ∈ wsJ8_newLength_cabcc := by decide +kernel
  refine zM_of (cc := cJ8_newLength_cabcc) (nL := 4) (ret := (some .int)) (own := RJ8) (by decide +kernel) rfl rfl (Nat.le_of_ble_eq_true rfl) (fun C X hi0 => ?_)
  show zG C V 0 0 0 [(0, .int (zI (o))), (1, .int (zI (p))), (2, .int (zI (q)))] []
  refine zr_iload_n X 1 0 dJ8_newLength_cabcc_0 rfl rfl ?_
  refine zr_iload_n X 2 1 dJ8_newLength_cabcc_1 rfl rfl ?_
  refine zr_iload_n X 3 2 dJ8_newLength_cabcc_2 rfl rfl ?_
  refine zr_mmax X 6 (q) w0 w1 w2 w3 (by decide) (Nat.le_of_ble_eq_true rfl) (by omega) (by omega) (by split <;> omega) dJ8_newLength_cabcc_3 rfl ?_
  refine zr_iadd X 7 dJ8_newLength_cabcc_6 rfl ?_
  refine zr_istore_n X 8 [(3, .int (zI (o + q))), (0, .int (zI (o))), (1, .int (zI (p))), (2, .int (zI (q)))] dJ8_newLength_cabcc_7 rfl (by decide) rfl ?_
  refine zr_iconst X 9 dJ8_newLength_cabcc_8 rfl ?_
  refine zr_iload_n X 10 0 dJ8_newLength_cabcc_9 rfl rfl ?_
  refine zr_icmp_ge X 21 13 dJ8_newLength_cabcc_10 rfl rfl (by omega) (by omega) (fun bq1 => ?_) (fun bq1 => ?_)
  · exfalso
    omega
  · refine zr_iload_n X 14 0 dJ8_newLength_cabcc_13 rfl rfl ?_
    refine zr_ldcI X 16 (v := 2147483639) w4 rfl dJ8_newLength_cabcc_14 rfl ?_
    refine zr_icmp_gt X 21 19 dJ8_newLength_cabcc_16 rfl rfl (by omega) (by omega) (fun bq2 => ?_) (fun bq2 => ?_)
    · exfalso
      omega
    · refine zr_iload_n X 20 0 dJ8_newLength_cabcc_19 rfl rfl ?_
      exact zr_iret X rfl ⟨rfl, rfl⟩ dJ8_newLength_cabcc_20
set_option maxRecDepth 100000 in
set_option maxHeartbeats 4000000 in
theorem m_J5_newCapacity_0f7a4 (l : Launch) (Γ : zGam) {V : zV} {b v cap : Nat} {mb cnt : Int} {f : Nat → Int} {mn : Int} (hb : V b = some (7, .inr (1, [.ref v, .int (zI 0), .int (zI mb), .int (zI cnt)]))) (hv : V v = some (7, za Γ.2.1 2 cap f)) (hr : 0 ≤ cnt ∧ cnt ≤ cap ∧ cap ≤ 3000) (hm : (cap : Int) < mn ∧ mn ≤ 2 * cap + 2) : zM l Γ 3 yJ5_newCapacity_0f7a4 wsJ5_newCapacity_0f7a4 0 0 V [.ref b, .int (zI (mn))] (fun rv V' => rv = some (.int (zI (2 * (cap : Int) + 2))) ∧ V' = V) := by
  have w0 : Cond.fieldLink RJ5 15 "java/lang/AbstractStringBuilder" "value" "[B" ∈ wsJ5_newCapacity_0f7a4 := by decide +kernel
  have iJ4 : ∀ w ∈ u_ws RJ4 TJ4 4, w ∈ wsJ5_newCapacity_0f7a4 := by decide +kernel
  have w2 : Cond.fieldLink RJ5 22 "java/lang/AbstractStringBuilder" "coder" "B" ∈ wsJ5_newCapacity_0f7a4 := by decide +kernel
  have w3 : Cond.constant RJ5 39 (2147483647) ∈ wsJ5_newCapacity_0f7a4 := by decide +kernel
  refine zM_of (cc := cJ5_newCapacity_0f7a4) (nL := 6) (ret := (some .int)) (own := RJ5) (by decide +kernel) rfl rfl (Nat.le_of_ble_eq_true rfl) (fun C X hi0 => ?_)
  show zG C V 0 0 0 [(0, .ref b), (1, .int (zI (mn)))] []
  refine zr_aload_n X 1 0 dJ5_newCapacity_0f7a4_0 rfl rfl ?_
  refine zr_get X 4 1 0 hb rfl iJ4 (by decide) w0 rfl rfl dJ5_newCapacity_0f7a4_1 rfl ?_
  refine zr_alen X 5 2 hv (by decide) dJ5_newCapacity_0f7a4_4 rfl ?_
  refine zr_istore_n X 6 [(2, .int (zI ((cap : Nat)))), (0, .ref b), (1, .int (zI (mn)))] dJ5_newCapacity_0f7a4_5 rfl (by decide) rfl ?_
  refine zr_iload_n X 7 2 dJ5_newCapacity_0f7a4_6 rfl rfl ?_
  refine zr_aload_n X 8 1 dJ5_newCapacity_0f7a4_7 rfl rfl ?_
  refine zr_get X 11 1 1 hb rfl iJ4 (by decide) w2 rfl rfl dJ5_newCapacity_0f7a4_8 rfl ?_
  refine zr_ishl0 X 12 dJ5_newCapacity_0f7a4_11 rfl ?_
  refine zr_istore_n X 13 [(3, .int (zI (mn))), (2, .int (zI ((cap : Nat)))), (0, .ref b), (1, .int (zI (mn)))] dJ5_newCapacity_0f7a4_12 rfl (by decide) rfl ?_
  refine zr_iload_n X 14 0 dJ5_newCapacity_0f7a4_13 rfl rfl ?_
  refine zr_iload_n X 15 1 dJ5_newCapacity_0f7a4_14 rfl rfl ?_
  refine zr_isub X 16 dJ5_newCapacity_0f7a4_15 rfl ?_
  refine zr_istore X 18 [(4, .int (zI (mn - (cap : Nat)))), (3, .int (zI (mn))), (2, .int (zI ((cap : Nat)))), (0, .ref b), (1, .int (zI (mn)))] dJ5_newCapacity_0f7a4_16 rfl (by decide) rfl ?_
  refine zr_iload_n X 19 2 dJ5_newCapacity_0f7a4_18 rfl rfl ?_
  refine zr_iload X 21 0 dJ5_newCapacity_0f7a4_19 rfl rfl ?_
  refine zr_iload_n X 22 2 dJ5_newCapacity_0f7a4_21 rfl rfl ?_
  refine zr_iconst X 23 dJ5_newCapacity_0f7a4_22 rfl ?_
  refine zr_aload_n X 24 3 dJ5_newCapacity_0f7a4_23 rfl rfl ?_
  refine zr_get X 27 1 1 hb rfl iJ4 (by decide) w2 rfl rfl dJ5_newCapacity_0f7a4_24 rfl ?_
  refine zr_ishl0 X 28 dJ5_newCapacity_0f7a4_27 rfl ?_
  refine zr_iadd X 29 dJ5_newCapacity_0f7a4_28 rfl ?_
  refine zr_callS (kc' := 0) (ks' := 0) X 32 3 (m_J8_newLength_cabcc l Γ (V := V) (o := (cap : Nat)) (p := mn - (cap : Nat)) (q := (cap : Nat) + 2) (by omega)) gJ5_newCapacity_0f7a4_J8_newLength_cabcc rfl (by decide +kernel) rfl (by decide) rfl (Nat.le_of_ble_eq_true rfl) dJ5_newCapacity_0f7a4_29 rfl (by omega) (by omega) (fun rv1 V2 hp3 => ?_)
  rw [hp3.1, hp3.2]
  show zG C V 0 0 32 [(4, .int (zI (mn - (cap : Nat)))), (3, .int (zI (mn))), (2, .int (zI ((cap : Nat)))), (0, .ref b), (1, .int (zI (mn)))] [.int (zI ((cap : Nat) + ((cap : Nat) + 2)))]
  refine zr_istore X 34 [(5, .int (zI ((cap : Nat) + ((cap : Nat) + 2)))), (4, .int (zI (mn - (cap : Nat)))), (3, .int (zI (mn))), (2, .int (zI ((cap : Nat)))), (0, .ref b), (1, .int (zI (mn)))] dJ5_newCapacity_0f7a4_32 rfl (by decide) rfl ?_
  refine zr_iload X 36 0 dJ5_newCapacity_0f7a4_34 rfl rfl ?_
  refine zr_ldcI X 38 (v := 2147483647) w3 rfl dJ5_newCapacity_0f7a4_36 rfl ?_
  refine zr_icmp_ne X 51 41 dJ5_newCapacity_0f7a4_38 rfl rfl (by omega) (by omega) (fun bq4 => ?_) (fun bq4 => ?_)
  · refine zr_iload X 53 0 dJ5_newCapacity_0f7a4_51 rfl rfl ?_
    refine zr_aload_n X 54 4 dJ5_newCapacity_0f7a4_53 rfl rfl ?_
    refine zr_get X 57 1 1 hb rfl iJ4 (by decide) w2 rfl rfl dJ5_newCapacity_0f7a4_54 rfl ?_
    refine zr_ishr0 X 58 dJ5_newCapacity_0f7a4_57 rfl ?_
    exact zr_iret X rfl ⟨by congr 3; omega, rfl⟩ dJ5_newCapacity_0f7a4_58
  · exfalso
    omega
set_option maxRecDepth 100000 in
set_option maxHeartbeats 4000000 in
theorem m_J7_copyOf_9075b (l : Launch) (Γ : zGam) {V : zV} {v cap : Nat} {f : Nat → Int} {n : Int} (hv : V v = some (7, za Γ.2.1 2 cap f)) (hf : zby f) (hn : (cap : Int) < n ∧ n ≤ 10000) : zM l Γ 2 yJ7_copyOf_9075b wsJ7_copyOf_9075b 1 n.toNat V [.ref v, .int (zI (n))] (fun rv V' => ∃ q g', V q = none ∧ zby g' ∧ rv = some (.ref q) ∧ V' = zu V q 7 (za Γ.2.1 2 n.toNat g')) := by
  have w0 : Cond.arrayClass .byte ∈ wsJ7_copyOf_9075b := by decide +kernel
  have w1 : Cond.methodLink RJ7 304 Lib.Math.min.name ∈ wsJ7_copyOf_9075b := by decide +kernel
  have w2 : Cond.static Lib.Math.min.name ∈ wsJ7_copyOf_9075b := by decide +kernel
  have w3 : Cond.initialized "java/lang/Math" ∈ wsJ7_copyOf_9075b := by decide +kernel
  have w4 : Cond.code Lib.Math.min.name Lib.Math.min.code 2 (some .int) ∈ wsJ7_copyOf_9075b := by decide +kernel
  have w5 : Cond.methodLink RJ7 150 arraycopyName ∈ wsJ7_copyOf_9075b := by decide +kernel
  have w6 : Cond.native arraycopyName ∈ wsJ7_copyOf_9075b := by decide +kernel
  have w7 : Cond.static arraycopyName ∈ wsJ7_copyOf_9075b := by decide +kernel
  have w8 : Cond.initialized "java/lang/System" ∈ wsJ7_copyOf_9075b := by decide +kernel
  refine zM_of (cc := cJ7_copyOf_9075b) (nL := 3) (ret := (some (.array .byte))) (own := RJ7) (by decide +kernel) rfl rfl (Nat.le_of_ble_eq_true rfl) (fun C X hi0 => ?_)
  show zG C V 1 n.toNat 0 [(0, .ref v), (1, .int (zI (n)))] []
  refine zr_iload_n X 1 1 dJ7_copyOf_9075b_0 rfl rfl ?_
  refine zr_aload_n X 2 0 dJ7_copyOf_9075b_1 rfl rfl ?_
  refine zr_alen X 3 2 hv (by decide) dJ7_copyOf_9075b_2 rfl ?_
  refine zr_icmp_ne X 14 6 dJ7_copyOf_9075b_3 rfl rfl (by omega) (by omega) (fun bq1 => ?_) (fun bq1 => ?_)
  · refine zr_iload_n X 15 1 dJ7_copyOf_9075b_14 rfl rfl ?_
    refine zr_newab (kc' := (1 - 1)) (ks' := (n.toNat - (n).toNat)) X 17 7 w0 (by omega) dJ7_copyOf_9075b_15 rfl (by omega) (by omega) (fun q2 hq3 => ?_)
    refine zr_astore_n X 18 [(2, .ref q2), (0, .ref v), (1, .int (zI (n)))] dJ7_copyOf_9075b_17 rfl (by decide) rfl ?_
    refine zr_aload_n X 19 1 dJ7_copyOf_9075b_18 rfl rfl ?_
    refine zr_iconst X 20 dJ7_copyOf_9075b_19 rfl ?_
    refine zr_aload_n X 21 0 dJ7_copyOf_9075b_20 rfl rfl ?_
    refine zr_iconst X 22 dJ7_copyOf_9075b_21 rfl ?_
    refine zr_aload_n X 23 1 dJ7_copyOf_9075b_22 rfl rfl ?_
    refine zr_alen X 24 2 ((zu_ne (zne_new hv hq3)).trans hv) (by decide) dJ7_copyOf_9075b_23 rfl ?_
    refine zr_iload_n X 25 2 dJ7_copyOf_9075b_24 rfl rfl ?_
    refine zr_mmin X 28 ((cap : Int)) w1 w2 w3 w4 (by decide) (Nat.le_of_ble_eq_true rfl) (by omega) (by omega) (by split <;> omega) dJ7_copyOf_9075b_25 rfl ?_
    refine zr_copyb X 31 ((zu_ne (zne_new hv hq3)).trans hv) (zu_eq _ _ _ _) hf w5 w6 w7 w8 (by omega) (by decide) (Nat.le_of_ble_eq_true rfl) dJ7_copyOf_9075b_28 rfl ?_
    refine zr_view (zu_zu _ _ _ _ _ _) ?_
    refine zr_aload_n X 32 0 dJ7_copyOf_9075b_31 rfl rfl ?_
    exact zr_aret X rfl (Or.inr ⟨_, rfl⟩) ⟨q2, _, hq3, zby_zcp hf zby_zero, rfl, rfl⟩ dJ7_copyOf_9075b_32
  · exfalso
    omega
set_option maxRecDepth 100000 in
set_option maxHeartbeats 4000000 in
theorem m_J5_ensure_n (l : Launch) (Γ : zGam) {V : zV} {b v cap : Nat} {mb cnt : Int} {f : Nat → Int} {mn : Int} (hb : V b = some (7, .inr (1, [.ref v, .int (zI 0), .int (zI mb), .int (zI cnt)]))) (hv : V v = some (7, za Γ.2.1 2 cap f)) (hr : 0 ≤ cnt ∧ cnt ≤ cap ∧ cap ≤ 3000) (hf : zby f) (hm : 0 ≤ mn ∧ mn ≤ cap) : zM l Γ 4 yJ5_ensureCapacityInternal_d00df wsJ5_ensureCapacityInternal_d00df 0 0 V [.ref b, .int (zI (mn))] (fun rv V' => rv = none ∧ V' = V) := by
  have w0 : Cond.fieldLink RJ5 15 "java/lang/AbstractStringBuilder" "value" "[B" ∈ wsJ5_ensureCapacityInternal_d00df := by decide +kernel
  have iJ4 : ∀ w ∈ u_ws RJ4 TJ4 4, w ∈ wsJ5_ensureCapacityInternal_d00df := by decide +kernel
  have w2 : Cond.fieldLink RJ5 22 "java/lang/AbstractStringBuilder" "coder" "B" ∈ wsJ5_ensureCapacityInternal_d00df := by decide +kernel
  refine zM_of (cc := cJ5_ensureCapacityInternal_d00df) (nL := 3) (ret := none) (own := RJ5) (by decide +kernel) rfl rfl (Nat.le_of_ble_eq_true rfl) (fun C X hi0 => ?_)
  show zG C V 0 0 0 [(0, .ref b), (1, .int (zI (mn)))] []
  refine zr_aload_n X 1 0 dJ5_ensureCapacityInternal_d00df_0 rfl rfl ?_
  refine zr_get X 4 1 0 hb rfl iJ4 (by decide) w0 rfl rfl dJ5_ensureCapacityInternal_d00df_1 rfl ?_
  refine zr_alen X 5 2 hv (by decide) dJ5_ensureCapacityInternal_d00df_4 rfl ?_
  refine zr_aload_n X 6 0 dJ5_ensureCapacityInternal_d00df_5 rfl rfl ?_
  refine zr_get X 9 1 1 hb rfl iJ4 (by decide) w2 rfl rfl dJ5_ensureCapacityInternal_d00df_6 rfl ?_
  refine zr_ishr0 X 10 dJ5_ensureCapacityInternal_d00df_9 rfl ?_
  refine zr_istore_n X 11 [(2, .int (zI ((cap : Nat)))), (0, .ref b), (1, .int (zI (mn)))] dJ5_ensureCapacityInternal_d00df_10 rfl (by decide) rfl ?_
  refine zr_iload_n X 12 2 dJ5_ensureCapacityInternal_d00df_11 rfl rfl ?_
  refine zr_iload_n X 13 0 dJ5_ensureCapacityInternal_d00df_12 rfl rfl ?_
  refine zr_isub X 14 dJ5_ensureCapacityInternal_d00df_13 rfl ?_
  refine zr_if_le X 38 17 dJ5_ensureCapacityInternal_d00df_14 rfl rfl (by omega) (fun bq1 => ?_) (fun bq1 => ?_)
  · exact zr_vret X rfl ⟨rfl, rfl⟩ dJ5_ensureCapacityInternal_d00df_38
  · exfalso
    omega
set_option maxRecDepth 100000 in
set_option maxHeartbeats 4000000 in
theorem m_J5_ensure_y (l : Launch) (Γ : zGam) {V : zV} {b v cap : Nat} {mb cnt : Int} {f : Nat → Int} {mn : Int} (hb : V b = some (7, .inr (1, [.ref v, .int (zI 0), .int (zI mb), .int (zI cnt)]))) (hv : V v = some (7, za Γ.2.1 2 cap f)) (hr : 0 ≤ cnt ∧ cnt ≤ cap ∧ cap ≤ 3000) (hf : zby f) (hm : (cap : Int) < mn ∧ mn ≤ 2 * cap + 2) : zM l Γ 4 yJ5_ensureCapacityInternal_d00df wsJ5_ensureCapacityInternal_d00df 1 ((2 * (cap : Int) + 2).toNat) V [.ref b, .int (zI (mn))] (fun rv V' => rv = none ∧ ∃ q g', V q = none ∧ zby g' ∧ V' = zu (zu V q 7 (za Γ.2.1 2 (2 * (cap : Int) + 2).toNat g')) b 7 (.inr (1, [.ref q, .int (zI (0)), .int (zI (mb)), .int (zI (cnt))]))) := by
  have w0 : Cond.fieldLink RJ5 15 "java/lang/AbstractStringBuilder" "value" "[B" ∈ wsJ5_ensureCapacityInternal_d00df := by decide +kernel
  have iJ4 : ∀ w ∈ u_ws RJ4 TJ4 4, w ∈ wsJ5_ensureCapacityInternal_d00df := by decide +kernel
  have w2 : Cond.fieldLink RJ5 22 "java/lang/AbstractStringBuilder" "coder" "B" ∈ wsJ5_ensureCapacityInternal_d00df := by decide +kernel
  refine zM_of (cc := cJ5_ensureCapacityInternal_d00df) (nL := 3) (ret := none) (own := RJ5) (by decide +kernel) rfl rfl (Nat.le_of_ble_eq_true rfl) (fun C X hi0 => ?_)
  show zG C V 1 ((2 * (cap : Int) + 2).toNat) 0 [(0, .ref b), (1, .int (zI (mn)))] []
  refine zr_aload_n X 1 0 dJ5_ensureCapacityInternal_d00df_0 rfl rfl ?_
  refine zr_get X 4 1 0 hb rfl iJ4 (by decide) w0 rfl rfl dJ5_ensureCapacityInternal_d00df_1 rfl ?_
  refine zr_alen X 5 2 hv (by decide) dJ5_ensureCapacityInternal_d00df_4 rfl ?_
  refine zr_aload_n X 6 0 dJ5_ensureCapacityInternal_d00df_5 rfl rfl ?_
  refine zr_get X 9 1 1 hb rfl iJ4 (by decide) w2 rfl rfl dJ5_ensureCapacityInternal_d00df_6 rfl ?_
  refine zr_ishr0 X 10 dJ5_ensureCapacityInternal_d00df_9 rfl ?_
  refine zr_istore_n X 11 [(2, .int (zI ((cap : Nat)))), (0, .ref b), (1, .int (zI (mn)))] dJ5_ensureCapacityInternal_d00df_10 rfl (by decide) rfl ?_
  refine zr_iload_n X 12 2 dJ5_ensureCapacityInternal_d00df_11 rfl rfl ?_
  refine zr_iload_n X 13 0 dJ5_ensureCapacityInternal_d00df_12 rfl rfl ?_
  refine zr_isub X 14 dJ5_ensureCapacityInternal_d00df_13 rfl ?_
  refine zr_if_le X 38 17 dJ5_ensureCapacityInternal_d00df_14 rfl rfl (by omega) (fun bq1 => ?_) (fun bq1 => ?_)
  · exfalso
    omega
  · refine zr_aload_n X 18 1 dJ5_ensureCapacityInternal_d00df_17 rfl rfl ?_
    refine zr_aload_n X 19 1 dJ5_ensureCapacityInternal_d00df_18 rfl rfl ?_
    refine zr_get X 22 1 0 hb rfl iJ4 (by decide) w0 rfl rfl dJ5_ensureCapacityInternal_d00df_19 rfl ?_
    refine zr_aload_n X 23 1 dJ5_ensureCapacityInternal_d00df_22 rfl rfl ?_
    refine zr_iload_n X 24 2 dJ5_ensureCapacityInternal_d00df_23 rfl rfl ?_
    refine zr_callU2 (kc' := 1) (ks' := (2 * (cap : Int) + 2).toNat) X 27 1 (m_J5_newCapacity_0f7a4 l Γ (mn := mn) hb hv hr (by omega)) gJ5_ensureCapacityInternal_d00df_J5_newCapacity_0f7a4_u104J4 rfl rfl (by decide +kernel) rfl (by decide) hb rfl rfl (Nat.le_of_ble_eq_true rfl) dJ5_ensureCapacityInternal_d00df_24 rfl (by omega) (by omega) (fun rv2 V3 hp4 => ?_)
    rw [hp4.1, hp4.2]
    show zG C V 1 ((2 * (cap : Int) + 2).toNat) 27 [(2, .int (zI ((cap : Nat)))), (0, .ref b), (1, .int (zI (mn)))] [.int (zI (2 * (cap : Int) + 2)), .ref v, .ref b]
    refine zr_aload_n X 28 1 dJ5_ensureCapacityInternal_d00df_27 rfl rfl ?_
    refine zr_get X 31 1 1 hb rfl iJ4 (by decide) w2 rfl rfl dJ5_ensureCapacityInternal_d00df_28 rfl ?_
    refine zr_ishl0 X 32 dJ5_ensureCapacityInternal_d00df_31 rfl ?_
    refine zr_callS (kc' := (1 - 1)) (ks' := ((2 * (cap : Int) + 2).toNat - (2 * (cap : Int) + 2).toNat)) X 35 2 (m_J7_copyOf_9075b l Γ (n := 2 * (cap : Int) + 2) hv hf (by omega)) gJ5_ensureCapacityInternal_d00df_J7_copyOf_9075b rfl (by decide +kernel) rfl (by decide) rfl (Nat.le_of_ble_eq_true rfl) dJ5_ensureCapacityInternal_d00df_32 rfl (by omega) (by omega) (fun rv5 V6 hp7 => ?_)
    obtain ⟨q8, q8f, q8n, q8b, q8r, q8v⟩ := hp7
    rw [q8r, q8v]
    show zG C (zu V q8 7 (za Γ.2.1 2 ((2 * (cap : Int) + 2).toNat) q8f)) (1 - 1) ((2 * (cap : Int) + 2).toNat - (2 * (cap : Int) + 2).toNat) 35 [(2, .int (zI ((cap : Nat)))), (0, .ref b), (1, .int (zI (mn)))] [.ref q8, .ref b]
    refine zr_put X 38 1 0 [.ref q8, .int (zI (0)), .int (zI (mb)), .int (zI (cnt))] tyJ4 ((zu_ne (zne_new hb q8n)).trans hb) rfl iJ4 tyJ4_ok nmJ4 (by decide) w0 rfl rfl rfl rfl (Nat.le_of_ble_eq_true rfl) rfl dJ5_ensureCapacityInternal_d00df_35 rfl ?_
    exact zr_vret X rfl ⟨rfl, q8, q8f, q8n, q8b, rfl⟩ dJ5_ensureCapacityInternal_d00df_38
set_option maxRecDepth 100000 in
set_option maxHeartbeats 4000000 in
theorem m_J5_append_c_n (l : Launch) (Γ : zGam) {V : zV} {b v cap : Nat} {mb cnt : Int} {f : Nat → Int} {x : Int} (hb : V b = some (7, .inr (1, [.ref v, .int (zI 0), .int (zI mb), .int (zI cnt)]))) (hv : V v = some (7, za Γ.2.1 2 cap f)) (hr : 0 ≤ cnt ∧ cnt ≤ cap ∧ cap ≤ 3000) (hf : zby f) (hx : 0 ≤ x ∧ x ≤ 255) (hm : cnt + 1 ≤ cap) : zM l Γ 5 yJ5_append_3fe6f wsJ5_append_3fe6f 0 0 V [.ref b, .int (zI (x))] (fun rv V' => rv = some (.ref b) ∧ zSB Γ V' b (cnt + 1) cap ∧ zfr V V') := by
  have hbv : b ≠ v := zne_oa hb hv
  have w0 : Cond.fieldLink RJ5 79 "java/lang/AbstractStringBuilder" "count" "I" ∈ wsJ5_append_3fe6f := by decide +kernel
  have iJ4 : ∀ w ∈ u_ws RJ4 TJ4 4, w ∈ wsJ5_append_3fe6f := by decide +kernel
  have w2 : Cond.fieldLink RJ5 15 "java/lang/AbstractStringBuilder" "value" "[B" ∈ wsJ5_append_3fe6f := by decide +kernel
  refine zM_of (cc := cJ5_append_3fe6f) (nL := 2) (ret := (some (.object "java/lang/AbstractStringBuilder"))) (own := RJ5) (by decide +kernel) rfl rfl (Nat.le_of_ble_eq_true rfl) (fun C X hi0 => ?_)
  show zG C V 0 0 0 [(0, .ref b), (1, .int (zI (x)))] []
  refine zr_aload_n X 1 0 dJ5_append_3fe6f_0 rfl rfl ?_
  refine zr_aload_n X 2 0 dJ5_append_3fe6f_1 rfl rfl ?_
  refine zr_get X 5 1 3 hb rfl iJ4 (by decide) w0 rfl rfl dJ5_append_3fe6f_2 rfl ?_
  refine zr_iconst X 6 dJ5_append_3fe6f_5 rfl ?_
  refine zr_iadd X 7 dJ5_append_3fe6f_6 rfl ?_
  refine zr_callU2 (kc' := (0 - 0)) (ks' := (0 - 0)) X 10 1 (m_J5_ensure_n l Γ (mn := cnt + 1) hb hv hr hf (by omega)) gJ5_append_3fe6f_J5_ensureCapacityInternal_d00df_u100J4 rfl rfl (by decide +kernel) rfl (by decide) hb rfl rfl (Nat.le_of_ble_eq_true rfl) dJ5_append_3fe6f_7 rfl (by omega) (by omega) (fun rv1 V2 hp3 => ?_)
  rw [hp3.1, hp3.2]
  show zG C V (0 - 0) (0 - 0) 10 [(0, .ref b), (1, .int (zI (x)))] []
  refine zr_aload_n X 11 0 dJ5_append_3fe6f_10 rfl rfl ?_
  refine zr_callU2 (kc' := (0 - 0)) (ks' := (0 - 0)) X 14 0 (m_J5_isLatin1_aae02 l Γ hb) gJ5_append_3fe6f_J5_isLatin1_aae02_u83J4 rfl rfl (by decide +kernel) rfl (by decide) hb rfl rfl (Nat.le_of_ble_eq_true rfl) dJ5_append_3fe6f_11 rfl (by omega) (by omega) (fun rv4 V5 hp6 => ?_)
  rw [hp6.1, hp6.2]
  show zG C V (0 - 0) (0 - 0) 14 [(0, .ref b), (1, .int (zI (x)))] [.int (zI (1))]
  refine zr_if_eq X 45 17 dJ5_append_3fe6f_14 rfl rfl (by omega) (fun bq7 => absurd bq7 (by omega)) (fun bq7 => ?_)
  refine zr_iload_n X 18 1 dJ5_append_3fe6f_17 rfl rfl ?_
  refine zr_callS (kc' := (0 - 0)) (ks' := (0 - 0)) X 21 1 (m_J1_canEncode_fc78d l Γ (V := V) (x := x) (by omega)) gJ5_append_3fe6f_J1_canEncode_fc78d rfl (by decide +kernel) rfl (by decide) rfl (Nat.le_of_ble_eq_true rfl) dJ5_append_3fe6f_18 rfl (by omega) (by omega) (fun rv8 V9 hp10 => ?_)
  rw [hp10.1, hp10.2]
  show zG C V (0 - 0) (0 - 0) 21 [(0, .ref b), (1, .int (zI (x)))] [.int (zI (1))]
  refine zr_if_eq X 45 24 dJ5_append_3fe6f_21 rfl rfl (by omega) (fun bq11 => absurd bq11 (by omega)) (fun bq11 => ?_)
  refine zr_aload_n X 25 0 dJ5_append_3fe6f_24 rfl rfl ?_
  refine zr_get X 28 1 0 hb rfl iJ4 (by decide) w2 rfl rfl dJ5_append_3fe6f_25 rfl ?_
  refine zr_aload_n X 29 0 dJ5_append_3fe6f_28 rfl rfl ?_
  refine zr_dup X 30 dJ5_append_3fe6f_29 rfl rfl ?_
  refine zr_get X 33 1 3 hb rfl iJ4 (by decide) w0 rfl rfl dJ5_append_3fe6f_30 rfl ?_
  refine zr_dup_x1 X 34 dJ5_append_3fe6f_33 rfl rfl rfl ?_
  refine zr_iconst X 35 dJ5_append_3fe6f_34 rfl ?_
  refine zr_iadd X 36 dJ5_append_3fe6f_35 rfl ?_
  refine zr_put X 39 1 3 [.ref v, .int (zI (0)), .int (zI (mb)), .int (zI (cnt + 1))] tyJ4 hb rfl iJ4 tyJ4_ok nmJ4 (by decide) w0 rfl rfl rfl rfl (Nat.le_of_ble_eq_true rfl) rfl dJ5_append_3fe6f_36 rfl ?_
  refine zr_iload_n X 40 1 dJ5_append_3fe6f_39 rfl rfl ?_
  refine zr_i2bI X 41 dJ5_append_3fe6f_40 rfl (by omega) ?_
  obtain ⟨y12, y12e, y12a⟩ := zbex (x := x) (by omega)
  rw [y12e]
  refine zr_bast X 42 ((zu_ne (Ne.symm (zne_oa hb hv))).trans hv) (by omega) (by omega) dJ5_append_3fe6f_41 rfl ?_
  refine zr_goto X 75 dJ5_append_3fe6f_42 rfl ?_
  refine zr_aload_n X 76 0 dJ5_append_3fe6f_75 rfl rfl ?_
  exact zr_aret X rfl (Or.inl ⟨_, rfl⟩) ⟨rfl, ⟨v, mb, _, ((zu_ne (zne_oa hb hv)).trans (zu_eq _ _ _ _)), (zu_eq _ _ _ _), (zby_zf hf (by omega)), by omega, by omega, by omega⟩, ((zfr.rf.set hb).set ((zu_ne (Ne.symm (zne_oa hb hv))).trans hv))⟩ dJ5_append_3fe6f_76
set_option maxRecDepth 100000 in
set_option maxHeartbeats 4000000 in
theorem m_J5_append_c_y (l : Launch) (Γ : zGam) {V : zV} {b v cap : Nat} {mb cnt : Int} {f : Nat → Int} {x : Int} (hb : V b = some (7, .inr (1, [.ref v, .int (zI 0), .int (zI mb), .int (zI cnt)]))) (hv : V v = some (7, za Γ.2.1 2 cap f)) (hr : 0 ≤ cnt ∧ cnt ≤ cap ∧ cap ≤ 1400) (hf : zby f) (hx : 0 ≤ x ∧ x ≤ 255) (hm : (cap : Int) < cnt + 1) : zM l Γ 5 yJ5_append_3fe6f wsJ5_append_3fe6f 1 ((2 * (cap : Int) + 2).toNat) V [.ref b, .int (zI (x))] (fun rv V' => rv = some (.ref b) ∧ zSB Γ V' b (cnt + 1) (2 * (cap : Int) + 2).toNat ∧ zfr V V') := by
  have hbv : b ≠ v := zne_oa hb hv
  have hr : 0 ≤ cnt ∧ cnt ≤ cap ∧ cap ≤ 3000 := by omega
  have w0 : Cond.fieldLink RJ5 79 "java/lang/AbstractStringBuilder" "count" "I" ∈ wsJ5_append_3fe6f := by decide +kernel
  have iJ4 : ∀ w ∈ u_ws RJ4 TJ4 4, w ∈ wsJ5_append_3fe6f := by decide +kernel
  have w2 : Cond.fieldLink RJ5 15 "java/lang/AbstractStringBuilder" "value" "[B" ∈ wsJ5_append_3fe6f := by decide +kernel
  refine zM_of (cc := cJ5_append_3fe6f) (nL := 2) (ret := (some (.object "java/lang/AbstractStringBuilder"))) (own := RJ5) (by decide +kernel) rfl rfl (Nat.le_of_ble_eq_true rfl) (fun C X hi0 => ?_)
  show zG C V 1 ((2 * (cap : Int) + 2).toNat) 0 [(0, .ref b), (1, .int (zI (x)))] []
  refine zr_aload_n X 1 0 dJ5_append_3fe6f_0 rfl rfl ?_
  refine zr_aload_n X 2 0 dJ5_append_3fe6f_1 rfl rfl ?_
  refine zr_get X 5 1 3 hb rfl iJ4 (by decide) w0 rfl rfl dJ5_append_3fe6f_2 rfl ?_
  refine zr_iconst X 6 dJ5_append_3fe6f_5 rfl ?_
  refine zr_iadd X 7 dJ5_append_3fe6f_6 rfl ?_
  refine zr_callU2 (kc' := (1 - 1)) (ks' := ((2 * (cap : Int) + 2).toNat - (2 * (cap : Int) + 2).toNat)) X 10 1 (m_J5_ensure_y l Γ (mn := cnt + 1) hb hv hr hf (by omega)) gJ5_append_3fe6f_J5_ensureCapacityInternal_d00df_u100J4 rfl rfl (by decide +kernel) rfl (by decide) hb rfl rfl (Nat.le_of_ble_eq_true rfl) dJ5_append_3fe6f_7 rfl (by omega) (by omega) (fun rv1 V2 hp3 => ?_)
  obtain ⟨q4r, q4, q4f, q4n, q4b, q4v⟩ := hp3
  rw [q4r, q4v]
  show zG C (zu (zu V q4 7 (za Γ.2.1 2 ((2 * (cap : Int) + 2).toNat) q4f)) b 7 (.inr (1, [.ref q4, .int (zI (0)), .int (zI (mb)), .int (zI (cnt))]))) (1 - 1) ((2 * (cap : Int) + 2).toNat - (2 * (cap : Int) + 2).toNat) 10 [(0, .ref b), (1, .int (zI (x)))] []
  refine zr_aload_n X 11 0 dJ5_append_3fe6f_10 rfl rfl ?_
  refine zr_callU2 (kc' := (1 - 1)) (ks' := ((2 * (cap : Int) + 2).toNat - (2 * (cap : Int) + 2).toNat)) X 14 0 (m_J5_isLatin1_aae02 l Γ (zu_eq _ _ _ _)) gJ5_append_3fe6f_J5_isLatin1_aae02_u83J4 rfl rfl (by decide +kernel) rfl (by decide) (zu_eq _ _ _ _) rfl rfl (Nat.le_of_ble_eq_true rfl) dJ5_append_3fe6f_11 rfl (by omega) (by omega) (fun rv5 V6 hp7 => ?_)
  rw [hp7.1, hp7.2]
  show zG C (zu (zu V q4 7 (za Γ.2.1 2 ((2 * (cap : Int) + 2).toNat) q4f)) b 7 (.inr (1, [.ref q4, .int (zI (0)), .int (zI (mb)), .int (zI (cnt))]))) (1 - 1) ((2 * (cap : Int) + 2).toNat - (2 * (cap : Int) + 2).toNat) 14 [(0, .ref b), (1, .int (zI (x)))] [.int (zI (1))]
  refine zr_if_eq X 45 17 dJ5_append_3fe6f_14 rfl rfl (by omega) (fun bq8 => absurd bq8 (by omega)) (fun bq8 => ?_)
  refine zr_iload_n X 18 1 dJ5_append_3fe6f_17 rfl rfl ?_
  refine zr_callS (kc' := (1 - 1)) (ks' := ((2 * (cap : Int) + 2).toNat - (2 * (cap : Int) + 2).toNat)) X 21 1 (m_J1_canEncode_fc78d l Γ (V := (zu (zu V q4 7 (za Γ.2.1 2 ((2 * (cap : Int) + 2).toNat) q4f)) b 7 (.inr (1, [.ref q4, .int (zI (0)), .int (zI (mb)), .int (zI (cnt))])))) (x := x) (by omega)) gJ5_append_3fe6f_J1_canEncode_fc78d rfl (by decide +kernel) rfl (by decide) rfl (Nat.le_of_ble_eq_true rfl) dJ5_append_3fe6f_18 rfl (by omega) (by omega) (fun rv9 V10 hp11 => ?_)
  rw [hp11.1, hp11.2]
  show zG C (zu (zu V q4 7 (za Γ.2.1 2 ((2 * (cap : Int) + 2).toNat) q4f)) b 7 (.inr (1, [.ref q4, .int (zI (0)), .int (zI (mb)), .int (zI (cnt))]))) (1 - 1) ((2 * (cap : Int) + 2).toNat - (2 * (cap : Int) + 2).toNat) 21 [(0, .ref b), (1, .int (zI (x)))] [.int (zI (1))]
  refine zr_if_eq X 45 24 dJ5_append_3fe6f_21 rfl rfl (by omega) (fun bq12 => absurd bq12 (by omega)) (fun bq12 => ?_)
  refine zr_aload_n X 25 0 dJ5_append_3fe6f_24 rfl rfl ?_
  refine zr_get X 28 1 0 (zu_eq _ _ _ _) rfl iJ4 (by decide) w2 rfl rfl dJ5_append_3fe6f_25 rfl ?_
  refine zr_aload_n X 29 0 dJ5_append_3fe6f_28 rfl rfl ?_
  refine zr_dup X 30 dJ5_append_3fe6f_29 rfl rfl ?_
  refine zr_get X 33 1 3 (zu_eq _ _ _ _) rfl iJ4 (by decide) w0 rfl rfl dJ5_append_3fe6f_30 rfl ?_
  refine zr_dup_x1 X 34 dJ5_append_3fe6f_33 rfl rfl rfl ?_
  refine zr_iconst X 35 dJ5_append_3fe6f_34 rfl ?_
  refine zr_iadd X 36 dJ5_append_3fe6f_35 rfl ?_
  refine zr_put X 39 1 3 [.ref q4, .int (zI (0)), .int (zI (mb)), .int (zI (cnt + 1))] tyJ4 (zu_eq _ _ _ _) rfl iJ4 tyJ4_ok nmJ4 (by decide) w0 rfl rfl rfl rfl (Nat.le_of_ble_eq_true rfl) rfl dJ5_append_3fe6f_36 rfl ?_
  refine zr_view (zu_zu _ _ _ _ _ _) ?_
  refine zr_iload_n X 40 1 dJ5_append_3fe6f_39 rfl rfl ?_
  refine zr_i2bI X 41 dJ5_append_3fe6f_40 rfl (by omega) ?_
  obtain ⟨y13, y13e, y13a⟩ := zbex (x := x) (by omega)
  rw [y13e]
  refine zr_bast X 42 ((zu_ne (Ne.symm (zne_new hb q4n))).trans (zu_eq _ _ _ _)) (by omega) (by omega) dJ5_append_3fe6f_41 rfl ?_
  refine zr_goto X 75 dJ5_append_3fe6f_42 rfl ?_
  refine zr_aload_n X 76 0 dJ5_append_3fe6f_75 rfl rfl ?_
  exact zr_aret X rfl (Or.inl ⟨_, rfl⟩) ⟨rfl, ⟨q4, mb, _, ((zu_ne (zne_new hb q4n)).trans (zu_eq _ _ _ _)), (zu_eq _ _ _ _), (zby_zf q4b (by omega)), by omega, by omega, by omega⟩, (((zfr.rf.new q4n).set ((zu_ne (zne_new hb q4n)).trans hb)).set ((zu_ne (Ne.symm (zne_new hb q4n))).trans (zu_eq _ _ _ _)))⟩ dJ5_append_3fe6f_76
set_option maxRecDepth 100000 in
set_option maxHeartbeats 4000000 in
theorem m_J4_append_c_n (l : Launch) (Γ : zGam) {V : zV} {b v cap : Nat} {mb cnt : Int} {f : Nat → Int} {x : Int} (hb : V b = some (7, .inr (1, [.ref v, .int (zI 0), .int (zI mb), .int (zI cnt)]))) (hv : V v = some (7, za Γ.2.1 2 cap f)) (hr : 0 ≤ cnt ∧ cnt ≤ cap ∧ cap ≤ 3000) (hf : zby f) (hx : 0 ≤ x ∧ x ≤ 255) (hm : cnt + 1 ≤ cap) : zM l Γ 6 yJ4_append_cf468 wsJ4_append_cf468 0 0 V [.ref b, .int (zI (x))] (fun rv V' => rv = some (.ref b) ∧ zSB Γ V' b (cnt + 1) cap ∧ zfr V V') := by
  refine zM_of (cc := cJ4_append_cf468) (nL := 2) (ret := (some (.object "java/lang/StringBuilder"))) (own := RJ4) (by decide +kernel) rfl rfl (Nat.le_of_ble_eq_true rfl) (fun C X hi0 => ?_)
  show zG C V 0 0 0 [(0, .ref b), (1, .int (zI (x)))] []
  refine zr_aload_n X 1 0 dJ4_append_cf468_0 rfl rfl ?_
  refine zr_iload_n X 2 1 dJ4_append_cf468_1 rfl rfl ?_
  refine zr_callSU (kc' := 0) (ks' := 0) X 5 1 (m_J5_append_c_n l Γ (x := x) hb hv hr hf hx hm) gJ4_append_cf468_J5_append_3fe6f_s50 rfl (by decide +kernel) rfl (by decide) hb rfl rfl (Nat.le_of_ble_eq_true rfl) dJ4_append_cf468_2 rfl (by omega) (by omega) (fun rv1 V2 hp3 => ?_)
  obtain ⟨hp31, hp32, hp33⟩ := hp3
  rw [hp31]
  show zG C V2 0 0 5 [(0, .ref b), (1, .int (zI (x)))] [.ref b]
  refine zr_pop X 6 dJ4_append_cf468_5 rfl rfl ?_
  refine zr_aload_n X 7 0 dJ4_append_cf468_6 rfl rfl ?_
  exact zr_aret X rfl (Or.inl ⟨_, rfl⟩) ⟨rfl, hp32, hp33⟩ dJ4_append_cf468_7
set_option maxRecDepth 100000 in
set_option maxHeartbeats 4000000 in
theorem m_J4_append_c_y (l : Launch) (Γ : zGam) {V : zV} {b v cap : Nat} {mb cnt : Int} {f : Nat → Int} {x : Int} (hb : V b = some (7, .inr (1, [.ref v, .int (zI 0), .int (zI mb), .int (zI cnt)]))) (hv : V v = some (7, za Γ.2.1 2 cap f)) (hr : 0 ≤ cnt ∧ cnt ≤ cap ∧ cap ≤ 1400) (hf : zby f) (hx : 0 ≤ x ∧ x ≤ 255) (hm : (cap : Int) < cnt + 1) : zM l Γ 6 yJ4_append_cf468 wsJ4_append_cf468 1 ((2 * (cap : Int) + 2).toNat) V [.ref b, .int (zI (x))] (fun rv V' => rv = some (.ref b) ∧ zSB Γ V' b (cnt + 1) (2 * (cap : Int) + 2).toNat ∧ zfr V V') := by
  refine zM_of (cc := cJ4_append_cf468) (nL := 2) (ret := (some (.object "java/lang/StringBuilder"))) (own := RJ4) (by decide +kernel) rfl rfl (Nat.le_of_ble_eq_true rfl) (fun C X hi0 => ?_)
  show zG C V 1 ((2 * (cap : Int) + 2).toNat) 0 [(0, .ref b), (1, .int (zI (x)))] []
  refine zr_aload_n X 1 0 dJ4_append_cf468_0 rfl rfl ?_
  refine zr_iload_n X 2 1 dJ4_append_cf468_1 rfl rfl ?_
  refine zr_callSU (kc' := (1 - 1)) (ks' := ((2 * (cap : Int) + 2).toNat - (2 * (cap : Int) + 2).toNat)) X 5 1 (m_J5_append_c_y l Γ (x := x) hb hv hr hf hx hm) gJ4_append_cf468_J5_append_3fe6f_s50 rfl (by decide +kernel) rfl (by decide) hb rfl rfl (Nat.le_of_ble_eq_true rfl) dJ4_append_cf468_2 rfl (by omega) (by omega) (fun rv1 V2 hp3 => ?_)
  obtain ⟨hp31, hp32, hp33⟩ := hp3
  rw [hp31]
  show zG C V2 (1 - 1) ((2 * (cap : Int) + 2).toNat - (2 * (cap : Int) + 2).toNat) 5 [(0, .ref b), (1, .int (zI (x)))] [.ref b]
  refine zr_pop X 6 dJ4_append_cf468_5 rfl rfl ?_
  refine zr_aload_n X 7 0 dJ4_append_cf468_6 rfl rfl ?_
  exact zr_aret X rfl (Or.inl ⟨_, rfl⟩) ⟨rfl, hp32, hp33⟩ dJ4_append_cf468_7
set_option maxRecDepth 100000 in
set_option maxHeartbeats 4000000 in
theorem m_J6_stringSize_0f7a4 (l : Launch) (Γ : zGam) {V : zV} {x : Int} (hx : 0 ≤ x ∧ x ≤ 1000) : zM l Γ 0 yJ6_stringSize_0f7a4 wsJ6_stringSize_0f7a4 0 0 V [.int (zI (x))] (fun rv V' => ∃ k : Int, rv = some (.int (zI k)) ∧ V' = V ∧ ((x < 10 ∧ k = 1) ∨ (10 ≤ x ∧ x < 100 ∧ k = 2) ∨ (100 ≤ x ∧ x < 1000 ∧ k = 3) ∨ (1000 ≤ x ∧ k = 4))) := by
  refine zM_of (cc := cJ6_stringSize_0f7a4) (nL := 4) (ret := (some .int)) (own := RJ6) (by decide +kernel) rfl rfl (Nat.le_of_ble_eq_true rfl) (fun C X hi0 => ?_)
  show zG C V 0 0 0 [(0, .int (zI (x)))] []
  refine zr_iconst X 1 dJ6_stringSize_0f7a4_0 rfl ?_
  refine zr_istore_n X 2 [(1, .int (zI (1))), (0, .int (zI (x)))] dJ6_stringSize_0f7a4_1 rfl (by decide) rfl ?_
  refine zr_iload_n X 3 1 dJ6_stringSize_0f7a4_2 rfl rfl ?_
  refine zr_if_lt X 11 6 dJ6_stringSize_0f7a4_3 rfl rfl (by omega) (fun bq1 => ?_) (fun bq1 => ?_)
  · exfalso
    omega
  · refine zr_iconst X 7 dJ6_stringSize_0f7a4_6 rfl ?_
    refine zr_istore_n X 8 [(1, .int (zI (0))), (0, .int (zI (x)))] dJ6_stringSize_0f7a4_7 rfl (by decide) rfl ?_
    refine zr_iload_n X 9 1 dJ6_stringSize_0f7a4_8 rfl rfl ?_
    refine zr_ineg X 10 dJ6_stringSize_0f7a4_9 rfl ?_
    refine zr_istore_n X 11 [(0, .int (zI (-x))), (1, .int (zI (0)))] dJ6_stringSize_0f7a4_10 rfl (by decide) rfl ?_
    refine zr_bipush X 13 (-10) dJ6_stringSize_0f7a4_11 rfl (by decide) ?_
    refine zr_istore_n X 14 [(2, .int (zI (-10))), (0, .int (zI (-x))), (1, .int (zI (0)))] dJ6_stringSize_0f7a4_13 rfl (by decide) rfl ?_
    refine zr_iconst X 15 dJ6_stringSize_0f7a4_14 rfl ?_
    refine zr_istore_n X 16 [(3, .int (zI (1))), (2, .int (zI (-10))), (0, .int (zI (-x))), (1, .int (zI (0)))] dJ6_stringSize_0f7a4_15 rfl (by decide) rfl ?_
    refine zr_iload_n X 17 0 dJ6_stringSize_0f7a4_16 rfl rfl ?_
    refine zr_bipush X 19 (10) dJ6_stringSize_0f7a4_17 rfl (by decide) ?_
    refine zr_icmp_ge X 42 22 dJ6_stringSize_0f7a4_19 rfl rfl (by omega) (by omega) (fun bq2 => absurd bq2 (by omega)) (fun bq2 => ?_)
    refine zr_iload_n X 23 2 dJ6_stringSize_0f7a4_22 rfl rfl ?_
    refine zr_iload_n X 24 1 dJ6_stringSize_0f7a4_23 rfl rfl ?_
    refine zr_icmp_le X 31 27 dJ6_stringSize_0f7a4_24 rfl rfl (by omega) (by omega) (fun bq3 => ?_) (fun bq3 => ?_)
    · refine zr_bipush X 33 (10) dJ6_stringSize_0f7a4_31 rfl (by decide) ?_
      refine zr_iload_n X 34 1 dJ6_stringSize_0f7a4_33 rfl rfl ?_
      refine zr_imul X 35 dJ6_stringSize_0f7a4_34 rfl ?_
      refine zr_istore_n X 36 [(2, .int (zI (10 * (-10)))), (3, .int (zI (1))), (0, .int (zI (-x))), (1, .int (zI (0)))] dJ6_stringSize_0f7a4_35 rfl (by decide) rfl ?_
      refine zr_iinc X 39 1 [(3, .int (zI (1 + 1))), (2, .int (zI (10 * (-10)))), (0, .int (zI (-x))), (1, .int (zI (0)))] dJ6_stringSize_0f7a4_36 rfl rfl (by decide) rfl ?_
      refine zr_goto X 16 dJ6_stringSize_0f7a4_39 rfl ?_
      refine zr_iload_n X 17 0 dJ6_stringSize_0f7a4_16 rfl rfl ?_
      refine zr_bipush X 19 (10) dJ6_stringSize_0f7a4_17 rfl (by decide) ?_
      refine zr_icmp_ge X 42 22 dJ6_stringSize_0f7a4_19 rfl rfl (by omega) (by omega) (fun bq4 => ?_) (fun bq4 => ?_)
      · refine zr_bipush X 44 (10) dJ6_stringSize_0f7a4_42 rfl (by decide) ?_
        refine zr_iload_n X 45 3 dJ6_stringSize_0f7a4_44 rfl rfl ?_
        refine zr_iadd X 46 dJ6_stringSize_0f7a4_45 rfl ?_
        exact zr_iret X rfl ⟨10 + 0, rfl, rfl, by omega⟩ dJ6_stringSize_0f7a4_46
      · refine zr_iload_n X 23 2 dJ6_stringSize_0f7a4_22 rfl rfl ?_
        refine zr_iload_n X 24 1 dJ6_stringSize_0f7a4_23 rfl rfl ?_
        refine zr_icmp_le X 31 27 dJ6_stringSize_0f7a4_24 rfl rfl (by omega) (by omega) (fun bq5 => ?_) (fun bq5 => ?_)
        · refine zr_bipush X 33 (10) dJ6_stringSize_0f7a4_31 rfl (by decide) ?_
          refine zr_iload_n X 34 1 dJ6_stringSize_0f7a4_33 rfl rfl ?_
          refine zr_imul X 35 dJ6_stringSize_0f7a4_34 rfl ?_
          refine zr_istore_n X 36 [(2, .int (zI (10 * (10 * (-10))))), (3, .int (zI (1 + 1))), (0, .int (zI (-x))), (1, .int (zI (0)))] dJ6_stringSize_0f7a4_35 rfl (by decide) rfl ?_
          refine zr_iinc X 39 1 [(3, .int (zI ((1 + 1) + 1))), (2, .int (zI (10 * (10 * (-10))))), (0, .int (zI (-x))), (1, .int (zI (0)))] dJ6_stringSize_0f7a4_36 rfl rfl (by decide) rfl ?_
          refine zr_goto X 16 dJ6_stringSize_0f7a4_39 rfl ?_
          refine zr_iload_n X 17 0 dJ6_stringSize_0f7a4_16 rfl rfl ?_
          refine zr_bipush X 19 (10) dJ6_stringSize_0f7a4_17 rfl (by decide) ?_
          refine zr_icmp_ge X 42 22 dJ6_stringSize_0f7a4_19 rfl rfl (by omega) (by omega) (fun bq6 => ?_) (fun bq6 => ?_)
          · refine zr_bipush X 44 (10) dJ6_stringSize_0f7a4_42 rfl (by decide) ?_
            refine zr_iload_n X 45 3 dJ6_stringSize_0f7a4_44 rfl rfl ?_
            refine zr_iadd X 46 dJ6_stringSize_0f7a4_45 rfl ?_
            exact zr_iret X rfl ⟨10 + 0, rfl, rfl, by omega⟩ dJ6_stringSize_0f7a4_46
          · refine zr_iload_n X 23 2 dJ6_stringSize_0f7a4_22 rfl rfl ?_
            refine zr_iload_n X 24 1 dJ6_stringSize_0f7a4_23 rfl rfl ?_
            refine zr_icmp_le X 31 27 dJ6_stringSize_0f7a4_24 rfl rfl (by omega) (by omega) (fun bq7 => ?_) (fun bq7 => ?_)
            · refine zr_bipush X 33 (10) dJ6_stringSize_0f7a4_31 rfl (by decide) ?_
              refine zr_iload_n X 34 1 dJ6_stringSize_0f7a4_33 rfl rfl ?_
              refine zr_imul X 35 dJ6_stringSize_0f7a4_34 rfl ?_
              refine zr_istore_n X 36 [(2, .int (zI (10 * (10 * (10 * (-10)))))), (3, .int (zI ((1 + 1) + 1))), (0, .int (zI (-x))), (1, .int (zI (0)))] dJ6_stringSize_0f7a4_35 rfl (by decide) rfl ?_
              refine zr_iinc X 39 1 [(3, .int (zI (((1 + 1) + 1) + 1))), (2, .int (zI (10 * (10 * (10 * (-10)))))), (0, .int (zI (-x))), (1, .int (zI (0)))] dJ6_stringSize_0f7a4_36 rfl rfl (by decide) rfl ?_
              refine zr_goto X 16 dJ6_stringSize_0f7a4_39 rfl ?_
              refine zr_iload_n X 17 0 dJ6_stringSize_0f7a4_16 rfl rfl ?_
              refine zr_bipush X 19 (10) dJ6_stringSize_0f7a4_17 rfl (by decide) ?_
              refine zr_icmp_ge X 42 22 dJ6_stringSize_0f7a4_19 rfl rfl (by omega) (by omega) (fun bq8 => ?_) (fun bq8 => ?_)
              · refine zr_bipush X 44 (10) dJ6_stringSize_0f7a4_42 rfl (by decide) ?_
                refine zr_iload_n X 45 3 dJ6_stringSize_0f7a4_44 rfl rfl ?_
                refine zr_iadd X 46 dJ6_stringSize_0f7a4_45 rfl ?_
                exact zr_iret X rfl ⟨10 + 0, rfl, rfl, by omega⟩ dJ6_stringSize_0f7a4_46
              · refine zr_iload_n X 23 2 dJ6_stringSize_0f7a4_22 rfl rfl ?_
                refine zr_iload_n X 24 1 dJ6_stringSize_0f7a4_23 rfl rfl ?_
                refine zr_icmp_le X 31 27 dJ6_stringSize_0f7a4_24 rfl rfl (by omega) (by omega) (fun bq9 => ?_) (fun bq9 => ?_)
                · exfalso
                  omega
                · refine zr_iload_n X 28 0 dJ6_stringSize_0f7a4_27 rfl rfl ?_
                  refine zr_iload_n X 29 3 dJ6_stringSize_0f7a4_28 rfl rfl ?_
                  refine zr_iadd X 30 dJ6_stringSize_0f7a4_29 rfl ?_
                  exact zr_iret X rfl ⟨(((1 + 1) + 1) + 1) + 0, rfl, rfl, by omega⟩ dJ6_stringSize_0f7a4_30
            · refine zr_iload_n X 28 0 dJ6_stringSize_0f7a4_27 rfl rfl ?_
              refine zr_iload_n X 29 3 dJ6_stringSize_0f7a4_28 rfl rfl ?_
              refine zr_iadd X 30 dJ6_stringSize_0f7a4_29 rfl ?_
              exact zr_iret X rfl ⟨((1 + 1) + 1) + 0, rfl, rfl, by omega⟩ dJ6_stringSize_0f7a4_30
        · refine zr_iload_n X 28 0 dJ6_stringSize_0f7a4_27 rfl rfl ?_
          refine zr_iload_n X 29 3 dJ6_stringSize_0f7a4_28 rfl rfl ?_
          refine zr_iadd X 30 dJ6_stringSize_0f7a4_29 rfl ?_
          exact zr_iret X rfl ⟨(1 + 1) + 0, rfl, rfl, by omega⟩ dJ6_stringSize_0f7a4_30
    · refine zr_iload_n X 28 0 dJ6_stringSize_0f7a4_27 rfl rfl ?_
      refine zr_iload_n X 29 3 dJ6_stringSize_0f7a4_28 rfl rfl ?_
      refine zr_iadd X 30 dJ6_stringSize_0f7a4_29 rfl ?_
      exact zr_iret X rfl ⟨1 + 0, rfl, rfl, by omega⟩ dJ6_stringSize_0f7a4_30
theorem zdg_ex {x : Int} (hx : 0 ≤ x ∧ x ≤ 1000) : ∃ k : Int, ((x < 10 ∧ k = 1) ∨ (10 ≤ x ∧ x < 100 ∧ k = 2) ∨ (100 ≤ x ∧ x < 1000 ∧ k = 3) ∨ (1000 ≤ x ∧ k = 4)) := by
  rcases (by omega : x < 10 ∨ (10 ≤ x ∧ x < 100) ∨ (100 ≤ x ∧ x < 1000) ∨ 1000 ≤ x) with h | h | h | h
  · exact ⟨1, by omega⟩
  · exact ⟨2, by omega⟩
  · exact ⟨3, by omega⟩
  · exact ⟨4, by omega⟩
set_option maxRecDepth 100000 in
set_option maxHeartbeats 4000000 in
theorem m_J6_getChars_ba4f3 (l : Launch) (Γ : zGam) {V : zV} {v cap : Nat} {f : Nat → Int} {x ix k : Int} (hv : V v = some (7, za Γ.2.1 2 cap f)) (hf : zby f) (hx : 0 ≤ x ∧ x ≤ 1000) (hk : ((x < 10 ∧ k = 1) ∨ (10 ≤ x ∧ x < 100 ∧ k = 2) ∨ (100 ≤ x ∧ x < 1000 ∧ k = 3) ∨ (1000 ≤ x ∧ k = 4))) (hi : 0 ≤ ix - k ∧ ix ≤ cap ∧ cap ≤ 10000) : zM l Γ 0 yJ6_getChars_ba4f3 wsJ6_getChars_ba4f3 0 0 V [.int (zI (x)), .int (zI (ix)), .ref v] (fun rv V' => (∃ y : Int, rv = some (.int (zI y))) ∧ ∃ f', zby f' ∧ V' = zu V v 7 (za Γ.2.1 2 cap f')) := by
  have w0 : Cond.fieldLink RJ6 83 "java/lang/Integer" "DigitOnes" "[B" ∈ wsJ6_getChars_ba4f3 := by decide +kernel
  have w1 : Cond.fieldLink RJ6 87 "java/lang/Integer" "DigitTens" "[B" ∈ wsJ6_getChars_ba4f3 := by decide +kernel
  refine zM_of (cc := cJ6_getChars_ba4f3) (nL := 7) (ret := (some .int)) (own := RJ6) (by decide +kernel) rfl rfl (Nat.le_of_ble_eq_true rfl) (fun C X hi0 => ?_)
  show zG C V 0 0 0 [(0, .int (zI (x))), (1, .int (zI (ix))), (2, .ref v)] []
  refine zr_iload_n X 1 1 dJ6_getChars_ba4f3_0 rfl rfl ?_
  refine zr_istore X 3 [(5, .int (zI (ix))), (0, .int (zI (x))), (1, .int (zI (ix))), (2, .ref v)] dJ6_getChars_ba4f3_1 rfl (by decide) rfl ?_
  refine zr_iload_n X 4 1 dJ6_getChars_ba4f3_3 rfl rfl ?_
  refine zr_if_ge X 11 7 dJ6_getChars_ba4f3_4 rfl rfl (by omega) (fun bq1 => ?_) (fun bq1 => ?_)
  · refine zr_iconst X 12 dJ6_getChars_ba4f3_11 rfl ?_
    refine zr_istore X 14 [(6, .int (zI (0))), (5, .int (zI (ix))), (0, .int (zI (x))), (1, .int (zI (ix))), (2, .ref v)] dJ6_getChars_ba4f3_12 rfl (by decide) rfl ?_
    refine zr_iload X 16 0 dJ6_getChars_ba4f3_14 rfl rfl ?_
    refine zr_if_ne X 22 19 dJ6_getChars_ba4f3_16 rfl rfl (by omega) (fun bq2 => absurd bq2 (by omega)) (fun bq2 => ?_)
    refine zr_iload_n X 20 2 dJ6_getChars_ba4f3_19 rfl rfl ?_
    refine zr_ineg X 21 dJ6_getChars_ba4f3_20 rfl ?_
    refine zr_istore_n X 22 [(0, .int (zI (-x))), (6, .int (zI (0))), (5, .int (zI (ix))), (1, .int (zI (ix))), (2, .ref v)] dJ6_getChars_ba4f3_21 rfl (by decide) rfl ?_
    refine zr_iload_n X 23 0 dJ6_getChars_ba4f3_22 rfl rfl ?_
    refine zr_bipush X 25 (-100) dJ6_getChars_ba4f3_23 rfl (by decide) ?_
    refine zr_icmp_gt X 72 28 dJ6_getChars_ba4f3_25 rfl rfl (by omega) (by omega) (fun bq3 => ?_) (fun bq3 => ?_)
    · refine zr_aload_n X 73 4 dJ6_getChars_ba4f3_72 rfl rfl ?_
      refine zr_iinc X 76 2 [(5, .int (zI (ix + (-1)))), (0, .int (zI (-x))), (6, .int (zI (0))), (1, .int (zI (ix))), (2, .ref v)] dJ6_getChars_ba4f3_73 rfl rfl (by decide) rfl ?_
      refine zr_iload X 78 0 dJ6_getChars_ba4f3_76 rfl rfl ?_
      refine zr_getsD X 81 20 (by simp) w0 dJ6_getChars_ba4f3_78 rfl ?_
      refine zr_iload_n X 82 1 dJ6_getChars_ba4f3_81 rfl rfl ?_
      refine zr_ineg X 83 dJ6_getChars_ba4f3_82 rfl ?_
      refine zr_baldD X 84 20 (by simp) (by omega) dJ6_getChars_ba4f3_83 rfl (fun y4 y4a => ?_)
      refine zr_bast X 85 hv (by omega) (by omega) dJ6_getChars_ba4f3_84 rfl ?_
      refine zr_iload_n X 86 1 dJ6_getChars_ba4f3_85 rfl rfl ?_
      refine zr_bipush X 88 (-9) dJ6_getChars_ba4f3_86 rfl (by decide) ?_
      refine zr_icmp_ge X 104 91 dJ6_getChars_ba4f3_88 rfl rfl (by omega) (by omega) (fun bq5 => ?_) (fun bq5 => ?_)
      · refine zr_iload X 106 2 dJ6_getChars_ba4f3_104 rfl rfl ?_
        refine zr_if_eq X 118 109 dJ6_getChars_ba4f3_106 rfl rfl (by omega) (fun bq6 => ?_) (fun bq6 => absurd bq6 (by omega))
        refine zr_iload X 120 0 dJ6_getChars_ba4f3_118 rfl rfl ?_
        exact zr_iret X rfl ⟨⟨_, rfl⟩, _, (zby_zf hf (by omega)), rfl⟩ dJ6_getChars_ba4f3_120
      · refine zr_aload_n X 92 4 dJ6_getChars_ba4f3_91 rfl rfl ?_
        refine zr_iinc X 95 0 [(5, .int (zI ((ix + (-1)) + (-1)))), (0, .int (zI (-x))), (6, .int (zI (0))), (1, .int (zI (ix))), (2, .ref v)] dJ6_getChars_ba4f3_92 rfl rfl (by decide) rfl ?_
        refine zr_iload X 97 0 dJ6_getChars_ba4f3_95 rfl rfl ?_
        refine zr_getsD X 100 21 (by simp) w1 dJ6_getChars_ba4f3_97 rfl ?_
        refine zr_iload_n X 101 1 dJ6_getChars_ba4f3_100 rfl rfl ?_
        refine zr_ineg X 102 dJ6_getChars_ba4f3_101 rfl ?_
        refine zr_baldD X 103 21 (by simp) (by omega) dJ6_getChars_ba4f3_102 rfl (fun y7 y7a => ?_)
        refine zr_bast X 104 (zu_eq _ _ _ _) (by omega) (by omega) dJ6_getChars_ba4f3_103 rfl ?_
        refine zr_view (zu_zu _ _ _ _ _ _) ?_
        refine zr_iload X 106 2 dJ6_getChars_ba4f3_104 rfl rfl ?_
        refine zr_if_eq X 118 109 dJ6_getChars_ba4f3_106 rfl rfl (by omega) (fun bq8 => ?_) (fun bq8 => absurd bq8 (by omega))
        refine zr_iload X 120 0 dJ6_getChars_ba4f3_118 rfl rfl ?_
        exact zr_iret X rfl ⟨⟨_, rfl⟩, _, (zby_zf (zby_zf hf (by omega)) (by omega)), rfl⟩ dJ6_getChars_ba4f3_120
    · refine zr_iload_n X 29 0 dJ6_getChars_ba4f3_28 rfl rfl ?_
      refine zr_bipush X 31 (100) dJ6_getChars_ba4f3_29 rfl (by decide) ?_
      refine zr_idivn X 32 dJ6_getChars_ba4f3_31 rfl (by omega) (by omega) ?_
      refine zr_istore_n X 33 [(3, .int (zI (-(x / 100)))), (0, .int (zI (-x))), (6, .int (zI (0))), (5, .int (zI (ix))), (1, .int (zI (ix))), (2, .ref v)] dJ6_getChars_ba4f3_32 rfl (by decide) rfl ?_
      refine zr_iload_n X 34 0 dJ6_getChars_ba4f3_33 rfl rfl ?_
      refine zr_bipush X 36 (100) dJ6_getChars_ba4f3_34 rfl (by decide) ?_
      refine zr_imul X 37 dJ6_getChars_ba4f3_36 rfl ?_
      refine zr_iload_n X 38 1 dJ6_getChars_ba4f3_37 rfl rfl ?_
      refine zr_isub X 39 dJ6_getChars_ba4f3_38 rfl ?_
      refine zr_istore X 41 [(4, .int (zI (((-(x / 100)) * 100) - (-x)))), (3, .int (zI (-(x / 100)))), (0, .int (zI (-x))), (6, .int (zI (0))), (5, .int (zI (ix))), (1, .int (zI (ix))), (2, .ref v)] dJ6_getChars_ba4f3_39 rfl (by decide) rfl ?_
      refine zr_iload_n X 42 1 dJ6_getChars_ba4f3_41 rfl rfl ?_
      refine zr_istore_n X 43 [(0, .int (zI (-(x / 100)))), (4, .int (zI (((-(x / 100)) * 100) - (-x)))), (3, .int (zI (-(x / 100)))), (6, .int (zI (0))), (5, .int (zI (ix))), (1, .int (zI (ix))), (2, .ref v)] dJ6_getChars_ba4f3_42 rfl (by decide) rfl ?_
      refine zr_aload_n X 44 6 dJ6_getChars_ba4f3_43 rfl rfl ?_
      refine zr_iinc X 47 4 [(5, .int (zI (ix + (-1)))), (0, .int (zI (-(x / 100)))), (4, .int (zI (((-(x / 100)) * 100) - (-x)))), (3, .int (zI (-(x / 100)))), (6, .int (zI (0))), (1, .int (zI (ix))), (2, .ref v)] dJ6_getChars_ba4f3_44 rfl rfl (by decide) rfl ?_
      refine zr_iload X 49 0 dJ6_getChars_ba4f3_47 rfl rfl ?_
      refine zr_getsD X 52 20 (by simp) w0 dJ6_getChars_ba4f3_49 rfl ?_
      refine zr_iload X 54 2 dJ6_getChars_ba4f3_52 rfl rfl ?_
      refine zr_baldD X 55 20 (by simp) (by omega) dJ6_getChars_ba4f3_54 rfl (fun y9 y9a => ?_)
      refine zr_bast X 56 hv (by omega) (by omega) dJ6_getChars_ba4f3_55 rfl ?_
      refine zr_aload_n X 57 6 dJ6_getChars_ba4f3_56 rfl rfl ?_
      refine zr_iinc X 60 0 [(5, .int (zI ((ix + (-1)) + (-1)))), (0, .int (zI (-(x / 100)))), (4, .int (zI (((-(x / 100)) * 100) - (-x)))), (3, .int (zI (-(x / 100)))), (6, .int (zI (0))), (1, .int (zI (ix))), (2, .ref v)] dJ6_getChars_ba4f3_57 rfl rfl (by decide) rfl ?_
      refine zr_iload X 62 0 dJ6_getChars_ba4f3_60 rfl rfl ?_
      refine zr_getsD X 65 21 (by simp) w1 dJ6_getChars_ba4f3_62 rfl ?_
      refine zr_iload X 67 2 dJ6_getChars_ba4f3_65 rfl rfl ?_
      refine zr_baldD X 68 21 (by simp) (by omega) dJ6_getChars_ba4f3_67 rfl (fun y10 y10a => ?_)
      refine zr_bast X 69 (zu_eq _ _ _ _) (by omega) (by omega) dJ6_getChars_ba4f3_68 rfl ?_
      refine zr_view (zu_zu _ _ _ _ _ _) ?_
      refine zr_goto X 22 dJ6_getChars_ba4f3_69 rfl ?_
      refine zr_iload_n X 23 1 dJ6_getChars_ba4f3_22 rfl rfl ?_
      refine zr_bipush X 25 (-100) dJ6_getChars_ba4f3_23 rfl (by decide) ?_
      refine zr_icmp_gt X 72 28 dJ6_getChars_ba4f3_25 rfl rfl (by omega) (by omega) (fun bq11 => ?_) (fun bq11 => ?_)
      · refine zr_aload_n X 73 6 dJ6_getChars_ba4f3_72 rfl rfl ?_
        refine zr_iinc X 76 0 [(5, .int (zI (((ix + (-1)) + (-1)) + (-1)))), (0, .int (zI (-(x / 100)))), (4, .int (zI (((-(x / 100)) * 100) - (-x)))), (3, .int (zI (-(x / 100)))), (6, .int (zI (0))), (1, .int (zI (ix))), (2, .ref v)] dJ6_getChars_ba4f3_73 rfl rfl (by decide) rfl ?_
        refine zr_iload X 78 0 dJ6_getChars_ba4f3_76 rfl rfl ?_
        refine zr_getsD X 81 20 (by simp) w0 dJ6_getChars_ba4f3_78 rfl ?_
        refine zr_iload_n X 82 1 dJ6_getChars_ba4f3_81 rfl rfl ?_
        refine zr_ineg X 83 dJ6_getChars_ba4f3_82 rfl ?_
        refine zr_baldD X 84 20 (by simp) (by omega) dJ6_getChars_ba4f3_83 rfl (fun y12 y12a => ?_)
        refine zr_bast X 85 (zu_eq _ _ _ _) (by omega) (by omega) dJ6_getChars_ba4f3_84 rfl ?_
        refine zr_view (zu_zu _ _ _ _ _ _) ?_
        refine zr_iload_n X 86 1 dJ6_getChars_ba4f3_85 rfl rfl ?_
        refine zr_bipush X 88 (-9) dJ6_getChars_ba4f3_86 rfl (by decide) ?_
        refine zr_icmp_ge X 104 91 dJ6_getChars_ba4f3_88 rfl rfl (by omega) (by omega) (fun bq13 => ?_) (fun bq13 => ?_)
        · refine zr_iload X 106 4 dJ6_getChars_ba4f3_104 rfl rfl ?_
          refine zr_if_eq X 118 109 dJ6_getChars_ba4f3_106 rfl rfl (by omega) (fun bq14 => ?_) (fun bq14 => absurd bq14 (by omega))
          refine zr_iload X 120 0 dJ6_getChars_ba4f3_118 rfl rfl ?_
          exact zr_iret X rfl ⟨⟨_, rfl⟩, _, (zby_zf (zby_zf (zby_zf hf (by omega)) (by omega)) (by omega)), rfl⟩ dJ6_getChars_ba4f3_120
        · refine zr_aload_n X 92 6 dJ6_getChars_ba4f3_91 rfl rfl ?_
          refine zr_iinc X 95 0 [(5, .int (zI ((((ix + (-1)) + (-1)) + (-1)) + (-1)))), (0, .int (zI (-(x / 100)))), (4, .int (zI (((-(x / 100)) * 100) - (-x)))), (3, .int (zI (-(x / 100)))), (6, .int (zI (0))), (1, .int (zI (ix))), (2, .ref v)] dJ6_getChars_ba4f3_92 rfl rfl (by decide) rfl ?_
          refine zr_iload X 97 0 dJ6_getChars_ba4f3_95 rfl rfl ?_
          refine zr_getsD X 100 21 (by simp) w1 dJ6_getChars_ba4f3_97 rfl ?_
          refine zr_iload_n X 101 1 dJ6_getChars_ba4f3_100 rfl rfl ?_
          refine zr_ineg X 102 dJ6_getChars_ba4f3_101 rfl ?_
          refine zr_baldD X 103 21 (by simp) (by omega) dJ6_getChars_ba4f3_102 rfl (fun y15 y15a => ?_)
          refine zr_bast X 104 (zu_eq _ _ _ _) (by omega) (by omega) dJ6_getChars_ba4f3_103 rfl ?_
          refine zr_view (zu_zu _ _ _ _ _ _) ?_
          refine zr_iload X 106 4 dJ6_getChars_ba4f3_104 rfl rfl ?_
          refine zr_if_eq X 118 109 dJ6_getChars_ba4f3_106 rfl rfl (by omega) (fun bq16 => ?_) (fun bq16 => absurd bq16 (by omega))
          refine zr_iload X 120 0 dJ6_getChars_ba4f3_118 rfl rfl ?_
          exact zr_iret X rfl ⟨⟨_, rfl⟩, _, (zby_zf (zby_zf (zby_zf (zby_zf hf (by omega)) (by omega)) (by omega)) (by omega)), rfl⟩ dJ6_getChars_ba4f3_120
      · exfalso
        omega
  · exfalso
    omega
set_option maxRecDepth 100000 in
set_option maxHeartbeats 4000000 in
theorem m_J5_append_i_n (l : Launch) (Γ : zGam) {V : zV} {b v cap : Nat} {mb cnt : Int} {f : Nat → Int} {x k : Int} (hb : V b = some (7, .inr (1, [.ref v, .int (zI 0), .int (zI mb), .int (zI cnt)]))) (hv : V v = some (7, za Γ.2.1 2 cap f)) (hr : 0 ≤ cnt ∧ cnt ≤ cap ∧ cap ≤ 3000) (hf : zby f) (hx : 0 ≤ x ∧ x ≤ 1000) (hk : ((x < 10 ∧ k = 1) ∨ (10 ≤ x ∧ x < 100 ∧ k = 2) ∨ (100 ≤ x ∧ x < 1000 ∧ k = 3) ∨ (1000 ≤ x ∧ k = 4))) (hm : cnt + k ≤ cap) : zM l Γ 5 yJ5_append_c97b9 wsJ5_append_c97b9 0 0 V [.ref b, .int (zI (x))] (fun rv V' => rv = some (.ref b) ∧ zSB Γ V' b (cnt + k) cap ∧ zfr V V') := by
  have hbv : b ≠ v := zne_oa hb hv
  have w0 : Cond.fieldLink RJ5 79 "java/lang/AbstractStringBuilder" "count" "I" ∈ wsJ5_append_c97b9 := by decide +kernel
  have iJ4 : ∀ w ∈ u_ws RJ4 TJ4 4, w ∈ wsJ5_append_c97b9 := by decide +kernel
  have w2 : Cond.fieldLink RJ5 15 "java/lang/AbstractStringBuilder" "value" "[B" ∈ wsJ5_append_c97b9 := by decide +kernel
  refine zM_of (cc := cJ5_append_c97b9) (nL := 4) (ret := (some (.object "java/lang/AbstractStringBuilder"))) (own := RJ5) (by decide +kernel) rfl rfl (Nat.le_of_ble_eq_true rfl) (fun C X hi0 => ?_)
  show zG C V 0 0 0 [(0, .ref b), (1, .int (zI (x)))] []
  refine zr_aload_n X 1 0 dJ5_append_c97b9_0 rfl rfl ?_
  refine zr_get X 4 1 3 hb rfl iJ4 (by decide) w0 rfl rfl dJ5_append_c97b9_1 rfl ?_
  refine zr_istore_n X 5 [(2, .int (zI (cnt))), (0, .ref b), (1, .int (zI (x)))] dJ5_append_c97b9_4 rfl (by decide) rfl ?_
  refine zr_iload_n X 6 0 dJ5_append_c97b9_5 rfl rfl ?_
  refine zr_iload_n X 7 2 dJ5_append_c97b9_6 rfl rfl ?_
  refine zr_callS (kc' := 0) (ks' := 0) X 10 1 (m_J6_stringSize_0f7a4 l Γ (V := V) (x := x) (by omega)) gJ5_append_c97b9_J6_stringSize_0f7a4 rfl (by decide +kernel) rfl (by decide) rfl (Nat.le_of_ble_eq_true rfl) dJ5_append_c97b9_7 rfl (by omega) (by omega) (fun rv1 V2 hp3 => ?_)
  obtain ⟨k2, hp31, hp32, hp33⟩ := hp3
  obtain rfl : k2 = k := by omega
  rw [hp31, hp32]
  show zG C V 0 0 10 [(2, .int (zI (cnt))), (0, .ref b), (1, .int (zI (x)))] [.int (zI (k2)), .int (zI (cnt))]
  refine zr_iadd X 11 dJ5_append_c97b9_10 rfl ?_
  refine zr_istore_n X 12 [(3, .int (zI (cnt + k2))), (2, .int (zI (cnt))), (0, .ref b), (1, .int (zI (x)))] dJ5_append_c97b9_11 rfl (by decide) rfl ?_
  refine zr_aload_n X 13 2 dJ5_append_c97b9_12 rfl rfl ?_
  refine zr_iload_n X 14 0 dJ5_append_c97b9_13 rfl rfl ?_
  refine zr_callU2 (kc' := (0 - 0)) (ks' := (0 - 0)) X 17 1 (m_J5_ensure_n l Γ (mn := cnt + k2) hb hv hr hf (by omega)) gJ5_append_c97b9_J5_ensureCapacityInternal_d00df_u100J4 rfl rfl (by decide +kernel) rfl (by decide) hb rfl rfl (Nat.le_of_ble_eq_true rfl) dJ5_append_c97b9_14 rfl (by omega) (by omega) (fun rv4 V5 hp6 => ?_)
  rw [hp6.1, hp6.2]
  show zG C V (0 - 0) (0 - 0) 17 [(3, .int (zI (cnt + k2))), (2, .int (zI (cnt))), (0, .ref b), (1, .int (zI (x)))] []
  refine zr_aload_n X 18 2 dJ5_append_c97b9_17 rfl rfl ?_
  refine zr_callU2 (kc' := (0 - 0)) (ks' := (0 - 0)) X 21 0 (m_J5_isLatin1_aae02 l Γ hb) gJ5_append_c97b9_J5_isLatin1_aae02_u83J4 rfl rfl (by decide +kernel) rfl (by decide) hb rfl rfl (Nat.le_of_ble_eq_true rfl) dJ5_append_c97b9_18 rfl (by omega) (by omega) (fun rv7 V8 hp9 => ?_)
  rw [hp9.1, hp9.2]
  show zG C V (0 - 0) (0 - 0) 21 [(3, .int (zI (cnt + k2))), (2, .int (zI (cnt))), (0, .ref b), (1, .int (zI (x)))] [.int (zI (1))]
  refine zr_if_eq X 37 24 dJ5_append_c97b9_21 rfl rfl (by omega) (fun bq10 => absurd bq10 (by omega)) (fun bq10 => ?_)
  refine zr_iload_n X 25 3 dJ5_append_c97b9_24 rfl rfl ?_
  refine zr_iload_n X 26 0 dJ5_append_c97b9_25 rfl rfl ?_
  refine zr_aload_n X 27 2 dJ5_append_c97b9_26 rfl rfl ?_
  refine zr_get X 30 1 0 hb rfl iJ4 (by decide) w2 rfl rfl dJ5_append_c97b9_27 rfl ?_
  refine zr_callS (kc' := (0 - 0)) (ks' := (0 - 0)) X 33 3 (m_J6_getChars_ba4f3 l Γ (x := x) (ix := cnt + k2) (k := k2) hv hf (by omega) (by omega) (by omega)) gJ5_append_c97b9_J6_getChars_ba4f3 rfl (by decide +kernel) rfl (by decide) rfl (Nat.le_of_ble_eq_true rfl) dJ5_append_c97b9_30 rfl (by omega) (by omega) (fun rv11 V12 hp13 => ?_)
  obtain ⟨⟨y15, y15e⟩, f14, f14b, f14v⟩ := hp13
  rw [y15e, f14v]
  show zG C (zu V v 7 (za Γ.2.1 2 cap f14)) (0 - 0) (0 - 0) 33 [(3, .int (zI (cnt + k2))), (2, .int (zI (cnt))), (0, .ref b), (1, .int (zI (x)))] [.int (zI (y15))]
  refine zr_pop X 34 dJ5_append_c97b9_33 rfl rfl ?_
  refine zr_goto X 48 dJ5_append_c97b9_34 rfl ?_
  refine zr_aload_n X 49 2 dJ5_append_c97b9_48 rfl rfl ?_
  refine zr_iload_n X 50 0 dJ5_append_c97b9_49 rfl rfl ?_
  refine zr_put X 53 1 3 [.ref v, .int (zI (0)), .int (zI (mb)), .int (zI (cnt + k2))] tyJ4 ((zu_ne (zne_oa hb hv)).trans hb) rfl iJ4 tyJ4_ok nmJ4 (by decide) w0 rfl rfl rfl rfl (Nat.le_of_ble_eq_true rfl) rfl dJ5_append_c97b9_50 rfl ?_
  refine zr_aload_n X 54 2 dJ5_append_c97b9_53 rfl rfl ?_
  exact zr_aret X rfl (Or.inl ⟨_, rfl⟩) ⟨rfl, ⟨v, mb, _, (zu_eq _ _ _ _), ((zu_ne (Ne.symm (zne_oa hb hv))).trans (zu_eq _ _ _ _)), f14b, by omega, by omega, by omega⟩, ((zfr.rf.set hv).set ((zu_ne (zne_oa hb hv)).trans hb))⟩ dJ5_append_c97b9_54
set_option maxRecDepth 100000 in
set_option maxHeartbeats 4000000 in
theorem m_J4_append_i_n (l : Launch) (Γ : zGam) {V : zV} {b v cap : Nat} {mb cnt : Int} {f : Nat → Int} {x k : Int} (hb : V b = some (7, .inr (1, [.ref v, .int (zI 0), .int (zI mb), .int (zI cnt)]))) (hv : V v = some (7, za Γ.2.1 2 cap f)) (hr : 0 ≤ cnt ∧ cnt ≤ cap ∧ cap ≤ 3000) (hf : zby f) (hx : 0 ≤ x ∧ x ≤ 1000) (hk : ((x < 10 ∧ k = 1) ∨ (10 ≤ x ∧ x < 100 ∧ k = 2) ∨ (100 ≤ x ∧ x < 1000 ∧ k = 3) ∨ (1000 ≤ x ∧ k = 4))) (hm : cnt + k ≤ cap) : zM l Γ 6 yJ4_append_bf812 wsJ4_append_bf812 0 0 V [.ref b, .int (zI (x))] (fun rv V' => rv = some (.ref b) ∧ zSB Γ V' b (cnt + k) cap ∧ zfr V V') := by
  refine zM_of (cc := cJ4_append_bf812) (nL := 2) (ret := (some (.object "java/lang/StringBuilder"))) (own := RJ4) (by decide +kernel) rfl rfl (Nat.le_of_ble_eq_true rfl) (fun C X hi0 => ?_)
  show zG C V 0 0 0 [(0, .ref b), (1, .int (zI (x)))] []
  refine zr_aload_n X 1 0 dJ4_append_bf812_0 rfl rfl ?_
  refine zr_iload_n X 2 1 dJ4_append_bf812_1 rfl rfl ?_
  refine zr_callSU (kc' := 0) (ks' := 0) X 5 1 (m_J5_append_i_n l Γ (x := x) (k := k) hb hv hr hf hx hk hm) gJ4_append_bf812_J5_append_c97b9_s53 rfl (by decide +kernel) rfl (by decide) hb rfl rfl (Nat.le_of_ble_eq_true rfl) dJ4_append_bf812_2 rfl (by omega) (by omega) (fun rv1 V2 hp3 => ?_)
  obtain ⟨hp31, hp32, hp33⟩ := hp3
  rw [hp31]
  show zG C V2 0 0 5 [(0, .ref b), (1, .int (zI (x)))] [.ref b]
  refine zr_pop X 6 dJ4_append_bf812_5 rfl rfl ?_
  refine zr_aload_n X 7 0 dJ4_append_bf812_6 rfl rfl ?_
  exact zr_aret X rfl (Or.inl ⟨_, rfl⟩) ⟨rfl, hp32, hp33⟩ dJ4_append_bf812_7
set_option maxRecDepth 100000 in
set_option maxHeartbeats 4000000 in
theorem m_J5_append_i_y (l : Launch) (Γ : zGam) {V : zV} {b v cap : Nat} {mb cnt : Int} {f : Nat → Int} {x k : Int} (hb : V b = some (7, .inr (1, [.ref v, .int (zI 0), .int (zI mb), .int (zI cnt)]))) (hv : V v = some (7, za Γ.2.1 2 cap f)) (hr : 0 ≤ cnt ∧ cnt ≤ cap ∧ cap ≤ 1400) (hc4 : 4 ≤ cap) (hf : zby f) (hx : 0 ≤ x ∧ x ≤ 1000) (hk : ((x < 10 ∧ k = 1) ∨ (10 ≤ x ∧ x < 100 ∧ k = 2) ∨ (100 ≤ x ∧ x < 1000 ∧ k = 3) ∨ (1000 ≤ x ∧ k = 4))) (hm : (cap : Int) < cnt + k) : zM l Γ 5 yJ5_append_c97b9 wsJ5_append_c97b9 1 ((2 * (cap : Int) + 2).toNat) V [.ref b, .int (zI (x))] (fun rv V' => rv = some (.ref b) ∧ zSB Γ V' b (cnt + k) (2 * (cap : Int) + 2).toNat ∧ zfr V V') := by
  have hbv : b ≠ v := zne_oa hb hv
  have hr : 0 ≤ cnt ∧ cnt ≤ cap ∧ cap ≤ 3000 := by omega
  have w0 : Cond.fieldLink RJ5 79 "java/lang/AbstractStringBuilder" "count" "I" ∈ wsJ5_append_c97b9 := by decide +kernel
  have iJ4 : ∀ w ∈ u_ws RJ4 TJ4 4, w ∈ wsJ5_append_c97b9 := by decide +kernel
  have w2 : Cond.fieldLink RJ5 15 "java/lang/AbstractStringBuilder" "value" "[B" ∈ wsJ5_append_c97b9 := by decide +kernel
  refine zM_of (cc := cJ5_append_c97b9) (nL := 4) (ret := (some (.object "java/lang/AbstractStringBuilder"))) (own := RJ5) (by decide +kernel) rfl rfl (Nat.le_of_ble_eq_true rfl) (fun C X hi0 => ?_)
  show zG C V 1 ((2 * (cap : Int) + 2).toNat) 0 [(0, .ref b), (1, .int (zI (x)))] []
  refine zr_aload_n X 1 0 dJ5_append_c97b9_0 rfl rfl ?_
  refine zr_get X 4 1 3 hb rfl iJ4 (by decide) w0 rfl rfl dJ5_append_c97b9_1 rfl ?_
  refine zr_istore_n X 5 [(2, .int (zI (cnt))), (0, .ref b), (1, .int (zI (x)))] dJ5_append_c97b9_4 rfl (by decide) rfl ?_
  refine zr_iload_n X 6 0 dJ5_append_c97b9_5 rfl rfl ?_
  refine zr_iload_n X 7 2 dJ5_append_c97b9_6 rfl rfl ?_
  refine zr_callS (kc' := 1) (ks' := (2 * (cap : Int) + 2).toNat) X 10 1 (m_J6_stringSize_0f7a4 l Γ (V := V) (x := x) (by omega)) gJ5_append_c97b9_J6_stringSize_0f7a4 rfl (by decide +kernel) rfl (by decide) rfl (Nat.le_of_ble_eq_true rfl) dJ5_append_c97b9_7 rfl (by omega) (by omega) (fun rv1 V2 hp3 => ?_)
  obtain ⟨k2, hp31, hp32, hp33⟩ := hp3
  obtain rfl : k2 = k := by omega
  rw [hp31, hp32]
  show zG C V 1 ((2 * (cap : Int) + 2).toNat) 10 [(2, .int (zI (cnt))), (0, .ref b), (1, .int (zI (x)))] [.int (zI (k2)), .int (zI (cnt))]
  refine zr_iadd X 11 dJ5_append_c97b9_10 rfl ?_
  refine zr_istore_n X 12 [(3, .int (zI (cnt + k2))), (2, .int (zI (cnt))), (0, .ref b), (1, .int (zI (x)))] dJ5_append_c97b9_11 rfl (by decide) rfl ?_
  refine zr_aload_n X 13 2 dJ5_append_c97b9_12 rfl rfl ?_
  refine zr_iload_n X 14 0 dJ5_append_c97b9_13 rfl rfl ?_
  refine zr_callU2 (kc' := (1 - 1)) (ks' := ((2 * (cap : Int) + 2).toNat - (2 * (cap : Int) + 2).toNat)) X 17 1 (m_J5_ensure_y l Γ (mn := cnt + k2) hb hv hr hf (by omega)) gJ5_append_c97b9_J5_ensureCapacityInternal_d00df_u100J4 rfl rfl (by decide +kernel) rfl (by decide) hb rfl rfl (Nat.le_of_ble_eq_true rfl) dJ5_append_c97b9_14 rfl (by omega) (by omega) (fun rv4 V5 hp6 => ?_)
  obtain ⟨q7r, q7, q7f, q7n, q7b, q7v⟩ := hp6
  rw [q7r, q7v]
  show zG C (zu (zu V q7 7 (za Γ.2.1 2 ((2 * (cap : Int) + 2).toNat) q7f)) b 7 (.inr (1, [.ref q7, .int (zI (0)), .int (zI (mb)), .int (zI (cnt))]))) (1 - 1) ((2 * (cap : Int) + 2).toNat - (2 * (cap : Int) + 2).toNat) 17 [(3, .int (zI (cnt + k2))), (2, .int (zI (cnt))), (0, .ref b), (1, .int (zI (x)))] []
  refine zr_aload_n X 18 2 dJ5_append_c97b9_17 rfl rfl ?_
  refine zr_callU2 (kc' := (1 - 1)) (ks' := ((2 * (cap : Int) + 2).toNat - (2 * (cap : Int) + 2).toNat)) X 21 0 (m_J5_isLatin1_aae02 l Γ (zu_eq _ _ _ _)) gJ5_append_c97b9_J5_isLatin1_aae02_u83J4 rfl rfl (by decide +kernel) rfl (by decide) (zu_eq _ _ _ _) rfl rfl (Nat.le_of_ble_eq_true rfl) dJ5_append_c97b9_18 rfl (by omega) (by omega) (fun rv8 V9 hp10 => ?_)
  rw [hp10.1, hp10.2]
  show zG C (zu (zu V q7 7 (za Γ.2.1 2 ((2 * (cap : Int) + 2).toNat) q7f)) b 7 (.inr (1, [.ref q7, .int (zI (0)), .int (zI (mb)), .int (zI (cnt))]))) (1 - 1) ((2 * (cap : Int) + 2).toNat - (2 * (cap : Int) + 2).toNat) 21 [(3, .int (zI (cnt + k2))), (2, .int (zI (cnt))), (0, .ref b), (1, .int (zI (x)))] [.int (zI (1))]
  refine zr_if_eq X 37 24 dJ5_append_c97b9_21 rfl rfl (by omega) (fun bq11 => absurd bq11 (by omega)) (fun bq11 => ?_)
  refine zr_iload_n X 25 3 dJ5_append_c97b9_24 rfl rfl ?_
  refine zr_iload_n X 26 0 dJ5_append_c97b9_25 rfl rfl ?_
  refine zr_aload_n X 27 2 dJ5_append_c97b9_26 rfl rfl ?_
  refine zr_get X 30 1 0 (zu_eq _ _ _ _) rfl iJ4 (by decide) w2 rfl rfl dJ5_append_c97b9_27 rfl ?_
  refine zr_callS (kc' := (1 - 1)) (ks' := ((2 * (cap : Int) + 2).toNat - (2 * (cap : Int) + 2).toNat)) X 33 3 (m_J6_getChars_ba4f3 l Γ (x := x) (ix := cnt + k2) (k := k2) ((zu_ne (Ne.symm (zne_new hb q7n))).trans (zu_eq _ _ _ _)) q7b (by omega) (by omega) (by omega)) gJ5_append_c97b9_J6_getChars_ba4f3 rfl (by decide +kernel) rfl (by decide) rfl (Nat.le_of_ble_eq_true rfl) dJ5_append_c97b9_30 rfl (by omega) (by omega) (fun rv12 V13 hp14 => ?_)
  obtain ⟨⟨y16, y16e⟩, f15, f15b, f15v⟩ := hp14
  rw [y16e, f15v]
  show zG C (zu (zu (zu V q7 7 (za Γ.2.1 2 ((2 * (cap : Int) + 2).toNat) q7f)) b 7 (.inr (1, [.ref q7, .int (zI (0)), .int (zI (mb)), .int (zI (cnt))]))) q7 7 (za Γ.2.1 2 ((2 * (cap : Int) + 2).toNat) f15)) (1 - 1) ((2 * (cap : Int) + 2).toNat - (2 * (cap : Int) + 2).toNat) 33 [(3, .int (zI (cnt + k2))), (2, .int (zI (cnt))), (0, .ref b), (1, .int (zI (x)))] [.int (zI (y16))]
  refine zr_pop X 34 dJ5_append_c97b9_33 rfl rfl ?_
  refine zr_goto X 48 dJ5_append_c97b9_34 rfl ?_
  refine zr_aload_n X 49 2 dJ5_append_c97b9_48 rfl rfl ?_
  refine zr_iload_n X 50 0 dJ5_append_c97b9_49 rfl rfl ?_
  refine zr_put X 53 1 3 [.ref q7, .int (zI (0)), .int (zI (mb)), .int (zI (cnt + k2))] tyJ4 ((zu_ne (zne_new hb q7n)).trans (zu_eq _ _ _ _)) rfl iJ4 tyJ4_ok nmJ4 (by decide) w0 rfl rfl rfl rfl (Nat.le_of_ble_eq_true rfl) rfl dJ5_append_c97b9_50 rfl ?_
  refine zr_aload_n X 54 2 dJ5_append_c97b9_53 rfl rfl ?_
  exact zr_aret X rfl (Or.inl ⟨_, rfl⟩) ⟨rfl, ⟨q7, mb, _, (zu_eq _ _ _ _), ((zu_ne (Ne.symm (zne_new hb q7n))).trans (zu_eq _ _ _ _)), f15b, by omega, by omega, by omega⟩, ((((zfr.rf.new q7n).set ((zu_ne (zne_new hb q7n)).trans hb)).set ((zu_ne (Ne.symm (zne_new hb q7n))).trans (zu_eq _ _ _ _))).set ((zu_ne (zne_new hb q7n)).trans (zu_eq _ _ _ _)))⟩ dJ5_append_c97b9_54
set_option maxRecDepth 100000 in
set_option maxHeartbeats 4000000 in
theorem m_J4_append_i_y (l : Launch) (Γ : zGam) {V : zV} {b v cap : Nat} {mb cnt : Int} {f : Nat → Int} {x k : Int} (hb : V b = some (7, .inr (1, [.ref v, .int (zI 0), .int (zI mb), .int (zI cnt)]))) (hv : V v = some (7, za Γ.2.1 2 cap f)) (hr : 0 ≤ cnt ∧ cnt ≤ cap ∧ cap ≤ 1400) (hc4 : 4 ≤ cap) (hf : zby f) (hx : 0 ≤ x ∧ x ≤ 1000) (hk : ((x < 10 ∧ k = 1) ∨ (10 ≤ x ∧ x < 100 ∧ k = 2) ∨ (100 ≤ x ∧ x < 1000 ∧ k = 3) ∨ (1000 ≤ x ∧ k = 4))) (hm : (cap : Int) < cnt + k) : zM l Γ 6 yJ4_append_bf812 wsJ4_append_bf812 1 ((2 * (cap : Int) + 2).toNat) V [.ref b, .int (zI (x))] (fun rv V' => rv = some (.ref b) ∧ zSB Γ V' b (cnt + k) (2 * (cap : Int) + 2).toNat ∧ zfr V V') := by
  refine zM_of (cc := cJ4_append_bf812) (nL := 2) (ret := (some (.object "java/lang/StringBuilder"))) (own := RJ4) (by decide +kernel) rfl rfl (Nat.le_of_ble_eq_true rfl) (fun C X hi0 => ?_)
  show zG C V 1 ((2 * (cap : Int) + 2).toNat) 0 [(0, .ref b), (1, .int (zI (x)))] []
  refine zr_aload_n X 1 0 dJ4_append_bf812_0 rfl rfl ?_
  refine zr_iload_n X 2 1 dJ4_append_bf812_1 rfl rfl ?_
  refine zr_callSU (kc' := (1 - 1)) (ks' := ((2 * (cap : Int) + 2).toNat - (2 * (cap : Int) + 2).toNat)) X 5 1 (m_J5_append_i_y l Γ (x := x) (k := k) hb hv hr hc4 hf hx hk hm) gJ4_append_bf812_J5_append_c97b9_s53 rfl (by decide +kernel) rfl (by decide) hb rfl rfl (Nat.le_of_ble_eq_true rfl) dJ4_append_bf812_2 rfl (by omega) (by omega) (fun rv1 V2 hp3 => ?_)
  obtain ⟨hp31, hp32, hp33⟩ := hp3
  rw [hp31]
  show zG C V2 (1 - 1) ((2 * (cap : Int) + 2).toNat - (2 * (cap : Int) + 2).toNat) 5 [(0, .ref b), (1, .int (zI (x)))] [.ref b]
  refine zr_pop X 6 dJ4_append_bf812_5 rfl rfl ?_
  refine zr_aload_n X 7 0 dJ4_append_bf812_6 rfl rfl ?_
  exact zr_aret X rfl (Or.inl ⟨_, rfl⟩) ⟨rfl, hp32, hp33⟩ dJ4_append_bf812_7
set_option maxRecDepth 100000 in
set_option maxHeartbeats 4000000 in
theorem m_J5_init_d00df (l : Launch) (Γ : zGam) {V : zV} {b n : Nat} {mb : Int} (hb : V b = some (7, .inr (1, [.null, .int (zI 0), .int (zI mb), .int (zI 0)]))) (hn : n ≤ 1000) : zM l Γ 2 yJ5_init_d00df wsJ5_init_d00df 1 n V [.ref b, .int (zI ((n : Int)))] (fun rv V' => rv = none ∧ ∃ q, V q = none ∧ V' = zu (zu V q 7 (za Γ.2.1 2 (n : Int).toNat (fun _ => 0))) b 7 (.inr (1, [.ref q, .int (zI (0)), .int (zI (mb)), .int (zI (0))]))) := by
  have w0 : Cond.methodLink RJ5 3 objectInit ∈ wsJ5_init_d00df := by decide +kernel
  have w1 : Cond.instanceMethod objectInit ∈ wsJ5_init_d00df := by decide +kernel
  have w2 : Cond.code objectInit ⟨#[0xb1]⟩ 1 none ∈ wsJ5_init_d00df := by decide +kernel
  have w3 : Cond.fieldLink RJ5 18 RJ0 "COMPACT_STRINGS" "Z" ∈ wsJ5_init_d00df := by decide +kernel
  have w4 : Cond.arrayClass .byte ∈ wsJ5_init_d00df := by decide +kernel
  have w5 : Cond.fieldLink RJ5 15 "java/lang/AbstractStringBuilder" "value" "[B" ∈ wsJ5_init_d00df := by decide +kernel
  have iJ4 : ∀ w ∈ u_ws RJ4 TJ4 4, w ∈ wsJ5_init_d00df := by decide +kernel
  have w7 : Cond.fieldLink RJ5 22 "java/lang/AbstractStringBuilder" "coder" "B" ∈ wsJ5_init_d00df := by decide +kernel
  refine zM_of (cc := cJ5_init_d00df) (nL := 2) (ret := none) (own := RJ5) (by decide +kernel) rfl rfl (Nat.le_of_ble_eq_true rfl) (fun C X hi0 => ?_)
  have hi0 := hi0 rfl
  show zG C V 1 n 0 [(0, .ref b), (1, .int (zI ((n : Int))))] []
  refine zr_aload_n X 1 0 dJ5_init_d00df_0 rfl rfl ?_
  refine zr_objInit X 4 hb rfl w0 w1 w2 (by decide) (Nat.le_of_ble_eq_true rfl) dJ5_init_d00df_1 rfl ?_
  refine zr_gets X 7 w3 dJ5_init_d00df_4 rfl ?_
  refine zr_if_eq X 25 10 dJ5_init_d00df_7 rfl rfl (by omega) (fun bq1 => absurd bq1 (by omega)) (fun bq1 => ?_)
  refine zr_aload_n X 11 0 dJ5_init_d00df_10 rfl rfl ?_
  refine zr_iload_n X 12 1 dJ5_init_d00df_11 rfl rfl ?_
  refine zr_newab (kc' := (1 - 1)) (ks' := (n - ((n : Int)).toNat)) X 14 7 w4 (by omega) dJ5_init_d00df_12 rfl (by omega) (by omega) (fun q2 hq3 => ?_)
  refine zr_put X 17 1 0 [.ref q2, .int (zI (0)), .int (zI (mb)), .int (zI (0))] tyJ4 ((zu_ne (zne_new hb hq3)).trans hb) rfl iJ4 tyJ4_ok nmJ4 (by decide) w5 rfl rfl rfl rfl (Nat.le_of_ble_eq_true rfl) rfl dJ5_init_d00df_14 rfl ?_
  refine zr_aload_n X 18 0 dJ5_init_d00df_17 rfl rfl ?_
  refine zr_iconst X 19 dJ5_init_d00df_18 rfl ?_
  refine zr_put X 22 1 1 [.ref q2, .int (zI (0)), .int (zI (mb)), .int (zI (0))] tyJ4 (zu_eq _ _ _ _) rfl iJ4 tyJ4_ok nmJ4 (by decide) w7 rfl rfl rfl rfl (Nat.le_of_ble_eq_true rfl) rfl dJ5_init_d00df_19 rfl ?_
  refine zr_view (zu_zu _ _ _ _ _ _) ?_
  refine zr_goto X 38 dJ5_init_d00df_22 rfl ?_
  exact zr_vret X rfl ⟨rfl, q2, hq3, rfl⟩ dJ5_init_d00df_38
set_option maxRecDepth 100000 in
set_option maxHeartbeats 4000000 in
theorem m_J4_init_da8c8 (l : Launch) (Γ : zGam) {V : zV} {b : Nat} {mb : Int} (hb : V b = some (7, .inr (1, [.null, .int (zI 0), .int (zI mb), .int (zI 0)]))) : zM l Γ 3 yJ4_init_da8c8 wsJ4_init_da8c8 1 16 V [.ref b] (fun rv V' => rv = none ∧ zSB Γ V' b 0 16 ∧ zfr V V') := by
  have w0 : Cond.initialized yJ5_init_d00df.cls ∈ wsJ4_init_da8c8 := by decide +kernel
  have w1 : Cond.methodLink RJ4 1 yJ5_init_d00df ∈ wsJ4_init_da8c8 := by decide +kernel
  have w2 : Cond.instanceMethod yJ5_init_d00df ∈ wsJ4_init_da8c8 := by decide +kernel
  refine zM_of (cc := cJ4_init_da8c8) (nL := 1) (ret := none) (own := RJ4) (by decide +kernel) rfl rfl (Nat.le_of_ble_eq_true rfl) (fun C X hi0 => ?_)
  have hi0 := hi0 rfl
  show zG C V 1 16 0 [(0, .ref b)] []
  refine zr_aload_n X 1 0 dJ4_init_da8c8_0 rfl rfl ?_
  refine zr_bipush X 3 (16) dJ4_init_da8c8_1 rfl (by decide) ?_
  refine zr_callI (kc' := (1 - 1)) (ks' := (16 - 16)) X 6 1 (m_J5_init_d00df l Γ (n := 16) hb (by decide)) gJ4_init_da8c8_J5_init_d00df rfl w0 w1 w2 rfl (by decide +kernel) rfl (by decide) rfl (Nat.le_of_ble_eq_true rfl) dJ4_init_da8c8_3 rfl (by omega) (by omega) (fun rv1 V2 hp3 => ?_)
  obtain ⟨q4r, q4, q4n, q4v⟩ := hp3
  rw [q4r, q4v]
  show zG C (zu (zu V q4 7 (za Γ.2.1 2 ((16 : Int).toNat) (fun _ => 0))) b 7 (.inr (1, [.ref q4, .int (zI (0)), .int (zI (mb)), .int (zI (0))]))) (1 - 1) (16 - 16) 6 [(0, .ref b)] []
  exact zr_vret X rfl ⟨rfl, ⟨q4, mb, _, (zu_eq _ _ _ _), ((zu_ne (Ne.symm (zne_new hb q4n))).trans (zu_eq _ _ _ _)), zby_zero, by omega, by decide, by decide⟩, ((zfr.rf.new q4n).set ((zu_ne (zne_new hb q4n)).trans hb))⟩ dJ4_init_da8c8_6
set_option maxRecDepth 100000 in
set_option maxHeartbeats 4000000 in
theorem m_J7_checkLength_df160 (l : Launch) (Γ : zGam) {V : zV} {x y : Int} (hx : 0 ≤ x ∧ x ≤ y ∧ y ≤ 10000) : zM l Γ 0 yJ7_checkLength_df160 wsJ7_checkLength_df160 0 0 V [.int (zI (x)), .int (zI (y))] (fun rv V' => rv = none ∧ V' = V) := by
  refine zM_of (cc := cJ7_checkLength_df160) (nL := 2) (ret := none) (own := RJ7) (by decide +kernel) rfl rfl (Nat.le_of_ble_eq_true rfl) (fun C X hi0 => ?_)
  show zG C V 0 0 0 [(0, .int (zI (x))), (1, .int (zI (y)))] []
  refine zr_iload_n X 1 1 dJ7_checkLength_df160_0 rfl rfl ?_
  refine zr_iload_n X 2 0 dJ7_checkLength_df160_1 rfl rfl ?_
  refine zr_icmp_ge X 37 5 dJ7_checkLength_df160_2 rfl rfl (by omega) (by omega) (fun bq1 => ?_) (fun bq1 => ?_)
  · exact zr_vret X rfl ⟨rfl, rfl⟩ dJ7_checkLength_df160_37
  · exfalso
    omega
set_option maxRecDepth 100000 in
set_option maxHeartbeats 4000000 in
theorem m_J7_copyOfRangeByte_39247 (l : Launch) (Γ : zGam) {V : zV} {v cap : Nat} {f : Nat → Int} {n : Int} (hv : V v = some (7, za Γ.2.1 2 cap f)) (hf : zby f) (hn : 0 ≤ n ∧ n ≤ cap ∧ cap ≤ 3000) : zM l Γ 3 yJ7_copyOfRangeByte_39247 wsJ7_copyOfRangeByte_39247 1 ((n - 0).toNat) V [.ref v, .int (zI (0)), .int (zI (n))] (fun rv V' => ∃ q m g', V q = none ∧ zby g' ∧ rv = some (.ref q) ∧ V' = zu V q 7 (za Γ.2.1 2 m g')) := by
  have w0 : Cond.arrayClass .byte ∈ wsJ7_copyOfRangeByte_39247 := by decide +kernel
  have w1 : Cond.methodLink RJ7 304 Lib.Math.min.name ∈ wsJ7_copyOfRangeByte_39247 := by decide +kernel
  have w2 : Cond.static Lib.Math.min.name ∈ wsJ7_copyOfRangeByte_39247 := by decide +kernel
  have w3 : Cond.initialized "java/lang/Math" ∈ wsJ7_copyOfRangeByte_39247 := by decide +kernel
  have w4 : Cond.code Lib.Math.min.name Lib.Math.min.code 2 (some .int) ∈ wsJ7_copyOfRangeByte_39247 := by decide +kernel
  have w5 : Cond.methodLink RJ7 150 arraycopyName ∈ wsJ7_copyOfRangeByte_39247 := by decide +kernel
  have w6 : Cond.native arraycopyName ∈ wsJ7_copyOfRangeByte_39247 := by decide +kernel
  have w7 : Cond.static arraycopyName ∈ wsJ7_copyOfRangeByte_39247 := by decide +kernel
  have w8 : Cond.initialized "java/lang/System" ∈ wsJ7_copyOfRangeByte_39247 := by decide +kernel
  refine zM_of (cc := cJ7_copyOfRangeByte_39247) (nL := 5) (ret := (some (.array .byte))) (own := RJ7) (by decide +kernel) rfl rfl (Nat.le_of_ble_eq_true rfl) (fun C X hi0 => ?_)
  show zG C V 1 ((n - 0).toNat) 0 [(0, .ref v), (1, .int (zI (0))), (2, .int (zI (n)))] []
  refine zr_iload_n X 1 1 dJ7_copyOfRangeByte_39247_0 rfl rfl ?_
  refine zr_iload_n X 2 2 dJ7_copyOfRangeByte_39247_1 rfl rfl ?_
  refine zr_callS (kc' := 1) (ks' := (n - 0).toNat) X 5 2 (m_J7_checkLength_df160 l Γ (V := V) (x := 0) (y := n) (by omega)) gJ7_copyOfRangeByte_39247_J7_checkLength_df160 rfl (by decide +kernel) rfl (by decide) rfl (Nat.le_of_ble_eq_true rfl) dJ7_copyOfRangeByte_39247_2 rfl (by omega) (by omega) (fun rv1 V2 hp3 => ?_)
  rw [hp3.1, hp3.2]
  show zG C V 1 ((n - 0).toNat) 5 [(0, .ref v), (1, .int (zI (0))), (2, .int (zI (n)))] []
  refine zr_iload_n X 6 2 dJ7_copyOfRangeByte_39247_5 rfl rfl ?_
  refine zr_iload_n X 7 1 dJ7_copyOfRangeByte_39247_6 rfl rfl ?_
  refine zr_isub X 8 dJ7_copyOfRangeByte_39247_7 rfl ?_
  refine zr_istore_n X 9 [(3, .int (zI (n - 0))), (0, .ref v), (1, .int (zI (0))), (2, .int (zI (n)))] dJ7_copyOfRangeByte_39247_8 rfl (by decide) rfl ?_
  refine zr_iload_n X 10 0 dJ7_copyOfRangeByte_39247_9 rfl rfl ?_
  refine zr_newab (kc' := (1 - 1)) (ks' := ((n - 0).toNat - (n - 0).toNat)) X 12 7 w0 (by omega) dJ7_copyOfRangeByte_39247_10 rfl (by omega) (by omega) (fun q4 hq5 => ?_)
  refine zr_astore X 14 [(4, .ref q4), (3, .int (zI (n - 0))), (0, .ref v), (1, .int (zI (0))), (2, .int (zI (n)))] dJ7_copyOfRangeByte_39247_12 rfl (by decide) rfl ?_
  refine zr_aload_n X 15 2 dJ7_copyOfRangeByte_39247_14 rfl rfl ?_
  refine zr_iload_n X 16 3 dJ7_copyOfRangeByte_39247_15 rfl rfl ?_
  refine zr_aload X 18 0 dJ7_copyOfRangeByte_39247_16 rfl rfl ?_
  refine zr_iconst X 19 dJ7_copyOfRangeByte_39247_18 rfl ?_
  refine zr_aload_n X 20 2 dJ7_copyOfRangeByte_39247_19 rfl rfl ?_
  refine zr_alen X 21 2 ((zu_ne (zne_new hv hq5)).trans hv) (by decide) dJ7_copyOfRangeByte_39247_20 rfl ?_
  refine zr_iload_n X 22 3 dJ7_copyOfRangeByte_39247_21 rfl rfl ?_
  refine zr_isub X 23 dJ7_copyOfRangeByte_39247_22 rfl ?_
  refine zr_iload_n X 24 1 dJ7_copyOfRangeByte_39247_23 rfl rfl ?_
  refine zr_mmin X 27 (n - 0) w1 w2 w3 w4 (by decide) (Nat.le_of_ble_eq_true rfl) (by omega) (by omega) (by split <;> omega) dJ7_copyOfRangeByte_39247_24 rfl ?_
  refine zr_copyb X 30 ((zu_ne (zne_new hv hq5)).trans hv) (zu_eq _ _ _ _) hf w5 w6 w7 w8 (by omega) (by decide) (Nat.le_of_ble_eq_true rfl) dJ7_copyOfRangeByte_39247_27 rfl ?_
  refine zr_view (zu_zu _ _ _ _ _ _) ?_
  refine zr_aload X 32 0 dJ7_copyOfRangeByte_39247_30 rfl rfl ?_
  exact zr_aret X rfl (Or.inr ⟨_, rfl⟩) ⟨q4, _, _, hq5, zby_zcp hf zby_zero, rfl, rfl⟩ dJ7_copyOfRangeByte_39247_32
set_option maxRecDepth 100000 in
set_option maxHeartbeats 4000000 in
theorem m_J7_copyOfRange_39247 (l : Launch) (Γ : zGam) {V : zV} {v cap : Nat} {f : Nat → Int} {n : Int} (hv : V v = some (7, za Γ.2.1 2 cap f)) (hf : zby f) (hn : 0 ≤ n ∧ n ≤ cap ∧ cap ≤ 3000) : zM l Γ 4 yJ7_copyOfRange_39247 wsJ7_copyOfRange_39247 1 n.toNat V [.ref v, .int (zI (0)), .int (zI (n))] (fun rv V' => ∃ q m g', V q = none ∧ zby g' ∧ rv = some (.ref q) ∧ V' = zu V q 7 (za Γ.2.1 2 m g')) := by
  have w0 : Cond.methodLink RJ7 310 ⟨"[B", "clone", "()Ljava/lang/Object;"⟩ ∈ wsJ7_copyOfRange_39247 := by decide +kernel
  have w1 : Cond.sameMethod "[B" "java/lang/Object" "clone" "()Ljava/lang/Object;" ∈ wsJ7_copyOfRange_39247 := by decide +kernel
  have w2 : Cond.native ⟨"java/lang/Object", "clone", "()Ljava/lang/Object;"⟩ ∈ wsJ7_copyOfRange_39247 := by decide +kernel
  have w3 : Cond.instanceMethod ⟨"java/lang/Object", "clone", "()Ljava/lang/Object;"⟩ ∈ wsJ7_copyOfRange_39247 := by decide +kernel
  have w4 : Cond.selects "[B" ⟨"[B", "clone", "()Ljava/lang/Object;"⟩ ⟨"java/lang/Object", "clone", "()Ljava/lang/Object;"⟩ ∈ wsJ7_copyOfRange_39247 := by decide +kernel
  have w5 : Cond.classLink RJ7 311 "[B" ∈ wsJ7_copyOfRange_39247 := by decide +kernel
  refine zM_of (cc := cJ7_copyOfRange_39247) (nL := 3) (ret := (some (.array .byte))) (own := RJ7) (by decide +kernel) rfl rfl (Nat.le_of_ble_eq_true rfl) (fun C X hi0 => ?_)
  show zG C V 1 n.toNat 0 [(0, .ref v), (1, .int (zI (0))), (2, .int (zI (n)))] []
  refine zr_iload_n X 1 1 dJ7_copyOfRange_39247_0 rfl rfl ?_
  refine zr_if_ne X 10 4 dJ7_copyOfRange_39247_1 rfl rfl (by omega) (fun bq1 => absurd bq1 (by omega)) (fun bq1 => ?_)
  refine zr_iload_n X 5 2 dJ7_copyOfRange_39247_4 rfl rfl ?_
  refine zr_aload_n X 6 0 dJ7_copyOfRange_39247_5 rfl rfl ?_
  refine zr_alen X 7 2 hv (by decide) dJ7_copyOfRange_39247_6 rfl ?_
  refine zr_icmp_eq X 17 10 dJ7_copyOfRange_39247_7 rfl rfl (by omega) (by omega) (fun bq2 => ?_) (fun bq2 => ?_)
  · refine zr_aload_n X 18 0 dJ7_copyOfRange_39247_17 rfl rfl ?_
    refine zr_cloneB (kc' := (1 - 1)) (ks' := (n.toNat - cap)) X 21 7 hv hf w0 w1 w2 w3 w4 (by decide) (Nat.le_of_ble_eq_true rfl) dJ7_copyOfRange_39247_18 rfl (by omega) (by omega) (fun q3 q3n => ?_)
    refine zr_castB X 24 (zu_eq _ _ _ _) w5 dJ7_copyOfRange_39247_21 rfl ?_
    exact zr_aret X rfl (Or.inr ⟨_, rfl⟩) ⟨q3, _, _, q3n, hf, rfl, rfl⟩ dJ7_copyOfRange_39247_24
  · refine zr_aload_n X 11 0 dJ7_copyOfRange_39247_10 rfl rfl ?_
    refine zr_iload_n X 12 1 dJ7_copyOfRange_39247_11 rfl rfl ?_
    refine zr_iload_n X 13 2 dJ7_copyOfRange_39247_12 rfl rfl ?_
    refine zr_callS (kc' := (1 - 1)) (ks' := (n.toNat - (n - 0).toNat)) X 16 3 (m_J7_copyOfRangeByte_39247 l Γ (n := n) hv hf (by omega)) gJ7_copyOfRange_39247_J7_copyOfRangeByte_39247 rfl (by decide +kernel) rfl (by decide) rfl (Nat.le_of_ble_eq_true rfl) dJ7_copyOfRange_39247_13 rfl (by omega) (by omega) (fun rv4 V5 hp6 => ?_)
    obtain ⟨q7, q7m, q7f, q7n, q7b, q7r, q7v⟩ := hp6
    rw [q7r, q7v]
    show zG C (zu V q7 7 (za Γ.2.1 2 q7m q7f)) (1 - 1) (n.toNat - (n - 0).toNat) 16 [(0, .ref v), (1, .int (zI (0))), (2, .int (zI (n)))] [.ref q7]
    exact zr_aret X rfl (Or.inr ⟨_, rfl⟩) ⟨q7, _, _, q7n, q7b, rfl, rfl⟩ dJ7_copyOfRange_39247_16
set_option maxRecDepth 100000 in
set_option maxHeartbeats 4000000 in
theorem m_J0_init_db425 (l : Launch) (Γ : zGam) {V : zV} {b v cap : Nat} {mb cnt : Int} {f : Nat → Int} {z : Nat} (hb : V b = some (7, .inr (1, [.ref v, .int (zI 0), .int (zI mb), .int (zI cnt)]))) (hv : V v = some (7, za Γ.2.1 2 cap f)) (hr : 0 ≤ cnt ∧ cnt ≤ cap ∧ cap ≤ 3000) (hf : zby f) (hz : V z = some (7, .inr (0, [.null, .int (zI 0), .int (zI 0), .int (zI 0)]))) : zM l Γ 5 yJ0_init_db425 wsJ0_init_db425 1 cnt.toNat V [.ref z, .ref b, .null] (fun rv V' => rv = none ∧ ∃ q m g', V q = none ∧ V' = zu (zu V q 7 (za Γ.2.1 2 m g')) z 7 (.inr (0, [.ref q, .int (zI 0), .int (zI 0), .int (zI 0)]))) := by
  have w0 : Cond.methodLink RJ0 1 objectInit ∈ wsJ0_init_db425 := by decide +kernel
  have w1 : Cond.instanceMethod objectInit ∈ wsJ0_init_db425 := by decide +kernel
  have w2 : Cond.code objectInit ⟨#[0xb1]⟩ 1 none ∈ wsJ0_init_db425 := by decide +kernel
  have w3 : Cond.code yJ5_length_8abf5 cJ5_length_8abf5 1 (some .int) ∈ wsJ0_init_db425 := by decide +kernel
  have w4 : Cond.fieldLink RJ0 15 "java/lang/String" "coder" "B" ∈ wsJ0_init_db425 := by decide +kernel
  have iJ0 : ∀ w ∈ u_ws RJ0 TJ0 4, w ∈ wsJ0_init_db425 := by decide +kernel
  have w6 : Cond.fieldLink RJ0 9 "java/lang/String" "value" "[B" ∈ wsJ0_init_db425 := by decide +kernel
  refine zM_of (cc := cJ0_init_db425) (nL := 5) (ret := none) (own := RJ0) (by decide +kernel) rfl rfl (Nat.le_of_ble_eq_true rfl) (fun C X hi0 => ?_)
  have hi0 := hi0 rfl
  show zG C V 1 cnt.toNat 0 [(0, .ref z), (1, .ref b), (2, .null)] []
  refine zr_aload_n X 1 0 dJ0_init_db425_0 rfl rfl ?_
  refine zr_objInit X 4 hz rfl w0 w1 w2 (by decide) (Nat.le_of_ble_eq_true rfl) dJ0_init_db425_1 rfl ?_
  refine zr_aload_n X 5 1 dJ0_init_db425_4 rfl rfl ?_
  refine zr_callU2 (kc' := 1) (ks' := cnt.toNat) X 8 0 (m_J5_getValue_6d5f1 l Γ hb) gJ0_init_db425_J5_getValue_6d5f1_u552J4 rfl rfl (by decide +kernel) rfl (by decide) hb rfl rfl (Nat.le_of_ble_eq_true rfl) dJ0_init_db425_5 rfl (by omega) (by omega) (fun rv1 V2 hp3 => ?_)
  rw [hp3.1, hp3.2]
  show zG C V 1 cnt.toNat 8 [(0, .ref z), (1, .ref b), (2, .null)] [.ref v]
  refine zr_astore_n X 9 [(3, .ref v), (0, .ref z), (1, .ref b), (2, .null)] dJ0_init_db425_8 rfl (by decide) rfl ?_
  refine zr_aload_n X 10 2 dJ0_init_db425_9 rfl rfl ?_
  refine zr_callO (kc' := 1) (ks' := cnt.toNat) X 13 0 (m_J4_length_8abf5 l Γ hb) gJ0_init_db425_J4_length_8abf5_u549J4 rfl w3 (by decide +kernel) rfl (by decide) hb rfl rfl (Nat.le_of_ble_eq_true rfl) dJ0_init_db425_10 rfl (by omega) (by omega) (fun rv4 V5 hp6 => ?_)
  rw [hp6.1, hp6.2]
  show zG C V 1 cnt.toNat 13 [(3, .ref v), (0, .ref z), (1, .ref b), (2, .null)] [.int (zI (cnt))]
  refine zr_istore X 15 [(4, .int (zI (cnt))), (3, .ref v), (0, .ref z), (1, .ref b), (2, .null)] dJ0_init_db425_13 rfl (by decide) rfl ?_
  refine zr_aload_n X 16 3 dJ0_init_db425_15 rfl rfl ?_
  refine zr_callU2 (kc' := 1) (ks' := cnt.toNat) X 19 0 (m_J5_isLatin1_aae02 l Γ hb) gJ0_init_db425_J5_isLatin1_aae02_u1047J4 rfl rfl (by decide +kernel) rfl (by decide) hb rfl rfl (Nat.le_of_ble_eq_true rfl) dJ0_init_db425_16 rfl (by omega) (by omega) (fun rv7 V8 hp9 => ?_)
  rw [hp9.1, hp9.2]
  show zG C V 1 cnt.toNat 19 [(4, .int (zI (cnt))), (3, .ref v), (0, .ref z), (1, .ref b), (2, .null)] [.int (zI (1))]
  refine zr_if_eq X 41 22 dJ0_init_db425_19 rfl rfl (by omega) (fun bq10 => absurd bq10 (by omega)) (fun bq10 => ?_)
  refine zr_aload_n X 23 2 dJ0_init_db425_22 rfl rfl ?_
  refine zr_iconst X 24 dJ0_init_db425_23 rfl ?_
  refine zr_putF X 27 0 1 [.null, .int (zI (0)), .int (zI (0)), .int (zI (0))] tyJ0 hi0 hz rfl iJ0 tyJ0_ok nmJ0 (by decide) w4 rfl rfl rfl rfl rfl (Nat.le_of_ble_eq_true rfl) rfl dJ0_init_db425_24 rfl ?_
  refine zr_view (zu_id hz) ?_
  refine zr_aload_n X 28 2 dJ0_init_db425_27 rfl rfl ?_
  refine zr_aload_n X 29 1 dJ0_init_db425_28 rfl rfl ?_
  refine zr_iconst X 30 dJ0_init_db425_29 rfl ?_
  refine zr_iload X 32 0 dJ0_init_db425_30 rfl rfl ?_
  refine zr_callS (kc' := (1 - 1)) (ks' := (cnt.toNat - (cnt).toNat)) X 35 3 (m_J7_copyOfRange_39247 l Γ (n := cnt) hv hf (by omega)) gJ0_init_db425_J7_copyOfRange_39247 rfl (by decide +kernel) rfl (by decide) rfl (Nat.le_of_ble_eq_true rfl) dJ0_init_db425_32 rfl (by omega) (by omega) (fun rv11 V12 hp13 => ?_)
  obtain ⟨q14, q14m, q14f, q14n, q14b, q14r, q14v⟩ := hp13
  rw [q14r, q14v]
  show zG C (zu V q14 7 (za Γ.2.1 2 q14m q14f)) (1 - 1) (cnt.toNat - (cnt).toNat) 35 [(4, .int (zI (cnt))), (3, .ref v), (0, .ref z), (1, .ref b), (2, .null)] [.ref q14, .ref z]
  refine zr_putF X 38 0 0 [.ref q14, .int (zI (0)), .int (zI (0)), .int (zI (0))] tyJ0 hi0 ((zu_ne (zne_new hz q14n)).trans hz) rfl iJ0 tyJ0_ok nmJ0 (by decide) w6 rfl rfl rfl rfl rfl (Nat.le_of_ble_eq_true rfl) rfl dJ0_init_db425_35 rfl ?_
  refine zr_goto X 97 dJ0_init_db425_38 rfl ?_
  exact zr_vret X rfl ⟨rfl, q14, _, _, q14n, rfl⟩ dJ0_init_db425_97
set_option maxRecDepth 100000 in
set_option maxHeartbeats 4000000 in
theorem m_J0_init_81219 (l : Launch) (Γ : zGam) {V : zV} {b v cap : Nat} {mb cnt : Int} {f : Nat → Int} {z : Nat} (hb : V b = some (7, .inr (1, [.ref v, .int (zI 0), .int (zI mb), .int (zI cnt)]))) (hv : V v = some (7, za Γ.2.1 2 cap f)) (hr : 0 ≤ cnt ∧ cnt ≤ cap ∧ cap ≤ 3000) (hf : zby f) (hz : V z = some (7, .inr (0, [.null, .int (zI 0), .int (zI 0), .int (zI 0)]))) : zM l Γ 6 yJ0_init_81219 wsJ0_init_81219 1 cnt.toNat V [.ref z, .ref b] (fun rv V' => rv = none ∧ ∃ q m g', V q = none ∧ V' = zu (zu V q 7 (za Γ.2.1 2 m g')) z 7 (.inr (0, [.ref q, .int (zI 0), .int (zI 0), .int (zI 0)]))) := by
  have w0 : Cond.initialized yJ0_init_db425.cls ∈ wsJ0_init_81219 := by decide +kernel
  have w1 : Cond.methodLink RJ0 489 yJ0_init_db425 ∈ wsJ0_init_81219 := by decide +kernel
  have w2 : Cond.instanceMethod yJ0_init_db425 ∈ wsJ0_init_81219 := by decide +kernel
  refine zM_of (cc := cJ0_init_81219) (nL := 2) (ret := none) (own := RJ0) (by decide +kernel) rfl rfl (Nat.le_of_ble_eq_true rfl) (fun C X hi0 => ?_)
  have hi0 := hi0 rfl
  show zG C V 1 cnt.toNat 0 [(0, .ref z), (1, .ref b)] []
  refine zr_aload_n X 1 0 dJ0_init_81219_0 rfl rfl ?_
  refine zr_aload_n X 2 1 dJ0_init_81219_1 rfl rfl ?_
  refine zr_null X 3 dJ0_init_81219_2 rfl ?_
  refine zr_callI (kc' := (1 - 1)) (ks' := (cnt.toNat - cnt.toNat)) X 6 2 (m_J0_init_db425 l Γ hb hv hr hf hz) gJ0_init_81219_J0_init_db425 rfl w0 w1 w2 rfl (by decide +kernel) rfl (by decide) rfl (Nat.le_of_ble_eq_true rfl) dJ0_init_81219_3 rfl (by omega) (by omega) (fun rv1 V2 hp3 => ?_)
  obtain ⟨q4r, q4, q4m, q4f, q4n, q4v⟩ := hp3
  rw [q4r, q4v]
  show zG C (zu (zu V q4 7 (za Γ.2.1 2 q4m q4f)) z 7 (.inr (0, [.ref q4, .int (zI (0)), .int (zI (0)), .int (zI (0))]))) (1 - 1) (cnt.toNat - cnt.toNat) 6 [(0, .ref z), (1, .ref b)] []
  exact zr_vret X rfl ⟨rfl, q4, _, _, q4n, rfl⟩ dJ0_init_81219_6
set_option maxRecDepth 100000 in
set_option maxHeartbeats 4000000 in
theorem m_J4_toString_0e30d (l : Launch) (Γ : zGam) {V : zV} {b v cap : Nat} {mb cnt : Int} {f : Nat → Int} (hb : V b = some (7, .inr (1, [.ref v, .int (zI 0), .int (zI mb), .int (zI cnt)]))) (hv : V v = some (7, za Γ.2.1 2 cap f)) (hr : 0 ≤ cnt ∧ cnt ≤ cap ∧ cap ≤ 3000) (hf : zby f) : zM l Γ 7 yJ4_toString_0e30d wsJ4_toString_0e30d 2 (cnt.toNat + 4) V [.ref b] (fun rv V' => ∃ z, rv = some (.ref z) ∧ V z = none ∧ zfr V V') := by
  have w0 : Cond.classLink RJ4 18 RJ0 ∈ wsJ4_toString_0e30d := by decide +kernel
  have w1 : Cond.instantiable RJ0 4 ∈ wsJ4_toString_0e30d := by decide +kernel
  have w2 : Cond.initialized RJ0 ∈ wsJ4_toString_0e30d := by decide +kernel
  have iJ0 : ∀ w ∈ u_ws RJ0 TJ0 4, w ∈ wsJ4_toString_0e30d := by decide +kernel
  have w4 : Cond.initialized yJ0_init_81219.cls ∈ wsJ4_toString_0e30d := by decide +kernel
  have w5 : Cond.methodLink RJ4 137 yJ0_init_81219 ∈ wsJ4_toString_0e30d := by decide +kernel
  have w6 : Cond.instanceMethod yJ0_init_81219 ∈ wsJ4_toString_0e30d := by decide +kernel
  refine zM_of (cc := cJ4_toString_0e30d) (nL := 1) (ret := (some (.object "java/lang/String"))) (own := RJ4) (by decide +kernel) rfl rfl (Nat.le_of_ble_eq_true rfl) (fun C X hi0 => ?_)
  show zG C V 2 (cnt.toNat + 4) 0 [(0, .ref b)] []
  refine zr_new (kc' := (2 - 1)) (ks' := ((cnt.toNat + 4) - 4)) X 3 0 7 [.null, .int (zI (0)), .int (zI (0)), .int (zI (0))] tyJ0 rfl iJ0 tyJ0_ok w0 w1 w2 (zdf_J0) dJ4_toString_0e30d_0 rfl (by omega) (by omega) (fun q1 hq2 => ?_)
  refine zr_dup X 4 dJ4_toString_0e30d_3 rfl rfl ?_
  refine zr_aload_n X 5 0 dJ4_toString_0e30d_4 rfl rfl ?_
  refine zr_callI (kc' := ((2 - 1) - 1)) (ks' := (((cnt.toNat + 4) - 4) - cnt.toNat)) X 8 1 (m_J0_init_81219 l Γ ((zu_ne (zne_new hb hq2)).trans hb) ((zu_ne (zne_new hv hq2)).trans hv) hr hf (zu_eq _ _ _ _)) gJ4_toString_0e30d_J0_init_81219 rfl w4 w5 w6 rfl (by decide +kernel) rfl (by decide) rfl (Nat.le_of_ble_eq_true rfl) dJ4_toString_0e30d_5 rfl (by omega) (by omega) (fun rv3 V4 hp5 => ?_)
  obtain ⟨q6r, q6, q6m, q6f, q6n, q6v⟩ := hp5
  rw [q6r, q6v]
  show zG C (zu (zu (zu V q1 7 (.inr (0, [.null, .int (zI (0)), .int (zI (0)), .int (zI (0))]))) q6 7 (za Γ.2.1 2 q6m q6f)) q1 7 (.inr (0, [.ref q6, .int (zI 0), .int (zI 0), .int (zI 0)]))) ((2 - 1) - 1) (((cnt.toNat + 4) - 4) - cnt.toNat) 8 [(0, .ref b)] [.ref q1]
  exact zr_aret X rfl (Or.inl ⟨_, rfl⟩) ⟨q1, rfl, hq2, ((zfr.rf.new hq2).new q6n).set ((zu_ne (zne_new (zu_eq _ _ _ _) q6n)).trans (zu_eq _ _ _ _))⟩ dJ4_toString_0e30d_8
