/-! Sashwords: the helpers -/
abbrev zIO : String := "java/lang/IndexOutOfBoundsException"
abbrev zIA : String := "java/lang/IllegalArgumentException"
abbrev zIS : String := "java/lang/IllegalStateException"
def zdn (σ : Nat → Int) : Nat → Int := zx4 σ (σ 30 + 1) (σ 31) (σ 32) (σ 33)
def zrf (σ : Nat → Int) : Nat → Int := zx4 σ (σ 30) (σ 31 + 1) (σ 32) (σ 33)
/-- the address of a source -/
def zso (ad : Nat → Nat) (q : Int) : Nat := if q < 6 then ad (10 + q.toNat) else if q = 6 then ad 20 else ad 22
/-- how many signs it has -/
def zsz (σ : Nat → Int) (q : Int) : Int := if q < 6 then σ (4 * q.toNat + 1) - σ (4 * q.toNat + 2) else if q = 6 then σ 24 else σ 25
set_option maxRecDepth 100000 in
set_option maxHeartbeats 4000000 in
theorem m_X6_windowOf (l : Launch) (hlt : l.stackTraces = false) (Γ : zGam) {V : zV} {ad : Nat → Nat} {σ : Nat → Int} {q : Int} (hS : zS Γ V ad σ) (hq : -2147483648 ≤ q ∧ q ≤ 2147483647) : zN l Γ 6 yX6_windowOf wsX6_windowOf 1 6 V [.ref (ad 1), .int (zI (q))] (fun rv V' => (0 ≤ q ∧ q < 6) ∧ rv = some (.ref (ad (10 + q.toNat))) ∧ V' = V) (fun E V' => E = zIO ∧ ¬ (0 ≤ q ∧ q < 6) ∧ V' = V) := by
  have w0 : Cond.classLink RX6 302 "java/lang/IndexOutOfBoundsException" ∈ wsX6_windowOf := by decide +kernel
  have w1 : Cond.initialized "java/lang/IndexOutOfBoundsException" ∈ wsX6_windowOf := by decide +kernel
  have w2 : Cond.fieldLink RX6 11 "Sashwords" "windows" "[LSashwords$Window;" ∈ wsX6_windowOf := by decide +kernel
  have iX6 : ∀ w ∈ u_ws RX6 TX6 14, w ∈ wsX6_windowOf := by decide +kernel
  refine zN_of (cc := cX6_windowOf) (nL := 2) (ret := (some (.object "Sashwords$Window"))) (own := RX6) hlt (by decide +kernel) rfl rfl (Nat.le_of_ble_eq_true rfl) (fun C X Y => ?_)
  have hx1 : V (ad 1) = some (1, .inr (7, [.ref (ad 2), .ref (ad 20), .ref (ad 22), .ref (ad 24), .ref (ad 16), .ref (ad 31), .ref (ad 33), .ref (ad 35), .ref (ad 40), .ref (ad 45), .int (zI (σ 30)), .int (zI (σ 31)), .int (zI (σ 32)), .int (zI (σ 33))])) := hS.1
  show zG C V 1 6 0 [(0, .ref (ad 1)), (1, .int (zI (q)))] []
  refine zr_iload_n X 1 1 dX6_windowOf_0 rfl rfl ?_
  refine zr_if_lt X 13 4 dX6_windowOf_1 rfl rfl (by first | with_reducible assumption | decide | omega) (fun bq2 => ?_) (fun bq2 => ?_)
  · exact zr_throw X Y 0 (names := ["java/lang/RuntimeException", "java/lang/Exception"]) rfl (by decide +kernel) (by decide +kernel) (by decide) w0 w1 (fun w h => List.mem_cons_of_mem _ (List.mem_append_right _ h)) (by decide +kernel) (by decide +kernel) (by decide +kernel) (by decide) dX6_windowOf_13 dX6_windowOf_16 dX6_windowOf_17 dX6_windowOf_20 dX6_windowOf_23 (Nat.le_of_ble_eq_true rfl) (by first | with_reducible assumption | decide | omega) (by first | with_reducible assumption | decide | omega) ⟨rfl, by omega, rfl⟩
  · refine zr_iload_n X 5 1 dX6_windowOf_4 rfl rfl ?_
    refine zr_aload_n X 6 0 dX6_windowOf_5 rfl rfl ?_
    refine zr_get X 9 7 0 hx1 rfl iX6 (by decide) w2 rfl rfl dX6_windowOf_6 rfl ?_
    refine zr_alenq X 10 3 hS.2.1 (by decide) dX6_windowOf_9 rfl ?_
    refine zr_icmp_lt X 24 13 dX6_windowOf_10 rfl rfl (by first | with_reducible assumption | decide | omega) (by first | with_reducible assumption | decide | omega) (fun bq3 => ?_) (fun bq3 => ?_)
    · refine zr_aload_n X 25 0 dX6_windowOf_24 rfl rfl ?_
      refine zr_get X 28 7 0 hx1 rfl iX6 (by decide) w2 rfl rfl dX6_windowOf_25 rfl ?_
      refine zr_iload_n X 29 1 dX6_windowOf_28 rfl rfl ?_
      refine zr_aald X 30 (.ref (ad (10 + (q).toNat))) hS.2.1 (by first | with_reducible assumption | decide | omega) rfl dX6_windowOf_29 rfl ?_
      exact zr_aret X rfl (Or.inl ⟨_, rfl⟩) ⟨by omega, rfl, rfl⟩ dX6_windowOf_30
    · exact zr_throw X Y 0 (names := ["java/lang/RuntimeException", "java/lang/Exception"]) rfl (by decide +kernel) (by decide +kernel) (by decide) w0 w1 (fun w h => List.mem_cons_of_mem _ (List.mem_append_right _ h)) (by decide +kernel) (by decide +kernel) (by decide +kernel) (by decide) dX6_windowOf_13 dX6_windowOf_16 dX6_windowOf_17 dX6_windowOf_20 dX6_windowOf_23 (Nat.le_of_ble_eq_true rfl) (by first | with_reducible assumption | decide | omega) (by first | with_reducible assumption | decide | omega) ⟨rfl, by omega, rfl⟩
set_option maxRecDepth 100000 in
set_option maxHeartbeats 4000000 in
theorem m_X6_sourceOf (l : Launch) (hlt : l.stackTraces = false) (Γ : zGam) {V : zV} {ad : Nat → Nat} {σ : Nat → Int} {q : Int} (hS : zS Γ V ad σ) (hq : -2147483648 ≤ q ∧ q ≤ 2147483647) : zN l Γ 6 yX6_sourceOf wsX6_sourceOf 1 6 V [.ref (ad 1), .int (zI (q))] (fun rv V' => (0 ≤ q ∧ q ≤ 7) ∧ rv = some (.ref (zso ad q)) ∧ V' = V) (fun E V' => E = zIO ∧ ¬ (0 ≤ q ∧ q ≤ 7) ∧ V' = V) := by
  have w0 : Cond.classLink RX6 302 "java/lang/IndexOutOfBoundsException" ∈ wsX6_sourceOf := by decide +kernel
  have w1 : Cond.initialized "java/lang/IndexOutOfBoundsException" ∈ wsX6_sourceOf := by decide +kernel
  have w2 : Cond.fieldLink RX6 11 "Sashwords" "windows" "[LSashwords$Window;" ∈ wsX6_sourceOf := by decide +kernel
  have iX6 : ∀ w ∈ u_ws RX6 TX6 14, w ∈ wsX6_sourceOf := by decide +kernel
  have w4 : Cond.fieldLink RX6 24 "Sashwords" "kept" "LSashwords$Script;" ∈ wsX6_sourceOf := by decide +kernel
  have w5 : Cond.fieldLink RX6 20 "Sashwords" "builder" "LSashwords$Script;" ∈ wsX6_sourceOf := by decide +kernel
  refine zN_of (cc := cX6_sourceOf) (nL := 2) (ret := (some (.object "Sashwords$Text"))) (own := RX6) hlt (by decide +kernel) rfl rfl (Nat.le_of_ble_eq_true rfl) (fun C X Y => ?_)
  have hx1 : V (ad 1) = some (1, .inr (7, [.ref (ad 2), .ref (ad 20), .ref (ad 22), .ref (ad 24), .ref (ad 16), .ref (ad 31), .ref (ad 33), .ref (ad 35), .ref (ad 40), .ref (ad 45), .int (zI (σ 30)), .int (zI (σ 31)), .int (zI (σ 32)), .int (zI (σ 33))])) := hS.1
  show zG C V 1 6 0 [(0, .ref (ad 1)), (1, .int (zI (q)))] []
  refine zr_iload_n X 1 1 dX6_sourceOf_0 rfl rfl ?_
  refine zr_if_lt X 10 4 dX6_sourceOf_1 rfl rfl (by first | with_reducible assumption | decide | omega) (fun bq2 => ?_) (fun bq2 => ?_)
  · exact zr_throw X Y 1 (names := ["java/lang/RuntimeException", "java/lang/Exception"]) rfl (by decide +kernel) (by decide +kernel) (by decide) w0 w1 (fun w h => List.mem_cons_of_mem _ (List.mem_append_right _ h)) (by decide +kernel) (by decide +kernel) (by decide +kernel) (by decide) dX6_sourceOf_10 dX6_sourceOf_13 dX6_sourceOf_14 dX6_sourceOf_17 dX6_sourceOf_20 (Nat.le_of_ble_eq_true rfl) (by first | with_reducible assumption | decide | omega) (by first | with_reducible assumption | decide | omega) ⟨rfl, by omega, rfl⟩
  · refine zr_iload_n X 5 1 dX6_sourceOf_4 rfl rfl ?_
    refine zr_bipush X 7 (7) dX6_sourceOf_5 rfl (by decide) ?_
    refine zr_icmp_le X 21 10 dX6_sourceOf_7 rfl rfl (by first | with_reducible assumption | decide | omega) (by first | with_reducible assumption | decide | omega) (fun bq3 => ?_) (fun bq3 => ?_)
    · refine zr_iload_n X 22 1 dX6_sourceOf_21 rfl rfl ?_
      refine zr_aload_n X 23 0 dX6_sourceOf_22 rfl rfl ?_
      refine zr_get X 26 7 0 hx1 rfl iX6 (by decide) w2 rfl rfl dX6_sourceOf_23 rfl ?_
      refine zr_alenq X 27 3 hS.2.1 (by decide) dX6_sourceOf_26 rfl ?_
      refine zr_icmp_ge X 37 30 dX6_sourceOf_27 rfl rfl (by first | with_reducible assumption | decide | omega) (by first | with_reducible assumption | decide | omega) (fun bq4 => ?_) (fun bq4 => ?_)
      · refine zr_iload_n X 38 1 dX6_sourceOf_37 rfl rfl ?_
        refine zr_bipush X 40 (6) dX6_sourceOf_38 rfl (by decide) ?_
        refine zr_icmp_ne X 50 43 dX6_sourceOf_40 rfl rfl (by first | with_reducible assumption | decide | omega) (by first | with_reducible assumption | decide | omega) (fun bq5 => ?_) (fun bq5 => ?_)
        · refine zr_aload_n X 51 0 dX6_sourceOf_50 rfl rfl ?_
          refine zr_get X 54 7 2 hx1 rfl iX6 (by decide) w4 rfl rfl dX6_sourceOf_51 rfl ?_
          exact zr_aret X rfl (Or.inl ⟨_, rfl⟩) ⟨by omega, by unfold zso; rw [if_neg (by first | with_reducible assumption | decide | omega), if_neg (by first | with_reducible assumption | decide | omega)], rfl⟩ dX6_sourceOf_54
        · refine zr_aload_n X 44 0 dX6_sourceOf_43 rfl rfl ?_
          refine zr_get X 47 7 1 hx1 rfl iX6 (by decide) w5 rfl rfl dX6_sourceOf_44 rfl ?_
          refine zr_goto X 54 dX6_sourceOf_47 rfl ?_
          exact zr_aret X rfl (Or.inl ⟨_, rfl⟩) ⟨by omega, by unfold zso; rw [if_neg (by first | with_reducible assumption | decide | omega), if_pos (by first | with_reducible assumption | decide | omega)], rfl⟩ dX6_sourceOf_54
      · refine zr_aload_n X 31 0 dX6_sourceOf_30 rfl rfl ?_
        refine zr_get X 34 7 0 hx1 rfl iX6 (by decide) w2 rfl rfl dX6_sourceOf_31 rfl ?_
        refine zr_iload_n X 35 1 dX6_sourceOf_34 rfl rfl ?_
        refine zr_aald X 36 (.ref (ad (10 + (q).toNat))) hS.2.1 (by first | with_reducible assumption | decide | omega) rfl dX6_sourceOf_35 rfl ?_
        exact zr_aret X rfl (Or.inl ⟨_, rfl⟩) ⟨by omega, by unfold zso; rw [if_pos (by first | with_reducible assumption | decide | omega)], rfl⟩ dX6_sourceOf_36
    · exact zr_throw X Y 1 (names := ["java/lang/RuntimeException", "java/lang/Exception"]) rfl (by decide +kernel) (by decide +kernel) (by decide) w0 w1 (fun w h => List.mem_cons_of_mem _ (List.mem_append_right _ h)) (by decide +kernel) (by decide +kernel) (by decide +kernel) (by decide) dX6_sourceOf_10 dX6_sourceOf_13 dX6_sourceOf_14 dX6_sourceOf_17 dX6_sourceOf_20 (Nat.le_of_ble_eq_true rfl) (by first | with_reducible assumption | decide | omega) (by first | with_reducible assumption | decide | omega) ⟨rfl, by omega, rfl⟩
set_option maxRecDepth 100000 in
set_option maxHeartbeats 4000000 in
theorem m_X6_requirePlace (l : Launch) (hlt : l.stackTraces = false) (Γ : zGam) {V : zV} {p n : Int} (hp : -2147483648 ≤ p ∧ p ≤ 2147483647) (hn : 0 ≤ n ∧ n ≤ 1000) : zN l Γ 6 yX6_requirePlace wsX6_requirePlace 1 6 V [.int (zI (p)), .int (zI (n))] (fun rv V' => (0 ≤ p ∧ p < n) ∧ rv = none ∧ V' = V) (fun E V' => E = zIO ∧ ¬ (0 ≤ p ∧ p < n) ∧ V' = V) := by
  have w0 : Cond.classLink RX6 302 "java/lang/IndexOutOfBoundsException" ∈ wsX6_requirePlace := by decide +kernel
  have w1 : Cond.initialized "java/lang/IndexOutOfBoundsException" ∈ wsX6_requirePlace := by decide +kernel
  refine zN_of (cc := cX6_requirePlace) (nL := 2) (ret := none) (own := RX6) hlt (by decide +kernel) rfl rfl (Nat.le_of_ble_eq_true rfl) (fun C X Y => ?_)
  show zG C V 1 6 0 [(0, .int (zI (p))), (1, .int (zI (n)))] []
  refine zr_iload_n X 1 0 dX6_requirePlace_0 rfl rfl ?_
  refine zr_if_lt X 9 4 dX6_requirePlace_1 rfl rfl (by first | with_reducible assumption | decide | omega) (fun bq1 => ?_) (fun bq1 => ?_)
  · exact zr_throw X Y 2 (names := ["java/lang/RuntimeException", "java/lang/Exception"]) rfl (by decide +kernel) (by decide +kernel) (by decide) w0 w1 (fun w h => List.mem_cons_of_mem _ (List.mem_append_right _ h)) (by decide +kernel) (by decide +kernel) (by decide +kernel) (by decide) dX6_requirePlace_9 dX6_requirePlace_12 dX6_requirePlace_13 dX6_requirePlace_16 dX6_requirePlace_19 (Nat.le_of_ble_eq_true rfl) (by first | with_reducible assumption | decide | omega) (by first | with_reducible assumption | decide | omega) ⟨rfl, by omega, rfl⟩
  · refine zr_iload_n X 5 0 dX6_requirePlace_4 rfl rfl ?_
    refine zr_iload_n X 6 1 dX6_requirePlace_5 rfl rfl ?_
    refine zr_icmp_lt X 20 9 dX6_requirePlace_6 rfl rfl (by first | with_reducible assumption | decide | omega) (by first | with_reducible assumption | decide | omega) (fun bq2 => ?_) (fun bq2 => ?_)
    · exact zr_vret X rfl ⟨by omega, rfl, rfl⟩ dX6_requirePlace_20
    · exact zr_throw X Y 2 (names := ["java/lang/RuntimeException", "java/lang/Exception"]) rfl (by decide +kernel) (by decide +kernel) (by decide) w0 w1 (fun w h => List.mem_cons_of_mem _ (List.mem_append_right _ h)) (by decide +kernel) (by decide +kernel) (by decide +kernel) (by decide) dX6_requirePlace_9 dX6_requirePlace_12 dX6_requirePlace_13 dX6_requirePlace_16 dX6_requirePlace_19 (Nat.le_of_ble_eq_true rfl) (by first | with_reducible assumption | decide | omega) (by first | with_reducible assumption | decide | omega) ⟨rfl, by omega, rfl⟩
set_option maxRecDepth 100000 in
set_option maxHeartbeats 4000000 in
theorem m_X6_require (l : Launch) (hlt : l.stackTraces = false) (Γ : zGam) {V : zV} {b : Int} (hb : b = 0 ∨ b = 1) : zN l Γ 6 yX6_require wsX6_require 1 6 V [.int (zI (b))] (fun rv V' => b = 1 ∧ rv = none ∧ V' = V) (fun E V' => E = zIA ∧ b = 0 ∧ V' = V) := by
  have w0 : Cond.classLink RX6 313 "java/lang/IllegalArgumentException" ∈ wsX6_require := by decide +kernel
  have w1 : Cond.initialized "java/lang/IllegalArgumentException" ∈ wsX6_require := by decide +kernel
  refine zN_of (cc := cX6_require) (nL := 1) (ret := none) (own := RX6) hlt (by decide +kernel) rfl rfl (Nat.le_of_ble_eq_true rfl) (fun C X Y => ?_)
  show zG C V 1 6 0 [(0, .int (zI (b)))] []
  refine zr_iload_n X 1 0 dX6_require_0 rfl rfl ?_
  refine zr_if_ne X 15 4 dX6_require_1 rfl rfl (by first | with_reducible assumption | decide | omega) (fun bq1 => ?_) (fun bq1 => ?_)
  · exact zr_vret X rfl ⟨by omega, rfl, rfl⟩ dX6_require_15
  · exact zr_throw X Y 3 (names := ["java/lang/RuntimeException", "java/lang/Exception"]) rfl (by decide +kernel) (by decide +kernel) (by decide) w0 w1 (fun w h => List.mem_cons_of_mem _ (List.mem_append_right _ h)) (by decide +kernel) (by decide +kernel) (by decide +kernel) (by decide) dX6_require_4 dX6_require_7 dX6_require_8 dX6_require_11 dX6_require_14 (Nat.le_of_ble_eq_true rfl) (by first | with_reducible assumption | decide | omega) (by first | with_reducible assumption | decide | omega) ⟨rfl, by omega, rfl⟩
set_option maxRecDepth 100000 in
set_option maxHeartbeats 4000000 in
theorem m_X6_requireWithin (l : Launch) (hlt : l.stackTraces = false) (Γ : zGam) {V : zV} {x a b : Int} (hx : -2147483648 ≤ x ∧ x ≤ 2147483647) (ha : -2147483648 ≤ a ∧ a ≤ 2147483647) (hb : -2147483648 ≤ b ∧ b ≤ 2147483647) : zN l Γ 6 yX6_requireWithin wsX6_requireWithin 1 6 V [.int (zI (x)), .int (zI (a)), .int (zI (b))] (fun rv V' => (a ≤ x ∧ x ≤ b) ∧ rv = none ∧ V' = V) (fun E V' => E = zIA ∧ ¬ (a ≤ x ∧ x ≤ b) ∧ V' = V) := by
  have w0 : Cond.classLink RX6 313 "java/lang/IllegalArgumentException" ∈ wsX6_requireWithin := by decide +kernel
  have w1 : Cond.initialized "java/lang/IllegalArgumentException" ∈ wsX6_requireWithin := by decide +kernel
  refine zN_of (cc := cX6_requireWithin) (nL := 3) (ret := none) (own := RX6) hlt (by decide +kernel) rfl rfl (Nat.le_of_ble_eq_true rfl) (fun C X Y => ?_)
  show zG C V 1 6 0 [(0, .int (zI (x))), (1, .int (zI (a))), (2, .int (zI (b)))] []
  refine zr_iload_n X 1 0 dX6_requireWithin_0 rfl rfl ?_
  refine zr_iload_n X 2 1 dX6_requireWithin_1 rfl rfl ?_
  refine zr_icmp_lt X 10 5 dX6_requireWithin_2 rfl rfl (by first | with_reducible assumption | decide | omega) (by first | with_reducible assumption | decide | omega) (fun bq1 => ?_) (fun bq1 => ?_)
  · exact zr_throw X Y 4 (names := ["java/lang/RuntimeException", "java/lang/Exception"]) rfl (by decide +kernel) (by decide +kernel) (by decide) w0 w1 (fun w h => List.mem_cons_of_mem _ (List.mem_append_right _ h)) (by decide +kernel) (by decide +kernel) (by decide +kernel) (by decide) dX6_requireWithin_10 dX6_requireWithin_13 dX6_requireWithin_14 dX6_requireWithin_17 dX6_requireWithin_20 (Nat.le_of_ble_eq_true rfl) (by first | with_reducible assumption | decide | omega) (by first | with_reducible assumption | decide | omega) ⟨rfl, by omega, rfl⟩
  · refine zr_iload_n X 6 0 dX6_requireWithin_5 rfl rfl ?_
    refine zr_iload_n X 7 2 dX6_requireWithin_6 rfl rfl ?_
    refine zr_icmp_le X 21 10 dX6_requireWithin_7 rfl rfl (by first | with_reducible assumption | decide | omega) (by first | with_reducible assumption | decide | omega) (fun bq2 => ?_) (fun bq2 => ?_)
    · exact zr_vret X rfl ⟨by omega, rfl, rfl⟩ dX6_requireWithin_21
    · exact zr_throw X Y 4 (names := ["java/lang/RuntimeException", "java/lang/Exception"]) rfl (by decide +kernel) (by decide +kernel) (by decide) w0 w1 (fun w h => List.mem_cons_of_mem _ (List.mem_append_right _ h)) (by decide +kernel) (by decide +kernel) (by decide +kernel) (by decide) dX6_requireWithin_10 dX6_requireWithin_13 dX6_requireWithin_14 dX6_requireWithin_17 dX6_requireWithin_20 (Nat.le_of_ble_eq_true rfl) (by first | with_reducible assumption | decide | omega) (by first | with_reducible assumption | decide | omega) ⟨rfl, by omega, rfl⟩
set_option maxRecDepth 100000 in
set_option maxHeartbeats 4000000 in
theorem m_X6_requireRoom (l : Launch) (hlt : l.stackTraces = false) (Γ : zGam) {V : zV} {x b : Int} (hx : -2147483648 ≤ x ∧ x ≤ 2147483647) (hb : -2147483648 ≤ b ∧ b ≤ 2147483647) : zN l Γ 6 yX6_requireRoom wsX6_requireRoom 1 6 V [.int (zI (x)), .int (zI (b))] (fun rv V' => x ≤ b ∧ rv = none ∧ V' = V) (fun E V' => E = zIS ∧ ¬ (x ≤ b) ∧ V' = V) := by
  have w0 : Cond.classLink RX6 323 "java/lang/IllegalStateException" ∈ wsX6_requireRoom := by decide +kernel
  have w1 : Cond.initialized "java/lang/IllegalStateException" ∈ wsX6_requireRoom := by decide +kernel
  refine zN_of (cc := cX6_requireRoom) (nL := 2) (ret := none) (own := RX6) hlt (by decide +kernel) rfl rfl (Nat.le_of_ble_eq_true rfl) (fun C X Y => ?_)
  show zG C V 1 6 0 [(0, .int (zI (x))), (1, .int (zI (b)))] []
  refine zr_iload_n X 1 0 dX6_requireRoom_0 rfl rfl ?_
  refine zr_iload_n X 2 1 dX6_requireRoom_1 rfl rfl ?_
  refine zr_icmp_le X 16 5 dX6_requireRoom_2 rfl rfl (by first | with_reducible assumption | decide | omega) (by first | with_reducible assumption | decide | omega) (fun bq1 => ?_) (fun bq1 => ?_)
  · exact zr_vret X rfl ⟨by omega, rfl, rfl⟩ dX6_requireRoom_16
  · exact zr_throw X Y 5 (names := ["java/lang/RuntimeException", "java/lang/Exception"]) rfl (by decide +kernel) (by decide +kernel) (by decide) w0 w1 (fun w h => List.mem_cons_of_mem _ (List.mem_append_right _ h)) (by decide +kernel) (by decide +kernel) (by decide +kernel) (by decide) dX6_requireRoom_5 dX6_requireRoom_8 dX6_requireRoom_9 dX6_requireRoom_12 dX6_requireRoom_15 (Nat.le_of_ble_eq_true rfl) (by first | with_reducible assumption | decide | omega) (by first | with_reducible assumption | decide | omega) ⟨rfl, by omega, rfl⟩
set_option maxRecDepth 100000 in
set_option maxHeartbeats 4000000 in
theorem m_X6_requireLetters (l : Launch) (hlt : l.stackTraces = false) (Γ : zGam) {V : zV} {x k : Int} (hx : -2147483648 ≤ x ∧ x ≤ 2147483647) (hk : -2147483648 ≤ k ∧ k ≤ 2147483647) : zN l Γ 7 yX6_requireLetters wsX6_requireLetters 2 12 V [.int (zI (x)), .int (zI (k))] (fun rv V' => (0 ≤ x ∧ 0 ≤ k ∧ k ≤ 20) ∧ rv = none ∧ V' = V) (fun E V' => E = zIA ∧ ¬ (0 ≤ x ∧ 0 ≤ k ∧ k ≤ 20) ∧ V' = V) := by
  have w0 : Cond.constant RX6 322 (2147483647) ∈ wsX6_requireLetters := by decide +kernel
  refine zN_of (cc := cX6_requireLetters) (nL := 2) (ret := none) (own := RX6) hlt (by decide +kernel) rfl rfl (Nat.le_of_ble_eq_true rfl) (fun C X Y => ?_)
  show zG C V 2 12 0 [(0, .int (zI (x))), (1, .int (zI (k)))] []
  refine zr_iload_n X 1 0 dX6_requireLetters_0 rfl rfl ?_
  refine zr_iconst X 2 dX6_requireLetters_1 rfl ?_
  refine zr_ldcwI X 5 (v := 2147483647) w0 rfl dX6_requireLetters_2 rfl ?_
  refine zr_callSN (kc' := 2 - 1) (ks' := 12 - 6) X Y 8 3 (m_X6_requireWithin l hlt Γ (V := V) (x := x) (a := 0) (b := 2147483647) (by first | with_reducible assumption | decide | omega) (by first | with_reducible assumption | decide | omega) (by first | with_reducible assumption | decide | omega)) gX6_requireLetters_X6_requireWithin rfl (by decide +kernel) rfl (by decide) rfl (Nat.le_of_ble_eq_true rfl) dX6_requireLetters_5 rfl (by first | with_reducible assumption | decide | omega) (by first | with_reducible assumption | decide | omega) (fun E W hX => ⟨hX.1, by have := hX.2.1; omega, hX.2.2⟩) (fun rv1 V2 hp3 => ?_)
  obtain ⟨hp3a, hp3b, hp3c⟩ := hp3
  rw [hp3b, hp3c]
  show zG C V (2 - 1) (12 - 6) 8 [(0, .int (zI (x))), (1, .int (zI (k)))] []
  refine zr_iload_n X 9 1 dX6_requireLetters_8 rfl rfl ?_
  refine zr_iconst X 10 dX6_requireLetters_9 rfl ?_
  refine zr_bipush X 12 (20) dX6_requireLetters_10 rfl (by decide) ?_
  refine zr_callSN (kc' := (2 - 1) - 1) (ks' := (12 - 6) - 6) X Y 15 3 (m_X6_requireWithin l hlt Γ (V := V) (x := k) (a := 0) (b := 20) (by first | with_reducible assumption | decide | omega) (by first | with_reducible assumption | decide | omega) (by first | with_reducible assumption | decide | omega)) gX6_requireLetters_X6_requireWithin rfl (by decide +kernel) rfl (by decide) rfl (Nat.le_of_ble_eq_true rfl) dX6_requireLetters_12 rfl (by first | with_reducible assumption | decide | omega) (by first | with_reducible assumption | decide | omega) (fun E W hX => ⟨hX.1, by have := hX.2.1; omega, hX.2.2⟩) (fun rv4 V5 hp6 => ?_)
  obtain ⟨hp6a, hp6b, hp6c⟩ := hp6
  rw [hp6b, hp6c]
  show zG C V ((2 - 1) - 1) ((12 - 6) - 6) 15 [(0, .int (zI (x))), (1, .int (zI (k)))] []
  exact zr_vret X rfl ⟨by omega, rfl, rfl⟩ dX6_requireLetters_15
set_option maxRecDepth 100000 in
set_option maxHeartbeats 4000000 in
theorem m_X6_isStretch (l : Launch) (Γ : zGam) {V : zV} {a b n : Int} (ha : -2147483648 ≤ a ∧ a ≤ 2147483647) (hb : -2147483648 ≤ b ∧ b ≤ 2147483647) (hn : -2147483648 ≤ n ∧ n ≤ 2147483647) : zM l Γ 0 yX6_isStretch wsX6_isStretch 0 0 V [.int (zI (a)), .int (zI (b)), .int (zI (n))] (fun rv V' => (∃ x : Int, rv = some (.int (zI x)) ∧ ((x = 1 ∧ 0 ≤ a ∧ a ≤ b ∧ b ≤ n) ∨ (x = 0 ∧ ¬ (0 ≤ a ∧ a ≤ b ∧ b ≤ n)))) ∧ V' = V) := by
  refine zM_of (cc := cX6_isStretch) (nL := 3) (ret := (some .boolean)) (own := RX6) (by decide +kernel) rfl rfl (Nat.le_of_ble_eq_true rfl) (fun C X hi0 => ?_)
  show zG C V 0 0 0 [(0, .int (zI (a))), (1, .int (zI (b))), (2, .int (zI (n)))] []
  refine zr_iconst X 1 dX6_isStretch_0 rfl ?_
  refine zr_iload_n X 2 0 dX6_isStretch_1 rfl rfl ?_
  refine zr_icmp_gt X 19 5 dX6_isStretch_2 rfl rfl (by first | with_reducible assumption | decide | omega) (by first | with_reducible assumption | decide | omega) (fun bq1 => ?_) (fun bq1 => ?_)
  · refine zr_iconst X 20 dX6_isStretch_19 rfl ?_
    exact zr_zret X rfl rfl ⟨⟨0, rfl, by omega⟩, rfl⟩ dX6_isStretch_20
  · refine zr_iload_n X 6 0 dX6_isStretch_5 rfl rfl ?_
    refine zr_iload_n X 7 1 dX6_isStretch_6 rfl rfl ?_
    refine zr_icmp_gt X 19 10 dX6_isStretch_7 rfl rfl (by first | with_reducible assumption | decide | omega) (by first | with_reducible assumption | decide | omega) (fun bq2 => ?_) (fun bq2 => ?_)
    · refine zr_iconst X 20 dX6_isStretch_19 rfl ?_
      exact zr_zret X rfl rfl ⟨⟨0, rfl, by omega⟩, rfl⟩ dX6_isStretch_20
    · refine zr_iload_n X 11 1 dX6_isStretch_10 rfl rfl ?_
      refine zr_iload_n X 12 2 dX6_isStretch_11 rfl rfl ?_
      refine zr_icmp_gt X 19 15 dX6_isStretch_12 rfl rfl (by first | with_reducible assumption | decide | omega) (by first | with_reducible assumption | decide | omega) (fun bq3 => ?_) (fun bq3 => ?_)
      · refine zr_iconst X 20 dX6_isStretch_19 rfl ?_
        exact zr_zret X rfl rfl ⟨⟨0, rfl, by omega⟩, rfl⟩ dX6_isStretch_20
      · refine zr_iconst X 16 dX6_isStretch_15 rfl ?_
        refine zr_goto X 20 dX6_isStretch_16 rfl ?_
        exact zr_zret X rfl rfl ⟨⟨1, rfl, by omega⟩, rfl⟩ dX6_isStretch_20
set_option maxRecDepth 100000 in
set_option maxHeartbeats 4000000 in
theorem m_X6_lowestLetter (l : Launch) (Γ : zGam) {V : zV} {x : Int} (hx : 0 ≤ x ∧ x ≤ 2147483647) : zM l Γ 0 yX6_lowestLetter wsX6_lowestLetter 0 0 V [.int (zI (x))] (fun rv V' => rv = some (.int (zI (97 + x % 3))) ∧ V' = V) := by
  refine zM_of (cc := cX6_lowestLetter) (nL := 1) (ret := (some .int)) (own := RX6) (by decide +kernel) rfl rfl (Nat.le_of_ble_eq_true rfl) (fun C X hi0 => ?_)
  show zG C V 0 0 0 [(0, .int (zI (x)))] []
  refine zr_bipush X 2 (97) dX6_lowestLetter_0 rfl (by decide) ?_
  refine zr_iload_n X 3 0 dX6_lowestLetter_2 rfl rfl ?_
  refine zr_iconst X 4 dX6_lowestLetter_3 rfl ?_
  refine zr_irem X 5 dX6_lowestLetter_4 rfl (by first | with_reducible assumption | decide | omega) (by first | with_reducible assumption | decide | omega) ?_
  refine zr_iadd X 6 dX6_lowestLetter_5 rfl ?_
  exact zr_iret X rfl ⟨rfl, rfl⟩ dX6_lowestLetter_6
set_option maxRecDepth 100000 in
set_option maxHeartbeats 4000000 in
theorem m_X6_done (l : Launch) (Γ : zGam) {V : zV} {ad : Nat → Nat} {σ : Nat → Int} {y : Int32} (hS : zS Γ V ad σ) : zM l Γ 0 yX6_done wsX6_done 0 0 V [.ref (ad 1), .int (y)] (fun rv V' => rv = some (.int y) ∧ zS Γ V' ad (zdn σ) ∧ zfx V V') := by
  have w0 : Cond.fieldLink RX6 328 "Sashwords" "actsDone" "I" ∈ wsX6_done := by decide +kernel
  have iX6 : ∀ w ∈ u_ws RX6 TX6 14, w ∈ wsX6_done := by decide +kernel
  refine zM_of (cc := cX6_done) (nL := 2) (ret := (some .int)) (own := RX6) (by decide +kernel) rfl rfl (Nat.le_of_ble_eq_true rfl) (fun C X hi0 => ?_)
  have hx1 : V (ad 1) = some (1, .inr (7, [.ref (ad 2), .ref (ad 20), .ref (ad 22), .ref (ad 24), .ref (ad 16), .ref (ad 31), .ref (ad 33), .ref (ad 35), .ref (ad 40), .ref (ad 45), .int (zI (σ 30)), .int (zI (σ 31)), .int (zI (σ 32)), .int (zI (σ 33))])) := hS.1
  show zG C V 0 0 0 [(0, .ref (ad 1)), (1, .int (y))] []
  refine zr_aload_n X 1 0 dX6_done_0 rfl rfl ?_
  refine zr_dup X 2 dX6_done_1 rfl rfl ?_
  refine zr_get X 5 7 10 hx1 rfl iX6 (by decide) w0 rfl rfl dX6_done_2 rfl ?_
  refine zr_iconst X 6 dX6_done_5 rfl ?_
  refine zr_iadd X 7 dX6_done_6 rfl ?_
  refine zr_put X 10 7 10 [.ref (ad 2), .ref (ad 20), .ref (ad 22), .ref (ad 24), .ref (ad 16), .ref (ad 31), .ref (ad 33), .ref (ad 35), .ref (ad 40), .ref (ad 45), .int (zI ((σ 30) + 1)), .int (zI (σ 31)), .int (zI (σ 32)), .int (zI (σ 33))] tyX6 hx1 rfl iX6 tyX6_ok nmX6 (by decide) w0 rfl rfl rfl rfl (Nat.le_of_ble_eq_true rfl) rfl dX6_done_7 rfl ?_
  refine zr_iload_n X 11 1 dX6_done_10 rfl rfl ?_
  exact zr_iret X rfl ⟨rfl, hS.setX (σ 30 + 1) (σ 31) (σ 32) (σ 33)⟩ dX6_done_11
set_option maxRecDepth 100000 in
set_option maxHeartbeats 4000000 in
theorem m_X6_done_ (l : Launch) (Γ : zGam) {V : zV} {ad : Nat → Nat} {σ : Nat → Int} {y : Nat} (hS : zS Γ V ad σ) : zM l Γ 0 yX6_done_ wsX6_done_ 0 0 V [.ref (ad 1), .ref y] (fun rv V' => rv = some (.ref y) ∧ zS Γ V' ad (zdn σ) ∧ zfx V V') := by
  have w0 : Cond.fieldLink RX6 328 "Sashwords" "actsDone" "I" ∈ wsX6_done_ := by decide +kernel
  have iX6 : ∀ w ∈ u_ws RX6 TX6 14, w ∈ wsX6_done_ := by decide +kernel
  refine zM_of (cc := cX6_done_) (nL := 2) (ret := (some (.object "java/lang/String"))) (own := RX6) (by decide +kernel) rfl rfl (Nat.le_of_ble_eq_true rfl) (fun C X hi0 => ?_)
  have hx1 : V (ad 1) = some (1, .inr (7, [.ref (ad 2), .ref (ad 20), .ref (ad 22), .ref (ad 24), .ref (ad 16), .ref (ad 31), .ref (ad 33), .ref (ad 35), .ref (ad 40), .ref (ad 45), .int (zI (σ 30)), .int (zI (σ 31)), .int (zI (σ 32)), .int (zI (σ 33))])) := hS.1
  show zG C V 0 0 0 [(0, .ref (ad 1)), (1, .ref y)] []
  refine zr_aload_n X 1 0 dX6_done__0 rfl rfl ?_
  refine zr_dup X 2 dX6_done__1 rfl rfl ?_
  refine zr_get X 5 7 10 hx1 rfl iX6 (by decide) w0 rfl rfl dX6_done__2 rfl ?_
  refine zr_iconst X 6 dX6_done__5 rfl ?_
  refine zr_iadd X 7 dX6_done__6 rfl ?_
  refine zr_put X 10 7 10 [.ref (ad 2), .ref (ad 20), .ref (ad 22), .ref (ad 24), .ref (ad 16), .ref (ad 31), .ref (ad 33), .ref (ad 35), .ref (ad 40), .ref (ad 45), .int (zI ((σ 30) + 1)), .int (zI (σ 31)), .int (zI (σ 32)), .int (zI (σ 33))] tyX6 hx1 rfl iX6 tyX6_ok nmX6 (by decide) w0 rfl rfl rfl rfl (Nat.le_of_ble_eq_true rfl) rfl dX6_done__7 rfl ?_
  refine zr_aload_n X 11 1 dX6_done__10 rfl rfl ?_
  exact zr_aret X rfl (Or.inl ⟨_, rfl⟩) ⟨rfl, hS.setX (σ 30 + 1) (σ 31) (σ 32) (σ 33)⟩ dX6_done__11
set_option maxRecDepth 100000 in
set_option maxHeartbeats 4000000 in
theorem m_X6_refused (l : Launch) (Γ : zGam) {V : zV} {ad : Nat → Nat} {σ : Nat → Int} (hS : zS Γ V ad σ) : zM l Γ 0 yX6_refused wsX6_refused 0 0 V [.ref (ad 1)] (fun rv V' => rv = some (.int (zI (-9))) ∧ zS Γ V' ad (zrf σ) ∧ zfx V V') := by
  have w0 : Cond.fieldLink RX6 331 "Sashwords" "actsRefused" "I" ∈ wsX6_refused := by decide +kernel
  have iX6 : ∀ w ∈ u_ws RX6 TX6 14, w ∈ wsX6_refused := by decide +kernel
  refine zM_of (cc := cX6_refused) (nL := 1) (ret := (some .int)) (own := RX6) (by decide +kernel) rfl rfl (Nat.le_of_ble_eq_true rfl) (fun C X hi0 => ?_)
  have hx1 : V (ad 1) = some (1, .inr (7, [.ref (ad 2), .ref (ad 20), .ref (ad 22), .ref (ad 24), .ref (ad 16), .ref (ad 31), .ref (ad 33), .ref (ad 35), .ref (ad 40), .ref (ad 45), .int (zI (σ 30)), .int (zI (σ 31)), .int (zI (σ 32)), .int (zI (σ 33))])) := hS.1
  show zG C V 0 0 0 [(0, .ref (ad 1))] []
  refine zr_aload_n X 1 0 dX6_refused_0 rfl rfl ?_
  refine zr_dup X 2 dX6_refused_1 rfl rfl ?_
  refine zr_get X 5 7 11 hx1 rfl iX6 (by decide) w0 rfl rfl dX6_refused_2 rfl ?_
  refine zr_iconst X 6 dX6_refused_5 rfl ?_
  refine zr_iadd X 7 dX6_refused_6 rfl ?_
  refine zr_put X 10 7 11 [.ref (ad 2), .ref (ad 20), .ref (ad 22), .ref (ad 24), .ref (ad 16), .ref (ad 31), .ref (ad 33), .ref (ad 35), .ref (ad 40), .ref (ad 45), .int (zI (σ 30)), .int (zI ((σ 31) + 1)), .int (zI (σ 32)), .int (zI (σ 33))] tyX6 hx1 rfl iX6 tyX6_ok nmX6 (by decide) w0 rfl rfl rfl rfl (Nat.le_of_ble_eq_true rfl) rfl dX6_refused_7 rfl ?_
  refine zr_bipush X 12 (-9) dX6_refused_10 rfl (by decide) ?_
  exact zr_iret X rfl ⟨rfl, hS.setX (σ 30) (σ 31 + 1) (σ 32) (σ 33)⟩ dX6_refused_12
set_option maxRecDepth 100000 in
set_option maxHeartbeats 4000000 in
theorem m_X6_knock (l : Launch) (Γ : zGam) {V : zV} {ad : Nat → Nat} {σ : Nat → Int} (hS : zS Γ V ad σ) : zM l Γ 0 yX6_knock wsX6_knock 0 0 V [.ref (ad 1)] (fun rv V' => rv = some (.int (zI (σ 32 + 1))) ∧ zS Γ V' ad (zx4 σ (σ 30) (σ 31) (σ 32 + 1) (σ 33)) ∧ zfx V V') := by
  have w0 : Cond.fieldLink RX6 262 "Sashwords" "knocks" "I" ∈ wsX6_knock := by decide +kernel
  have iX6 : ∀ w ∈ u_ws RX6 TX6 14, w ∈ wsX6_knock := by decide +kernel
  refine zM_of (cc := cX6_knock) (nL := 1) (ret := (some .int)) (own := RX6) (by decide +kernel) rfl rfl (Nat.le_of_ble_eq_true rfl) (fun C X hi0 => ?_)
  have hx1 : V (ad 1) = some (1, .inr (7, [.ref (ad 2), .ref (ad 20), .ref (ad 22), .ref (ad 24), .ref (ad 16), .ref (ad 31), .ref (ad 33), .ref (ad 35), .ref (ad 40), .ref (ad 45), .int (zI (σ 30)), .int (zI (σ 31)), .int (zI (σ 32)), .int (zI (σ 33))])) := hS.1
  show zG C V 0 0 0 [(0, .ref (ad 1))] []
  refine zr_aload_n X 1 0 dX6_knock_0 rfl rfl ?_
  refine zr_dup X 2 dX6_knock_1 rfl rfl ?_
  refine zr_get X 5 7 12 hx1 rfl iX6 (by decide) w0 rfl rfl dX6_knock_2 rfl ?_
  refine zr_iconst X 6 dX6_knock_5 rfl ?_
  refine zr_iadd X 7 dX6_knock_6 rfl ?_
  refine zr_put X 10 7 12 [.ref (ad 2), .ref (ad 20), .ref (ad 22), .ref (ad 24), .ref (ad 16), .ref (ad 31), .ref (ad 33), .ref (ad 35), .ref (ad 40), .ref (ad 45), .int (zI (σ 30)), .int (zI (σ 31)), .int (zI ((σ 32) + 1)), .int (zI (σ 33))] tyX6 hx1 rfl iX6 tyX6_ok nmX6 (by decide) w0 rfl rfl rfl rfl (Nat.le_of_ble_eq_true rfl) rfl dX6_knock_7 rfl ?_
  refine zr_aload_n X 11 0 dX6_knock_10 rfl rfl ?_
  refine zr_get X 14 7 12 (zu_eq _ _ _ _) rfl iX6 (by decide) w0 rfl rfl dX6_knock_11 rfl ?_
  exact zr_iret X rfl ⟨rfl, hS.setX (σ 30) (σ 31) (σ 32 + 1) (σ 33)⟩ dX6_knock_14
