/-! the model's constructor -/
def zk0 : Nat → Int := fun j => ([72, 200, 0, 0, 0, 0, 0, 0, 0, 0, 0, 12, 24, 36, 48, 60, 0, 0, 0, 0, -1, -1, -1, -1, -1, -1] : List Int).getD j 0
set_option maxRecDepth 100000 in
set_option maxHeartbeats 4000000 in
theorem m_X8_fresh0 (l : Launch) (Γ : zGam) {V : zV} {x tp wi bu ke se tl tg : Nat} {en sz i1 o1 th n : Int} {f : Nat → Int} (hx : V x = some (60, .inr (9, [.ref tp, .int (zI (en)), .ref wi, .ref bu, .ref ke, .ref se, .int (zI (sz)), .int (zI (i1)), .int (zI (o1)), .ref tl, .int (zI (th))]))) (ht : V tp = some (61, za Γ.2.1 0 200 f)) (hn : 0 ≤ n ∧ 0 ≤ en ∧ en + n ≤ 200) : zM l Γ 2 yX8_fresh wsX8_fresh 1 5 V [.ref x, .int (zI (n))] (fun rv V' => ∃ q : Nat, rv = some (.ref q) ∧ V' x = some (60, .inr (9, [.ref tp, .int (zI (en + n)), .ref wi, .ref bu, .ref ke, .ref se, .int (zI (sz)), .int (zI (i1)), .int (zI (o1)), .ref tl, .int (zI (th))])) ∧ V' q = some (tg, za Γ.2.1 0 5 (zr5 (en + n - n) n n 0 (-1))) ∧ zag (fun t => t ≠ 60) V V') := by
  have w0 : Cond.fieldLink RX8 45 "SashwordsModel" "end" "I" ∈ wsX8_fresh := by decide +kernel
  have iX8 : ∀ w ∈ u_ws RX8 TX8 11, w ∈ wsX8_fresh := by decide +kernel
  have w2 : Cond.fieldLink RX8 7 "SashwordsModel" "tape" "[I" ∈ wsX8_fresh := by decide +kernel
  have w3 : Cond.arrayClass .int ∈ wsX8_fresh := by decide +kernel
  refine zM_of (cc := cX8_fresh) (nL := 3) (ret := (some (.array .int))) (own := RX8) (by decide +kernel) rfl rfl (Nat.le_of_ble_eq_true rfl) (fun C X hi0 => ?_)
  show zG C V 1 5 0 [(0, .ref x), (1, .int (zI (n)))] []
  refine zr_aload_n X 1 0 dX8_fresh_0 rfl rfl ?_
  refine zr_get X 4 9 1 hx rfl iX8 (by decide) w0 rfl rfl dX8_fresh_1 rfl ?_
  refine zr_iload_n X 5 1 dX8_fresh_4 rfl rfl ?_
  refine zr_iadd X 6 dX8_fresh_5 rfl ?_
  refine zr_aload_n X 7 0 dX8_fresh_6 rfl rfl ?_
  refine zr_get X 10 9 0 hx rfl iX8 (by decide) w2 rfl rfl dX8_fresh_7 rfl ?_
  refine zr_alen X 11 0 ht (by decide) dX8_fresh_10 rfl ?_
  refine zr_icmp_le X 44 14 dX8_fresh_11 rfl rfl (by omega) (by omega) (fun bq1 => ?_) (fun bq1 => ?_)
  · refine zr_aload_n X 45 0 dX8_fresh_44 rfl rfl ?_
    refine zr_dup X 46 dX8_fresh_45 rfl rfl ?_
    refine zr_get X 49 9 1 hx rfl iX8 (by decide) w0 rfl rfl dX8_fresh_46 rfl ?_
    refine zr_iload_n X 50 1 dX8_fresh_49 rfl rfl ?_
    refine zr_iadd X 51 dX8_fresh_50 rfl ?_
    refine zr_put X 54 9 1 [.ref tp, .int (zI (en + n)), .ref wi, .ref bu, .ref ke, .ref se, .int (zI (sz)), .int (zI (i1)), .int (zI (o1)), .ref tl, .int (zI (th))] tyX8 hx rfl iX8 tyX8_ok nmX8 (by decide) w0 rfl rfl rfl rfl (Nat.le_of_ble_eq_true rfl) rfl dX8_fresh_51 rfl ?_
    refine zr_iconst X 55 dX8_fresh_54 rfl ?_
    refine zr_newai (kc' := (1 - 1)) (ks' := (5 - (5 : Int).toNat)) X 57 tg w3 (by omega) dX8_fresh_55 rfl (by omega) (by omega) (fun q2 hq3 => ?_)
    show zG C (zu (zu V x 60 (.inr (9, [.ref tp, .int (zI (en + n)), .ref wi, .ref bu, .ref ke, .ref se, .int (zI (sz)), .int (zI (i1)), .int (zI (o1)), .ref tl, .int (zI (th))]))) q2 tg (za Γ.2.1 0 5 (fun _ => 0))) (1 - 1) (5 - (5 : Int).toNat) 57 [(0, .ref x), (1, .int (zI (n)))] [.ref q2]
    refine zr_dup X 58 dX8_fresh_57 rfl rfl ?_
    refine zr_iconst X 59 dX8_fresh_58 rfl ?_
    refine zr_aload_n X 60 0 dX8_fresh_59 rfl rfl ?_
    refine zr_get X 63 9 1 ((zu_ne (zne_new (zu_eq _ _ _ _) hq3)).trans (zu_eq _ _ _ _)) rfl iX8 (by decide) w0 rfl rfl dX8_fresh_60 rfl ?_
    refine zr_iload_n X 64 1 dX8_fresh_63 rfl rfl ?_
    refine zr_isub X 65 dX8_fresh_64 rfl ?_
    refine zr_iast X 66 (zu_eq _ _ _ _) (by omega) dX8_fresh_65 rfl ?_
    refine zr_view (zu_zu _ _ _ _ _ _) ?_
    refine zr_dup X 67 dX8_fresh_66 rfl rfl ?_
    refine zr_iconst X 68 dX8_fresh_67 rfl ?_
    refine zr_iload_n X 69 1 dX8_fresh_68 rfl rfl ?_
    refine zr_iast X 70 (zu_eq _ _ _ _) (by omega) dX8_fresh_69 rfl ?_
    refine zr_view (zu_zu _ _ _ _ _ _) ?_
    refine zr_dup X 71 dX8_fresh_70 rfl rfl ?_
    refine zr_iconst X 72 dX8_fresh_71 rfl ?_
    refine zr_iload_n X 73 1 dX8_fresh_72 rfl rfl ?_
    refine zr_iast X 74 (zu_eq _ _ _ _) (by omega) dX8_fresh_73 rfl ?_
    refine zr_view (zu_zu _ _ _ _ _ _) ?_
    refine zr_dup X 75 dX8_fresh_74 rfl rfl ?_
    refine zr_iconst X 76 dX8_fresh_75 rfl ?_
    refine zr_iconst X 77 dX8_fresh_76 rfl ?_
    refine zr_iast X 78 (zu_eq _ _ _ _) (by omega) dX8_fresh_77 rfl ?_
    refine zr_view (zu_zu _ _ _ _ _ _) ?_
    refine zr_dup X 79 dX8_fresh_78 rfl rfl ?_
    refine zr_iconst X 80 dX8_fresh_79 rfl ?_
    refine zr_iconst X 81 dX8_fresh_80 rfl ?_
    refine zr_iast X 82 (zu_eq _ _ _ _) (by omega) dX8_fresh_81 rfl ?_
    refine zr_view (zu_zu _ _ _ _ _ _) ?_
    refine zr_view zv5_n ?_
    show zG C (zu (zu V x 60 (.inr (9, [.ref tp, .int (zI (en + n)), .ref wi, .ref bu, .ref ke, .ref se, .int (zI (sz)), .int (zI (i1)), .int (zI (o1)), .ref tl, .int (zI (th))]))) q2 tg (za Γ.2.1 0 5 (zr5 ((en + n) - n) n n 0 (-1)))) (1 - 1) (5 - (5 : Int).toNat) 82 [(0, .ref x), (1, .int (zI (n)))] [.ref q2]
    exact zr_aret X rfl (Or.inr ⟨_, rfl⟩) ⟨q2, rfl, ((zu_ne (zne_new (zu_eq _ _ _ _) hq3)).trans (zu_eq _ _ _ _)), (zu_eq _ _ _ _), (zag.rf.set hx (fun z9 => z9 rfl)).new hq3⟩ dX8_fresh_82
  · exfalso
    omega
set_option maxRecDepth 100000 in
set_option maxHeartbeats 4000000 in
theorem m_X8_init (l : Launch) (Γ : zGam) {V : zV} {x : Nat} (hx : V x = some (60, .inr (9, [.null, .int (zI (0)), .null, .null, .null, .null, .int (zI (0)), .int (zI (0)), .int (zI (0)), .null, .int (zI (0))]))) : zM l Γ 4 yX8_init wsX8_init 12 410 V [.ref x] (fun rv V' => rv = none ∧ ∃ (cc md : Nat → Nat) (κ : Nat → Int), cc 60 = x ∧ zMo Γ V' cc md zs0 κ 72 ∧ zfm V V') := by
  have w0 : Cond.methodLink RX8 1 objectInit ∈ wsX8_init := by decide +kernel
  have w1 : Cond.instanceMethod objectInit ∈ wsX8_init := by decide +kernel
  have w2 : Cond.code objectInit ⟨#[0xb1]⟩ 1 none ∈ wsX8_init := by decide +kernel
  have w3 : Cond.arrayClass .int ∈ wsX8_init := by decide +kernel
  have w4 : Cond.fieldLink RX8 7 "SashwordsModel" "tape" "[I" ∈ wsX8_init := by decide +kernel
  have iX8 : ∀ w ∈ u_ws RX8 TX8 11, w ∈ wsX8_init := by decide +kernel
  have w6 : Cond.classLink RX8 13 "[I" ∈ wsX8_init := by decide +kernel
  have w7 : Cond.fieldLink RX8 14 "SashwordsModel" "windows" "[[I" ∈ wsX8_init := by decide +kernel
  have w8 : Cond.fieldLink RX8 18 "SashwordsModel" "built" "[I" ∈ wsX8_init := by decide +kernel
  have w9 : Cond.fieldLink RX8 21 "SashwordsModel" "kept" "[I" ∈ wsX8_init := by decide +kernel
  have w10 : Cond.fieldLink RX8 24 "SashwordsModel" "sent" "[I" ∈ wsX8_init := by decide +kernel
  have w11 : Cond.fieldLink RX8 27 "SashwordsModel" "size" "I" ∈ wsX8_init := by decide +kernel
  have w12 : Cond.fieldLink RX8 31 "SashwordsModel" "tallies" "[I" ∈ wsX8_init := by decide +kernel
  refine zM_of (cc := cX8_init) (nL := 2) (ret := none) (own := RX8) (by decide +kernel) rfl rfl (Nat.le_of_ble_eq_true rfl) (fun C X hi0 => ?_)
  have hi0 := hi0 rfl
  show zG C V 12 410 0 [(0, .ref x)] []
  refine zr_aload_n X 1 0 dX8_init_0 rfl rfl ?_
  refine zr_objInit X 4 hx rfl w0 w1 w2 (by decide) (Nat.le_of_ble_eq_true rfl) dX8_init_1 rfl ?_
  refine zr_aload_n X 5 0 dX8_init_4 rfl rfl ?_
  refine zr_sipush X 8 (200) dX8_init_5 rfl (by decide) ?_
  refine zr_newai (kc' := (12 - 1)) (ks' := (410 - (200 : Int).toNat)) X 10 61 w3 (by omega) dX8_init_8 rfl (by omega) (by omega) (fun q1 hq2 => ?_)
  obtain ⟨iv3V, iv3e⟩ : ∃ zz9 : zV, zz9 = (zu V q1 61 (za Γ.2.1 0 ((200 : Int).toNat) (fun _ => 0))) := ⟨_, rfl⟩
  have iv3f : zag zal V iv3V := by rw [iv3e]; exact zag.rf.new hq2
  have iw4 := iv3f _ _ _ hx trivial
  have fx5 : zfm V iv3V := (iv3f.mono (fun _ _ => trivial))
  have iv3s : iv3V q1 = some (61, za Γ.2.1 0 ((200 : Int).toNat) (fun _ => 0)) := by rw [iv3e]; exact zu_eq _ _ _ _
  refine zr_view (iv3e).symm ?_
  show zG C iv3V (12 - 1) (410 - (200 : Int).toNat) 10 [(0, .ref x)] [.ref q1, .ref x]
  refine zr_put X 13 9 0 [.ref q1, .int (zI (0)), .null, .null, .null, .null, .int (zI (0)), .int (zI (0)), .int (zI (0)), .null, .int (zI (0))] tyX8 iw4 rfl iX8 tyX8_ok nmX8 (by decide) w4 rfl rfl rfl rfl (Nat.le_of_ble_eq_true rfl) rfl dX8_init_10 rfl ?_
  obtain ⟨iv6V, iv6e⟩ : ∃ zz9 : zV, zz9 = (zu iv3V x 60 (.inr (9, [.ref q1, .int (zI (0)), .null, .null, .null, .null, .int (zI (0)), .int (zI (0)), .int (zI (0)), .null, .int (zI (0))]))) := ⟨_, rfl⟩
  have iv6f : zag (fun x => x ≠ 60) iv3V iv6V := by rw [iv6e]; exact zag.one iw4
  have iw7 := iv6f _ _ _ iv3s (by decide)
  have fx8 : zfm V iv6V := zag.tr fx5 (iv6f.mono (fun t ht => by omega))
  have iv6s : iv6V x = some (60, .inr (9, [.ref q1, .int (zI (0)), .null, .null, .null, .null, .int (zI (0)), .int (zI (0)), .int (zI (0)), .null, .int (zI (0))])) := by rw [iv6e]; exact zu_eq _ _ _ _
  refine zr_view (iv6e).symm ?_
  show zG C iv6V (12 - 1) (410 - (200 : Int).toNat) 13 [(0, .ref x)] []
  refine zr_aload_n X 14 0 dX8_init_13 rfl rfl ?_
  refine zr_bipush X 16 (6) dX8_init_14 rfl (by decide) ?_
  refine zr_newI (kc' := ((12 - 1) - 1)) (ks' := ((410 - (200 : Int).toNat) - (6 : Int).toNat)) X 19 62 w6 (by omega) dX8_init_16 rfl (by omega) (by omega) (fun wi hwi => ?_)
  obtain ⟨iv9V, iv9e⟩ : ∃ zz9 : zV, zz9 = (zu iv6V wi 62 (zq Γ.2.1 4 ((6 : Int).toNat) (fun _ => none))) := ⟨_, rfl⟩
  have iv9f : zag zal iv6V iv9V := by rw [iv9e]; exact zag.rf.new hwi
  have iw10 := iv9f _ _ _ iv6s trivial
  have iw11 := iv9f _ _ _ iw7 trivial
  have fx12 : zfm V iv9V := zag.tr fx8 (iv9f.mono (fun _ _ => trivial))
  have iv9s : iv9V wi = some (62, zq Γ.2.1 4 ((6 : Int).toNat) (fun _ => none)) := by rw [iv9e]; exact zu_eq _ _ _ _
  refine zr_view (iv9e).symm ?_
  show zG C iv9V ((12 - 1) - 1) ((410 - (200 : Int).toNat) - (6 : Int).toNat) 19 [(0, .ref x)] [.ref wi, .ref x]
  refine zr_putF X 22 9 2 [.ref q1, .int (zI (0)), .ref wi, .null, .null, .null, .int (zI (0)), .int (zI (0)), .int (zI (0)), .null, .int (zI (0))] tyX8 hi0 iw10 rfl iX8 tyX8_ok nmX8 (by decide) w7 rfl rfl rfl rfl rfl (Nat.le_of_ble_eq_true rfl) rfl dX8_init_19 rfl ?_
  obtain ⟨iv13V, iv13e⟩ : ∃ zz9 : zV, zz9 = (zu iv9V x 60 (.inr (9, [.ref q1, .int (zI (0)), .ref wi, .null, .null, .null, .int (zI (0)), .int (zI (0)), .int (zI (0)), .null, .int (zI (0))]))) := ⟨_, rfl⟩
  have iv13f : zag (fun x => x ≠ 60) iv9V iv13V := by rw [iv13e]; exact zag.one iw10
  have iw14 := iv13f _ _ _ iw11 (by decide)
  have iw15 := iv13f _ _ _ iv9s (by decide)
  have fx16 : zfm V iv13V := zag.tr fx12 (iv13f.mono (fun t ht => by omega))
  have iv13s : iv13V x = some (60, .inr (9, [.ref q1, .int (zI (0)), .ref wi, .null, .null, .null, .int (zI (0)), .int (zI (0)), .int (zI (0)), .null, .int (zI (0))])) := by rw [iv13e]; exact zu_eq _ _ _ _
  refine zr_view (iv13e).symm ?_
  show zG C iv13V ((12 - 1) - 1) ((410 - (200 : Int).toNat) - (6 : Int).toNat) 22 [(0, .ref x)] []
  refine zr_aload_n X 23 0 dX8_init_22 rfl rfl ?_
  refine zr_iconst X 24 dX8_init_23 rfl ?_
  refine zr_newai (kc' := (((12 - 1) - 1) - 1)) (ks' := (((410 - (200 : Int).toNat) - (6 : Int).toNat) - (0 : Int).toNat)) X 26 63 w3 (by omega) dX8_init_24 rfl (by omega) (by omega) (fun q17 hq18 => ?_)
  obtain ⟨iv19V, iv19e⟩ : ∃ zz9 : zV, zz9 = (zu iv13V q17 63 (za Γ.2.1 0 ((0 : Int).toNat) (fun _ => 0))) := ⟨_, rfl⟩
  have iv19f : zag zal iv13V iv19V := by rw [iv19e]; exact zag.rf.new hq18
  have iw20 := iv19f _ _ _ iv13s trivial
  have iw21 := iv19f _ _ _ iw14 trivial
  have iw22 := iv19f _ _ _ iw15 trivial
  have fx23 : zfm V iv19V := zag.tr fx16 (iv19f.mono (fun _ _ => trivial))
  have iv19s : iv19V q17 = some (63, za Γ.2.1 0 ((0 : Int).toNat) (fun _ => 0)) := by rw [iv19e]; exact zu_eq _ _ _ _
  refine zr_view (iv19e).symm ?_
  show zG C iv19V (((12 - 1) - 1) - 1) (((410 - (200 : Int).toNat) - (6 : Int).toNat) - (0 : Int).toNat) 26 [(0, .ref x)] [.ref q17, .ref x]
  refine zr_put X 29 9 3 [.ref q1, .int (zI (0)), .ref wi, .ref q17, .null, .null, .int (zI (0)), .int (zI (0)), .int (zI (0)), .null, .int (zI (0))] tyX8 iw20 rfl iX8 tyX8_ok nmX8 (by decide) w8 rfl rfl rfl rfl (Nat.le_of_ble_eq_true rfl) rfl dX8_init_26 rfl ?_
  obtain ⟨iv24V, iv24e⟩ : ∃ zz9 : zV, zz9 = (zu iv19V x 60 (.inr (9, [.ref q1, .int (zI (0)), .ref wi, .ref q17, .null, .null, .int (zI (0)), .int (zI (0)), .int (zI (0)), .null, .int (zI (0))]))) := ⟨_, rfl⟩
  have iv24f : zag (fun x => x ≠ 60) iv19V iv24V := by rw [iv24e]; exact zag.one iw20
  have iw25 := iv24f _ _ _ iw21 (by decide)
  have iw26 := iv24f _ _ _ iw22 (by decide)
  have iw27 := iv24f _ _ _ iv19s (by decide)
  have fx28 : zfm V iv24V := zag.tr fx23 (iv24f.mono (fun t ht => by omega))
  have iv24s : iv24V x = some (60, .inr (9, [.ref q1, .int (zI (0)), .ref wi, .ref q17, .null, .null, .int (zI (0)), .int (zI (0)), .int (zI (0)), .null, .int (zI (0))])) := by rw [iv24e]; exact zu_eq _ _ _ _
  refine zr_view (iv24e).symm ?_
  show zG C iv24V (((12 - 1) - 1) - 1) (((410 - (200 : Int).toNat) - (6 : Int).toNat) - (0 : Int).toNat) 29 [(0, .ref x)] []
  refine zr_aload_n X 30 0 dX8_init_29 rfl rfl ?_
  refine zr_iconst X 31 dX8_init_30 rfl ?_
  refine zr_newai (kc' := ((((12 - 1) - 1) - 1) - 1)) (ks' := ((((410 - (200 : Int).toNat) - (6 : Int).toNat) - (0 : Int).toNat) - (0 : Int).toNat)) X 33 64 w3 (by omega) dX8_init_31 rfl (by omega) (by omega) (fun q29 hq30 => ?_)
  obtain ⟨iv31V, iv31e⟩ : ∃ zz9 : zV, zz9 = (zu iv24V q29 64 (za Γ.2.1 0 ((0 : Int).toNat) (fun _ => 0))) := ⟨_, rfl⟩
  have iv31f : zag zal iv24V iv31V := by rw [iv31e]; exact zag.rf.new hq30
  have iw32 := iv31f _ _ _ iv24s trivial
  have iw33 := iv31f _ _ _ iw25 trivial
  have iw34 := iv31f _ _ _ iw26 trivial
  have iw35 := iv31f _ _ _ iw27 trivial
  have fx36 : zfm V iv31V := zag.tr fx28 (iv31f.mono (fun _ _ => trivial))
  have iv31s : iv31V q29 = some (64, za Γ.2.1 0 ((0 : Int).toNat) (fun _ => 0)) := by rw [iv31e]; exact zu_eq _ _ _ _
  refine zr_view (iv31e).symm ?_
  show zG C iv31V ((((12 - 1) - 1) - 1) - 1) ((((410 - (200 : Int).toNat) - (6 : Int).toNat) - (0 : Int).toNat) - (0 : Int).toNat) 33 [(0, .ref x)] [.ref q29, .ref x]
  refine zr_put X 36 9 4 [.ref q1, .int (zI (0)), .ref wi, .ref q17, .ref q29, .null, .int (zI (0)), .int (zI (0)), .int (zI (0)), .null, .int (zI (0))] tyX8 iw32 rfl iX8 tyX8_ok nmX8 (by decide) w9 rfl rfl rfl rfl (Nat.le_of_ble_eq_true rfl) rfl dX8_init_33 rfl ?_
  obtain ⟨iv37V, iv37e⟩ : ∃ zz9 : zV, zz9 = (zu iv31V x 60 (.inr (9, [.ref q1, .int (zI (0)), .ref wi, .ref q17, .ref q29, .null, .int (zI (0)), .int (zI (0)), .int (zI (0)), .null, .int (zI (0))]))) := ⟨_, rfl⟩
  have iv37f : zag (fun x => x ≠ 60) iv31V iv37V := by rw [iv37e]; exact zag.one iw32
  have iw38 := iv37f _ _ _ iw33 (by decide)
  have iw39 := iv37f _ _ _ iw34 (by decide)
  have iw40 := iv37f _ _ _ iw35 (by decide)
  have iw41 := iv37f _ _ _ iv31s (by decide)
  have fx42 : zfm V iv37V := zag.tr fx36 (iv37f.mono (fun t ht => by omega))
  have iv37s : iv37V x = some (60, .inr (9, [.ref q1, .int (zI (0)), .ref wi, .ref q17, .ref q29, .null, .int (zI (0)), .int (zI (0)), .int (zI (0)), .null, .int (zI (0))])) := by rw [iv37e]; exact zu_eq _ _ _ _
  refine zr_view (iv37e).symm ?_
  show zG C iv37V ((((12 - 1) - 1) - 1) - 1) ((((410 - (200 : Int).toNat) - (6 : Int).toNat) - (0 : Int).toNat) - (0 : Int).toNat) 36 [(0, .ref x)] []
  refine zr_aload_n X 37 0 dX8_init_36 rfl rfl ?_
  refine zr_sipush X 40 (160) dX8_init_37 rfl (by decide) ?_
  refine zr_newai (kc' := (((((12 - 1) - 1) - 1) - 1) - 1)) (ks' := (((((410 - (200 : Int).toNat) - (6 : Int).toNat) - (0 : Int).toNat) - (0 : Int).toNat) - (160 : Int).toNat)) X 42 65 w3 (by omega) dX8_init_40 rfl (by omega) (by omega) (fun q43 hq44 => ?_)
  obtain ⟨iv45V, iv45e⟩ : ∃ zz9 : zV, zz9 = (zu iv37V q43 65 (za Γ.2.1 0 ((160 : Int).toNat) (fun _ => 0))) := ⟨_, rfl⟩
  have iv45f : zag zal iv37V iv45V := by rw [iv45e]; exact zag.rf.new hq44
  have iw46 := iv45f _ _ _ iv37s trivial
  have iw47 := iv45f _ _ _ iw38 trivial
  have iw48 := iv45f _ _ _ iw39 trivial
  have iw49 := iv45f _ _ _ iw40 trivial
  have iw50 := iv45f _ _ _ iw41 trivial
  have fx51 : zfm V iv45V := zag.tr fx42 (iv45f.mono (fun _ _ => trivial))
  have iv45s : iv45V q43 = some (65, za Γ.2.1 0 ((160 : Int).toNat) (fun _ => 0)) := by rw [iv45e]; exact zu_eq _ _ _ _
  refine zr_view (iv45e).symm ?_
  show zG C iv45V (((((12 - 1) - 1) - 1) - 1) - 1) (((((410 - (200 : Int).toNat) - (6 : Int).toNat) - (0 : Int).toNat) - (0 : Int).toNat) - (160 : Int).toNat) 42 [(0, .ref x)] [.ref q43, .ref x]
  refine zr_putF X 45 9 5 [.ref q1, .int (zI (0)), .ref wi, .ref q17, .ref q29, .ref q43, .int (zI (0)), .int (zI (0)), .int (zI (0)), .null, .int (zI (0))] tyX8 hi0 iw46 rfl iX8 tyX8_ok nmX8 (by decide) w10 rfl rfl rfl rfl rfl (Nat.le_of_ble_eq_true rfl) rfl dX8_init_42 rfl ?_
  obtain ⟨iv52V, iv52e⟩ : ∃ zz9 : zV, zz9 = (zu iv45V x 60 (.inr (9, [.ref q1, .int (zI (0)), .ref wi, .ref q17, .ref q29, .ref q43, .int (zI (0)), .int (zI (0)), .int (zI (0)), .null, .int (zI (0))]))) := ⟨_, rfl⟩
  have iv52f : zag (fun x => x ≠ 60) iv45V iv52V := by rw [iv52e]; exact zag.one iw46
  have iw53 := iv52f _ _ _ iw47 (by decide)
  have iw54 := iv52f _ _ _ iw48 (by decide)
  have iw55 := iv52f _ _ _ iw49 (by decide)
  have iw56 := iv52f _ _ _ iw50 (by decide)
  have iw57 := iv52f _ _ _ iv45s (by decide)
  have fx58 : zfm V iv52V := zag.tr fx51 (iv52f.mono (fun t ht => by omega))
  have iv52s : iv52V x = some (60, .inr (9, [.ref q1, .int (zI (0)), .ref wi, .ref q17, .ref q29, .ref q43, .int (zI (0)), .int (zI (0)), .int (zI (0)), .null, .int (zI (0))])) := by rw [iv52e]; exact zu_eq _ _ _ _
  refine zr_view (iv52e).symm ?_
  show zG C iv52V (((((12 - 1) - 1) - 1) - 1) - 1) (((((410 - (200 : Int).toNat) - (6 : Int).toNat) - (0 : Int).toNat) - (0 : Int).toNat) - (160 : Int).toNat) 45 [(0, .ref x)] []
  refine zr_aload_n X 46 0 dX8_init_45 rfl rfl ?_
  refine zr_iconst X 47 dX8_init_46 rfl ?_
  refine zr_put X 50 9 6 [.ref q1, .int (zI (0)), .ref wi, .ref q17, .ref q29, .ref q43, .int (zI (4)), .int (zI (0)), .int (zI (0)), .null, .int (zI (0))] tyX8 iv52s rfl iX8 tyX8_ok nmX8 (by decide) w11 rfl rfl rfl rfl (Nat.le_of_ble_eq_true rfl) rfl dX8_init_47 rfl ?_
  obtain ⟨iv59V, iv59e⟩ : ∃ zz9 : zV, zz9 = (zu iv52V x 60 (.inr (9, [.ref q1, .int (zI (0)), .ref wi, .ref q17, .ref q29, .ref q43, .int (zI (4)), .int (zI (0)), .int (zI (0)), .null, .int (zI (0))]))) := ⟨_, rfl⟩
  have iv59f : zag (fun x => x ≠ 60) iv52V iv59V := by rw [iv59e]; exact zag.one iv52s
  have iw60 := iv59f _ _ _ iw53 (by decide)
  have iw61 := iv59f _ _ _ iw54 (by decide)
  have iw62 := iv59f _ _ _ iw55 (by decide)
  have iw63 := iv59f _ _ _ iw56 (by decide)
  have iw64 := iv59f _ _ _ iw57 (by decide)
  have fx65 : zfm V iv59V := zag.tr fx58 (iv59f.mono (fun t ht => by omega))
  have iv59s : iv59V x = some (60, .inr (9, [.ref q1, .int (zI (0)), .ref wi, .ref q17, .ref q29, .ref q43, .int (zI (4)), .int (zI (0)), .int (zI (0)), .null, .int (zI (0))])) := by rw [iv59e]; exact zu_eq _ _ _ _
  refine zr_view (iv59e).symm ?_
  show zG C iv59V (((((12 - 1) - 1) - 1) - 1) - 1) (((((410 - (200 : Int).toNat) - (6 : Int).toNat) - (0 : Int).toNat) - (0 : Int).toNat) - (160 : Int).toNat) 50 [(0, .ref x)] []
  refine zr_aload_n X 51 0 dX8_init_50 rfl rfl ?_
  refine zr_iconst X 52 dX8_init_51 rfl ?_
  refine zr_newai (kc' := ((((((12 - 1) - 1) - 1) - 1) - 1) - 1)) (ks' := ((((((410 - (200 : Int).toNat) - (6 : Int).toNat) - (0 : Int).toNat) - (0 : Int).toNat) - (160 : Int).toNat) - (4 : Int).toNat)) X 54 66 w3 (by omega) dX8_init_52 rfl (by omega) (by omega) (fun q66 hq67 => ?_)
  obtain ⟨iv68V, iv68e⟩ : ∃ zz9 : zV, zz9 = (zu iv59V q66 66 (za Γ.2.1 0 ((4 : Int).toNat) (fun _ => 0))) := ⟨_, rfl⟩
  have iv68f : zag zal iv59V iv68V := by rw [iv68e]; exact zag.rf.new hq67
  have iw69 := iv68f _ _ _ iv59s trivial
  have iw70 := iv68f _ _ _ iw60 trivial
  have iw71 := iv68f _ _ _ iw61 trivial
  have iw72 := iv68f _ _ _ iw62 trivial
  have iw73 := iv68f _ _ _ iw63 trivial
  have iw74 := iv68f _ _ _ iw64 trivial
  have fx75 : zfm V iv68V := zag.tr fx65 (iv68f.mono (fun _ _ => trivial))
  have iv68s : iv68V q66 = some (66, za Γ.2.1 0 ((4 : Int).toNat) (fun _ => 0)) := by rw [iv68e]; exact zu_eq _ _ _ _
  refine zr_view (iv68e).symm ?_
  show zG C iv68V ((((((12 - 1) - 1) - 1) - 1) - 1) - 1) ((((((410 - (200 : Int).toNat) - (6 : Int).toNat) - (0 : Int).toNat) - (0 : Int).toNat) - (160 : Int).toNat) - (4 : Int).toNat) 54 [(0, .ref x)] [.ref q66, .ref x]
  refine zr_putF X 57 9 9 [.ref q1, .int (zI (0)), .ref wi, .ref q17, .ref q29, .ref q43, .int (zI (4)), .int (zI (0)), .int (zI (0)), .ref q66, .int (zI (0))] tyX8 hi0 iw69 rfl iX8 tyX8_ok nmX8 (by decide) w12 rfl rfl rfl rfl rfl (Nat.le_of_ble_eq_true rfl) rfl dX8_init_54 rfl ?_
  obtain ⟨iv76V, iv76e⟩ : ∃ zz9 : zV, zz9 = (zu iv68V x 60 (.inr (9, [.ref q1, .int (zI (0)), .ref wi, .ref q17, .ref q29, .ref q43, .int (zI (4)), .int (zI (0)), .int (zI (0)), .ref q66, .int (zI (0))]))) := ⟨_, rfl⟩
  have iv76f : zag (fun x => x ≠ 60) iv68V iv76V := by rw [iv76e]; exact zag.one iw69
  have iw77 := iv76f _ _ _ iw70 (by decide)
  have iw78 := iv76f _ _ _ iw71 (by decide)
  have iw79 := iv76f _ _ _ iw72 (by decide)
  have iw80 := iv76f _ _ _ iw73 (by decide)
  have iw81 := iv76f _ _ _ iw74 (by decide)
  have iw82 := iv76f _ _ _ iv68s (by decide)
  have fx83 : zfm V iv76V := zag.tr fx75 (iv76f.mono (fun t ht => by omega))
  have iv76s : iv76V x = some (60, .inr (9, [.ref q1, .int (zI (0)), .ref wi, .ref q17, .ref q29, .ref q43, .int (zI (4)), .int (zI (0)), .int (zI (0)), .ref q66, .int (zI (0))])) := by rw [iv76e]; exact zu_eq _ _ _ _
  refine zr_view (iv76e).symm ?_
  show zG C iv76V ((((((12 - 1) - 1) - 1) - 1) - 1) - 1) ((((((410 - (200 : Int).toNat) - (6 : Int).toNat) - (0 : Int).toNat) - (0 : Int).toNat) - (160 : Int).toNat) - (4 : Int).toNat) 57 [(0, .ref x)] []
  refine zr_iconst X 58 dX8_init_57 rfl ?_
  refine zr_istore_n X 59 [(1, .int (zI (0))), (0, .ref x)] dX8_init_58 rfl (by decide) rfl ?_
  refine zr_iload_n X 60 0 dX8_init_59 rfl rfl ?_
  refine zr_bipush X 62 (6) dX8_init_60 rfl (by decide) ?_
  refine zr_icmp_ge X 83 65 dX8_init_62 rfl rfl (by omega) (by omega) (fun h84 => absurd h84 (by omega)) (fun h84 => ?_)
  refine zr_aload_n X 66 1 dX8_init_65 rfl rfl ?_
  refine zr_get X 69 9 2 iv76s rfl iX8 (by decide) w7 rfl rfl dX8_init_66 rfl ?_
  refine zr_iload_n X 70 0 dX8_init_69 rfl rfl ?_
  refine zr_aload_n X 71 1 dX8_init_70 rfl rfl ?_
  refine zr_bipush X 73 (12) dX8_init_71 rfl (by decide) ?_
  refine zr_callVe (kc' := ((((((12 - 1) - 1) - 1) - 1) - 1) - 1) - 1) (ks' := ((((((410 - (200 : Int).toNat) - (6 : Int).toNat) - (0 : Int).toNat) - (0 : Int).toNat) - (160 : Int).toNat) - (4 : Int).toNat) - 5) X 76 1 (m_X8_fresh0 l Γ (n := 12) (tg := 70) iv76s iw77 (by omega)) gX8_init_X8_fresh rfl (by decide +kernel) rfl (by decide) ⟨_, _, iv76s⟩ rfl rfl (Nat.le_of_ble_eq_true rfl) dX8_init_73 rfl (by omega) (by omega) (fun rv85 V86 hp87 => ?_)
  obtain ⟨wr0, hp87e, hp87x, hp87w, hp87f⟩ := hp87
  rw [hp87e]
  have hp87y : V86 x = some (60, .inr (9, [.ref q1, .int (zI (12)), .ref wi, .ref q17, .ref q29, .ref q43, .int (zI (4)), .int (zI (0)), .int (zI (0)), .ref q66, .int (zI (0))])) := hp87x
  have hp87z : V86 wr0 = some (70, za Γ.2.1 0 5 (zr5 0 12 12 0 (-1))) := hp87w
  have iw88 := hp87f _ _ _ iw77 (by decide)
  have iw89 := hp87f _ _ _ iw78 (by decide)
  have iw90 := hp87f _ _ _ iw79 (by decide)
  have iw91 := hp87f _ _ _ iw80 (by decide)
  have iw92 := hp87f _ _ _ iw81 (by decide)
  have iw93 := hp87f _ _ _ iw82 (by decide)
  have fx94 : zfm V V86 := zag.tr fx83 (hp87f.mono (fun t ht => by omega))
  show zG C V86 (((((((12 - 1) - 1) - 1) - 1) - 1) - 1) - 1) (((((((410 - (200 : Int).toNat) - (6 : Int).toNat) - (0 : Int).toNat) - (0 : Int).toNat) - (160 : Int).toNat) - (4 : Int).toNat) - 5) 76 [(1, .int (zI (0))), (0, .ref x)] [.ref wr0, .int (zI (0)), .ref wi]
  refine zr_aastI X 77 iw89 hp87z (by omega) dX8_init_76 rfl ?_
  obtain ⟨iv95V, iv95e⟩ : ∃ zz9 : zV, zz9 = (zu V86 wi 62 (zq Γ.2.1 4 ((6 : Int).toNat) (zg (fun _ => none) (0 : Int).toNat wr0))) := ⟨_, rfl⟩
  have iv95f : zag (fun x => x ≠ 62) V86 iv95V := by rw [iv95e]; exact zag.one iw89
  have iw96 := iv95f _ _ _ hp87y (by decide)
  have iw97 := iv95f _ _ _ iw88 (by decide)
  have iw98 := iv95f _ _ _ iw90 (by decide)
  have iw99 := iv95f _ _ _ iw91 (by decide)
  have iw100 := iv95f _ _ _ iw92 (by decide)
  have iw101 := iv95f _ _ _ iw93 (by decide)
  have iw102 := iv95f _ _ _ hp87z (by decide)
  have fx103 : zfm V iv95V := zag.tr fx94 (iv95f.mono (fun t ht => by omega))
  have iv95s : iv95V wi = some (62, zq Γ.2.1 4 ((6 : Int).toNat) (zg (fun _ => none) (0 : Int).toNat wr0)) := by rw [iv95e]; exact zu_eq _ _ _ _
  refine zr_view (iv95e).symm ?_
  show zG C iv95V (((((((12 - 1) - 1) - 1) - 1) - 1) - 1) - 1) (((((((410 - (200 : Int).toNat) - (6 : Int).toNat) - (0 : Int).toNat) - (0 : Int).toNat) - (160 : Int).toNat) - (4 : Int).toNat) - 5) 77 [(1, .int (zI (0))), (0, .ref x)] []
  refine zr_iinc X 80 0 [(1, .int (zI (0 + 1))), (0, .ref x)] dX8_init_77 rfl rfl (by decide) rfl ?_
  show zG C iv95V (((((((12 - 1) - 1) - 1) - 1) - 1) - 1) - 1) (((((((410 - (200 : Int).toNat) - (6 : Int).toNat) - (0 : Int).toNat) - (0 : Int).toNat) - (160 : Int).toNat) - (4 : Int).toNat) - 5) 80 [(1, .int (zI (1))), (0, .ref x)] []
  refine zr_goto X 59 dX8_init_80 rfl ?_
  refine zr_iload_n X 60 0 dX8_init_59 rfl rfl ?_
  refine zr_bipush X 62 (6) dX8_init_60 rfl (by decide) ?_
  refine zr_icmp_ge X 83 65 dX8_init_62 rfl rfl (by omega) (by omega) (fun h104 => absurd h104 (by omega)) (fun h104 => ?_)
  refine zr_aload_n X 66 1 dX8_init_65 rfl rfl ?_
  refine zr_get X 69 9 2 iw96 rfl iX8 (by decide) w7 rfl rfl dX8_init_66 rfl ?_
  refine zr_iload_n X 70 0 dX8_init_69 rfl rfl ?_
  refine zr_aload_n X 71 1 dX8_init_70 rfl rfl ?_
  refine zr_bipush X 73 (12) dX8_init_71 rfl (by decide) ?_
  refine zr_callVe (kc' := (((((((12 - 1) - 1) - 1) - 1) - 1) - 1) - 1) - 1) (ks' := (((((((410 - (200 : Int).toNat) - (6 : Int).toNat) - (0 : Int).toNat) - (0 : Int).toNat) - (160 : Int).toNat) - (4 : Int).toNat) - 5) - 5) X 76 1 (m_X8_fresh0 l Γ (n := 12) (tg := 71) iw96 iw97 (by omega)) gX8_init_X8_fresh rfl (by decide +kernel) rfl (by decide) ⟨_, _, iw96⟩ rfl rfl (Nat.le_of_ble_eq_true rfl) dX8_init_73 rfl (by omega) (by omega) (fun rv105 V106 hp107 => ?_)
  obtain ⟨wr1, hp107e, hp107x, hp107w, hp107f⟩ := hp107
  rw [hp107e]
  have hp107y : V106 x = some (60, .inr (9, [.ref q1, .int (zI (24)), .ref wi, .ref q17, .ref q29, .ref q43, .int (zI (4)), .int (zI (0)), .int (zI (0)), .ref q66, .int (zI (0))])) := hp107x
  have hp107z : V106 wr1 = some (71, za Γ.2.1 0 5 (zr5 12 12 12 0 (-1))) := hp107w
  have iw108 := hp107f _ _ _ iw97 (by decide)
  have iw109 := hp107f _ _ _ iv95s (by decide)
  have iw110 := hp107f _ _ _ iw98 (by decide)
  have iw111 := hp107f _ _ _ iw99 (by decide)
  have iw112 := hp107f _ _ _ iw100 (by decide)
  have iw113 := hp107f _ _ _ iw101 (by decide)
  have iw114 := hp107f _ _ _ iw102 (by decide)
  have fx115 : zfm V V106 := zag.tr fx103 (hp107f.mono (fun t ht => by omega))
  show zG C V106 ((((((((12 - 1) - 1) - 1) - 1) - 1) - 1) - 1) - 1) ((((((((410 - (200 : Int).toNat) - (6 : Int).toNat) - (0 : Int).toNat) - (0 : Int).toNat) - (160 : Int).toNat) - (4 : Int).toNat) - 5) - 5) 76 [(1, .int (zI (1))), (0, .ref x)] [.ref wr1, .int (zI (1)), .ref wi]
  refine zr_aastI X 77 iw109 hp107z (by omega) dX8_init_76 rfl ?_
  obtain ⟨iv116V, iv116e⟩ : ∃ zz9 : zV, zz9 = (zu V106 wi 62 (zq Γ.2.1 4 ((6 : Int).toNat) (zg (zg (fun _ => none) (0 : Int).toNat wr0) (1 : Int).toNat wr1))) := ⟨_, rfl⟩
  have iv116f : zag (fun x => x ≠ 62) V106 iv116V := by rw [iv116e]; exact zag.one iw109
  have iw117 := iv116f _ _ _ hp107y (by decide)
  have iw118 := iv116f _ _ _ iw108 (by decide)
  have iw119 := iv116f _ _ _ iw110 (by decide)
  have iw120 := iv116f _ _ _ iw111 (by decide)
  have iw121 := iv116f _ _ _ iw112 (by decide)
  have iw122 := iv116f _ _ _ iw113 (by decide)
  have iw123 := iv116f _ _ _ iw114 (by decide)
  have iw124 := iv116f _ _ _ hp107z (by decide)
  have fx125 : zfm V iv116V := zag.tr fx115 (iv116f.mono (fun t ht => by omega))
  have iv116s : iv116V wi = some (62, zq Γ.2.1 4 ((6 : Int).toNat) (zg (zg (fun _ => none) (0 : Int).toNat wr0) (1 : Int).toNat wr1)) := by rw [iv116e]; exact zu_eq _ _ _ _
  refine zr_view (iv116e).symm ?_
  show zG C iv116V ((((((((12 - 1) - 1) - 1) - 1) - 1) - 1) - 1) - 1) ((((((((410 - (200 : Int).toNat) - (6 : Int).toNat) - (0 : Int).toNat) - (0 : Int).toNat) - (160 : Int).toNat) - (4 : Int).toNat) - 5) - 5) 77 [(1, .int (zI (1))), (0, .ref x)] []
  refine zr_iinc X 80 0 [(1, .int (zI (1 + 1))), (0, .ref x)] dX8_init_77 rfl rfl (by decide) rfl ?_
  show zG C iv116V ((((((((12 - 1) - 1) - 1) - 1) - 1) - 1) - 1) - 1) ((((((((410 - (200 : Int).toNat) - (6 : Int).toNat) - (0 : Int).toNat) - (0 : Int).toNat) - (160 : Int).toNat) - (4 : Int).toNat) - 5) - 5) 80 [(1, .int (zI (2))), (0, .ref x)] []
  refine zr_goto X 59 dX8_init_80 rfl ?_
  refine zr_iload_n X 60 0 dX8_init_59 rfl rfl ?_
  refine zr_bipush X 62 (6) dX8_init_60 rfl (by decide) ?_
  refine zr_icmp_ge X 83 65 dX8_init_62 rfl rfl (by omega) (by omega) (fun h126 => absurd h126 (by omega)) (fun h126 => ?_)
  refine zr_aload_n X 66 1 dX8_init_65 rfl rfl ?_
  refine zr_get X 69 9 2 iw117 rfl iX8 (by decide) w7 rfl rfl dX8_init_66 rfl ?_
  refine zr_iload_n X 70 0 dX8_init_69 rfl rfl ?_
  refine zr_aload_n X 71 1 dX8_init_70 rfl rfl ?_
  refine zr_bipush X 73 (12) dX8_init_71 rfl (by decide) ?_
  refine zr_callVe (kc' := ((((((((12 - 1) - 1) - 1) - 1) - 1) - 1) - 1) - 1) - 1) (ks' := ((((((((410 - (200 : Int).toNat) - (6 : Int).toNat) - (0 : Int).toNat) - (0 : Int).toNat) - (160 : Int).toNat) - (4 : Int).toNat) - 5) - 5) - 5) X 76 1 (m_X8_fresh0 l Γ (n := 12) (tg := 72) iw117 iw118 (by omega)) gX8_init_X8_fresh rfl (by decide +kernel) rfl (by decide) ⟨_, _, iw117⟩ rfl rfl (Nat.le_of_ble_eq_true rfl) dX8_init_73 rfl (by omega) (by omega) (fun rv127 V128 hp129 => ?_)
  obtain ⟨wr2, hp129e, hp129x, hp129w, hp129f⟩ := hp129
  rw [hp129e]
  have hp129y : V128 x = some (60, .inr (9, [.ref q1, .int (zI (36)), .ref wi, .ref q17, .ref q29, .ref q43, .int (zI (4)), .int (zI (0)), .int (zI (0)), .ref q66, .int (zI (0))])) := hp129x
  have hp129z : V128 wr2 = some (72, za Γ.2.1 0 5 (zr5 24 12 12 0 (-1))) := hp129w
  have iw130 := hp129f _ _ _ iw118 (by decide)
  have iw131 := hp129f _ _ _ iv116s (by decide)
  have iw132 := hp129f _ _ _ iw119 (by decide)
  have iw133 := hp129f _ _ _ iw120 (by decide)
  have iw134 := hp129f _ _ _ iw121 (by decide)
  have iw135 := hp129f _ _ _ iw122 (by decide)
  have iw136 := hp129f _ _ _ iw123 (by decide)
  have iw137 := hp129f _ _ _ iw124 (by decide)
  have fx138 : zfm V V128 := zag.tr fx125 (hp129f.mono (fun t ht => by omega))
  show zG C V128 (((((((((12 - 1) - 1) - 1) - 1) - 1) - 1) - 1) - 1) - 1) (((((((((410 - (200 : Int).toNat) - (6 : Int).toNat) - (0 : Int).toNat) - (0 : Int).toNat) - (160 : Int).toNat) - (4 : Int).toNat) - 5) - 5) - 5) 76 [(1, .int (zI (2))), (0, .ref x)] [.ref wr2, .int (zI (2)), .ref wi]
  refine zr_aastI X 77 iw131 hp129z (by omega) dX8_init_76 rfl ?_
  obtain ⟨iv139V, iv139e⟩ : ∃ zz9 : zV, zz9 = (zu V128 wi 62 (zq Γ.2.1 4 ((6 : Int).toNat) (zg (zg (zg (fun _ => none) (0 : Int).toNat wr0) (1 : Int).toNat wr1) (2 : Int).toNat wr2))) := ⟨_, rfl⟩
  have iv139f : zag (fun x => x ≠ 62) V128 iv139V := by rw [iv139e]; exact zag.one iw131
  have iw140 := iv139f _ _ _ hp129y (by decide)
  have iw141 := iv139f _ _ _ iw130 (by decide)
  have iw142 := iv139f _ _ _ iw132 (by decide)
  have iw143 := iv139f _ _ _ iw133 (by decide)
  have iw144 := iv139f _ _ _ iw134 (by decide)
  have iw145 := iv139f _ _ _ iw135 (by decide)
  have iw146 := iv139f _ _ _ iw136 (by decide)
  have iw147 := iv139f _ _ _ iw137 (by decide)
  have iw148 := iv139f _ _ _ hp129z (by decide)
  have fx149 : zfm V iv139V := zag.tr fx138 (iv139f.mono (fun t ht => by omega))
  have iv139s : iv139V wi = some (62, zq Γ.2.1 4 ((6 : Int).toNat) (zg (zg (zg (fun _ => none) (0 : Int).toNat wr0) (1 : Int).toNat wr1) (2 : Int).toNat wr2)) := by rw [iv139e]; exact zu_eq _ _ _ _
  refine zr_view (iv139e).symm ?_
  show zG C iv139V (((((((((12 - 1) - 1) - 1) - 1) - 1) - 1) - 1) - 1) - 1) (((((((((410 - (200 : Int).toNat) - (6 : Int).toNat) - (0 : Int).toNat) - (0 : Int).toNat) - (160 : Int).toNat) - (4 : Int).toNat) - 5) - 5) - 5) 77 [(1, .int (zI (2))), (0, .ref x)] []
  refine zr_iinc X 80 0 [(1, .int (zI (2 + 1))), (0, .ref x)] dX8_init_77 rfl rfl (by decide) rfl ?_
  show zG C iv139V (((((((((12 - 1) - 1) - 1) - 1) - 1) - 1) - 1) - 1) - 1) (((((((((410 - (200 : Int).toNat) - (6 : Int).toNat) - (0 : Int).toNat) - (0 : Int).toNat) - (160 : Int).toNat) - (4 : Int).toNat) - 5) - 5) - 5) 80 [(1, .int (zI (3))), (0, .ref x)] []
  refine zr_goto X 59 dX8_init_80 rfl ?_
  refine zr_iload_n X 60 0 dX8_init_59 rfl rfl ?_
  refine zr_bipush X 62 (6) dX8_init_60 rfl (by decide) ?_
  refine zr_icmp_ge X 83 65 dX8_init_62 rfl rfl (by omega) (by omega) (fun h150 => absurd h150 (by omega)) (fun h150 => ?_)
  refine zr_aload_n X 66 1 dX8_init_65 rfl rfl ?_
  refine zr_get X 69 9 2 iw140 rfl iX8 (by decide) w7 rfl rfl dX8_init_66 rfl ?_
  refine zr_iload_n X 70 0 dX8_init_69 rfl rfl ?_
  refine zr_aload_n X 71 1 dX8_init_70 rfl rfl ?_
  refine zr_bipush X 73 (12) dX8_init_71 rfl (by decide) ?_
  refine zr_callVe (kc' := (((((((((12 - 1) - 1) - 1) - 1) - 1) - 1) - 1) - 1) - 1) - 1) (ks' := (((((((((410 - (200 : Int).toNat) - (6 : Int).toNat) - (0 : Int).toNat) - (0 : Int).toNat) - (160 : Int).toNat) - (4 : Int).toNat) - 5) - 5) - 5) - 5) X 76 1 (m_X8_fresh0 l Γ (n := 12) (tg := 73) iw140 iw141 (by omega)) gX8_init_X8_fresh rfl (by decide +kernel) rfl (by decide) ⟨_, _, iw140⟩ rfl rfl (Nat.le_of_ble_eq_true rfl) dX8_init_73 rfl (by omega) (by omega) (fun rv151 V152 hp153 => ?_)
  obtain ⟨wr3, hp153e, hp153x, hp153w, hp153f⟩ := hp153
  rw [hp153e]
  have hp153y : V152 x = some (60, .inr (9, [.ref q1, .int (zI (48)), .ref wi, .ref q17, .ref q29, .ref q43, .int (zI (4)), .int (zI (0)), .int (zI (0)), .ref q66, .int (zI (0))])) := hp153x
  have hp153z : V152 wr3 = some (73, za Γ.2.1 0 5 (zr5 36 12 12 0 (-1))) := hp153w
  have iw154 := hp153f _ _ _ iw141 (by decide)
  have iw155 := hp153f _ _ _ iv139s (by decide)
  have iw156 := hp153f _ _ _ iw142 (by decide)
  have iw157 := hp153f _ _ _ iw143 (by decide)
  have iw158 := hp153f _ _ _ iw144 (by decide)
  have iw159 := hp153f _ _ _ iw145 (by decide)
  have iw160 := hp153f _ _ _ iw146 (by decide)
  have iw161 := hp153f _ _ _ iw147 (by decide)
  have iw162 := hp153f _ _ _ iw148 (by decide)
  have fx163 : zfm V V152 := zag.tr fx149 (hp153f.mono (fun t ht => by omega))
  show zG C V152 ((((((((((12 - 1) - 1) - 1) - 1) - 1) - 1) - 1) - 1) - 1) - 1) ((((((((((410 - (200 : Int).toNat) - (6 : Int).toNat) - (0 : Int).toNat) - (0 : Int).toNat) - (160 : Int).toNat) - (4 : Int).toNat) - 5) - 5) - 5) - 5) 76 [(1, .int (zI (3))), (0, .ref x)] [.ref wr3, .int (zI (3)), .ref wi]
  refine zr_aastI X 77 iw155 hp153z (by omega) dX8_init_76 rfl ?_
  obtain ⟨iv164V, iv164e⟩ : ∃ zz9 : zV, zz9 = (zu V152 wi 62 (zq Γ.2.1 4 ((6 : Int).toNat) (zg (zg (zg (zg (fun _ => none) (0 : Int).toNat wr0) (1 : Int).toNat wr1) (2 : Int).toNat wr2) (3 : Int).toNat wr3))) := ⟨_, rfl⟩
  have iv164f : zag (fun x => x ≠ 62) V152 iv164V := by rw [iv164e]; exact zag.one iw155
  have iw165 := iv164f _ _ _ hp153y (by decide)
  have iw166 := iv164f _ _ _ iw154 (by decide)
  have iw167 := iv164f _ _ _ iw156 (by decide)
  have iw168 := iv164f _ _ _ iw157 (by decide)
  have iw169 := iv164f _ _ _ iw158 (by decide)
  have iw170 := iv164f _ _ _ iw159 (by decide)
  have iw171 := iv164f _ _ _ iw160 (by decide)
  have iw172 := iv164f _ _ _ iw161 (by decide)
  have iw173 := iv164f _ _ _ iw162 (by decide)
  have iw174 := iv164f _ _ _ hp153z (by decide)
  have fx175 : zfm V iv164V := zag.tr fx163 (iv164f.mono (fun t ht => by omega))
  have iv164s : iv164V wi = some (62, zq Γ.2.1 4 ((6 : Int).toNat) (zg (zg (zg (zg (fun _ => none) (0 : Int).toNat wr0) (1 : Int).toNat wr1) (2 : Int).toNat wr2) (3 : Int).toNat wr3)) := by rw [iv164e]; exact zu_eq _ _ _ _
  refine zr_view (iv164e).symm ?_
  show zG C iv164V ((((((((((12 - 1) - 1) - 1) - 1) - 1) - 1) - 1) - 1) - 1) - 1) ((((((((((410 - (200 : Int).toNat) - (6 : Int).toNat) - (0 : Int).toNat) - (0 : Int).toNat) - (160 : Int).toNat) - (4 : Int).toNat) - 5) - 5) - 5) - 5) 77 [(1, .int (zI (3))), (0, .ref x)] []
  refine zr_iinc X 80 0 [(1, .int (zI (3 + 1))), (0, .ref x)] dX8_init_77 rfl rfl (by decide) rfl ?_
  show zG C iv164V ((((((((((12 - 1) - 1) - 1) - 1) - 1) - 1) - 1) - 1) - 1) - 1) ((((((((((410 - (200 : Int).toNat) - (6 : Int).toNat) - (0 : Int).toNat) - (0 : Int).toNat) - (160 : Int).toNat) - (4 : Int).toNat) - 5) - 5) - 5) - 5) 80 [(1, .int (zI (4))), (0, .ref x)] []
  refine zr_goto X 59 dX8_init_80 rfl ?_
  refine zr_iload_n X 60 0 dX8_init_59 rfl rfl ?_
  refine zr_bipush X 62 (6) dX8_init_60 rfl (by decide) ?_
  refine zr_icmp_ge X 83 65 dX8_init_62 rfl rfl (by omega) (by omega) (fun h176 => absurd h176 (by omega)) (fun h176 => ?_)
  refine zr_aload_n X 66 1 dX8_init_65 rfl rfl ?_
  refine zr_get X 69 9 2 iw165 rfl iX8 (by decide) w7 rfl rfl dX8_init_66 rfl ?_
  refine zr_iload_n X 70 0 dX8_init_69 rfl rfl ?_
  refine zr_aload_n X 71 1 dX8_init_70 rfl rfl ?_
  refine zr_bipush X 73 (12) dX8_init_71 rfl (by decide) ?_
  refine zr_callVe (kc' := ((((((((((12 - 1) - 1) - 1) - 1) - 1) - 1) - 1) - 1) - 1) - 1) - 1) (ks' := ((((((((((410 - (200 : Int).toNat) - (6 : Int).toNat) - (0 : Int).toNat) - (0 : Int).toNat) - (160 : Int).toNat) - (4 : Int).toNat) - 5) - 5) - 5) - 5) - 5) X 76 1 (m_X8_fresh0 l Γ (n := 12) (tg := 74) iw165 iw166 (by omega)) gX8_init_X8_fresh rfl (by decide +kernel) rfl (by decide) ⟨_, _, iw165⟩ rfl rfl (Nat.le_of_ble_eq_true rfl) dX8_init_73 rfl (by omega) (by omega) (fun rv177 V178 hp179 => ?_)
  obtain ⟨wr4, hp179e, hp179x, hp179w, hp179f⟩ := hp179
  rw [hp179e]
  have hp179y : V178 x = some (60, .inr (9, [.ref q1, .int (zI (60)), .ref wi, .ref q17, .ref q29, .ref q43, .int (zI (4)), .int (zI (0)), .int (zI (0)), .ref q66, .int (zI (0))])) := hp179x
  have hp179z : V178 wr4 = some (74, za Γ.2.1 0 5 (zr5 48 12 12 0 (-1))) := hp179w
  have iw180 := hp179f _ _ _ iw166 (by decide)
  have iw181 := hp179f _ _ _ iv164s (by decide)
  have iw182 := hp179f _ _ _ iw167 (by decide)
  have iw183 := hp179f _ _ _ iw168 (by decide)
  have iw184 := hp179f _ _ _ iw169 (by decide)
  have iw185 := hp179f _ _ _ iw170 (by decide)
  have iw186 := hp179f _ _ _ iw171 (by decide)
  have iw187 := hp179f _ _ _ iw172 (by decide)
  have iw188 := hp179f _ _ _ iw173 (by decide)
  have iw189 := hp179f _ _ _ iw174 (by decide)
  have fx190 : zfm V V178 := zag.tr fx175 (hp179f.mono (fun t ht => by omega))
  show zG C V178 (((((((((((12 - 1) - 1) - 1) - 1) - 1) - 1) - 1) - 1) - 1) - 1) - 1) (((((((((((410 - (200 : Int).toNat) - (6 : Int).toNat) - (0 : Int).toNat) - (0 : Int).toNat) - (160 : Int).toNat) - (4 : Int).toNat) - 5) - 5) - 5) - 5) - 5) 76 [(1, .int (zI (4))), (0, .ref x)] [.ref wr4, .int (zI (4)), .ref wi]
  refine zr_aastI X 77 iw181 hp179z (by omega) dX8_init_76 rfl ?_
  obtain ⟨iv191V, iv191e⟩ : ∃ zz9 : zV, zz9 = (zu V178 wi 62 (zq Γ.2.1 4 ((6 : Int).toNat) (zg (zg (zg (zg (zg (fun _ => none) (0 : Int).toNat wr0) (1 : Int).toNat wr1) (2 : Int).toNat wr2) (3 : Int).toNat wr3) (4 : Int).toNat wr4))) := ⟨_, rfl⟩
  have iv191f : zag (fun x => x ≠ 62) V178 iv191V := by rw [iv191e]; exact zag.one iw181
  have iw192 := iv191f _ _ _ hp179y (by decide)
  have iw193 := iv191f _ _ _ iw180 (by decide)
  have iw194 := iv191f _ _ _ iw182 (by decide)
  have iw195 := iv191f _ _ _ iw183 (by decide)
  have iw196 := iv191f _ _ _ iw184 (by decide)
  have iw197 := iv191f _ _ _ iw185 (by decide)
  have iw198 := iv191f _ _ _ iw186 (by decide)
  have iw199 := iv191f _ _ _ iw187 (by decide)
  have iw200 := iv191f _ _ _ iw188 (by decide)
  have iw201 := iv191f _ _ _ iw189 (by decide)
  have iw202 := iv191f _ _ _ hp179z (by decide)
  have fx203 : zfm V iv191V := zag.tr fx190 (iv191f.mono (fun t ht => by omega))
  have iv191s : iv191V wi = some (62, zq Γ.2.1 4 ((6 : Int).toNat) (zg (zg (zg (zg (zg (fun _ => none) (0 : Int).toNat wr0) (1 : Int).toNat wr1) (2 : Int).toNat wr2) (3 : Int).toNat wr3) (4 : Int).toNat wr4)) := by rw [iv191e]; exact zu_eq _ _ _ _
  refine zr_view (iv191e).symm ?_
  show zG C iv191V (((((((((((12 - 1) - 1) - 1) - 1) - 1) - 1) - 1) - 1) - 1) - 1) - 1) (((((((((((410 - (200 : Int).toNat) - (6 : Int).toNat) - (0 : Int).toNat) - (0 : Int).toNat) - (160 : Int).toNat) - (4 : Int).toNat) - 5) - 5) - 5) - 5) - 5) 77 [(1, .int (zI (4))), (0, .ref x)] []
  refine zr_iinc X 80 0 [(1, .int (zI (4 + 1))), (0, .ref x)] dX8_init_77 rfl rfl (by decide) rfl ?_
  show zG C iv191V (((((((((((12 - 1) - 1) - 1) - 1) - 1) - 1) - 1) - 1) - 1) - 1) - 1) (((((((((((410 - (200 : Int).toNat) - (6 : Int).toNat) - (0 : Int).toNat) - (0 : Int).toNat) - (160 : Int).toNat) - (4 : Int).toNat) - 5) - 5) - 5) - 5) - 5) 80 [(1, .int (zI (5))), (0, .ref x)] []
  refine zr_goto X 59 dX8_init_80 rfl ?_
  refine zr_iload_n X 60 0 dX8_init_59 rfl rfl ?_
  refine zr_bipush X 62 (6) dX8_init_60 rfl (by decide) ?_
  refine zr_icmp_ge X 83 65 dX8_init_62 rfl rfl (by omega) (by omega) (fun h204 => absurd h204 (by omega)) (fun h204 => ?_)
  refine zr_aload_n X 66 1 dX8_init_65 rfl rfl ?_
  refine zr_get X 69 9 2 iw192 rfl iX8 (by decide) w7 rfl rfl dX8_init_66 rfl ?_
  refine zr_iload_n X 70 0 dX8_init_69 rfl rfl ?_
  refine zr_aload_n X 71 1 dX8_init_70 rfl rfl ?_
  refine zr_bipush X 73 (12) dX8_init_71 rfl (by decide) ?_
  refine zr_callVe (kc' := (((((((((((12 - 1) - 1) - 1) - 1) - 1) - 1) - 1) - 1) - 1) - 1) - 1) - 1) (ks' := (((((((((((410 - (200 : Int).toNat) - (6 : Int).toNat) - (0 : Int).toNat) - (0 : Int).toNat) - (160 : Int).toNat) - (4 : Int).toNat) - 5) - 5) - 5) - 5) - 5) - 5) X 76 1 (m_X8_fresh0 l Γ (n := 12) (tg := 75) iw192 iw193 (by omega)) gX8_init_X8_fresh rfl (by decide +kernel) rfl (by decide) ⟨_, _, iw192⟩ rfl rfl (Nat.le_of_ble_eq_true rfl) dX8_init_73 rfl (by omega) (by omega) (fun rv205 V206 hp207 => ?_)
  obtain ⟨wr5, hp207e, hp207x, hp207w, hp207f⟩ := hp207
  rw [hp207e]
  have hp207y : V206 x = some (60, .inr (9, [.ref q1, .int (zI (72)), .ref wi, .ref q17, .ref q29, .ref q43, .int (zI (4)), .int (zI (0)), .int (zI (0)), .ref q66, .int (zI (0))])) := hp207x
  have hp207z : V206 wr5 = some (75, za Γ.2.1 0 5 (zr5 60 12 12 0 (-1))) := hp207w
  have iw208 := hp207f _ _ _ iw193 (by decide)
  have iw209 := hp207f _ _ _ iv191s (by decide)
  have iw210 := hp207f _ _ _ iw194 (by decide)
  have iw211 := hp207f _ _ _ iw195 (by decide)
  have iw212 := hp207f _ _ _ iw196 (by decide)
  have iw213 := hp207f _ _ _ iw197 (by decide)
  have iw214 := hp207f _ _ _ iw198 (by decide)
  have iw215 := hp207f _ _ _ iw199 (by decide)
  have iw216 := hp207f _ _ _ iw200 (by decide)
  have iw217 := hp207f _ _ _ iw201 (by decide)
  have iw218 := hp207f _ _ _ iw202 (by decide)
  have fx219 : zfm V V206 := zag.tr fx203 (hp207f.mono (fun t ht => by omega))
  show zG C V206 ((((((((((((12 - 1) - 1) - 1) - 1) - 1) - 1) - 1) - 1) - 1) - 1) - 1) - 1) ((((((((((((410 - (200 : Int).toNat) - (6 : Int).toNat) - (0 : Int).toNat) - (0 : Int).toNat) - (160 : Int).toNat) - (4 : Int).toNat) - 5) - 5) - 5) - 5) - 5) - 5) 76 [(1, .int (zI (5))), (0, .ref x)] [.ref wr5, .int (zI (5)), .ref wi]
  refine zr_aastI X 77 iw209 hp207z (by omega) dX8_init_76 rfl ?_
  obtain ⟨iv220V, iv220e⟩ : ∃ zz9 : zV, zz9 = (zu V206 wi 62 (zq Γ.2.1 4 ((6 : Int).toNat) (zg (zg (zg (zg (zg (zg (fun _ => none) (0 : Int).toNat wr0) (1 : Int).toNat wr1) (2 : Int).toNat wr2) (3 : Int).toNat wr3) (4 : Int).toNat wr4) (5 : Int).toNat wr5))) := ⟨_, rfl⟩
  have iv220f : zag (fun x => x ≠ 62) V206 iv220V := by rw [iv220e]; exact zag.one iw209
  have iw221 := iv220f _ _ _ hp207y (by decide)
  have iw222 := iv220f _ _ _ iw208 (by decide)
  have iw223 := iv220f _ _ _ iw210 (by decide)
  have iw224 := iv220f _ _ _ iw211 (by decide)
  have iw225 := iv220f _ _ _ iw212 (by decide)
  have iw226 := iv220f _ _ _ iw213 (by decide)
  have iw227 := iv220f _ _ _ iw214 (by decide)
  have iw228 := iv220f _ _ _ iw215 (by decide)
  have iw229 := iv220f _ _ _ iw216 (by decide)
  have iw230 := iv220f _ _ _ iw217 (by decide)
  have iw231 := iv220f _ _ _ iw218 (by decide)
  have iw232 := iv220f _ _ _ hp207z (by decide)
  have fx233 : zfm V iv220V := zag.tr fx219 (iv220f.mono (fun t ht => by omega))
  have iv220s : iv220V wi = some (62, zq Γ.2.1 4 ((6 : Int).toNat) (zg (zg (zg (zg (zg (zg (fun _ => none) (0 : Int).toNat wr0) (1 : Int).toNat wr1) (2 : Int).toNat wr2) (3 : Int).toNat wr3) (4 : Int).toNat wr4) (5 : Int).toNat wr5)) := by rw [iv220e]; exact zu_eq _ _ _ _
  refine zr_view (iv220e).symm ?_
  show zG C iv220V ((((((((((((12 - 1) - 1) - 1) - 1) - 1) - 1) - 1) - 1) - 1) - 1) - 1) - 1) ((((((((((((410 - (200 : Int).toNat) - (6 : Int).toNat) - (0 : Int).toNat) - (0 : Int).toNat) - (160 : Int).toNat) - (4 : Int).toNat) - 5) - 5) - 5) - 5) - 5) - 5) 77 [(1, .int (zI (5))), (0, .ref x)] []
  refine zr_iinc X 80 0 [(1, .int (zI (5 + 1))), (0, .ref x)] dX8_init_77 rfl rfl (by decide) rfl ?_
  show zG C iv220V ((((((((((((12 - 1) - 1) - 1) - 1) - 1) - 1) - 1) - 1) - 1) - 1) - 1) - 1) ((((((((((((410 - (200 : Int).toNat) - (6 : Int).toNat) - (0 : Int).toNat) - (0 : Int).toNat) - (160 : Int).toNat) - (4 : Int).toNat) - 5) - 5) - 5) - 5) - 5) - 5) 80 [(1, .int (zI (6))), (0, .ref x)] []
  refine zr_goto X 59 dX8_init_80 rfl ?_
  refine zr_iload_n X 60 0 dX8_init_59 rfl rfl ?_
  refine zr_bipush X 62 (6) dX8_init_60 rfl (by decide) ?_
  refine zr_icmp_ge X 83 65 dX8_init_62 rfl rfl (by omega) (by omega) (fun h234 => ?_) (fun h234 => absurd (show (6 : Int) ≥ 6 by omega) h234)
  obtain ⟨md, mde⟩ : ∃ z9 : Nat → Nat, z9 = (fun t => if t = 61 then q1 else if t = 63 then q17 else if t = 64 then q29 else if t = 70 then wr0 else if t = 71 then wr1 else if t = 72 then wr2 else if t = 73 then wr3 else if t = 74 then wr4 else if t = 75 then wr5 else 0) := ⟨_, rfl⟩
  obtain ⟨cc, cce⟩ : ∃ z9 : Nat → Nat, z9 = (fun t => if t = 60 then x else if t = 62 then wi else if t = 65 then q43 else q66) := ⟨_, rfl⟩
  have md61 : md 61 = q1 := by rw [mde]; rfl
  have md63 : md 63 = q17 := by rw [mde]; rfl
  have md64 : md 64 = q29 := by rw [mde]; rfl
  have md70 : md 70 = wr0 := by rw [mde]; rfl
  have md71 : md 71 = wr1 := by rw [mde]; rfl
  have md72 : md 72 = wr2 := by rw [mde]; rfl
  have md73 : md 73 = wr3 := by rw [mde]; rfl
  have md74 : md 74 = wr4 := by rw [mde]; rfl
  have md75 : md 75 = wr5 := by rw [mde]; rfl
  have cc60 : cc 60 = x := by rw [cce]; rfl
  have cc62 : cc 62 = wi := by rw [cce]; rfl
  have cc65 : cc 65 = q43 := by rw [cce]; rfl
  have cc66 : cc 66 = q66 := by rw [cce]; rfl
  refine zr_same X (fun i => some (md (70 + i))) iv220s (fun i hi => by
    rcases (by omega : i = 0 ∨ i = 1 ∨ i = 2 ∨ i = 3 ∨ i = 4 ∨ i = 5) with rfl | rfl | rfl | rfl | rfl | rfl
    · exact congrArg some md70.symm
    · exact congrArg some md71.symm
    · exact congrArg some md72.symm
    · exact congrArg some md73.symm
    · exact congrArg some md74.symm
    · exact congrArg some md75.symm) ?_
  obtain ⟨iv235V, iv235e⟩ : ∃ zz9 : zV, zz9 = (zu iv220V wi 62 (zq Γ.2.1 4 ((6 : Int).toNat) (fun i => some (md (70 + i))))) := ⟨_, rfl⟩
  have iv235f : zag (fun x => x ≠ 62) iv220V iv235V := by rw [iv235e]; exact zag.one iv220s
  have iw236 := iv235f _ _ _ iw221 (by decide)
  have iw237 := iv235f _ _ _ iw222 (by decide)
  have iw238 := iv235f _ _ _ iw223 (by decide)
  have iw239 := iv235f _ _ _ iw224 (by decide)
  have iw240 := iv235f _ _ _ iw225 (by decide)
  have iw241 := iv235f _ _ _ iw226 (by decide)
  have iw242 := iv235f _ _ _ iw227 (by decide)
  have iw243 := iv235f _ _ _ iw228 (by decide)
  have iw244 := iv235f _ _ _ iw229 (by decide)
  have iw245 := iv235f _ _ _ iw230 (by decide)
  have iw246 := iv235f _ _ _ iw231 (by decide)
  have iw247 := iv235f _ _ _ iw232 (by decide)
  have fx248 : zfm V iv235V := zag.tr fx233 (iv235f.mono (fun t ht => by omega))
  have iv235s : iv235V wi = some (62, zq Γ.2.1 4 ((6 : Int).toNat) (fun i => some (md (70 + i)))) := by rw [iv235e]; exact zu_eq _ _ _ _
  refine zr_view (iv235e).symm ?_
  show zG C iv235V ((((((((((((12 - 1) - 1) - 1) - 1) - 1) - 1) - 1) - 1) - 1) - 1) - 1) - 1) ((((((((((((410 - (200 : Int).toNat) - (6 : Int).toNat) - (0 : Int).toNat) - (0 : Int).toNat) - (160 : Int).toNat) - (4 : Int).toNat) - 5) - 5) - 5) - 5) - 5) - 5) 83 [(1, .int (zI (6))), (0, .ref x)] []
  have z1 : zTm iv235V cc md zs0 zk0 := by
    unfold zTm zMc
    rw [cc60, cc62, cc65, cc66, md61, md63, md64]
    exact iw236
  have z2 : zTi Γ iv235V cc md := by
    unfold zTi
    rw [cc62]
    exact iv235s
  have z3 : zTw Γ iv235V md zs0 zk0 := by
    intro i hi
    rcases (by omega : i = 0 ∨ i = 1 ∨ i = 2 ∨ i = 3 ∨ i = 4 ∨ i = 5) with rfl | rfl | rfl | rfl | rfl | rfl
    · exact ⟨by rw [show md (70 + 0) = wr0 from md70]; exact iw242, by decide, by decide, by decide, by decide, by decide, by decide, by decide, by decide⟩
    · exact ⟨by rw [show md (70 + 1) = wr1 from md71]; exact iw243, by decide, by decide, by decide, by decide, by decide, by decide, by decide, by decide⟩
    · exact ⟨by rw [show md (70 + 2) = wr2 from md72]; exact iw244, by decide, by decide, by decide, by decide, by decide, by decide, by decide, by decide⟩
    · exact ⟨by rw [show md (70 + 3) = wr3 from md73]; exact iw245, by decide, by decide, by decide, by decide, by decide, by decide, by decide, by decide⟩
    · exact ⟨by rw [show md (70 + 4) = wr4 from md74]; exact iw246, by decide, by decide, by decide, by decide, by decide, by decide, by decide, by decide⟩
    · exact ⟨by rw [show md (70 + 5) = wr5 from md75]; exact iw247, by decide, by decide, by decide, by decide, by decide, by decide, by decide, by decide⟩
  have y61 : zAr Γ iv235V 61 (md 61) 200 := ⟨fun _ => 0, by rw [md61]; exact iw237, z0c⟩
  have y63 : zAr Γ iv235V 63 (md 63) 0 := ⟨fun _ => 0, by rw [md63]; exact iw238, z0c⟩
  have y64 : zAr Γ iv235V 64 (md 64) 0 := ⟨fun _ => 0, by rw [md64]; exact iw239, z0c⟩
  have y65 : zAr Γ iv235V 65 (cc 65) 160 := ⟨fun _ => 0, by rw [cc65]; exact iw240, z0c⟩
  have zk : zMk Γ iv235V md zs0 zk0 := by
    refine ⟨⟨fun _ => 0, by rw [md61]; exact iw237, z0c, fun a _ => (zs0_hi (by omega)).symm⟩, fun a _ => zs0_hi (by omega), ⟨by decide, fun i hi => ?_⟩, ⟨fun _ => 0, by rw [md63]; exact iw238, z0c, fun k _ hk => absurd (show k < 0 from hk) (by omega)⟩, ⟨fun _ => 0, by rw [md64]; exact iw239, z0c, fun k _ hk => absurd (show k < 0 from hk) (by omega)⟩⟩
    rcases (by omega : i = 0 ∨ i = 1 ∨ i = 2 ∨ i = 3 ∨ i = 4 ∨ i = 5) with rfl | rfl | rfl | rfl | rfl | rfl <;> decide
  have y66 : zTl Γ iv235V (cc 66) zs0 := ⟨fun _ => 0, by rw [cc66]; exact iw241, rfl, rfl, rfl, rfl⟩
  exact zr_vret X rfl ⟨rfl, cc, md, zk0, cc60, ⟨z1, y61, z2, z3, y63, y64, y65, y66, (show zTn zs0 zk0 72 by unfold zTn; decide), zk⟩, fx248⟩ dX8_init_83
