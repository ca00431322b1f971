/-! The layer: a view of the heap, a judgement over it, a row an instruction. -/
abbrev zV0 : Type := Nat → Option va_E
/-- a view of the heap: what lies at an address, and a mark of ours: whose it is -/
abbrev zV : Type := Nat → Option (Nat × va_E)
def zd (V : zV) : zV0 := fun a => (V a).map Prod.snd
def zu (V : zV) (a t : Nat) (e : va_E) : zV := fun b => if b = a then some (t, e) else V b
def zI (z : Int) : Int32 := Int32.ofInt z
theorem zu_eq (V : zV) (a t : Nat) (e : va_E) : zu V a t e a = some (t, e) := by simp [zu]
theorem zu_ne {V : zV} {a t : Nat} {e : va_E} {b : Nat} (h : b ≠ a) : zu V a t e b = V b := by simp [zu, h]
def zu0 (V : zV0) (a : Nat) (e : va_E) : zV0 := fun b => if b = a then some e else V b
theorem zu0_eq (V : zV0) (a : Nat) (e : va_E) : zu0 V a e a = some e := by simp [zu0]
theorem zu0_ne {V : zV0} {a : Nat} {e : va_E} {b : Nat} (h : b ≠ a) : zu0 V a e b = V b := by simp [zu0, h]
theorem zd_zu (V : zV) (a t : Nat) (e : va_E) : zd (zu V a t e) = zu0 (zd V) a e := by
  funext b
  unfold zd zu zu0
  by_cases h : b = a <;> simp [h]
theorem zd_of {V : zV} {a t : Nat} {e : va_E} (h : V a = some (t, e)) : zd V a = some e := by simp [zd, h]
theorem zd_none {V : zV} {a : Nat} (h : V a = none) : zd V a = none := by simp [zd, h]
def zL (V : zV0) (ws : va_W) : Prop := ∀ (a : Nat) (e : va_E), V a = some e ↔ ∃ k : Nat, ws[k]? = some (a, e)
abbrev zGam : Type := va_G × (Nat → ClassId) × (Nat → Nat) × Nat
def zA (B0 : Nat) : Nat → Prop := fun q => B0 ≤ q
def zt (aC : Nat → ClassId) : List (ClassId × FieldType) := [(aC 0, .int), (aC 1, .char), (aC 2, .byte), (aC 3, .object RX5), (aC 4, .array .int)]
def zH (Γ : zGam) (V : zV) (H : Heap) : Prop := ∃ ws : va_W, zL (zd V) ws ∧ va_P Γ.1 vwCl ws H ∧ va_D (zA Γ.2.2.2) ws
theorem zL.set {A : Nat → Prop} {V : zV0} {ws : va_W} {k a : Nat} {e0 e : va_E} (h : zL V ws) (hD : va_D A ws) (hk : ws[k]? = some (a, e0)) : zL (zu0 V a e) (ws.set k (a, e)) := by
  have hl := (List.getElem?_eq_some_iff.mp hk).1
  intro b e1
  by_cases hb : b = a
  · subst hb
    rw [zu0_eq]
    constructor
    · intro h1
      cases h1
      exact ⟨k, by rw [List.getElem?_set_self hl]⟩
    · rintro ⟨j, hj⟩
      by_cases hjk : j = k
      · subst hjk
        rw [List.getElem?_set_self hl] at hj
        cases hj
        rfl
      · rw [List.getElem?_set_ne (Ne.symm hjk)] at hj
        exact absurd (hD.1 j k _ _ hj hk rfl) hjk
  · rw [zu0_ne hb, h b e1]
    constructor
    · rintro ⟨j, hj⟩
      have hjk : j ≠ k := by
        intro q
        subst q
        rw [hk] at hj
        cases hj
        exact hb rfl
      exact ⟨j, by rw [List.getElem?_set_ne (Ne.symm hjk)]; exact hj⟩
    · rintro ⟨j, hj⟩
      have hjk : j ≠ k := by
        intro q
        subst q
        rw [List.getElem?_set_self hl] at hj
        cases hj
        exact hb rfl
      rw [List.getElem?_set_ne (Ne.symm hjk)] at hj
      exact ⟨j, hj⟩
theorem zL.push {V : zV0} {ws : va_W} {a : Nat} {e : va_E} (h : zL V ws) (ha : V a = none) : zL (zu0 V a e) (ws ++ [(a, e)]) := by
  intro b e1
  by_cases hb : b = a
  · subst hb
    rw [zu0_eq]
    constructor
    · intro h1
      cases h1
      exact ⟨ws.length, by simp⟩
    · rintro ⟨j, hj⟩
      rcases List.mem_append.mp (List.mem_of_getElem? hj) with h1 | h1
      · obtain ⟨i, hi⟩ := List.getElem?_of_mem h1
        have h2 := (h b e1).mpr ⟨i, hi⟩
        rw [ha] at h2
        cases h2
      · simp at h1
        rw [h1]
  · rw [zu0_ne hb, h b e1]
    constructor
    · rintro ⟨j, hj⟩
      have hl := (List.getElem?_eq_some_iff.mp hj).1
      exact ⟨j, by rw [List.getElem?_append_left hl]; exact hj⟩
    · rintro ⟨j, hj⟩
      rcases List.mem_append.mp (List.mem_of_getElem? hj) with h1 | h1
      · obtain ⟨i, hi⟩ := List.getElem?_of_mem h1
        exact ⟨i, hi⟩
      · simp at h1
        exact absurd h1.1 hb
theorem zH.lt {Γ : zGam} {V : zV} {H : Heap} (h : zH Γ V H) {a t : Nat} {e : va_E} (ha : V a = some (t, e)) : Γ.2.2.2 ≤ a ∧ a < H.size := by
  obtain ⟨ws, hL, hP, hD⟩ := h
  obtain ⟨k, hk⟩ := (hL a e).mp (zd_of ha)
  exact ⟨hD.2 k _ hk, (hP k _ hk).lt⟩
theorem zH.fresh {Γ : zGam} {V : zV} {H : Heap} (h : zH Γ V H) : V H.size = none := by
  cases hv : V H.size with
  | none => rfl
  | some e => exact absurd (h.lt hv).2 (Nat.lt_irrefl _)
/-- the texts of the exceptions, by their places in the pool of the class -/
def zstr : List (String × Nat × String) := [(RX6, 304, "a window is 0 to 5"), (RX6, 309, "a source is 0 to 7"), (RX6, 311, "no such place in the builder"), (RX6, 315, "the arguments do not fit together"), (RX6, 318, "a number is outside its bounds"), (RX6, 325, "there is no room for so many signs"), (RX8, 109, "")]
/-- words of the throws that are not carried by the methods' own lists -/
def zx (U : State) : Prop := ∀ X ∈ (["java/lang/IndexOutOfBoundsException", "java/lang/IllegalArgumentException", "java/lang/IllegalStateException"] : List String), va_Nw (.castable X X) U
def zxn : List (String × String) := [("java/lang/IllegalArgumentException", "java/lang/IndexOutOfBoundsException"), ("java/lang/IllegalStateException", "java/lang/IndexOutOfBoundsException"), ("java/lang/IllegalStateException", "java/lang/IllegalArgumentException")]
def zxf : List (String × Nat × String × String × String × String) := [("Sashwords", 183, "Sashwords$Pipe", "holds", "LSashwords$Script;", "Sashwords"), ("Sashwords", 196, "Sashwords$Pipe", "sent", "LSashwords$Script;", "Sashwords"), ("Sashwords", 256, "Sashwords$Pipe", "came", "LSashwords$Script;", "Sashwords"), ("Sashwords", 153, "Sashwords$Window", "capacity", "I", "Sashwords"), ("Sashwords", 144, "Sashwords$Window", "limit", "I", "Sashwords"), ("Sashwords", 134, "Sashwords$Window", "position", "I", "Sashwords"), ("Sashwords", 138, "Sashwords$Window", "mark", "I", "Sashwords"), ("Sashwords", 246, "Sashwords$Borders", "links", "I", "Sashwords"), ("Sashwords", 227, "Sashwords$Seeker", "many", "I", "Sashwords"), ("SashwordsLaw", 13, "SashwordsLaw$Out", "n", "J", "SashwordsLaw"), ("SashwordsLaw", 51, "SashwordsLaw$Out", "s", "Ljava/lang/String;", "SashwordsLaw")]
def zxm : List (String × Nat × MethodName × String) := [("Sashwords$Script", 3, ⟨"Sashwords$Text", "<init>", "()V"⟩, "Sashwords"), ("Sashwords", 29, ⟨"Sashwords$Pipe", "<init>", "()V"⟩, "Sashwords"), ("Sashwords$Window", 3, ⟨"Sashwords$Text", "<init>", "()V"⟩, "Sashwords"), ("Sashwords", 47, ⟨"Sashwords$Seeker", "<init>", "()V"⟩, "Sashwords"), ("Sashwords$Seeker", 11, ⟨"Sashwords$Borders", "<init>", "()V"⟩, "Sashwords"), ("Sashwords", 57, ⟨"Sashwords$Borders", "<init>", "()V"⟩, "Sashwords"), ("Sashwords$Pipe", 47, ⟨"Sashwords", "matches", "(LSashwords$Text;IILSashwords$Text;I)Z"⟩, "Sashwords"), ("SashwordsLaw", 169, ⟨"SashwordsLaw$Out", "<init>", "()V"⟩, "SashwordsLaw")]
/-- an array of int arrays can be made -/
def zAO2 (U : State) : Prop := (Cond.arrayOver (.array .int)).before #[] U = true
theorem zAO2.moved {u U : State} (hvm : u.vm.Alike U.vm) (h : zAO2 u) : zAO2 U := by
  obtain ⟨comp, c, k, h1, h2, h3, h4, h5⟩ := arrayOverA_spec h
  obtain ⟨k', hk', he⟩ := hvm.2.2 _ _ h3
  have hi : (U.vm.classes.findIdx? fun (x : Class) => match x.kind with | .array component _ => component == comp | _ => false) = some c := by
    have e1 := va_idx_bare U.vm comp
    have e2 := va_idx_bare u.vm comp
    first
      | (rw [hvm.bare_eq] at e2; exact e1.symm.trans (e2.trans h2))
      | (rw [← hvm.bare_eq] at e2; exact e1.symm.trans (e2.trans h2))
  have hkind : k'.kind = .array comp (.array .int) := by rw [he]; exact h4
  have f1 : U.vm.findClass (FieldType.array .int).toString = some comp := by rw [hvm.findClass]; exact h1
  have f2 : U.vm.findClass ("[" ++ (FieldType.array .int).toString) = some c := by rw [hvm.findClass]; exact h5
  unfold zAO2 Cond.before Cond.holds
  simp only [Cond.value]
  rw [f1, Option.bind_some]
  refine (congrArg (fun o : Option Nat => (o.bind (fun c => (U.vm.classes[c]?).map fun (k : Class) => match k.kind with | .array _ ty => decide (ty = FieldType.array .int) && decide (U.vm.findClass ("[" ++ (FieldType.array .int).toString) = some c) | _ => false) == some true)) hi).trans ?_
  simp [hk', hkind, f2]
/-- the table of a hundred digits at the address of place i, and the static that holds it -/
def zDg (Γ : zGam) (i : Nat) (nm : String) (U : State) (H : Heap) : Prop := va_Z "java/lang/Integer" nm "[B" (.ref (Γ.2.2.1 i)) (zA Γ.2.2.2) U H ∧ ∃ f : Nat → Int, (∀ j, 48 ≤ f j ∧ f j ≤ 57) ∧ va_T .byte (Γ.2.2.1 i) 100 (fun j => .int (zI (f j))) (zA Γ.2.2.2) U H
theorem zDg.moved {Γ : zGam} {i : Nat} {nm : String} {u U : State} {H : Heap} (hvm : u.vm.Alike U.vm) (h : zDg Γ i nm u H) : zDg Γ i nm U H := by
  obtain ⟨h1, f, h2, h3⟩ := h
  exact ⟨va_Z.moved hvm h1, f, h2, va_T.moved hvm h3⟩
theorem zDg.kept {Γ : zGam} {i : Nat} {nm : String} {U : State} {H H1 : Heap} (hq : ∀ a : Nat, a < H.size → ¬ zA Γ.2.2.2 a → H1[a]? = H[a]?) (h : zDg Γ i nm U H) : zDg Γ i nm U H1 := by
  obtain ⟨h1, f, h2, h3⟩ := h
  exact ⟨h1.kept hq, f, h2, h3.kept hq⟩
def zxd : List MethodName := [⟨"Sashwords$Text", "size", "()I"⟩, ⟨"Sashwords$Text", "at", "(I)I"⟩, ⟨"java/lang/RuntimeException", "<init>", "(Ljava/lang/String;)V"⟩, ⟨"java/lang/Exception", "<init>", "(Ljava/lang/String;)V"⟩, ⟨"java/lang/Throwable", "<init>", "(Ljava/lang/String;)V"⟩]
def zO (Γ : zGam) (U : State) (H : Heap) : Prop := va_K Γ.1 vwCl (zt Γ.2.1) U ∧ vx_Zq Bundle.tN "UNASSIGNED_STACK" Bundle.steD (zA Γ.2.2.2) U H ∧ vx_Zq Bundle.tN "SUPPRESSED_SENTINEL" Bundle.listD (zA Γ.2.2.2) U H ∧ va_Z RJ0 "COMPACT_STRINGS" "Z" (.int 1) (zA Γ.2.2.2) U H ∧ (∀ (i : Nat) (q : String × Nat × String), zstr[i]? = some q → vk_R q.1 q.2.1 q.2.2 (Γ.2.2.1 i) U) ∧ zx U ∧ (∀ q ∈ zxn, va_Nc q.1 q.2 U) ∧ (∀ y ∈ zxd, va_Nw (.declares y) U) ∧ (∀ q ∈ zxf, va_Nw (.fieldLinkNest q.1 q.2.1 q.2.2.1 q.2.2.2.1 q.2.2.2.2.1 q.2.2.2.2.2) U) ∧ (∀ q ∈ zxm, va_Nw (.methodLinkNest q.1 q.2.1 q.2.2.1 q.2.2.2) U) ∧ va_AO RX5 U ∧ zAO2 U ∧ va_Nw (.castable "[B" "java/lang/Cloneable") U ∧ zDg Γ 20 "DigitOnes" U H ∧ zDg Γ 21 "DigitTens" U H
theorem zO.warm {Γ : zGam} {s U : State} {H : Heap} (hW : s.WarmedH U.vm) (h : zO Γ s H) : zO Γ U H := by
  obtain ⟨h1, h2, h3, h4, h5, h6, h7, h8, h9, h10, h11, h12, h13, h14, h15⟩ := h
  exact ⟨va_K.moved hW.alike h1, vx_Zq.moved hW.alike h2, vx_Zq.moved hW.alike h3, va_Z.moved hW.alike h4, fun i q hq => vk_R.warm hW (h5 i q hq), fun X hX => va_Nw.warmC hW (h6 X hX), fun q hq => va_Nc.moved hW.alike (h7 q hq), fun y hy => va_Nw.warmD hW (h8 y hy), fun q hq => va_Nw.warmF hW (h9 q hq), fun q hq => va_Nw.warmM hW (h10 q hq), va_AO.moved hW.alike h11, zAO2.moved hW.alike h12, va_Nw.warmC hW h13, zDg.moved hW.alike h14, zDg.moved hW.alike h15⟩
theorem zO.kept {Γ : zGam} {U : State} {H H1 : Heap} (hq : ∀ a : Nat, a < H.size → ¬ zA Γ.2.2.2 a → H1[a]? = H[a]?) (h : zO Γ U H) : zO Γ U H1 := by
  obtain ⟨h1, h2, h3, h4, h5, h6, h7, h8, h9, h10, h11, h12, h13, h14, h15⟩ := h
  exact ⟨h1, h2.kept hq, h3.kept hq, h4.kept hq, h5, h6, h7, h8, h9, h10, h11, h12, h13, h14.kept hq, h15.kept hq⟩
/-- the machine; the world; locals, cells and slots of the method; what is owed -/
abbrev zT : Type := Program × Launch × Env × Room × State × MethodId × Array Value × List Frame × Method × Code
abbrev zC : Type := zT × zGam × (Nat × Nat × Nat) × (State → Prop)
def zG (C : zC) (V : zV) (kc ks pc : Nat) (lv : List (Nat × Value)) (st : List Value) : Prop :=
  match C with
  | ((p, l, e, R, s, m, args, below, meth, c), Γ, (nL, mc, ms), Q) =>
    ∀ (H : Heap) (locs : List Loc) (cells slots : Nat) (ls : Array Slot), zH Γ V H → va_S (zA Γ.2.2.2) s.heap H locs → lv_has ls nL lv → cells + kc ≤ mc → slots + ks ≤ ms → W p l e R s m args below meth c H locs cells slots Q (F0 m pc ls st)
def zQ (Γ : zGam) (Post : Option Value → zV → Prop) : Array Value → State → Outcome → State → Prop := fun _ st o t => (∃ (rv : Option Value) (V' : zV), o = .returned rv ∧ Post rv V' ∧ zH Γ V' t.heap) ∧ va_F (zA Γ.2.2.2) st t
def zX (Γ : zGam) (PX : String → zV → Prop) : String → State → State → Prop := fun E st t => (∃ V' : zV, PX E V' ∧ zH Γ V' t.heap) ∧ va_F (zA Γ.2.2.2) st t
def zK (C : zC) (l0 : Launch) (Γ0 : zGam) (n0 : Nat) (own : String) (cc : ByteArray) (ws : List Cond) (d : Nat) (ret : Option FieldType) (Post : Option Value → zV → Prop) : Prop :=
  match C with
  | ((p, l, e, R, s, m, args, below, meth, c), Γ, (nL, mc, ms), Q) =>
    p.tables.exec = Jvm.exec ∧ c.code = cc ∧ c.maxLocals = nL ∧ s.vm.findClass own = some m.cls ∧ (∀ w ∈ ws, w.before args s = true) ∧ zO Γ s s.heap ∧ Γ.2.2.2 ≤ s.heap.size ∧ meth.locks = false ∧ meth.sig.returnType = ret ∧ mc ≤ R.cells ∧ ms ≤ R.slots ∧ d ≤ R.frames ∧ 60 * d ≤ R.locals ∧ (∀ t, MQ below (zQ Γ Post) args s mc ms (zA Γ.2.2.2) t → Q t) ∧ l = l0 ∧ Γ = Γ0 ∧ nL = n0
/-- and it may throw: what is owed then; no handler -/
def zY (C : zC) (Post : Option Value → zV → Prop) (PX : String → zV → Prop) : Prop :=
  match C with
  | ((p, l, e, R, s, m, args, below, meth, c), Γ, (nL, mc, ms), Q) =>
    Q = vx_MQ below (zQ Γ Post) (zX Γ PX) args s mc ms (zA Γ.2.2.2) ∧ l.stackTraces = false ∧ ∀ x ∈ c.exceptionTable.toList, False
def zR (d mc ms : Nat) : Room := { frames := d, cells := mc, slots := ms, locals := 60 * d }
def zPc (Γ : zGam) (V : zV) (av : List Value) : Array Value → State → Prop := va_Pc av (fun U => Γ.2.2.2 ≤ U.heap.size ∧ zH Γ V U.heap ∧ zO Γ U U.heap)
/-- a contract: from the view V and the arguments av the method returns, with Post of the answer and the view then -/
def zM (l : Launch) (Γ : zGam) (d : Nat) (y : MethodName) (ws : List Cond) (mc ms : Nat) (V : zV) (av : List Value) (Post : Option Value → zV → Prop) : Prop :=
  Met l y ws (zR d mc ms) (zPc Γ V av) (zQ Γ Post) mc ms (zA Γ.2.2.2)
/-- the same of a method that may throw -/
def zN (l : Launch) (Γ : zGam) (d : Nat) (y : MethodName) (ws : List Cond) (mc ms : Nat) (V : zV) (av : List Value) (Post : Option Value → zV → Prop) (PX : String → zV → Prop) : Prop :=
  vx_Met l y ws (zR d mc ms) (zPc Γ V av) (zQ Γ Post) (zX Γ PX) mc ms (zA Γ.2.2.2)
theorem zPc.blind {Γ : zGam} {V : zV} {av : List Value} : FrameBlind (zPc Γ V av) := by
  intro a U g mk q
  obtain ⟨q0, q1, q2, q3⟩ := q
  exact ⟨q0, q1, q2, q3.warm (s := U) (U := U.calling g mk a) (State.WarmedH.refl U)⟩

/-! ints -/
theorem zI_add (x y : Int) : zI x + zI y = zI (x + y) := (Int32.ofInt_add x y).symm
theorem zI_sub (x y : Int) : zI x - zI y = zI (x - y) := (Int32.ofInt_sub x y).symm
theorem zI_mul (x y : Int) : zI x * zI y = zI (x * y) := (Int32.ofInt_mul x y).symm
theorem zI_neg (x : Int) : - zI x = zI (- x) := (Int32.ofInt_neg x).symm
theorem zI_toInt (x : Int) (h : -2147483648 ≤ x ∧ x ≤ 2147483647) : (zI x).toInt = x := by
  unfold zI
  rw [Int32.toInt_ofInt]
  have e : ((Int32.size : Nat) : Int) = 4294967296 := rfl
  rw [Int.bmod_eq_of_le] <;> rw [e] <;> omega
theorem zI_of (v : Int32) : v = zI v.toInt := (Int32.ofInt_toInt v).symm
theorem zI_rg (v : Int32) : -2147483648 ≤ v.toInt ∧ v.toInt ≤ 2147483647 := by
  have h1 := Int32.le_toInt v
  have h2 := Int32.toInt_lt v
  omega
theorem zI_ex (v : Int32) : ∃ x : Int, v = zI x ∧ -2147483648 ≤ x ∧ x ≤ 2147483647 := ⟨v.toInt, zI_of v, zI_rg v⟩
theorem zI_lt {x y : Int} (hx : -2147483648 ≤ x ∧ x ≤ 2147483647) (hy : -2147483648 ≤ y ∧ y ≤ 2147483647) : zI x < zI y ↔ x < y := by
  rw [Int32.lt_iff_toInt_lt, zI_toInt x hx, zI_toInt y hy]
theorem zI_le {x y : Int} (hx : -2147483648 ≤ x ∧ x ≤ 2147483647) (hy : -2147483648 ≤ y ∧ y ≤ 2147483647) : zI x ≤ zI y ↔ x ≤ y := by
  rw [Int32.le_iff_toInt_le, zI_toInt x hx, zI_toInt y hy]
theorem zI_eq {x y : Int} (hx : -2147483648 ≤ x ∧ x ≤ 2147483647) (hy : -2147483648 ≤ y ∧ y ≤ 2147483647) : zI x = zI y ↔ x = y := by
  rw [← Int32.toInt_inj, zI_toInt x hx, zI_toInt y hy]
theorem zI_0 : zI 0 = 0 := rfl
theorem zI_clamp {i : Int} (h0 : 0 ≤ i) (h1 : i ≤ 2147483647) : (zI i).toNatClampNeg = i.toNat := by
  rw [Int32.toNatClampNeg, zI_toInt i (by omega)]
theorem zI_in {i : Int} {n : Nat} (h0 : 0 ≤ i) (h1 : i < n) (h2 : i ≤ 2147483647) : vp_in (zI i) n := by
  unfold vp_in
  rw [zI_clamp h0 h2]
  rintro (h | h)
  · rw [← zI_0, zI_lt (by omega) (by omega)] at h
    omega
  · omega
theorem zI_nat (n : Nat) : Int32.ofNat n = zI (n : Int) := (Int32.ofInt_eq_ofNat).symm
theorem zI_div {x y : Int} (hx : 0 ≤ x ∧ x ≤ 2147483647) (hy : 0 < y ∧ y ≤ 2147483647) : zI x / zI y = zI (x / y) := by
  rw [← Int32.toInt_inj, Int32.toInt_div, zI_toInt x (by omega), zI_toInt y (by omega)]
  have h0 : x / y = x.tdiv y := by rw [Int.tdiv_eq_ediv_of_nonneg hx.1]
  have h1 : 0 ≤ x / y := Int.ediv_nonneg hx.1 (by omega)
  have h2 : x / y ≤ x := Int.ediv_le_self _ hx.1
  rw [zI_toInt _ (by omega), ← h0, Int.bmod_eq_of_le] <;> omega
theorem zI_rem {x y : Int} (hx : 0 ≤ x ∧ x ≤ 2147483647) (hy : 0 < y ∧ y ≤ 2147483647) : zI x - (zI x / zI y) * zI y = zI (x % y) := by
  rw [zI_div hx hy, zI_mul, zI_sub]
  congr 1
  rw [Int.emod_def, Int.mul_comm]

section ZR
variable {C : zC} {l0 : Launch} {Γ0 : zGam} {n0 : Nat} {own : String} {cc : ByteArray} {ws : List Cond} {d : Nat} {ret : Option FieldType} {Post : Option Value → zV → Prop} {V : zV} {kc ks pc : Nat} {lv : List (Nat × Value)} {rest : List Value}
theorem zr_iconst (X : zK C l0 Γ0 n0 own cc ws d ret Post) (n' : Nat) {n : Int} (hdg : decode cc pc = .ok (.iconst n, 1)) (hn : pc + 1 = n')  (kk : zG C V kc ks n' lv (.int (zI n) :: rest)) : zG C V kc ks pc lv (rest) := by
  obtain ⟨⟨p, l, e, R, s, m, args, below, meth, c⟩, Γ, ⟨nL, mc, ms⟩, Q⟩ := C
  subst hn
  intro H locs cells slots ls hV hS hl hc hs
  exact lv_iconst X.1 X.2.1 hdg rfl (kk H locs cells slots ls hV hS hl hc hs)
end ZR
