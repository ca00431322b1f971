/-! The layer: a view of the heap, a judgement over it, a row an instruction. -/
abbrev zV0 : Type := Nat → Option va_E
/-- a view of the heap: what lies at an address, and a mark of ours: whose it is -/
abbrev zV : Type := Nat → Option (Nat × va_E)
def zd (V : zV) : zV0 := fun a => (V a).map Prod.snd
def zu (V : zV) (a t : Nat) (e : va_E) : zV := fun b => if b = a then some (t, e) else V b
def zI (z : Int) : Int32 := Int32.ofInt z
theorem zu_eq (V : zV) (a t : Nat) (e : va_E) : zu V a t e a = some (t, e) := by simp [zu]
theorem zu_ne {V : zV} {a t : Nat} {e : va_E} {b : Nat} (h : b ≠ a) : zu V a t e b = V b := by simp [zu, h]
def zu0 (V : zV0) (a : Nat) (e : va_E) : zV0 := fun b => if b = a then some e else V b
theorem zu0_eq (V : zV0) (a : Nat) (e : va_E) : zu0 V a e a = some e := by simp [zu0]
theorem zu0_ne {V : zV0} {a : Nat} {e : va_E} {b : Nat} (h : b ≠ a) : zu0 V a e b = V b := by simp [zu0, h]
theorem zd_zu (V : zV) (a t : Nat) (e : va_E) : zd (zu V a t e) = zu0 (zd V) a e := by
  funext b
  unfold zd zu zu0
  by_cases h : b = a <;> simp [h]
theorem zd_of {V : zV} {a t : Nat} {e : va_E} (h : V a = some (t, e)) : zd V a = some e := by simp [zd, h]
theorem zd_none {V : zV} {a : Nat} (h : V a = none) : zd V a = none := by simp [zd, h]
def zL (V : zV0) (ws : va_W) : Prop := ∀ (a : Nat) (e : va_E), V a = some e ↔ ∃ k : Nat, ws[k]? = some (a, e)
abbrev zGam : Type := va_G × (Nat → ClassId) × (Nat → Nat) × Nat
def zA (B0 : Nat) : Nat → Prop := fun q => B0 ≤ q
def zt (aC : Nat → ClassId) : List (ClassId × FieldType) := [(aC 0, .int), (aC 1, .char), (aC 2, .byte), (aC 3, .object RX5), (aC 4, .array .int)]
def zH (Γ : zGam) (V : zV) (H : Heap) : Prop := ∃ ws : va_W, zL (zd V) ws ∧ va_P Γ.1 vwCl ws H ∧ va_D (zA Γ.2.2.2) ws
theorem zL.set {A : Nat → Prop} {V : zV0} {ws : va_W} {k a : Nat} {e0 e : va_E} (h : zL V ws) (hD : va_D A ws) (hk : ws[k]? = some (a, e0)) : zL (zu0 V a e) (ws.set k (a, e)) := by
  have hl := (List.getElem?_eq_some_iff.mp hk).1
  intro b e1
  by_cases hb : b = a
  · subst hb
    rw [zu0_eq]
    constructor
    · intro h1
      cases h1
      exact ⟨k, by rw [List.getElem?_set_self hl]⟩
    · rintro ⟨j, hj⟩
      by_cases hjk : j = k
      · subst hjk
        rw [List.getElem?_set_self hl] at hj
        cases hj
        rfl
      · rw [List.getElem?_set_ne (Ne.symm hjk)] at hj
        exact absurd (hD.1 j k _ _ hj hk rfl) hjk
  · rw [zu0_ne hb, h b e1]
    constructor
    · rintro ⟨j, hj⟩
      have hjk : j ≠ k := by
        intro q
        subst q
        rw [hk] at hj
        cases hj
        exact hb rfl
      exact ⟨j, by rw [List.getElem?_set_ne (Ne.symm hjk)]; exact hj⟩
    · rintro ⟨j, hj⟩
      have hjk : j ≠ k := by
        intro q
        subst q
        rw [List.getElem?_set_self hl] at hj
        cases hj
        exact hb rfl
      rw [List.getElem?_set_ne (Ne.symm hjk)] at hj
      exact ⟨j, hj⟩
theorem zL.push {V : zV0} {ws : va_W} {a : Nat} {e : va_E} (h : zL V ws) (ha : V a = none) : zL (zu0 V a e) (ws ++ [(a, e)]) := by
  intro b e1
  by_cases hb : b = a
  · subst hb
    rw [zu0_eq]
    constructor
    · intro h1
      cases h1
      exact ⟨ws.length, by simp⟩
    · rintro ⟨j, hj⟩
      rcases List.mem_append.mp (List.mem_of_getElem? hj) with h1 | h1
      · obtain ⟨i, hi⟩ := List.getElem?_of_mem h1
        have h2 := (h b e1).mpr ⟨i, hi⟩
        rw [ha] at h2
        cases h2
      · simp at h1
        rw [h1]
  · rw [zu0_ne hb, h b e1]
    constructor
    · rintro ⟨j, hj⟩
      have hl := (List.getElem?_eq_some_iff.mp hj).1
      exact ⟨j, by rw [List.getElem?_append_left hl]; exact hj⟩
    · rintro ⟨j, hj⟩
      rcases List.mem_append.mp (List.mem_of_getElem? hj) with h1 | h1
      · obtain ⟨i, hi⟩ := List.getElem?_of_mem h1
        exact ⟨i, hi⟩
      · simp at h1
        exact absurd h1.1 hb
theorem zH.lt {Γ : zGam} {V : zV} {H : Heap} (h : zH Γ V H) {a t : Nat} {e : va_E} (ha : V a = some (t, e)) : Γ.2.2.2 ≤ a ∧ a < H.size := by
  obtain ⟨ws, hL, hP, hD⟩ := h
  obtain ⟨k, hk⟩ := (hL a e).mp (zd_of ha)
  exact ⟨hD.2 k _ hk, (hP k _ hk).lt⟩
theorem zH.fresh {Γ : zGam} {V : zV} {H : Heap} (h : zH Γ V H) : V H.size = none := by
  cases hv : V H.size with
  | none => rfl
  | some e => exact absurd (h.lt hv).2 (Nat.lt_irrefl _)
/-- the texts of the exceptions, by their places in the pool of the class -/
def zstr : List (String × Nat × String) := [(RX6, 304, "a window is 0 to 5"), (RX6, 309, "a source is 0 to 7"), (RX6, 311, "no such place in the builder"), (RX6, 315, "the arguments do not fit together"), (RX6, 318, "a number is outside its bounds"), (RX6, 325, "there is no room for so many signs"), (RX8, 109, "")]
/-- words of the throws that are not carried by the methods' own lists -/
def zx (U : State) : Prop := ∀ X ∈ (["java/lang/IndexOutOfBoundsException", "java/lang/IllegalArgumentException", "java/lang/IllegalStateException"] : List String), va_Nw (.castable X X) U
def zxn : List (String × String) := [("java/lang/IllegalArgumentException", "java/lang/IndexOutOfBoundsException"), ("java/lang/IllegalStateException", "java/lang/IndexOutOfBoundsException"), ("java/lang/IllegalStateException", "java/lang/IllegalArgumentException")]
def zxf : List (String × Nat × String × String × String × String) := [("Sashwords", 183, "Sashwords$Pipe", "holds", "LSashwords$Script;", "Sashwords"), ("Sashwords", 196, "Sashwords$Pipe", "sent", "LSashwords$Script;", "Sashwords"), ("Sashwords", 256, "Sashwords$Pipe", "came", "LSashwords$Script;", "Sashwords"), ("Sashwords", 153, "Sashwords$Window", "capacity", "I", "Sashwords"), ("Sashwords", 144, "Sashwords$Window", "limit", "I", "Sashwords"), ("Sashwords", 134, "Sashwords$Window", "position", "I", "Sashwords"), ("Sashwords", 138, "Sashwords$Window", "mark", "I", "Sashwords"), ("Sashwords", 246, "Sashwords$Borders", "links", "I", "Sashwords"), ("Sashwords", 227, "Sashwords$Seeker", "many", "I", "Sashwords"), ("SashwordsLaw", 13, "SashwordsLaw$Out", "n", "J", "SashwordsLaw"), ("SashwordsLaw", 51, "SashwordsLaw$Out", "s", "Ljava/lang/String;", "SashwordsLaw")]
def zxm : List (String × Nat × MethodName × String) := [("Sashwords$Script", 3, ⟨"Sashwords$Text", "<init>", "()V"⟩, "Sashwords"), ("Sashwords", 29, ⟨"Sashwords$Pipe", "<init>", "()V"⟩, "Sashwords"), ("Sashwords$Window", 3, ⟨"Sashwords$Text", "<init>", "()V"⟩, "Sashwords"), ("Sashwords", 47, ⟨"Sashwords$Seeker", "<init>", "()V"⟩, "Sashwords"), ("Sashwords$Seeker", 11, ⟨"Sashwords$Borders", "<init>", "()V"⟩, "Sashwords"), ("Sashwords", 57, ⟨"Sashwords$Borders", "<init>", "()V"⟩, "Sashwords"), ("Sashwords$Pipe", 47, ⟨"Sashwords", "matches", "(LSashwords$Text;IILSashwords$Text;I)Z"⟩, "Sashwords"), ("SashwordsLaw", 169, ⟨"SashwordsLaw$Out", "<init>", "()V"⟩, "SashwordsLaw")]
/-- an array of int arrays can be made -/
def zAO2 (U : State) : Prop := (Cond.arrayOver (.array .int)).before #[] U = true
theorem zAO2.moved {u U : State} (hvm : u.vm.Alike U.vm) (h : zAO2 u) : zAO2 U := by
  obtain ⟨comp, c, k, h1, h2, h3, h4, h5⟩ := arrayOverA_spec h
  obtain ⟨k', hk', he⟩ := hvm.2.2 _ _ h3
  have hi : (U.vm.classes.findIdx? fun (x : Class) => match x.kind with | .array component _ => component == comp | _ => false) = some c := by
    have e1 := va_idx_bare U.vm comp
    have e2 := va_idx_bare u.vm comp
    first
      | (rw [hvm.bare_eq] at e2; exact e1.symm.trans (e2.trans h2))
      | (rw [← hvm.bare_eq] at e2; exact e1.symm.trans (e2.trans h2))
  have hkind : k'.kind = .array comp (.array .int) := by rw [he]; exact h4
  have f1 : U.vm.findClass (FieldType.array .int).toString = some comp := by rw [hvm.findClass]; exact h1
  have f2 : U.vm.findClass ("[" ++ (FieldType.array .int).toString) = some c := by rw [hvm.findClass]; exact h5
  unfold zAO2 Cond.before Cond.holds
  simp only [Cond.value]
  rw [f1, Option.bind_some]
  refine (congrArg (fun o : Option Nat => (o.bind (fun c => (U.vm.classes[c]?).map fun (k : Class) => match k.kind with | .array _ ty => decide (ty = FieldType.array .int) && decide (U.vm.findClass ("[" ++ (FieldType.array .int).toString) = some c) | _ => false) == some true)) hi).trans ?_
  simp [hk', hkind, f2]
/-- the table of a hundred digits at the address of place i, and the static that holds it -/
def zDg (Γ : zGam) (i : Nat) (nm : String) (U : State) (H : Heap) : Prop := va_Z "java/lang/Integer" nm "[B" (.ref (Γ.2.2.1 i)) (zA Γ.2.2.2) U H ∧ ∃ f : Nat → Int, (∀ j, 48 ≤ f j ∧ f j ≤ 57) ∧ va_T .byte (Γ.2.2.1 i) 100 (fun j => .int (zI (f j))) (zA Γ.2.2.2) U H
theorem zDg.moved {Γ : zGam} {i : Nat} {nm : String} {u U : State} {H : Heap} (hvm : u.vm.Alike U.vm) (h : zDg Γ i nm u H) : zDg Γ i nm U H := by
  obtain ⟨h1, f, h2, h3⟩ := h
  exact ⟨va_Z.moved hvm h1, f, h2, va_T.moved hvm h3⟩
theorem zDg.kept {Γ : zGam} {i : Nat} {nm : String} {U : State} {H H1 : Heap} (hq : ∀ a : Nat, a < H.size → ¬ zA Γ.2.2.2 a → H1[a]? = H[a]?) (h : zDg Γ i nm U H) : zDg Γ i nm U H1 := by
  obtain ⟨h1, f, h2, h3⟩ := h
  exact ⟨h1.kept hq, f, h2, h3.kept hq⟩
def zxd : List MethodName := [⟨"Sashwords$Text", "size", "()I"⟩, ⟨"Sashwords$Text", "at", "(I)I"⟩, ⟨"java/lang/RuntimeException", "<init>", "(Ljava/lang/String;)V"⟩, ⟨"java/lang/Exception", "<init>", "(Ljava/lang/String;)V"⟩, ⟨"java/lang/Throwable", "<init>", "(Ljava/lang/String;)V"⟩]
def zO (Γ : zGam) (U : State) (H : Heap) : Prop := va_K Γ.1 vwCl (zt Γ.2.1) U ∧ vx_Zq Bundle.tN "UNASSIGNED_STACK" Bundle.steD (zA Γ.2.2.2) U H ∧ vx_Zq Bundle.tN "SUPPRESSED_SENTINEL" Bundle.listD (zA Γ.2.2.2) U H ∧ va_Z RJ0 "COMPACT_STRINGS" "Z" (.int 1) (zA Γ.2.2.2) U H ∧ (∀ (i : Nat) (q : String × Nat × String), zstr[i]? = some q → vk_R q.1 q.2.1 q.2.2 (Γ.2.2.1 i) U) ∧ zx U ∧ (∀ q ∈ zxn, va_Nc q.1 q.2 U) ∧ (∀ y ∈ zxd, va_Nw (.declares y) U) ∧ (∀ q ∈ zxf, va_Nw (.fieldLinkNest q.1 q.2.1 q.2.2.1 q.2.2.2.1 q.2.2.2.2.1 q.2.2.2.2.2) U) ∧ (∀ q ∈ zxm, va_Nw (.methodLinkNest q.1 q.2.1 q.2.2.1 q.2.2.2) U) ∧ va_AO RX5 U ∧ zAO2 U ∧ va_Nw (.castable "[B" "java/lang/Cloneable") U ∧ zDg Γ 20 "DigitOnes" U H ∧ zDg Γ 21 "DigitTens" U H
theorem zO.warm {Γ : zGam} {s U : State} {H : Heap} (hW : s.WarmedH U.vm) (h : zO Γ s H) : zO Γ U H := by
  obtain ⟨h1, h2, h3, h4, h5, h6, h7, h8, h9, h10, h11, h12, h13, h14, h15⟩ := h
  exact ⟨va_K.moved hW.alike h1, vx_Zq.moved hW.alike h2, vx_Zq.moved hW.alike h3, va_Z.moved hW.alike h4, fun i q hq => vk_R.warm hW (h5 i q hq), fun X hX => va_Nw.warmC hW (h6 X hX), fun q hq => va_Nc.moved hW.alike (h7 q hq), fun y hy => va_Nw.warmD hW (h8 y hy), fun q hq => va_Nw.warmF hW (h9 q hq), fun q hq => va_Nw.warmM hW (h10 q hq), va_AO.moved hW.alike h11, zAO2.moved hW.alike h12, va_Nw.warmC hW h13, zDg.moved hW.alike h14, zDg.moved hW.alike h15⟩
theorem zO.kept {Γ : zGam} {U : State} {H H1 : Heap} (hq : ∀ a : Nat, a < H.size → ¬ zA Γ.2.2.2 a → H1[a]? = H[a]?) (h : zO Γ U H) : zO Γ U H1 := by
  obtain ⟨h1, h2, h3, h4, h5, h6, h7, h8, h9, h10, h11, h12, h13, h14, h15⟩ := h
  exact ⟨h1, h2.kept hq, h3.kept hq, h4.kept hq, h5, h6, h7, h8, h9, h10, h11, h12, h13, h14.kept hq, h15.kept hq⟩
/-- the machine; the world; locals, cells and slots of the method; what is owed -/
abbrev zT : Type := Program × Launch × Env × Room × State × MethodId × Array Value × List Frame × Method × Code
abbrev zC : Type := zT × zGam × (Nat × Nat × Nat) × (State → Prop)
def zG (C : zC) (V : zV) (kc ks pc : Nat) (lv : List (Nat × Value)) (st : List Value) : Prop :=
  match C with
  | ((p, l, e, R, s, m, args, below, meth, c), Γ, (nL, mc, ms), Q) =>
    ∀ (H : Heap) (locs : List Loc) (cells slots : Nat) (ls : Array Slot), zH Γ V H → va_S (zA Γ.2.2.2) s.heap H locs → lv_has ls nL lv → cells + kc ≤ mc → slots + ks ≤ ms → W p l e R s m args below meth c H locs cells slots Q (F0 m pc ls st)
def zQ (Γ : zGam) (Post : Option Value → zV → Prop) : Array Value → State → Outcome → State → Prop := fun _ st o t => (∃ (rv : Option Value) (V' : zV), o = .returned rv ∧ Post rv V' ∧ zH Γ V' t.heap) ∧ va_F (zA Γ.2.2.2) st t
def zX (Γ : zGam) (PX : String → zV → Prop) : String → State → State → Prop := fun E st t => (∃ V' : zV, PX E V' ∧ zH Γ V' t.heap) ∧ va_F (zA Γ.2.2.2) st t
def zK (C : zC) (l0 : Launch) (Γ0 : zGam) (n0 : Nat) (own : String) (cc : ByteArray) (ws : List Cond) (d : Nat) (ret : Option FieldType) (Post : Option Value → zV → Prop) : Prop :=
  match C with
  | ((p, l, e, R, s, m, args, below, meth, c), Γ, (nL, mc, ms), Q) =>
    p.tables.exec = Jvm.exec ∧ c.code = cc ∧ c.maxLocals = nL ∧ s.vm.findClass own = some m.cls ∧ (∀ w ∈ ws, w.before args s = true) ∧ zO Γ s s.heap ∧ Γ.2.2.2 ≤ s.heap.size ∧ meth.locks = false ∧ meth.sig.returnType = ret ∧ mc ≤ R.cells ∧ ms ≤ R.slots ∧ d ≤ R.frames ∧ 60 * d ≤ R.locals ∧ (∀ t, MQ below (zQ Γ Post) args s mc ms (zA Γ.2.2.2) t → Q t) ∧ l = l0 ∧ Γ = Γ0 ∧ nL = n0
/-- and it may throw: what is owed then; no handler -/
def zY (C : zC) (Post : Option Value → zV → Prop) (PX : String → zV → Prop) : Prop :=
  match C with
  | ((p, l, e, R, s, m, args, below, meth, c), Γ, (nL, mc, ms), Q) =>
    Q = vx_MQ below (zQ Γ Post) (zX Γ PX) args s mc ms (zA Γ.2.2.2) ∧ l.stackTraces = false ∧ ∀ x ∈ c.exceptionTable.toList, False
def zR (d mc ms : Nat) : Room := { frames := d, cells := mc, slots := ms, locals := 60 * d }
def zPc (Γ : zGam) (V : zV) (av : List Value) : Array Value → State → Prop := va_Pc av (fun U => Γ.2.2.2 ≤ U.heap.size ∧ zH Γ V U.heap ∧ zO Γ U U.heap)
/-- a contract: from the view V and the arguments av the method returns, with Post of the answer and the view then -/
def zM (l : Launch) (Γ : zGam) (d : Nat) (y : MethodName) (ws : List Cond) (mc ms : Nat) (V : zV) (av : List Value) (Post : Option Value → zV → Prop) : Prop :=
  Met l y ws (zR d mc ms) (zPc Γ V av) (zQ Γ Post) mc ms (zA Γ.2.2.2)
/-- the same of a method that may throw -/
def zN (l : Launch) (Γ : zGam) (d : Nat) (y : MethodName) (ws : List Cond) (mc ms : Nat) (V : zV) (av : List Value) (Post : Option Value → zV → Prop) (PX : String → zV → Prop) : Prop :=
  vx_Met l y ws (zR d mc ms) (zPc Γ V av) (zQ Γ Post) (zX Γ PX) mc ms (zA Γ.2.2.2)
theorem zPc.blind {Γ : zGam} {V : zV} {av : List Value} : FrameBlind (zPc Γ V av) := by
  intro a U g mk q
  obtain ⟨q0, q1, q2, q3⟩ := q
  exact ⟨q0, q1, q2, q3.warm (s := U) (U := U.calling g mk a) (State.WarmedH.refl U)⟩

/-! ints -/
theorem zI_add (x y : Int) : zI x + zI y = zI (x + y) := (Int32.ofInt_add x y).symm
theorem zI_sub (x y : Int) : zI x - zI y = zI (x - y) := (Int32.ofInt_sub x y).symm
theorem zI_mul (x y : Int) : zI x * zI y = zI (x * y) := (Int32.ofInt_mul x y).symm
theorem zI_neg (x : Int) : - zI x = zI (- x) := (Int32.ofInt_neg x).symm
theorem zI_toInt (x : Int) (h : -2147483648 ≤ x ∧ x ≤ 2147483647) : (zI x).toInt = x := by
  unfold zI
  rw [Int32.toInt_ofInt]
  have e : ((Int32.size : Nat) : Int) = 4294967296 := rfl
  rw [Int.bmod_eq_of_le] <;> rw [e] <;> omega
theorem zI_of (v : Int32) : v = zI v.toInt := (Int32.ofInt_toInt v).symm
theorem zI_rg (v : Int32) : -2147483648 ≤ v.toInt ∧ v.toInt ≤ 2147483647 := by
  have h1 := Int32.le_toInt v
  have h2 := Int32.toInt_lt v
  omega
theorem zI_ex (v : Int32) : ∃ x : Int, v = zI x ∧ -2147483648 ≤ x ∧ x ≤ 2147483647 := ⟨v.toInt, zI_of v, zI_rg v⟩
theorem zI_lt {x y : Int} (hx : -2147483648 ≤ x ∧ x ≤ 2147483647) (hy : -2147483648 ≤ y ∧ y ≤ 2147483647) : zI x < zI y ↔ x < y := by
  rw [Int32.lt_iff_toInt_lt, zI_toInt x hx, zI_toInt y hy]
theorem zI_le {x y : Int} (hx : -2147483648 ≤ x ∧ x ≤ 2147483647) (hy : -2147483648 ≤ y ∧ y ≤ 2147483647) : zI x ≤ zI y ↔ x ≤ y := by
  rw [Int32.le_iff_toInt_le, zI_toInt x hx, zI_toInt y hy]
theorem zI_eq {x y : Int} (hx : -2147483648 ≤ x ∧ x ≤ 2147483647) (hy : -2147483648 ≤ y ∧ y ≤ 2147483647) : zI x = zI y ↔ x = y := by
  rw [← Int32.toInt_inj, zI_toInt x hx, zI_toInt y hy]
theorem zI_0 : zI 0 = 0 := rfl
theorem zI_clamp {i : Int} (h0 : 0 ≤ i) (h1 : i ≤ 2147483647) : (zI i).toNatClampNeg = i.toNat := by
  rw [Int32.toNatClampNeg, zI_toInt i (by omega)]
theorem zI_in {i : Int} {n : Nat} (h0 : 0 ≤ i) (h1 : i < n) (h2 : i ≤ 2147483647) : vp_in (zI i) n := by
  unfold vp_in
  rw [zI_clamp h0 h2]
  rintro (h | h)
  · rw [← zI_0, zI_lt (by omega) (by omega)] at h
    omega
  · omega
theorem zI_nat (n : Nat) : Int32.ofNat n = zI (n : Int) := (Int32.ofInt_eq_ofNat).symm
theorem zI_div {x y : Int} (hx : 0 ≤ x ∧ x ≤ 2147483647) (hy : 0 < y ∧ y ≤ 2147483647) : zI x / zI y = zI (x / y) := by
  rw [← Int32.toInt_inj, Int32.toInt_div, zI_toInt x (by omega), zI_toInt y (by omega)]
  have h0 : x / y = x.tdiv y := by rw [Int.tdiv_eq_ediv_of_nonneg hx.1]
  have h1 : 0 ≤ x / y := Int.ediv_nonneg hx.1 (by omega)
  have h2 : x / y ≤ x := Int.ediv_le_self _ hx.1
  rw [zI_toInt _ (by omega), ← h0, Int.bmod_eq_of_le] <;> omega
theorem zI_rem {x y : Int} (hx : 0 ≤ x ∧ x ≤ 2147483647) (hy : 0 < y ∧ y ≤ 2147483647) : zI x - (zI x / zI y) * zI y = zI (x % y) := by
  rw [zI_div hx hy, zI_mul, zI_sub]
  congr 1
  rw [Int.emod_def, Int.mul_comm]

section ZR
variable {C : zC} {l0 : Launch} {Γ0 : zGam} {n0 : Nat} {own : String} {cc : ByteArray} {ws : List Cond} {d : Nat} {ret : Option FieldType} {Post : Option Value → zV → Prop} {V : zV} {kc ks pc : Nat} {lv : List (Nat × Value)} {rest : List Value}
theorem zr_iconst (X : zK C l0 Γ0 n0 own cc ws d ret Post) (n' : Nat) {n : Int} (hdg : decode cc pc = .ok (.iconst n, 1)) (hn : pc + 1 = n')  (kk : zG C V kc ks n' lv (.int (zI n) :: rest)) : zG C V kc ks pc lv (rest) := by
  obtain ⟨⟨p, l, e, R, s, m, args, below, meth, c⟩, Γ, ⟨nL, mc, ms⟩, Q⟩ := C
  subst hn
  intro H locs cells slots ls hV hS hl hc hs
  exact lv_iconst X.1 X.2.1 hdg rfl (kk H locs cells slots ls hV hS hl hc hs)
theorem zr_bipush (X : zK C l0 Γ0 n0 own cc ws d ret Post) (n' : Nat) {n : Int} (v : Int) (hdg : decode cc pc = .ok (.bipush n, 2)) (hn : pc + 2 = n') (hv : (Int8.ofInt n).toInt32 = zI v) (kk : zG C V kc ks n' lv (.int (zI v) :: rest)) : zG C V kc ks pc lv (rest) := by
  obtain ⟨⟨p, l, e, R, s, m, args, below, meth, c⟩, Γ, ⟨nL, mc, ms⟩, Q⟩ := C
  subst hn
  intro H locs cells slots ls hV hS hl hc hs
  exact lv_bipush X.1 X.2.1 hdg hv (kk H locs cells slots ls hV hS hl hc hs)
theorem zr_sipush (X : zK C l0 Γ0 n0 own cc ws d ret Post) (n' : Nat) {n : Int} (v : Int) (hdg : decode cc pc = .ok (.sipush n, 3)) (hn : pc + 3 = n') (hv : (Int16.ofInt n).toInt32 = zI v) (kk : zG C V kc ks n' lv (.int (zI v) :: rest)) : zG C V kc ks pc lv (rest) := by
  obtain ⟨⟨p, l, e, R, s, m, args, below, meth, c⟩, Γ, ⟨nL, mc, ms⟩, Q⟩ := C
  subst hn
  intro H locs cells slots ls hV hS hl hc hs
  exact lv_sipush X.1 X.2.1 hdg hv (kk H locs cells slots ls hV hS hl hc hs)
theorem zr_lconst (X : zK C l0 Γ0 n0 own cc ws d ret Post) (n' : Nat) {n : Fin 2} {v : Int64} (hdg : decode cc pc = .ok (.lconst n, 1)) (hn : pc + 1 = n') (hv : Int64.ofNat (n : Nat) = v) (kk : zG C V kc ks n' lv (.long v :: rest)) : zG C V kc ks pc lv (rest) := by
  obtain ⟨⟨p, l, e, R, s, m, args, below, meth, c⟩, Γ, ⟨nL, mc, ms⟩, Q⟩ := C
  subst hn
  intro H locs cells slots ls hV hS hl hc hs
  exact lv_lconst X.1 X.2.1 hdg hv (kk H locs cells slots ls hV hS hl hc hs)
theorem zr_iload_n (X : zK C l0 Γ0 n0 own cc ws d ret Post) (n' : Nat) (q : Nat) {k : Fin 4} {x : Int32} (hdg : decode cc pc = .ok (.iload_n k, 1)) (hn : pc + 1 = n') (hlq : lv[q]? = some ((k : Nat), .int x)) (kk : zG C V kc ks n' lv (.int x :: rest)) : zG C V kc ks pc lv (rest) := by
  obtain ⟨⟨p, l, e, R, s, m, args, below, meth, c⟩, Γ, ⟨nL, mc, ms⟩, Q⟩ := C
  subst hn
  intro H locs cells slots ls hV hS hl hc hs
  exact lv_iload_n X.1 X.2.1 hdg rfl (lv_at ‹lv_has ls nL lv› q hlq) (kk H locs cells slots ls hV hS ‹lv_has ls nL lv› hc hs)
theorem zr_iload (X : zK C l0 Γ0 n0 own cc ws d ret Post) (n' : Nat) (q : Nat) {i : Nat} {x : Int32} (hdg : decode cc pc = .ok (.iload i, 2)) (hn : pc + 2 = n') (hlq : lv[q]? = some (i, .int x)) (kk : zG C V kc ks n' lv (.int x :: rest)) : zG C V kc ks pc lv (rest) := by
  obtain ⟨⟨p, l, e, R, s, m, args, below, meth, c⟩, Γ, ⟨nL, mc, ms⟩, Q⟩ := C
  subst hn
  intro H locs cells slots ls hV hS hl hc hs
  exact lv_iload X.1 X.2.1 hdg (lv_at ‹lv_has ls nL lv› q hlq) (kk H locs cells slots ls hV hS ‹lv_has ls nL lv› hc hs)
theorem zr_lload_n (X : zK C l0 Γ0 n0 own cc ws d ret Post) (n' : Nat) (q : Nat) {k : Fin 4} {x : Int64} (hdg : decode cc pc = .ok (.lload_n k, 1)) (hn : pc + 1 = n') (hlq : lv[q]? = some ((k : Nat), .long x)) (kk : zG C V kc ks n' lv (.long x :: rest)) : zG C V kc ks pc lv (rest) := by
  obtain ⟨⟨p, l, e, R, s, m, args, below, meth, c⟩, Γ, ⟨nL, mc, ms⟩, Q⟩ := C
  subst hn
  intro H locs cells slots ls hV hS hl hc hs
  exact lv_lload_n X.1 X.2.1 hdg rfl (lv_at ‹lv_has ls nL lv› q hlq) (kk H locs cells slots ls hV hS ‹lv_has ls nL lv› hc hs)
theorem zr_lload (X : zK C l0 Γ0 n0 own cc ws d ret Post) (n' : Nat) (q : Nat) {i : Nat} {x : Int64} (hdg : decode cc pc = .ok (.lload i, 2)) (hn : pc + 2 = n') (hlq : lv[q]? = some (i, .long x)) (kk : zG C V kc ks n' lv (.long x :: rest)) : zG C V kc ks pc lv (rest) := by
  obtain ⟨⟨p, l, e, R, s, m, args, below, meth, c⟩, Γ, ⟨nL, mc, ms⟩, Q⟩ := C
  subst hn
  intro H locs cells slots ls hV hS hl hc hs
  exact lv_lload X.1 X.2.1 hdg (lv_at ‹lv_has ls nL lv› q hlq) (kk H locs cells slots ls hV hS ‹lv_has ls nL lv› hc hs)
theorem zr_aload_n (X : zK C l0 Γ0 n0 own cc ws d ret Post) (n' : Nat) (q : Nat) {k : Fin 4} {x : Nat} (hdg : decode cc pc = .ok (.aload_n k, 1)) (hn : pc + 1 = n') (hlq : lv[q]? = some ((k : Nat), .ref x)) (kk : zG C V kc ks n' lv (.ref x :: rest)) : zG C V kc ks pc lv (rest) := by
  obtain ⟨⟨p, l, e, R, s, m, args, below, meth, c⟩, Γ, ⟨nL, mc, ms⟩, Q⟩ := C
  subst hn
  intro H locs cells slots ls hV hS hl hc hs
  exact lv_aload_n X.1 X.2.1 hdg rfl (lv_at ‹lv_has ls nL lv› q hlq) (kk H locs cells slots ls hV hS ‹lv_has ls nL lv› hc hs)
theorem zr_aload (X : zK C l0 Γ0 n0 own cc ws d ret Post) (n' : Nat) (q : Nat) {i : Nat} {x : Nat} (hdg : decode cc pc = .ok (.aload i, 2)) (hn : pc + 2 = n') (hlq : lv[q]? = some (i, .ref x)) (kk : zG C V kc ks n' lv (.ref x :: rest)) : zG C V kc ks pc lv (rest) := by
  obtain ⟨⟨p, l, e, R, s, m, args, below, meth, c⟩, Γ, ⟨nL, mc, ms⟩, Q⟩ := C
  subst hn
  intro H locs cells slots ls hV hS hl hc hs
  exact lv_aload X.1 X.2.1 hdg (lv_at ‹lv_has ls nL lv› q hlq) (kk H locs cells slots ls hV hS ‹lv_has ls nL lv› hc hs)
theorem zr_iadd (X : zK C l0 Γ0 n0 own cc ws d ret Post) (n' : Nat) {x y : Int} (hdg : decode cc pc = .ok (.iadd, 1)) (hn : pc + 1 = n')  (kk : zG C V kc ks n' lv (.int (zI (x + y)) :: rest)) : zG C V kc ks pc lv (.int (zI y) :: .int (zI x) :: rest) := by
  obtain ⟨⟨p, l, e, R, s, m, args, below, meth, c⟩, Γ, ⟨nL, mc, ms⟩, Q⟩ := C
  subst hn
  intro H locs cells slots ls hV hS hl hc hs
  exact lv_iadd X.1 X.2.1 hdg (by rw [zI_add]; exact (kk H locs cells slots ls hV hS hl hc hs))
theorem zr_isub (X : zK C l0 Γ0 n0 own cc ws d ret Post) (n' : Nat) {x y : Int} (hdg : decode cc pc = .ok (.isub, 1)) (hn : pc + 1 = n')  (kk : zG C V kc ks n' lv (.int (zI (x - y)) :: rest)) : zG C V kc ks pc lv (.int (zI y) :: .int (zI x) :: rest) := by
  obtain ⟨⟨p, l, e, R, s, m, args, below, meth, c⟩, Γ, ⟨nL, mc, ms⟩, Q⟩ := C
  subst hn
  intro H locs cells slots ls hV hS hl hc hs
  exact lv_isub X.1 X.2.1 hdg (by rw [zI_sub]; exact (kk H locs cells slots ls hV hS hl hc hs))
theorem zr_imul (X : zK C l0 Γ0 n0 own cc ws d ret Post) (n' : Nat) {x y : Int} (hdg : decode cc pc = .ok (.imul, 1)) (hn : pc + 1 = n')  (kk : zG C V kc ks n' lv (.int (zI (x * y)) :: rest)) : zG C V kc ks pc lv (.int (zI y) :: .int (zI x) :: rest) := by
  obtain ⟨⟨p, l, e, R, s, m, args, below, meth, c⟩, Γ, ⟨nL, mc, ms⟩, Q⟩ := C
  subst hn
  intro H locs cells slots ls hV hS hl hc hs
  exact lv_imul X.1 X.2.1 hdg (by rw [zI_mul]; exact (kk H locs cells slots ls hV hS hl hc hs))
theorem zr_ineg (X : zK C l0 Γ0 n0 own cc ws d ret Post) (n' : Nat) {x : Int} (hdg : decode cc pc = .ok (.ineg, 1)) (hn : pc + 1 = n')  (kk : zG C V kc ks n' lv (.int (zI (-x)) :: rest)) : zG C V kc ks pc lv (.int (zI x) :: rest) := by
  obtain ⟨⟨p, l, e, R, s, m, args, below, meth, c⟩, Γ, ⟨nL, mc, ms⟩, Q⟩ := C
  subst hn
  intro H locs cells slots ls hV hS hl hc hs
  exact lv_ineg X.1 X.2.1 hdg (by rw [zI_neg]; exact (kk H locs cells slots ls hV hS hl hc hs))
theorem zr_idiv (X : zK C l0 Γ0 n0 own cc ws d ret Post) (n' : Nat) {x y : Int} (hdg : decode cc pc = .ok (.idiv, 1)) (hn : pc + 1 = n') (hx : 0 ≤ x ∧ x ≤ 2147483647) (hy : 0 < y ∧ y ≤ 2147483647) (kk : zG C V kc ks n' lv (.int (zI (x / y)) :: rest)) : zG C V kc ks pc lv (.int (zI y) :: .int (zI x) :: rest) := by
  obtain ⟨⟨p, l, e, R, s, m, args, below, meth, c⟩, Γ, ⟨nL, mc, ms⟩, Q⟩ := C
  subst hn
  intro H locs cells slots ls hV hS hl hc hs
  exact lv_idiv X.1 X.2.1 hdg (fun h => by rw [← zI_0, zI_eq (by omega) (by omega)] at h; omega) (by rw [zI_div hx hy]; exact (kk H locs cells slots ls hV hS hl hc hs))
theorem zr_irem (X : zK C l0 Γ0 n0 own cc ws d ret Post) (n' : Nat) {x y : Int} (hdg : decode cc pc = .ok (.irem, 1)) (hn : pc + 1 = n') (hx : 0 ≤ x ∧ x ≤ 2147483647) (hy : 0 < y ∧ y ≤ 2147483647) (kk : zG C V kc ks n' lv (.int (zI (x % y)) :: rest)) : zG C V kc ks pc lv (.int (zI y) :: .int (zI x) :: rest) := by
  obtain ⟨⟨p, l, e, R, s, m, args, below, meth, c⟩, Γ, ⟨nL, mc, ms⟩, Q⟩ := C
  subst hn
  intro H locs cells slots ls hV hS hl hc hs
  exact lv_irem X.1 X.2.1 hdg (fun h => by rw [← zI_0, zI_eq (by omega) (by omega)] at h; omega) (by rw [zI_rem hx hy]; exact (kk H locs cells slots ls hV hS hl hc hs))
theorem zr_iand (X : zK C l0 Γ0 n0 own cc ws d ret Post) (n' : Nat) {x y : Int32} (hdg : decode cc pc = .ok (.iand, 1)) (hn : pc + 1 = n')  (kk : zG C V kc ks n' lv (.int (x &&& y) :: rest)) : zG C V kc ks pc lv (.int y :: .int x :: rest) := by
  obtain ⟨⟨p, l, e, R, s, m, args, below, meth, c⟩, Γ, ⟨nL, mc, ms⟩, Q⟩ := C
  subst hn
  intro H locs cells slots ls hV hS hl hc hs
  exact lv_iand X.1 X.2.1 hdg (kk H locs cells slots ls hV hS hl hc hs)
theorem zr_ior (X : zK C l0 Γ0 n0 own cc ws d ret Post) (n' : Nat) {x y : Int32} (hdg : decode cc pc = .ok (.ior, 1)) (hn : pc + 1 = n')  (kk : zG C V kc ks n' lv (.int (x ||| y) :: rest)) : zG C V kc ks pc lv (.int y :: .int x :: rest) := by
  obtain ⟨⟨p, l, e, R, s, m, args, below, meth, c⟩, Γ, ⟨nL, mc, ms⟩, Q⟩ := C
  subst hn
  intro H locs cells slots ls hV hS hl hc hs
  exact lv_ior X.1 X.2.1 hdg (kk H locs cells slots ls hV hS hl hc hs)
theorem zr_ixor (X : zK C l0 Γ0 n0 own cc ws d ret Post) (n' : Nat) {x y : Int32} (hdg : decode cc pc = .ok (.ixor, 1)) (hn : pc + 1 = n')  (kk : zG C V kc ks n' lv (.int (x ^^^ y) :: rest)) : zG C V kc ks pc lv (.int y :: .int x :: rest) := by
  obtain ⟨⟨p, l, e, R, s, m, args, below, meth, c⟩, Γ, ⟨nL, mc, ms⟩, Q⟩ := C
  subst hn
  intro H locs cells slots ls hV hS hl hc hs
  exact lv_ixor X.1 X.2.1 hdg (kk H locs cells slots ls hV hS hl hc hs)
theorem zr_ishl (X : zK C l0 Γ0 n0 own cc ws d ret Post) (n' : Nat) {x y : Int32} (hdg : decode cc pc = .ok (.ishl, 1)) (hn : pc + 1 = n')  (kk : zG C V kc ks n' lv (.int (x <<< (y &&& 31)) :: rest)) : zG C V kc ks pc lv (.int y :: .int x :: rest) := by
  obtain ⟨⟨p, l, e, R, s, m, args, below, meth, c⟩, Γ, ⟨nL, mc, ms⟩, Q⟩ := C
  subst hn
  intro H locs cells slots ls hV hS hl hc hs
  exact lv_ishl X.1 X.2.1 hdg (kk H locs cells slots ls hV hS hl hc hs)
theorem zr_ishr (X : zK C l0 Γ0 n0 own cc ws d ret Post) (n' : Nat) {x y : Int32} (hdg : decode cc pc = .ok (.ishr, 1)) (hn : pc + 1 = n')  (kk : zG C V kc ks n' lv (.int (x >>> (y &&& 31)) :: rest)) : zG C V kc ks pc lv (.int y :: .int x :: rest) := by
  obtain ⟨⟨p, l, e, R, s, m, args, below, meth, c⟩, Γ, ⟨nL, mc, ms⟩, Q⟩ := C
  subst hn
  intro H locs cells slots ls hV hS hl hc hs
  exact lv_ishr X.1 X.2.1 hdg (kk H locs cells slots ls hV hS hl hc hs)
theorem zr_ladd (X : zK C l0 Γ0 n0 own cc ws d ret Post) (n' : Nat) {x y : Int64} (hdg : decode cc pc = .ok (.ladd, 1)) (hn : pc + 1 = n')  (kk : zG C V kc ks n' lv (.long (x + y) :: rest)) : zG C V kc ks pc lv (.long y :: .long x :: rest) := by
  obtain ⟨⟨p, l, e, R, s, m, args, below, meth, c⟩, Γ, ⟨nL, mc, ms⟩, Q⟩ := C
  subst hn
  intro H locs cells slots ls hV hS hl hc hs
  exact lv_ladd X.1 X.2.1 hdg (kk H locs cells slots ls hV hS hl hc hs)
theorem zr_lmul (X : zK C l0 Γ0 n0 own cc ws d ret Post) (n' : Nat) {x y : Int64} (hdg : decode cc pc = .ok (.lmul, 1)) (hn : pc + 1 = n')  (kk : zG C V kc ks n' lv (.long (x * y) :: rest)) : zG C V kc ks pc lv (.long y :: .long x :: rest) := by
  obtain ⟨⟨p, l, e, R, s, m, args, below, meth, c⟩, Γ, ⟨nL, mc, ms⟩, Q⟩ := C
  subst hn
  intro H locs cells slots ls hV hS hl hc hs
  exact lv_lmul X.1 X.2.1 hdg (kk H locs cells slots ls hV hS hl hc hs)
theorem zr_i2l (X : zK C l0 Γ0 n0 own cc ws d ret Post) (n' : Nat) {x : Int32} (hdg : decode cc pc = .ok (.i2l, 1)) (hn : pc + 1 = n')  (kk : zG C V kc ks n' lv (.long x.toInt64 :: rest)) : zG C V kc ks pc lv (.int x :: rest) := by
  obtain ⟨⟨p, l, e, R, s, m, args, below, meth, c⟩, Γ, ⟨nL, mc, ms⟩, Q⟩ := C
  subst hn
  intro H locs cells slots ls hV hS hl hc hs
  exact lv_i2l X.1 X.2.1 hdg rfl (kk H locs cells slots ls hV hS hl hc hs)
theorem zr_i2b (X : zK C l0 Γ0 n0 own cc ws d ret Post) (n' : Nat) {x : Int32} (hdg : decode cc pc = .ok (.i2b, 1)) (hn : pc + 1 = n')  (kk : zG C V kc ks n' lv (.int x.toInt8.toInt32 :: rest)) : zG C V kc ks pc lv (.int x :: rest) := by
  obtain ⟨⟨p, l, e, R, s, m, args, below, meth, c⟩, Γ, ⟨nL, mc, ms⟩, Q⟩ := C
  subst hn
  intro H locs cells slots ls hV hS hl hc hs
  exact lv_i2b X.1 X.2.1 hdg rfl (kk H locs cells slots ls hV hS hl hc hs)
theorem zr_i2c (X : zK C l0 Γ0 n0 own cc ws d ret Post) (n' : Nat) {x : Int32} (hdg : decode cc pc = .ok (.i2c, 1)) (hn : pc + 1 = n')  (kk : zG C V kc ks n' lv (.int (x.toUInt32 % 65536).toInt32 :: rest)) : zG C V kc ks pc lv (.int x :: rest) := by
  obtain ⟨⟨p, l, e, R, s, m, args, below, meth, c⟩, Γ, ⟨nL, mc, ms⟩, Q⟩ := C
  subst hn
  intro H locs cells slots ls hV hS hl hc hs
  exact lv_i2c X.1 X.2.1 hdg rfl (kk H locs cells slots ls hV hS hl hc hs)
theorem zI_i2c {x : Int} (hr : 0 ≤ x ∧ x ≤ 65535) : ((zI x).toUInt32 % 65536).toInt32 = zI x := by
  obtain ⟨n, rfl⟩ := Int.eq_ofNat_of_zero_le hr.1
  have e : zI (n : Int) = nI n := (zI_nat n).symm
  rw [pk_char, e]
  congr 1
  show (n % 2 ^ 32) % 65536 = n
  omega
theorem zI_i2b {x : Int} (hr : 0 ≤ x ∧ x ≤ 255) : (zI x).toInt8.toInt32 = zI (if x < 128 then x else x - 256) := by
  rw [← Int32.toInt_inj, zI_toInt _ (by split <;> omega)]
  unfold zI
  rw [Int8.toInt_toInt32, Int32.toInt8_ofInt, Int8.toInt_ofInt]
  have e : ((Int8.size : Nat) : Int) = 256 := rfl
  rw [Int.bmod_def, e]
  split <;> split <;> omega
theorem zr_i2cI (X : zK C l0 Γ0 n0 own cc ws d ret Post) (n' : Nat) {x : Int} (hdg : decode cc pc = .ok (.i2c, 1)) (hn : pc + 1 = n') (hr : 0 ≤ x ∧ x ≤ 65535) (kk : zG C V kc ks n' lv (.int (zI x) :: rest)) : zG C V kc ks pc lv (.int (zI x) :: rest) := by
  obtain ⟨⟨p, l, e, R, s, m, args, below, meth, c⟩, Γ, ⟨nL, mc, ms⟩, Q⟩ := C
  subst hn
  intro H locs cells slots ls hV hS hl hc hs
  exact lv_i2c X.1 X.2.1 hdg (zI_i2c hr) (kk H locs cells slots ls hV hS hl hc hs)
theorem zr_i2bI (X : zK C l0 Γ0 n0 own cc ws d ret Post) (n' : Nat) {x : Int} (hdg : decode cc pc = .ok (.i2b, 1)) (hn : pc + 1 = n') (hr : 0 ≤ x ∧ x ≤ 255) (kk : zG C V kc ks n' lv (.int (zI (if x < 128 then x else x - 256)) :: rest)) : zG C V kc ks pc lv (.int (zI x) :: rest) := by
  obtain ⟨⟨p, l, e, R, s, m, args, below, meth, c⟩, Γ, ⟨nL, mc, ms⟩, Q⟩ := C
  subst hn
  intro H locs cells slots ls hV hS hl hc hs
  exact lv_i2b X.1 X.2.1 hdg (zI_i2b hr) (kk H locs cells slots ls hV hS hl hc hs)
theorem zr_dup (X : zK C l0 Γ0 n0 own cc ws d ret Post) (n' : Nat) {va : Value} (hdg : decode cc pc = .ok (.dup, 1)) (hn : pc + 1 = n') (h1 : va.category = 1) (kk : zG C V kc ks n' lv (va :: va :: rest)) : zG C V kc ks pc lv (va :: rest) := by
  obtain ⟨⟨p, l, e, R, s, m, args, below, meth, c⟩, Γ, ⟨nL, mc, ms⟩, Q⟩ := C
  subst hn
  intro H locs cells slots ls hV hS hl hc hs
  exact lv_dup X.1 X.2.1 hdg h1 (kk H locs cells slots ls hV hS hl hc hs)
theorem zr_pop (X : zK C l0 Γ0 n0 own cc ws d ret Post) (n' : Nat) {va : Value} (hdg : decode cc pc = .ok (.pop, 1)) (hn : pc + 1 = n') (h1 : va.category = 1) (kk : zG C V kc ks n' lv (rest)) : zG C V kc ks pc lv (va :: rest) := by
  obtain ⟨⟨p, l, e, R, s, m, args, below, meth, c⟩, Γ, ⟨nL, mc, ms⟩, Q⟩ := C
  subst hn
  intro H locs cells slots ls hV hS hl hc hs
  exact lv_pop X.1 X.2.1 hdg h1 (kk H locs cells slots ls hV hS hl hc hs)
theorem zr_pop2_2 (X : zK C l0 Γ0 n0 own cc ws d ret Post) (n' : Nat) {va : Value} (hdg : decode cc pc = .ok (.pop2, 1)) (hn : pc + 1 = n') (h1 : va.category = 2) (kk : zG C V kc ks n' lv (rest)) : zG C V kc ks pc lv (va :: rest) := by
  obtain ⟨⟨p, l, e, R, s, m, args, below, meth, c⟩, Γ, ⟨nL, mc, ms⟩, Q⟩ := C
  subst hn
  intro H locs cells slots ls hV hS hl hc hs
  exact lv_pop2_2 X.1 X.2.1 hdg h1 (kk H locs cells slots ls hV hS hl hc hs)
theorem zr_dup_x1 (X : zK C l0 Γ0 n0 own cc ws d ret Post) (n' : Nat) {va vb : Value} (hdg : decode cc pc = .ok (.dup_x1, 1)) (hn : pc + 1 = n') (h1 : va.category = 1) (h2 : vb.category = 1) (kk : zG C V kc ks n' lv (va :: vb :: va :: rest)) : zG C V kc ks pc lv (va :: vb :: rest) := by
  obtain ⟨⟨p, l, e, R, s, m, args, below, meth, c⟩, Γ, ⟨nL, mc, ms⟩, Q⟩ := C
  subst hn
  intro H locs cells slots ls hV hS hl hc hs
  exact lv_dup_x1 X.1 X.2.1 hdg h1 h2 (kk H locs cells slots ls hV hS hl hc hs)
theorem zr_dup_x2 (X : zK C l0 Γ0 n0 own cc ws d ret Post) (n' : Nat) {va vb vd : Value} (hdg : decode cc pc = .ok (.dup_x2, 1)) (hn : pc + 1 = n') (h1 : va.category = 1) (h2 : vb.category = 1) (h3 : vd.category = 1) (kk : zG C V kc ks n' lv (va :: vb :: vd :: va :: rest)) : zG C V kc ks pc lv (va :: vb :: vd :: rest) := by
  obtain ⟨⟨p, l, e, R, s, m, args, below, meth, c⟩, Γ, ⟨nL, mc, ms⟩, Q⟩ := C
  subst hn
  intro H locs cells slots ls hV hS hl hc hs
  exact lv_dup_x2 X.1 X.2.1 hdg h1 h2 h3 (kk H locs cells slots ls hV hS hl hc hs)
theorem zr_dup2 (X : zK C l0 Γ0 n0 own cc ws d ret Post) (n' : Nat) {va vb : Value} (hdg : decode cc pc = .ok (.dup2, 1)) (hn : pc + 1 = n') (h1 : va.category = 1) (h2 : vb.category = 1) (kk : zG C V kc ks n' lv (va :: vb :: va :: vb :: rest)) : zG C V kc ks pc lv (va :: vb :: rest) := by
  obtain ⟨⟨p, l, e, R, s, m, args, below, meth, c⟩, Γ, ⟨nL, mc, ms⟩, Q⟩ := C
  subst hn
  intro H locs cells slots ls hV hS hl hc hs
  exact lv_dup2_11 X.1 X.2.1 hdg h1 h2 (kk H locs cells slots ls hV hS hl hc hs)
theorem zr_ldc (X : zK C l0 Γ0 n0 own cc ws d ret Post) (n' : Nat) {i : Nat} {v : Int32} (hdg : decode cc pc = .ok (.ldc i, 2)) (hn : pc + 2 = n') (hw : Cond.constant own i v ∈ ws) (kk : zG C V kc ks n' lv (.int v :: rest)) : zG C V kc ks pc lv (rest) := by
  obtain ⟨⟨p, l, e, R, s, m, args, below, meth, c⟩, Γ, ⟨nL, mc, ms⟩, Q⟩ := C
  subst hn
  intro H locs cells slots ls hV hS hl hc hs
  exact lv_ldc X.1 X.2.1 X.2.2.2.1 (X.2.2.2.2.1 _ hw) hdg (kk H locs cells slots ls hV hS hl hc hs)
theorem zr_ldcw (X : zK C l0 Γ0 n0 own cc ws d ret Post) (n' : Nat) {i : Nat} {v : Int32} (hdg : decode cc pc = .ok (.ldc_w i, 3)) (hn : pc + 3 = n') (hw : Cond.constant own i v ∈ ws) (kk : zG C V kc ks n' lv (.int v :: rest)) : zG C V kc ks pc lv (rest) := by
  obtain ⟨⟨p, l, e, R, s, m, args, below, meth, c⟩, Γ, ⟨nL, mc, ms⟩, Q⟩ := C
  subst hn
  intro H locs cells slots ls hV hS hl hc hs
  exact lv_ldcw X.1 X.2.1 X.2.2.2.1 (X.2.2.2.2.1 _ hw) hdg (kk H locs cells slots ls hV hS hl hc hs)
theorem zr_ldc2 (X : zK C l0 Γ0 n0 own cc ws d ret Post) (n' : Nat) {i : Nat} {v : Int64} (hdg : decode cc pc = .ok (.ldc2_w i, 3)) (hn : pc + 3 = n') (hw : Cond.constantLong own i v ∈ ws) (kk : zG C V kc ks n' lv (.long v :: rest)) : zG C V kc ks pc lv (rest) := by
  obtain ⟨⟨p, l, e, R, s, m, args, below, meth, c⟩, Γ, ⟨nL, mc, ms⟩, Q⟩ := C
  subst hn
  intro H locs cells slots ls hV hS hl hc hs
  exact lv_ldc2 X.1 X.2.1 X.2.2.2.1 (X.2.2.2.2.1 _ hw) hdg (kk H locs cells slots ls hV hS hl hc hs)
theorem zr_istore_n (X : zK C l0 Γ0 n0 own cc ws d ret Post) (n' : Nat) (lv' : List (Nat × Value)) {k : Fin 4} {x : Int32} (hdg : decode cc pc = .ok (.istore_n k, 1)) (hn : pc + 1 = n') (hi : (k : Nat) < n0) (hlv : ((k : Nat), Value.int x) :: lv.filter (fun q => !(q.1 == (k : Nat)) && !(q.1 + 1 == (k : Nat) && q.2.category == 2)) = lv') (kk : zG C V kc ks n' lv' rest) : zG C V kc ks pc lv (.int x :: rest) := by
  obtain ⟨⟨p, l, e, R, s, m, args, below, meth, c⟩, Γ, ⟨nL, mc, ms⟩, Q⟩ := C
  subst hn
  have hnL : nL = n0 := X.2.2.2.2.2.2.2.2.2.2.2.2.2.2.2.2
  intro H locs cells slots ls hV hS hl hc hs
  exact lv_istore_n X.1 X.2.1 hdg rfl hl (by rw [hnL]; exact hi) hlv (fun ls' hl' => kk H locs cells slots ls' hV hS hl' hc hs)
theorem zr_istore (X : zK C l0 Γ0 n0 own cc ws d ret Post) (n' : Nat) (lv' : List (Nat × Value)) {i : Nat} {x : Int32} (hdg : decode cc pc = .ok (.istore i, 2)) (hn : pc + 2 = n') (hi : i < n0) (hlv : (i, Value.int x) :: lv.filter (fun q => !(q.1 == i) && !(q.1 + 1 == i && q.2.category == 2)) = lv') (kk : zG C V kc ks n' lv' rest) : zG C V kc ks pc lv (.int x :: rest) := by
  obtain ⟨⟨p, l, e, R, s, m, args, below, meth, c⟩, Γ, ⟨nL, mc, ms⟩, Q⟩ := C
  subst hn
  have hnL : nL = n0 := X.2.2.2.2.2.2.2.2.2.2.2.2.2.2.2.2
  intro H locs cells slots ls hV hS hl hc hs
  exact lv_istore X.1 X.2.1 hdg hl (by rw [hnL]; exact hi) hlv (fun ls' hl' => kk H locs cells slots ls' hV hS hl' hc hs)
theorem zr_astore_n (X : zK C l0 Γ0 n0 own cc ws d ret Post) (n' : Nat) (lv' : List (Nat × Value)) {k : Fin 4} {x : Nat} (hdg : decode cc pc = .ok (.astore_n k, 1)) (hn : pc + 1 = n') (hi : (k : Nat) < n0) (hlv : ((k : Nat), Value.ref x) :: lv.filter (fun q => !(q.1 == (k : Nat)) && !(q.1 + 1 == (k : Nat) && q.2.category == 2)) = lv') (kk : zG C V kc ks n' lv' rest) : zG C V kc ks pc lv (.ref x :: rest) := by
  obtain ⟨⟨p, l, e, R, s, m, args, below, meth, c⟩, Γ, ⟨nL, mc, ms⟩, Q⟩ := C
  subst hn
  have hnL : nL = n0 := X.2.2.2.2.2.2.2.2.2.2.2.2.2.2.2.2
  intro H locs cells slots ls hV hS hl hc hs
  exact lv_astore_n X.1 X.2.1 hdg rfl hl (by rw [hnL]; exact hi) hlv (fun ls' hl' => kk H locs cells slots ls' hV hS hl' hc hs)
theorem zr_astore (X : zK C l0 Γ0 n0 own cc ws d ret Post) (n' : Nat) (lv' : List (Nat × Value)) {i : Nat} {x : Nat} (hdg : decode cc pc = .ok (.astore i, 2)) (hn : pc + 2 = n') (hi : i < n0) (hlv : (i, Value.ref x) :: lv.filter (fun q => !(q.1 == i) && !(q.1 + 1 == i && q.2.category == 2)) = lv') (kk : zG C V kc ks n' lv' rest) : zG C V kc ks pc lv (.ref x :: rest) := by
  obtain ⟨⟨p, l, e, R, s, m, args, below, meth, c⟩, Γ, ⟨nL, mc, ms⟩, Q⟩ := C
  subst hn
  have hnL : nL = n0 := X.2.2.2.2.2.2.2.2.2.2.2.2.2.2.2.2
  intro H locs cells slots ls hV hS hl hc hs
  exact lv_astore X.1 X.2.1 hdg hl (by rw [hnL]; exact hi) hlv (fun ls' hl' => kk H locs cells slots ls' hV hS hl' hc hs)
theorem zr_lstore_n (X : zK C l0 Γ0 n0 own cc ws d ret Post) (n' : Nat) (lv' : List (Nat × Value)) {k : Fin 4} {x : Int64} (hdg : decode cc pc = .ok (.lstore_n k, 1)) (hn : pc + 1 = n') (hi : (k : Nat) + 1 < n0) (hlv : ((k : Nat), Value.long x) :: lv.filter (fun q => !(q.1 == (k : Nat)) && (!(q.1 == (k : Nat) + 1) && !(q.1 + 1 == (k : Nat) && q.2.category == 2))) = lv') (kk : zG C V kc ks n' lv' rest) : zG C V kc ks pc lv (.long x :: rest) := by
  obtain ⟨⟨p, l, e, R, s, m, args, below, meth, c⟩, Γ, ⟨nL, mc, ms⟩, Q⟩ := C
  subst hn
  have hnL : nL = n0 := X.2.2.2.2.2.2.2.2.2.2.2.2.2.2.2.2
  intro H locs cells slots ls hV hS hl hc hs
  exact lv_lstore_n X.1 X.2.1 hdg rfl hl (by rw [hnL]; exact hi) hlv (fun ls' hl' => kk H locs cells slots ls' hV hS hl' hc hs)
theorem zr_lstore (X : zK C l0 Γ0 n0 own cc ws d ret Post) (n' : Nat) (lv' : List (Nat × Value)) {i : Nat} {x : Int64} (hdg : decode cc pc = .ok (.lstore i, 2)) (hn : pc + 2 = n') (hi : i + 1 < n0) (hlv : (i, Value.long x) :: lv.filter (fun q => !(q.1 == i) && (!(q.1 == i + 1) && !(q.1 + 1 == i && q.2.category == 2))) = lv') (kk : zG C V kc ks n' lv' rest) : zG C V kc ks pc lv (.long x :: rest) := by
  obtain ⟨⟨p, l, e, R, s, m, args, below, meth, c⟩, Γ, ⟨nL, mc, ms⟩, Q⟩ := C
  subst hn
  have hnL : nL = n0 := X.2.2.2.2.2.2.2.2.2.2.2.2.2.2.2.2
  intro H locs cells slots ls hV hS hl hc hs
  exact lv_lstore X.1 X.2.1 hdg hl (by rw [hnL]; exact hi) hlv (fun ls' hl' => kk H locs cells slots ls' hV hS hl' hc hs)
theorem zr_iinc (X : zK C l0 Γ0 n0 own cc ws d ret Post) (n' q : Nat) (lv' : List (Nat × Value)) {i : Nat} {n x : Int} (hdg : decode cc pc = .ok (.iinc i n, 3)) (hn : pc + 3 = n') (hk : lv[q]? = some (i, .int (zI x))) (hi : i < n0) (hlv : (i, Value.int (zI (x + n))) :: lv.filter (fun q => !(q.1 == i) && !(q.1 + 1 == i && q.2.category == 2)) = lv') (kk : zG C V kc ks n' lv' rest) : zG C V kc ks pc lv rest := by
  obtain ⟨⟨p, l, e, R, s, m, args, below, meth, c⟩, Γ, ⟨nL, mc, ms⟩, Q⟩ := C
  subst hn
  have hnL : nL = n0 := X.2.2.2.2.2.2.2.2.2.2.2.2.2.2.2.2
  intro H locs cells slots ls hV hS hl hc hs
  exact lv_iinc X.1 X.2.1 hdg hl hk (zI_add x n) (by rw [hnL]; exact hi) hlv (fun ls' hl' => kk H locs cells slots ls' hV hS hl' hc hs)
theorem zr_sub (ps : List Nat) (lv' : List (Nat × Value)) (h : lv_pick lv ps = lv') (kk : zG C V kc ks pc lv' rest) : zG C V kc ks pc lv rest := by
  obtain ⟨⟨p, l, e, R, s, m, args, below, meth, c⟩, Γ, ⟨nL, mc, ms⟩, Q⟩ := C
  intro H locs cells slots ls hV hS hl hc hs
  exact kk H locs cells slots ls hV hS (lv_sub hl ps h) hc hs
theorem zr_room (kc' ks' : Nat) (h1 : kc' ≤ kc) (h2 : ks' ≤ ks) (kk : zG C V kc' ks' pc lv rest) : zG C V kc ks pc lv rest := by
  obtain ⟨⟨p, l, e, R, s, m, args, below, meth, c⟩, Γ, ⟨nL, mc, ms⟩, Q⟩ := C
  intro H locs cells slots ls hV hS hl hc hs
  exact kk H locs cells slots ls hV hS hl (by omega) (by omega)
theorem zr_view {V' : zV} (h : V = V') (kk : zG C V' kc ks pc lv rest) : zG C V kc ks pc lv rest := by rw [h]; exact kk
theorem zr_goto (X : zK C l0 Γ0 n0 own cc ws d ret Post) (n' : Nat) {off : Int} (hdg : decode cc pc = .ok (.goto off, 3)) (ht : (pc : Int) + off = (n' : Int)) (kk : zG C V kc ks n' lv rest) : zG C V kc ks pc lv rest := by
  obtain ⟨⟨p, l, e, R, s, m, args, below, meth, c⟩, Γ, ⟨nL, mc, ms⟩, Q⟩ := C
  intro H locs cells slots ls hV hS hl hc hs
  exact lv_goto X.1 X.2.1 hdg ht (kk H locs cells slots ls hV hS hl hc hs)
theorem zr_if_eq (X : zK C l0 Γ0 n0 own cc ws d ret Post) (n1 n2 : Nat) {off x : Int} (hdg : decode cc pc = .ok (.ifCond .eq off, 3)) (ht : (pc : Int) + off = (n1 : Int)) (hn : pc + 3 = n2) (hx : -2147483648 ≤ x ∧ x ≤ 2147483647) (kt : x = 0 → zG C V kc ks n1 lv rest) (kf : ¬ (x = 0) → zG C V kc ks n2 lv rest) : zG C V kc ks pc lv (.int (zI x) :: rest) := by
  obtain ⟨⟨p, l, e, R, s, m, args, below, meth, c⟩, Γ, ⟨nL, mc, ms⟩, Q⟩ := C
  subst hn
  intro H locs cells slots ls hV hS hl hc hs
  exact lv_if_eq X.1 X.2.1 hdg ht (fun h => kt (by simpa only [← zI_0, zI_eq hx (show -2147483648 ≤ (0 : Int) ∧ (0 : Int) ≤ 2147483647 by omega), zI_eq (show -2147483648 ≤ (0 : Int) ∧ (0 : Int) ≤ 2147483647 by omega) hx, ne_eq, Decidable.not_not] using h) H locs cells slots ls hV hS hl hc hs) (fun h => kf (by simpa only [← zI_0, zI_eq hx (show -2147483648 ≤ (0 : Int) ∧ (0 : Int) ≤ 2147483647 by omega), zI_eq (show -2147483648 ≤ (0 : Int) ∧ (0 : Int) ≤ 2147483647 by omega) hx, ne_eq, Decidable.not_not] using h) H locs cells slots ls hV hS hl hc hs)
theorem zr_if_ne (X : zK C l0 Γ0 n0 own cc ws d ret Post) (n1 n2 : Nat) {off x : Int} (hdg : decode cc pc = .ok (.ifCond .ne off, 3)) (ht : (pc : Int) + off = (n1 : Int)) (hn : pc + 3 = n2) (hx : -2147483648 ≤ x ∧ x ≤ 2147483647) (kt : ¬ x = 0 → zG C V kc ks n1 lv rest) (kf : x = 0 → zG C V kc ks n2 lv rest) : zG C V kc ks pc lv (.int (zI x) :: rest) := by
  obtain ⟨⟨p, l, e, R, s, m, args, below, meth, c⟩, Γ, ⟨nL, mc, ms⟩, Q⟩ := C
  subst hn
  intro H locs cells slots ls hV hS hl hc hs
  exact lv_if_ne X.1 X.2.1 hdg ht (fun h => kt (by simpa only [← zI_0, zI_eq hx (show -2147483648 ≤ (0 : Int) ∧ (0 : Int) ≤ 2147483647 by omega), zI_eq (show -2147483648 ≤ (0 : Int) ∧ (0 : Int) ≤ 2147483647 by omega) hx, ne_eq, Decidable.not_not] using h) H locs cells slots ls hV hS hl hc hs) (fun h => kf (by simpa only [← zI_0, zI_eq hx (show -2147483648 ≤ (0 : Int) ∧ (0 : Int) ≤ 2147483647 by omega), zI_eq (show -2147483648 ≤ (0 : Int) ∧ (0 : Int) ≤ 2147483647 by omega) hx, ne_eq, Decidable.not_not] using h) H locs cells slots ls hV hS hl hc hs)
theorem zr_if_lt (X : zK C l0 Γ0 n0 own cc ws d ret Post) (n1 n2 : Nat) {off x : Int} (hdg : decode cc pc = .ok (.ifCond .lt off, 3)) (ht : (pc : Int) + off = (n1 : Int)) (hn : pc + 3 = n2) (hx : -2147483648 ≤ x ∧ x ≤ 2147483647) (kt : x < 0 → zG C V kc ks n1 lv rest) (kf : ¬ (x < 0) → zG C V kc ks n2 lv rest) : zG C V kc ks pc lv (.int (zI x) :: rest) := by
  obtain ⟨⟨p, l, e, R, s, m, args, below, meth, c⟩, Γ, ⟨nL, mc, ms⟩, Q⟩ := C
  subst hn
  intro H locs cells slots ls hV hS hl hc hs
  exact lv_if_lt X.1 X.2.1 hdg ht (fun h => kt (by simpa only [← zI_0, zI_lt hx (show -2147483648 ≤ (0 : Int) ∧ (0 : Int) ≤ 2147483647 by omega), zI_lt (show -2147483648 ≤ (0 : Int) ∧ (0 : Int) ≤ 2147483647 by omega) hx, ne_eq, Decidable.not_not] using h) H locs cells slots ls hV hS hl hc hs) (fun h => kf (by simpa only [← zI_0, zI_lt hx (show -2147483648 ≤ (0 : Int) ∧ (0 : Int) ≤ 2147483647 by omega), zI_lt (show -2147483648 ≤ (0 : Int) ∧ (0 : Int) ≤ 2147483647 by omega) hx, ne_eq, Decidable.not_not] using h) H locs cells slots ls hV hS hl hc hs)
theorem zr_if_ge (X : zK C l0 Γ0 n0 own cc ws d ret Post) (n1 n2 : Nat) {off x : Int} (hdg : decode cc pc = .ok (.ifCond .ge off, 3)) (ht : (pc : Int) + off = (n1 : Int)) (hn : pc + 3 = n2) (hx : -2147483648 ≤ x ∧ x ≤ 2147483647) (kt : 0 ≤ x → zG C V kc ks n1 lv rest) (kf : ¬ (0 ≤ x) → zG C V kc ks n2 lv rest) : zG C V kc ks pc lv (.int (zI x) :: rest) := by
  obtain ⟨⟨p, l, e, R, s, m, args, below, meth, c⟩, Γ, ⟨nL, mc, ms⟩, Q⟩ := C
  subst hn
  intro H locs cells slots ls hV hS hl hc hs
  exact lv_if_ge X.1 X.2.1 hdg ht (fun h => kt (by simpa only [← zI_0, zI_le hx (show -2147483648 ≤ (0 : Int) ∧ (0 : Int) ≤ 2147483647 by omega), zI_le (show -2147483648 ≤ (0 : Int) ∧ (0 : Int) ≤ 2147483647 by omega) hx, ne_eq, Decidable.not_not] using h) H locs cells slots ls hV hS hl hc hs) (fun h => kf (by simpa only [← zI_0, zI_le hx (show -2147483648 ≤ (0 : Int) ∧ (0 : Int) ≤ 2147483647 by omega), zI_le (show -2147483648 ≤ (0 : Int) ∧ (0 : Int) ≤ 2147483647 by omega) hx, ne_eq, Decidable.not_not] using h) H locs cells slots ls hV hS hl hc hs)
theorem zr_if_gt (X : zK C l0 Γ0 n0 own cc ws d ret Post) (n1 n2 : Nat) {off x : Int} (hdg : decode cc pc = .ok (.ifCond .gt off, 3)) (ht : (pc : Int) + off = (n1 : Int)) (hn : pc + 3 = n2) (hx : -2147483648 ≤ x ∧ x ≤ 2147483647) (kt : 0 < x → zG C V kc ks n1 lv rest) (kf : ¬ (0 < x) → zG C V kc ks n2 lv rest) : zG C V kc ks pc lv (.int (zI x) :: rest) := by
  obtain ⟨⟨p, l, e, R, s, m, args, below, meth, c⟩, Γ, ⟨nL, mc, ms⟩, Q⟩ := C
  subst hn
  intro H locs cells slots ls hV hS hl hc hs
  exact lv_if_gt X.1 X.2.1 hdg ht (fun h => kt (by simpa only [← zI_0, zI_lt hx (show -2147483648 ≤ (0 : Int) ∧ (0 : Int) ≤ 2147483647 by omega), zI_lt (show -2147483648 ≤ (0 : Int) ∧ (0 : Int) ≤ 2147483647 by omega) hx, ne_eq, Decidable.not_not] using h) H locs cells slots ls hV hS hl hc hs) (fun h => kf (by simpa only [← zI_0, zI_lt hx (show -2147483648 ≤ (0 : Int) ∧ (0 : Int) ≤ 2147483647 by omega), zI_lt (show -2147483648 ≤ (0 : Int) ∧ (0 : Int) ≤ 2147483647 by omega) hx, ne_eq, Decidable.not_not] using h) H locs cells slots ls hV hS hl hc hs)
theorem zr_if_le (X : zK C l0 Γ0 n0 own cc ws d ret Post) (n1 n2 : Nat) {off x : Int} (hdg : decode cc pc = .ok (.ifCond .le off, 3)) (ht : (pc : Int) + off = (n1 : Int)) (hn : pc + 3 = n2) (hx : -2147483648 ≤ x ∧ x ≤ 2147483647) (kt : x ≤ 0 → zG C V kc ks n1 lv rest) (kf : ¬ (x ≤ 0) → zG C V kc ks n2 lv rest) : zG C V kc ks pc lv (.int (zI x) :: rest) := by
  obtain ⟨⟨p, l, e, R, s, m, args, below, meth, c⟩, Γ, ⟨nL, mc, ms⟩, Q⟩ := C
  subst hn
  intro H locs cells slots ls hV hS hl hc hs
  exact lv_if_le X.1 X.2.1 hdg ht (fun h => kt (by simpa only [← zI_0, zI_le hx (show -2147483648 ≤ (0 : Int) ∧ (0 : Int) ≤ 2147483647 by omega), zI_le (show -2147483648 ≤ (0 : Int) ∧ (0 : Int) ≤ 2147483647 by omega) hx, ne_eq, Decidable.not_not] using h) H locs cells slots ls hV hS hl hc hs) (fun h => kf (by simpa only [← zI_0, zI_le hx (show -2147483648 ≤ (0 : Int) ∧ (0 : Int) ≤ 2147483647 by omega), zI_le (show -2147483648 ≤ (0 : Int) ∧ (0 : Int) ≤ 2147483647 by omega) hx, ne_eq, Decidable.not_not] using h) H locs cells slots ls hV hS hl hc hs)
theorem zr_icmp_eq (X : zK C l0 Γ0 n0 own cc ws d ret Post) (n1 n2 : Nat) {off x y : Int} (hdg : decode cc pc = .ok (.if_icmp .eq off, 3)) (ht : (pc : Int) + off = (n1 : Int)) (hn : pc + 3 = n2) (hx : -2147483648 ≤ x ∧ x ≤ 2147483647) (hy : -2147483648 ≤ y ∧ y ≤ 2147483647) (kt : x = y → zG C V kc ks n1 lv rest) (kf : ¬ (x = y) → zG C V kc ks n2 lv rest) : zG C V kc ks pc lv (.int (zI y) :: .int (zI x) :: rest) := by
  obtain ⟨⟨p, l, e, R, s, m, args, below, meth, c⟩, Γ, ⟨nL, mc, ms⟩, Q⟩ := C
  subst hn
  intro H locs cells slots ls hV hS hl hc hs
  exact lv_icmp_eq X.1 X.2.1 hdg ht (fun h => kt (by simpa only [zI_eq hx hy, zI_eq hy hx, ne_eq, Decidable.not_not] using h) H locs cells slots ls hV hS hl hc hs) (fun h => kf (by simpa only [zI_eq hx hy, zI_eq hy hx, ne_eq, Decidable.not_not] using h) H locs cells slots ls hV hS hl hc hs)
theorem zr_icmp_ne (X : zK C l0 Γ0 n0 own cc ws d ret Post) (n1 n2 : Nat) {off x y : Int} (hdg : decode cc pc = .ok (.if_icmp .ne off, 3)) (ht : (pc : Int) + off = (n1 : Int)) (hn : pc + 3 = n2) (hx : -2147483648 ≤ x ∧ x ≤ 2147483647) (hy : -2147483648 ≤ y ∧ y ≤ 2147483647) (kt : ¬ x = y → zG C V kc ks n1 lv rest) (kf : x = y → zG C V kc ks n2 lv rest) : zG C V kc ks pc lv (.int (zI y) :: .int (zI x) :: rest) := by
  obtain ⟨⟨p, l, e, R, s, m, args, below, meth, c⟩, Γ, ⟨nL, mc, ms⟩, Q⟩ := C
  subst hn
  intro H locs cells slots ls hV hS hl hc hs
  exact lv_icmp_ne X.1 X.2.1 hdg ht (fun h => kt (by simpa only [zI_eq hx hy, zI_eq hy hx, ne_eq, Decidable.not_not] using h) H locs cells slots ls hV hS hl hc hs) (fun h => kf (by simpa only [zI_eq hx hy, zI_eq hy hx, ne_eq, Decidable.not_not] using h) H locs cells slots ls hV hS hl hc hs)
theorem zr_icmp_lt (X : zK C l0 Γ0 n0 own cc ws d ret Post) (n1 n2 : Nat) {off x y : Int} (hdg : decode cc pc = .ok (.if_icmp .lt off, 3)) (ht : (pc : Int) + off = (n1 : Int)) (hn : pc + 3 = n2) (hx : -2147483648 ≤ x ∧ x ≤ 2147483647) (hy : -2147483648 ≤ y ∧ y ≤ 2147483647) (kt : x < y → zG C V kc ks n1 lv rest) (kf : ¬ (x < y) → zG C V kc ks n2 lv rest) : zG C V kc ks pc lv (.int (zI y) :: .int (zI x) :: rest) := by
  obtain ⟨⟨p, l, e, R, s, m, args, below, meth, c⟩, Γ, ⟨nL, mc, ms⟩, Q⟩ := C
  subst hn
  intro H locs cells slots ls hV hS hl hc hs
  exact lv_icmp_lt X.1 X.2.1 hdg ht (fun h => kt (by simpa only [zI_lt hx hy, zI_lt hy hx, ne_eq, Decidable.not_not] using h) H locs cells slots ls hV hS hl hc hs) (fun h => kf (by simpa only [zI_lt hx hy, zI_lt hy hx, ne_eq, Decidable.not_not] using h) H locs cells slots ls hV hS hl hc hs)
theorem zr_icmp_ge (X : zK C l0 Γ0 n0 own cc ws d ret Post) (n1 n2 : Nat) {off x y : Int} (hdg : decode cc pc = .ok (.if_icmp .ge off, 3)) (ht : (pc : Int) + off = (n1 : Int)) (hn : pc + 3 = n2) (hx : -2147483648 ≤ x ∧ x ≤ 2147483647) (hy : -2147483648 ≤ y ∧ y ≤ 2147483647) (kt : y ≤ x → zG C V kc ks n1 lv rest) (kf : ¬ (y ≤ x) → zG C V kc ks n2 lv rest) : zG C V kc ks pc lv (.int (zI y) :: .int (zI x) :: rest) := by
  obtain ⟨⟨p, l, e, R, s, m, args, below, meth, c⟩, Γ, ⟨nL, mc, ms⟩, Q⟩ := C
  subst hn
  intro H locs cells slots ls hV hS hl hc hs
  exact lv_icmp_ge X.1 X.2.1 hdg ht (fun h => kt (by simpa only [zI_le hx hy, zI_le hy hx, ne_eq, Decidable.not_not] using h) H locs cells slots ls hV hS hl hc hs) (fun h => kf (by simpa only [zI_le hx hy, zI_le hy hx, ne_eq, Decidable.not_not] using h) H locs cells slots ls hV hS hl hc hs)
theorem zr_icmp_gt (X : zK C l0 Γ0 n0 own cc ws d ret Post) (n1 n2 : Nat) {off x y : Int} (hdg : decode cc pc = .ok (.if_icmp .gt off, 3)) (ht : (pc : Int) + off = (n1 : Int)) (hn : pc + 3 = n2) (hx : -2147483648 ≤ x ∧ x ≤ 2147483647) (hy : -2147483648 ≤ y ∧ y ≤ 2147483647) (kt : y < x → zG C V kc ks n1 lv rest) (kf : ¬ (y < x) → zG C V kc ks n2 lv rest) : zG C V kc ks pc lv (.int (zI y) :: .int (zI x) :: rest) := by
  obtain ⟨⟨p, l, e, R, s, m, args, below, meth, c⟩, Γ, ⟨nL, mc, ms⟩, Q⟩ := C
  subst hn
  intro H locs cells slots ls hV hS hl hc hs
  exact lv_icmp_gt X.1 X.2.1 hdg ht (fun h => kt (by simpa only [zI_lt hx hy, zI_lt hy hx, ne_eq, Decidable.not_not] using h) H locs cells slots ls hV hS hl hc hs) (fun h => kf (by simpa only [zI_lt hx hy, zI_lt hy hx, ne_eq, Decidable.not_not] using h) H locs cells slots ls hV hS hl hc hs)
theorem zr_icmp_le (X : zK C l0 Γ0 n0 own cc ws d ret Post) (n1 n2 : Nat) {off x y : Int} (hdg : decode cc pc = .ok (.if_icmp .le off, 3)) (ht : (pc : Int) + off = (n1 : Int)) (hn : pc + 3 = n2) (hx : -2147483648 ≤ x ∧ x ≤ 2147483647) (hy : -2147483648 ≤ y ∧ y ≤ 2147483647) (kt : x ≤ y → zG C V kc ks n1 lv rest) (kf : ¬ (x ≤ y) → zG C V kc ks n2 lv rest) : zG C V kc ks pc lv (.int (zI y) :: .int (zI x) :: rest) := by
  obtain ⟨⟨p, l, e, R, s, m, args, below, meth, c⟩, Γ, ⟨nL, mc, ms⟩, Q⟩ := C
  subst hn
  intro H locs cells slots ls hV hS hl hc hs
  exact lv_icmp_le X.1 X.2.1 hdg ht (fun h => kt (by simpa only [zI_le hx hy, zI_le hy hx, ne_eq, Decidable.not_not] using h) H locs cells slots ls hV hS hl hc hs) (fun h => kf (by simpa only [zI_le hx hy, zI_le hy hx, ne_eq, Decidable.not_not] using h) H locs cells slots ls hV hS hl hc hs)
/-! fields -/
theorem zr_get (X : zK C l0 Γ0 n0 own cc ws d ret Post) (n' ci k : Nat) {index a tg N : Nat} {fs : List Value} {C' ref : String} {T : u_T} {v : Value} (hV : V a = some (tg, .inr (ci, fs))) (hc : vwCl[ci]? = some (C', T, N)) (hin : ∀ w ∈ u_ws C' T N, w ∈ ws) (hk : k < N) (hlink : Cond.fieldLink own index ref (T k).2.1 (T k).2.2.1 ∈ ws) (hsame : ref = (T k).1) (hv : fs[k]? = some v) (hdg : decode cc pc = .ok (.getfield index, 3)) (hn : pc + 3 = n') (kk : zG C V kc ks n' lv (v :: rest)) : zG C V kc ks pc lv (.ref a :: rest) := by
  obtain ⟨⟨p, l, e, R, s, m, args, below, meth, c⟩, Γ, ⟨nL, mc, ms⟩, Q⟩ := C
  obtain ⟨hx, hb, hml, hown, hts, hO, hB0, hlk, hret, hmc, hms, hdf, hdl, hQ, rfl, rfl, rfl⟩ := X
  subst hn
  subst hsame
  have hVa := hV
  intro H locs cells slots ls hV hS hl hcc hs
  have hV0 := hV
  obtain ⟨W0, hL, hP, hD⟩ := hV
  obtain ⟨q0, hq⟩ := (hL _ _).mp (zd_of hVa)
  exact va_get hx hb hts hin hown hO.1 hP q0 hq hc k hk (hts _ hlink) (fun _ h9 => h9) hv hdg (kk H locs cells slots ls hV0 hS hl hcc hs)
theorem zr_put (X : zK C l0 Γ0 n0 own cc ws d ret Post) (n' ci k : Nat) (fs' : List Value) {index a tg N : Nat} {fs : List Value} {C' ref : String} {T : u_T} {v : Value} (ty0 : Nat → FieldType) (hV : V a = some (tg, .inr (ci, fs))) (hc : vwCl[ci]? = some (C', T, N)) (hin : ∀ w ∈ u_ws C' T N, w ∈ ws) (hty : ∀ k, k < N → parseFieldDescriptor (T k).2.2.1 = some (ty0 k)) (hnm : ∀ a, a < N → ∀ b, b < N → a ≠ b → (T a).2.1 ≠ (T b).2.1) (hk : k < N) (hlink : Cond.fieldLink own index ref (T k).2.1 (T k).2.2.1 ∈ ws) (hsame : ref = (T k).1) (hfin : (T k).2.2.2 = false) (hn : narrow (ty0 k) v = v) (hfit : fits (ty0 k) v = true) (hl : k < fs.length) (hfs : fs.set k v = fs') (hdg : decode cc pc = .ok (.putfield index, 3)) (hn : pc + 3 = n') (kk : zG C (zu V a tg (.inr (ci, fs'))) kc ks n' lv rest) : zG C V kc ks pc lv (v :: .ref a :: rest) := by
  obtain ⟨⟨p, l, e, R, s, m, args, below, meth, c⟩, Γ, ⟨nL, mc, ms⟩, Q⟩ := C
  obtain ⟨hx, hb, hml, hown, hts, hO, hB0, hlk, hret, hmc, hms, hdf, hdl, hQ, rfl, rfl, rfl⟩ := X
  subst hn
  subst hsame
  subst hfs
  have hVa := hV
  intro H locs cells slots ls hV hS hl' hcc hs
  obtain ⟨W0, hL, hP, hD⟩ := hV
  obtain ⟨q0, hq⟩ := (hL _ _).mp (zd_of hVa)
  exact va_put hx hb hts hin ty0 hty hnm hown hO.1 hP hD hS q0 hq hc k hk (hts _ hlink) (fun _ h9 => h9) hfin (hty k hk) ‹narrow (ty0 k) v = v› hfit hl hdg (fun H1 locs1 hP1 hD1 hS1 => kk H1 locs1 cells slots ls ⟨_, by rw [zd_zu]; exact hL.set hD hq, hP1, hD1⟩ hS1 hl' hcc hs)
/-- the method is a constructor of class own -/
def zI0 (C : zC) : Prop := C.1.2.2.2.2.2.2.2.2.1.name = "<init>"
theorem zr_putF (X : zK C l0 Γ0 n0 own cc ws d ret Post) (n' ci k : Nat) (fs' : List Value) {index a tg N : Nat} {fs : List Value} {C' ref : String} {T : u_T} {v : Value} (ty0 : Nat → FieldType) (hi0 : zI0 C) (hV : V a = some (tg, .inr (ci, fs))) (hc : vwCl[ci]? = some (C', T, N)) (hin : ∀ w ∈ u_ws C' T N, w ∈ ws) (hty : ∀ k, k < N → parseFieldDescriptor (T k).2.2.1 = some (ty0 k)) (hnm : ∀ a, a < N → ∀ b, b < N → a ≠ b → (T a).2.1 ≠ (T b).2.1) (hk : k < N) (hlink : Cond.fieldLink own index ref (T k).2.1 (T k).2.2.1 ∈ ws) (hsame : ref = (T k).1) (hfin : (T k).2.2.2 = true) (hdecl : (T k).1 = own) (hn : narrow (ty0 k) v = v) (hfit : fits (ty0 k) v = true) (hl : k < fs.length) (hfs : fs.set k v = fs') (hdg : decode cc pc = .ok (.putfield index, 3)) (hn : pc + 3 = n') (kk : zG C (zu V a tg (.inr (ci, fs'))) kc ks n' lv rest) : zG C V kc ks pc lv (v :: .ref a :: rest) := by
  obtain ⟨⟨p, l, e, R, s, m, args, below, meth, c⟩, Γ, ⟨nL, mc, ms⟩, Q⟩ := C
  obtain ⟨hx, hb, hml, hown, hts, hO, hB0, hlk, hret, hmc, hms, hdf, hdl, hQ, rfl, rfl, rfl⟩ := X
  subst hn
  subst hsame
  subst hfs
  have hVa := hV
  intro H locs cells slots ls hV hS hl' hcc hs
  obtain ⟨W0, hL, hP, hD⟩ := hV
  obtain ⟨q0, hq⟩ := (hL _ _).mp (zd_of hVa)
  exact va_putF hx hb hts hin ty0 hty hnm hown hO.1 hP hD hS q0 hq hc k hk (hts _ hlink) (fun _ h9 => h9) hfin hi0 hdecl (hty k hk) ‹narrow (ty0 k) v = v› hfit hl hdg (fun H1 locs1 hP1 hD1 hS1 => kk H1 locs1 cells slots ls ⟨_, by rw [zd_zu]; exact hL.set hD hq, hP1, hD1⟩ hS1 hl' hcc hs)
/-! arrays of ints, chars, bytes: contents a function into Int -/
def za (aC : Nat → ClassId) (t n : Nat) (f : Nat → Int) : va_E := .inl (aC t, n, .inl (fun j => zI (f j)))
def zq (aC : Nat → ClassId) (t n : Nat) (f : Nat → Option Nat) : va_E := .inl (aC t, n, .inr (.inr (.inr (.inr f))))
def zf (f : Nat → Int) (i : Nat) (x : Int) : Nat → Int := fun j => if j = i then x else f j
theorem zf_upd (f : Nat → Int) (i : Nat) (x : Int) : upd (fun j => zI (f j)) i (zI x) = fun j => zI (zf f i x j) := by
  funext j
  unfold upd zf
  by_cases h : j = i <;> simp [h]
theorem zr_alen (X : zK C l0 Γ0 n0 own cc ws d ret Post) (n' t : Nat) {a tg n : Nat} {f : Nat → Int} (hV : V a = some (tg, za Γ0.2.1 t n f)) (ht : t < 5) (hdg : decode cc pc = .ok (.arraylength, 1)) (hn : pc + 1 = n') (kk : zG C V kc ks n' lv (.int (zI n) :: rest)) : zG C V kc ks pc lv (.ref a :: rest) := by
  obtain ⟨⟨p, l, e, R, s, m, args, below, meth, c⟩, Γ, ⟨nL, mc, ms⟩, Q⟩ := C
  obtain ⟨hx, hb, hml, hown, hts, hO, hB0, hlk, hret, hmc, hms, hdf, hdl, hQ, rfl, rfl, rfl⟩ := X
  subst hn
  have hVa := hV
  intro H locs cells slots ls hV hS hl hcc hs
  have hV0 := hV
  obtain ⟨W0, hL, hP, hD⟩ := hV
  obtain ⟨q0, hq⟩ := (hL _ _).mp (zd_of hVa)
  have hty : ∃ ty, (zt Γ.2.1)[t]? = some (Γ.2.1 t, ty) := by
    rcases (by omega : t = 0 ∨ t = 1 ∨ t = 2 ∨ t = 3 ∨ t = 4) with h | h | h | h | h <;> subst h <;> exact ⟨_, rfl⟩
  obtain ⟨ty, hty⟩ := hty
  exact va_alen hx hb hO.1 hP q0 t hq hty (zI_nat n) hdg (kk H locs cells slots ls hV0 hS hl hcc hs)
theorem zr_alenq (X : zK C l0 Γ0 n0 own cc ws d ret Post) (n' t : Nat) {a tg n : Nat} {f : Nat → Option Nat} (hV : V a = some (tg, zq Γ0.2.1 t n f)) (ht : t < 5) (hdg : decode cc pc = .ok (.arraylength, 1)) (hn : pc + 1 = n') (kk : zG C V kc ks n' lv (.int (zI n) :: rest)) : zG C V kc ks pc lv (.ref a :: rest) := by
  obtain ⟨⟨p, l, e, R, s, m, args, below, meth, c⟩, Γ, ⟨nL, mc, ms⟩, Q⟩ := C
  obtain ⟨hx, hb, hml, hown, hts, hO, hB0, hlk, hret, hmc, hms, hdf, hdl, hQ, rfl, rfl, rfl⟩ := X
  subst hn
  have hVa := hV
  intro H locs cells slots ls hV hS hl hcc hs
  have hV0 := hV
  obtain ⟨W0, hL, hP, hD⟩ := hV
  obtain ⟨q0, hq⟩ := (hL _ _).mp (zd_of hVa)
  have hty : ∃ ty, (zt Γ.2.1)[t]? = some (Γ.2.1 t, ty) := by
    rcases (by omega : t = 0 ∨ t = 1 ∨ t = 2 ∨ t = 3 ∨ t = 4) with h | h | h | h | h <;> subst h <;> exact ⟨_, rfl⟩
  obtain ⟨ty, hty⟩ := hty
  exact va_alen hx hb hO.1 hP q0 t hq hty (zI_nat n) hdg (kk H locs cells slots ls hV0 hS hl hcc hs)
theorem zr_iald (X : zK C l0 Γ0 n0 own cc ws d ret Post) (n' : Nat) {a tg n : Nat} {f : Nat → Int} {i : Int} (hV : V a = some (tg, za Γ0.2.1 0 n f)) (h0 : 0 ≤ i ∧ i < n ∧ i ≤ 2147483647) (hdg : decode cc pc = .ok (.iaload, 1)) (hn : pc + 1 = n') (kk : zG C V kc ks n' lv (.int (zI (f i.toNat)) :: rest)) : zG C V kc ks pc lv (.int (zI i) :: .ref a :: rest) := by
  obtain ⟨⟨p, l, e, R, s, m, args, below, meth, c⟩, Γ, ⟨nL, mc, ms⟩, Q⟩ := C
  obtain ⟨hx, hb, hml, hown, hts, hO, hB0, hlk, hret, hmc, hms, hdf, hdl, hQ, rfl, rfl, rfl⟩ := X
  subst hn
  have hVa := hV
  intro H locs cells slots ls hV hS hl hcc hs
  have hV0 := hV
  obtain ⟨W0, hL, hP, hD⟩ := hV
  obtain ⟨q0, hq⟩ := (hL _ _).mp (zd_of hVa)
  have k1 := kk H locs cells slots ls hV0 hS hl hcc hs
  rw [← zI_clamp h0.1 h0.2.2] at k1
  exact va_iald hx hb hO.1 hP q0 0 hq rfl (zI_in h0.1 h0.2.1 h0.2.2) hdg k1
theorem zr_cald (X : zK C l0 Γ0 n0 own cc ws d ret Post) (n' : Nat) {a tg n : Nat} {f : Nat → Int} {i : Int} (hV : V a = some (tg, za Γ0.2.1 1 n f)) (h0 : 0 ≤ i ∧ i < n ∧ i ≤ 2147483647) (hdg : decode cc pc = .ok (.caload, 1)) (hn : pc + 1 = n') (kk : zG C V kc ks n' lv (.int (zI (f i.toNat)) :: rest)) : zG C V kc ks pc lv (.int (zI i) :: .ref a :: rest) := by
  obtain ⟨⟨p, l, e, R, s, m, args, below, meth, c⟩, Γ, ⟨nL, mc, ms⟩, Q⟩ := C
  obtain ⟨hx, hb, hml, hown, hts, hO, hB0, hlk, hret, hmc, hms, hdf, hdl, hQ, rfl, rfl, rfl⟩ := X
  subst hn
  have hVa := hV
  intro H locs cells slots ls hV hS hl hcc hs
  have hV0 := hV
  obtain ⟨W0, hL, hP, hD⟩ := hV
  obtain ⟨q0, hq⟩ := (hL _ _).mp (zd_of hVa)
  have k1 := kk H locs cells slots ls hV0 hS hl hcc hs
  rw [← zI_clamp h0.1 h0.2.2] at k1
  exact va_cald hx hb hO.1 hP q0 1 hq rfl (zI_in h0.1 h0.2.1 h0.2.2) hdg k1
theorem zr_bald (X : zK C l0 Γ0 n0 own cc ws d ret Post) (n' : Nat) {a tg n : Nat} {f : Nat → Int} {i : Int} (hV : V a = some (tg, za Γ0.2.1 2 n f)) (h0 : 0 ≤ i ∧ i < n ∧ i ≤ 2147483647) (hdg : decode cc pc = .ok (.baload, 1)) (hn : pc + 1 = n') (kk : zG C V kc ks n' lv (.int (zI (f i.toNat)) :: rest)) : zG C V kc ks pc lv (.int (zI i) :: .ref a :: rest) := by
  obtain ⟨⟨p, l, e, R, s, m, args, below, meth, c⟩, Γ, ⟨nL, mc, ms⟩, Q⟩ := C
  obtain ⟨hx, hb, hml, hown, hts, hO, hB0, hlk, hret, hmc, hms, hdf, hdl, hQ, rfl, rfl, rfl⟩ := X
  subst hn
  have hVa := hV
  intro H locs cells slots ls hV hS hl hcc hs
  have hV0 := hV
  obtain ⟨W0, hL, hP, hD⟩ := hV
  obtain ⟨q0, hq⟩ := (hL _ _).mp (zd_of hVa)
  have k1 := kk H locs cells slots ls hV0 hS hl hcc hs
  rw [← zI_clamp h0.1 h0.2.2] at k1
  exact va_bald hx hb hO.1 hP q0 2 hq rfl (zI_in h0.1 h0.2.1 h0.2.2) hdg k1
theorem zr_iast (X : zK C l0 Γ0 n0 own cc ws d ret Post) (n' : Nat) {a tg n : Nat} {f : Nat → Int} {i x : Int} (hV : V a = some (tg, za Γ0.2.1 0 n f)) (h0 : 0 ≤ i ∧ i < n ∧ i ≤ 2147483647)  (hdg : decode cc pc = .ok (.iastore, 1)) (hn : pc + 1 = n') (kk : zG C (zu V a tg (za Γ0.2.1 0 n (zf f i.toNat x))) kc ks n' lv rest) : zG C V kc ks pc lv (.int (zI x) :: .int (zI i) :: .ref a :: rest) := by
  obtain ⟨⟨p, l, e, R, s, m, args, below, meth, c⟩, Γ, ⟨nL, mc, ms⟩, Q⟩ := C
  obtain ⟨hx, hb, hml, hown, hts, hO, hB0, hlk, hret, hmc, hms, hdf, hdl, hQ, rfl, rfl, rfl⟩ := X
  subst hn
  have hVa := hV
  intro H locs cells slots ls hV hS hl hcc hs
  obtain ⟨W0, hL, hP, hD⟩ := hV
  obtain ⟨q0, hq⟩ := (hL _ _).mp (zd_of hVa)
  refine va_iast hx hb hO.1 hP hD hS q0 0 hq rfl (zI_in h0.1 h0.2.1 h0.2.2) hdg (fun H1 locs1 hP1 hD1 hS1 => ?_)
  rw [zI_clamp h0.1 h0.2.2, zf_upd] at hP1 hD1
  exact kk H1 locs1 cells slots ls ⟨_, by rw [zd_zu]; exact hL.set hD hq, hP1, hD1⟩ hS1 hl hcc hs
theorem zI_nar_c {x : Int} (hr : 0 ≤ x ∧ x ≤ 65535) : vp_nar .char (zI x) = zI x := by
  obtain ⟨n, rfl⟩ := Int.eq_ofNat_of_zero_le hr.1
  have e : zI (n : Int) = nI n := (zI_nat n).symm
  rw [e]
  exact Value.int.inj (pk_charN (q := n) (by omega)).1
theorem zI_nar_b {x : Int} (hr : -128 ≤ x ∧ x ≤ 127) : vp_nar .byte (zI x) = zI x := by
  show (zI x).toInt8.toInt32 = zI x
  rw [← Int32.toInt_inj, zI_toInt x (by omega)]
  unfold zI
  rw [Int8.toInt_toInt32, Int32.toInt8_ofInt, Int8.toInt_ofInt]
  have e : ((Int8.size : Nat) : Int) = 256 := rfl
  rw [Int.bmod_eq_of_le] <;> rw [e] <;> omega
theorem zr_cast (X : zK C l0 Γ0 n0 own cc ws d ret Post) (n' : Nat) {a tg n : Nat} {f : Nat → Int} {i x : Int} (hV : V a = some (tg, za Γ0.2.1 1 n f)) (h0 : 0 ≤ i ∧ i < n ∧ i ≤ 2147483647) (hr : 0 ≤ x ∧ x ≤ 65535) (hdg : decode cc pc = .ok (.castore, 1)) (hn : pc + 1 = n') (kk : zG C (zu V a tg (za Γ0.2.1 1 n (zf f i.toNat x))) kc ks n' lv rest) : zG C V kc ks pc lv (.int (zI x) :: .int (zI i) :: .ref a :: rest) := by
  obtain ⟨⟨p, l, e, R, s, m, args, below, meth, c⟩, Γ, ⟨nL, mc, ms⟩, Q⟩ := C
  obtain ⟨hx, hb, hml, hown, hts, hO, hB0, hlk, hret, hmc, hms, hdf, hdl, hQ, rfl, rfl, rfl⟩ := X
  subst hn
  have hVa := hV
  intro H locs cells slots ls hV hS hl hcc hs
  obtain ⟨W0, hL, hP, hD⟩ := hV
  obtain ⟨q0, hq⟩ := (hL _ _).mp (zd_of hVa)
  refine va_cast hx hb hO.1 hP hD hS q0 1 hq rfl (zI_in h0.1 h0.2.1 h0.2.2) hdg (fun H1 locs1 hP1 hD1 hS1 => ?_)
  rw [zI_nar_c hr] at hP1 hD1
  rw [zI_clamp h0.1 h0.2.2, zf_upd] at hP1 hD1
  exact kk H1 locs1 cells slots ls ⟨_, by rw [zd_zu]; exact hL.set hD hq, hP1, hD1⟩ hS1 hl hcc hs
theorem zr_bast (X : zK C l0 Γ0 n0 own cc ws d ret Post) (n' : Nat) {a tg n : Nat} {f : Nat → Int} {i x : Int} (hV : V a = some (tg, za Γ0.2.1 2 n f)) (h0 : 0 ≤ i ∧ i < n ∧ i ≤ 2147483647) (hr : -128 ≤ x ∧ x ≤ 127) (hdg : decode cc pc = .ok (.bastore, 1)) (hn : pc + 1 = n') (kk : zG C (zu V a tg (za Γ0.2.1 2 n (zf f i.toNat x))) kc ks n' lv rest) : zG C V kc ks pc lv (.int (zI x) :: .int (zI i) :: .ref a :: rest) := by
  obtain ⟨⟨p, l, e, R, s, m, args, below, meth, c⟩, Γ, ⟨nL, mc, ms⟩, Q⟩ := C
  obtain ⟨hx, hb, hml, hown, hts, hO, hB0, hlk, hret, hmc, hms, hdf, hdl, hQ, rfl, rfl, rfl⟩ := X
  subst hn
  have hVa := hV
  intro H locs cells slots ls hV hS hl hcc hs
  obtain ⟨W0, hL, hP, hD⟩ := hV
  obtain ⟨q0, hq⟩ := (hL _ _).mp (zd_of hVa)
  refine va_bast hx hb hO.1 hP hD hS q0 2 hq rfl (zI_in h0.1 h0.2.1 h0.2.2) hdg (fun H1 locs1 hP1 hD1 hS1 => ?_)
  rw [zI_nar_b hr] at hP1 hD1
  rw [zI_clamp h0.1 h0.2.2, zf_upd] at hP1 hD1
  exact kk H1 locs1 cells slots ls ⟨_, by rw [zd_zu]; exact hL.set hD hq, hP1, hD1⟩ hS1 hl hcc hs
theorem W.zmono {p : Program} {l : Launch} {e : Env} {R : Room} {s : State} {m : MethodId} {args : Array Value} {below : List Frame} {meth : Method} {c : Code} {H : Heap} {locs : List Loc} {cells slots : Nat} {Q Q' : State → Prop} {g : JFrame} (h : ∀ t, Q t → Q' t) (k : W p l e R s m args below meth c H locs cells slots Q g) : W p l e R s m args below meth c H locs cells slots Q' g := by
  intro T hT X
  obtain ⟨t, a, b⟩ := k T hT X
  exact ⟨t, a, h t b⟩
/-! ends -/
theorem zr_iret (X : zK C l0 Γ0 n0 own cc ws d ret Post) {x : Int32} (hr : ret = some .int) (hp : Post (some (.int x)) V) (hdg : decode cc pc = .ok (.ireturn, 1)) : zG C V kc ks pc lv [.int x] := by
  obtain ⟨⟨p, l, e, R, s, m, args, below, meth, c⟩, Γ, ⟨nL, mc, ms⟩, Q⟩ := C
  obtain ⟨hx, hb, hml, hown, hts, hO, hB0, hlk, hret, hmc, hms, hdf, hdl, hQ, rfl, rfl, rfl⟩ := X
  intro H locs cells slots ls hV hS hl hcc hs
  refine W.widen (k := mc) (n := ms) (by omega) (by omega) (W.zmono hQ ?_)
  exact W.iret (v := x) hx hb (by rw [hret, hr]) (fun t ht hW => ⟨⟨_, V, rfl, hp, by rw [ht]; exact hV⟩, hS.F ht⟩) hS.2.2 hdg hlk
theorem zr_zret (X : zK C l0 Γ0 n0 own cc ws d ret Post) {x : Int32} {ty : FieldType} (hr : ret = some ty) (hnw : narrow ty (.int x) = .int x) (hp : Post (some (.int x)) V) (hdg : decode cc pc = .ok (.ireturn, 1)) : zG C V kc ks pc lv [.int x] := by
  obtain ⟨⟨p, l, e, R, s, m, args, below, meth, c⟩, Γ, ⟨nL, mc, ms⟩, Q⟩ := C
  obtain ⟨hx, hb, hml, hown, hts, hO, hB0, hlk, hret, hmc, hms, hdf, hdl, hQ, rfl, rfl, rfl⟩ := X
  intro H locs cells slots ls hV hS hl hcc hs
  refine W.widen (k := mc) (n := ms) (by omega) (by omega) (W.zmono hQ ?_)
  exact W.zret (v := x) hx hb (by rw [hret, hr]) hnw (fun t ht hW => ⟨⟨_, V, rfl, hp, by rw [ht]; exact hV⟩, hS.F ht⟩) hS.2.2 hdg hlk
theorem zr_lret (X : zK C l0 Γ0 n0 own cc ws d ret Post) {x : Int64} (hr : ret = some .long) (hp : Post (some (.long x)) V) (hdg : decode cc pc = .ok (.lreturn, 1)) : zG C V kc ks pc lv [.long x] := by
  obtain ⟨⟨p, l, e, R, s, m, args, below, meth, c⟩, Γ, ⟨nL, mc, ms⟩, Q⟩ := C
  obtain ⟨hx, hb, hml, hown, hts, hO, hB0, hlk, hret, hmc, hms, hdf, hdl, hQ, rfl, rfl, rfl⟩ := X
  intro H locs cells slots ls hV hS hl hcc hs
  refine W.widen (k := mc) (n := ms) (by omega) (by omega) (W.zmono hQ ?_)
  exact W.lret (v := x) hx hb (by rw [hret, hr]) (fun t ht hW => ⟨⟨_, V, rfl, hp, by rw [ht]; exact hV⟩, hS.F ht⟩) hS.2.2 hdg hlk
theorem zr_vret (X : zK C l0 Γ0 n0 own cc ws d ret Post) (hr : ret = none) (hp : Post none V) (hdg : decode cc pc = .ok (.return_, 1)) : zG C V kc ks pc lv [] := by
  obtain ⟨⟨p, l, e, R, s, m, args, below, meth, c⟩, Γ, ⟨nL, mc, ms⟩, Q⟩ := C
  obtain ⟨hx, hb, hml, hown, hts, hO, hB0, hlk, hret, hmc, hms, hdf, hdl, hQ, rfl, rfl, rfl⟩ := X
  intro H locs cells slots ls hV hS hl hcc hs
  refine W.widen (k := mc) (n := ms) (by omega) (by omega) (W.zmono hQ ?_)
  exact W.vret hx hb (by rw [hret, hr]) (fun t ht hW => ⟨⟨_, V, rfl, hp, by rw [ht]; exact hV⟩, hS.F ht⟩) hS.2.2 hdg hlk
theorem zr_aret (X : zK C l0 Γ0 n0 own cc ws d ret Post) {x : Nat} {rt : FieldType} (hr : ret = some rt) (hrt : (∃ n, rt = .object n) ∨ ∃ t, rt = .array t) (hp : Post (some (.ref x)) V) (hdg : decode cc pc = .ok (.areturn, 1)) : zG C V kc ks pc lv [.ref x] := by
  obtain ⟨⟨p, l, e, R, s, m, args, below, meth, c⟩, Γ, ⟨nL, mc, ms⟩, Q⟩ := C
  obtain ⟨hx, hb, hml, hown, hts, hO, hB0, hlk, hret, hmc, hms, hdf, hdl, hQ, rfl, rfl, rfl⟩ := X
  intro H locs cells slots ls hV hS hl hcc hs
  refine W.widen (k := mc) (n := ms) (by omega) (by omega) (W.zmono hQ ?_)
  exact W.aret (v := .ref x) hx hb (by rw [hret, hr]) hrt (Or.inr ⟨_, rfl⟩) (fun t ht hW => ⟨⟨_, V, rfl, hp, by rw [ht]; exact hV⟩, hS.F ht⟩) hS.2.2 hdg hlk
/-! calls -/
theorem zO_call {Γ : zGam} {s U : State} {H : Heap} {locs : List Loc} (hO : zO Γ s s.heap) (hS : va_S (zA Γ.2.2.2) s.heap H locs) (hU : U.heap = H) (hW : s.WarmedH U.vm) : zO Γ U U.heap := by
  rw [hU]
  exact (hO.kept (fun a h1 h2 => hS.2.1 a h1 h2)).warm hW
theorem zRunG (X : zK C l0 Γ0 n0 own cc ws d ret Post) {mc' ms' n' : Nat} {st : List Value} {a : Array Value} {P' : Option Value → zV → Prop} {rest : List Value}
    (hr : ∀ (H : Heap) (locs : List Loc) (cells slots : Nat) (ls : Array Slot), zH Γ0 V H → va_S (zA Γ0.2.2.2) C.1.2.2.2.2.1.heap H locs → lv_has ls n0 lv → cells + mc' ≤ C.2.2.1.2.1 → slots + ms' ≤ C.2.2.1.2.2 →
      va_Run C.1.1 C.1.2.1 C.1.2.2.1 C.1.2.2.2.1 C.1.2.2.2.2.1 C.1.2.2.2.2.2.1 C.1.2.2.2.2.2.2.1 C.1.2.2.2.2.2.2.2.1 C.1.2.2.2.2.2.2.2.2.1 C.1.2.2.2.2.2.2.2.2.2 H locs cells slots mc' ms' (F0 C.1.2.2.2.2.2.1 pc ls st) rest (zQ Γ0 P' a) (zA Γ0.2.2.2))
    (hn : pc + 3 = n') {kc' ks' : Nat} (hkc : kc' + mc' ≤ kc) (hks : ks' + ms' ≤ ks) (kk : ∀ (rv : Option Value) (V' : zV), P' rv V' → zG C V' kc' ks' n' lv (rv.toList ++ rest)) : zG C V kc ks pc lv st := by
  obtain ⟨⟨p, l, e, R, s, m, args, below, meth, c⟩, Γ, ⟨nL, mc, ms⟩, Q⟩ := C
  obtain ⟨hx, hb, hml, hown, hts, hO, hB0, hlk, hret, hmc, hms, hdf, hdl, hQ, rfl, rfl, rfl⟩ := X
  subst hn
  intro H locs cells slots ls hV hS hl hcc hs T hT X
  dsimp only at hr
  obtain ⟨v, st₀, t, T', L, h0, X', hL, e1, e2, ⟨⟨rv, V', hv, hp, hH⟩, hF⟩, sg⟩ := hr H locs cells slots ls hV hS hl (by omega) (by omega) T hT X
  cases hv
  obtain ⟨k1, k2, k3⟩ := vx_keep h0 e1 hS (fun _ _ h => h) (fun _ h => h) hL hF
  obtain ⟨t2, a1, b1⟩ := kk v V' hp T'.heap (locs ++ L) (cells + mc') (slots + ms') ls (by rw [e1]; exact hH) k3 hl (by omega) (by omega) T' rfl X'
  exact ⟨t2, sg t2 a1, b1⟩
theorem zrm {d d' maxL R1 R2 : Nat} (h : d' + 1 ≤ d ∧ maxL ≤ 41) (h1 : d ≤ R1) (h2 : 60 * d ≤ R2) : d' + 1 ≤ R1 ∧ 8 + (maxL + 11) + 60 * d' ≤ R2 := by omega
theorem zr_callV (X : zK C l0 Γ0 n0 own cc ws d ret Post) (n' nA : Nat) {index maxL d' mc' ms' b ci tg N kc' ks' : Nat} {CC : String} {y : MethodName} {bytes : ByteArray} {rt : Option FieldType} {wsy wsy' : List Cond} {fs As : List Value} {P' : Option Value → zV → Prop} {TT : u_T} {st : List Value}
    (hM : zM l0 Γ0 d' y wsy mc' ms' V (.ref b :: As) P') (hT : GoodIn ws (wsV own index CC y wsy)) (hw : wsy = Cond.code y bytes maxL rt :: wsy')
    (hd : y.cls = CC ∧ y.cls ≠ "java/lang/invoke/MethodHandle" ∧ y.cls ≠ "java/lang/invoke/VarHandle" ∧ (parseMethodDescriptor y.desc).map (fun d => d.parameters.length) = some nA) (hA : As.length = nA) (hdd : d' + 1 ≤ d ∧ maxL ≤ 41)
    (hV : V b = some (tg, .inr (ci, fs))) (hc : vwCl[ci]? = some (CC, TT, N)) (hst : st = As.reverse ++ .ref b :: rest) (hcat : (rest.map fun v => v.category).sum ≤ 8)
    (hdg : decode cc pc = .ok (.invokevirtual index, 3)) (hn : pc + 3 = n') (hkc : kc' + mc' ≤ kc) (hks : ks' + ms' ≤ ks) (kk : ∀ (rv : Option Value) (V' : zV), P' rv V' → zG C V' kc' ks' n' lv (rv.toList ++ rest)) : zG C V kc ks pc lv st := by
  subst hst
  refine zRunG X (a := (Value.ref b :: As).toArray) (P' := P') (rest := rest) ?_ hn hkc hks kk
  clear kk
  obtain ⟨⟨p, l, e, R, s, m, args, below, meth, c⟩, Γ, ⟨nL, mc, ms⟩, Q⟩ := C
  obtain ⟨hx, hb, hml, hown, hts, hO, hB0, hlk, hret, hmc, hms, hdf, hdl, hQ, rfl, rfl, rfl⟩ := X
  intro H locs cells slots ls hH hS hl hcc hs
  have hcc : cells + mc' ≤ mc := hcc
  have hs : slots + ms' ≤ ms := hs
  have hH0 := hH
  obtain ⟨W0, hL, hP, hD⟩ := hH
  obtain ⟨q0, hq⟩ := (hL _ _).mp (zd_of hV)
  exact va_runV ⟨hx, hb, hml, hown, hts⟩ hM (cwV nA hts hT hw rfl rfl hd (zrm hdd hdf hdl)) ⟨zPc.blind, va_recv hO.1 hP hc hq, fun U hU hW => ⟨rfl, by rw [hU]; exact Nat.le_trans hB0 hS.1, by rw [hU]; exact hH0, zO_call hO hS hU hW⟩⟩ rfl hA hl.1 rfl (lv_room hcat) hdg ⟨Nat.le_trans hcc hmc, Nat.le_trans hs hms⟩
theorem zr_callS (X : zK C l0 Γ0 n0 own cc ws d ret Post) (n' nA : Nat) {index maxL d' mc' ms' kc' ks' : Nat} {y : MethodName} {bytes : ByteArray} {rt : Option FieldType} {wsy wsy' : List Cond} {As : List Value} {P' : Option Value → zV → Prop} {st : List Value}
    (hM : zM l0 Γ0 d' y wsy mc' ms' V As P') (hT : GoodIn ws (va_wsS own index y wsy)) (hw : wsy = Cond.code y bytes maxL rt :: wsy')
    (hd : y.cls ≠ "java/lang/invoke/MethodHandle" ∧ y.cls ≠ "java/lang/invoke/VarHandle" ∧ (parseMethodDescriptor y.desc).map (fun d => d.parameters.length) = some nA) (hA : As.length = nA) (hdd : d' + 1 ≤ d ∧ maxL ≤ 41)
    (hst : st = As.reverse ++ rest) (hcat : (rest.map fun v => v.category).sum ≤ 8)
    (hdg : decode cc pc = .ok (.invokestatic index, 3)) (hn : pc + 3 = n') (hkc : kc' + mc' ≤ kc) (hks : ks' + ms' ≤ ks) (kk : ∀ (rv : Option Value) (V' : zV), P' rv V' → zG C V' kc' ks' n' lv (rv.toList ++ rest)) : zG C V kc ks pc lv st := by
  subst hst
  refine zRunG X (a := As.toArray) (P' := P') (rest := rest) ?_ hn hkc hks kk
  clear kk
  obtain ⟨⟨p, l, e, R, s, m, args, below, meth, c⟩, Γ, ⟨nL, mc, ms⟩, Q⟩ := C
  obtain ⟨hx, hb, hml, hown, hts, hO, hB0, hlk, hret, hmc, hms, hdf, hdl, hQ, rfl, rfl, rfl⟩ := X
  intro H locs cells slots ls hH hS hl hcc hs
  have hcc : cells + mc' ≤ mc := hcc
  have hs : slots + ms' ≤ ms := hs
  exact va_runS ⟨hx, hb, hml, hown, hts⟩ hM (va_cwS nA hts hT hw rfl rfl hd (zrm hdd hdf hdl)) ⟨zPc.blind, fun U hU hW => ⟨rfl, by rw [hU]; exact Nat.le_trans hB0 hS.1, by rw [hU]; exact hH, zO_call hO hS hU hW⟩⟩ rfl hA hl.1 rfl (lv_room hcat) hdg ⟨Nat.le_trans hcc hmc, Nat.le_trans hs hms⟩
theorem zr_callI (X : zK C l0 Γ0 n0 own cc ws d ret Post) (n' nA : Nat) {index maxL d' mc' ms' b kc' ks' : Nat} {y : MethodName} {bytes : ByteArray} {wsy wsy' : List Cond} {As : List Value} {P' : Option Value → zV → Prop} {st : List Value}
    (hM : zM l0 Γ0 d' y wsy mc' ms' V (.ref b :: As) P') (hT : GoodIn ws wsy) (hw : wsy = Cond.code y bytes maxL none :: wsy') (hini : Cond.initialized y.cls ∈ ws) (hlk0 : Cond.methodLink own index y ∈ ws) (hin : Cond.instanceMethod y ∈ ws) (hy1 : y.name = "<init>")
    (hd : y.cls ≠ "java/lang/invoke/MethodHandle" ∧ y.cls ≠ "java/lang/invoke/VarHandle" ∧ (parseMethodDescriptor y.desc).map (fun d => d.parameters.length) = some nA) (hA : As.length = nA) (hdd : d' + 1 ≤ d ∧ maxL ≤ 41)
    (hst : st = As.reverse ++ .ref b :: rest) (hcat : (rest.map fun v => v.category).sum ≤ 8)
    (hdg : decode cc pc = .ok (.invokespecial index, 3)) (hn : pc + 3 = n') (hkc : kc' + mc' ≤ kc) (hks : ks' + ms' ≤ ks) (kk : ∀ (rv : Option Value) (V' : zV), P' rv V' → zG C V' kc' ks' n' lv (rv.toList ++ rest)) : zG C V kc ks pc lv st := by
  subst hst
  refine zRunG X (a := (Value.ref b :: As).toArray) (P' := P') (rest := rest) ?_ hn hkc hks kk
  clear kk
  obtain ⟨⟨p, l, e, R, s, m, args, below, meth, c⟩, Γ, ⟨nL, mc, ms⟩, Q⟩ := C
  obtain ⟨hx, hb, hml, hown, hts, hO, hB0, hlk, hret, hmc, hms, hdf, hdl, hQ, rfl, rfl, rfl⟩ := X
  intro H locs cells slots ls hH hS hl hcc hs
  have hcc : cells + mc' ≤ mc := hcc
  have hs : slots + ms' ≤ ms := hs
  exact va_runI ⟨hx, hb, hml, hown, hts⟩ hM (cwI nA hts hT hw rfl rfl (hts _ hini) (hts _ hlk0) (hts _ hin) hy1 hd (zrm hdd hdf hdl)) ⟨zPc.blind, fun U hU hW => ⟨rfl, by rw [hU]; exact Nat.le_trans hB0 hS.1, by rw [hU]; exact hH, zO_call hO hS hU hW⟩⟩ rfl hA hl.1 rfl (lv_room hcat) hdg ⟨Nat.le_trans hcc hmc, Nat.le_trans hs hms⟩
theorem zM_of {l : Launch} {Γ : zGam} {d : Nat} {y : MethodName} {wsy ws' : List Cond} {mc ms nL : Nat} {V : zV} {av : List Value} {Post : Option Value → zV → Prop} {cc : ByteArray} {ret : Option FieldType} {own : String} (hy : plainName y.cls = true) (hw : wsy = Cond.code y cc nL ret :: ws') (hown : y.cls = own) (hle : (lg_sl av).length ≤ nL)
    (body : ∀ C : zC, zK C l Γ nL own cc wsy d ret Post → (y.name = "<init>" → zI0 C) → zG C V mc ms 0 (lv_args 0 av) []) : zM l Γ d y wsy mc ms V av Post := by
  refine Met.ofW (cc := cc) (maxL := nL) (ret := ret) hy hw ?_
  intro p e s m args below meth c s₁ B hml hv
  obtain ⟨rfl, hB0, hH, hO⟩ := hv
  subst hown
  have hl := lv_entry av (n := nL) hle
  rw [lg_entry_eq]
  exact body ((p, l, e, (headSpec wsy (zR d mc ms)).room, s, m, av.toArray, below, meth, c), Γ, (nL, mc, ms), MQ below (zQ Γ Post) av.toArray s mc ms (zA Γ.2.2.2)) ⟨B.exec, B.bytes, hml, findClass_of_methodNamed B.named, atoms_spec B.pre, hO, hB0, B.notSynchronized, B.returns, Nat.le_refl _, Nat.le_refl _, Nat.le_refl _, Nat.le_refl _, fun _ h => h, rfl, rfl, rfl⟩ (fun h => (name_of_methodNamed B.named B.method).1.trans h) s.heap [] 0 0 _ hH va_S.rf hl (by omega) (by omega)
/-! references in arrays -/
theorem zr_aald (X : zK C l0 Γ0 n0 own cc ws d ret Post) (n' : Nat) {a tg n : Nat} {f : Nat → Option Nat} {i : Int} (v : Value) (hV : V a = some (tg, zq Γ0.2.1 3 n f)) (h0 : 0 ≤ i ∧ i < n ∧ i ≤ 2147483647) (hv : va_rf (f i.toNat) = v) (hdg : decode cc pc = .ok (.aaload, 1)) (hn : pc + 1 = n') (kk : zG C V kc ks n' lv (v :: rest)) : zG C V kc ks pc lv (.int (zI i) :: .ref a :: rest) := by
  obtain ⟨⟨p, l, e, R, s, m, args, below, meth, c⟩, Γ, ⟨nL, mc, ms⟩, Q⟩ := C
  obtain ⟨hx, hb, hml, hown, hts, hO, hB0, hlk, hret, hmc, hms, hdf, hdl, hQ, rfl, rfl, rfl⟩ := X
  subst hn
  subst hv
  have hVa := hV
  intro H locs cells slots ls hV hS hl hcc hs
  have hV0 := hV
  obtain ⟨W0, hL, hP, hD⟩ := hV
  obtain ⟨q0, hq⟩ := (hL _ _).mp (zd_of hVa)
  have k1 := kk H locs cells slots ls hV0 hS hl hcc hs
  rw [← zI_clamp h0.1 h0.2.2] at k1
  exact va_aldq hx hb hO.1 hP q0 3 hq rfl (zI_in h0.1 h0.2.1 h0.2.2) hdg k1
def zg (f : Nat → Option Nat) (i : Nat) (x : Nat) : Nat → Option Nat := fun j => if j = i then some x else f j
theorem zr_aast (X : zK C l0 Γ0 n0 own cc ws d ret Post) (n' : Nat) {a tg n v tv : Nat} {f : Nat → Option Nat} {i : Int} {vs : List Value} (hV : V a = some (tg, zq Γ0.2.1 3 n f)) (hv : V v = some (tv, .inr (6, vs))) (h0 : 0 ≤ i ∧ i < n ∧ i ≤ 2147483647) (hdg : decode cc pc = .ok (.aastore, 1)) (hn : pc + 1 = n') (kk : zG C (zu V a tg (zq Γ0.2.1 3 n (zg f i.toNat v))) kc ks n' lv rest) : zG C V kc ks pc lv (.ref v :: .int (zI i) :: .ref a :: rest) := by
  obtain ⟨⟨p, l, e, R, s, m, args, below, meth, c⟩, Γ, ⟨nL, mc, ms⟩, Q⟩ := C
  obtain ⟨hx, hb, hml, hown, hts, hO, hB0, hlk, hret, hmc, hms, hdf, hdl, hQ, rfl, rfl, rfl⟩ := X
  subst hn
  have hVa := hV
  intro H locs cells slots ls hV hS hl hcc hs
  obtain ⟨W0, hL, hP, hD⟩ := hV
  obtain ⟨q0, hq⟩ := (hL _ _).mp (zd_of hVa)
  obtain ⟨qk, hqk⟩ := (hL _ _).mp (zd_of hv)
  refine va_astq hx hb hO.1 hP hD hS q0 3 qk 6 (r := (RX5, TX5, 6)) hq rfl hqk rfl (zI_in h0.1 h0.2.1 h0.2.2) hdg (fun H1 locs1 hP1 hD1 hS1 => ?_)
  have e : va_up f (zI i).toNatClampNeg (some v) = zg f i.toNat v := by
    rw [zI_clamp h0.1 h0.2.2]
    funext j
    rfl
  rw [e] at hP1 hD1
  exact kk H1 locs1 cells slots ls ⟨_, by rw [zd_zu]; exact hL.set hD hq, hP1, hD1⟩ hS1 hl hcc hs
/-! what is made -/
theorem zH.push {Γ : zGam} {V : zV} {ws : va_W} {a t : Nat} {e : va_E} {H1 : Heap} (hL : zL (zd V) ws) (ha : V a = none) (hP : va_P Γ.1 vwCl (ws ++ [(a, e)]) H1) (hD : va_D (zA Γ.2.2.2) (ws ++ [(a, e)])) : zH Γ (zu V a t e) H1 := ⟨_, by rw [zd_zu]; exact hL.push (zd_none ha), hP, hD⟩
theorem zD_new {Γ : zGam} {V : zV} {ws : va_W} {a : Nat} {e : va_E} (hL : zL (zd V) ws) (hD : va_D (zA Γ.2.2.2) (ws ++ [(a, e)])) : V a = none := by
  cases hv : V a with
  | none => rfl
  | some q =>
    obtain ⟨t, e1⟩ := q
    obtain ⟨k, hk⟩ := (hL _ _).mp (zd_of hv)
    have hl := (List.getElem?_eq_some_iff.mp hk).1
    have := hD.1 k ws.length (a, e1) (a, e) (by rw [List.getElem?_append_left hl]; exact hk) (by simp) rfl
    omega
theorem zr_new (X : zK C l0 Γ0 n0 own cc ws d ret Post) (n' ci tg : Nat) (fs : List Value) {index N kc' ks' : Nat} {CC : String} {T : u_T} (ty : Nat → FieldType) (hc : vwCl[ci]? = some (CC, T, N)) (hin : ∀ w ∈ u_ws CC T N, w ∈ ws) (hty : ∀ k, k < N → parseFieldDescriptor (T k).2.2.1 = some (ty k)) (hcl : Cond.classLink own index CC ∈ ws) (hinst : Cond.instantiable CC N ∈ ws) (hini : Cond.initialized CC ∈ ws) (hfs : ∀ j, j < N → defaultValue (ty j) = vp_V fs j) (hdg : decode cc pc = .ok (.new index, 3)) (hn : pc + 3 = n') (hkc : kc' + 1 ≤ kc) (hks : ks' + N ≤ ks) (kk : ∀ q : Nat, V q = none → zG C (zu V q tg (.inr (ci, fs))) kc' ks' n' lv (.ref q :: rest)) : zG C V kc ks pc lv rest := by
  obtain ⟨⟨p, l, e, R, s, m, args, below, meth, c⟩, Γ, ⟨nL, mc, ms⟩, Q⟩ := C
  obtain ⟨hx, hb, hml, hown, hts, hO, hB0, hlk, hret, hmc, hms, hdf, hdl, hQ, rfl, rfl, rfl⟩ := X
  subst hn
  intro H locs cells slots ls hV hS hl hcc hs
  obtain ⟨W0, hL, hP, hD⟩ := hV
  exact va_new hx hb hts hin ty hty hown (hts _ hcl) (hts _ hinst) (hts _ hini) hO.1 hP hD hS (fun q h => Nat.le_trans hB0 h) hc hfs (by omega) (by omega) hdg (fun q H1 hP1 hD1 hS1 => kk q (zD_new hL hD1) H1 locs (cells + 1) (slots + N) ls (zH.push hL (zD_new hL hD1) hP1 hD1) hS1 hl (by omega) (by omega))
theorem zr_newai (X : zK C l0 Γ0 n0 own cc ws d ret Post) (n' tg : Nat) {n : Int} {kc' ks' : Nat} (harr : Cond.arrayClass .int ∈ ws) (h0 : 0 ≤ n ∧ n ≤ 60000000) (hdg : decode cc pc = .ok (.newarray .int, 2)) (hn : pc + 2 = n') (hkc : kc' + 1 ≤ kc) (hks : ks' + n.toNat ≤ ks) (kk : ∀ q : Nat, V q = none → zG C (zu V q tg (za Γ0.2.1 0 n.toNat (fun _ => 0))) kc' ks' n' lv (.ref q :: rest)) : zG C V kc ks pc lv (.int (zI n) :: rest) := by
  obtain ⟨⟨p, l, e, R, s, m, args, below, meth, c⟩, Γ, ⟨nL, mc, ms⟩, Q⟩ := C
  obtain ⟨hx, hb, hml, hown, hts, hO, hB0, hlk, hret, hmc, hms, hdf, hdl, hQ, rfl, rfl, rfl⟩ := X
  subst hn
  intro H locs cells slots ls hV hS hl hcc hs
  obtain ⟨W0, hL, hP, hD⟩ := hV
  have hcl : (zI n).toNatClampNeg = n.toNat := zI_clamp h0.1 (by omega)
  refine va_newa (atype := .int) (ty := .int) (N' := n.toNat) (a0 := (n.toNat, .inl (fun _ => zI 0))) hx hb (hts _ harr) rfl hO.1 hP hD hS (fun q h => Nat.le_trans hB0 h) (fun cA => rfl) (by rw [← zI_0, zI_lt (by omega) (by omega)]; omega) hcl (by show n.toNat * _ ≤ _; simp only [componentBytes]; omega) (by omega) (by omega) hdg (fun q cA H1 hK1 hP1 hD1 hS1 => ?_)
  have hcA : cA = Γ.2.1 0 := by
    have e1 := (hK1.2 5 _ rfl).2
    have e2 := (hO.1.2 0 _ rfl).2
    exact Option.some.inj (e1.symm.trans e2)
  subst hcA
  exact kk q (zD_new hL hD1) H1 locs (cells + 1) (slots + n.toNat) ls (zH.push hL (zD_new hL hD1) hP1 hD1) hS1 hl (by omega) (by omega)
theorem zr_newac (X : zK C l0 Γ0 n0 own cc ws d ret Post) (n' tg : Nat) {n : Int} {kc' ks' : Nat} (harr : Cond.arrayClass .char ∈ ws) (h0 : 0 ≤ n ∧ n ≤ 60000000) (hdg : decode cc pc = .ok (.newarray .char, 2)) (hn : pc + 2 = n') (hkc : kc' + 1 ≤ kc) (hks : ks' + n.toNat ≤ ks) (kk : ∀ q : Nat, V q = none → zG C (zu V q tg (za Γ0.2.1 1 n.toNat (fun _ => 0))) kc' ks' n' lv (.ref q :: rest)) : zG C V kc ks pc lv (.int (zI n) :: rest) := by
  obtain ⟨⟨p, l, e, R, s, m, args, below, meth, c⟩, Γ, ⟨nL, mc, ms⟩, Q⟩ := C
  obtain ⟨hx, hb, hml, hown, hts, hO, hB0, hlk, hret, hmc, hms, hdf, hdl, hQ, rfl, rfl, rfl⟩ := X
  subst hn
  intro H locs cells slots ls hV hS hl hcc hs
  obtain ⟨W0, hL, hP, hD⟩ := hV
  have hcl : (zI n).toNatClampNeg = n.toNat := zI_clamp h0.1 (by omega)
  refine va_newa (atype := .char) (ty := .char) (N' := n.toNat) (a0 := (n.toNat, .inl (fun _ => zI 0))) hx hb (hts _ harr) rfl hO.1 hP hD hS (fun q h => Nat.le_trans hB0 h) (fun cA => rfl) (by rw [← zI_0, zI_lt (by omega) (by omega)]; omega) hcl (by show n.toNat * _ ≤ _; simp only [componentBytes]; omega) (by omega) (by omega) hdg (fun q cA H1 hK1 hP1 hD1 hS1 => ?_)
  have hcA : cA = Γ.2.1 1 := by
    have e1 := (hK1.2 5 _ rfl).2
    have e2 := (hO.1.2 1 _ rfl).2
    exact Option.some.inj (e1.symm.trans e2)
  subst hcA
  exact kk q (zD_new hL hD1) H1 locs (cells + 1) (slots + n.toNat) ls (zH.push hL (zD_new hL hD1) hP1 hD1) hS1 hl (by omega) (by omega)
theorem zr_newab (X : zK C l0 Γ0 n0 own cc ws d ret Post) (n' tg : Nat) {n : Int} {kc' ks' : Nat} (harr : Cond.arrayClass .byte ∈ ws) (h0 : 0 ≤ n ∧ n ≤ 60000000) (hdg : decode cc pc = .ok (.newarray .byte, 2)) (hn : pc + 2 = n') (hkc : kc' + 1 ≤ kc) (hks : ks' + n.toNat ≤ ks) (kk : ∀ q : Nat, V q = none → zG C (zu V q tg (za Γ0.2.1 2 n.toNat (fun _ => 0))) kc' ks' n' lv (.ref q :: rest)) : zG C V kc ks pc lv (.int (zI n) :: rest) := by
  obtain ⟨⟨p, l, e, R, s, m, args, below, meth, c⟩, Γ, ⟨nL, mc, ms⟩, Q⟩ := C
  obtain ⟨hx, hb, hml, hown, hts, hO, hB0, hlk, hret, hmc, hms, hdf, hdl, hQ, rfl, rfl, rfl⟩ := X
  subst hn
  intro H locs cells slots ls hV hS hl hcc hs
  obtain ⟨W0, hL, hP, hD⟩ := hV
  have hcl : (zI n).toNatClampNeg = n.toNat := zI_clamp h0.1 (by omega)
  refine va_newa (atype := .byte) (ty := .byte) (N' := n.toNat) (a0 := (n.toNat, .inl (fun _ => zI 0))) hx hb (hts _ harr) rfl hO.1 hP hD hS (fun q h => Nat.le_trans hB0 h) (fun cA => rfl) (by rw [← zI_0, zI_lt (by omega) (by omega)]; omega) hcl (by show n.toNat * _ ≤ _; simp only [componentBytes]; omega) (by omega) (by omega) hdg (fun q cA H1 hK1 hP1 hD1 hS1 => ?_)
  have hcA : cA = Γ.2.1 2 := by
    have e1 := (hK1.2 5 _ rfl).2
    have e2 := (hO.1.2 2 _ rfl).2
    exact Option.some.inj (e1.symm.trans e2)
  subst hcA
  exact kk q (zD_new hL hD1) H1 locs (cells + 1) (slots + n.toNat) ls (zH.push hL (zD_new hL hD1) hP1 hD1) hS1 hl (by omega) (by omega)
theorem zr_gets (X : zK C l0 Γ0 n0 own cc ws d ret Post) (n' : Nat) {index : Nat} (hlink : Cond.fieldLink own index RJ0 "COMPACT_STRINGS" "Z" ∈ ws) (hdg : decode cc pc = .ok (.getstatic index, 3)) (hn : pc + 3 = n') (kk : zG C V kc ks n' lv (.int (zI 1) :: rest)) : zG C V kc ks pc lv rest := by
  obtain ⟨⟨p, l, e, R, s, m, args, below, meth, c⟩, Γ, ⟨nL, mc, ms⟩, Q⟩ := C
  obtain ⟨hx, hb, hml, hown, hts, hO, hB0, hlk, hret, hmc, hms, hdf, hdl, hQ, rfl, rfl, rfl⟩ := X
  subst hn
  intro H locs cells slots ls hV hS hl hcc hs
  exact va_gets hx hb hO.2.2.2.1 hS hown (hts _ hlink) (fun _ h => h) hdg (kk H locs cells slots ls hV hS hl hcc hs)
theorem zr_ldcS (X : zK C l0 Γ0 n0 own cc ws d ret Post) (n' i : Nat) {index : Nat} {tx : String} (hz : zstr[i]? = some (own, index, tx)) (hdg : decode cc pc = .ok (.ldc index, 2)) (hn : pc + 2 = n') (kk : zG C V kc ks n' lv (.ref (Γ0.2.2.1 i) :: rest)) : zG C V kc ks pc lv rest := by
  obtain ⟨⟨p, l, e, R, s, m, args, below, meth, c⟩, Γ, ⟨nL, mc, ms⟩, Q⟩ := C
  obtain ⟨hx, hb, hml, hown, hts, hO, hB0, hlk, hret, hmc, hms, hdf, hdl, hQ, rfl, rfl, rfl⟩ := X
  subst hn
  intro H locs cells slots ls hV hS hl hcc hs
  have o5i := hO.2.2.2.2.1 i (own, index, tx) hz
  try dsimp only at o5i
  exact va_ldcS hx hb hown o5i hdg (kk H locs cells slots ls hV hS hl hcc hs)
theorem zr_objInit (X : zK C l0 Γ0 n0 own cc ws d ret Post) (n' : Nat) {a tg ci index : Nat} {fs : List Value} {q : vw_C} (hV : V a = some (tg, .inr (ci, fs))) (hc : vwCl[ci]? = some q) (hlink : Cond.methodLink own index objectInit ∈ ws) (hinst : Cond.instanceMethod objectInit ∈ ws) (hcode : Cond.code objectInit ⟨#[0xb1]⟩ 1 none ∈ ws) (hd : 2 ≤ d) (hcat : (rest.map fun v => v.category).sum ≤ 8) (hdg : decode cc pc = .ok (.invokespecial index, 3)) (hn : pc + 3 = n') (kk : zG C V kc ks n' lv rest) : zG C V kc ks pc lv (.ref a :: rest) := by
  obtain ⟨⟨p, l, e, R, s, m, args, below, meth, c⟩, Γ, ⟨nL, mc, ms⟩, Q⟩ := C
  obtain ⟨hx, hb, hml, hown, hts, hO, hB0, hlk, hret, hmc, hms, hdf, hdl, hQ, rfl, rfl, rfl⟩ := X
  subst hn
  intro H locs cells slots ls hV hS hl hcc hs
  exact W.objInit hx hb hown (hts _ hlink) (hts _ hinst) (hts _ hcode) rfl (hl.1.trans hml.symm) rfl hdg (by omega) (by have := lv_room (m := m) (pc := pc) (ls := ls) (rest := .ref a :: rest) hcat; omega) (kk H locs cells slots ls hV hS hl hcc hs)
end ZR
