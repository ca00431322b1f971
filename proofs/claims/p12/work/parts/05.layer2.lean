section ZR
variable {C : zC} {l0 : Launch} {Γ0 : zGam} {n0 : Nat} {own : String} {cc : ByteArray} {ws : List Cond} {d : Nat} {ret : Option FieldType} {Post : Option Value → zV → Prop} {V : zV} {kc ks pc : Nat} {lv : List (Nat × Value)} {rest : List Value}
theorem zr_goto (X : zK C l0 Γ0 n0 own cc ws d ret Post) (n' : Nat) {off : Int} (hdg : decode cc pc = .ok (.goto off, 3)) (ht : (pc : Int) + off = (n' : Int)) (kk : zG C V kc ks n' lv rest) : zG C V kc ks pc lv rest := by
  obtain ⟨⟨p, l, e, R, s, m, args, below, meth, c⟩, Γ, ⟨nL, mc, ms⟩, Q⟩ := C
  intro H locs cells slots ls hV hS hl hc hs
  exact lv_goto X.1 X.2.1 hdg ht (kk H locs cells slots ls hV hS hl hc hs)
theorem zr_if_eq (X : zK C l0 Γ0 n0 own cc ws d ret Post) (n1 n2 : Nat) {off x : Int} (hdg : decode cc pc = .ok (.ifCond .eq off, 3)) (ht : (pc : Int) + off = (n1 : Int)) (hn : pc + 3 = n2) (hx : -2147483648 ≤ x ∧ x ≤ 2147483647) (kt : x = 0 → zG C V kc ks n1 lv rest) (kf : ¬ (x = 0) → zG C V kc ks n2 lv rest) : zG C V kc ks pc lv (.int (zI x) :: rest) := by
  obtain ⟨⟨p, l, e, R, s, m, args, below, meth, c⟩, Γ, ⟨nL, mc, ms⟩, Q⟩ := C
  subst hn
  intro H locs cells slots ls hV hS hl hc hs
  exact lv_if_eq X.1 X.2.1 hdg ht (fun h => kt (by simpa only [← zI_0, zI_eq hx (show -2147483648 ≤ (0 : Int) ∧ (0 : Int) ≤ 2147483647 by omega), zI_eq (show -2147483648 ≤ (0 : Int) ∧ (0 : Int) ≤ 2147483647 by omega) hx, ne_eq, Decidable.not_not] using h) H locs cells slots ls hV hS hl hc hs) (fun h => kf (by simpa only [← zI_0, zI_eq hx (show -2147483648 ≤ (0 : Int) ∧ (0 : Int) ≤ 2147483647 by omega), zI_eq (show -2147483648 ≤ (0 : Int) ∧ (0 : Int) ≤ 2147483647 by omega) hx, ne_eq, Decidable.not_not] using h) H locs cells slots ls hV hS hl hc hs)
theorem zr_if_ne (X : zK C l0 Γ0 n0 own cc ws d ret Post) (n1 n2 : Nat) {off x : Int} (hdg : decode cc pc = .ok (.ifCond .ne off, 3)) (ht : (pc : Int) + off = (n1 : Int)) (hn : pc + 3 = n2) (hx : -2147483648 ≤ x ∧ x ≤ 2147483647) (kt : ¬ x = 0 → zG C V kc ks n1 lv rest) (kf : x = 0 → zG C V kc ks n2 lv rest) : zG C V kc ks pc lv (.int (zI x) :: rest) := by
  obtain ⟨⟨p, l, e, R, s, m, args, below, meth, c⟩, Γ, ⟨nL, mc, ms⟩, Q⟩ := C
  subst hn
  intro H locs cells slots ls hV hS hl hc hs
  exact lv_if_ne X.1 X.2.1 hdg ht (fun h => kt (by simpa only [← zI_0, zI_eq hx (show -2147483648 ≤ (0 : Int) ∧ (0 : Int) ≤ 2147483647 by omega), zI_eq (show -2147483648 ≤ (0 : Int) ∧ (0 : Int) ≤ 2147483647 by omega) hx, ne_eq, Decidable.not_not] using h) H locs cells slots ls hV hS hl hc hs) (fun h => kf (by simpa only [← zI_0, zI_eq hx (show -2147483648 ≤ (0 : Int) ∧ (0 : Int) ≤ 2147483647 by omega), zI_eq (show -2147483648 ≤ (0 : Int) ∧ (0 : Int) ≤ 2147483647 by omega) hx, ne_eq, Decidable.not_not] using h) H locs cells slots ls hV hS hl hc hs)
theorem zr_if_lt (X : zK C l0 Γ0 n0 own cc ws d ret Post) (n1 n2 : Nat) {off x : Int} (hdg : decode cc pc = .ok (.ifCond .lt off, 3)) (ht : (pc : Int) + off = (n1 : Int)) (hn : pc + 3 = n2) (hx : -2147483648 ≤ x ∧ x ≤ 2147483647) (kt : x < 0 → zG C V kc ks n1 lv rest) (kf : ¬ (x < 0) → zG C V kc ks n2 lv rest) : zG C V kc ks pc lv (.int (zI x) :: rest) := by
  obtain ⟨⟨p, l, e, R, s, m, args, below, meth, c⟩, Γ, ⟨nL, mc, ms⟩, Q⟩ := C
  subst hn
  intro H locs cells slots ls hV hS hl hc hs
  exact lv_if_lt X.1 X.2.1 hdg ht (fun h => kt (by simpa only [← zI_0, zI_lt hx (show -2147483648 ≤ (0 : Int) ∧ (0 : Int) ≤ 2147483647 by omega), zI_lt (show -2147483648 ≤ (0 : Int) ∧ (0 : Int) ≤ 2147483647 by omega) hx, ne_eq, Decidable.not_not] using h) H locs cells slots ls hV hS hl hc hs) (fun h => kf (by simpa only [← zI_0, zI_lt hx (show -2147483648 ≤ (0 : Int) ∧ (0 : Int) ≤ 2147483647 by omega), zI_lt (show -2147483648 ≤ (0 : Int) ∧ (0 : Int) ≤ 2147483647 by omega) hx, ne_eq, Decidable.not_not] using h) H locs cells slots ls hV hS hl hc hs)
theorem zr_if_ge (X : zK C l0 Γ0 n0 own cc ws d ret Post) (n1 n2 : Nat) {off x : Int} (hdg : decode cc pc = .ok (.ifCond .ge off, 3)) (ht : (pc : Int) + off = (n1 : Int)) (hn : pc + 3 = n2) (hx : -2147483648 ≤ x ∧ x ≤ 2147483647) (kt : 0 ≤ x → zG C V kc ks n1 lv rest) (kf : ¬ (0 ≤ x) → zG C V kc ks n2 lv rest) : zG C V kc ks pc lv (.int (zI x) :: rest) := by
  obtain ⟨⟨p, l, e, R, s, m, args, below, meth, c⟩, Γ, ⟨nL, mc, ms⟩, Q⟩ := C
  subst hn
  intro H locs cells slots ls hV hS hl hc hs
  exact lv_if_ge X.1 X.2.1 hdg ht (fun h => kt (by simpa only [← zI_0, zI_le hx (show -2147483648 ≤ (0 : Int) ∧ (0 : Int) ≤ 2147483647 by omega), zI_le (show -2147483648 ≤ (0 : Int) ∧ (0 : Int) ≤ 2147483647 by omega) hx, ne_eq, Decidable.not_not] using h) H locs cells slots ls hV hS hl hc hs) (fun h => kf (by simpa only [← zI_0, zI_le hx (show -2147483648 ≤ (0 : Int) ∧ (0 : Int) ≤ 2147483647 by omega), zI_le (show -2147483648 ≤ (0 : Int) ∧ (0 : Int) ≤ 2147483647 by omega) hx, ne_eq, Decidable.not_not] using h) H locs cells slots ls hV hS hl hc hs)
theorem zr_if_gt (X : zK C l0 Γ0 n0 own cc ws d ret Post) (n1 n2 : Nat) {off x : Int} (hdg : decode cc pc = .ok (.ifCond .gt off, 3)) (ht : (pc : Int) + off = (n1 : Int)) (hn : pc + 3 = n2) (hx : -2147483648 ≤ x ∧ x ≤ 2147483647) (kt : 0 < x → zG C V kc ks n1 lv rest) (kf : ¬ (0 < x) → zG C V kc ks n2 lv rest) : zG C V kc ks pc lv (.int (zI x) :: rest) := by
  obtain ⟨⟨p, l, e, R, s, m, args, below, meth, c⟩, Γ, ⟨nL, mc, ms⟩, Q⟩ := C
  subst hn
  intro H locs cells slots ls hV hS hl hc hs
  exact lv_if_gt X.1 X.2.1 hdg ht (fun h => kt (by simpa only [← zI_0, zI_lt hx (show -2147483648 ≤ (0 : Int) ∧ (0 : Int) ≤ 2147483647 by omega), zI_lt (show -2147483648 ≤ (0 : Int) ∧ (0 : Int) ≤ 2147483647 by omega) hx, ne_eq, Decidable.not_not] using h) H locs cells slots ls hV hS hl hc hs) (fun h => kf (by simpa only [← zI_0, zI_lt hx (show -2147483648 ≤ (0 : Int) ∧ (0 : Int) ≤ 2147483647 by omega), zI_lt (show -2147483648 ≤ (0 : Int) ∧ (0 : Int) ≤ 2147483647 by omega) hx, ne_eq, Decidable.not_not] using h) H locs cells slots ls hV hS hl hc hs)
theorem zr_if_le (X : zK C l0 Γ0 n0 own cc ws d ret Post) (n1 n2 : Nat) {off x : Int} (hdg : decode cc pc = .ok (.ifCond .le off, 3)) (ht : (pc : Int) + off = (n1 : Int)) (hn : pc + 3 = n2) (hx : -2147483648 ≤ x ∧ x ≤ 2147483647) (kt : x ≤ 0 → zG C V kc ks n1 lv rest) (kf : ¬ (x ≤ 0) → zG C V kc ks n2 lv rest) : zG C V kc ks pc lv (.int (zI x) :: rest) := by
  obtain ⟨⟨p, l, e, R, s, m, args, below, meth, c⟩, Γ, ⟨nL, mc, ms⟩, Q⟩ := C
  subst hn
  intro H locs cells slots ls hV hS hl hc hs
  exact lv_if_le X.1 X.2.1 hdg ht (fun h => kt (by simpa only [← zI_0, zI_le hx (show -2147483648 ≤ (0 : Int) ∧ (0 : Int) ≤ 2147483647 by omega), zI_le (show -2147483648 ≤ (0 : Int) ∧ (0 : Int) ≤ 2147483647 by omega) hx, ne_eq, Decidable.not_not] using h) H locs cells slots ls hV hS hl hc hs) (fun h => kf (by simpa only [← zI_0, zI_le hx (show -2147483648 ≤ (0 : Int) ∧ (0 : Int) ≤ 2147483647 by omega), zI_le (show -2147483648 ≤ (0 : Int) ∧ (0 : Int) ≤ 2147483647 by omega) hx, ne_eq, Decidable.not_not] using h) H locs cells slots ls hV hS hl hc hs)
theorem zr_icmp_eq (X : zK C l0 Γ0 n0 own cc ws d ret Post) (n1 n2 : Nat) {off x y : Int} (hdg : decode cc pc = .ok (.if_icmp .eq off, 3)) (ht : (pc : Int) + off = (n1 : Int)) (hn : pc + 3 = n2) (hx : -2147483648 ≤ x ∧ x ≤ 2147483647) (hy : -2147483648 ≤ y ∧ y ≤ 2147483647) (kt : x = y → zG C V kc ks n1 lv rest) (kf : ¬ (x = y) → zG C V kc ks n2 lv rest) : zG C V kc ks pc lv (.int (zI y) :: .int (zI x) :: rest) := by
  obtain ⟨⟨p, l, e, R, s, m, args, below, meth, c⟩, Γ, ⟨nL, mc, ms⟩, Q⟩ := C
  subst hn
  intro H locs cells slots ls hV hS hl hc hs
  exact lv_icmp_eq X.1 X.2.1 hdg ht (fun h => kt (by simpa only [zI_eq hx hy, zI_eq hy hx, ne_eq, Decidable.not_not] using h) H locs cells slots ls hV hS hl hc hs) (fun h => kf (by simpa only [zI_eq hx hy, zI_eq hy hx, ne_eq, Decidable.not_not] using h) H locs cells slots ls hV hS hl hc hs)
theorem zr_icmp_ne (X : zK C l0 Γ0 n0 own cc ws d ret Post) (n1 n2 : Nat) {off x y : Int} (hdg : decode cc pc = .ok (.if_icmp .ne off, 3)) (ht : (pc : Int) + off = (n1 : Int)) (hn : pc + 3 = n2) (hx : -2147483648 ≤ x ∧ x ≤ 2147483647) (hy : -2147483648 ≤ y ∧ y ≤ 2147483647) (kt : ¬ x = y → zG C V kc ks n1 lv rest) (kf : x = y → zG C V kc ks n2 lv rest) : zG C V kc ks pc lv (.int (zI y) :: .int (zI x) :: rest) := by
  obtain ⟨⟨p, l, e, R, s, m, args, below, meth, c⟩, Γ, ⟨nL, mc, ms⟩, Q⟩ := C
  subst hn
  intro H locs cells slots ls hV hS hl hc hs
  exact lv_icmp_ne X.1 X.2.1 hdg ht (fun h => kt (by simpa only [zI_eq hx hy, zI_eq hy hx, ne_eq, Decidable.not_not] using h) H locs cells slots ls hV hS hl hc hs) (fun h => kf (by simpa only [zI_eq hx hy, zI_eq hy hx, ne_eq, Decidable.not_not] using h) H locs cells slots ls hV hS hl hc hs)
theorem zr_icmp_lt (X : zK C l0 Γ0 n0 own cc ws d ret Post) (n1 n2 : Nat) {off x y : Int} (hdg : decode cc pc = .ok (.if_icmp .lt off, 3)) (ht : (pc : Int) + off = (n1 : Int)) (hn : pc + 3 = n2) (hx : -2147483648 ≤ x ∧ x ≤ 2147483647) (hy : -2147483648 ≤ y ∧ y ≤ 2147483647) (kt : x < y → zG C V kc ks n1 lv rest) (kf : ¬ (x < y) → zG C V kc ks n2 lv rest) : zG C V kc ks pc lv (.int (zI y) :: .int (zI x) :: rest) := by
  obtain ⟨⟨p, l, e, R, s, m, args, below, meth, c⟩, Γ, ⟨nL, mc, ms⟩, Q⟩ := C
  subst hn
  intro H locs cells slots ls hV hS hl hc hs
  exact lv_icmp_lt X.1 X.2.1 hdg ht (fun h => kt (by simpa only [zI_lt hx hy, zI_lt hy hx, ne_eq, Decidable.not_not] using h) H locs cells slots ls hV hS hl hc hs) (fun h => kf (by simpa only [zI_lt hx hy, zI_lt hy hx, ne_eq, Decidable.not_not] using h) H locs cells slots ls hV hS hl hc hs)
theorem zr_icmp_ge (X : zK C l0 Γ0 n0 own cc ws d ret Post) (n1 n2 : Nat) {off x y : Int} (hdg : decode cc pc = .ok (.if_icmp .ge off, 3)) (ht : (pc : Int) + off = (n1 : Int)) (hn : pc + 3 = n2) (hx : -2147483648 ≤ x ∧ x ≤ 2147483647) (hy : -2147483648 ≤ y ∧ y ≤ 2147483647) (kt : y ≤ x → zG C V kc ks n1 lv rest) (kf : ¬ (y ≤ x) → zG C V kc ks n2 lv rest) : zG C V kc ks pc lv (.int (zI y) :: .int (zI x) :: rest) := by
  obtain ⟨⟨p, l, e, R, s, m, args, below, meth, c⟩, Γ, ⟨nL, mc, ms⟩, Q⟩ := C
  subst hn
  intro H locs cells slots ls hV hS hl hc hs
  exact lv_icmp_ge X.1 X.2.1 hdg ht (fun h => kt (by simpa only [zI_le hx hy, zI_le hy hx, ne_eq, Decidable.not_not] using h) H locs cells slots ls hV hS hl hc hs) (fun h => kf (by simpa only [zI_le hx hy, zI_le hy hx, ne_eq, Decidable.not_not] using h) H locs cells slots ls hV hS hl hc hs)
theorem zr_icmp_gt (X : zK C l0 Γ0 n0 own cc ws d ret Post) (n1 n2 : Nat) {off x y : Int} (hdg : decode cc pc = .ok (.if_icmp .gt off, 3)) (ht : (pc : Int) + off = (n1 : Int)) (hn : pc + 3 = n2) (hx : -2147483648 ≤ x ∧ x ≤ 2147483647) (hy : -2147483648 ≤ y ∧ y ≤ 2147483647) (kt : y < x → zG C V kc ks n1 lv rest) (kf : ¬ (y < x) → zG C V kc ks n2 lv rest) : zG C V kc ks pc lv (.int (zI y) :: .int (zI x) :: rest) := by
  obtain ⟨⟨p, l, e, R, s, m, args, below, meth, c⟩, Γ, ⟨nL, mc, ms⟩, Q⟩ := C
  subst hn
  intro H locs cells slots ls hV hS hl hc hs
  exact lv_icmp_gt X.1 X.2.1 hdg ht (fun h => kt (by simpa only [zI_lt hx hy, zI_lt hy hx, ne_eq, Decidable.not_not] using h) H locs cells slots ls hV hS hl hc hs) (fun h => kf (by simpa only [zI_lt hx hy, zI_lt hy hx, ne_eq, Decidable.not_not] using h) H locs cells slots ls hV hS hl hc hs)
theorem zr_icmp_le (X : zK C l0 Γ0 n0 own cc ws d ret Post) (n1 n2 : Nat) {off x y : Int} (hdg : decode cc pc = .ok (.if_icmp .le off, 3)) (ht : (pc : Int) + off = (n1 : Int)) (hn : pc + 3 = n2) (hx : -2147483648 ≤ x ∧ x ≤ 2147483647) (hy : -2147483648 ≤ y ∧ y ≤ 2147483647) (kt : x ≤ y → zG C V kc ks n1 lv rest) (kf : ¬ (x ≤ y) → zG C V kc ks n2 lv rest) : zG C V kc ks pc lv (.int (zI y) :: .int (zI x) :: rest) := by
  obtain ⟨⟨p, l, e, R, s, m, args, below, meth, c⟩, Γ, ⟨nL, mc, ms⟩, Q⟩ := C
  subst hn
  intro H locs cells slots ls hV hS hl hc hs
  exact lv_icmp_le X.1 X.2.1 hdg ht (fun h => kt (by simpa only [zI_le hx hy, zI_le hy hx, ne_eq, Decidable.not_not] using h) H locs cells slots ls hV hS hl hc hs) (fun h => kf (by simpa only [zI_le hx hy, zI_le hy hx, ne_eq, Decidable.not_not] using h) H locs cells slots ls hV hS hl hc hs)
/-! fields -/
theorem zr_get (X : zK C l0 Γ0 n0 own cc ws d ret Post) (n' ci k : Nat) {index a tg N : Nat} {fs : List Value} {C' ref : String} {T : u_T} {v : Value} (hV : V a = some (tg, .inr (ci, fs))) (hc : vwCl[ci]? = some (C', T, N)) (hin : ∀ w ∈ u_ws C' T N, w ∈ ws) (hk : k < N) (hlink : Cond.fieldLink own index ref (T k).2.1 (T k).2.2.1 ∈ ws) (hsame : ref = (T k).1) (hv : fs[k]? = some v) (hdg : decode cc pc = .ok (.getfield index, 3)) (hn : pc + 3 = n') (kk : zG C V kc ks n' lv (v :: rest)) : zG C V kc ks pc lv (.ref a :: rest) := by
  obtain ⟨⟨p, l, e, R, s, m, args, below, meth, c⟩, Γ, ⟨nL, mc, ms⟩, Q⟩ := C
  obtain ⟨hx, hb, hml, hown, hts, hO, hB0, hlk, hret, hmc, hms, hdf, hdl, hQ, rfl, rfl, rfl⟩ := X
  subst hn
  subst hsame
  have hVa := hV
  intro H locs cells slots ls hV hS hl hcc hs
  have hV0 := hV
  obtain ⟨W0, hL, hP, hD⟩ := hV
  obtain ⟨q0, hq⟩ := (hL _ _).mp (zd_of hVa)
  exact va_get hx hb hts hin hown hO.1 hP q0 hq hc k hk (hts _ hlink) (fun _ h9 => h9) hv hdg (kk H locs cells slots ls hV0 hS hl hcc hs)
theorem zr_put (X : zK C l0 Γ0 n0 own cc ws d ret Post) (n' ci k : Nat) (fs' : List Value) {index a tg N : Nat} {fs : List Value} {C' ref : String} {T : u_T} {v : Value} (ty0 : Nat → FieldType) (hV : V a = some (tg, .inr (ci, fs))) (hc : vwCl[ci]? = some (C', T, N)) (hin : ∀ w ∈ u_ws C' T N, w ∈ ws) (hty : ∀ k, k < N → parseFieldDescriptor (T k).2.2.1 = some (ty0 k)) (hnm : ∀ a, a < N → ∀ b, b < N → a ≠ b → (T a).2.1 ≠ (T b).2.1) (hk : k < N) (hlink : Cond.fieldLink own index ref (T k).2.1 (T k).2.2.1 ∈ ws) (hsame : ref = (T k).1) (hfin : (T k).2.2.2 = false) (hn : narrow (ty0 k) v = v) (hfit : fits (ty0 k) v = true) (hl : k < fs.length) (hfs : fs.set k v = fs') (hdg : decode cc pc = .ok (.putfield index, 3)) (hn : pc + 3 = n') (kk : zG C (zu V a tg (.inr (ci, fs'))) kc ks n' lv rest) : zG C V kc ks pc lv (v :: .ref a :: rest) := by
  obtain ⟨⟨p, l, e, R, s, m, args, below, meth, c⟩, Γ, ⟨nL, mc, ms⟩, Q⟩ := C
  obtain ⟨hx, hb, hml, hown, hts, hO, hB0, hlk, hret, hmc, hms, hdf, hdl, hQ, rfl, rfl, rfl⟩ := X
  subst hn
  subst hsame
  subst hfs
  have hVa := hV
  intro H locs cells slots ls hV hS hl' hcc hs
  obtain ⟨W0, hL, hP, hD⟩ := hV
  obtain ⟨q0, hq⟩ := (hL _ _).mp (zd_of hVa)
  exact va_put hx hb hts hin ty0 hty hnm hown hO.1 hP hD hS q0 hq hc k hk (hts _ hlink) (fun _ h9 => h9) hfin (hty k hk) ‹narrow (ty0 k) v = v› hfit hl hdg (fun H1 locs1 hP1 hD1 hS1 => kk H1 locs1 cells slots ls ⟨_, by rw [zd_zu]; exact hL.set hD hq, hP1, hD1⟩ hS1 hl' hcc hs)
/-- the method is a constructor of class own -/
def zI0 (C : zC) : Prop := C.1.2.2.2.2.2.2.2.2.1.name = "<init>"
theorem zr_putF (X : zK C l0 Γ0 n0 own cc ws d ret Post) (n' ci k : Nat) (fs' : List Value) {index a tg N : Nat} {fs : List Value} {C' ref : String} {T : u_T} {v : Value} (ty0 : Nat → FieldType) (hi0 : zI0 C) (hV : V a = some (tg, .inr (ci, fs))) (hc : vwCl[ci]? = some (C', T, N)) (hin : ∀ w ∈ u_ws C' T N, w ∈ ws) (hty : ∀ k, k < N → parseFieldDescriptor (T k).2.2.1 = some (ty0 k)) (hnm : ∀ a, a < N → ∀ b, b < N → a ≠ b → (T a).2.1 ≠ (T b).2.1) (hk : k < N) (hlink : Cond.fieldLink own index ref (T k).2.1 (T k).2.2.1 ∈ ws) (hsame : ref = (T k).1) (hfin : (T k).2.2.2 = true) (hdecl : (T k).1 = own) (hn : narrow (ty0 k) v = v) (hfit : fits (ty0 k) v = true) (hl : k < fs.length) (hfs : fs.set k v = fs') (hdg : decode cc pc = .ok (.putfield index, 3)) (hn : pc + 3 = n') (kk : zG C (zu V a tg (.inr (ci, fs'))) kc ks n' lv rest) : zG C V kc ks pc lv (v :: .ref a :: rest) := by
  obtain ⟨⟨p, l, e, R, s, m, args, below, meth, c⟩, Γ, ⟨nL, mc, ms⟩, Q⟩ := C
  obtain ⟨hx, hb, hml, hown, hts, hO, hB0, hlk, hret, hmc, hms, hdf, hdl, hQ, rfl, rfl, rfl⟩ := X
  subst hn
  subst hsame
  subst hfs
  have hVa := hV
  intro H locs cells slots ls hV hS hl' hcc hs
  obtain ⟨W0, hL, hP, hD⟩ := hV
  obtain ⟨q0, hq⟩ := (hL _ _).mp (zd_of hVa)
  exact va_putF hx hb hts hin ty0 hty hnm hown hO.1 hP hD hS q0 hq hc k hk (hts _ hlink) (fun _ h9 => h9) hfin hi0 hdecl (hty k hk) ‹narrow (ty0 k) v = v› hfit hl hdg (fun H1 locs1 hP1 hD1 hS1 => kk H1 locs1 cells slots ls ⟨_, by rw [zd_zu]; exact hL.set hD hq, hP1, hD1⟩ hS1 hl' hcc hs)
/-! arrays of ints, chars, bytes: contents a function into Int -/
def za (aC : Nat → ClassId) (t n : Nat) (f : Nat → Int) : va_E := .inl (aC t, n, .inl (fun j => zI (f j)))
def zq (aC : Nat → ClassId) (t n : Nat) (f : Nat → Option Nat) : va_E := .inl (aC t, n, .inr (.inr (.inr (.inr f))))
def zf (f : Nat → Int) (i : Nat) (x : Int) : Nat → Int := fun j => if j = i then x else f j
theorem zf_upd (f : Nat → Int) (i : Nat) (x : Int) : upd (fun j => zI (f j)) i (zI x) = fun j => zI (zf f i x j) := by
  funext j
  unfold upd zf
  by_cases h : j = i <;> simp [h]
theorem zr_alen (X : zK C l0 Γ0 n0 own cc ws d ret Post) (n' t : Nat) {a tg n : Nat} {f : Nat → Int} (hV : V a = some (tg, za Γ0.2.1 t n f)) (ht : t < 5) (hdg : decode cc pc = .ok (.arraylength, 1)) (hn : pc + 1 = n') (kk : zG C V kc ks n' lv (.int (zI n) :: rest)) : zG C V kc ks pc lv (.ref a :: rest) := by
  obtain ⟨⟨p, l, e, R, s, m, args, below, meth, c⟩, Γ, ⟨nL, mc, ms⟩, Q⟩ := C
  obtain ⟨hx, hb, hml, hown, hts, hO, hB0, hlk, hret, hmc, hms, hdf, hdl, hQ, rfl, rfl, rfl⟩ := X
  subst hn
  have hVa := hV
  intro H locs cells slots ls hV hS hl hcc hs
  have hV0 := hV
  obtain ⟨W0, hL, hP, hD⟩ := hV
  obtain ⟨q0, hq⟩ := (hL _ _).mp (zd_of hVa)
  have hty : ∃ ty, (zt Γ.2.1)[t]? = some (Γ.2.1 t, ty) := by
    rcases (by omega : t = 0 ∨ t = 1 ∨ t = 2 ∨ t = 3 ∨ t = 4) with h | h | h | h | h <;> subst h <;> exact ⟨_, rfl⟩
  obtain ⟨ty, hty⟩ := hty
  exact va_alen hx hb hO.1 hP q0 t hq hty (zI_nat n) hdg (kk H locs cells slots ls hV0 hS hl hcc hs)
theorem zr_alenq (X : zK C l0 Γ0 n0 own cc ws d ret Post) (n' t : Nat) {a tg n : Nat} {f : Nat → Option Nat} (hV : V a = some (tg, zq Γ0.2.1 t n f)) (ht : t < 5) (hdg : decode cc pc = .ok (.arraylength, 1)) (hn : pc + 1 = n') (kk : zG C V kc ks n' lv (.int (zI n) :: rest)) : zG C V kc ks pc lv (.ref a :: rest) := by
  obtain ⟨⟨p, l, e, R, s, m, args, below, meth, c⟩, Γ, ⟨nL, mc, ms⟩, Q⟩ := C
  obtain ⟨hx, hb, hml, hown, hts, hO, hB0, hlk, hret, hmc, hms, hdf, hdl, hQ, rfl, rfl, rfl⟩ := X
  subst hn
  have hVa := hV
  intro H locs cells slots ls hV hS hl hcc hs
  have hV0 := hV
  obtain ⟨W0, hL, hP, hD⟩ := hV
  obtain ⟨q0, hq⟩ := (hL _ _).mp (zd_of hVa)
  have hty : ∃ ty, (zt Γ.2.1)[t]? = some (Γ.2.1 t, ty) := by
    rcases (by omega : t = 0 ∨ t = 1 ∨ t = 2 ∨ t = 3 ∨ t = 4) with h | h | h | h | h <;> subst h <;> exact ⟨_, rfl⟩
  obtain ⟨ty, hty⟩ := hty
  exact va_alen hx hb hO.1 hP q0 t hq hty (zI_nat n) hdg (kk H locs cells slots ls hV0 hS hl hcc hs)
theorem zr_iald (X : zK C l0 Γ0 n0 own cc ws d ret Post) (n' : Nat) {a tg n : Nat} {f : Nat → Int} {i : Int} (hV : V a = some (tg, za Γ0.2.1 0 n f)) (h0 : 0 ≤ i ∧ i < n ∧ i ≤ 2147483647) (hdg : decode cc pc = .ok (.iaload, 1)) (hn : pc + 1 = n') (kk : zG C V kc ks n' lv (.int (zI (f i.toNat)) :: rest)) : zG C V kc ks pc lv (.int (zI i) :: .ref a :: rest) := by
  obtain ⟨⟨p, l, e, R, s, m, args, below, meth, c⟩, Γ, ⟨nL, mc, ms⟩, Q⟩ := C
  obtain ⟨hx, hb, hml, hown, hts, hO, hB0, hlk, hret, hmc, hms, hdf, hdl, hQ, rfl, rfl, rfl⟩ := X
  subst hn
  have hVa := hV
  intro H locs cells slots ls hV hS hl hcc hs
  have hV0 := hV
  obtain ⟨W0, hL, hP, hD⟩ := hV
  obtain ⟨q0, hq⟩ := (hL _ _).mp (zd_of hVa)
  have k1 := kk H locs cells slots ls hV0 hS hl hcc hs
  rw [← zI_clamp h0.1 h0.2.2] at k1
  exact va_iald hx hb hO.1 hP q0 0 hq rfl (zI_in h0.1 h0.2.1 h0.2.2) hdg k1
end ZR
