section ZR3
variable {C : zC} {l0 : Launch} {Γ0 : zGam} {n0 : Nat} {own : String} {cc : ByteArray} {ws : List Cond} {d : Nat} {ret : Option FieldType} {Post : Option Value → zV → Prop} {V : zV} {kc ks pc : Nat} {lv : List (Nat × Value)} {rest : List Value}
theorem zI_b {x : Int} (hr : -128 ≤ x ∧ x ≤ 127) : (zI x).toInt8.toInt32 = zI x := zI_nar_b hr
theorem zI_fb {x : Int} (hr : -128 ≤ x ∧ x ≤ 127) : fits .byte (.int (zI x)) = true := by
  have h := pk_fb (zI x)
  rwa [zI_b hr] at h
theorem zI_nb {x : Int} (hr : -128 ≤ x ∧ x ≤ 127) : narrow .byte (.int (zI x)) = .int (zI x) := by
  have h := pk_nb (zI x)
  rwa [zI_b hr] at h
theorem zr_null (X : zK C l0 Γ0 n0 own cc ws d ret Post) (n' : Nat) (hdg : decode cc pc = .ok (.aconst_null, 1)) (hn : pc + 1 = n') (kk : zG C V kc ks n' lv (.null :: rest)) : zG C V kc ks pc lv rest := by
  obtain ⟨⟨p, l, e, R, s, m, args, below, meth, c⟩, Γ, ⟨nL, mc, ms⟩, Q⟩ := C
  obtain ⟨hx, hb, hml, hown, hts, hO, hB0, hlk, hret, hmc, hms, hdf, hdl, hQ, rfl, rfl, rfl⟩ := X
  subst hn
  intro H locs cells slots ls hV hS hl hcc hs
  exact lv_null hx hb hdg (kk H locs cells slots ls hV hS hl hcc hs)
theorem zr_ishl0 (X : zK C l0 Γ0 n0 own cc ws d ret Post) (n' : Nat) {x : Int32} (hdg : decode cc pc = .ok (.ishl, 1)) (hn : pc + 1 = n') (kk : zG C V kc ks n' lv (.int x :: rest)) : zG C V kc ks pc lv (.int (zI 0) :: .int x :: rest) := by
  obtain ⟨⟨p, l, e, R, s, m, args, below, meth, c⟩, Γ, ⟨nL, mc, ms⟩, Q⟩ := C
  obtain ⟨hx, hb, hml, hown, hts, hO, hB0, hlk, hret, hmc, hms, hdf, hdl, hQ, rfl, rfl, rfl⟩ := X
  subst hn
  intro H locs cells slots ls hV hS hl hcc hs
  have e : x <<< (zI 0 &&& 31) = x := by
    have e1 : (zI 0 &&& 31) = 0 := by decide +kernel
    rw [e1]
    simp
  exact lv_ishl hx hb hdg (by rw [e]; exact kk H locs cells slots ls hV hS hl hcc hs)
theorem zr_ishr0 (X : zK C l0 Γ0 n0 own cc ws d ret Post) (n' : Nat) {x : Int32} (hdg : decode cc pc = .ok (.ishr, 1)) (hn : pc + 1 = n') (kk : zG C V kc ks n' lv (.int x :: rest)) : zG C V kc ks pc lv (.int (zI 0) :: .int x :: rest) := by
  obtain ⟨⟨p, l, e, R, s, m, args, below, meth, c⟩, Γ, ⟨nL, mc, ms⟩, Q⟩ := C
  obtain ⟨hx, hb, hml, hown, hts, hO, hB0, hlk, hret, hmc, hms, hdf, hdl, hQ, rfl, rfl, rfl⟩ := X
  subst hn
  intro H locs cells slots ls hV hS hl hcc hs
  have e : x >>> (zI 0 &&& 31) = x := by
    have e1 : (zI 0 &&& 31) = 0 := by decide +kernel
    rw [e1]
    simp
  exact lv_ishr hx hb hdg (by rw [e]; exact kk H locs cells slots ls hV hS hl hcc hs)
theorem zr_getsD (X : zK C l0 Γ0 n0 own cc ws d ret Post) (n' i : Nat) {index : Nat} {nm : String} (hi : (i = 20 ∧ nm = "DigitOnes") ∨ (i = 21 ∧ nm = "DigitTens")) (hlink : Cond.fieldLink own index "java/lang/Integer" nm "[B" ∈ ws) (hdg : decode cc pc = .ok (.getstatic index, 3)) (hn : pc + 3 = n') (kk : zG C V kc ks n' lv (.ref (Γ0.2.2.1 i) :: rest)) : zG C V kc ks pc lv rest := by
  obtain ⟨⟨p, l, e, R, s, m, args, below, meth, c⟩, Γ, ⟨nL, mc, ms⟩, Q⟩ := C
  obtain ⟨hx, hb, hml, hown, hts, hO, hB0, hlk, hret, hmc, hms, hdf, hdl, hQ, rfl, rfl, rfl⟩ := X
  subst hn
  intro H locs cells slots ls hV hS hl hcc hs
  have hD : zDg Γ i nm s s.heap := by
    rcases hi with ⟨rfl, rfl⟩ | ⟨rfl, rfl⟩
    · exact hO.2.2.2.2.2.2.2.2.2.2.2.2.2.1
    · exact hO.2.2.2.2.2.2.2.2.2.2.2.2.2.2
  exact va_gets hx hb hD.1 hS hown (hts _ hlink) (fun _ h => h) hdg (kk H locs cells slots ls hV hS hl hcc hs)
theorem zr_baldD (X : zK C l0 Γ0 n0 own cc ws d ret Post) (n' i : Nat) {k : Int} (hi : i = 20 ∨ i = 21) (hk : 0 ≤ k ∧ k < 100) (hdg : decode cc pc = .ok (.baload, 1)) (hn : pc + 1 = n') (kk : ∀ x : Int, 48 ≤ x ∧ x ≤ 57 → zG C V kc ks n' lv (.int (zI x) :: rest)) : zG C V kc ks pc lv (.int (zI k) :: .ref (Γ0.2.2.1 i) :: rest) := by
  obtain ⟨⟨p, l, e, R, s, m, args, below, meth, c⟩, Γ, ⟨nL, mc, ms⟩, Q⟩ := C
  obtain ⟨hx, hb, hml, hown, hts, hO, hB0, hlk, hret, hmc, hms, hdf, hdl, hQ, rfl, rfl, rfl⟩ := X
  subst hn
  intro H locs cells slots ls hV hS hl hcc hs
  have hD : ∃ f : Nat → Int, (∀ j, 48 ≤ f j ∧ f j ≤ 57) ∧ va_T .byte (Γ.2.2.1 i) 100 (fun j => .int (zI (f j))) (zA Γ.2.2.2) s s.heap := by
    rcases hi with rfl | rfl
    · exact hO.2.2.2.2.2.2.2.2.2.2.2.2.2.1.2
    · exact hO.2.2.2.2.2.2.2.2.2.2.2.2.2.2.2
  obtain ⟨f, hf, hT⟩ := hD
  exact va_tb hx hb hT hS (zI_in hk.1 (by omega) (by omega)) rfl hdg (kk _ (hf _) H locs cells slots ls hV hS hl hcc hs)
/-- n values of f from place sp on, laid into g from place dp on -/
def zcp (f g : Nat → Int) (sp dp n : Nat) : Nat → Int := fun j => if dp ≤ j ∧ j < dp + n then f (sp + (j - dp)) else g j
end ZR3
