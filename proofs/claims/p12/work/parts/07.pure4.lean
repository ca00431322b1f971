section ZR3
variable {C : zC} {l0 : Launch} {Γ0 : zGam} {n0 : Nat} {own : String} {cc : ByteArray} {ws : List Cond} {d : Nat} {ret : Option FieldType} {Post : Option Value → zV → Prop} {V : zV} {kc ks pc : Nat} {lv : List (Nat × Value)} {rest : List Value}
theorem zbex {x : Int} (hr : 0 ≤ x ∧ x ≤ 255) : ∃ y : Int, (if x < 128 then x else x - 256) = y ∧ -128 ≤ y ∧ y ≤ 127 := by
  by_cases c : x < 128
  · exact ⟨x, if_pos c, by omega, by omega⟩
  · exact ⟨x - 256, if_neg c, by omega, by omega⟩
theorem zI_divn {x y : Int} (hx : 0 ≤ x ∧ x ≤ 2147483647) (hy : 0 < y ∧ y ≤ 2147483647) : zI (-x) / zI y = zI (-(x / y)) := by
  rw [← Int32.toInt_inj, Int32.toInt_div, zI_toInt (-x) (by omega), zI_toInt y (by omega)]
  have h1 : 0 ≤ x / y := Int.ediv_nonneg hx.1 (by omega)
  have h2 : x / y ≤ x := Int.ediv_le_self _ hx.1
  have h0 : (-x).tdiv y = -(x / y) := by rw [Int.neg_tdiv, Int.tdiv_eq_ediv_of_nonneg hx.1]
  rw [zI_toInt _ (by omega), h0, Int.bmod_eq_of_le] <;> omega
theorem zr_idivn (X : zK C l0 Γ0 n0 own cc ws d ret Post) (n' : Nat) {x y : Int} (hdg : decode cc pc = .ok (.idiv, 1)) (hn : pc + 1 = n') (hrx : 0 ≤ x ∧ x ≤ 2147483647) (hry : 0 < y ∧ y ≤ 2147483647) (kk : zG C V kc ks n' lv (.int (zI (-(x / y))) :: rest)) : zG C V kc ks pc lv (.int (zI y) :: .int (zI (-x)) :: rest) := by
  obtain ⟨⟨p, l, e, R, s, m, args, below, meth, c⟩, Γ, ⟨nL, mc, ms⟩, Q⟩ := C
  obtain ⟨hx, hb, hml, hown, hts, hO, hB0, hlk, hret, hmc, hms, hdf, hdl, hQ, rfl, rfl, rfl⟩ := X
  subst hn
  intro H locs cells slots ls hV hS hl hcc hs
  exact lv_idiv hx hb hdg (fun h => by rw [← zI_0, zI_eq (by omega) (by omega)] at h; omega) (by rw [zI_divn hrx hry]; exact kk H locs cells slots ls hV hS hl hcc hs)
theorem zr_ldcI (X : zK C l0 Γ0 n0 own cc ws d ret Post) (n' : Nat) {i : Nat} {v : Int} {w : Int32} (hw : Cond.constant own i w ∈ ws) (hv : w = zI v) (hdg : decode cc pc = .ok (.ldc i, 2)) (hn : pc + 2 = n') (kk : zG C V kc ks n' lv (.int (zI v) :: rest)) : zG C V kc ks pc lv rest := by
  subst hv
  exact zr_ldc X n' hdg hn hw kk
theorem zr_ldcwI (X : zK C l0 Γ0 n0 own cc ws d ret Post) (n' : Nat) {i : Nat} {v : Int} {w : Int32} (hw : Cond.constant own i w ∈ ws) (hv : w = zI v) (hdg : decode cc pc = .ok (.ldc_w i, 3)) (hn : pc + 3 = n') (kk : zG C V kc ks n' lv (.int (zI v) :: rest)) : zG C V kc ks pc lv rest := by
  subst hv
  exact zr_ldcw X n' hdg hn hw kk
end ZR3
