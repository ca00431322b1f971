section ZR
variable {C : zC} {l0 : Launch} {Γ0 : zGam} {n0 : Nat} {own : String} {cc : ByteArray} {ws : List Cond} {d : Nat} {ret : Option FieldType} {Post : Option Value → zV → Prop} {V : zV} {kc ks pc : Nat} {lv : List (Nat × Value)} {rest : List Value}
theorem zD_new {Γ : zGam} {V : zV} {ws : va_W} {a : Nat} {e : va_E} (hL : zL (zd V) ws) (hD : va_D (zA Γ.2.2.2) (ws ++ [(a, e)])) : V a = none := by
  cases hv : V a with
  | none => rfl
  | some q =>
    obtain ⟨t, e1⟩ := q
    obtain ⟨k, hk⟩ := (hL _ _).mp (zd_of hv)
    have hl := (List.getElem?_eq_some_iff.mp hk).1
    have := hD.1 k ws.length (a, e1) (a, e) (by rw [List.getElem?_append_left hl]; exact hk) (by simp) rfl
    omega
end ZR
