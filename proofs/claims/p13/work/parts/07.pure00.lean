/-! pure rows of views; Math.max and min -/
theorem zu_zu (V : zV) (a t t' : Nat) (e e' : va_E) : zu (zu V a t e) a t' e' = zu V a t' e' := by
  funext b
  unfold zu
  by_cases h : b = a <;> simp [h]
theorem zu_swap (V : zV) {a b : Nat} (h : a ≠ b) (t t' : Nat) (e e' : va_E) : zu (zu V a t e) b t' e' = zu (zu V b t' e') a t e := by
  funext c
  unfold zu
  by_cases h1 : c = b
  · subst h1
    simp [Ne.symm h]
  · simp [h1]
theorem zu_id {V : zV} {a t : Nat} {e : va_E} (h : V a = some (t, e)) : zu V a t e = V := by
  funext b
  unfold zu
  by_cases h1 : b = a
  · subst h1
    simp [h]
  · simp [h1]
theorem zne_new {V : zV} {a b : Nat} {x : Nat × va_E} (ha : V a = some x) (hb : V b = none) : a ≠ b := fun h => by
  rw [h, hb] at ha
  cases ha
theorem zne_tag {V : zV} {a b t t' : Nat} {x y : va_E} (ha : V a = some (t, x)) (hb : V b = some (t', y)) (ht : t ≠ t') : a ≠ b := fun h => by
  rw [h, hb] at ha
  cases ha
  exact ht rfl
theorem zne_oa {V : zV} {a b t t' k n : Nat} {o : Nat × List Value} {aC : Nat → ClassId} {f : Nat → Int} (ha : V a = some (t, .inr o)) (hb : V b = some (t', za aC k n f)) : a ≠ b := fun h => by
  rw [h, hb] at ha
  cases ha
theorem zne_oq {V : zV} {a b t t' k n : Nat} {o : Nat × List Value} {aC : Nat → ClassId} {f : Nat → Option Nat} (ha : V a = some (t, .inr o)) (hb : V b = some (t', zq aC k n f)) : a ≠ b := fun h => by
  rw [h, hb] at ha
  cases ha
theorem zne_oo {V : zV} {a b t t' ci ci' : Nat} {fs fs' : List Value} (ha : V a = some (t, .inr (ci, fs))) (hb : V b = some (t', .inr (ci', fs'))) (hc : ci ≠ ci') : a ≠ b := fun h => by
  rw [h, hb] at ha
  cases ha
  exact hc rfl
section ZR3
variable {C : zC} {l0 : Launch} {Γ0 : zGam} {n0 : Nat} {own : String} {cc : ByteArray} {ws : List Cond} {d : Nat} {ret : Option FieldType} {Post : Option Value → zV → Prop} {V : zV} {kc ks pc : Nat} {lv : List (Nat × Value)} {rest : List Value}
end ZR3
