/-! The layer, second part: throws, calls that may throw, calls of an abstract method, wrappers with handlers. -/
theorem zH.kept {Γ : zGam} {V : zV} {H H1 : Heap} (h : zH Γ V H) (hq : ∀ q : Nat, q < H.size → H1[q]? = H[q]?) : zH Γ V H1 := by
  obtain ⟨ws, hL, hP, hD⟩ := h
  exact ⟨ws, hL, hP.kept (fun k q hk => hq q.1 (hP k q hk).lt), hD⟩
section ZR2
variable {C : zC} {l0 : Launch} {Γ0 : zGam} {n0 : Nat} {own : String} {cc : ByteArray} {ws : List Cond} {d : Nat} {ret : Option FieldType} {Post : Option Value → zV → Prop} {PX : String → zV → Prop} {V : zV} {kc ks pc : Nat} {lv : List (Nat × Value)} {rest : List Value}
end ZR2
