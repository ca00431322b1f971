section ZR3
variable {C : zC} {l0 : Launch} {Γ0 : zGam} {n0 : Nat} {own : String} {cc : ByteArray} {ws : List Cond} {d : Nat} {ret : Option FieldType} {Post : Option Value → zV → Prop} {V : zV} {kc ks pc : Nat} {lv : List (Nat × Value)} {rest : List Value}
theorem zdf_J0 : ∀ j, j < 4 → defaultValue (tyJ0 j) = vp_V [.null, .int (zI (0)), .int (zI (0)), .int (zI (0))] j := fun j hj => by
  match j, hj with
  | 0, _ => rfl
  | 1, _ => rfl
  | 2, _ => rfl
  | 3, _ => rfl
  | (k + 4), h => exact absurd h (by omega)
theorem zdf_J4 : ∀ j, j < 4 → defaultValue (tyJ4 j) = vp_V [.null, .int (zI (0)), .int (zI (0)), .int (zI (0))] j := fun j hj => by
  match j, hj with
  | 0, _ => rfl
  | 1, _ => rfl
  | 2, _ => rfl
  | 3, _ => rfl
  | (k + 4), h => exact absurd h (by omega)
theorem zdf_X0 : ∀ j, j < 3 → defaultValue (tyX0 j) = vp_V [.null, .null, .int (zI (0))] j := fun j hj => by
  match j, hj with
  | 0, _ => rfl
  | 1, _ => rfl
  | 2, _ => rfl
  | (k + 3), h => exact absurd h (by omega)
theorem zdf_X1 : ∀ j, j < 4 → defaultValue (tyX1 j) = vp_V [.null, .null, .null, .int (zI (0))] j := fun j hj => by
  match j, hj with
  | 0, _ => rfl
  | 1, _ => rfl
  | 2, _ => rfl
  | 3, _ => rfl
  | (k + 4), h => exact absurd h (by omega)
theorem zdf_X2 : ∀ j, j < 2 → defaultValue (tyX2 j) = vp_V [.null, .int (zI (0))] j := fun j hj => by
  match j, hj with
  | 0, _ => rfl
  | 1, _ => rfl
  | (k + 2), h => exact absurd h (by omega)
theorem zdf_X3 : ∀ j, j < 3 → defaultValue (tyX3 j) = vp_V [.null, .null, .int (zI (0))] j := fun j hj => by
  match j, hj with
  | 0, _ => rfl
  | 1, _ => rfl
  | 2, _ => rfl
  | (k + 3), h => exact absurd h (by omega)
theorem zdf_X5 : ∀ j, j < 6 → defaultValue (tyX5 j) = vp_V [.null, .int (zI (0)), .int (zI (0)), .int (zI (0)), .int (zI (0)), .int (zI (0))] j := fun j hj => by
  match j, hj with
  | 0, _ => rfl
  | 1, _ => rfl
  | 2, _ => rfl
  | 3, _ => rfl
  | 4, _ => rfl
  | 5, _ => rfl
  | (k + 6), h => exact absurd h (by omega)
theorem zdf_X6 : ∀ j, j < 14 → defaultValue (tyX6 j) = vp_V [.null, .null, .null, .null, .null, .null, .null, .null, .null, .null, .int (zI (0)), .int (zI (0)), .int (zI (0)), .int (zI (0))] j := fun j hj => by
  match j, hj with
  | 0, _ => rfl
  | 1, _ => rfl
  | 2, _ => rfl
  | 3, _ => rfl
  | 4, _ => rfl
  | 5, _ => rfl
  | 6, _ => rfl
  | 7, _ => rfl
  | 8, _ => rfl
  | 9, _ => rfl
  | 10, _ => rfl
  | 11, _ => rfl
  | 12, _ => rfl
  | 13, _ => rfl
  | (k + 14), h => exact absurd h (by omega)
theorem zdf_X7 : ∀ j, j < 2 → defaultValue (tyX7 j) = vp_V [.long 0, .null] j := fun j hj => by
  match j, hj with
  | 0, _ => rfl
  | 1, _ => rfl
  | (k + 2), h => exact absurd h (by omega)
theorem zdf_X8 : ∀ j, j < 11 → defaultValue (tyX8 j) = vp_V [.null, .int (zI (0)), .null, .null, .null, .null, .int (zI (0)), .int (zI (0)), .int (zI (0)), .null, .int (zI (0))] j := fun j hj => by
  match j, hj with
  | 0, _ => rfl
  | 1, _ => rfl
  | 2, _ => rfl
  | 3, _ => rfl
  | 4, _ => rfl
  | 5, _ => rfl
  | 6, _ => rfl
  | 7, _ => rfl
  | 8, _ => rfl
  | 9, _ => rfl
  | 10, _ => rfl
  | (k + 11), h => exact absurd h (by omega)
end ZR3
