/-! the checksum's arithmetic -/
def zmi (x : Int64) (v : Int) : Int64 := x * 31 + (zI v).toInt64
def zmr (x : Int64) (f : Nat → Int) : Nat → Int64
  | 0 => x
  | n + 1 => zmi (zmr x f n) (f n)
theorem zmi_of {x z : Int64} {v : Int} (h : z = (zI v).toInt64) : x * 31 + z = zmi x v := by
  rw [h]
  rfl
theorem zmr_up {x y z : Int64} {f : Nat → Int} {m m' : Nat} {v : Int} (h : y = zmr x f m) (hm : m' = m + 1) (hz : z = (zI v).toInt64) (hv : v = f m) : y * 31 + z = zmr x f m' := by
  rw [hm, hz, hv, h]
  rfl
theorem zmr_eq {x : Int64} {f g : Nat → Int} {n m : Nat} (hn : n = m) (e : ∀ k : Nat, k < m → f k = g k) : zmr x f n = zmr x g m := by
  subst hn
  induction n with
  | zero => rfl
  | succ n ih =>
    show zmi (zmr x f n) (f n) = zmi (zmr x g n) (g n)
    rw [ih (fun k hk => e k (by omega)), e n (by omega)]
theorem zmr_1 {x : Int64} {a : Int} : zmr x (zf (fun _ => 0) (0 : Int).toNat a) (1 : Int).toNat = zmi x a := rfl
theorem zmr_2 {x : Int64} {a b : Int} : zmr x (zf (zf (fun _ => 0) (0 : Int).toNat a) (1 : Int).toNat b) (2 : Int).toNat = zmi (zmi x a) b := rfl
theorem zmr_4 {x : Int64} {a b d e : Int} : zmr x (zf (zf (zf (zf (fun _ => 0) (0 : Int).toNat a) (1 : Int).toNat b) (2 : Int).toNat d) (3 : Int).toNat e) (4 : Int).toNat = zmi (zmi (zmi (zmi x a) b) d) e := rfl
theorem zmr_5 {x : Int64} {a b d e g : Int} : zmr x (zf (zf (zf (zf (zf (fun _ => 0) (0 : Int).toNat a) (1 : Int).toNat b) (2 : Int).toNat d) (3 : Int).toNat e) (4 : Int).toNat g) (5 : Int).toNat = zmi (zmi (zmi (zmi (zmi x a) b) d) e) g := rfl
theorem zmr_f4 {x : Int64} {f : Nat → Int} {a b d e : Int} (h0 : f 0 = a) (h1 : f 1 = b) (h2 : f 2 = d) (h3 : f 3 = e) : zmr x f 4 = zmi (zmi (zmi (zmi x a) b) d) e := by
  rw [← h0, ← h1, ← h2, ← h3]
  rfl
