section ZR2
variable {C : zC} {l0 : Launch} {Γ0 : zGam} {n0 : Nat} {own : String} {cc : ByteArray} {ws : List Cond} {d : Nat} {ret : Option FieldType} {Post : Option Value → zV → Prop} {PX : String → zV → Prop} {V : zV} {kc ks pc : Nat} {lv : List (Nat × Value)} {rest : List Value}
theorem zRunX (X : zK C l0 Γ0 n0 own cc ws d ret Post) (Y : zY C Post PX) {mc' ms' n' : Nat} {st : List Value} {a : Array Value} {P' : Option Value → zV → Prop} {PX' : String → zV → Prop}
    (hr : ∀ (H : Heap) (locs : List Loc) (cells slots : Nat) (ls : Array Slot), zH Γ0 V H → va_S (zA Γ0.2.2.2) C.1.2.2.2.2.1.heap H locs → lv_has ls n0 lv → cells + mc' ≤ C.2.2.1.2.1 → slots + ms' ≤ C.2.2.1.2.2 →
      vx_Run C.1.1 C.1.2.1 C.1.2.2.1 C.1.2.2.2.1 C.1.2.2.2.2.1 C.1.2.2.2.2.2.1 C.1.2.2.2.2.2.2.1 C.1.2.2.2.2.2.2.2.1 C.1.2.2.2.2.2.2.2.2.1 C.1.2.2.2.2.2.2.2.2.2 H locs cells slots mc' ms' (F0 C.1.2.2.2.2.2.1 pc ls st) rest (zQ Γ0 P' a) (zX Γ0 PX') (zA Γ0.2.2.2))
    (hn : pc + 3 = n') {kc' ks' : Nat} (hkc : kc' + mc' ≤ kc) (hks : ks' + ms' ≤ ks) (hpx : ∀ E V', PX' E V' → PX E V') (kk : ∀ (rv : Option Value) (V' : zV), P' rv V' → zG C V' kc' ks' n' lv (rv.toList ++ rest)) : zG C V kc ks pc lv st := by
  obtain ⟨⟨p, l, e, R, s, m, args, below, meth, c⟩, Γ, ⟨nL, mc, ms⟩, Q⟩ := C
  obtain ⟨hx, hb, hml, hown, hts, hO, hB0, hlk, hret, hmc, hms, hdf, hdl, hQ, rfl, rfl, rfl⟩ := X
  obtain ⟨hQx, htr, htab⟩ := Y
  subst hn
  try dsimp only at hr
  subst hQx
  intro H locs cells slots ls hV hS hl hcc hs T hT X
  rcases hr H locs cells slots ls hV hS hl (by omega) (by omega) T hT X with ⟨v, st₀, t, T', L, h0, X', hL, e1, e2, ⟨⟨rv, V', hv, hp, hH⟩, hF⟩, sg⟩ | ⟨q, st₀, t, T', L, E, ce, h0, X', hL, e1, e2, ⟨⟨V', hp, hH⟩, hF⟩, hce, hcv, hcl, sg⟩
  · cases hv
    obtain ⟨k1, k2, k3⟩ := vx_keep h0 e1 hS (fun _ _ h => h) (fun _ h => h) hL hF
    obtain ⟨t2, a1, b1⟩ := kk v V' hp T'.heap (locs ++ L) (cells + mc') (slots + ms') ls (by rw [e1]; exact hH) k3 hl (by omega) (by omega) T' rfl X'
    exact ⟨t2, sg t2 a1, b1⟩
  · obtain ⟨k1, k2, k3⟩ := vx_keep h0 e1 hS (fun _ _ h => h) (fun _ h => h) hL hF
    have w : vx_W p l e R s m args below meth c T'.heap (locs ++ L) (cells + mc') (slots + ms') (vx_MQ below (zQ Γ Post) (zX Γ PX) args s mc ms (zA Γ.2.2.2)) (F0 m pc ls rest) q := vx_out (fun x hx => (htab x hx).elim) hlk (by rw [e1]; exact hce) hcv hcl (fun t1 ht1 _ => ⟨⟨V', hpx E V' hp, by rw [ht1, e1]; exact hH⟩, k3.F ht1⟩) k3.2.2 (by omega) (by omega)
    obtain ⟨t2, a1, b1⟩ := w T' rfl X'
    exact ⟨t2, sg.trans a1, b1⟩
end ZR2
