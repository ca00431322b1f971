theorem goodIn_s {big : List Cond} {sg : List (List Cond)} (he : sg.flatten = big) (ws : List Cond) (ps : List (Nat × Nat)) (hp : ws = ps.filterMap (fun p => (sg[p.1]?).bind (fun s => s[p.2]?))) (h : ws.all goodWord = true) : GoodIn big ws := by
  intro w hw
  have h1 := List.all_eq_true.mp h w hw
  rw [hp] at hw
  obtain ⟨i, -, hi⟩ := List.mem_filterMap.mp hw
  obtain ⟨s, hs, hj⟩ := Option.bind_eq_some_iff.mp hi
  refine ⟨?_, good_of_word h1⟩
  rw [← he]
  exact List.mem_flatten.mpr ⟨s, List.mem_of_getElem? hs, List.mem_of_getElem? hj⟩
