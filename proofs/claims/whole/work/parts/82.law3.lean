/-! the places of two worlds side by side -/
theorem rng_l (w1 w2 : va_W) {n : Nat} (h : w1.length = n) : (List.range n).map (fun i => (w1 ++ w2)[i]?) = w1.map some := by
  subst h
  refine List.ext_getElem? fun i => ?_
  rw [List.getElem?_map, List.getElem?_map]
  by_cases hi : i < w1.length
  · rw [List.getElem?_range hi, List.getElem?_eq_getElem hi]
    show some ((w1 ++ w2)[i]?) = some (some w1[i])
    rw [List.getElem?_append_left hi, List.getElem?_eq_getElem hi]
  · rw [List.getElem?_eq_none (by rw [List.length_range]; omega), List.getElem?_eq_none (by omega)]
    rfl
theorem rng_r (w1 w2 : va_W) {n k : Nat} (h : w1.length = n) (hk : w2.length = k) : ((List.range k).map (fun j => n + j)).map (fun i => (w1 ++ w2)[i]?) = w2.map some := by
  subst h hk
  refine List.ext_getElem? fun i => ?_
  rw [List.getElem?_map, List.getElem?_map, List.getElem?_map]
  by_cases hi : i < w2.length
  · rw [List.getElem?_range hi, List.getElem?_eq_getElem hi]
    show some ((w1 ++ w2)[w1.length + i]?) = some (some w2[i])
    rw [List.getElem?_append_right (Nat.le_add_right _ _), Nat.add_sub_cancel_left, List.getElem?_eq_getElem hi]
  · rw [List.getElem?_eq_none (by rw [List.length_range]; omega), List.getElem?_eq_none (by omega)]
    rfl
