/-! shelves: the pure side -/
def hpB (sz i n : Int32) : Bool := decide (sz ≤ 60 ∧ 0 ≤ i ∧ 0 ≤ n ∧ i ≤ sz ∧ n ≤ sz - i)
def lbF (q : Int32) (v : Int64) : Int64 := if q = 0 then v.toInt32.toInt8.toInt32.toInt64 else if q = 1 then v.toInt32.toInt16.toInt32.toInt64 else if q = 2 then v.toInt32.toInt64 else if q = 3 then v else if v = 0 then 0 else 1
def byB (d : Nat → Int32) : Bool := decide (d 0 = 2 ∧ d 2 = 0)
def rfB (d : Nat → Int32) : Int32 := if d 0 = 0 then -11 else if byB d then 0 else -12
def rfP (d : Nat → Int32) (i : Int32) : Int32 := if d 0 = 0 then -11 else if d 0 = 2 then (if hpB (d 3) i 1 then 0 else -13) else -12
theorem lg_cmp0 {x y : Int64} : lg_cmp x y = 0 ↔ x = y := by
  unfold lg_cmp
  by_cases a : x > y
  · rw [if_pos a]
    exact ⟨fun q => absurd q (by decide), fun q => absurd (q ▸ a) Int64.lt_irrefl⟩
  · rw [if_neg a]
    by_cases b : x = y
    · rw [if_pos b]; exact ⟨fun _ => b, fun _ => rfl⟩
    · rw [if_neg b]; exact ⟨fun q => absurd q (by decide), fun q => absurd q b⟩
theorem vus {α : Type} (f : Nat → α) (k : Nat) (v : α) : va_up f k v k = v := if_pos rfl
theorem vun {α : Type} {f : Nat → α} {k j : Nat} {v : α} (h : j ≠ k) : va_up f k v j = f j := if_neg h
