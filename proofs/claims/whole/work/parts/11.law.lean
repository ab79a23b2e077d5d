/-! the law worked out, as the class does it -/
def togF (op l r : Int32) : Int32 :=
  if op = 37 then (if r = 0 then 0 else l - l / r * r)
  else if op = 38 then (if l = 0 then 0 else if r = 0 then 0 else 1)
  else if op = 42 then l * r
  else if op = 43 then l + r
  else if op = 45 then l - r
  else if op = 47 then (if r = 0 then 0 else l / r)
  else if op = 60 then (if l < r then 1 else 0)
  else if op = 61 then (if l = r then 1 else 0)
  else if op = 62 then (if r < l then 1 else 0)
  else if op = 124 then (if l = 0 then (if r = 0 then 0 else 1) else 1)
  else 0
def namedF (nm : Nat → Int32) (x : Int32) : Int32 := if x < 0 then 0 else if x < 5 then nm x.toNatClampNeg else 0
def lawR (ops nums nm : Nat → Int32) (sz : Nat) : Nat → Nat → Nat → (Nat → Int32) → Int32 → Int32
  | 0, _, _, _, _ => 0
  | n + 1, i, top, st, cnt => if i < sz ∧ i < 128 ∧ 2 ≤ top ∧ top < 130 then
      (if ops i = 33 then lawR ops nums nm sz n (i + 1) top (upd st (top - 1) (if st (top - 1) = 0 then 1 else 0)) cnt
      else if ops i = 48 then lawR ops nums nm sz n (i + 1) (top + 1) (upd st top (nums i)) cnt
      else if ops i = 59 then (if cnt = 0 then lawR ops nums nm sz n (i + 1) (top - 1) st 1 else st (top - 1))
      else if ops i = 63 then lawR ops nums nm sz n (i + 1) (top - 1) st (if st (top - 1) = 0 then 0 else 1)
      else if ops i = 110 then lawR ops nums nm sz n (i + 1) (top + 1) (upd st top (namedF nm (nums i))) cnt
      else if ops i = 126 then lawR ops nums nm sz n (i + 1) top (upd st (top - 1) (-(st (top - 1)))) cnt
      else lawR ops nums nm sz n (i + 1) (top - 1) (upd st (top - 2) (togF (ops i) (st (top - 2)) (st (top - 1)))) cnt)
    else 0
section LAWR
variable {ops nums nm st : Nat → Int32} {sz n i top : Nat} {cnt : Int32}
theorem lawR_out (h : ¬ (i < sz ∧ i < 128 ∧ 2 ≤ top ∧ top < 130)) : lawR ops nums nm sz n i top st cnt = 0 := by
  cases n with
  | zero => rfl
  | succ n => rw [lawR, if_neg h]
theorem lawR_33 (h : i < sz ∧ i < 128 ∧ 2 ≤ top ∧ top < 130) (e : ops i = 33) : lawR ops nums nm sz (n + 1) i top st cnt = lawR ops nums nm sz n (i + 1) top (upd st (top - 1) (if st (top - 1) = 0 then 1 else 0)) cnt := by
  rw [lawR, if_pos h, if_pos e]
theorem lawR_48 (h : i < sz ∧ i < 128 ∧ 2 ≤ top ∧ top < 130) (e : ops i = 48) : lawR ops nums nm sz (n + 1) i top st cnt = lawR ops nums nm sz n (i + 1) (top + 1) (upd st top (nums i)) cnt := by
  rw [lawR, if_pos h, if_neg (by rw [e]; decide), if_pos e]
theorem lawR_59a (h : i < sz ∧ i < 128 ∧ 2 ≤ top ∧ top < 130) (e : ops i = 59) (hc : cnt = 0) : lawR ops nums nm sz (n + 1) i top st cnt = lawR ops nums nm sz n (i + 1) (top - 1) st 1 := by
  rw [lawR, if_pos h, if_neg (by rw [e]; decide), if_neg (by rw [e]; decide), if_pos e, if_pos hc]
theorem lawR_59b (h : i < sz ∧ i < 128 ∧ 2 ≤ top ∧ top < 130) (e : ops i = 59) (hc : ¬ cnt = 0) : lawR ops nums nm sz (n + 1) i top st cnt = st (top - 1) := by
  rw [lawR, if_pos h, if_neg (by rw [e]; decide), if_neg (by rw [e]; decide), if_pos e, if_neg hc]
theorem lawR_63 (h : i < sz ∧ i < 128 ∧ 2 ≤ top ∧ top < 130) (e : ops i = 63) : lawR ops nums nm sz (n + 1) i top st cnt = lawR ops nums nm sz n (i + 1) (top - 1) st (if st (top - 1) = 0 then 0 else 1) := by
  rw [lawR, if_pos h, if_neg (by rw [e]; decide), if_neg (by rw [e]; decide), if_neg (by rw [e]; decide), if_pos e]
theorem lawR_110 (h : i < sz ∧ i < 128 ∧ 2 ≤ top ∧ top < 130) (e : ops i = 110) : lawR ops nums nm sz (n + 1) i top st cnt = lawR ops nums nm sz n (i + 1) (top + 1) (upd st top (namedF nm (nums i))) cnt := by
  rw [lawR, if_pos h, if_neg (by rw [e]; decide), if_neg (by rw [e]; decide), if_neg (by rw [e]; decide), if_neg (by rw [e]; decide), if_pos e]
theorem lawR_126 (h : i < sz ∧ i < 128 ∧ 2 ≤ top ∧ top < 130) (e : ops i = 126) : lawR ops nums nm sz (n + 1) i top st cnt = lawR ops nums nm sz n (i + 1) top (upd st (top - 1) (-(st (top - 1)))) cnt := by
  rw [lawR, if_pos h, if_neg (by rw [e]; decide), if_neg (by rw [e]; decide), if_neg (by rw [e]; decide), if_neg (by rw [e]; decide), if_neg (by rw [e]; decide), if_pos e]
theorem lawR_def (h : i < sz ∧ i < 128 ∧ 2 ≤ top ∧ top < 130) (e1 : ¬ ops i = 33) (e2 : ¬ ops i = 48) (e3 : ¬ ops i = 59) (e4 : ¬ ops i = 63) (e5 : ¬ ops i = 110) (e6 : ¬ ops i = 126) : lawR ops nums nm sz (n + 1) i top st cnt = lawR ops nums nm sz n (i + 1) (top - 1) (upd st (top - 2) (togF (ops i) (st (top - 2)) (st (top - 1)))) cnt := by
  rw [lawR, if_pos h, if_neg e1, if_neg e2, if_neg e3, if_neg e4, if_neg e5, if_neg e6]
theorem namedF_nm {nm nm' : Nat → Int32} (h : ∀ j, j < 5 → nm j = nm' j) (x : Int32) : namedF nm x = namedF nm' x := by
  unfold namedF
  by_cases a : x < 0
  · rw [if_pos a, if_pos a]
  · rw [if_neg a, if_neg a]
    by_cases b : x < 5
    · rw [if_pos b, if_pos b]
      obtain ⟨j, hj, rfl⟩ := nI_of a
      rw [show nI j < 5 ↔ nI j < nI 5 from Iff.rfl, nI_ltI (by omega) (by decide)] at b
      rw [nI_clamp (by omega)]
      exact h j b
    · rw [if_neg b, if_neg b]
theorem lawR_nm {nm' : Nat → Int32} (h : ∀ j, j < 5 → nm j = nm' j) : lawR ops nums nm sz n i top st cnt = lawR ops nums nm' sz n i top st cnt := by
  induction n generalizing i top st cnt with
  | zero => rfl
  | succ n ih => simp only [lawR, namedF_nm h, ih]
end LAWR
def heldF (x : Int32) : Int32 := if (if x < 60 then x else 60) < 1 then 1 else (if x < 60 then x else 60)
/-- the five facts of a going -/
def facts (n p k w s : Int32) : Nat → Int32 := fun j => if j = 4 then s else if j = 3 then w else if j = 2 then k else if j = 1 then p else if j = 0 then n else 0
theorem heldF_in (x : Int32) : 1 ≤ (heldF x).toInt ∧ (heldF x).toInt ≤ 60 := by
  unfold heldF
  have h60 : (60 : Int32).toInt = 60 := by decide
  have h1 : (1 : Int32).toInt = 1 := by decide
  by_cases a : x < 60
  · rw [if_pos a]
    rw [Int32.lt_iff_toInt_lt, h60] at a
    by_cases b : x < 1
    · rw [if_pos b, h1]; omega
    · rw [if_neg b]
      rw [Int32.lt_iff_toInt_lt, h1] at b
      omega
  · rw [if_neg a, if_neg (by decide), h60]; omega
