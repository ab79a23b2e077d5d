/-! acts: the pure side, as the class does it -/
def abvF (x : Int32) : Int32 := if x < 0 then -1 else if 8 ≤ x then -1 else kAbove x.toNatClampNeg
def ownF (k a : Int32) : Int32 := if k * 4 + a < 0 then 0 else if 32 ≤ k * 4 + a then 0 else kOwn (k * 4 + a).toNatClampNeg
def undR : Nat → Int32 → Int32 → Int32
  | 0, x, _ => x
  | n + 1, x, q => if x < 0 then x else if x = q then x else undR n (abvF x) q
def neaR : Nat → Int32 → Int32 → Int32
  | 0, x, _ => x
  | n + 1, x, a => if x < 0 then x else if ownF x a = 0 then neaR n (abvF x) a else x
abbrev AT : Type := Int32 × (Nat → Int32)
def noteF (q : AT) (b : Int32) : AT := (q.1 + 1, if q.1 < 0 then q.2 else if q.1 < 24 then upd q.2 q.1.toNatClampNeg b else q.2)
def perfB (sf ow : Int32) (P : Int32 → Int32 → Int32 → AT → Int32 × AT) (b up x : Int32) (q : AT) : Int32 × AT :=
  if b = 1 then (x + sf, q)
  else if b = 2 then ((P ow 1 x q).1 - (P ow 2 1 (P ow 1 x q).2).1, (P ow 2 1 (P ow 1 x q).2).2)
  else if b = 10 then ((P ow 0 x q).1 * 2, (P ow 0 x q).2)
  else if b = 11 then (x ^^^ sf, q)
  else if b = 20 then ((P up 0 x q).1 + 3, (P up 0 x q).2)
  else if b = 30 then (-(P up 1 x q).1, (P up 1 x q).2)
  else if b = 40 then ((P up 2 x q).1 * 3, (P up 2 x q).2)
  else if b = 41 then ((P up 1 (x + 1) q).1, (P up 1 (x + 1) q).2)
  else if b = 50 then ((P up 3 x q).1 ^^^ 5, (P up 3 x q).2)
  else if b = 60 then ((P up 2 x q).1 - (P ow 0 2 (P up 2 x q).2).1, (P ow 0 2 (P up 2 x q).2).2)
  else if b = 61 then ((P up 3 x q).1 + 1, (P up 3 x q).2)
  else if b = 70 then ((P up 0 x q).1 * 2, (P up 0 x q).2)
  else if b = 80 then ((P up 1 x q).1 + (P ow 2 2 (P up 1 x q).2).1, (P ow 2 2 (P up 1 x q).2).2)
  else if b = 81 then ((P up 0 x q).1 - 1, (P up 0 x q).2)
  else (0, q)
def perfF (sf ow : Int32) : Nat → Int32 → Int32 → Int32 → AT → Int32 × AT
  | 0, _, _, _, q => (0, q)
  | n + 1, fm, a, x, q => if neaR 8 fm a < 0 then (0, q) else perfB sf ow (perfF sf ow n) (ownF (neaR 8 fm a) a) (abvF (neaR 8 fm a)) x (noteF q (ownF (neaR 8 fm a) a))
theorem perfF_0 {sf ow fm a x : Int32} {q : AT} (h : neaR 8 fm a < 0) : ∀ n, perfF sf ow n fm a x q = (0, q)
  | 0 => rfl
  | n + 1 => by rw [perfF, if_pos h]
theorem perfF_s {sf ow fm a x : Int32} {q : AT} {n : Nat} (h : ¬ neaR 8 fm a < 0) : perfF sf ow (n + 1) fm a x q = perfB sf ow (perfF sf ow n) (ownF (neaR 8 fm a) a) (abvF (neaR 8 fm a)) x (noteF q (ownF (neaR 8 fm a) a)) := by
  rw [perfF, if_neg h]
theorem up_self {α : Type} (f : Nat → α) (k : Nat) : va_up f k (f k) = f := by
  funext j
  unfold va_up
  split
  · rename_i h; rw [h]
  · rfl
def bodB (n : Nat) (x : Int32) : Bool := decide (0 ≤ x.toInt ∧ x.toInt < n)
