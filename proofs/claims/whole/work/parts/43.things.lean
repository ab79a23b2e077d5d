/-! things out of rows, drives told back -/
def tcE (q : SHT) (j : Nat) : Int32 := (q.2.2.2.2 j).toInt32
def tcB (q : SHT) (n a : Nat) : Bool := decide (a + 4 ≤ q.2.2.2.1 ∧ mayB 0 (tcE q a) = true ∧ mayB 1 (tcE q (a + 1)) = true ∧ mayB 2 (tcE q (a + 2)) = true ∧ mayB 3 (tcE q (a + 3)) = true ∧ n < 8)
def tcS (q : SHT) (S : STT) (a : Nat) : STT := addS S (tcE q a).toNatClampNeg (tcE q (a + 1)).toNatClampNeg (tcE q (a + 2)).toNatClampNeg (tcE q (a + 3)).toNatClampNeg
def thR (q : SHT) : Nat → Nat → STT → Nat × STT
  | 0, _, S => (0, S)
  | k + 1, a, S => if tcB q S.1.1 a = true then ((thR q k (a + 4) (tcS q S a)).1 + 1, (thR q k (a + 4) (tcS q S a)).2) else (0, S)
def thB (x n : Int32) : Bool := decide (inS x = true ∧ 1 ≤ n ∧ n ≤ 8)
def aThings (S : STT) (x i n : Int32) : Int32 := if thB x n = true then (if (S.2.2.2.2.2.2 x.toNatClampNeg).1 = 0 then 0 else if (S.2.2.2.2.2.2 x.toNatClampNeg).1 = 2 ∧ (S.2.2.2.2.2.2 x.toNatClampNeg).2.2.1 = 0 then (if 0 ≤ i ∧ i < 60 then nI (thR (S.2.2.2.2.2.2 x.toNatClampNeg) n.toNatClampNeg i.toNatClampNeg S).1 else 0) else -12) else -1
def nThings (S : STT) (x i n : Int32) : STT := if thB x n = true ∧ ((S.2.2.2.2.2.2 x.toNatClampNeg).1 = 2 ∧ (S.2.2.2.2.2.2 x.toNatClampNeg).2.2.1 = 0) ∧ 0 ≤ i ∧ i < 60 then (thR (S.2.2.2.2.2.2 x.toNatClampNeg) n.toNatClampNeg i.toNatClampNeg S).2 else S
def fuR (q : SHT) (gl : GL) : Nat → Nat → Int32
  | 0, _ => -2
  | k + 1, t => match gl[t]? with
    | none => if q.2.2.2.1 ≤ 2 * t then -2 else nI t
    | some w => if 2 * t + 2 ≤ q.2.2.2.1 ∧ q.2.2.2.2 (2 * t) = (nI w.1).toInt64 ∧ q.2.2.2.2 (2 * t + 1) = (nI w.2.2).toInt64 then fuR q gl k (t + 1) else nI t
theorem fuR_n {q : SHT} {gl : GL} {k t : Nat} (h : gl.length ≤ t) : fuR q gl (k + 1) t = if q.2.2.2.1 ≤ 2 * t then -2 else nI t := by
  show (match gl[t]? with
    | none => if q.2.2.2.1 ≤ 2 * t then -2 else nI t
    | some w => if 2 * t + 2 ≤ q.2.2.2.1 ∧ q.2.2.2.2 (2 * t) = (nI w.1).toInt64 ∧ q.2.2.2.2 (2 * t + 1) = (nI w.2.2).toInt64 then fuR q gl k (t + 1) else nI t) = _
  rw [List.getElem?_eq_none h]
theorem fuR_s {q : SHT} {gl : GL} {k t : Nat} {w : Nat × Nat × Nat} (h : gl[t]? = some w) : fuR q gl (k + 1) t = if 2 * t + 2 ≤ q.2.2.2.1 ∧ q.2.2.2.2 (2 * t) = (nI w.1).toInt64 ∧ q.2.2.2.2 (2 * t + 1) = (nI w.2.2).toInt64 then fuR q gl k (t + 1) else nI t := by
  show (match gl[t]? with
    | none => if q.2.2.2.1 ≤ 2 * t then -2 else nI t
    | some w => if 2 * t + 2 ≤ q.2.2.2.1 ∧ q.2.2.2.2 (2 * t) = (nI w.1).toInt64 ∧ q.2.2.2.2 (2 * t + 1) = (nI w.2.2).toInt64 then fuR q gl k (t + 1) else nI t) = _
  rw [h]
def judF (S : STT) (q : SHT) (t : Nat) : Int32 := fuR q (whole S.1.2.1 S.1.2.2 t).2.2.2.1 61 0
def aJudge (S : STT) (x told : Int32) : Int32 := if inS x = true ∧ knB S.1.1 told = true then (if rfBn (S.2.2.2.2.2.2 x.toNatClampNeg) = 0 then judF S (S.2.2.2.2.2.2 x.toNatClampNeg) told.toNatClampNeg else rfBn (S.2.2.2.2.2.2 x.toNatClampNeg)) else -1
def whF (P : Nat → Int32) : Nat → Nat × Int32 × Nat
  | 0 => (0, -2, 0)
  | k + 1 => if P k = -2 then ((whF P k).1 + 1, if (whF P k).1 = 0 then nI k else (whF P k).2.1, if (whF P k).1 = 0 then k else (whF P k).2.2 &&& k) else whF P k
theorem whF_le (P : Nat → Int32) : ∀ k, (whF P k).1 ≤ k
  | 0 => Nat.le_refl _
  | k + 1 => by
    have := whF_le P k
    unfold whF
    split
    · show (whF P k).1 + 1 ≤ _
      omega
    · omega
def whK (r : Nat × Int32 × Nat) (what : Int32) : Int32 := if what = 0 then nI r.1 else if what = 1 then r.2.1 else nI r.2.2
def aWhich (S : STT) (x what : Int32) : Int32 := if inS x = true ∧ 0 ≤ what ∧ what ≤ 2 then (if rfBn (S.2.2.2.2.2.2 x.toNatClampNeg) = 0 then whK (whF (judF S (S.2.2.2.2.2.2 x.toNatClampNeg)) (2 ^ S.1.1)) what else rfBn (S.2.2.2.2.2.2 x.toNatClampNeg)) else -1
theorem hpB_not {sz a b : Nat} (hs : sz ≤ 60) (ha : a < 2 ^ 31) (hb : b < 2 ^ 31) (h : ¬ a + b ≤ sz) : ¬ hpB (nI sz) (nI a) (nI b) = true := fun q => by
  obtain ⟨a', b', h1, h2, h3⟩ := hpB_ex hs q
  rw [nI_eq ha (by omega)] at h2
  rw [nI_eq hb (by omega)] at h3
  omega
