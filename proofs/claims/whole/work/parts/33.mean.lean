/-! answers about means -/
def lNone : Int64 := -9223372036854775808
def cN (S : STT) (nv li : Nat) : Nat := csumN S.1.2.1 S.1.2.2 S.1.1 nv li
def aMean (S : STT) (part : Int32) : Int64 := if 0 ≤ part ∧ part ≤ 1 then lN (lowT (cN S 0 0) (belN 0 S.1.1) part.toNatClampNeg) else lNone
def likN (S : STT) (t : Int32) : Nat := if t < 0 then ssum (fun q => if (whole S.1.2.1 S.1.2.2 q).2.2.2.1.length = 0 then wgt S.1.2.1 0 0 S.1.1 q else 0) (2 ^ S.1.1) else ssum (fun q => if (whole S.1.2.1 S.1.2.2 q).2.1.testBit t.toNatClampNeg then wgt S.1.2.1 0 0 S.1.1 q else 0) (2 ^ S.1.1)
def aLikely (S : STT) (t part : Int32) : Int64 := if -1 ≤ t ∧ t < nI S.1.1 ∧ 0 ≤ part ∧ part ≤ 1 then lN (lowT (likN S t) (belN 0 S.1.1) part.toNatClampNeg) else lNone
def dorN (S : STT) : Nat := (bdF (fun t => cN S (2 ^ t) 0) S.1.1).1
def aDoor (S : STT) (part : Int32) : Int64 := if 0 ≤ part ∧ part ≤ 2 then (if S.1.1 = 0 then -2 else if part = 2 then lN (dorN S) else lN (lowT (cN S (2 ^ dorN S) 0) (belN 0 S.1.1) part.toNatClampNeg)) else lNone
def lisN (S : STT) (mo : Nat) : Nat := (blO (fun li => cN S 0 li) S.1.1 (mo + 1)).1
def aList (S : STT) (most part : Int32) : Int64 := if 0 ≤ most ∧ most ≤ 3 ∧ 0 ≤ part ∧ part ≤ 2 then (if part = 2 then lN (lisN S most.toNatClampNeg) else lN (lowT (cN S 0 (lisN S most.toNatClampNeg)) (belN (lisN S most.toNatClampNeg) S.1.1) part.toNatClampNeg)) else lNone
theorem LawX.le {g : Nat → Int32} {h : Nat → Nat → Int32} {L : Nat → Nat → Nat → Nat → Nat → Nat} (hL : LawX g h L) : ∀ n p k w s, L n p k w s ≤ 60 := by
  obtain ⟨sz, -, -, h3⟩ := hL
  exact fun n p k w s => (h3 n p k w s (fun _ => 0)).2.2
theorem TV.co {N : Nat → Nat → Nat} {L : Nat → Nat → Nat → Nat → Nat → Nat} {i : Nat} {v : Nat → Nat → Int32} (hB : Bd N) (hL : ∀ n p k w s, L n p k w s ≤ 60) (hi : i ≤ 256) (h : TV N L i v) : ∀ q, q < i → v 4 q = nI (costT N (whole N L q)) ∧ costT N (whole N L q) < 2 ^ 31 := fun q hq => ⟨(h q hq).1, Nat.lt_of_le_of_lt (cost_le hB hL (by omega)) (by decide)⟩
theorem TV.go {N : Nat → Nat → Nat} {L : Nat → Nat → Nat → Nat → Nat → Nat} {i : Nat} {v : Nat → Nat → Int32} (hB : Bd N) (hi : i ≤ 256) (h : TV N L i v) : ∀ q, q < i → v 6 q = nI (whole N L q).2.2.2.1.length ∧ (whole N L q).2.2.2.1.length < 2 ^ 31 := fun q hq => ⟨(h q hq).2.2, by
  have k := (whole_inv hB (L := L) (show q < 256 by omega)).2.2
  have := pop_le (whole N L q).1
  omega⟩
theorem TV.le {N : Nat → Nat → Nat} {L : Nat → Nat → Nat → Nat → Nat → Nat} {i : Nat} {v : Nat → Nat → Int32} (hB : Bd N) (hi : i ≤ 256) (h : TV N L i v) : ∀ q, q < i → v 5 q = nI (whole N L q).2.1 ∧ (whole N L q).2.1 < 256 := fun q hq => ⟨(h q hq).2.1, (whole_inv hB (L := L) (show q < 256 by omega)).2.1⟩
theorem n_of {x k : Int32} {m : Nat} (hk : k.toInt = m) (h0 : ¬ x < 0) (h1 : x ≤ k) : ∃ j : Nat, j ≤ m ∧ (nI j).toNatClampNeg = j ∧ x = nI j := by
  obtain ⟨j, hj, rfl⟩ := nI_of2 hk h0 h1
  have hm : m < 2 ^ 31 := by have := k.toInt_lt; omega
  exact ⟨j, hj, nI_clamp (by omega), rfl⟩
