/-! the table of all sets: the pure side, in naturals -/
def lostN (N : Nat → Nat → Nat) (nv li i : Nat) : Nat := (if nv.testBit i then 0 else N 1 i) * (if li.testBit i then pop li else 1)
def allN (li i : Nat) : Nat := if li.testBit i then 144 else 12
def wgt (N : Nat → Nat → Nat) (nv li : Nat) : Nat → Nat → Nat
  | 0, _ => 1
  | i + 1, σ => wgt N nv li i σ * (if σ.testBit i then lostN N nv li i else allN li i - lostN N nv li i)
def belN (li : Nat) : Nat → Nat
  | 0 => 1
  | i + 1 => belN li i * allN li i
def ssum (f : Nat → Nat) : Nat → Nat
  | 0 => 0
  | i + 1 => ssum f i + f i
theorem pop_lt9 (σ : Nat) : pop σ < 9 := by have := pop_le σ; omega
theorem wgt_hi {N : Nat → Nat → Nat} {nv li σ i : Nat} : ∀ t, t ≤ i → σ < 2 ^ i → wgt N nv li t (2 ^ i + σ) = wgt N nv li t σ
  | 0, _, _ => rfl
  | t + 1, h, hs => by
    have k := wgt_hi (N := N) (nv := nv) (li := li) (σ := σ) (i := i) t (by omega) hs
    unfold wgt
    rw [k, Nat.testBit_two_pow_add_gt (by omega)]
theorem wgt_new {N : Nat → Nat → Nat} {nv li σ i : Nat} (hs : σ < 2 ^ i) : wgt N nv li (i + 1) (2 ^ i + σ) = wgt N nv li i σ * lostN N nv li i := by
  show wgt N nv li i (2 ^ i + σ) * _ = _
  rw [wgt_hi i (Nat.le_refl _) hs, Nat.testBit_two_pow_add_eq, Nat.testBit_lt_two_pow hs]
  rfl
theorem wgt_old {N : Nat → Nat → Nat} {nv li σ i : Nat} (hs : σ < 2 ^ i) : wgt N nv li (i + 1) σ = wgt N nv li i σ * (allN li i - lostN N nv li i) := by
  show wgt N nv li i σ * _ = _
  rw [Nat.testBit_lt_two_pow hs]
  rfl
theorem lost_le {N : Nat → Nat → Nat} (hB : Bd N) {nv li i : Nat} (hi : i < 8) (hl : pop li ≤ 8) : lostN N nv li i ≤ allN li i := by
  have h1 : N 1 i ≤ 12 := hB 1 i (by decide) hi
  unfold lostN allN
  by_cases a : nv.testBit i = true
  · rw [if_pos a, Nat.zero_mul]; exact Nat.zero_le _
  · rw [if_neg a]
    by_cases b : li.testBit i = true
    · rw [if_pos b, if_pos b]
      exact Nat.le_trans (Nat.mul_le_mul h1 hl) (by decide)
    · rw [if_neg b, if_neg b, Nat.mul_one]; exact h1
/-- Euclid -/
theorem euc_half {x q : Nat} (h : 0 < q) (hq : q ≤ x) {k : Nat} (hk : x * q < 2 ^ (k + 1)) : q * (x % q) < 2 ^ k := by
  have h1 : x % q < q := Nat.mod_lt _ h
  have h2 : q * (x / q) + x % q = x := Nat.div_add_mod x q
  have h3 : 1 ≤ x / q := Nat.div_pos hq h
  have h4 : q * 1 ≤ q * (x / q) := Nat.mul_le_mul_left q h3
  have h5 : 2 * (x % q) < x + 1 := by omega
  have h6 : 2 * (q * (x % q)) ≤ q * x := by
    rw [Nat.mul_left_comm]
    exact Nat.mul_le_mul_left q (by omega)
  rw [Nat.mul_comm x q] at hk
  rw [Nat.pow_succ] at hk
  omega
def lowT (ab be part : Nat) : Nat := if part = 0 then ab / Nat.gcd be ab else be / Nat.gcd be ab
