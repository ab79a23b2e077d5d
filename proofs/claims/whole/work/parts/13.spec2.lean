/-! what the class's world is in plain numbers -/
def bW (W : Nat → Nat → Int32) (k j : Nat) (x : Int32) : Nat → Nat → Int32 := va_up W k (upd (W k) j x)
def bG (g : Nat → Int32) : Nat → Int32 := va_up g 1 (g 1 + 1)
def hasB (n : Nat) (what number : Int32) : Bool := decide (0 ≤ what.toInt ∧ what.toInt < 8 ∧ 0 ≤ number.toInt ∧ (5 ≤ what.toInt ∨ number.toInt < n) ∧ (what.toInt ≠ 5 ∨ number.toInt < 6) ∧ (what.toInt ≠ 6 ∨ number.toInt < 6) ∧ (what.toInt ≠ 7 ∨ number.toInt < 1))
def knB (n : Nat) (told : Int32) : Bool := decide (0 ≤ told.toInt ∧ told.toInt < ((2 ^ n : Nat) : Int))
theorem p256 {n : Nat} (h : n ≤ 8) : 2 ^ n ≤ 256 := Nat.pow_le_pow_right (by decide) h
def LawX (g : Nat → Int32) (h : Nat → Nat → Int32) (L : Nat → Nat → Nat → Nat → Nat → Nat) : Prop :=
  ∃ sz : Nat, sz ≤ 128 ∧ g 2 = nI sz ∧ ∀ (n p k w s : Nat) (st : Nat → Int32), (if sz = 0 then heldF (nI p + nI n) else heldF (lawR (h 0) (h 1) (facts (nI n) (nI p) (nI k) (nI w) (nI s)) sz 129 0 2 st 1)) = nI (L n p k w s) ∧ 1 ≤ L n p k w s ∧ L n p k w s ≤ 60
def aloudN (N : Nat → Nat → Nat) (L : Nat → Nat → Nat → Nat → Nat → Nat) (σ q : Nat) : Nat := if σ = 0 then tsum N 6 else tsum N 6 + L (pop σ) (N 5 q) 0 (wsum N σ 8) 0
/-- the numbers are as they may be -/
def Bd (N : Nat → Nat → Nat) : Prop := ∀ k j, k < 8 → j < 8 → N k j ≤ [5, 12, 6, 99, 255, 9, 20, 9].getD k 0
theorem Bd.at {N : Nat → Nat → Nat} (h : Bd N) (k j : Nat) (hk : k < 8 := by decide) (hj : j < 8 := by omega) : N k j ≤ [5, 12, 6, 99, 255, 9, 20, 9].getD k 0 := h k j hk hj
theorem wsum_le {N : Nat → Nat → Nat} (h : Bd N) (σ : Nat) : ∀ i, i ≤ 8 → wsum N σ i ≤ 99 * i
  | 0, _ => Nat.le_refl _
  | i + 1, hi => by
    have := wsum_le h σ i (by omega)
    have h3 : N 3 i ≤ 99 := h 3 i (by decide) (by omega)
    show wsum N σ i + (if σ.testBit i then N 3 i else 0) ≤ _
    split <;> omega
theorem tsum_le {N : Nat → Nat → Nat} (h : Bd N) : ∀ i, i ≤ 8 → tsum N i ≤ 20 * i
  | 0, _ => Nat.le_refl _
  | i + 1, hi => by
    have := tsum_le h i (by omega)
    have h3 : N 6 i ≤ 20 := h 6 i (by decide) (by omega)
    show tsum N i + N 6 i ≤ _
    omega
theorem wsum_0 (N : Nat → Nat → Nat) : ∀ i, wsum N 0 i = 0
  | 0 => rfl
  | i + 1 => by
    show wsum N 0 i + _ = 0
    rw [wsum_0 N i, Nat.zero_testBit]
    rfl
theorem pop_le (σ : Nat) : pop σ ≤ 8 := by
  unfold pop
  have h : ∀ b : Bool, b.toNat ≤ 1 := fun b => by cases b <;> decide
  have := h (σ.testBit 0); have := h (σ.testBit 1); have := h (σ.testBit 2); have := h (σ.testBit 3); have := h (σ.testBit 4); have := h (σ.testBit 5); have := h (σ.testBit 6); have := h (σ.testBit 7)
  omega
