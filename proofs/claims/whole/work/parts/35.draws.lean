/-! answers about draws -/
def dwS (S : STT) (seed : Int32) : Nat → Int32 × Int32 × Int32
  | 0 => (seed, 0, 0)
  | i + 1 => (drwZ (dwS S seed i).1 S.1.1, (dwS S seed i).2.1 + nI (costT S.1.2.1 (whole S.1.2.1 S.1.2.2 (drw S.1.2.1 (dwS S seed i).1 S.1.1))), (dwS S seed i).2.2 + (if (whole S.1.2.1 S.1.2.2 (drw S.1.2.1 (dwS S seed i).1 S.1.1)).2.2.2.1.length = 0 then 1 else 0))
def aDrawn (S : STT) (seed n what : Int32) : Int32 := if 1 ≤ n ∧ n ≤ 30 ∧ 0 ≤ what ∧ what ≤ 1 then (if what = 0 then (dwS S seed n.toNatClampNeg).2.1 else (dwS S seed n.toNatClampNeg).2.2) else -1
theorem aloud_lt {N : Nat → Nat → Nat} (hB : Bd N) {L : Nat → Nat → Nat → Nat → Nat → Nat} (hL : ∀ n p k w s, L n p k w s ≤ 60) (σ q : Nat) : aloudN N L σ q < 2 ^ 31 := by
  have h1 := tsum_le hB 6 (by decide)
  have h2 := hL (pop σ) (N 5 q) 0 (wsum N σ 8) 0
  unfold aloudN
  split <;> omega
theorem whoF_le (f : Nat → Nat) : ∀ i, whoF f i ≤ i
  | 0 => Nat.le_refl _
  | i + 1 => by
    have := whoF_le f i
    unfold whoF
    split <;> omega
theorem hasB_ex {n : Nat} (hn : n ≤ 8) {what number : Int32} (h : hasB n what number = true) : ∃ k j : Nat, k < 8 ∧ j < lim n k ∧ j < 8 ∧ (nI k).toNatClampNeg = k ∧ (nI j).toNatClampNeg = j ∧ what = nI k ∧ number = nI j := by
  simp only [hasB, decide_eq_true_eq] at h
  obtain ⟨h1, h2, h3, h4, h5, h6, h7⟩ := h
  have z0 : (0 : Int32).toInt = 0 := rfl
  obtain ⟨k, hk, rfl⟩ := nI_of (x := what) (fun q => by rw [Int32.lt_iff_toInt_lt] at q; omega)
  obtain ⟨j, hj, rfl⟩ := nI_of (x := number) (fun q => by rw [Int32.lt_iff_toInt_lt] at q; omega)
  rw [nI_toInt hk] at h1 h2 h4 h5 h6 h7
  rw [nI_toInt hj] at h3 h4 h5 h6 h7
  have hl : j < lim n k := by
    unfold lim
    by_cases a : k < 5
    · rw [if_pos a]; omega
    · rw [if_neg a]
      by_cases b : k = 5
      · rw [if_pos b]; omega
      · rw [if_neg b]
        by_cases c : k = 6
        · rw [if_pos c]; omega
        · rw [if_neg c]; omega
  exact ⟨k, j, by omega, hl, by omega, nI_clamp hk, nI_clamp hj, rfl, rfl⟩
