/-! the sums stay small -/
theorem ssum_add (f : Nat → Nat) (a : Nat) : ∀ b, ssum f (a + b) = ssum f a + ssum (fun q => f (a + q)) b
  | 0 => rfl
  | b + 1 => by
    show ssum f (a + b) + f (a + b) = _
    rw [ssum_add f a b, Nat.add_assoc]
    rfl
theorem ssum_le {f g : Nat → Nat} : ∀ n, (∀ q, q < n → f q ≤ g q) → ssum f n ≤ ssum g n
  | 0, _ => Nat.le_refl _
  | n + 1, h => Nat.add_le_add (ssum_le n fun q hq => h q (by omega)) (h n (by omega))
theorem ssum_eq {f g : Nat → Nat} : ∀ n, (∀ q, q < n → f q = g q) → ssum f n = ssum g n
  | 0, _ => rfl
  | n + 1, h => by
    show ssum f n + f n = ssum g n + g n
    rw [ssum_eq n fun q hq => h q (by omega), h n (by omega)]
theorem ssum_mul (f : Nat → Nat) (c : Nat) : ∀ n, ssum (fun q => f q * c) n = ssum f n * c
  | 0 => (Nat.zero_mul c).symm
  | n + 1 => by
    show ssum (fun q => f q * c) n + f n * c = (ssum f n + f n) * c
    rw [ssum_mul f c n, Nat.add_mul]
theorem wgt_all {N : Nat → Nat → Nat} (hB : Bd N) (nv li : Nat) : ∀ i, i ≤ 8 → ssum (wgt N nv li i) (2 ^ i) = belN li i
  | 0, _ => rfl
  | i + 1, hi => by
    have k := wgt_all hB nv li i (by omega)
    have hl := lost_le hB (nv := nv) (li := li) (i := i) (by omega) (pop_le li)
    rw [Nat.pow_succ, Nat.mul_two, ssum_add,
      ssum_eq (f := wgt N nv li (i + 1)) (g := fun q => wgt N nv li i q * (allN li i - lostN N nv li i)) (2 ^ i) (fun q hq => wgt_old hq),
      ssum_eq (f := fun q => wgt N nv li (i + 1) (2 ^ i + q)) (g := fun q => wgt N nv li i q * lostN N nv li i) (2 ^ i) (fun q hq => wgt_new hq),
      ssum_mul, ssum_mul, k, ← Nat.mul_add, Nat.sub_add_cancel hl]
    rfl
def popB (li : Nat) : Nat → Nat
  | 0 => 0
  | i + 1 => popB li i + (li.testBit i).toNat
theorem belN_eq (li : Nat) : ∀ i, belN li i = 12 ^ i * 12 ^ popB li i
  | 0 => rfl
  | i + 1 => by
    show belN li i * allN li i = 12 ^ (i + 1) * 12 ^ (popB li i + (li.testBit i).toNat)
    rw [belN_eq li i]
    unfold allN
    cases li.testBit i
    · show _ * 12 = 12 ^ (i + 1) * 12 ^ (popB li i + 0)
      rw [Nat.pow_succ, Nat.mul_right_comm]
      rfl
    · show _ * 144 = 12 ^ (i + 1) * 12 ^ (popB li i + 1)
      rw [Nat.pow_succ, Nat.pow_succ, show (144 : Nat) = 12 * 12 from rfl, ← Nat.mul_assoc, Nat.mul_right_comm (12 ^ i), Nat.mul_assoc, Nat.mul_assoc]
theorem popB_8 (li : Nat) : popB li 8 = pop li := by
  unfold pop
  show 0 + _ + _ + _ + _ + _ + _ + _ + _ = _
  rw [Nat.zero_add]
theorem popB_le (li : Nat) {i : Nat} : ∀ b, popB li i ≤ popB li (i + b)
  | 0 => Nat.le_refl _
  | b + 1 => Nat.le_trans (popB_le li b) (Nat.le_add_right _ _)
theorem belN_pos (li i : Nat) : 0 < belN li i := by
  rw [belN_eq]
  exact Nat.mul_pos (Nat.pow_pos (by decide)) (Nat.pow_pos (by decide))
theorem belN_le {li n : Nat} (hn : n ≤ 8) {c : Nat} (hc : pop li ≤ c) : belN li n ≤ 12 ^ 8 * 12 ^ c := by
  rw [belN_eq]
  refine Nat.mul_le_mul (Nat.pow_le_pow_right (by decide) hn) (Nat.pow_le_pow_right (by decide) (Nat.le_trans ?_ hc))
  have k := popB_le li (i := n) (8 - n)
  rw [show n + (8 - n) = 8 by omega, popB_8] at k
  exact k
theorem csum_le {N : Nat → Nat → Nat} (hB : Bd N) {L : Nat → Nat → Nat → Nat → Nat → Nat} (hL : ∀ n p k w s, L n p k w s ≤ 60) {n : Nat} (hn : n ≤ 8) (nv li : Nat) : csumN N L n nv li ≤ belN li n * 27000 := by
  unfold csumN
  rw [← wgt_all hB nv li n hn, ← ssum_mul]
  exact ssum_le _ fun q hq => Nat.mul_le_mul_left _ (cost_le hB hL (Nat.lt_of_lt_of_le hq (p256 hn)))
theorem csum_lt {N : Nat → Nat → Nat} (hB : Bd N) {L : Nat → Nat → Nat → Nat → Nat → Nat} (hL : ∀ n p k w s, L n p k w s ≤ 60) {n : Nat} (hn : n ≤ 8) (nv : Nat) {li : Nat} (h3 : pop li ≤ 3) : csumN N L n nv li < 2 ^ 63 :=
  Nat.lt_of_le_of_lt (csum_le hB hL hn nv li) (Nat.lt_of_le_of_lt (Nat.mul_le_mul_right _ (belN_le hn h3)) (by decide))
theorem csum_scl {N : Nat → Nat → Nat} (hB : Bd N) {L : Nat → Nat → Nat → Nat → Nat → Nat} (hL : ∀ n p k w s, L n p k w s ≤ 60) {n : Nat} (hn : n ≤ 8) (nv : Nat) {li s : Nat} (h3 : pop li = s) : csumN N L n nv li * sclN s < 2 ^ 63 := by
  have h1 : csumN N L n nv li * sclN s ≤ (12 ^ 8 * 12 ^ s) * 27000 * (1728 / 12 ^ s) := Nat.mul_le_mul_right _ (Nat.le_trans (csum_le hB hL hn nv li) (Nat.mul_le_mul_right _ (belN_le hn (by omega))))
  have h2 : (12 ^ 8 * 12 ^ s) * 27000 * (1728 / 12 ^ s) = 12 ^ 8 * 27000 * (12 ^ s * (1728 / 12 ^ s)) := by
    rw [Nat.mul_right_comm (12 ^ 8), Nat.mul_assoc]
  have h4 : 12 ^ s * (1728 / 12 ^ s) ≤ 1728 := Nat.mul_div_le 1728 (12 ^ s)
  rw [h2] at h1
  exact Nat.lt_of_le_of_lt h1 (Nat.lt_of_le_of_lt (Nat.mul_le_mul_left _ h4) (by decide))
theorem ways_lt {N : Nat → Nat → Nat} (hB : Bd N) {n : Nat} (hn : n ≤ 8) (P : Nat → Prop) [dp : ∀ q, Decidable (P q)] : ssum (fun q => if P q then wgt N 0 0 n q else 0) (2 ^ n) < 2 ^ 63 := by
  refine Nat.lt_of_le_of_lt (ssum_le (g := wgt N 0 0 n) _ fun q _ => ?_) ?_
  · split
    · exact Nat.le_refl _
    · exact Nat.zero_le _
  · rw [wgt_all hB 0 0 n hn]
    exact Nat.lt_of_le_of_lt (belN_le hn (c := 0) (by decide)) (by decide)
theorem belN_lt {li n : Nat} (hn : n ≤ 8) (h3 : pop li ≤ 3) : belN li n < 2 ^ 63 := Nat.lt_of_le_of_lt (belN_le hn h3) (by decide)
theorem blI_pop {F : Nat → Nat} {s c : Nat} {st : Nat × Nat} (h : pop st.1 ≤ c) (hs : s ≤ c) : ∀ i, pop (blI F s st i).1 ≤ c
  | 0 => h
  | i + 1 => by
    have k := blI_pop (F := F) h hs i
    unfold blI
    split
    · split
      · rename_i e _
        show pop i ≤ c
        omega
      · exact k
    · exact k
theorem blO_pop {F : Nat → Nat} {n c : Nat} : ∀ s, s ≤ c + 1 → pop (blO F n s).1 ≤ c
  | 0, _ => Nat.le_trans (by decide : pop 0 ≤ 0) (Nat.zero_le c)
  | s + 1, hs => blI_pop (blO_pop s (by omega)) (by omega) _
theorem blI_1 {F : Nat → Nat} {s m : Nat} {st : Nat × Nat} (h : st.1 < m) : ∀ i, i ≤ m → (blI F s st i).1 < m
  | 0, _ => h
  | i + 1, hi => by
    have k := blI_1 (F := F) (s := s) h i (by omega)
    unfold blI
    split
    · split
      · exact hi
      · exact k
    · exact k
theorem blO_1 {F : Nat → Nat} {n : Nat} : ∀ s, (blO F n s).1 < 2 ^ n
  | 0 => Nat.two_pow_pos n
  | s + 1 => blI_1 (blO_1 s) _ (Nat.le_refl _)
theorem bdF_1 {f : Nat → Nat} {n : Nat} (hn : 0 < n) : ∀ k, k ≤ n → (bdF f k).1 < n
  | 0, _ => hn
  | k + 1, hk => by
    have := bdF_1 (f := f) hn k (by omega)
    unfold bdF
    split
    · exact hk
    · exact this
