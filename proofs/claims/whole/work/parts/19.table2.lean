/-! how much a drive can cost; what is best -/
theorem gof_min {N : Nat → Nat → Nat} {L : Nat → Nat → Nat → Nat → Nat → Nat} (hL : ∀ n p k w s, L n p k w s ≤ 60) {s fo le : Nat} : ∀ (k hd mi : Nat) (gl : GL) (md : Nat), gl.length ≤ (gof N L s fo le k hd mi gl md).2.2.length ∧ (gof N L s fo le k hd mi gl md).2.1 + 60 * gl.length ≤ mi + 60 * (gof N L s fo le k hd mi gl md).2.2.length
  | 0, hd, mi, gl, md => ⟨Nat.le_refl _, Nat.le_refl _⟩
  | k + 1, hd, mi, gl, md => by
    unfold gof
    by_cases e : md = 0
    · rw [if_pos e]; exact ⟨Nat.le_refl _, Nat.le_refl _⟩
    · rw [if_neg e]
      have h := gof_min hL (N := N) (s := s) (fo := fo) (le := le) k (hd ||| 2 ^ lst md) (mi + L 1 (N 5 (N 0 (lst md))) gl.length (N 3 (lst md)) s) (gl ++ [(N 0 (lst md), lst md, L 1 (N 5 (N 0 (lst md))) gl.length (N 3 (lst md)) s)]) ((md ||| N 4 (lst md)) &&& opn fo (hd ||| 2 ^ lst md) le)
      have h2 := hL 1 (N 5 (N 0 (lst md))) gl.length (N 3 (lst md)) s
      rw [List.length_append] at h
      simp only [List.length_cons, List.length_nil] at h
      exact ⟨by omega, by omega⟩
def MB (s : Nat) (q : DT) : Prop := q.2.2.1 ≤ 60 * q.2.2.2.1.length + 340 * s
theorem stopAt_min {N : Nat → Nat → Nat} (hB : Bd N) {L : Nat → Nat → Nat → Nat → Nat → Nat} (hL : ∀ n p k w s, L n p k w s ≤ 60) {s fo : Nat} (hs : s ≤ 7) {q : DT} (h : MB s q) : (stopAt N L s fo q).2.2.1 ≤ 60 * (stopAt N L s fo q).2.2.2.1.length + 340 * s + 320 := by
  unfold MB at h
  have ht := tsum_le hB s (by omega)
  unfold stopAt
  by_cases e : s = 0
  · rw [if_pos e]
    have k := gof_min hL (N := N) (s := s) (fo := fo) (le := q.2.1) 8 q.1 q.2.2.1 q.2.2.2.1 (minded N s fo q.1 q.2.1)
    show (gof N L s fo q.2.1 8 q.1 q.2.2.1 q.2.2.2.1 (minded N s fo q.1 q.2.1)).2.1 ≤ 60 * (gof N L s fo q.2.1 8 q.1 q.2.2.1 q.2.2.2.1 (minded N s fo q.1 q.2.1)).2.2.length + 340 * s + 320
    omega
  · rw [if_neg e]
    by_cases f : N 7 0 * (2 * tsum N s) < wsum N (minded N s fo q.1 q.2.1) 8
    · rw [if_pos f]
      have k := gof_min hL (N := N) (s := s) (fo := fo) (le := q.2.1) 8 q.1 (q.2.2.1 + 2 * tsum N s) q.2.2.2.1 (minded N s fo q.1 q.2.1)
      show (gof N L s fo q.2.1 8 q.1 (q.2.2.1 + 2 * tsum N s) q.2.2.2.1 (minded N s fo q.1 q.2.1)).2.1 ≤ 60 * (gof N L s fo q.2.1 8 q.1 (q.2.2.1 + 2 * tsum N s) q.2.2.2.1 (minded N s fo q.1 q.2.1)).2.2.length + 340 * s + 320
      omega
    · rw [if_neg f]
      show q.2.2.1 ≤ 60 * q.2.2.2.1.length + 340 * s + 320
      omega
theorem goStops_min {N : Nat → Nat → Nat} (hB : Bd N) {L : Nat → Nat → Nat → Nat → Nat → Nat} (hL : ∀ n p k w s, L n p k w s ≤ 60) {fo : Nat} : ∀ s, s ≤ 7 → MB s (goStops N L fo s)
  | 0, _ => (Nat.zero_le _ : (0 : Nat) ≤ _)
  | s + 1, hs => by
    have k := stopAt_min hB hL (fo := fo) (by omega) (goStops_min hB hL (fo := fo) s (by omega))
    have hw : N 6 s ≤ 20 := hB 6 s (by decide) (by omega)
    show MB (s + 1) (addWay N s (stopAt N L s fo (goStops N L fo s)))
    generalize stopAt N L s fo (goStops N L fo s) = z at k ⊢
    unfold addWay MB
    by_cases e : s < 6
    · rw [if_pos e]
      show z.2.2.1 + N 6 s ≤ 60 * z.2.2.2.1.length + 340 * (s + 1)
      omega
    · rw [if_neg e]
      show z.2.2.1 ≤ 60 * z.2.2.2.1.length + 340 * (s + 1)
      have h0 : 340 * (s + 1) = 340 * s + 340 := by rw [Nat.mul_add]
      rw [h0]
      exact Nat.le_trans k (by rw [Nat.add_assoc]; exact Nat.add_le_add_left (Nat.add_le_add_left (by decide) _) _)
theorem whole_inv {N : Nat → Nat → Nat} (hB : Bd N) {L : Nat → Nat → Nat → Nat → Nat → Nat} {fo : Nat} (hfo : fo < 256) : DI (whole N L fo) := goStops_inv hB hfo 7
theorem cost_le {N : Nat → Nat → Nat} (hB : Bd N) {L : Nat → Nat → Nat → Nat → Nat → Nat} (hL : ∀ n p k w s, L n p k w s ≤ 60) {fo : Nat} (hfo : fo < 256) : costT N (whole N L fo) ≤ 27000 := by
  have k : (whole N L fo).2.2.1 ≤ 60 * (whole N L fo).2.2.2.1.length + 340 * 7 := goStops_min hB hL 7 (by decide)
  have i := (whole_inv hB (L := L) hfo).2.2
  have hp := pop_le (whole N L fo).1
  have hw := wsum_le hB (whole N L fo).2.1 8 (by decide)
  have h7 : N 7 0 ≤ 9 := hB 7 0 (by decide) (by decide)
  have hm : N 7 0 * (whole N L fo).2.2.1 ≤ 9 * 2860 := Nat.mul_le_mul h7 (by omega)
  unfold costT
  omega
/-- the table of all drives is filled -/
def TV (N : Nat → Nat → Nat) (L : Nat → Nat → Nat → Nat → Nat → Nat) (i : Nat) (v : Nat → Nat → Int32) : Prop := ∀ q, q < i → v 4 q = nI (costT N (whole N L q)) ∧ v 5 q = nI (whole N L q).2.1 ∧ v 6 q = nI (whole N L q).2.2.2.1.length
def bdF (f : Nat → Nat) : Nat → Nat × Nat
  | 0 => (0, 9223372036854775807)
  | k + 1 => if f k < (bdF f k).2 then (k, f k) else bdF f k
def deaF (co : Nat → Nat) : Nat → Nat
  | 0 => 1
  | k + 1 => if co (deaF co k) < co (k + 2) then k + 2 else deaF co k
theorem deaF_lt (co : Nat → Nat) : ∀ k, deaF co k < k + 2
  | 0 => by show 1 < 2; decide
  | k + 1 => by
    have := deaF_lt co k
    unfold deaF
    split <;> omega
def sclN (s : Nat) : Nat := 1728 / 12 ^ s
def blI (F : Nat → Nat) (s : Nat) (st : Nat × Nat) : Nat → Nat × Nat
  | 0 => st
  | i + 1 => if pop i = s then (if F i < (blI F s st i).2 then (i, F i) else blI F s st i) else blI F s st i
def blO (F : Nat → Nat) (n : Nat) : Nat → Nat × Nat
  | 0 => (0, 9223372036854775807)
  | s + 1 => blI (fun q => F q * sclN s) s (blO F n s) (2 ^ n)
/-- the sum of all costs, weighed -/
def csumN (N : Nat → Nat → Nat) (L : Nat → Nat → Nat → Nat → Nat → Nat) (n nv li : Nat) : Nat := ssum (fun q => wgt N nv li n q * costT N (whole N L q)) (2 ^ n)
theorem lg_lt {a b : Nat} (ha : a < 2 ^ 63) (hb : b < 2 ^ 63) : (0 ≤ lg_cmp (lN a) (lN b)) ↔ b ≤ a := by
  unfold lg_cmp
  by_cases x : lN a > lN b
  · rw [if_pos x]
    have := (pk_lLT hb ha).mp x
    exact ⟨fun _ => by omega, fun _ => by decide⟩
  · rw [if_neg x]
    have h1 : ¬ b < a := fun q => x ((pk_lLT hb ha).mpr q)
    by_cases y : lN a = lN b
    · rw [if_pos y]
      have := (pk_lEQ ha hb).mp y
      exact ⟨fun _ => by omega, fun _ => by decide⟩
    · rw [if_neg y]
      have h2 : ¬ a = b := fun q => y (by rw [q])
      exact ⟨fun q => absurd q (by decide), fun q => by omega⟩
