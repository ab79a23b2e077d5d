/-! a drive's pure side: what stays so all along -/
theorem lst_ok : ∀ m, m < 256 → m ≠ 0 → lst m < 8 ∧ m.testBit (lst m) = true := by decide +kernel
theorem lst_lt (m : Nat) : lst m < 8 := by
  unfold lst
  repeat' split
  all_goals decide
theorem pop_set : ∀ hd, hd < 256 → ∀ t, t < 8 → hd.testBit t = false → pop (hd ||| 2 ^ t) = pop hd + 1 := by decide +kernel
theorem t255 : ∀ t, t < 8 → (255 : Nat).testBit t = true := by decide
theorem opn_lt {fo : Nat} (h : fo < 256) (hd le : Nat) : opn fo hd le < 256 := Nat.lt_of_le_of_lt (Nat.le_trans Nat.and_le_left Nat.and_le_left) h
theorem or_lt {a b : Nat} (ha : a < 256) (hb : b < 256) : a ||| b < 256 := Nat.or_lt_two_pow (n := 8) ha hb
theorem two_lt {t : Nat} (h : t < 8) : 2 ^ t < 256 := Nat.pow_lt_pow_right (by decide) h
theorem opn_hd {fo hd le t : Nat} (ht : t < 8) (h : (opn fo hd le).testBit t = true) : hd.testBit t = false := by
  unfold opn at h
  rw [Nat.testBit_and, Nat.testBit_and, Nat.testBit_xor, Nat.testBit_xor, t255 t ht] at h
  cases hh : hd.testBit t
  · rfl
  · simp [hh] at h
theorem opn_le {fo hd le t : Nat} (ht : t < 8) (h : (opn fo hd le).testBit t = true) : le.testBit t = false := by
  unfold opn at h
  rw [Nat.testBit_and, Nat.testBit_and, Nat.testBit_xor, Nat.testBit_xor, t255 t ht] at h
  cases hh : le.testBit t
  · rfl
  · simp [hh] at h
theorem opn_fo {fo hd le t : Nat} (h : (opn fo hd le).testBit t = true) : fo.testBit t = true := by
  unfold opn at h
  rw [Nat.testBit_and, Nat.testBit_and] at h
  cases hh : fo.testBit t
  · simp [hh] at h
  · rfl
theorem tb_lt {a t : Nat} (ha : a < 256) (h : a.testBit t = true) : t < 8 := by
  rcases Nat.lt_or_ge t 8 with q | q
  · exact q
  · rw [Nat.testBit_lt_two_pow (Nat.lt_of_lt_of_le ha (show 2 ^ 8 ≤ 2 ^ t from Nat.pow_le_pow_right (by decide) q))] at h
    cases h
/-- a drive's object holds a drive; P: its goings' rows too -/
def DRel (P : Prop) (Dd : (Nat → Int32) × (Nat → Nat → Int32)) (on st fo : Nat) (q : DT) : Prop :=
  Dd.1 0 = nI on ∧ Dd.1 1 = nI st ∧ Dd.1 2 = nI fo ∧ Dd.1 3 = nI q.1 ∧ Dd.1 4 = nI q.2.1 ∧ Dd.1 5 = nI q.2.2.1 ∧ Dd.1 6 = nI q.2.2.2.1.length ∧ Dd.1 7 = nI q.2.2.2.2.1 ∧ (P → Dd.1 8 = nI q.2.2.2.2.2) ∧
  (P → ∀ (j a b c : Nat), q.2.2.2.1[j]? = some (a, b, c) → Dd.2 0 j = nI a ∧ Dd.2 1 j = nI b ∧ Dd.2 2 j = nI c)
/-- had and left are sets, and each going has brought one thing -/
def DI (q : DT) : Prop := q.1 < 256 ∧ q.2.1 < 256 ∧ q.2.2.2.1.length = pop q.1
theorem gof_inv {N : Nat → Nat → Nat} (hB : Bd N) {L : Nat → Nat → Nat → Nat → Nat → Nat} {s fo le : Nat} (hfo : fo < 256) : ∀ (k hd mi : Nat) (gl : GL) (m : Nat), hd < 256 → gl.length = pop hd → m < 256 → (∀ t, m.testBit t = true → hd.testBit t = false) → (gof N L s fo le k hd mi gl m).1 < 256 ∧ (gof N L s fo le k hd mi gl m).2.2.length = pop (gof N L s fo le k hd mi gl m).1
  | 0, hd, mi, gl, m, h1, h2, _, _ => ⟨h1, h2⟩
  | k + 1, hd, mi, gl, m, h1, h2, h3, h4 => by
    unfold gof
    by_cases e : m = 0
    · rw [if_pos e]; exact ⟨h1, h2⟩
    · rw [if_neg e]
      have hl := lst_ok m h3 e
      have hs : N 4 (lst m) ≤ 255 := hB 4 (lst m) (by decide) hl.1
      refine gof_inv hB hfo k _ _ _ _ (or_lt h1 (two_lt hl.1)) ?_ (Nat.lt_of_le_of_lt Nat.and_le_right (opn_lt hfo _ _)) ?_
      · rw [List.length_append, h2, pop_set hd h1 _ hl.1 (h4 _ hl.2)]
        rfl
      · intro t ht
        rw [Nat.testBit_and, Bool.and_eq_true] at ht
        exact opn_hd (tb_lt (opn_lt hfo _ _) ht.2) ht.2
theorem minded_opn {N : Nat → Nat → Nat} {s fo hd le t : Nat} (h : (minded N s fo hd le).testBit t = true) : (opn fo hd le).testBit t = true := by
  unfold minded at h
  rw [Nat.testBit_and, Bool.and_eq_true] at h
  exact h.2
theorem minded_lt {N : Nat → Nat → Nat} {s fo hd le : Nat} (hfo : fo < 256) : minded N s fo hd le < 256 := Nat.lt_of_le_of_lt Nat.and_le_right (opn_lt hfo _ _)
theorem minded_hd {N : Nat → Nat → Nat} {s fo hd le : Nat} (hfo : fo < 256) : ∀ t, (minded N s fo hd le).testBit t = true → hd.testBit t = false := fun _ h => opn_hd (tb_lt (opn_lt hfo _ _) (minded_opn h)) (minded_opn h)
theorem stopAt_inv {N : Nat → Nat → Nat} (hB : Bd N) {L : Nat → Nat → Nat → Nat → Nat → Nat} {s fo : Nat} (hfo : fo < 256) {q : DT} (h : DI q) : DI (stopAt N L s fo q) := by
  obtain ⟨h1, h2, h3⟩ := h
  unfold stopAt
  by_cases e : s = 0
  · rw [if_pos e]
    have k := gof_inv hB (L := L) (s := s) (le := q.2.1) hfo 8 q.1 q.2.2.1 q.2.2.2.1 _ h1 h3 (minded_lt (N := N) (s := s) (hd := q.1) (le := q.2.1) hfo) (minded_hd hfo)
    exact ⟨k.1, h2, k.2⟩
  · rw [if_neg e]
    by_cases f : N 7 0 * (2 * tsum N s) < wsum N (minded N s fo q.1 q.2.1) 8
    · rw [if_pos f]
      have k := gof_inv hB (L := L) (s := s) (le := q.2.1) hfo 8 q.1 (q.2.2.1 + 2 * tsum N s) q.2.2.2.1 _ h1 h3 (minded_lt (N := N) (s := s) (hd := q.1) (le := q.2.1) hfo) (minded_hd hfo)
      exact ⟨k.1, h2, k.2⟩
    · rw [if_neg f]
      exact ⟨h1, or_lt h2 (minded_lt hfo), h3⟩
theorem onStop_inv {N : Nat → Nat → Nat} (hB : Bd N) {L : Nat → Nat → Nat → Nat → Nat → Nat} {s fo : Nat} (hfo : fo < 256) {q : DT} (h : DI q) : DI (onStop N L s fo q) := by
  have k := stopAt_inv hB (L := L) (s := s) hfo h
  unfold onStop addWay
  by_cases e : s < 6
  · rw [if_pos e]; exact k
  · rw [if_neg e]; exact k
theorem goStops_inv {N : Nat → Nat → Nat} (hB : Bd N) {L : Nat → Nat → Nat → Nat → Nat → Nat} {fo : Nat} (hfo : fo < 256) : ∀ s, DI (goStops N L fo s)
  | 0 => (⟨by decide, by decide, by decide⟩ : DI (0, 0, 0, [], 0, 0))
  | s + 1 => onStop_inv hB hfo (goStops_inv hB hfo s)
def lsF (σ : Nat) : Nat → Nat
  | 0 => 0
  | k + 1 => if σ.testBit (7 - k) then 7 - k else lsF σ k
theorem lst_lsF (σ : Nat) : lst σ = lsF σ 8 := rfl
theorem mnd_step {N : Nat → Nat → Nat} {s i : Nat} : mndF N s (i + 1) = mndF N s i ||| (if N 2 i = s then 2 ^ i else 0) := rfl
theorem mndF_lt {N : Nat → Nat → Nat} {s : Nat} : ∀ i, i ≤ 8 → mndF N s i < 256
  | 0, _ => (by decide : 0 < 256)
  | i + 1, h => by
    rw [mnd_step]
    refine or_lt (mndF_lt i (by omega)) ?_
    split
    · exact two_lt (by omega)
    · decide
theorem gof_z {N : Nat → Nat → Nat} {L : Nat → Nat → Nat → Nat → Nat → Nat} {s fo le k hd mi : Nat} {gl : GL} : gof N L s fo le k hd mi gl 0 = (hd, mi, gl) := by
  cases k with
  | zero => rfl
  | succ k => unfold gof; rw [if_pos rfl]
theorem gof_s {N : Nat → Nat → Nat} {L : Nat → Nat → Nat → Nat → Nat → Nat} {s fo le k hd mi m : Nat} {gl : GL} (h : ¬ m = 0) : gof N L s fo le (k + 1) hd mi gl m = gof N L s fo le k (hd ||| 2 ^ lst m) (mi + L 1 (N 5 (N 0 (lst m))) gl.length (N 3 (lst m)) s) (gl ++ [(N 0 (lst m), lst m, L 1 (N 5 (N 0 (lst m))) gl.length (N 3 (lst m)) s)]) ((m ||| N 4 (lst m)) &&& opn fo (hd ||| 2 ^ lst m) le) := by
  rw [gof, if_neg h]
theorem bzN {on : Nat} (h : on ≤ 1) : narrow .boolean (.int (nI on)) = .int (nI on) ∧ fits .boolean (.int (nI on)) = true := by
  rcases (show on = 0 ∨ on = 1 by omega) with rfl | rfl <;> exact ⟨rfl, rfl⟩
