/-! changes, draws, chains: the pure side -/
abbrev CL : Type := List (Nat × Nat × Nat × Nat)
def CRel (h : Nat → Nat → Int32) (cl : CL) : Prop := ∀ (j a b x y : Nat), cl[j]? = some (a, b, x, y) → h 2 j = nI a ∧ h 3 j = nI b ∧ h 4 j = nI x ∧ h 5 j = nI y
def noteC (cl : CL) (dn : Nat) (q : Nat × Nat × Nat × Nat) : CL := (cl.take dn).drop (if dn = 40 then 1 else 0) ++ [q]
def isC (k : Nat) : Prop := k = 2 ∨ k = 3 ∨ k = 4 ∨ k = 5
def SH (h h1 : Nat → Nat → Int32) (i : Nat) : Prop := (∀ k, ¬ isC k → h1 k = h k) ∧ ∀ k, isC k → (∀ j, j + 1 < i → h1 k j = h k (j + 1)) ∧ ∀ j, i ≤ j + 1 → h1 k j = h k j
theorem SH.step {h h1 : Nat → Nat → Int32} {i : Nat} (hi : 0 < i) (hs : SH h h1 i) : SH h (va_up (va_up (va_up (va_up h1 2 (upd (h1 2) (i - 1) (h1 2 i))) 3 (upd (h1 3) (i - 1) (h1 3 i))) 4 (upd (h1 4) (i - 1) (h1 4 i))) 5 (upd (h1 5) (i - 1) (h1 5 i))) (i + 1) := by
  refine ⟨fun k hk => ?_, fun k hk => ?_⟩
  · unfold isC at hk
    simp only [va_up, if_neg (fun q => hk (Or.inr (Or.inr (Or.inr q))) : ¬ k = 5), if_neg (fun q => hk (Or.inr (Or.inr (Or.inl q))) : ¬ k = 4), if_neg (fun q => hk (Or.inr (Or.inl q)) : ¬ k = 3), if_neg (fun q => hk (Or.inl q) : ¬ k = 2)]
    exact hs.1 k hk
  · have e : (va_up (va_up (va_up (va_up h1 2 (upd (h1 2) (i - 1) (h1 2 i))) 3 (upd (h1 3) (i - 1) (h1 3 i))) 4 (upd (h1 4) (i - 1) (h1 4 i))) 5 (upd (h1 5) (i - 1) (h1 5 i))) k = upd (h1 k) (i - 1) (h1 k i) := by
      rcases hk with rfl | rfl | rfl | rfl <;> rfl
    rw [e]
    obtain ⟨g1, g2⟩ := hs.2 k hk
    refine ⟨fun j hj => ?_, fun j hj => ?_⟩
    · by_cases q : j = i - 1
      · subst q
        rw [show upd (h1 k) (i - 1) (h1 k i) (i - 1) = h1 k i from if_pos rfl, show i - 1 + 1 = i by omega]
        exact g2 i (by omega)
      · rw [show upd (h1 k) (i - 1) (h1 k i) j = h1 k j from if_neg q]
        exact g1 j (by omega)
    · rw [show upd (h1 k) (i - 1) (h1 k i) j = h1 k j from if_neg (by omega)]
      exact g2 j (by omega)
/-- a change noted in rows that hold the earlier ones -/
theorem CRel.put {h : Nat → Nat → Int32} {cl : CL} {a b x y : Nat} (hr : CRel h cl) : CRel (va_up (va_up (va_up (va_up h 2 (upd (h 2) cl.length (nI a))) 3 (upd (h 3) cl.length (nI b))) 4 (upd (h 4) cl.length (nI x))) 5 (upd (h 5) cl.length (nI y))) (cl ++ [(a, b, x, y)]) := by
  intro j a' b' x' y' q
  rcases Nat.lt_or_ge j cl.length with r | r
  · rw [List.getElem?_append_left r] at q
    have k := hr j a' b' x' y' q
    have hne : ¬ j = cl.length := by omega
    exact ⟨(if_neg hne).trans k.1, (if_neg hne).trans k.2.1, (if_neg hne).trans k.2.2.1, (if_neg hne).trans k.2.2.2⟩
  · rw [List.getElem?_append_right r] at q
    have hz : j - cl.length < 1 := (List.getElem?_eq_some_iff.mp q).1
    have hj : j = cl.length := by omega
    subst hj
    rw [Nat.sub_self] at q
    cases q
    exact ⟨if_pos rfl, if_pos rfl, if_pos rfl, if_pos rfl⟩
theorem CRel.take {h : Nat → Nat → Int32} {cl : CL} (hr : CRel h cl) (n : Nat) : CRel h (cl.take n) := fun j a b x y q => by
  rw [List.getElem?_take] at q
  split at q
  · exact hr j a b x y q
  · cases q
theorem CRel.drop1 {h h1 : Nat → Nat → Int32} {cl : CL} (hr : CRel h cl) (hl : cl.length ≤ 40) (hs : SH h h1 40) : CRel h1 (cl.drop 1) := fun j a b x y q => by
  rw [List.getElem?_drop] at q
  have hj : 1 + j < cl.length := (List.getElem?_eq_some_iff.mp q).1
  have k := hr (1 + j) a b x y q
  rw [Nat.add_comm] at k
  exact ⟨((hs.2 2 (Or.inl rfl)).1 j (by omega)).trans k.1, ((hs.2 3 (Or.inr (Or.inl rfl))).1 j (by omega)).trans k.2.1, ((hs.2 4 (Or.inr (Or.inr (Or.inl rfl)))).1 j (by omega)).trans k.2.2.1, ((hs.2 5 (Or.inr (Or.inr (Or.inr rfl)))).1 j (by omega)).trans k.2.2.2⟩
/-- draws -/
def drwZ (z : Int32) : Nat → Int32
  | 0 => z
  | i + 1 => drwZ z i * 1103515245 + 12345
def drwR (z : Int32) : Int32 := (z.toUInt32 >>> ((8 : Int32).toUInt32 &&& Int32.toUInt32 31)).toInt32 - (z.toUInt32 >>> ((8 : Int32).toUInt32 &&& Int32.toUInt32 31)).toInt32 / 12 * 12
def drw (N : Nat → Nat → Nat) (z : Int32) : Nat → Nat
  | 0 => 0
  | i + 1 => drw N z i ||| (if drwR (drwZ z (i + 1)) < nI (N 1 i) then 2 ^ i else 0)
theorem drw_lt {N : Nat → Nat → Nat} {z : Int32} : ∀ i, i ≤ 8 → drw N z i < 2 ^ i
  | 0, _ => (by decide : 0 < 1)
  | i + 1, h => by
    have k := drw_lt (N := N) (z := z) i (by omega)
    have h2 : 2 ^ i < 2 ^ (i + 1) := Nat.pow_lt_pow_right (by decide) (by omega)
    refine Nat.or_lt_two_pow (Nat.lt_trans k h2) ?_
    split
    · exact h2
    · exact Nat.two_pow_pos _
/-- what one going can bring: rounds over all things -/
def brI (N : Nat → Nat → Nat) (n b : Nat) : Nat → Nat
  | 0 => b
  | i + 1 => if (brI N n b i).testBit i then brI N n b i ||| (N 4 i &&& (2 ^ n - 1)) else brI N n b i
def brO (N : Nat → Nat → Nat) (n b : Nat) : Nat → Nat
  | 0 => b
  | k + 1 => brI N n (brO N n b k) 8
theorem brI_lt {N : Nat → Nat → Nat} {n b : Nat} (hn : n ≤ 8) (hb : b < 256) : ∀ i, brI N n b i < 256
  | 0 => hb
  | i + 1 => by
    have k := brI_lt (N := N) hn hb i
    unfold brI
    split
    · have h2 := p256 hn
      have h3 := Nat.two_pow_pos n
      exact or_lt k (Nat.lt_of_le_of_lt Nat.and_le_right (by omega))
    · exact k
theorem brO_lt {N : Nat → Nat → Nat} {n b : Nat} (hn : n ≤ 8) (hb : b < 256) : ∀ k, brO N n b k < 256
  | 0 => hb
  | k + 1 => brI_lt hn (brO_lt hn hb k) 8
