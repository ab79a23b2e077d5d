/-! what a change makes of the state -/
def upN (N : Nat → Nat → Nat) (k j x : Nat) : Nat → Nat → Nat := fun a b => if a = k ∧ b = j then x else N a b
theorem NW.up {W : Nat → Nat → Int32} {N : Nat → Nat → Nat} (h : NW W N) (k j x : Nat) : NW (bW W k j (nI x)) (upN N k j x) := by
  intro a b ha hb
  unfold bW upN
  by_cases e1 : a = k
  · subst e1
    rw [vus]
    by_cases e2 : b = j
    · subst e2
      rw [if_pos ⟨rfl, rfl⟩]
      exact if_pos rfl
    · rw [if_neg (fun q => e2 q.2)]
      exact (if_neg e2).trans (h a b ha hb)
  · rw [vun e1, if_neg (fun q => e1 q.1)]
    exact h a b ha hb
theorem Bd.up {N : Nat → Nat → Nat} (h : Bd N) {k j x : Nat} (hx : x ≤ maxN k) : Bd (upN N k j x) := by
  intro a b ha hb
  unfold upN
  by_cases e : a = k ∧ b = j
  · rw [if_pos e, e.1]; exact hx
  · rw [if_neg e]; exact h a b ha hb
theorem may_ex {k : Nat} (hk : k < 8) {v : Int32} (h : mayB (nI k) v = true) : ∃ x : Nat, x ≤ maxN k ∧ x < 2 ^ 31 ∧ v = nI x := by
  simp only [mayB, decide_eq_true_eq] at h
  obtain ⟨-, -, h3, h4⟩ := h
  rw [nI_clamp (by omega)] at h3 h4
  have z0 : ¬ v < 0 := by
    intro q
    have q2 := Int32.lt_of_le_of_lt h3 q
    rcases (show k = 0 ∨ k = 1 ∨ k = 2 ∨ k = 3 ∨ k = 4 ∨ k = 5 ∨ k = 6 ∨ k = 7 by omega) with rfl | rfl | rfl | rfl | rfl | rfl | rfl | rfl <;> exact absurd q2 (by decide)
  obtain ⟨x, hx, rfl⟩ := nI_of z0
  refine ⟨x, ?_, hx, rfl⟩
  rcases (show k = 0 ∨ k = 1 ∨ k = 2 ∨ k = 3 ∨ k = 4 ∨ k = 5 ∨ k = 6 ∨ k = 7 by omega) with rfl | rfl | rfl | rfl | rfl | rfl | rfl | rfl
  · exact (nI_leI (b := 5) hx (by decide)).mp h4
  · exact (nI_leI (b := 12) hx (by decide)).mp h4
  · exact (nI_leI (b := 6) hx (by decide)).mp h4
  · exact (nI_leI (b := 99) hx (by decide)).mp h4
  · exact (nI_leI (b := 255) hx (by decide)).mp h4
  · exact (nI_leI (b := 9) hx (by decide)).mp h4
  · exact (nI_leI (b := 20) hx (by decide)).mp h4
  · exact (nI_leI (b := 9) hx (by decide)).mp h4
theorem LawX.kept {g g' : Nat → Int32} {h h' : Nat → Nat → Int32} {L : Nat → Nat → Nat → Nat → Nat → Nat} (hL : LawX g h L) (h2 : g' 2 = g 2) (h0 : h' 0 = h 0) (h1 : h' 1 = h 1) : LawX g' h' L := by
  obtain ⟨sz, a, b, c⟩ := hL
  exact ⟨sz, a, by rw [h2]; exact b, by rw [h0, h1]; exact c⟩
theorem XC.bump {k m : Nat} {a a' : Nat × (Nat → Nat → Nat) × (Nat → Nat → Nat → Nat → Nat → Nat)} {g g' u : Nat → Int32} {v : Nat → Nat → Int32} (h : XC k a g u v) (hm : 0 < m) (hm2 : m ≤ 40) (hg : ∀ ed : Nat, g 1 = nI ed → g' 1 = nI (ed + m)) : XC (k + 1) a' g' u v := by
  obtain ⟨ed, te, e1, e2, e3, e4, -⟩ := h
  exact ⟨ed + m, te, hg ed e1, e2, by omega, by omega, fun q => by omega⟩
theorem XAll.nums {S : STT} {k : Nat} {W W' : Nat → Nat → Int32} {g g' : Nat → Int32} {h h' : Nat → Nat → Int32} {Dv : DV} {Sh : SV} {u : Nat → Int32} {v : Nat → Nat → Int32} (X : XAll S k W g h Dv Sh u v) {a' : Nat × (Nat → Nat → Nat) × (Nat → Nat → Nat → Nat → Nat → Nat)} {b' : CL × Nat} (hg : ∀ q, 5 ≤ q → g' q = g q) (h6 : h' 6 = h 6) (h7 : h' 7 = h 7) (h8 : h' 8 = h 8) (xa : XA a' W' g' h') (xb : XB a'.1 b' g' h') (xc : XC (k + 1) a' g' u v) : XAll (a', b', S.2.2) (k + 1) W' g' h' Dv Sh u v := by
  obtain ⟨x1, x2, x3, x4, x5, x6, x7, x8⟩ := X
  refine ⟨xa, xb, ?_, ?_, ?_, ?_, x7, xc⟩
  · show XT S.2.2.1 g' h'
    unfold XT at x3 ⊢
    rw [hg 5 (by decide), h6]; exact x3
  · show XD S.2.2.2.1 g' Dv
    unfold XD at x4 ⊢
    rw [hg 6 (by decide), hg 7 (by decide)]; exact x4
  · show XI S.2.2.2.2.1 g' Dv
    unfold XI at x5 ⊢
    rw [hg 8 (by decide), hg 9 (by decide), hg 10 (by decide)]; exact x5
  · show XP S.2.2.2.2.2.1 g' h'
    unfold XP at x6 ⊢
    rw [hg 11 (by decide), hg 12 (by decide), h7, h8]; exact x6
theorem noteC_len {cl : CL} {dn : Nat} {q : Nat × Nat × Nat × Nat} (h1 : dn ≤ cl.length) (h2 : cl.length ≤ 40) : (noteC cl dn q).length ≤ 40 := by
  unfold noteC
  rw [List.length_append, List.length_drop, List.length_take]
  show _ + 1 ≤ 40
  split <;> omega
theorem CV.note {n : Nat} {cl : CL} (h : CV n cl) {dn a b x y : Nat} (ha : a < 8) (hb : b < lim n a) (hx : x ≤ maxN a) (hy : y ≤ maxN a) : CV n (noteC cl dn (a, b, x, y)) := by
  intro j a' b' x' y' q
  have hm : (a', b', x', y') ∈ noteC cl dn (a, b, x, y) := List.mem_of_getElem? q
  unfold noteC at hm
  rcases List.mem_append.mp hm with r | r
  · obtain ⟨i, hi⟩ := List.getElem?_of_mem (List.mem_of_mem_take (List.mem_of_mem_drop r))
    exact h i a' b' x' y' hi
  · rw [List.mem_singleton] at r
    cases r
    exact ⟨ha, hb, hx, hy⟩
def aMend (S : STT) (number what v : Int32) : Int32 := if hasB S.1.1 what number = true ∧ mayB what v = true then nI (S.1.2.1 what.toNatClampNeg number.toNatClampNeg) else -1
def mendS (S : STT) (k j x : Nat) : STT := ((S.1.1, upN S.1.2.1 k j x, S.1.2.2), (noteC S.2.1.1 S.2.1.2 (k, j, S.1.2.1 k j, x), (noteC S.2.1.1 S.2.1.2 (k, j, S.1.2.1 k j, x)).length), S.2.2)
def nMend (S : STT) (number what v : Int32) : STT := if hasB S.1.1 what number = true ∧ mayB what v = true ∧ ¬ nI (S.1.2.1 what.toNatClampNeg number.toNatClampNeg) = v then mendS S what.toNatClampNeg number.toNatClampNeg v.toNatClampNeg else S
def aUndo (S : STT) : Int32 := if S.2.1.2 = 0 then -5 else nI (S.2.1.2 - 1)
def nUndo (S : STT) : STT := match S.2.1.1[S.2.1.2 - 1]? with
  | some q => if S.2.1.2 = 0 then S else ((S.1.1, upN S.1.2.1 q.1 q.2.1 q.2.2.1, S.1.2.2), (S.2.1.1, S.2.1.2 - 1), S.2.2)
  | none => S
def aRedo (S : STT) : Int32 := if S.2.1.2 = S.2.1.1.length then -5 else nI (S.2.1.1.length - (S.2.1.2 + 1))
def nRedo (S : STT) : STT := match S.2.1.1[S.2.1.2]? with
  | some q => ((S.1.1, upN S.1.2.1 q.1 q.2.1 q.2.2.2, S.1.2.2), (S.2.1.1, S.2.1.2 + 1), S.2.2)
  | none => S
theorem Z4.up {n : Nat} {N : Nat → Nat → Nat} (h : ∀ j, n ≤ j → j < 8 → N 4 j = 0) {k b x : Nat} (hb : b < lim n k) : ∀ j, n ≤ j → j < 8 → upN N k b x 4 j = 0 := fun j h1 h2 => by
  unfold upN
  rw [if_neg (fun q => by
    obtain ⟨q1, q2⟩ := q
    subst q1; subst q2
    have : lim n 4 = n := if_pos (by decide)
    omega)]
  exact h j h1 h2
