/-! the same state, as the reference's world holds it -/
def MA (n : Nat) (N : Nat → Nat → Nat) (g : Nat → Int32) (h : Nat → Nat → Int32) : Prop := g 1 = nI n ∧ n ≤ 8 ∧ (∀ k j, k < 7 → j < lim n k → h (2 + k) j = nI (N k j)) ∧ g 9 = nI (N 7 0) ∧ Bd N ∧ (∀ j, n ≤ j → j < 8 → N 4 j = 0)
def CRelM (h : Nat → Nat → Int32) (cl : CL) : Prop := ∀ (j a b x y : Nat), cl[j]? = some (a, b, x, y) → h 12 j = nI a ∧ h 13 j = nI b ∧ h 14 j = nI x ∧ h 15 j = nI y
def MBc (n : Nat) (b : CL × Nat) (g : Nat → Int32) (h : Nat → Nat → Int32) : Prop := g 10 = nI b.2 ∧ g 11 = nI (b.1.length - b.2) ∧ b.2 ≤ b.1.length ∧ b.1.length ≤ 40 ∧ CRelM h b.1 ∧ CV n b.1
def MT (t : List Nat) (g : Nat → Int32) (h : Nat → Nat → Int32) : Prop := g 17 = nI t.length ∧ t.length ≤ 120 ∧ ∀ (j x : Nat), t[j]? = some x → h 16 j = vp_nar .byte (nI x) ∧ x < 256
abbrev DQ : Type := Nat × Nat × Nat × DT × Int32 × Int32
def deedV (q : DQ) (f : Nat → Int32) : Prop := f 0 = nI q.2.2.1 ∧ f 1 = nI q.2.2.2.1.1 ∧ f 2 = nI q.2.2.2.1.2.1 ∧ f 3 = nI q.2.2.2.1.2.2.1 ∧ f 4 = nI q.2.2.2.1.2.2.2.1.length ∧ f 5 = nI q.2.2.2.1.2.2.2.2.1 ∧ f 6 = (if q.1 = 0 then -2 else nI q.2.1) ∧ f 7 = q.2.2.2.2.1 ∧ f 8 = q.2.2.2.2.2
def MDo (n : Nat) (q : DQ) : Prop := q.1 ≤ 1 ∧ q.2.1 ≤ 6 ∧ q.2.2.1 < 2 ^ n ∧ q.2.2.2.1.2.1 < 2 ^ n ∧ DI q.2.2.2.1
def MD (n : Nat) (q : DQ) (h : Nat → Nat → Int32) : Prop := deedV q (h 42) ∧ MDo n q
def MI (n : Nat) (q : Nat × DQ) (g : Nat → Int32) (h : Nat → Nat → Int32) : Prop := g 44 = nI q.1 ∧ q.1 ≤ 1 ∧ (q.1 = 1 → deedV q.2 (h 43) ∧ MDo n q.2)
def MP (q : Nat × (Nat → Nat) × AT) (g : Nat → Int32) (h : Nat → Nat → Int32) : Prop := g 45 = nI q.1 ∧ q.1 ≤ 50 ∧ (∀ j, j < q.1 → h 46 j = nI (q.2.1 j) ∧ q.2.1 j < 8) ∧ g 47 = q.2.2.1 ∧ h 48 = q.2.2.2
def MSh (nb : Nat) (q : SHT) (b : Nat) (h : Nat → Nat → Int32) (el : Nat → Int64) : Prop := q.1 ≤ 2 ∧ (q.1 = 0 → h 49 b = -1) ∧ (q.1 = 1 → h 49 b = nI q.2.1 ∧ q.2.1 < nb) ∧ (q.1 = 2 → h 49 b = -2 - nI q.2.2.1 ∧ q.2.2.1 < 5 ∧ h 50 b = nI q.2.2.2.1 ∧ q.2.2.2.1 ≤ 60 ∧ ∀ j, j < q.2.2.2.1 → el (60 * b + j) = q.2.2.2.2 j)
def MSs (nb : Nat) (sh : Nat → SHT) (h : Nat → Nat → Int32) (el : Nat → Int64) : Prop := ∀ b, b < 6 → MSh nb (sh b) b h el
/-- a step of a text, as the reference numbers it -/
def mop (a : Nat) : Int32 := if a = 48 then 1 else if a = 110 then 2 else if a = 33 then 3 else if a = 126 then 4 else nI a
def AtM (h : Nat → Nat → Int32) (i : Nat) (c : CD) : Prop := ∀ (j a b : Nat), c[j]? = some (a, b) → h 22 (i + j) = mop a ∧ h 23 (i + j) = nI b
/-- the lines from the i-th on, the next step's place being s; cb, lb: where the text's place begins -/
def LnAt (cb lb : Nat) (h : Nat → Nat → Int32) : List (CD × CD) → Nat → Nat → Prop
  | [], _, _ => True
  | q :: r, s, i => h 25 (lb + i) = nI (s + q.1.length) ∧ h 26 (lb + i) = nI (s + q.1.length + q.2.length) ∧ AtM h (cb + s) (q.1 ++ q.2) ∧ LnAt cb lb h r (s + q.1.length + q.2.length) (i + 1)
def stp (ls : List (CD × CD)) : CD := ls.flatMap (fun q => q.1 ++ q.2)
def MLw (g : Nat → Int32) (h : Nat → Nat → Int32) (L : Nat → Nat → Nat → Nat → Nat → Nat) : Prop := (g 29 = 0 ∧ L = law0) ∨ (g 29 = 1 ∧ ∃ ls : List (CD × CD), (∀ q ∈ ls, LnG q) ∧ (stp ls).length ≤ 128 ∧ ls.length ≤ 61 ∧ h 24 0 = nI ls.length ∧ LnAt 0 0 h ls 0 0 ∧ L = lawL ls)
def MAll (S : STT) (g : Nat → Int32) (h : Nat → Nat → Int32) (el : Nat → Int64) : Prop :=
  MA S.1.1 S.1.2.1 g h ∧ MBc S.1.1 S.2.1 g h ∧ MT S.2.2.1 g h ∧ MD S.1.1 S.2.2.2.1 h ∧ MI S.1.1 S.2.2.2.2.1 g h ∧ MP S.2.2.2.2.2.1 g h ∧ MSs S.2.2.2.2.2.1.1 S.2.2.2.2.2.2 h el ∧ MLw g h S.1.2.2
/-- the reference's world holds S -/
def MR (ad tc : Nat → Nat) (S : STT) (w : va_W) : Prop := ∃ (g : Nat → Int32) (h : Nat → Nat → Int32) (el : Nat → Int64) (u : Nat → Int32) (v : Nat → Nat → Int32) (sf : Nat → Int64), w = hm ad tc g h el u v sf ∧ MAll S g h el
section MK
variable {g g' : Nat → Int32} {h h' : Nat → Nat → Int32} {n : Nat} {N : Nat → Nat → Nat}
theorem MA.kept (m : MA n N g h) (h1 : g' 1 = g 1) (h9 : g' 9 = g 9) (hh : ∀ k, 2 ≤ k → k < 9 → h' k = h k) : MA n N g' h' :=
  ⟨h1.trans m.1, m.2.1, fun k j hk hj => by rw [hh (2 + k) (by omega) (by omega)]; exact m.2.2.1 k j hk hj, h9.trans m.2.2.2.1, m.2.2.2.2⟩
theorem MBc.kept {b : CL × Nat} (m : MBc n b g h) (h1 : g' 10 = g 10) (h2 : g' 11 = g 11) (hh : ∀ k, 12 ≤ k → k < 16 → h' k = h k) : MBc n b g' h' := by
  unfold MBc CRelM at m ⊢
  rw [h1, h2, hh 12 (by decide) (by decide), hh 13 (by decide) (by decide), hh 14 (by decide) (by decide), hh 15 (by decide) (by decide)]
  exact m
theorem MT.kept {t : List Nat} (m : MT t g h) (h1 : g' 17 = g 17) (hh : h' 16 = h 16) : MT t g' h' := by
  unfold MT at m ⊢
  rw [h1, hh]
  exact m
theorem MD.kept {q : DQ} (m : MD n q h) (hh : h' 42 = h 42) : MD n q h' := by
  unfold MD at m ⊢
  rw [hh]
  exact m
theorem MI.kept {q : Nat × DQ} (m : MI n q g h) (h1 : g' 44 = g 44) (hh : h' 43 = h 43) : MI n q g' h' := by
  unfold MI at m ⊢
  rw [h1, hh]
  exact m
theorem MP.kept {q : Nat × (Nat → Nat) × AT} (m : MP q g h) (h1 : g' 45 = g 45) (h2 : g' 47 = g 47) (h3 : h' 46 = h 46) (h4 : h' 48 = h 48) : MP q g' h' := by
  unfold MP at m ⊢
  rw [h1, h2, h3, h4]
  exact m
theorem MSs.kept {nb : Nat} {sh : Nat → SHT} {el : Nat → Int64} (m : MSs nb sh h el) (h1 : h' 49 = h 49) (h2 : h' 50 = h 50) : MSs nb sh h' el := by
  unfold MSs MSh at m ⊢
  rw [h1, h2]
  exact m
theorem LnAt.kept {cb lb : Nat} (h2 : h' 22 = h 22) (h3 : h' 23 = h 23) (h5 : h' 25 = h 25) (h6 : h' 26 = h 26) : ∀ (ls : List (CD × CD)) (s i : Nat), LnAt cb lb h ls s i → LnAt cb lb h' ls s i
  | [], _, _, _ => trivial
  | q :: r, s, i, m => by
    obtain ⟨m1, m2, m3, m4⟩ := m
    refine ⟨by rw [h5]; exact m1, by rw [h6]; exact m2, ?_, LnAt.kept h2 h3 h5 h6 r _ _ m4⟩
    unfold AtM at m3 ⊢
    rw [h2, h3]
    exact m3
theorem MLw.kept {L : Nat → Nat → Nat → Nat → Nat → Nat} (m : MLw g h L) (h1 : g' 29 = g 29) (hh : ∀ k, 22 ≤ k → k < 27 → h' k = h k) : MLw g' h' L := by
  rcases m with ⟨m1, m2⟩ | ⟨m1, ls, m2, m3, m4, m5, m6, m7⟩
  · exact Or.inl ⟨h1.trans m1, m2⟩
  · exact Or.inr ⟨h1.trans m1, ls, m2, m3, m4, by rw [hh 24 (by decide) (by decide)]; exact m5, LnAt.kept (hh 22 (by decide) (by decide)) (hh 23 (by decide) (by decide)) (hh 25 (by decide) (by decide)) (hh 26 (by decide) (by decide)) ls 0 0 m6, m7⟩
end MK
theorem MDo.le {n n' : Nat} {q : DQ} (m : MDo n q) (hn : n ≤ n') : MDo n' q := by
  obtain ⟨m1, m2, m3, m4, m5⟩ := m
  have e : 2 ^ n ≤ 2 ^ n' := Nat.pow_le_pow_right (by decide) hn
  exact ⟨m1, m2, by omega, by omega, m5⟩
theorem bet_eq {x lo hi : Int32} : bet x lo hi = true ↔ lo ≤ x ∧ x ≤ hi := decide_eq_true_iff
theorem bet_bod {n : Nat} (hn : n < 1000) (x : Int32) : bet x 0 (nI n - 1) = bodB n x := by
  unfold bet bodB
  have e : (nI n - 1).toInt = (n : Int) - 1 := by
    rcases Nat.eq_zero_or_pos n with rfl | hp
    · decide
    · rw [show nI n - 1 = nI (n - 1) from pk_sub (a := n) (b := 1) hp, nI_toInt (by omega)]
      omega
  have z : (0 : Int32).toInt = 0 := rfl
  refine decide_eq_decide.mpr ?_
  rw [Int32.le_iff_toInt_le, Int32.le_iff_toInt_le, e, z]
  omega
theorem may_0 (v : Int32) : mayB 0 v = bet v 0 5 := decide_eq_decide.mpr ⟨fun h => ⟨h.2.2.1, h.2.2.2⟩, fun h => ⟨by decide, by decide, h.1, h.2⟩⟩
theorem may_1 (v : Int32) : mayB 1 v = bet v 0 12 := decide_eq_decide.mpr ⟨fun h => ⟨h.2.2.1, h.2.2.2⟩, fun h => ⟨by decide, by decide, h.1, h.2⟩⟩
theorem may_2 (v : Int32) : mayB 2 v = bet v 0 6 := decide_eq_decide.mpr ⟨fun h => ⟨h.2.2.1, h.2.2.2⟩, fun h => ⟨by decide, by decide, h.1, h.2⟩⟩
theorem may_3 (v : Int32) : mayB 3 v = bet v 0 99 := decide_eq_decide.mpr ⟨fun h => ⟨h.2.2.1, h.2.2.2⟩, fun h => ⟨by decide, by decide, h.1, h.2⟩⟩
theorem may_4 (v : Int32) : mayB 4 v = bet v 0 255 := decide_eq_decide.mpr ⟨fun h => ⟨h.2.2.1, h.2.2.2⟩, fun h => ⟨by decide, by decide, h.1, h.2⟩⟩
theorem may_5 (v : Int32) : mayB 5 v = bet v 1 9 := decide_eq_decide.mpr ⟨fun h => ⟨h.2.2.1, h.2.2.2⟩, fun h => ⟨by decide, by decide, h.1, h.2⟩⟩
theorem may_6 (v : Int32) : mayB 6 v = bet v 1 20 := decide_eq_decide.mpr ⟨fun h => ⟨h.2.2.1, h.2.2.2⟩, fun h => ⟨by decide, by decide, h.1, h.2⟩⟩
theorem may_7 (v : Int32) : mayB 7 v = bet v 0 9 := decide_eq_decide.mpr ⟨fun h => ⟨h.2.2.1, h.2.2.2⟩, fun h => ⟨by decide, by decide, h.1, h.2⟩⟩
theorem pop_low : ∀ l, l < 256 → l ≠ 0 → pop (l &&& (l - 1)) + 1 = pop l ∧ l &&& (l - 1) < l := by decide +kernel
/-- the answer of 'in', as a test takes it -/
theorem ite_0 {P : Prop} [Decidable P] (q : (if P then (1 : Int32) else 0) = 0) : ¬ P := fun z => by rw [if_pos z] at q; cases q
theorem ite_1 {P : Prop} [Decidable P] (q : ¬ (if P then (1 : Int32) else 0) = 0) : P := Classical.byContradiction fun z => q (if_neg z)
