/-! a text in lines: what both programs make of it -/
/-- at, fault; the lines so far: what they ask, what they say -/
abbrev LXS : Type := (Nat × Option Nat) × List (CD × CD)
def linX (t : List Nat) (E : PS → PS) (X : LXS) : LXS :=
  if ltr t (E (X.1.1, X.1.2, [])) = 63 then
    (((E ((E (X.1.1, X.1.2, [])).1 + 1, (E (X.1.1, X.1.2, [])).2.1, [])).1, (E ((E (X.1.1, X.1.2, [])).1 + 1, (E (X.1.1, X.1.2, [])).2.1, [])).2.1), X.2 ++ [((E (X.1.1, X.1.2, [])).2.2, (E ((E (X.1.1, X.1.2, [])).1 + 1, (E (X.1.1, X.1.2, [])).2.1, [])).2.2)])
  else (((E (X.1.1, X.1.2, [])).1, (E (X.1.1, X.1.2, [])).2.1), X.2 ++ [([], (E (X.1.1, X.1.2, [])).2.2)])
def linXL (t : List Nat) (E : PS → PS) : Nat → LXS → LXS
  | 0, X => X
  | k + 1, X => if ltr t (X.1.1, X.1.2, []) = 59 then linXL t E k (linX t E ((X.1.1 + 1, X.1.2), X.2)) else X
def txtX (t : List Nat) (E : PS → PS) : LXS := linXL t E 120 (linX t E ((0, none), []))
def endX (t : List Nat) (X : LXS) : Option Nat := match X.1.2 with
  | some f => some f
  | none => if X.1.1 < t.length then some X.1.1 else none
/-- the fault of a text, and its lines -/
def ftT (t : List Nat) : Option Nat := endX t (txtX t (exC t))
def lnT (t : List Nat) : List (CD × CD) := (txtX t (exC t)).2
def flt (q : CD × CD) : CD := if q.1.length = 0 then q.2 ++ [(59, 0)] else q.1 ++ (63, 0) :: (q.2 ++ [(59, 0)])
theorem linXL_t {t : List Nat} {E : PS → PS} {k : Nat} {X : LXS} (h : ltr t (X.1.1, X.1.2, []) = 59) : linXL t E (k + 1) X = linXL t E k (linX t E ((X.1.1 + 1, X.1.2), X.2)) := if_pos h
theorem linXL_f {t : List Nat} {E : PS → PS} {k : Nat} {X : LXS} (h : ¬ ltr t (X.1.1, X.1.2, []) = 59) : linXL t E (k + 1) X = X := if_neg h
theorem fm_app (ls : List (CD × CD)) (q : CD × CD) : (ls ++ [q]).flatMap flt = ls.flatMap flt ++ flt q := by
  rw [List.flatMap_append]
  show _ ++ (flt q ++ []) = _
  rw [List.append_nil]
/-- the class's state of reading, out of the lines -/
def psX (X : LXS) : PS := (X.1.1, X.1.2, X.2.flatMap flt)
theorem linC_X {t : List Nat} (X : LXS) (hX : X.1.2 = none → X.1.1 ≤ t.length) : linC t (psX X) = psX (linX t (exC t) X) := by
  have hw := wf_exC t
  obtain ⟨⟨a, f⟩, ls⟩ := X
  have e0 : eitF t (opF t (numC t) rfs 6) (psX ((a, f), ls)) = pre (ls.flatMap flt) (exC t (a, f, [])) := by
    show exC t (a, f, ls.flatMap flt) = _
    rw [pre_nil a f (ls.flatMap flt), hw.1]
  unfold linC linX
  rw [e0]
  show (if ltr t (exC t (a, f, [])) = 63 then _ else _) = psX (if ltr t (exC t (a, f, [])) = 63 then _ else _)
  by_cases h : ltr t (exC t (a, f, [])) = 63
  · rw [if_pos h, if_pos h]
    have hi := ltr_in (t := t) (s := exC t (a, f, [])) (by omega)
    have hne : (exC t (a, f, [])).2.2.length ≠ 0 := by
      cases f with
      | none =>
        have k := (hw.2.2 a (hX rfl)).2.2.2 hi.1
        exact gc_ne k.2.1
      | some x =>
        have k := (hw.2.1 a x []).2
        rw [hi.1] at k
        cases k
    revert hi hne h
    show _ → _ → _ → emt (exC t (emt (adv (pre (ls.flatMap flt) (exC t (a, f, [])))) 63 0)) 59 0 = psX (((exC t ((exC t (a, f, [])).1 + 1, (exC t (a, f, [])).2.1, [])).1, (exC t ((exC t (a, f, [])).1 + 1, (exC t (a, f, [])).2.1, [])).2.1), ls ++ [((exC t (a, f, [])).2.2, (exC t ((exC t (a, f, [])).1 + 1, (exC t (a, f, [])).2.1, [])).2.2)])
    generalize exC t (a, f, []) = r
    intro h hi hne
    have e1 : emt (adv (pre (ls.flatMap flt) r)) 63 0 = pre (ls.flatMap flt ++ r.2.2 ++ [(63, 0)]) (r.1 + 1, r.2.1, []) := by
      show (r.1 + 1, r.2.1, (ls.flatMap flt ++ r.2.2) ++ [(63, 0)]) = (r.1 + 1, r.2.1, (ls.flatMap flt ++ r.2.2 ++ [(63, 0)]) ++ [])
      rw [List.append_nil]
    rw [e1, hw.1]
    generalize exC t (r.1 + 1, r.2.1, []) = w
    show (w.1, w.2.1, (ls.flatMap flt ++ r.2.2 ++ [(63, 0)] ++ w.2.2) ++ [(59, 0)]) = (w.1, w.2.1, (ls ++ [(r.2.2, w.2.2)]).flatMap flt)
    rw [fm_app, show flt (r.2.2, w.2.2) = r.2.2 ++ (63, 0) :: (w.2.2 ++ [(59, 0)]) from if_neg hne, List.append_assoc, List.append_assoc, List.append_assoc]
    rfl
  · rw [if_neg h, if_neg h]
    generalize exC t (a, f, []) = r
    show (r.1, r.2.1, (ls.flatMap flt ++ r.2.2) ++ [(59, 0)]) = (r.1, r.2.1, (ls ++ [([], r.2.2)]).flatMap flt)
    rw [fm_app, show flt (([] : CD), r.2.2) = r.2.2 ++ [(59, 0)] from if_pos rfl, List.append_assoc]
/-- a line asks something good or nothing, and says something good -/
def LnG (q : CD × CD) : Prop := (q.1 = [] ∨ GC q.1) ∧ GC q.2
/-- what is so behind each line; T: all figures, signs and names so far -/
def OkX (t : List Nat) (X : LXS) : Prop := X.1.1 ≤ t.length ∧ (∀ x, X.1.2 = some x → x ≤ t.length) ∧ (X.1.2 = none → (∀ q ∈ X.2, LnG q) ∧ (X.2.flatMap flt).length ≤ X.1.1 + 1 ∧ 2 * X.2.length ≤ X.1.1 + 1)
theorem linX_ok {t : List Nat} {E : PS → PS} (hw : Wf t E) {a b : Nat} {ls : List (CD × CD)} (ha : a ≤ t.length) (h1 : ∀ q ∈ ls, LnG q) (h2 : (ls.flatMap flt).length ≤ a) (h3 : 2 * ls.length ≤ a) : OkX t (linX t E ((a, none), ls)) := by
  have k := hw.2.2 a ha
  unfold linX
  show OkX t (if ltr t (E (a, none, [])) = 63 then (((E ((E (a, none, [])).1 + 1, (E (a, none, [])).2.1, [])).1, (E ((E (a, none, [])).1 + 1, (E (a, none, [])).2.1, [])).2.1), ls ++ [((E (a, none, [])).2.2, (E ((E (a, none, [])).1 + 1, (E (a, none, [])).2.1, [])).2.2)]) else (((E (a, none, [])).1, (E (a, none, [])).2.1), ls ++ [([], (E (a, none, [])).2.2)]))
  revert k
  generalize E (a, none, []) = r
  intro k
  obtain ⟨k1, k2, k3, k4⟩ := k
  by_cases h : ltr t r = 63
  · rw [if_pos h]
    have hi := ltr_in (t := t) (s := r) (by omega)
    obtain ⟨g1, g2, g3⟩ := k4 hi.1
    rw [hi.1]
    have m := hw.2.2 (r.1 + 1) hi.2.1
    revert m
    generalize E (r.1 + 1, none, []) = w
    intro m
    obtain ⟨m1, m2, m3, m4⟩ := m
    refine ⟨m1, fun x q => (m3 x q).1, fun q => ?_⟩
    obtain ⟨n1, n2, n3⟩ := m4 q
    refine ⟨fun z hz => ?_, ?_, ?_⟩
    · rcases List.mem_append.mp hz with hz | hz
      · exact h1 z hz
      · rw [List.mem_singleton.mp hz]
        exact ⟨Or.inr g2, n2⟩
    · show ((ls ++ [(r.2.2, w.2.2)]).flatMap flt).length ≤ w.1 + 1
      rw [fm_app, List.length_append, show flt (r.2.2, w.2.2) = r.2.2 ++ (63, 0) :: (w.2.2 ++ [(59, 0)]) from if_neg (gc_ne g2), List.length_append, List.length_cons, List.length_append]
      show _ + (_ + (_ + 1 + 1)) ≤ _
      omega
    · show 2 * (ls ++ [(r.2.2, w.2.2)]).length ≤ w.1 + 1
      rw [List.length_append]
      show 2 * (ls.length + 1) ≤ _
      omega
  · rw [if_neg h]
    refine ⟨k1, fun x q => (k3 x q).1, fun q => ?_⟩
    obtain ⟨g1, g2, g3⟩ := k4 q
    refine ⟨fun z hz => ?_, ?_, ?_⟩
    · rcases List.mem_append.mp hz with hz | hz
      · exact h1 z hz
      · rw [List.mem_singleton.mp hz]
        exact ⟨Or.inl rfl, g2⟩
    · show ((ls ++ [(([] : CD), r.2.2)]).flatMap flt).length ≤ r.1 + 1
      rw [fm_app, List.length_append, show flt (([] : CD), r.2.2) = r.2.2 ++ [(59, 0)] from if_pos rfl, List.length_append]
      show _ + (_ + 1) ≤ _
      omega
    · show 2 * (ls ++ [(([] : CD), r.2.2)]).length ≤ r.1 + 1
      rw [List.length_append]
      show 2 * (ls.length + 1) ≤ _
      omega
theorem linXL_ok {t : List Nat} {E : PS → PS} (hw : Wf t E) : ∀ k X, OkX t X → OkX t (linXL t E k X)
  | 0, _, h => h
  | k + 1, X, h => by
    by_cases e : ltr t (X.1.1, X.1.2, []) = 59
    · rw [linXL_t e]
      have hi := ltr_in (t := t) (s := (X.1.1, X.1.2, [])) (by omega)
      have hn : X.1.2 = none := hi.1
      obtain ⟨g1, g2, g3⟩ := h.2.2 hn
      rw [hn]
      exact linXL_ok hw k _ (linX_ok (b := 0) hw hi.2.1 g1 g2 g3)
    · rw [linXL_f e]
      exact h
theorem txtX_ok {t : List Nat} {E : PS → PS} (hw : Wf t E) : OkX t (txtX t E) := linXL_ok hw 120 _ (linX_ok (b := 0) hw (Nat.zero_le _) (fun q h => by cases h) (Nat.le_refl _) (Nat.le_refl _))
theorem linL_X {t : List Nat} : ∀ k (X : LXS), OkX t X → linL t k (psX X) = psX (linXL t (exC t) k X)
  | 0, _, _ => rfl
  | k + 1, X, h => by
    by_cases e : ltr t (X.1.1, X.1.2, []) = 59
    · rw [linXL_t e, linL_t (show ltr t (psX X) = 59 from e)]
      have hi := ltr_in (t := t) (s := (X.1.1, X.1.2, [])) (by omega)
      have hn : X.1.2 = none := hi.1
      obtain ⟨g1, g2, g3⟩ := h.2.2 hn
      have e2 : adv (psX X) = psX ((X.1.1 + 1, X.1.2), X.2) := rfl
      rw [e2, linC_X ((X.1.1 + 1, X.1.2), X.2) (fun _ => hi.2.1), hn]
      exact linL_X k _ (linX_ok (b := 0) (wf_exC t) hi.2.1 g1 g2 g3)
    · rw [linXL_f e, linL_f (show ¬ ltr t (psX X) = 59 from e)]
theorem txtC_X (t : List Nat) : txtC t = psX (txtX t (exC t)) := by
  unfold txtC txtX
  have e0 : ((0, none, []) : PS) = psX ((0, none), []) := rfl
  rw [e0, linC_X _ (fun _ => Nat.zero_le _)]
  exact linL_X 120 _ (linX_ok (b := 0) (wf_exC t) (Nat.zero_le _) (fun q h => by cases h) (Nat.le_refl _) (Nat.le_refl _))
theorem endC_f (t : List Nat) : (endC t).2.1 = ftT t := by
  unfold endC ftT
  rw [txtC_X]
  generalize txtX t (exC t) = X
  obtain ⟨⟨a, f⟩, ls⟩ := X
  cases f with
  | none =>
    show (if a < t.length then rfs (a, none, _) else (a, none, _)).2.1 = (if a < t.length then some a else none)
    split <;> rfl
  | some x =>
    show (if a < t.length then rfs (a, some x, _) else (a, some x, _)).2.1 = some x
    split <;> rfl
theorem endC_c {t : List Nat} (h : ftT t = none) : (endC t).2.2 = (lnT t).flatMap flt ∧ (∀ q ∈ lnT t, LnG q) ∧ ((lnT t).flatMap flt).length ≤ t.length + 1 ∧ 2 * (lnT t).length ≤ t.length + 1 := by
  have k := txtX_ok (wf_exC t)
  unfold ftT at h
  unfold endC lnT
  rw [txtC_X]
  revert h k
  generalize txtX t (exC t) = X
  intro h k
  obtain ⟨⟨a, f⟩, ls⟩ := X
  cases f with
  | some x => cases h
  | none =>
    obtain ⟨k1, k2, k3⟩ := k
    obtain ⟨g1, g2, g3⟩ := k3 rfl
    have k1' : a ≤ t.length := k1
    have g2' : (ls.flatMap flt).length ≤ a + 1 := g2
    have g3' : 2 * ls.length ≤ a + 1 := g3
    refine ⟨?_, g1, ?_, ?_⟩
    · show (if a < t.length then rfs (a, none, _) else (a, none, _)).2.2 = _
      split <;> rfl
    · show (ls.flatMap flt).length ≤ _
      omega
    · show 2 * ls.length ≤ _
      omega
theorem ft_le {t : List Nat} {f : Nat} (h : ftT t = some f) : f ≤ t.length := by
  have k := txtX_ok (wf_exC t)
  unfold ftT at h
  revert h k
  generalize txtX t (exC t) = X
  intro h k
  obtain ⟨⟨a, fl⟩, ls⟩ := X
  cases fl with
  | some x =>
    cases h
    exact k.2.1 f rfl
  | none =>
    have h' : (if a < t.length then some a else none) = some f := h
    split at h'
    · cases h'
      omega
    · cases h'
/-! both programs read alike -/
def Rl (t : List Nat) (x y : PS) : Prop := (x = y ∧ x.2.1 = none) ∨ ∃ f, y.2.1 = some f ∧ (x.2.1 = some f ∨ (x.2.1 = none ∧ x.1 = f ∧ isD (ltr t x) = true))
theorem rl_emt {t : List Nat} {x y : PS} (h : Rl t x y) (a b : Nat) : Rl t (emt x a b) (emt y a b) := by
  rcases h with ⟨rfl, h2⟩ | ⟨f, h1, h2⟩
  · exact Or.inl ⟨rfl, h2⟩
  · exact Or.inr ⟨f, h1, h2⟩
def RlF (t : List Nat) (f g : PS → PS) : Prop := ∀ s, s.2.1 = none → Rl t (f s) (g s)
theorem stuck {t : List Nat} {ok : Nat → Bool} (hok : ∀ x, ok x = true → bnO x = true) {x : PS} {f : Nat} (h : x.2.1 = some f ∨ (x.2.1 = none ∧ x.1 = f ∧ isD (ltr t x) = true)) : ¬ ok (ltr t x) = true := fun q => by
  rcases h with h | ⟨-, -, h⟩
  · rw [ltr_some h] at q
    have := (bnO_ne (hok _ q)).2.2.2.2.1
    omega
  · have := (bnO_ne (hok _ q)).2.2.2.2.2.1
    rw [h] at this
    cases this
theorem rl_binL {t : List Nat} {ok : Nat → Bool} (hok : ∀ x, ok x = true → bnO x = true) {f g : PS → PS} (h : RlF t f g) : ∀ k x y, Rl t x y → Rl t (binL t ok f k x) (binL t ok g k y)
  | 0, _, _, r => r
  | k + 1, x, y, r => by
    rcases r with ⟨rfl, h2⟩ | ⟨z, h1, h2⟩
    · by_cases e : ok (ltr t x) = true
      · rw [binL_t e, binL_t e]
        exact rl_binL hok h k _ _ (rl_emt (h (adv x) h2) _ _)
      · rw [binL_f e, binL_f e]
        exact Or.inl ⟨rfl, h2⟩
    · rw [binL_f (stuck hok h2), binL_some hok h1]
      exact Or.inr ⟨z, h1, h2⟩
theorem rl_binF {t : List Nat} {ok : Nat → Bool} (hok : ∀ x, ok x = true → bnO x = true) {f g : PS → PS} (h : RlF t f g) : RlF t (binF t ok f) (binF t ok g) := fun s hs => rl_binL hok h 120 _ _ (h s hs)
theorem rl_cmpF {t : List Nat} {f g : PS → PS} (h : RlF t f g) : RlF t (cmpF t f) (cmpF t g) := fun s hs => by
  have r := h s hs
  unfold cmpF
  revert r
  generalize f s = x
  generalize g s = y
  intro r
  rcases r with ⟨rfl, h2⟩ | ⟨z, h1, h2⟩
  · by_cases e : okC (ltr t x) = true
    · rw [if_pos e, if_pos e]
      exact rl_emt (h (adv x) h2) _ _
    · rw [if_neg e, if_neg e]
      exact Or.inl ⟨rfl, h2⟩
  · rw [if_neg (stuck okC_bn h2), if_neg (stuck okC_bn (Or.inl h1))]
    exact Or.inr ⟨z, h1, h2⟩
theorem rl_eitF {t : List Nat} {f g : PS → PS} (h : RlF t f g) : RlF t (eitF t f) (eitF t g) := rl_binF okO_bn (rl_binF okA_bn (rl_cmpF (rl_binF okS_bn (rl_binF okP_bn h))))
theorem rl_parF {t : List Nat} {f g : PS → PS} (h : RlF t f g) : RlF t (parF t f) (parF t g) := fun s hs => by
  have r := h (adv s) hs
  unfold parF
  revert r
  generalize f (adv s) = x
  generalize g (adv s) = y
  intro r
  rcases r with ⟨rfl, h2⟩ | ⟨z, h1, h2⟩
  · by_cases e : ltr t x = 41
    · rw [if_pos e]
      exact Or.inl ⟨rfl, h2⟩
    · rw [if_neg e]
      obtain ⟨a, fl, c⟩ := x
      cases h2
      exact Or.inr ⟨a, rfl, Or.inl rfl⟩
  · have e1 : ¬ ltr t y = 41 := by rw [ltr_some h1]; decide
    rw [if_neg e1]
    obtain ⟨a, fl, c⟩ := x
    obtain ⟨a2, fl2, c2⟩ := y
    cases h1
    rcases h2 with h2 | ⟨h2, h3, h4⟩
    · cases h2
      rw [if_neg (by rw [ltr_some rfl]; decide)]
      exact Or.inr ⟨z, rfl, Or.inl rfl⟩
    · cases h2
      cases h3
      have h5 := of_decide_eq_true h4
      rw [if_neg (by omega)]
      exact Or.inr ⟨_, rfl, Or.inl rfl⟩
theorem rl_op {t : List Nat} : ∀ d, RlF t (opF t (numC t) rfs d) (opF t (numM t) badM d) := by
  have hn : ∀ s : PS, s.2.1 = none → isD (ltr t s) = true → Rl t (numC t s) (numM t s) := by
    intro s hs e
    have hd := of_decide_eq_true e
    have hi := ltr_in (t := t) (s := s) (by omega)
    have k := numL_ok (t := t) 4 0 s hs (by omega)
    unfold numC numM
    revert k
    generalize numL t 4 0 s = r
    intro k
    obtain ⟨⟨a, fl, c⟩, v⟩ := r
    have k1 : (fl, c) = s.2 := k.1
    have kf : fl = none := by rw [← hs, ← k1]
    subst kf
    by_cases q : isD (ltr t (a, none, c)) = true
    · show Rl t _ (emt (if isD (ltr t (a, none, c)) = true then _ else _) 48 v)
      rw [if_pos q]
      exact Or.inr ⟨a, rfl, Or.inr ⟨rfl, rfl, q⟩⟩
    · show Rl t _ (emt (if isD (ltr t (a, none, c)) = true then _ else _) 48 v)
      rw [if_neg q]
      exact Or.inl ⟨rfl, rfl⟩
  have hr : ∀ s : PS, s.2.1 = none → Rl t (rfs s) (rfs s) := by
    intro s hs
    obtain ⟨a, fl, c⟩ := s
    cases hs
    exact Or.inr ⟨a, rfl, Or.inl rfl⟩
  have hb : ∀ s : PS, s.2.1 = none → Rl t (rfs s) (badM s) := by
    intro s hs
    obtain ⟨a, fl, c⟩ := s
    cases hs
    exact Or.inr ⟨a, rfl, Or.inl rfl⟩
  intro d
  induction d with
  | zero =>
    intro s hs
    by_cases e1 : isD (ltr t s) = true
    · rw [opF_D e1, opF_D e1]; exact hn s hs e1
    · by_cases e2 : nmF (ltr t s) < 5
      · rw [opF_N e1 e2, opF_N e1 e2]; exact Or.inl ⟨rfl, hs⟩
      · by_cases e3 : ltr t s = 40
        · rw [opF_P0 e1 e2 e3, opF_P0 e1 e2 e3]; exact hr s hs
        · by_cases e4 : okU (ltr t s) = true
          · rw [opF_U0 e1 e2 e3 e4, opF_U0 e1 e2 e3 e4]; exact hr s hs
          · rw [opF_B e1 e2 e3 e4, opF_B e1 e2 e3 e4]; exact hb s hs
  | succ d ih =>
    intro s hs
    by_cases e1 : isD (ltr t s) = true
    · rw [opF_D e1, opF_D e1]; exact hn s hs e1
    · by_cases e2 : nmF (ltr t s) < 5
      · rw [opF_N e1 e2, opF_N e1 e2]; exact Or.inl ⟨rfl, hs⟩
      · by_cases e3 : ltr t s = 40
        · rw [opF_P e1 e2 e3, opF_P e1 e2 e3]; exact rl_parF (rl_eitF ih) s hs
        · by_cases e4 : okU (ltr t s) = true
          · rw [opF_U e1 e2 e3 e4, opF_U e1 e2 e3 e4]
            unfold unaF
            exact rl_emt (ih (adv s) hs) _ _
          · rw [opF_B e1 e2 e3 e4, opF_B e1 e2 e3 e4]; exact hb s hs
theorem rl_ex (t : List Nat) : RlF t (exC t) (exM t) := rl_eitF (rl_op 6)
def RlX (t : List Nat) (X Y : LXS) : Prop := (X = Y ∧ X.1.2 = none) ∨ ∃ f, Y.1.2 = some f ∧ (X.1.2 = some f ∨ (X.1.2 = none ∧ X.1.1 = f ∧ isD (ltr t (X.1.1, X.1.2, [])) = true))
theorem stuck1 {t : List Nat} {n : Nat} (hn : isD n = false) (hn2 : n ≠ 300) {x : PS} {f : Nat} (h : x.2.1 = some f ∨ (x.2.1 = none ∧ x.1 = f ∧ isD (ltr t x) = true)) : ¬ ltr t x = n := fun q => by
  rcases h with h | ⟨-, -, h⟩
  · rw [ltr_some h] at q
    exact hn2 q.symm
  · rw [q, hn] at h
    cases h
theorem linX_rl {t : List Nat} {a : Nat} {ls : List (CD × CD)} : RlX t (linX t (exC t) ((a, none), ls)) (linX t (exM t) ((a, none), ls)) := by
  have r := rl_ex t (a, none, []) rfl
  unfold linX
  show RlX t (if ltr t (exC t (a, none, [])) = 63 then (((exC t ((exC t (a, none, [])).1 + 1, (exC t (a, none, [])).2.1, [])).1, (exC t ((exC t (a, none, [])).1 + 1, (exC t (a, none, [])).2.1, [])).2.1), ls ++ [((exC t (a, none, [])).2.2, (exC t ((exC t (a, none, [])).1 + 1, (exC t (a, none, [])).2.1, [])).2.2)]) else (((exC t (a, none, [])).1, (exC t (a, none, [])).2.1), ls ++ [([], (exC t (a, none, [])).2.2)])) (if ltr t (exM t (a, none, [])) = 63 then (((exM t ((exM t (a, none, [])).1 + 1, (exM t (a, none, [])).2.1, [])).1, (exM t ((exM t (a, none, [])).1 + 1, (exM t (a, none, [])).2.1, [])).2.1), ls ++ [((exM t (a, none, [])).2.2, (exM t ((exM t (a, none, [])).1 + 1, (exM t (a, none, [])).2.1, [])).2.2)]) else (((exM t (a, none, [])).1, (exM t (a, none, [])).2.1), ls ++ [([], (exM t (a, none, [])).2.2)]))
  revert r
  generalize exC t (a, none, []) = x
  generalize exM t (a, none, []) = y
  intro r
  rcases r with ⟨rfl, h2⟩ | ⟨f, h1, h2⟩
  · by_cases e : ltr t x = 63
    · rw [if_pos e, if_pos e, h2]
      have q := rl_ex t (x.1 + 1, none, []) rfl
      revert q
      generalize exC t (x.1 + 1, none, []) = w
      generalize exM t (x.1 + 1, none, []) = z
      intro q
      rcases q with ⟨rfl, h3⟩ | ⟨f, h3, h4⟩
      · exact Or.inl ⟨rfl, h3⟩
      · exact Or.inr ⟨f, h3, h4⟩
    · rw [if_neg e, if_neg e]
      exact Or.inl ⟨rfl, h2⟩
  · rw [if_neg (stuck1 (by decide) (by decide) h2), if_neg (stuck1 (by decide) (by decide) (Or.inl h1))]
    exact Or.inr ⟨f, h1, h2⟩
theorem linXL_rl {t : List Nat} : ∀ k X Y, RlX t X Y → RlX t (linXL t (exC t) k X) (linXL t (exM t) k Y)
  | 0, _, _, r => r
  | k + 1, X, Y, r => by
    rcases r with ⟨rfl, h2⟩ | ⟨f, h1, h2⟩
    · by_cases e : ltr t (X.1.1, X.1.2, []) = 59
      · rw [linXL_t e, linXL_t e, h2]
        exact linXL_rl k _ _ linX_rl
      · rw [linXL_f e, linXL_f e]
        exact Or.inl ⟨rfl, h2⟩
    · rw [linXL_f (stuck1 (x := (X.1.1, X.1.2, [])) (by decide) (by decide) h2), linXL_f (stuck1 (x := (Y.1.1, Y.1.2, [])) (by decide) (by decide) (Or.inl h1))]
      exact Or.inr ⟨f, h1, h2⟩
/-- the other program's reading comes to the same fault, and to the same lines where there is none -/
theorem ftM (t : List Nat) : endX t (txtX t (exM t)) = ftT t ∧ (ftT t = none → txtX t (exM t) = txtX t (exC t)) := by
  have r : RlX t (txtX t (exC t)) (txtX t (exM t)) := linXL_rl 120 _ _ linX_rl
  unfold ftT
  revert r
  generalize txtX t (exC t) = X
  generalize txtX t (exM t) = Y
  intro r
  rcases r with ⟨rfl, h2⟩ | ⟨f, h1, h2⟩
  · exact ⟨rfl, fun _ => rfl⟩
  · obtain ⟨⟨a, fl⟩, ls⟩ := X
    obtain ⟨⟨a2, fl2⟩, ls2⟩ := Y
    cases h1
    rcases h2 with h2 | ⟨h2, h3, h4⟩
    · cases h2
      exact ⟨rfl, fun q => by cases q⟩
    · cases h2
      cases h3
      have h5 := of_decide_eq_true h4
      have hi := ltr_in (t := t) (s := (a, none, [])) (by
        have h6 : ltr t (a, none, []) ≤ 57 := h5.2
        omega)
      have e : (if a < t.length then some a else none) = some a := if_pos hi.2.1
      refine ⟨e.symm, fun q => ?_⟩
      have q' : (if a < t.length then some a else none) = none := q
      rw [e] at q'
      cases q'
