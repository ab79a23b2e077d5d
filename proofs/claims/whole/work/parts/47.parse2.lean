/-! the law's text: what reading it emits is good -/
def pre (c0 : List (Nat × Nat)) (s : PS) : PS := (s.1, s.2.1, c0 ++ s.2.2)
def Hg (f : PS → PS) : Prop := ∀ c0 s, f (pre c0 s) = pre c0 (f s)
theorem pre_adv (c0 : List (Nat × Nat)) (s : PS) : adv (pre c0 s) = pre c0 (adv s) := rfl
theorem pre_emt (c0 : List (Nat × Nat)) (s : PS) (a b : Nat) : emt (pre c0 s) a b = pre c0 (emt s a b) := by
  show (s.1, s.2.1, (c0 ++ s.2.2) ++ [(a, b)]) = (s.1, s.2.1, c0 ++ (s.2.2 ++ [(a, b)]))
  rw [List.append_assoc]
theorem pre_rfs (c0 : List (Nat × Nat)) (s : PS) : rfs (pre c0 s) = pre c0 (rfs s) := by
  obtain ⟨a, f, c⟩ := s
  cases f <;> rfl
theorem pre_nil (a : Nat) (f : Option Nat) (c : List (Nat × Nat)) : (a, f, c) = pre c (a, f, []) := by
  show (a, f, c) = (a, f, c ++ [])
  rw [List.append_nil]
theorem hg_binL {t : List Nat} {ok : Nat → Bool} {sub : PS → PS} (h : Hg sub) : ∀ k, Hg (binL t ok sub k)
  | 0 => fun _ _ => rfl
  | k + 1 => fun c0 s => by
    by_cases e : ok (ltr t s) = true
    · rw [binL_t (show ok (ltr t (pre c0 s)) = true from e), binL_t e, pre_adv, h, show ltr t (pre c0 s) = ltr t s from rfl, pre_emt, hg_binL h k]
    · rw [binL_f (show ¬ ok (ltr t (pre c0 s)) = true from e), binL_f e]
theorem hg_binF {t : List Nat} {ok : Nat → Bool} {sub : PS → PS} (h : Hg sub) : Hg (binF t ok sub) := fun c0 s => by
  unfold binF
  rw [h, hg_binL h]
theorem hg_cmpF {t : List Nat} {sub : PS → PS} (h : Hg sub) : Hg (cmpF t sub) := fun c0 s => by
  unfold cmpF
  rw [h, show ltr t (pre c0 (sub s)) = ltr t (sub s) from rfl]
  split
  · rw [pre_adv, h, pre_emt]
  · rfl
theorem hg_parF {t : List Nat} {sub : PS → PS} (h : Hg sub) : Hg (parF t sub) := fun c0 s => by
  unfold parF
  rw [pre_adv, h, show ltr t (pre c0 (sub (adv s))) = ltr t (sub (adv s)) from rfl]
  split
  · rfl
  · exact pre_rfs _ _
theorem hg_unaF {t : List Nat} {sub : PS → PS} (h : Hg sub) : Hg (unaF t sub) := fun c0 s => by
  unfold unaF
  rw [pre_adv, h, show ltr t (pre c0 s) = ltr t s from rfl, pre_emt]
theorem hg_numL {t : List Nat} : ∀ k v c0 s, numL t k v (pre c0 s) = (pre c0 (numL t k v s).1, (numL t k v s).2)
  | 0, _, _, _ => rfl
  | k + 1, v, c0, s => by
    by_cases e : isD (ltr t s) = true
    · rw [numL_t (show isD (ltr t (pre c0 s)) = true from e), numL_t e, pre_adv, show ltr t (pre c0 s) = ltr t s from rfl, hg_numL k]
    · rw [numL_f (show ¬ isD (ltr t (pre c0 s)) = true from e), numL_f e]
theorem hg_numC (t : List Nat) : Hg (numC t) := fun c0 s => by
  unfold numC
  rw [hg_numL]
  exact pre_emt _ _ _ _
/-- the other program's: a number of five figures is a fault at once, and a fault emits -/
def numM (t : List Nat) (s : PS) : PS := emt (if isD (ltr t (numL t 4 0 s).1) = true then rfs (numL t 4 0 s).1 else (numL t 4 0 s).1) 48 (numL t 4 0 s).2
def badM (s : PS) : PS := emt (rfs s) 48 0
theorem hg_numM (t : List Nat) : Hg (numM t) := fun c0 s => by
  unfold numM
  rw [hg_numL]
  show emt (if isD (ltr t (pre c0 (numL t 4 0 s).1)) = true then rfs (pre c0 (numL t 4 0 s).1) else pre c0 (numL t 4 0 s).1) 48 (numL t 4 0 s).2 = _
  rw [show ltr t (pre c0 (numL t 4 0 s).1) = ltr t (numL t 4 0 s).1 from rfl, pre_rfs]
  split
  · exact pre_emt _ _ _ _
  · exact pre_emt _ _ _ _
theorem hg_badM : Hg badM := fun c0 s => by
  unfold badM
  rw [pre_rfs, pre_emt]
theorem hg_rfs : Hg rfs := pre_rfs
section OPF
variable {t : List Nat} {num bad : PS → PS} {s : PS}
theorem opF_D (h : isD (ltr t s) = true) : ∀ d, opF t num bad d s = num s
  | 0 => by rw [opF, if_pos h]
  | d + 1 => by rw [opF, if_pos h]
theorem opF_N (h : ¬ isD (ltr t s) = true) (h2 : nmF (ltr t s) < 5) : ∀ d, opF t num bad d s = emt (adv s) 110 (nmF (ltr t s))
  | 0 => by rw [opF, if_neg h, if_pos h2]
  | d + 1 => by rw [opF, if_neg h, if_pos h2]
theorem opF_P0 (h : ¬ isD (ltr t s) = true) (h2 : ¬ nmF (ltr t s) < 5) (h3 : ltr t s = 40) : opF t num bad 0 s = rfs s := by rw [opF, if_neg h, if_neg h2, if_pos h3]
theorem opF_P (h : ¬ isD (ltr t s) = true) (h2 : ¬ nmF (ltr t s) < 5) (h3 : ltr t s = 40) {d : Nat} : opF t num bad (d + 1) s = parF t (eitF t (opF t num bad d)) s := by rw [opF, if_neg h, if_neg h2, if_pos h3]
theorem opF_U0 (h : ¬ isD (ltr t s) = true) (h2 : ¬ nmF (ltr t s) < 5) (h3 : ¬ ltr t s = 40) (h4 : okU (ltr t s) = true) : opF t num bad 0 s = rfs s := by rw [opF, if_neg h, if_neg h2, if_neg h3, if_pos h4]
theorem opF_U (h : ¬ isD (ltr t s) = true) (h2 : ¬ nmF (ltr t s) < 5) (h3 : ¬ ltr t s = 40) (h4 : okU (ltr t s) = true) {d : Nat} : opF t num bad (d + 1) s = unaF t (opF t num bad d) s := by rw [opF, if_neg h, if_neg h2, if_neg h3, if_pos h4]
theorem opF_B (h : ¬ isD (ltr t s) = true) (h2 : ¬ nmF (ltr t s) < 5) (h3 : ¬ ltr t s = 40) (h4 : ¬ okU (ltr t s) = true) : ∀ d, opF t num bad d s = bad s
  | 0 => by rw [opF, if_neg h, if_neg h2, if_neg h3, if_neg h4]
  | d + 1 => by rw [opF, if_neg h, if_neg h2, if_neg h3, if_neg h4]
end OPF
theorem hg_eitF {t : List Nat} {op : PS → PS} (h : Hg op) : Hg (eitF t op) := hg_binF (hg_binF (hg_cmpF (hg_binF (hg_binF h))))
theorem hg_opF {t : List Nat} {num bad : PS → PS} (hn : Hg num) (hb : Hg bad) : ∀ d, Hg (opF t num bad d) := by
  intro d
  induction d with
  | zero =>
    intro c0 s
    by_cases a : isD (ltr t s) = true
    · rw [opF_D (s := pre c0 s) a, opF_D a, hn]
    · by_cases b : nmF (ltr t s) < 5
      · rw [opF_N (s := pre c0 s) a b, opF_N a b, pre_adv, pre_emt]
        rfl
      · by_cases c : ltr t s = 40
        · rw [opF_P0 (s := pre c0 s) a b c, opF_P0 a b c, pre_rfs]
        · by_cases e : okU (ltr t s) = true
          · rw [opF_U0 (s := pre c0 s) a b c e, opF_U0 a b c e, pre_rfs]
          · rw [opF_B (s := pre c0 s) a b c e, opF_B a b c e, hb]
  | succ d ih =>
    intro c0 s
    by_cases a : isD (ltr t s) = true
    · rw [opF_D (s := pre c0 s) a, opF_D a, hn]
    · by_cases b : nmF (ltr t s) < 5
      · rw [opF_N (s := pre c0 s) a b, opF_N a b, pre_adv, pre_emt]
        rfl
      · by_cases c : ltr t s = 40
        · rw [opF_P (s := pre c0 s) a b c, opF_P a b c, hg_parF (hg_eitF ih)]
        · by_cases e : okU (ltr t s) = true
          · rw [opF_U (s := pre c0 s) a b c e, opF_U a b c e, hg_unaF ih]
          · rw [opF_B (s := pre c0 s) a b c e, opF_B a b c e, hb]
/-! code worked out on a stack -/
abbrev CD : Type := List (Nat × Nat)
def bnO (a : Nat) : Bool := decide (a = 124 ∨ a = 38 ∨ a = 60 ∨ a = 61 ∨ a = 62 ∨ a = 43 ∨ a = 45 ∨ a = 42 ∨ a = 47 ∨ a = 37)
def ex1 (nm : Nat → Int32) (a b : Nat) (st : List Int32) : Option (List Int32) :=
  if a = 48 then some (nI b :: st)
  else if a = 110 then (if b < 5 then some (nm b :: st) else none)
  else if a = 33 then (match st with | x :: q => some ((if x = 0 then 1 else 0) :: q) | [] => none)
  else if a = 126 then (match st with | x :: q => some (-x :: q) | [] => none)
  else if bnO a = true then (match st with | y :: x :: q => some (togF (nI a) x y :: q) | _ => none)
  else none
def exO (nm : Nat → Int32) : CD → List Int32 → Option (List Int32)
  | [], st => some st
  | q :: r, st => match ex1 nm q.1 q.2 st with | some st' => exO nm r st' | none => none
theorem exO_cons {nm : Nat → Int32} {a b : Nat} {r : CD} {st st' : List Int32} (h : ex1 nm a b st = some st') : exO nm ((a, b) :: r) st = exO nm r st' := by
  show (match ex1 nm a b st with | some st' => exO nm r st' | none => none) = _
  rw [h]
theorem exO_app {nm : Nat → Int32} : ∀ (c d : CD) (st st' : List Int32), exO nm c st = some st' → exO nm (c ++ d) st = exO nm d st'
  | [], d, st, st', h => by cases h; rfl
  | q :: r, d, st, st', h => by
    have h' : (match ex1 nm q.1 q.2 st with | some st' => exO nm r st' | none => none) = some st' := h
    show (match ex1 nm q.1 q.2 st with | some st' => exO nm (r ++ d) st' | none => none) = _
    cases e : ex1 nm q.1 q.2 st with
    | none => rw [e] at h'; cases h'
    | some z =>
      rw [e] at h'
      exact exO_app r d z st' h'
def GC (c : CD) : Prop := ∀ nm : Nat → Int32, ∃ v : Int32, ∀ st, exO nm c st = some (v :: st)
theorem gc_num (b : Nat) : GC [(48, b)] := fun nm => ⟨nI b, fun st => exO_cons (r := []) (if_pos rfl)⟩
theorem gc_name {b : Nat} (h : b < 5) : GC [(110, b)] := fun nm => ⟨nm b, fun st => exO_cons (r := []) ((if_neg (by decide)).trans ((if_pos rfl).trans (if_pos h)))⟩
theorem gc_un {c : CD} (h : GC c) {a : Nat} (ha : a = 33 ∨ a = 126) : GC (c ++ [(a, 0)]) := fun nm => by
  obtain ⟨v, hv⟩ := h nm
  rcases ha with rfl | rfl
  · exact ⟨if v = 0 then 1 else 0, fun st => by rw [exO_app c _ st _ (hv st)]; rfl⟩
  · exact ⟨-v, fun st => by rw [exO_app c _ st _ (hv st)]; rfl⟩
theorem bnO_ne {a : Nat} (h : bnO a = true) : a ≠ 48 ∧ a ≠ 110 ∧ a ≠ 33 ∧ a ≠ 126 ∧ a < 256 ∧ isD a = false ∧ a ≠ 41 ∧ a ≠ 63 ∧ a ≠ 59 := by
  have h2 := of_decide_eq_true h
  refine ⟨by omega, by omega, by omega, by omega, by omega, ?_, by omega, by omega, by omega⟩
  exact decide_eq_false (by omega)
theorem ex1_bin {nm : Nat → Int32} {a b : Nat} (h : bnO a = true) {x y : Int32} {q : List Int32} : ex1 nm a b (y :: x :: q) = some (togF (nI a) x y :: q) := by
  obtain ⟨h1, h2, h3, h4, -⟩ := bnO_ne h
  exact (if_neg h1).trans ((if_neg h2).trans ((if_neg h3).trans ((if_neg h4).trans (if_pos h))))
theorem gc_bin {c d : CD} (hc : GC c) (hd : GC d) {a : Nat} (ha : bnO a = true) : GC (c ++ d ++ [(a, 0)]) := fun nm => by
  obtain ⟨v, hv⟩ := hc nm
  obtain ⟨w, hw⟩ := hd nm
  refine ⟨togF (nI a) v w, fun st => ?_⟩
  rw [List.append_assoc, exO_app c _ st _ (hv st), exO_app d _ _ _ (hw (v :: st))]
  exact exO_cons (r := []) (ex1_bin ha)
theorem gc_ne {c : CD} (h : GC c) : c.length ≠ 0 := fun q => by
  obtain ⟨v, hv⟩ := h (fun _ => 0)
  rw [List.length_eq_zero_iff.mp q] at hv
  have := hv []
  cases this
/-! what a reading leaves behind -/
def OkP (t : List Nat) (a : Nat) (r : PS) : Prop := r.1 ≤ t.length ∧ a ≤ r.1 ∧ (∀ x, r.2.1 = some x → x ≤ t.length ∧ r.2.2.length ≤ r.1 - a + 1) ∧ (r.2.1 = none → a < r.1 ∧ GC r.2.2 ∧ r.2.2.length ≤ r.1 - a)
def Wf (t : List Nat) (f : PS → PS) : Prop := Hg f ∧ (∀ (a x : Nat) (c : CD), (f (a, some x, c)).1 = a ∧ (f (a, some x, c)).2.1 = some x) ∧ ∀ a, a ≤ t.length → OkP t a (f (a, none, []))
theorem ltr_some {t : List Nat} {s : PS} {x : Nat} (h : s.2.1 = some x) : ltr t s = 300 := by
  unfold ltr
  rw [h]
theorem binL_some {t : List Nat} {ok : Nat → Bool} (hok : ∀ x, ok x = true → bnO x = true) {sub : PS → PS} {s : PS} {x : Nat} (h : s.2.1 = some x) : ∀ k, binL t ok sub k s = s
  | 0 => rfl
  | k + 1 => binL_f (fun q => by
    rw [ltr_some h] at q
    have := (bnO_ne (hok _ q)).2.2.2.2.1
    omega)
theorem okp_fl {t : List Nat} {a : Nat} {r : PS} (h : OkP t a r) (hf : r.2.1 ≠ none) : r.2.2.length ≤ r.1 - a + 1 := by
  cases e : r.2.1 with
  | none => exact absurd e hf
  | some x => exact (h.2.2.1 x e).2
/-- a further operand behind a sign -/
theorem okp_bin {t : List Nat} {sub : PS → PS} (hs : Wf t sub) {a b : Nat} (hb : bnO b = true) {s : PS} (h : OkP t a s) (hf : s.2.1 = none) (hl : s.1 < t.length) : OkP t a (emt (sub (adv s)) b 0) := by
  obtain ⟨a0, f0, c0⟩ := s
  cases hf
  have e : sub (adv (a0, none, c0)) = pre c0 (sub (a0 + 1, none, [])) := by
    rw [← hs.1, ← pre_nil]
    rfl
  rw [e]
  have hl' : a0 < t.length := hl
  have k := hs.2.2 (a0 + 1) hl'
  obtain ⟨h1, h2, h3, h4⟩ := h
  obtain ⟨g1, g2, g3⟩ := h4 rfl
  have g1' : a < a0 := g1
  have g3' : c0.length ≤ a0 - a := g3
  revert k
  generalize sub (a0 + 1, none, []) = r
  intro k
  obtain ⟨k1, k2, k3, k4⟩ := k
  have hlen : (emt (pre c0 r) b 0).2.2.length = c0.length + r.2.2.length + 1 := by
    show ((c0 ++ r.2.2) ++ [(b, 0)]).length = _
    rw [List.length_append, List.length_append]
    rfl
  refine ⟨k1, ?_, fun x hx => ?_, fun hx => ?_⟩
  · show a ≤ r.1
    omega
  · have k5 := k3 x hx
    refine ⟨k5.1, ?_⟩
    rw [hlen]
    show _ ≤ r.1 - a + 1
    omega
  · have k5 := k4 hx
    refine ⟨?_, gc_bin g2 k5.2.1 hb, ?_⟩
    · show a < r.1
      omega
    · rw [hlen]
      show _ ≤ r.1 - a
      omega
theorem okp_binL {t : List Nat} {ok : Nat → Bool} (hok : ∀ x, ok x = true → bnO x = true) {sub : PS → PS} (hs : Wf t sub) {a : Nat} : ∀ k s, OkP t a s → OkP t a (binL t ok sub k s)
  | 0, _, h => h
  | k + 1, s, h => by
    by_cases e : ok (ltr t s) = true
    · rw [binL_t e]
      have hb := hok _ e
      have hi := ltr_in (bnO_ne hb).2.2.2.2.1
      exact okp_binL hok hs k _ (okp_bin hs hb h hi.1 hi.2.1)
    · rw [binL_f e]
      exact h
theorem wf_binF {t : List Nat} {ok : Nat → Bool} (hok : ∀ x, ok x = true → bnO x = true) {sub : PS → PS} (hs : Wf t sub) : Wf t (binF t ok sub) := by
  refine ⟨hg_binF hs.1, fun a x c => ?_, fun a ha => okp_binL hok hs 120 _ (hs.2.2 a ha)⟩
  have k := hs.2.1 a x c
  unfold binF
  rw [binL_some hok k.2]
  exact k
theorem wf_cmpF {t : List Nat} {sub : PS → PS} (hs : Wf t sub) : Wf t (cmpF t sub) := by
  have hok : ∀ x, okC x = true → bnO x = true := fun x q => by
    have := of_decide_eq_true q
    exact decide_eq_true (by omega)
  refine ⟨hg_cmpF hs.1, fun a x c => ?_, fun a ha => ?_⟩
  · have k := hs.2.1 a x c
    unfold cmpF
    rw [if_neg (fun q => by
      rw [ltr_some k.2] at q
      exact absurd q (by decide))]
    exact k
  · unfold cmpF
    by_cases e : okC (ltr t (sub (a, none, []))) = true
    · rw [if_pos e]
      have hb := hok _ e
      have hi := ltr_in (bnO_ne hb).2.2.2.2.1
      exact okp_bin hs hb (hs.2.2 a ha) hi.1 hi.2.1
    · rw [if_neg e]
      exact hs.2.2 a ha
theorem okA_bn : ∀ x, okA x = true → bnO x = true := fun x q => by
  have := of_decide_eq_true q
  exact decide_eq_true (by omega)
theorem okO_bn : ∀ x, okO x = true → bnO x = true := fun x q => by
  have := of_decide_eq_true q
  exact decide_eq_true (by omega)
theorem okS_bn : ∀ x, okS x = true → bnO x = true := fun x q => by
  have := of_decide_eq_true q
  exact decide_eq_true (by omega)
theorem okP_bn : ∀ x, okP x = true → bnO x = true := fun x q => by
  have := of_decide_eq_true q
  exact decide_eq_true (by omega)
theorem okC_bn : ∀ x, okC x = true → bnO x = true := fun x q => by
  have := of_decide_eq_true q
  exact decide_eq_true (by omega)
theorem wf_eitF {t : List Nat} {op : PS → PS} (h : Wf t op) : Wf t (eitF t op) := wf_binF okO_bn (wf_binF okA_bn (wf_cmpF (wf_binF okS_bn (wf_binF okP_bn h))))
def Hnum (t : List Nat) (num : PS → PS) : Prop := Hg num ∧ ∀ a, a ≤ t.length → isD (ltr t (a, none, [])) = true → OkP t a (num (a, none, []))
def Hbad (t : List Nat) (bad : PS → PS) : Prop := Hg bad ∧ (∀ (a x : Nat) (c : CD), (bad (a, some x, c)).1 = a ∧ (bad (a, some x, c)).2.1 = some x) ∧ ∀ a, a ≤ t.length → OkP t a (bad (a, none, []))
theorem okp_rfs {t : List Nat} {a : Nat} (ha : a ≤ t.length) : OkP t a (rfs (a, none, [])) := ⟨ha, Nat.le_refl _, fun x q => by cases q; exact ⟨ha, Nat.zero_le _⟩, fun q => by cases q⟩
theorem hbad_C (t : List Nat) : Hbad t rfs := ⟨hg_rfs, fun _ _ _ => ⟨rfl, rfl⟩, fun _ ha => okp_rfs ha⟩
theorem hbad_M (t : List Nat) : Hbad t badM := ⟨hg_badM, fun _ _ _ => ⟨rfl, rfl⟩, fun a ha => ⟨ha, Nat.le_refl _, fun x q => by cases q; exact ⟨ha, by show 1 ≤ a - a + 1; omega⟩, fun q => by cases q⟩⟩
theorem numL_ok {t : List Nat} : ∀ k v s, s.2.1 = none → s.1 ≤ t.length → (numL t k v s).1.2 = s.2 ∧ s.1 ≤ (numL t k v s).1.1 ∧ (numL t k v s).1.1 ≤ t.length
  | 0, _, _, _, h => ⟨rfl, Nat.le_refl _, h⟩
  | k + 1, v, s, hf, h => by
    by_cases e : isD (ltr t s) = true
    · have h2 := of_decide_eq_true e
      have hi := ltr_in (t := t) (s := s) (by omega)
      rw [numL_t e]
      have k2 := numL_ok k (v * 10 + ltr t s - 48) (adv s) hf hi.2.1
      have e2 : (adv s).1 = s.1 + 1 := rfl
      rw [e2] at k2
      exact ⟨k2.1, by omega, k2.2.2⟩
    · rw [numL_f e]
      exact ⟨rfl, Nat.le_refl _, h⟩
theorem numL_d {t : List Nat} {v k a : Nat} (e : isD (ltr t (a, none, [])) = true) : (numL t (k + 1) v (a, none, [])).1.2 = (none, []) ∧ a < (numL t (k + 1) v (a, none, [])).1.1 ∧ (numL t (k + 1) v (a, none, [])).1.1 ≤ t.length := by
  have h2 := of_decide_eq_true e
  have hi := ltr_in (t := t) (s := (a, none, [])) (by omega)
  rw [numL_t e]
  exact numL_ok k _ (adv (a, none, [])) rfl hi.2.1
theorem hnum_C (t : List Nat) : Hnum t (numC t) := by
  refine ⟨hg_numC t, fun a ha e => ?_⟩
  obtain ⟨k1, k2, k3⟩ := numL_d (k := 3) (v := 0) e
  unfold numC
  revert k1 k2 k3
  generalize numL t 4 0 (a, none, []) = r
  intro k1 k2 k3
  have e1 : r.1.2.1 = none := by rw [k1]
  have e2 : r.1.2.2 = [] := by rw [k1]
  refine ⟨k3, Nat.le_of_lt k2, fun x q => ?_, fun _ => ⟨k2, ?_, ?_⟩⟩
  · exact absurd (e1.symm.trans q) (fun z => by cases z)
  · show GC (r.1.2.2 ++ [(48, r.2)])
    rw [e2]
    exact gc_num _
  · show (r.1.2.2 ++ [(48, r.2)]).length ≤ r.1.1 - a
    rw [e2]
    show 1 ≤ _
    omega
theorem hnum_M (t : List Nat) : Hnum t (numM t) := by
  refine ⟨hg_numM t, fun a ha e => ?_⟩
  obtain ⟨k1, k2, k3⟩ := numL_d (k := 3) (v := 0) e
  unfold numM
  revert k1 k2 k3
  generalize numL t 4 0 (a, none, []) = r
  intro k1 k2 k3
  obtain ⟨⟨a1, f1, c1⟩, v1⟩ := r
  cases k1
  by_cases q : isD (ltr t (a1, none, [])) = true
  · show OkP t a (emt (if isD (ltr t (a1, none, [])) = true then _ else _) 48 v1)
    rw [if_pos q]
    have k2' : a < a1 := k2
    exact ⟨k3, Nat.le_of_lt k2, fun x z => by cases z; exact ⟨k3, by show 1 ≤ a1 - a + 1; omega⟩, fun z => by cases z⟩
  · show OkP t a (emt (if isD (ltr t (a1, none, [])) = true then _ else _) 48 v1)
    rw [if_neg q]
    have k2' : a < a1 := k2
    exact ⟨k3, Nat.le_of_lt k2, fun x z => (by cases z), fun _ => ⟨k2, gc_num _, by show 1 ≤ a1 - a; omega⟩⟩
theorem okp_par {t : List Nat} {sub : PS → PS} (hs : Wf t sub) {a : Nat} (hl : a < t.length) : OkP t a (parF t sub (a, none, [])) := by
  have k := hs.2.2 (a + 1) hl
  unfold parF
  show OkP t a (if ltr t (sub (a + 1, none, [])) = 41 then adv (sub (a + 1, none, [])) else rfs (sub (a + 1, none, [])))
  revert k
  generalize sub (a + 1, none, []) = r
  intro k
  obtain ⟨k1, k2, k3, k4⟩ := k
  by_cases e : ltr t r = 41
  · rw [if_pos e]
    have hi := ltr_in (t := t) (s := r) (by omega)
    obtain ⟨g1, g2, g3⟩ := k4 hi.1
    refine ⟨hi.2.1, ?_, fun x q => ?_, fun _ => ⟨?_, g2, ?_⟩⟩
    · show a ≤ r.1 + 1
      omega
    · exact absurd (hi.1.symm.trans q) (fun z => by cases z)
    · show a < r.1 + 1
      omega
    · show r.2.2.length ≤ r.1 + 1 - a
      omega
  · rw [if_neg e]
    obtain ⟨r1, f, c⟩ := r
    cases f with
    | none =>
      obtain ⟨g1, g2, g3⟩ := k4 rfl
      have k1' : r1 ≤ t.length := k1
      have k2' : a + 1 ≤ r1 := k2
      have g3' : c.length ≤ r1 - (a + 1) := g3
      refine ⟨k1, ?_, fun x q => ?_, fun q => by cases q⟩
      · show a ≤ r1
        omega
      · cases q
        refine ⟨k1, ?_⟩
        show c.length ≤ r1 - a + 1
        omega
    | some x0 =>
      have k2' : a + 1 ≤ r1 := k2
      refine ⟨k1, ?_, fun x q => ?_, fun q => by cases q⟩
      · show a ≤ r1
        omega
      · obtain ⟨g1, g2⟩ := k3 x q
        have g2' : c.length ≤ r1 - (a + 1) + 1 := g2
        refine ⟨g1, ?_⟩
        show c.length ≤ r1 - a + 1
        omega
theorem okp_una {t : List Nat} {sub : PS → PS} (hs : Wf t sub) {a : Nat} (hl : a < t.length) : OkP t a (unaF t sub (a, none, [])) := by
  have k := hs.2.2 (a + 1) hl
  unfold unaF
  show OkP t a (emt (sub (a + 1, none, [])) (if ltr t (a, none, []) = 33 then 33 else 126) 0)
  have hz : (if ltr t (a, none, []) = 33 then 33 else 126) = 33 ∨ (if ltr t (a, none, []) = 33 then 33 else 126) = 126 := by
    split
    · exact Or.inl rfl
    · exact Or.inr rfl
  revert k hz
  generalize (if ltr t (a, none, []) = 33 then 33 else 126) = z
  generalize sub (a + 1, none, []) = r
  intro k hz
  obtain ⟨k1, k2, k3, k4⟩ := k
  have hlen : (emt r z 0).2.2.length = r.2.2.length + 1 := by
    show (r.2.2 ++ [(z, 0)]).length = _
    rw [List.length_append]
    rfl
  refine ⟨k1, ?_, fun x q => ?_, fun q => ?_⟩
  · show a ≤ r.1
    omega
  · obtain ⟨g1, g2⟩ := k3 x q
    refine ⟨g1, ?_⟩
    rw [hlen]
    show _ ≤ r.1 - a + 1
    omega
  · obtain ⟨g1, g2, g3⟩ := k4 q
    refine ⟨?_, gc_un g2 hz, ?_⟩
    · show a < r.1
      omega
    · rw [hlen]
      show _ ≤ r.1 - a
      omega
theorem wf_opF {t : List Nat} {num bad : PS → PS} (hn : Hnum t num) (hb : Hbad t bad) : ∀ d, Wf t (opF t num bad d) := by
  have hp : ∀ (d a x : Nat) (c : CD), (opF t num bad d (a, some x, c)).1 = a ∧ (opF t num bad d (a, some x, c)).2.1 = some x := by
    intro d a x c
    have e : ltr t (a, some x, c) = 300 := rfl
    rw [opF_B (by rw [e]; decide) (by rw [e]; decide) (by rw [e]; decide) (by rw [e]; decide)]
    exact hb.2.1 a x c
  have hnm : ∀ a, nmF (ltr t (a, none, [])) < 5 → OkP t a (emt (adv (a, none, [])) 110 (nmF (ltr t (a, none, [])))) := by
    intro a q
    have hi : a < t.length := by
      refine (ltr_in (t := t) (s := (a, none, [])) ?_).2.1
      revert q
      unfold nmF
      generalize ltr t (a, none, []) = c
      intro q
      split at q
      · omega
      · split at q
        · omega
        · split at q
          · omega
          · split at q
            · omega
            · split at q
              · omega
              · exact absurd q (by decide)
    exact ⟨hi, Nat.le_succ _, fun x z => (by cases z), fun _ => ⟨Nat.lt_succ_self _, gc_name q, by show 1 ≤ a + 1 - a; omega⟩⟩
  have hu : ∀ a, okU (ltr t (a, none, [])) = true → a < t.length := fun a q => by
    have := of_decide_eq_true q
    exact (ltr_in (t := t) (s := (a, none, [])) (by omega)).2.1
  intro d
  induction d with
  | zero =>
    refine ⟨hg_opF hn.1 hb.1 0, hp 0, fun a ha => ?_⟩
    by_cases e1 : isD (ltr t (a, none, [])) = true
    · rw [opF_D e1]; exact hn.2 a ha e1
    · by_cases e2 : nmF (ltr t (a, none, [])) < 5
      · rw [opF_N e1 e2]; exact hnm a e2
      · by_cases e3 : ltr t (a, none, []) = 40
        · rw [opF_P0 e1 e2 e3]; exact okp_rfs ha
        · by_cases e4 : okU (ltr t (a, none, [])) = true
          · rw [opF_U0 e1 e2 e3 e4]; exact okp_rfs ha
          · rw [opF_B e1 e2 e3 e4]; exact hb.2.2 a ha
  | succ d ih =>
    refine ⟨hg_opF hn.1 hb.1 _, hp _, fun a ha => ?_⟩
    by_cases e1 : isD (ltr t (a, none, [])) = true
    · rw [opF_D e1]; exact hn.2 a ha e1
    · by_cases e2 : nmF (ltr t (a, none, [])) < 5
      · rw [opF_N e1 e2]; exact hnm a e2
      · by_cases e3 : ltr t (a, none, []) = 40
        · rw [opF_P e1 e2 e3]; exact okp_par (wf_eitF ih) (ltr_in (t := t) (s := (a, none, [])) (by omega)).2.1
        · by_cases e4 : okU (ltr t (a, none, [])) = true
          · rw [opF_U e1 e2 e3 e4]; exact okp_una ih (hu a e4)
          · rw [opF_B e1 e2 e3 e4]; exact hb.2.2 a ha
/-- an expression, as either program reads it -/
def exC (t : List Nat) : PS → PS := eitF t (opF t (numC t) rfs 6)
def exM (t : List Nat) : PS → PS := eitF t (opF t (numM t) badM 6)
theorem wf_exC (t : List Nat) : Wf t (exC t) := wf_eitF (wf_opF (hnum_C t) (hbad_C t) 6)
theorem wf_exM (t : List Nat) : Wf t (exM t) := wf_eitF (wf_opF (hnum_M t) (hbad_M t) 6)
