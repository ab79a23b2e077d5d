/-! the law's text: reading by descent, as both programs do it -/
/-- at, fault, what was emitted -/
abbrev PS : Type := Nat × Option Nat × List (Nat × Nat)
def ltr (t : List Nat) (s : PS) : Nat := match s.2.1 with
  | none => t.getD s.1 300
  | some _ => 300
def adv (s : PS) : PS := (s.1 + 1, s.2)
def emt (s : PS) (a b : Nat) : PS := (s.1, s.2.1, s.2.2 ++ [(a, b)])
def rfs (s : PS) : PS := match s.2.1 with
  | none => (s.1, some s.1, s.2.2)
  | some _ => s
def nmF (c : Nat) : Nat := if c = 110 then 0 else if c = 112 then 1 else if c = 107 then 2 else if c = 119 then 3 else if c = 115 then 4 else 5
def isD (c : Nat) : Bool := decide (48 ≤ c ∧ c ≤ 57)
def numL (t : List Nat) : Nat → Nat → PS → PS × Nat
  | 0, v, s => (s, v)
  | k + 1, v, s => if isD (ltr t s) = true then numL t k (v * 10 + ltr t s - 48) (adv s) else (s, v)
def numC (t : List Nat) (s : PS) : PS := emt (numL t 4 0 s).1 48 (numL t 4 0 s).2
def binL (t : List Nat) (ok : Nat → Bool) (sub : PS → PS) : Nat → PS → PS
  | 0, s => s
  | k + 1, s => if ok (ltr t s) = true then binL t ok sub k (emt (sub (adv s)) (ltr t s) 0) else s
def binF (t : List Nat) (ok : Nat → Bool) (sub : PS → PS) (s : PS) : PS := binL t ok sub 120 (sub s)
def okO (c : Nat) : Bool := decide (c = 124)
def okA (c : Nat) : Bool := decide (c = 38)
def okC (c : Nat) : Bool := decide (c = 60 ∨ c = 61 ∨ c = 62)
def okS (c : Nat) : Bool := decide (c = 43 ∨ c = 45)
def okP (c : Nat) : Bool := decide (c = 42 ∨ c = 47 ∨ c = 37)
def okU (c : Nat) : Bool := decide (c = 33 ∨ c = 45)
def cmpF (t : List Nat) (sub : PS → PS) (s : PS) : PS := if okC (ltr t (sub s)) = true then emt (sub (adv (sub s))) (ltr t (sub s)) 0 else sub s
def prdF (t : List Nat) (op : PS → PS) : PS → PS := binF t okP op
def sumF (t : List Nat) (op : PS → PS) : PS → PS := binF t okS (prdF t op)
def comF (t : List Nat) (op : PS → PS) : PS → PS := cmpF t (sumF t op)
def botF (t : List Nat) (op : PS → PS) : PS → PS := binF t okA (comF t op)
def eitF (t : List Nat) (op : PS → PS) : PS → PS := binF t okO (botF t op)
def parF (t : List Nat) (sub : PS → PS) (s : PS) : PS := if ltr t (sub (adv s)) = 41 then adv (sub (adv s)) else rfs (sub (adv s))
def unaF (t : List Nat) (sub : PS → PS) (s : PS) : PS := emt (sub (adv s)) (if ltr t s = 33 then 33 else 126) 0
def opF (t : List Nat) (num bad : PS → PS) : Nat → PS → PS
  | 0, s => if isD (ltr t s) = true then num s else if nmF (ltr t s) < 5 then emt (adv s) 110 (nmF (ltr t s)) else if ltr t s = 40 then rfs s else if okU (ltr t s) = true then rfs s else bad s
  | d + 1, s => if isD (ltr t s) = true then num s else if nmF (ltr t s) < 5 then emt (adv s) 110 (nmF (ltr t s)) else if ltr t s = 40 then parF t (eitF t (opF t num bad d)) s else if okU (ltr t s) = true then unaF t (opF t num bad d) s else bad s
def linC (t : List Nat) (s : PS) : PS := if ltr t (eitF t (opF t (numC t) rfs 6) s) = 63 then emt (eitF t (opF t (numC t) rfs 6) (emt (adv (eitF t (opF t (numC t) rfs 6) s)) 63 0)) 59 0 else emt (eitF t (opF t (numC t) rfs 6) s) 59 0
def linL (t : List Nat) : Nat → PS → PS
  | 0, s => s
  | k + 1, s => if ltr t s = 59 then linL t k (linC t (adv s)) else s
def txtC (t : List Nat) : PS := linL t 120 (linC t (0, none, []))
def endC (t : List Nat) : PS := if (txtC t).1 < t.length then rfs (txtC t) else txtC t
/-- a letter as the class says it -/
def lI (x : Nat) : Int32 := if x = 300 then -1 else nI x
def fI (f : Option Nat) : Int32 := match f with
  | none => -1
  | some k => nI k
theorem lI_eq {x c : Nat} (hx : x < 256 ∨ x = 300) (hc : c < 256) : lI x = nI c ↔ x = c := by
  unfold lI
  rcases hx with h | h
  · rw [if_neg (by omega)]
    exact nI_eq (by omega) (by omega)
  · rw [if_pos h]
    refine ⟨fun q => ?_, fun q => by omega⟩
    have q2 := congrArg Int32.toInt q
    rw [nI_toInt (by omega)] at q2
    have e : (-1 : Int32).toInt = -1 := rfl
    omega
theorem ltr_le {t : List Nat} (ht : ∀ (j x : Nat), t[j]? = some x → x < 256) (s : PS) : ltr t s < 256 ∨ ltr t s = 300 := by
  unfold ltr
  split
  · rw [List.getD_eq_getElem?_getD]
    rcases hq : t[s.1]? with _ | x
    · exact Or.inr rfl
    · exact Or.inl (ht _ _ hq)
  · exact Or.inr rfl
theorem ltr_in {t : List Nat} {s : PS} (h : ltr t s < 256) : s.2.1 = none ∧ s.1 < t.length ∧ t[s.1]? = some (ltr t s) := by
  unfold ltr at h ⊢
  split at h
  next e =>
    rw [List.getD_eq_getElem?_getD] at h ⊢
    rcases hq : t[s.1]? with _ | x
    · rw [hq] at h
      exact absurd h (by decide)
    · rw [e]
      exact ⟨rfl, (List.getElem?_eq_some_iff.mp hq).1, rfl⟩
  next => exact absurd h (by decide)
def nameI (c : Int32) : Int32 := if c = 107 then 2 else if c = 110 then 0 else if c = 112 then 1 else if c = 115 then 4 else if c = 119 then 3 else -1
theorem nameI_lI {x : Nat} (hx : x < 256 ∨ x = 300) : nameI (lI x) = if nmF x < 5 then nI (nmF x) else -1 := by
  unfold nameI nmF
  have a1 : lI x = 107 ↔ x = 107 := lI_eq (c := 107) hx (by decide)
  have a2 : lI x = 110 ↔ x = 110 := lI_eq (c := 110) hx (by decide)
  have a3 : lI x = 112 ↔ x = 112 := lI_eq (c := 112) hx (by decide)
  have a4 : lI x = 115 ↔ x = 115 := lI_eq (c := 115) hx (by decide)
  have a5 : lI x = 119 ↔ x = 119 := lI_eq (c := 119) hx (by decide)
  by_cases e1 : x = 107
  · subst e1; rfl
  · by_cases e2 : x = 110
    · subst e2; rfl
    · by_cases e3 : x = 112
      · subst e3; rfl
      · by_cases e4 : x = 115
        · subst e4; rfl
        · by_cases e5 : x = 119
          · subst e5; rfl
          · rw [if_neg (fun q => e1 (a1.mp q)), if_neg (fun q => e2 (a2.mp q)), if_neg (fun q => e3 (a3.mp q)), if_neg (fun q => e4 (a4.mp q)), if_neg (fun q => e5 (a5.mp q)), if_neg e2, if_neg e3, if_neg e1, if_neg e5, if_neg e4]
            rfl
theorem isD_lI {x : Nat} (hx : x < 256 ∨ x = 300) : (48 ≤ lI x ∧ lI x ≤ 57) ↔ isD x = true := by
  unfold isD lI
  rw [decide_eq_true_eq]
  rcases hx with h | h
  · rw [if_neg (by omega)]
    have a1 : (48 : Int32) ≤ nI x ↔ 48 ≤ x := nI_leI (a := 48) (by decide) (by omega)
    have a2 : nI x ≤ (57 : Int32) ↔ x ≤ 57 := nI_leI (b := 57) (by omega) (by decide)
    rw [a1, a2]
  · rw [if_pos h]
    exact ⟨fun q => absurd q.1 (by decide), fun q => by omega⟩
/-- the class's registers hold a state of the reading -/
def ER (code : List (Nat × Nat)) (u : Nat → Int32) (v : Nat → Nat → Int32) : Prop := u 0 = nI (min code.length 128) ∧ ∀ j a b, j < 128 → code[j]? = some (a, b) → v 2 j = nI a ∧ v 3 j = nI b
def RR (t : List Nat) (u0 : Nat → Int32) (v0 : Nat → Nat → Int32) (s : PS) (u : Nat → Int32) (v : Nat → Nat → Int32) : Prop := u 1 = nI s.1 ∧ s.1 ≤ t.length ∧ u 2 = fI s.2.1 ∧ (∀ f, s.2.1 = some f → f ≤ t.length) ∧ ER s.2.2 u v ∧ u 3 = u0 3 ∧ u 4 = u0 4 ∧ ∀ k, k ≠ 2 → k ≠ 3 → v k = v0 k
theorem ER.put {code : List (Nat × Nat)} {u : Nat → Int32} {v : Nat → Nat → Int32} (h : ER code u v) (hl : code.length < 128) (a b : Nat) : ER (code ++ [(a, b)]) (va_up u 0 (nI (code.length + 1))) (va_up (va_up v 2 (upd (v 2) code.length (nI a))) 3 (upd (v 3) code.length (nI b))) := by
  refine ⟨?_, fun j a' b' hj hb => ?_⟩
  · rw [List.length_append]
    show nI (code.length + 1) = nI (min (code.length + 1) 128)
    rw [Nat.min_eq_left (by omega)]
  · show upd (v 2) code.length (nI a) j = nI a' ∧ upd (v 3) code.length (nI b) j = nI b'
    rcases Nat.lt_trichotomy j code.length with q | q | q
    · rw [List.getElem?_append_left q] at hb
      exact ⟨(if_neg (by omega)).trans (h.2 j a' b' hj hb).1, (if_neg (by omega)).trans (h.2 j a' b' hj hb).2⟩
    · subst q
      rw [List.getElem?_append_right (Nat.le_refl _), Nat.sub_self] at hb
      cases hb
      exact ⟨if_pos rfl, if_pos rfl⟩
    · rw [List.getElem?_eq_none (by rw [List.length_append]; exact q)] at hb
      cases hb
theorem ER.full {code : List (Nat × Nat)} {u : Nat → Int32} {v : Nat → Nat → Int32} (h : ER code u v) (hl : 128 ≤ code.length) (a b : Nat) : ER (code ++ [(a, b)]) u v := by
  refine ⟨?_, fun j a' b' hj hb => ?_⟩
  · rw [h.1, List.length_append]
    show nI (min code.length 128) = nI (min (code.length + 1) 128)
    rw [Nat.min_eq_right hl, Nat.min_eq_right (by omega)]
  · rw [List.getElem?_append_left (by omega)] at hb
    exact h.2 j a' b' hj hb
theorem RR.advd {t : List Nat} {u0 : Nat → Int32} {v0 : Nat → Nat → Int32} {s : PS} {u : Nat → Int32} {v : Nat → Nat → Int32} (h : RR t u0 v0 s u v) (hl : ltr t s < 256) : RR t u0 v0 (adv s) (va_up u 1 (nI (s.1 + 1))) v := by
  obtain ⟨h1, h2, h3, h4, h5, h6, h7, h8⟩ := h
  exact ⟨rfl, (ltr_in hl).2.1, h3, h4, h5, h6, h7, h8⟩
theorem RR.refu {t : List Nat} {u0 : Nat → Int32} {v0 : Nat → Nat → Int32} {s : PS} {u : Nat → Int32} {v : Nat → Nat → Int32} (h : RR t u0 v0 s u v) (hf : s.2.1 = none) : RR t u0 v0 (rfs s) (va_up u 2 (nI s.1)) v := by
  obtain ⟨h1, h2, h3, h4, h5, h6, h7, h8⟩ := h
  have e : rfs s = (s.1, some s.1, s.2.2) := by unfold rfs; rw [hf]
  rw [e]
  exact ⟨h1, h2, rfl, fun f q => by cases q; exact h2, h5, h6, h7, h8⟩
theorem binL_t {t : List Nat} {ok : Nat → Bool} {sub : PS → PS} {k : Nat} {s : PS} (h : ok (ltr t s) = true) : binL t ok sub (k + 1) s = binL t ok sub k (emt (sub (adv s)) (ltr t s) 0) := if_pos h
theorem binL_f {t : List Nat} {ok : Nat → Bool} {sub : PS → PS} {k : Nat} {s : PS} (h : ¬ ok (ltr t s) = true) : binL t ok sub (k + 1) s = s := if_neg h
theorem numL_t {t : List Nat} {k v : Nat} {s : PS} (h : isD (ltr t s) = true) : numL t (k + 1) v s = numL t k (v * 10 + ltr t s - 48) (adv s) := if_pos h
theorem numL_f {t : List Nat} {k v : Nat} {s : PS} (h : ¬ isD (ltr t s) = true) : numL t (k + 1) v s = (s, v) := if_neg h
theorem linL_t {t : List Nat} {k : Nat} {s : PS} (h : ltr t s = 59) : linL t (k + 1) s = linL t k (linC t (adv s)) := if_pos h
theorem linL_f {t : List Nat} {k : Nat} {s : PS} (h : ¬ ltr t s = 59) : linL t (k + 1) s = s := if_neg h
