/-! what the object is, in plain values, and what the class's world holds of it behind k calls -/
abbrev DV : Type := Nat → (Nat → Int32) × (Nat → Nat → Int32)
abbrev SV : Type := Nat → (Nat → Int32) × (Nat → Int64)
/-- things, law; changes; tape; the drive in deed, its sums; the image; bodies and the trace; shelves (holds, body, sort, size, elements) -/
abbrev STT : Type := (Nat × (Nat → Nat → Nat) × (Nat → Nat → Nat → Nat → Nat → Nat)) × (CL × Nat) × List Nat × (Nat × Nat × Nat × DT × Int32 × Int32) × (Nat × Nat × Nat × Nat × DT × Int32 × Int32) × (Nat × (Nat → Nat) × AT) × (Nat → Nat × Nat × Nat × Nat × (Nat → Int64))
def maxN (k : Nat) : Nat := [5, 12, 6, 99, 255, 9, 20, 9].getD k 0
def CV (n : Nat) (cl : CL) : Prop := ∀ (j a b x y : Nat), cl[j]? = some (a, b, x, y) → a < 8 ∧ b < lim n a ∧ x ≤ maxN a ∧ y ≤ maxN a
def XA (a : Nat × (Nat → Nat → Nat) × (Nat → Nat → Nat → Nat → Nat → Nat)) (W : Nat → Nat → Int32) (g : Nat → Int32) (h : Nat → Nat → Int32) : Prop := g 0 = nI a.1 ∧ a.1 ≤ 8 ∧ NW W a.2.1 ∧ Bd a.2.1 ∧ (∀ j, a.1 ≤ j → j < 8 → a.2.1 4 j = 0) ∧ LawX g h a.2.2
def XB (n : Nat) (b : CL × Nat) (g : Nat → Int32) (h : Nat → Nat → Int32) : Prop := g 3 = nI b.2 ∧ g 4 = nI b.1.length ∧ b.2 ≤ b.1.length ∧ b.1.length ≤ 40 ∧ CRel h b.1 ∧ CV n b.1
def XT (t : List Nat) (g : Nat → Int32) (h : Nat → Nat → Int32) : Prop := g 5 = nI t.length ∧ t.length ≤ 120 ∧ ∀ (j x : Nat), t[j]? = some x → h 6 j = nI x ∧ x < 256
def XD (q : Nat × Nat × Nat × DT × Int32 × Int32) (g : Nat → Int32) (Dv : DV) : Prop := DRel False (Dv 2) q.1 q.2.1 q.2.2.1 q.2.2.2.1 ∧ q.1 ≤ 1 ∧ q.2.1 ≤ 6 ∧ q.2.2.1 < 256 ∧ DI q.2.2.2.1 ∧ g 6 = q.2.2.2.2.1 ∧ g 7 = q.2.2.2.2.2
def XI (q : Nat × Nat × Nat × Nat × DT × Int32 × Int32) (g : Nat → Int32) (Dv : DV) : Prop := g 10 = nI q.1 ∧ q.1 ≤ 1 ∧ DRel False (Dv 3) q.2.1 q.2.2.1 q.2.2.2.1 q.2.2.2.2.1 ∧ q.2.1 ≤ 1 ∧ q.2.2.1 ≤ 6 ∧ q.2.2.2.1 < 256 ∧ DI q.2.2.2.2.1 ∧ g 8 = q.2.2.2.2.2.1 ∧ g 9 = q.2.2.2.2.2.2
def XP (q : Nat × (Nat → Nat) × AT) (g : Nat → Int32) (h : Nat → Nat → Int32) : Prop := g 11 = nI q.1 ∧ q.1 ≤ 50 ∧ (∀ j, j < q.1 → h 7 j = nI (q.2.1 j) ∧ q.2.1 j < 8) ∧ g 12 = q.2.2.1 ∧ h 8 = q.2.2.2
def XS (nb : Nat) (sh : Nat → Nat × Nat × Nat × Nat × (Nat → Int64)) (Sh : SV) : Prop := ∀ b, b < 6 → (Sh b).1 0 = nI (sh b).1 ∧ (sh b).1 ≤ 2 ∧ ((sh b).1 = 1 → (Sh b).1 1 = nI (sh b).2.1 ∧ (sh b).2.1 < nb) ∧ ((sh b).1 = 2 → (Sh b).1 2 = nI (sh b).2.2.1 ∧ (sh b).2.2.1 < 5 ∧ (Sh b).1 3 = nI (sh b).2.2.2.1 ∧ (sh b).2.2.2.1 ≤ 60 ∧ ∀ j, j < (sh b).2.2.2.1 → (Sh b).2 j = (sh b).2.2.2.2 j)
def XC (k : Nat) (a : Nat × (Nat → Nat → Nat) × (Nat → Nat → Nat → Nat → Nat → Nat)) (g u : Nat → Int32) (v : Nat → Nat → Int32) : Prop := ∃ ed te : Nat, g 1 = nI ed ∧ u 3 = nI te ∧ te ≤ ed ∧ ed ≤ 40 * k + 1 ∧ (te = ed → TV a.2.1 a.2.2 (2 ^ a.1) v)
def XAll (S : STT) (k : Nat) (W : Nat → Nat → Int32) (g : Nat → Int32) (h : Nat → Nat → Int32) (Dv : DV) (Sh : SV) (u : Nat → Int32) (v : Nat → Nat → Int32) : Prop :=
  XA S.1 W g h ∧ XB S.1.1 S.2.1 g h ∧ XT S.2.2.1 g h ∧ XD S.2.2.2.1 g Dv ∧ XI S.2.2.2.2.1 g Dv ∧ XP S.2.2.2.2.2.1 g h ∧ XS S.2.2.2.2.2.1.1 S.2.2.2.2.2.2 Sh ∧ XC k S.1 g u v
/-- the class's world holds S, behind k calls -/
def XR (ad tc : Nat → Nat) (S : STT) (k : Nat) (w : va_W) : Prop := ∃ (W : Nat → Nat → Int32) (g : Nat → Int32) (h : Nat → Nat → Int32) (Dv : DV) (Sh : SV) (u : Nat → Int32) (v : Nat → Nat → Int32) (z : Int64) (y : Nat → Int64), w = hx ad tc W g h Dv Sh u v z y ∧ XAll S k W g h Dv Sh u v
theorem TV.kept {N : Nat → Nat → Nat} {L : Nat → Nat → Nat → Nat → Nat → Nat} {i : Nat} {v v' : Nat → Nat → Int32} (h : TV N L i v) (h4 : v' 4 = v 4) (h5 : v' 5 = v 5) (h6 : v' 6 = v 6) : TV N L i v' := fun q hq => by rw [h4, h5, h6]; exact h q hq
theorem XC.later {k : Nat} {a : Nat × (Nat → Nat → Nat) × (Nat → Nat → Nat → Nat → Nat → Nat)} {g u : Nat → Int32} {v : Nat → Nat → Int32} (h : XC k a g u v) : XC (k + 1) a g u v := by
  obtain ⟨ed, te, h1, h2, h3, h4, h5⟩ := h
  exact ⟨ed, te, h1, h2, h3, by omega, h5⟩
/-- reads change nothing that lasts: the drive in thought, the law's own rows -/
theorem XAll.thought {S : STT} {k : Nat} {W : Nat → Nat → Int32} {g : Nat → Int32} {h : Nat → Nat → Int32} {Dv Dv' : DV} {Sh : SV} {u u' : Nat → Int32} {v v' : Nat → Nat → Int32} (X : XAll S k W g h Dv Sh u v) (h2 : Dv' 2 = Dv 2) (h3 : Dv' 3 = Dv 3) (hu : u' 3 = u 3) (h4 : v' 4 = v 4) (h5 : v' 5 = v 5) (h6 : v' 6 = v 6) : XAll S (k + 1) W g h Dv' Sh u' v' := by
  obtain ⟨x1, x2, x3, x4, x5, x6, x7, x8⟩ := X
  refine ⟨x1, x2, x3, ?_, ?_, x6, x7, ?_⟩
  · unfold XD at x4 ⊢; rw [h2]; exact x4
  · unfold XI at x5 ⊢; rw [h3]; exact x5
  · obtain ⟨ed, te, e1, e2, e3, e4, e5⟩ := x8
    exact ⟨ed, te, e1, by rw [hu]; exact e2, e3, by omega, fun q => (e5 q).kept h4 h5 h6⟩
theorem XAll.same {S : STT} {k : Nat} {W : Nat → Nat → Int32} {g : Nat → Int32} {h : Nat → Nat → Int32} {Dv : DV} {Sh : SV} {u : Nat → Int32} {v : Nat → Nat → Int32} (X : XAll S k W g h Dv Sh u v) : XAll S (k + 1) W g h Dv Sh u v := X.thought rfl rfl rfl rfl rfl rfl
/-- the table of all drives was filled anew, or stood -/
theorem XAll.table {S : STT} {k : Nat} {W : Nat → Nat → Int32} {g : Nat → Int32} {h : Nat → Nat → Int32} {Dv Dv' : DV} {Sh : SV} {u : Nat → Int32} {v v' : Nat → Nat → Int32} (X : XAll S k W g h Dv Sh u v) (hk : k ≤ 600) (hD : ∀ q, q ≠ 1 → Dv' q = Dv q) (hT : TV S.1.2.1 S.1.2.2 (2 ^ S.1.1) v') : XAll S (k + 1) W g h Dv' Sh (va_up u 3 (g 1)) v' := by
  obtain ⟨x1, x2, x3, x4, x5, x6, x7, x8⟩ := X
  refine ⟨x1, x2, x3, ?_, ?_, x6, x7, ?_⟩
  · unfold XD at x4 ⊢; rw [hD 2 (by decide)]; exact x4
  · unfold XI at x5 ⊢; rw [hD 3 (by decide)]; exact x5
  · obtain ⟨ed, te, e1, e2, e3, e4, e5⟩ := x8
    exact ⟨ed, ed, e1, (if_pos rfl).trans e1, Nat.le_refl _, by omega, fun _ => hT⟩
theorem XC.fresh {k : Nat} {a : Nat × (Nat → Nat → Nat) × (Nat → Nat → Nat → Nat → Nat → Nat)} {g u : Nat → Int32} {v : Nat → Nat → Int32} (h : XC k a g u v) (hk : k ≤ 600) : u 3 = g 1 → TV a.2.1 a.2.2 (2 ^ a.1) v := by
  obtain ⟨ed, te, e1, e2, e3, e4, e5⟩ := h
  intro q
  rw [e1, e2] at q
  exact e5 ((nI_eq (by omega) (by omega)).mp q)
/-- answers: what each read says -/
def BADI : Int32 := -1
def aDrive (S : STT) (told what : Int32) : Int32 :=
  if knB S.1.1 told = true ∧ 0 ≤ what ∧ what ≤ 4 then
    (if what = 0 then nI (whole S.1.2.1 S.1.2.2 told.toNatClampNeg).2.2.1 else if what = 1 then nI (whole S.1.2.1 S.1.2.2 told.toNatClampNeg).2.2.2.1.length else if what = 2 then nI (whole S.1.2.1 S.1.2.2 told.toNatClampNeg).2.2.2.2.1 else if what = 3 then nI (whole S.1.2.1 S.1.2.2 told.toNatClampNeg).2.1 else nI (costT S.1.2.1 (whole S.1.2.1 S.1.2.2 told.toNatClampNeg)))
  else -1
def gAt (gl : GL) (k what : Int32) : Int32 := match gl[k.toNatClampNeg]? with
  | some q => if what = 0 then nI q.1 else if what = 1 then nI q.2.1 else nI q.2.2
  | none => -2
def aGoing (S : STT) (told k what : Int32) : Int32 :=
  if knB S.1.1 told = true ∧ 0 ≤ k ∧ 0 ≤ what ∧ what ≤ 2 then gAt (whole S.1.2.1 S.1.2.2 told.toNatClampNeg).2.2.2.1 k what else -1
def aOnWith (S : STT) (told : Int32) : Int32 := if knB S.1.1 told = true then nI (whole S.1.2.1 S.1.2.2 told.toNatClampNeg).2.2.2.2.2 else -1
def aOf (S : STT) (number what : Int32) : Int32 := if hasB S.1.1 what number = true then nI (S.1.2.1 what.toNatClampNeg number.toNatClampNeg) else -1
def aAloud (S : STT) (told person : Int32) : Int32 := if knB S.1.1 told = true ∧ 0 ≤ person ∧ person < 6 then nI (aloudN S.1.2.1 S.1.2.2 told.toNatClampNeg person.toNatClampNeg) else -1
def whoF (f : Nat → Nat) : Nat → Nat
  | 0 => 0
  | i + 1 => if f (i + 1) < f (whoF f i) then i + 1 else whoF f i
def aWho (S : STT) (told : Int32) : Int32 := if knB S.1.1 told = true then nI (whoF (aloudN S.1.2.1 S.1.2.2 told.toNatClampNeg) 5) else -1
def aLed (S : STT) (what : Int32) : Int32 :=
  if what = 0 then nI S.2.2.2.1.2.2.2.1.2.2.1 else if what = 1 then nI S.2.2.2.1.2.2.2.1.2.2.2.1.length else if what = 2 then nI S.2.2.2.1.2.2.2.1.2.2.2.2.1 else if what = 3 then nI S.2.2.2.1.2.2.2.1.2.1 else if what = 4 then S.2.2.2.1.2.2.2.2.1 else if what = 5 then S.2.2.2.1.2.2.2.2.2 else if what = 6 then (if S.2.2.2.1.1 = 0 then -2 else nI S.2.2.2.1.2.1) else -1
def aCount (S : STT) (what : Int32) : Int32 := if what = 0 then nI S.1.1 else if what = 1 then nI S.2.2.1.length else if what = 2 then nI S.2.1.2 else if what = 3 then nI S.2.2.2.2.2.1.1 else if what = 4 then S.2.2.2.2.2.1.2.2.1 else -1
def aTrace (S : STT) (i : Int32) : Int32 := if i < 0 then -1 else if S.2.2.2.2.2.1.2.2.1 ≤ i then -1 else if i < 24 then S.2.2.2.2.2.1.2.2.2 i.toNatClampNeg else -1
def aChain (S : STT) (t : Int32) : Int32 := if hasB S.1.1 4 t = true then nI (pop (brO S.1.2.1 S.1.1 (2 ^ t.toNatClampNeg) 8)) else -1
def aFirst (S : STT) (what : Int32) : Int32 := if 0 ≤ what ∧ what ≤ 1 then (if S.1.1 = 0 then -2 else if what = 0 then nI (deaF (fun q => costT S.1.2.1 (whole S.1.2.1 S.1.2.2 q)) (2 ^ S.1.1 - 2)) else nI (costT S.1.2.1 (whole S.1.2.1 S.1.2.2 (deaF (fun q => costT S.1.2.1 (whole S.1.2.1 S.1.2.2 q)) (2 ^ S.1.1 - 2))))) else -1
def bet (what lo hi : Int32) : Bool := decide (lo ≤ what ∧ what ≤ hi)
theorem knB_nat {n : Nat} (hn : n ≤ 8) {told : Int32} (h : knB n told = true) : told.toNatClampNeg < 2 ^ n ∧ told = nI told.toNatClampNeg := by
  simp only [knB, decide_eq_true_eq] at h
  obtain ⟨j, hj, rfl⟩ := nI_of (x := told) (fun q => by rw [Int32.lt_iff_toInt_lt] at q; have : (0 : Int32).toInt = 0 := rfl; omega)
  rw [nI_clamp hj]
  rw [nI_toInt hj] at h
  exact ⟨by have := h.2; exact Int.ofNat_lt.mp this, rfl⟩
theorem knB_ex {n : Nat} (hn : n ≤ 8) {told : Int32} (h : knB n told = true) : ∃ t : Nat, t < 2 ^ n ∧ (nI t).toNatClampNeg = t ∧ told = nI t := by
  obtain ⟨h1, h2⟩ := knB_nat hn h
  exact ⟨told.toNatClampNeg, h1, by rw [← h2], h2⟩
