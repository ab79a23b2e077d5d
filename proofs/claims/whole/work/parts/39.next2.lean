/-! what the other calls make of the state: things, the drive in deed, bodies, letters -/
theorem XA.kept {a : Nat × (Nat → Nat → Nat) × (Nat → Nat → Nat → Nat → Nat → Nat)} {W : Nat → Nat → Int32} {g g' : Nat → Int32} {h h' : Nat → Nat → Int32} (x : XA a W g h) (h0 : g' 0 = g 0) (h2 : g' 2 = g 2) (hh0 : h' 0 = h 0) (hh1 : h' 1 = h 1) : XA a W g' h' :=
  ⟨h0.trans x.1, x.2.1, x.2.2.1, x.2.2.2.1, x.2.2.2.2.1, x.2.2.2.2.2.kept h2 hh0 hh1⟩
theorem XB.kept {n : Nat} {b : CL × Nat} {g g' : Nat → Int32} {h h' : Nat → Nat → Int32} (x : XB n b g h) (h3 : g' 3 = g 3) (h4 : g' 4 = g 4) (hh2 : h' 2 = h 2) (hh3 : h' 3 = h 3) (hh4 : h' 4 = h 4) (hh5 : h' 5 = h 5) : XB n b g' h' := by
  unfold XB CRel at x ⊢
  rw [h3, h4, hh2, hh3, hh4, hh5]
  exact x
theorem XT.kept {t : List Nat} {g g' : Nat → Int32} {h h' : Nat → Nat → Int32} (x : XT t g h) (h5 : g' 5 = g 5) (hh6 : h' 6 = h 6) : XT t g' h' := by
  unfold XT at x ⊢
  rw [h5, hh6]
  exact x
theorem XD.kept {q : Nat × Nat × Nat × DT × Int32 × Int32} {g g' : Nat → Int32} {Dv Dv' : DV} (x : XD q g Dv) (h6 : g' 6 = g 6) (h7 : g' 7 = g 7) (hd : Dv' 2 = Dv 2) : XD q g' Dv' := by
  unfold XD at x ⊢
  rw [h6, h7, hd]
  exact x
theorem XI.kept {q : Nat × Nat × Nat × Nat × DT × Int32 × Int32} {g g' : Nat → Int32} {Dv Dv' : DV} (x : XI q g Dv) (h8 : g' 8 = g 8) (h9 : g' 9 = g 9) (h10 : g' 10 = g 10) (hd : Dv' 3 = Dv 3) : XI q g' Dv' := by
  unfold XI at x ⊢
  rw [h8, h9, h10, hd]
  exact x
theorem XP.kept {q : Nat × (Nat → Nat) × AT} {g g' : Nat → Int32} {h h' : Nat → Nat → Int32} (x : XP q g h) (h11 : g' 11 = g 11) (h12 : g' 12 = g 12) (hh7 : h' 7 = h 7) (hh8 : h' 8 = h 8) : XP q g' h' := by
  unfold XP at x ⊢
  rw [h11, h12, hh7, hh8]
  exact x
theorem XC.keptl {k : Nat} {a : Nat × (Nat → Nat → Nat) × (Nat → Nat → Nat → Nat → Nat → Nat)} {g g' u u' : Nat → Int32} {v v' : Nat → Nat → Int32} (x : XC k a g u v) (h1 : g' 1 = g 1) (hu : u' 3 = u 3) (h4 : v' 4 = v 4) (h5 : v' 5 = v 5) (h6 : v' 6 = v 6) : XC (k + 1) a g' u' v' := by
  obtain ⟨ed, te, e1, e2, e3, e4, e5⟩ := x
  exact ⟨ed, te, h1.trans e1, hu.trans e2, e3, by omega, fun q => (e5 q).kept h4 h5 h6⟩
/-- in the midst of a call: the edition by the number of things that came -/
def XCJ (k j : Nat) (a : Nat × (Nat → Nat → Nat) × (Nat → Nat → Nat → Nat → Nat → Nat)) (g u : Nat → Int32) (v : Nat → Nat → Int32) : Prop := ∃ ed te : Nat, g 1 = nI ed ∧ u 3 = nI te ∧ te ≤ ed ∧ ed ≤ 40 * k + 1 + 4 * j ∧ (te = ed → TV a.2.1 a.2.2 (2 ^ a.1) v)
def XJ (S : STT) (k j : Nat) (W : Nat → Nat → Int32) (g : Nat → Int32) (h : Nat → Nat → Int32) (Dv : DV) (Sh : SV) (u : Nat → Int32) (v : Nat → Nat → Int32) : Prop :=
  XA S.1 W g h ∧ XB S.1.1 S.2.1 g h ∧ XT S.2.2.1 g h ∧ XD S.2.2.2.1 g Dv ∧ XI S.2.2.2.2.1 g Dv ∧ XP S.2.2.2.2.2.1 g h ∧ XS S.2.2.2.2.2.1.1 S.2.2.2.2.2.2 Sh ∧ XCJ k j S.1 g u v
theorem XAll.j {S : STT} {k : Nat} {W : Nat → Nat → Int32} {g : Nat → Int32} {h : Nat → Nat → Int32} {Dv : DV} {Sh : SV} {u : Nat → Int32} {v : Nat → Nat → Int32} (X : XAll S k W g h Dv Sh u v) : XJ S k 0 W g h Dv Sh u v := by
  obtain ⟨x1, x2, x3, x4, x5, x6, x7, ed, te, e1, e2, e3, e4, e5⟩ := X
  exact ⟨x1, x2, x3, x4, x5, x6, x7, ed, te, e1, e2, e3, by omega, e5⟩
theorem XJ.all {S : STT} {k j : Nat} {W : Nat → Nat → Int32} {g : Nat → Int32} {h : Nat → Nat → Int32} {Dv : DV} {Sh : SV} {u : Nat → Int32} {v : Nat → Nat → Int32} (X : XJ S k j W g h Dv Sh u v) (hj : j ≤ 10) : XAll S (k + 1) W g h Dv Sh u v := by
  obtain ⟨x1, x2, x3, x4, x5, x6, x7, ed, te, e1, e2, e3, e4, e5⟩ := X
  exact ⟨x1, x2, x3, x4, x5, x6, x7, ed, te, e1, e2, e3, by omega, e5⟩
def addS (S : STT) (a b c d : Nat) : STT := ((S.1.1 + 1, upN (upN (upN (upN S.1.2.1 0 S.1.1 a) 1 S.1.1 b) 2 S.1.1 c) 3 S.1.1 d, S.1.2.2), S.2)
theorem lim_le {n a : Nat} : lim n a ≤ lim (n + 1) a := by
  unfold lim
  split
  · omega
  · exact Nat.le_refl _
theorem XJ.add {S : STT} {k j : Nat} {W : Nat → Nat → Int32} {g : Nat → Int32} {h : Nat → Nat → Int32} {Dv : DV} {Sh : SV} {u : Nat → Int32} {v : Nat → Nat → Int32} (X : XJ S k j W g h Dv Sh u v) (hlt : S.1.1 < 8) {a b c d : Nat} (ha : a ≤ maxN 0) (hb : b ≤ maxN 1) (hc : c ≤ maxN 2) (hd : d ≤ maxN 3) : XJ (addS S a b c d) k (j + 1) (bW (bW (bW (bW W 0 S.1.1 (nI a)) 1 S.1.1 (nI b)) 2 S.1.1 (nI c)) 3 S.1.1 (nI d)) (bG (bG (bG (bG (va_up g 0 (nI (S.1.1 + 1))))))) h Dv Sh u v := by
  obtain ⟨x1, x2, x3, x4, x5, x6, x7, ed, te, e1, e2, e3, e4, e5⟩ := X
  obtain ⟨y1, y2, y3, y4, y5, y6⟩ := x1
  have l0 : ∀ q, q < 5 → lim (S.1.1 + 1) q = S.1.1 + 1 := fun q hq => if_pos hq
  refine ⟨⟨rfl, hlt, (((y3.up 0 _ a).up 1 _ b).up 2 _ c).up 3 _ d, (((y4.up ha).up hb).up hc).up hd, fun q q1 q2 => ?_, y6.kept rfl rfl rfl⟩, ⟨x2.1, x2.2.1, x2.2.2.1, x2.2.2.2.1, x2.2.2.2.2.1, fun q a' b' x' y' hq => ?_⟩, x3.kept rfl rfl, x4.kept rfl rfl rfl, x5.kept rfl rfl rfl rfl, x6.kept rfl rfl rfl rfl, x7, ed + 4, te, ?_, e2, by omega, by omega, fun q => by omega⟩
  · show upN (upN (upN (upN S.1.2.1 0 S.1.1 a) 1 S.1.1 b) 2 S.1.1 c) 3 S.1.1 d 4 q = 0
    unfold upN
    rw [if_neg (fun z => absurd z.1 (by decide)), if_neg (fun z => absurd z.1 (by decide)), if_neg (fun z => absurd z.1 (by decide)), if_neg (fun z => absurd z.1 (by decide))]
    have q1' : S.1.1 + 1 ≤ q := q1
    exact y5 q (by omega) q2
  · obtain ⟨r1, r2, r3, r4⟩ := x2.2.2.2.2.2 q a' b' x' y' hq
    exact ⟨r1, Nat.lt_of_lt_of_le r2 lim_le, r3, r4⟩
  · show g 1 + 1 + 1 + 1 + 1 = nI (ed + 4)
    rw [e1]
    rw [nI_1 ed, nI_1 (ed + 1), nI_1 (ed + 1 + 1), nI_1 (ed + 1 + 1 + 1)]
def okT (wc s : Int32) : Bool := decide (¬ wc < 0 ∧ mayB 0 (wc / 100) = true ∧ mayB 1 (wc - wc / 100 * 100) = true ∧ mayB 2 s = true)
def aThing (S : STT) (wc s : Int32) : Int32 := if okT wc s = true then (if S.1.1 = 8 then -3 else nI S.1.1) else -1
def nThing (S : STT) (wc s : Int32) : STT := if okT wc s = true ∧ S.1.1 < 8 then addS S (wc / 100).toNatClampNeg (wc - wc / 100 * 100).toNatClampNeg s.toNatClampNeg 10 else S
def aImage (S : STT) : Int32 := nI S.2.2.2.1.2.2.2.1.2.2.1
def nImage (S : STT) : STT := (S.1, S.2.1, S.2.2.1, S.2.2.2.1, (1, S.2.2.2.1), S.2.2.2.2.2)
def aBack (S : STT) : Int32 := if S.2.2.2.2.1.1 = 0 then -5 else nI S.2.2.2.2.1.2.2.2.2.1.2.2.1
def nBack (S : STT) : STT := if S.2.2.2.2.1.1 = 0 then S else (S.1, S.2.1, S.2.2.1, S.2.2.2.2.1.2, S.2.2.2.2)
def aLock (S : STT) (seed : Int32) : Int32 := if S.2.2.2.1.1 = 0 then nI (pop (drw S.1.2.1 seed S.1.1)) else -5
def nLock (S : STT) (seed : Int32) : STT := if S.2.2.2.1.1 = 0 then (S.1, S.2.1, S.2.2.1, (1, 0, drw S.1.2.1 seed S.1.1, (0, 0, 0, [], 0, 0), S.2.2.2.1.2.2.2.2), S.2.2.2.2) else S
def aOn (S : STT) : Int32 := if S.2.2.2.1.1 = 0 then -5 else if S.2.2.2.1.2.1 < 6 then nI (S.2.2.2.1.2.1 + 1) else -2
def onQ (S : STT) : DT := onStop S.1.2.1 S.1.2.2 S.2.2.2.1.2.1 S.2.2.2.1.2.2.1 S.2.2.2.1.2.2.2.1
def nOn (S : STT) : STT := if S.2.2.2.1.1 = 0 then S else if S.2.2.2.1.2.1 < 6 then (S.1, S.2.1, S.2.2.1, (1, S.2.2.2.1.2.1 + 1, S.2.2.2.1.2.2.1, onQ S, S.2.2.2.1.2.2.2.2), S.2.2.2.2) else (S.1, S.2.1, S.2.2.1, (0, S.2.2.2.1.2.1, S.2.2.2.1.2.2.1, onQ S, S.2.2.2.1.2.2.2.2.1 + 1, S.2.2.2.1.2.2.2.2.2 + nI (costT S.1.2.1 (onQ S))), S.2.2.2.2)
def aBody (S : STT) (k : Int32) : Int32 := if 0 ≤ k ∧ k < 8 then (if S.2.2.2.2.2.1.1 = 50 then -3 else nI S.2.2.2.2.2.1.1) else -1
def nBody (S : STT) (k : Int32) : STT := if 0 ≤ k ∧ k < 8 ∧ S.2.2.2.2.2.1.1 < 50 then (S.1, S.2.1, S.2.2.1, S.2.2.2.1, S.2.2.2.2.1, (S.2.2.2.2.2.1.1 + 1, fun q => if q = S.2.2.2.2.2.1.1 then k.toNatClampNeg else S.2.2.2.2.2.1.2.1 q, S.2.2.2.2.2.1.2.2), S.2.2.2.2.2.2) else S
def actQ (S : STT) (b a x : Int32) : Int32 × AT := if bodB S.2.2.2.2.2.1.1 b = true ∧ 0 ≤ a ∧ a < 4 then perfF b (nI (S.2.2.2.2.2.1.2.1 b.toNatClampNeg)) 40 (nI (S.2.2.2.2.2.1.2.1 b.toNatClampNeg)) a x (0, S.2.2.2.2.2.1.2.2.2) else (0, 0, S.2.2.2.2.2.1.2.2.2)
def aAct (S : STT) (b a x : Int32) : Int32 := (actQ S b a x).1
def nAct (S : STT) (b a x : Int32) : STT := (S.1, S.2.1, S.2.2.1, S.2.2.2.1, S.2.2.2.2.1, (S.2.2.2.2.2.1.1, S.2.2.2.2.2.1.2.1, (actQ S b a x).2), S.2.2.2.2.2.2)
def aFeed (S : STT) (x : Int32) : Int32 := if 0 ≤ x ∧ x ≤ 255 then (if S.2.2.1.length = 120 then -3 else nI (S.2.2.1.length + 1)) else -1
def nFeed (S : STT) (x : Int32) : STT := if 0 ≤ x ∧ x ≤ 255 ∧ S.2.2.1.length < 120 then (S.1, S.2.1, S.2.2.1 ++ [x.toNatClampNeg], S.2.2.2) else S
theorem XAll.deed {S : STT} {k : Nat} {W : Nat → Nat → Int32} {g g' : Nat → Int32} {h : Nat → Nat → Int32} {Dv Dv' : DV} {Sh : SV} {u u' : Nat → Int32} {v v' : Nat → Nat → Int32} (X : XAll S k W g h Dv Sh u v) {q : Nat × Nat × Nat × DT × Int32 × Int32} (hg : ∀ j, j ≠ 6 → j ≠ 7 → g' j = g j) (h3 : Dv' 3 = Dv 3) (hu : u' 3 = u 3) (h4 : v' 4 = v 4) (h5 : v' 5 = v 5) (h6 : v' 6 = v 6) (xd : XD q g' Dv') : XAll (S.1, S.2.1, S.2.2.1, q, S.2.2.2.2) (k + 1) W g' h Dv' Sh u' v' := by
  obtain ⟨x1, x2, x3, x4, x5, x6, x7, x8⟩ := X
  exact ⟨x1.kept (hg 0 (by decide) (by decide)) (hg 2 (by decide) (by decide)) rfl rfl, x2.kept (hg 3 (by decide) (by decide)) (hg 4 (by decide) (by decide)) rfl rfl rfl rfl, x3.kept (hg 5 (by decide) (by decide)) rfl, xd, x5.kept (hg 8 (by decide) (by decide)) (hg 9 (by decide) (by decide)) (hg 10 (by decide) (by decide)) h3, x6.kept (hg 11 (by decide) (by decide)) (hg 12 (by decide) (by decide)) rfl rfl, x7, x8.keptl (hg 1 (by decide) (by decide)) hu h4 h5 h6⟩
theorem XAll.acts {S : STT} {k : Nat} {W : Nat → Nat → Int32} {g g' : Nat → Int32} {h h' : Nat → Nat → Int32} {Dv : DV} {Sh : SV} {u : Nat → Int32} {v : Nat → Nat → Int32} (X : XAll S k W g h Dv Sh u v) {q : Nat × (Nat → Nat) × AT} (hnb : S.2.2.2.2.2.1.1 ≤ q.1) (hg : ∀ j, j < 11 → g' j = g j) (hh : ∀ j, j ≠ 7 → j ≠ 8 → h' j = h j) (xp : XP q g' h') : XAll (S.1, S.2.1, S.2.2.1, S.2.2.2.1, S.2.2.2.2.1, q, S.2.2.2.2.2.2) (k + 1) W g' h' Dv Sh u v := by
  obtain ⟨x1, x2, x3, x4, x5, x6, x7, x8⟩ := X
  refine ⟨x1.kept (hg 0 (by decide)) (hg 2 (by decide)) (hh 0 (by decide) (by decide)) (hh 1 (by decide) (by decide)), x2.kept (hg 3 (by decide)) (hg 4 (by decide)) (hh 2 (by decide) (by decide)) (hh 3 (by decide) (by decide)) (hh 4 (by decide) (by decide)) (hh 5 (by decide) (by decide)), x3.kept (hg 5 (by decide)) (hh 6 (by decide) (by decide)), x4.kept (hg 6 (by decide)) (hg 7 (by decide)) rfl, x5.kept (hg 8 (by decide)) (hg 9 (by decide)) (hg 10 (by decide)) rfl, xp, fun b hb => ?_, x8.keptl (hg 1 (by decide)) rfl rfl rfl rfl⟩
  obtain ⟨r1, r2, r3, r4⟩ := x7 b hb
  exact ⟨r1, r2, fun z => ⟨(r3 z).1, Nat.lt_of_lt_of_le (r3 z).2 hnb⟩, r4⟩
theorem bodB_ex {n : Nat} (hn : n ≤ 50) {x : Int32} (h : bodB n x = true) : ∃ j : Nat, j < n ∧ (nI j).toNatClampNeg = j ∧ x = nI j := by
  simp only [bodB, decide_eq_true_eq] at h
  obtain ⟨j, hj, rfl⟩ := nI_of (x := x) (fun q => by rw [Int32.lt_iff_toInt_lt] at q; have : (0 : Int32).toInt = 0 := rfl; omega)
  rw [nI_toInt hj] at h
  exact ⟨j, by omega, nI_clamp hj, rfl⟩
theorem XT.put {t : List Nat} {g : Nat → Int32} {h : Nat → Nat → Int32} (x : XT t g h) (hl : t.length < 120) {a : Nat} (ha : a < 256) : XT (t ++ [a]) (va_up g 5 (nI (t.length + 1))) (va_up h 6 (upd (h 6) t.length (nI a))) := by
  refine ⟨?_, ?_, fun j b hb => ?_⟩
  · rw [List.length_append]; rfl
  · rw [List.length_append]; exact hl
  · show upd (h 6) t.length (nI a) j = nI b ∧ b < 256
    rcases Nat.lt_trichotomy j t.length with q | q | q
    · rw [List.getElem?_append_left q] at hb
      exact ⟨(if_neg (by omega)).trans (x.2.2 j b hb).1, (x.2.2 j b hb).2⟩
    · subst q
      rw [List.getElem?_append_right (Nat.le_refl _), Nat.sub_self] at hb
      cases hb
      exact ⟨if_pos rfl, ha⟩
    · rw [List.getElem?_eq_none (by rw [List.length_append]; exact q)] at hb
      cases hb
