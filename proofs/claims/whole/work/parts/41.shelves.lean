/-! shelves: what they hold in plain numbers, and the copy of a row's stretch -/
theorem w_ac1 : Cond.methodLink RX10 315 arraycopyName ∈ WU := WU_of (mT4 (List.mem_of_getElem? (i := 137) rfl)) rfl
theorem w_ac2 : Cond.native arraycopyName ∈ WU := WU_of (mT4 (List.mem_of_getElem? (i := 139) rfl)) rfl
theorem w_ac3 : Cond.static arraycopyName ∈ WU := WU_of (mT4 (List.mem_of_getElem? (i := 138) rfl)) rfl
theorem w_ac4 : Cond.initialized "java/lang/System" ∈ WU := WU_of (mT1 (List.mem_of_getElem? (i := 15) rfl)) rfl
theorem nfw : nativeFrameWords "java/lang/System" "arraycopy" 5 = 7 := by decide +kernel
section COPY
variable {p : Program} {l : Launch} {e : Env} {R : Room} {s : State} {m : MethodId} {args : Array Value} {below : List Frame} {meth : Method} {c : Code} {cells slots : Nat} {Q : State → Prop} {D : va_G} {tc tt : Nat → Nat} {A : Nat → Prop} {own : String} {cc : ByteArray} {nL d pc : Nat} {ws : va_W} {lv : List (Nat × Value)} {rest : List Value} {a : Nat}
theorem E_copyl (C : Cx p R s m args c own cc nL D tc tt A d) {idx : Nat} (hd : decode cc pc = .ok (.invokestatic idx, 3)) (hw1 : Cond.methodLink own idx arraycopyName ∈ WU) (q0 q1 : Nat) {a0 n0 n1 : Nat} {f g : Nat → Int64} (ha0 : ws[q0]? = some (a0, .inl (tc 1, n0, .inr (.inl f)))) (ha1 : ws[q1]? = some (a, .inl (tc 1, n1, .inr (.inl g)))) {sp dp n : Int32} (h1 : ¬ sp < 0) (h2 : ¬ dp < 0) (h3 : ¬ n < 0) (h4 : sp.toNatClampNeg + n.toNatClampNeg ≤ n0) (h5 : dp.toNatClampNeg + n.toNatClampNeg ≤ n1) (hdp : 1 ≤ d) (hrs : (rest.map fun v => v.category).sum ≤ 8) {ws' : va_W} (hw : ws.set q1 (a, .inl (tc 1, n1, .inr (.inl (va_cpy f g sp.toNatClampNeg dp.toNatClampNeg n.toNatClampNeg)))) = ws') (kk : Ev p l e R s m args below meth c cells slots Q D A nL ws' (pc + 3) lv rest) : Ev p l e R s m args below meth c cells slots Q D A nL ws pc lv (.int n :: .int dp :: .ref a :: .int sp :: .ref a0 :: rest) := by
  subst hw
  exact fun H locs ls hP hD hS hl => va_copyl C.1 C.2.1 (C.2.2.1.trans hl.1.symm) C.2.2.2.1 (C.2.2.2.2.1 _ hw1) (C.2.2.2.2.1 _ w_ac2) (C.2.2.2.2.1 _ w_ac3) (C.2.2.2.2.1 _ w_ac4) C.2.2.2.2.2.1 hP hD hS q0 q1 1 1 ha0 ha1 rfl rfl rfl h1 h2 h3 h4 h5 (fun _ _ => rfl) (Nat.le_trans hdp C.2.2.2.2.2.2.2.2.1) (Nat.le_trans (by rw [nfw]; omega) C.2.2.2.2.2.2.2.2.2) hd (fun H1 locs1 hP1 hD1 hS1 => kk H1 locs1 ls hP1 hD1 hS1 hl)
end COPY
abbrev SHT : Type := Nat × Nat × Nat × Nat × (Nat → Int64)
def inS (x : Int32) : Bool := decide (0 ≤ x ∧ x < 6)
def setSh (S : STT) (b : Nat) (q : SHT) : STT := (S.1, S.2.1, S.2.2.1, S.2.2.2.1, S.2.2.2.2.1, S.2.2.2.2.2.1, fun k => if k = b then q else S.2.2.2.2.2.2 k)
def rfPn (q : SHT) (i : Int32) : Int32 := if q.1 = 0 then -11 else if q.1 = 2 then (if hpB (nI q.2.2.2.1) i 1 then 0 else -13) else -12
def rfBn (q : SHT) : Int32 := if q.1 = 0 then -11 else if q.1 = 2 ∧ q.2.2.1 = 0 then 0 else -12
def aKeep (S : STT) (x b0 : Int32) : Int32 := if inS x = true ∧ (b0 = -1 ∨ bodB S.2.2.2.2.2.1.1 b0 = true) then 1 else -1
def nKeep (S : STT) (x b0 : Int32) : STT := if inS x = true ∧ (b0 = -1 ∨ bodB S.2.2.2.2.2.1.1 b0 = true) then setSh S x.toNatClampNeg (if b0 = -1 then 0 else 1, b0.toNatClampNeg, (S.2.2.2.2.2.2 x.toNatClampNeg).2.2) else S
def aRow (S : STT) (x so n : Int32) : Int32 := if inS x = true ∧ 0 ≤ so ∧ so < 5 ∧ n ≤ 60 then (if n < 0 then -14 else 1) else -1
def nRow (S : STT) (x so n : Int32) : STT := if inS x = true ∧ 0 ≤ so ∧ so < 5 ∧ n ≤ 60 ∧ 0 ≤ n then setSh S x.toNatClampNeg (2, (S.2.2.2.2.2.2 x.toNatClampNeg).2.1, so.toNatClampNeg, n.toNatClampNeg, fun _ => 0) else S
def aPut (S : STT) (x i : Int32) : Int32 := if inS x = true then (if rfPn (S.2.2.2.2.2.2 x.toNatClampNeg) i = 0 then 1 else rfPn (S.2.2.2.2.2.2 x.toNatClampNeg) i) else -1
def putQ (q : SHT) (i : Nat) (v : Int64) : SHT := (q.1, q.2.1, q.2.2.1, q.2.2.2.1, vp_updL q.2.2.2.2 i (lbF (nI q.2.2.1) v))
def nPut (S : STT) (x i : Int32) (v : Int64) : STT := if inS x = true ∧ rfPn (S.2.2.2.2.2.2 x.toNatClampNeg) i = 0 then setSh S x.toNatClampNeg (putQ (S.2.2.2.2.2.2 x.toNatClampNeg) i.toNatClampNeg v) else S
def aElem (S : STT) (x i : Int32) : Int64 := if inS x = true ∧ rfPn (S.2.2.2.2.2.2 x.toNatClampNeg) i = 0 then (S.2.2.2.2.2.2 x.toNatClampNeg).2.2.2.2 i.toNatClampNeg else lNone
def takK (S : STT) (q : SHT) (k : Int32) : Int32 := if q.1 = 0 then -11 else if q.1 = 1 then (if undR 8 (nI (S.2.2.2.2.2.1.2.1 q.2.1)) k = k then nI (S.2.2.2.2.2.1.2.1 q.2.1) else -12) else -12
def aTaken (S : STT) (x k : Int32) : Int32 := if inS x = true ∧ 0 ≤ k ∧ k < 8 then takK S (S.2.2.2.2.2.2 x.toNatClampNeg) k else -1
def shfK (a b : SHT) (i j n : Int32) : Int32 := if a.1 = 0 ∨ b.1 = 0 then -11 else if a.1 = 2 ∧ b.1 = 2 ∧ a.2.2.1 = b.2.2.1 then (if hpB (nI a.2.2.2.1) i n = true ∧ hpB (nI b.2.2.2.1) j n = true then n else -13) else -12
def shfB (a b : SHT) (i j n : Int32) : Bool := decide (a.1 = 2 ∧ b.1 = 2 ∧ a.2.2.1 = b.2.2.1 ∧ hpB (nI a.2.2.2.1) i n = true ∧ hpB (nI b.2.2.2.1) j n = true)
def aShift (S : STT) (x i x2 j n : Int32) : Int32 := if inS x = true ∧ inS x2 = true then shfK (S.2.2.2.2.2.2 x.toNatClampNeg) (S.2.2.2.2.2.2 x2.toNatClampNeg) i j n else -1
def shfQ (a b : SHT) (i j n : Nat) : SHT := (b.1, b.2.1, b.2.2.1, b.2.2.2.1, va_cpy a.2.2.2.2 b.2.2.2.2 i j n)
def nShift (S : STT) (x i x2 j n : Int32) : STT := if inS x = true ∧ inS x2 = true ∧ shfB (S.2.2.2.2.2.2 x.toNatClampNeg) (S.2.2.2.2.2.2 x2.toNatClampNeg) i j n = true then setSh S x2.toNatClampNeg (shfQ (S.2.2.2.2.2.2 x.toNatClampNeg) (S.2.2.2.2.2.2 x2.toNatClampNeg) i.toNatClampNeg j.toNatClampNeg n.toNatClampNeg) else S
theorem inS_ex {x : Int32} (h : inS x = true) : ∃ b : Nat, b < 6 ∧ (nI b).toNatClampNeg = b ∧ x = nI b := by
  simp only [inS, decide_eq_true_eq] at h
  obtain ⟨j, hj, rfl⟩ := nI_of (x := x) (Int32.not_lt.mpr h.1)
  exact ⟨j, (nI_ltI (b := 6) hj (by decide)).mp h.2, nI_clamp hj, rfl⟩
theorem hpB_ex {sz : Nat} (hs : sz ≤ 60) {i n : Int32} (h : hpB (nI sz) i n = true) : ∃ a b : Nat, a + b ≤ sz ∧ i = nI a ∧ n = nI b := by
  simp only [hpB, decide_eq_true_eq] at h
  obtain ⟨-, h2, h3, h4, h5⟩ := h
  obtain ⟨a, ha, rfl⟩ := nI_of (x := i) (Int32.not_lt.mpr h2)
  obtain ⟨b, hb, rfl⟩ := nI_of (x := n) (Int32.not_lt.mpr h3)
  have h4' := (nI_leI ha (by omega)).mp h4
  rw [pk_sub h4'] at h5
  have h5' := (nI_leI hb (by omega)).mp h5
  exact ⟨a, b, by omega, rfl, rfl⟩
theorem hpB_of {sz a b : Nat} (hs : sz ≤ 60) (h : a + b ≤ sz) : hpB (nI sz) (nI a) (nI b) = true := by
  simp only [hpB, decide_eq_true_eq]
  refine ⟨nI_le (b := 60) hs (by decide), nI_le (a := 0) (by omega) (by omega), nI_le (a := 0) (by omega) (by omega), nI_le (by omega) (by omega), ?_⟩
  rw [pk_sub (by omega)]
  exact nI_le (by omega) (by omega)
/-- a shelf's object holds a shelf -/
def SF (nb : Nat) (q : SHT) (d : (Nat → Int32) × (Nat → Int64)) : Prop := d.1 0 = nI q.1 ∧ q.1 ≤ 2 ∧ (q.1 = 1 → d.1 1 = nI q.2.1 ∧ q.2.1 < nb) ∧ (q.1 = 2 → d.1 2 = nI q.2.2.1 ∧ q.2.2.1 < 5 ∧ d.1 3 = nI q.2.2.2.1 ∧ q.2.2.2.1 ≤ 60 ∧ ∀ j, j < q.2.2.2.1 → d.2 j = q.2.2.2.2 j)
theorem XAll.sf {S : STT} {k : Nat} {W : Nat → Nat → Int32} {g : Nat → Int32} {h : Nat → Nat → Int32} {Dv : DV} {Sh : SV} {u : Nat → Int32} {v : Nat → Nat → Int32} (X : XAll S k W g h Dv Sh u v) {b : Nat} (hb : b < 6) : SF S.2.2.2.2.2.1.1 (S.2.2.2.2.2.2 b) (Sh b) := X.2.2.2.2.2.2.1 b hb
theorem XAll.shelf {S : STT} {k : Nat} {W : Nat → Nat → Int32} {g : Nat → Int32} {h : Nat → Nat → Int32} {Dv : DV} {Sh Sh' : SV} {u : Nat → Int32} {v : Nat → Nat → Int32} (X : XAll S k W g h Dv Sh u v) {b : Nat} {q : SHT} (hf : ∀ j, j ≠ b → Sh' j = Sh j) (hs : SF S.2.2.2.2.2.1.1 q (Sh' b)) : XAll (setSh S b q) (k + 1) W g h Dv Sh' u v := by
  obtain ⟨x1, x2, x3, x4, x5, x6, x7, x8⟩ := X
  refine ⟨x1, x2, x3, x4, x5, x6, fun j hj => ?_, x8.later⟩
  show SF S.2.2.2.2.2.1.1 (if j = b then q else S.2.2.2.2.2.2 j) (Sh' j)
  by_cases e : j = b
  · subst e
    rw [if_pos rfl]
    exact hs
  · rw [if_neg e, hf j e]
    exact x7 j hj
theorem SF.rp {nb : Nat} {q : SHT} {d : (Nat → Int32) × (Nat → Int64)} (h : SF nb q d) (i : Int32) : rfP d.1 i = rfPn q i := by
  obtain ⟨h1, h2, -, h4⟩ := h
  unfold rfP rfPn
  rw [h1]
  by_cases e0 : q.1 = 0
  · rw [if_pos e0, if_pos (by rw [e0]; rfl)]
  · rw [if_neg e0, if_neg (nI_ne0 (by omega) (by omega))]
    by_cases e2 : q.1 = 2
    · rw [if_pos e2, if_pos (by rw [e2]; rfl), (h4 e2).2.2.1]
    · have n2 : ¬ nI q.1 = (2 : Int32) := fun z => e2 ((nI_eq (b := 2) (by omega) (by decide)).mp z)
      rw [if_neg e2, if_neg n2]
theorem ite_iff2 {α : Type} {p q : Prop} [Decidable p] [Decidable q] (h : p ↔ q) (a b : α) : (if p then a else b) = (if q then a else b) := by
  by_cases hp : p
  · rw [if_pos hp, if_pos (h.mp hp)]
  · rw [if_neg hp, if_neg (fun z => hp (h.mpr z))]
theorem SF.rb {nb : Nat} {q : SHT} {d : (Nat → Int32) × (Nat → Int64)} (h : SF nb q d) : rfB d.1 = rfBn q := by
  obtain ⟨h1, h2, -, h4⟩ := h
  unfold rfB rfBn byB
  rw [h1]
  by_cases e0 : q.1 = 0
  · rw [if_pos e0, if_pos (by rw [e0]; rfl)]
  · rw [if_neg e0, if_neg (nI_ne0 (by omega) (by omega))]
    refine ite_iff2 (Iff.intro (fun z => ?_) (fun z => ?_)) _ _
    · have z' := of_decide_eq_true z
      have e2 : q.1 = 2 := (nI_eq (b := 2) (by omega) (by decide)).mp z'.1
      have z2 := z'.2
      rw [(h4 e2).1] at z2
      have h5 := (h4 e2).2.1
      exact ⟨e2, (nI_eq (b := 0) (by omega) (by decide)).mp z2⟩
    · obtain ⟨e2, e3⟩ := z
      have h5 := (h4 e2).1
      refine decide_eq_true ⟨?_, ?_⟩
      · rw [e2]; rfl
      · rw [h5, e3]; rfl
theorem rfPn_0 {q : SHT} {i : Int32} (h : rfPn q i = 0) : q.1 = 2 ∧ hpB (nI q.2.2.2.1) i 1 = true := by
  unfold rfPn at h
  by_cases e0 : q.1 = 0
  · rw [if_pos e0] at h; exact absurd h (by decide)
  · rw [if_neg e0] at h
    by_cases e2 : q.1 = 2
    · rw [if_pos e2] at h
      by_cases e3 : hpB (nI q.2.2.2.1) i 1 = true
      · exact ⟨e2, e3⟩
      · rw [if_neg e3] at h; exact absurd h (by decide)
    · rw [if_neg e2] at h; exact absurd h (by decide)
theorem rfBn_0 {q : SHT} (h : rfBn q = 0) : q.1 = 2 ∧ q.2.2.1 = 0 := by
  unfold rfBn at h
  by_cases e0 : q.1 = 0
  · rw [if_pos e0] at h; exact absurd h (by decide)
  · rw [if_neg e0] at h
    by_cases e2 : q.1 = 2 ∧ q.2.2.1 = 0
    · exact e2
    · rw [if_neg e2] at h; exact absurd h (by decide)
