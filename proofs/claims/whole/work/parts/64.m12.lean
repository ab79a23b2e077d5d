/-! the reference: bodies and acts -/
def undM (k x : Int32) : Bool := decide (x = 0 ∨ k = x ∨ (x = 1 ∧ k = 4) ∨ (x = 2 ∧ (k = 3 ∨ k = 5)) ∨ (x = 3 ∧ k = 5) ∨ (x = 6 ∧ k = 7))
theorem undM_R : ∀ kd, kd < 8 → ∀ xn, xn < 8 → (undR 8 (nI kd) (nI xn) = nI xn ↔ undM (nI kd) (nI xn) = true) := by decide +kernel
/-- the reference's acts, over the trace -/
def pGo (sf x : Int32) (q : AT) : Int32 × AT := (x + sf, noteF q 1)
def lGo (sf x : Int32) (q : AT) : Int32 × AT := ((pGo sf x (noteF q 70)).1 * 2, (pGo sf x (noteF q 70)).2)
def goM (k sf x : Int32) (q : AT) : Int32 × AT := if undM k 1 = true then ((pGo sf x (noteF q 20)).1 + 3, (pGo sf x (noteF q 20)).2) else if k = 7 then ((lGo sf x (noteF q 81)).1 - 1, (lGo sf x (noteF q 81)).2) else if k = 6 then lGo sf x q else pGo sf x q
def pFi (k sf x : Int32) (q : AT) : Int32 × AT := ((goM k sf x (noteF q 10)).1 * 2, (goM k sf x (noteF q 10)).2)
def lFi (k sf x : Int32) (q : AT) : Int32 × AT := (-(pFi k sf x (noteF q 30)).1, (pFi k sf x (noteF q 30)).2)
def pSe (sf x : Int32) (q : AT) : Int32 × AT := (x ^^^ sf, noteF q 11)
def oSe (sf x : Int32) (q : AT) : Int32 × AT := ((pSe sf x (noteF q 40)).1 * 3, (pSe sf x (noteF q 40)).2)
def seM (k sf x : Int32) (q : AT) : Int32 × AT := if k = 5 then ((oSe sf x (noteF q 60)).1 - (goM k sf 2 (oSe sf x (noteF q 60)).2).1, (goM k sf 2 (oSe sf x (noteF q 60)).2).2) else if k = 3 then oSe sf x q else pSe sf x q
def fiM (k sf x : Int32) (q : AT) : Int32 × AT := if undM k 3 = true then lFi k sf (x + 1) (noteF q 41) else if k = 7 then ((pFi k sf x (noteF q 80)).1 + (seM k sf 2 (pFi k sf x (noteF q 80)).2).1, (seM k sf 2 (pFi k sf x (noteF q 80)).2).2) else if k = 2 then lFi k sf x q else pFi k sf x q
def pTe (k sf x : Int32) (q : AT) : Int32 × AT := ((fiM k sf x (noteF q 2)).1 - (seM k sf 1 (fiM k sf x (noteF q 2)).2).1, (seM k sf 1 (fiM k sf x (noteF q 2)).2).2)
def teM (k sf x : Int32) (q : AT) : Int32 × AT := if k = 4 then ((pTe k sf x (noteF q 50)).1 ^^^ 5, (pTe k sf x (noteF q 50)).2) else if k = 5 then ((pTe k sf x (noteF q 61)).1 + 1, (pTe k sf x (noteF q 61)).2) else pTe k sf x q
/-- the trace's length is small -/
def Nn (c : Nat) (q : AT) : Prop := ∃ k : Nat, q.1 = nI k ∧ k ≤ c
theorem Nn.le {c c' : Nat} {q : AT} (h : Nn c q) (hc : c ≤ c') : Nn c' q := by
  obtain ⟨k, h1, h2⟩ := h
  exact ⟨k, h1, by omega⟩
theorem Nn.n {c : Nat} {q : AT} (h : Nn c q) (b : Int32) : Nn (c + 1) (noteF q b) := by
  obtain ⟨k, h1, h2⟩ := h
  refine ⟨k + 1, ?_, by omega⟩
  show q.1 + 1 = _
  rw [h1, nI_1]
theorem nn_go {c : Nat} {k sf x : Int32} {q : AT} (h : Nn c q) : Nn (c + 3) (goM k sf x q).2 := by
  unfold goM
  repeat' split
  · exact ((h.n 20).n 1).le (by omega)
  · exact ((h.n 81).n 70).n 1
  · exact ((h.n 70).n 1).le (by omega)
  · exact (h.n 1).le (by omega)
theorem nn_pFi {c : Nat} {k sf x : Int32} {q : AT} (h : Nn c q) : Nn (c + 4) (pFi k sf x q).2 := (nn_go (h.n 10)).le (by omega)
theorem nn_lFi {c : Nat} {k sf x : Int32} {q : AT} (h : Nn c q) : Nn (c + 5) (lFi k sf x q).2 := (nn_pFi (h.n 30)).le (by omega)
theorem nn_oSe {c : Nat} {sf x : Int32} {q : AT} (h : Nn c q) : Nn (c + 2) (oSe sf x q).2 := (h.n 40).n 11
theorem nn_se {c : Nat} {k sf x : Int32} {q : AT} (h : Nn c q) : Nn (c + 6) (seM k sf x q).2 := by
  unfold seM
  repeat' split
  · exact (nn_go (nn_oSe (h.n 60))).le (by omega)
  · exact (nn_oSe h).le (by omega)
  · exact (h.n 11).le (by omega)
theorem nn_fi {c : Nat} {k sf x : Int32} {q : AT} (h : Nn c q) : Nn (c + 11) (fiM k sf x q).2 := by
  unfold fiM
  repeat' split
  · exact (nn_lFi (h.n 41)).le (by omega)
  · exact (nn_se (nn_pFi (h.n 80))).le (by omega)
  · exact (nn_lFi h).le (by omega)
  · exact (nn_pFi h).le (by omega)
theorem nn_pTe {c : Nat} {k sf x : Int32} {q : AT} (h : Nn c q) : Nn (c + 18) (pTe k sf x q).2 := (nn_se (nn_fi (h.n 2))).le (by omega)
section PERF
variable {sf ow : Int32}
theorem P_00 (n : Nat) (x : Int32) (q : AT) : perfF sf ow (n + 1) 0 0 x q = perfB sf ow (perfF sf ow n) 1 (-1) x (noteF q 1) := by
  rw [perfF_s (by decide), show ownF (neaR 8 0 0) 0 = 1 from by decide, show abvF (neaR 8 0 0) = (-1) from by decide]
theorem P_01 (n : Nat) (x : Int32) (q : AT) : perfF sf ow (n + 1) 0 1 x q = perfB sf ow (perfF sf ow n) 10 (-1) x (noteF q 10) := by
  rw [perfF_s (by decide), show ownF (neaR 8 0 1) 1 = 10 from by decide, show abvF (neaR 8 0 1) = (-1) from by decide]
theorem P_02 (n : Nat) (x : Int32) (q : AT) : perfF sf ow (n + 1) 0 2 x q = perfB sf ow (perfF sf ow n) 11 (-1) x (noteF q 11) := by
  rw [perfF_s (by decide), show ownF (neaR 8 0 2) 2 = 11 from by decide, show abvF (neaR 8 0 2) = (-1) from by decide]
theorem P_03 (n : Nat) (x : Int32) (q : AT) : perfF sf ow (n + 1) 0 3 x q = perfB sf ow (perfF sf ow n) 2 (-1) x (noteF q 2) := by
  rw [perfF_s (by decide), show ownF (neaR 8 0 3) 3 = 2 from by decide, show abvF (neaR 8 0 3) = (-1) from by decide]
theorem P_10 (n : Nat) (x : Int32) (q : AT) : perfF sf ow (n + 1) 1 0 x q = perfB sf ow (perfF sf ow n) 20 0 x (noteF q 20) := by
  rw [perfF_s (by decide), show ownF (neaR 8 1 0) 0 = 20 from by decide, show abvF (neaR 8 1 0) = 0 from by decide]
theorem P_11 (n : Nat) (x : Int32) (q : AT) : perfF sf ow (n + 1) 1 1 x q = perfB sf ow (perfF sf ow n) 10 (-1) x (noteF q 10) := by
  rw [perfF_s (by decide), show ownF (neaR 8 1 1) 1 = 10 from by decide, show abvF (neaR 8 1 1) = (-1) from by decide]
theorem P_12 (n : Nat) (x : Int32) (q : AT) : perfF sf ow (n + 1) 1 2 x q = perfB sf ow (perfF sf ow n) 11 (-1) x (noteF q 11) := by
  rw [perfF_s (by decide), show ownF (neaR 8 1 2) 2 = 11 from by decide, show abvF (neaR 8 1 2) = (-1) from by decide]
theorem P_13 (n : Nat) (x : Int32) (q : AT) : perfF sf ow (n + 1) 1 3 x q = perfB sf ow (perfF sf ow n) 2 (-1) x (noteF q 2) := by
  rw [perfF_s (by decide), show ownF (neaR 8 1 3) 3 = 2 from by decide, show abvF (neaR 8 1 3) = (-1) from by decide]
theorem P_20 (n : Nat) (x : Int32) (q : AT) : perfF sf ow (n + 1) 2 0 x q = perfB sf ow (perfF sf ow n) 1 (-1) x (noteF q 1) := by
  rw [perfF_s (by decide), show ownF (neaR 8 2 0) 0 = 1 from by decide, show abvF (neaR 8 2 0) = (-1) from by decide]
theorem P_21 (n : Nat) (x : Int32) (q : AT) : perfF sf ow (n + 1) 2 1 x q = perfB sf ow (perfF sf ow n) 30 0 x (noteF q 30) := by
  rw [perfF_s (by decide), show ownF (neaR 8 2 1) 1 = 30 from by decide, show abvF (neaR 8 2 1) = 0 from by decide]
theorem P_22 (n : Nat) (x : Int32) (q : AT) : perfF sf ow (n + 1) 2 2 x q = perfB sf ow (perfF sf ow n) 11 (-1) x (noteF q 11) := by
  rw [perfF_s (by decide), show ownF (neaR 8 2 2) 2 = 11 from by decide, show abvF (neaR 8 2 2) = (-1) from by decide]
theorem P_23 (n : Nat) (x : Int32) (q : AT) : perfF sf ow (n + 1) 2 3 x q = perfB sf ow (perfF sf ow n) 2 (-1) x (noteF q 2) := by
  rw [perfF_s (by decide), show ownF (neaR 8 2 3) 3 = 2 from by decide, show abvF (neaR 8 2 3) = (-1) from by decide]
theorem P_30 (n : Nat) (x : Int32) (q : AT) : perfF sf ow (n + 1) 3 0 x q = perfB sf ow (perfF sf ow n) 1 (-1) x (noteF q 1) := by
  rw [perfF_s (by decide), show ownF (neaR 8 3 0) 0 = 1 from by decide, show abvF (neaR 8 3 0) = (-1) from by decide]
theorem P_31 (n : Nat) (x : Int32) (q : AT) : perfF sf ow (n + 1) 3 1 x q = perfB sf ow (perfF sf ow n) 41 2 x (noteF q 41) := by
  rw [perfF_s (by decide), show ownF (neaR 8 3 1) 1 = 41 from by decide, show abvF (neaR 8 3 1) = 2 from by decide]
theorem P_32 (n : Nat) (x : Int32) (q : AT) : perfF sf ow (n + 1) 3 2 x q = perfB sf ow (perfF sf ow n) 40 2 x (noteF q 40) := by
  rw [perfF_s (by decide), show ownF (neaR 8 3 2) 2 = 40 from by decide, show abvF (neaR 8 3 2) = 2 from by decide]
theorem P_33 (n : Nat) (x : Int32) (q : AT) : perfF sf ow (n + 1) 3 3 x q = perfB sf ow (perfF sf ow n) 2 (-1) x (noteF q 2) := by
  rw [perfF_s (by decide), show ownF (neaR 8 3 3) 3 = 2 from by decide, show abvF (neaR 8 3 3) = (-1) from by decide]
theorem P_40 (n : Nat) (x : Int32) (q : AT) : perfF sf ow (n + 1) 4 0 x q = perfB sf ow (perfF sf ow n) 20 0 x (noteF q 20) := by
  rw [perfF_s (by decide), show ownF (neaR 8 4 0) 0 = 20 from by decide, show abvF (neaR 8 4 0) = 0 from by decide]
theorem P_41 (n : Nat) (x : Int32) (q : AT) : perfF sf ow (n + 1) 4 1 x q = perfB sf ow (perfF sf ow n) 10 (-1) x (noteF q 10) := by
  rw [perfF_s (by decide), show ownF (neaR 8 4 1) 1 = 10 from by decide, show abvF (neaR 8 4 1) = (-1) from by decide]
theorem P_42 (n : Nat) (x : Int32) (q : AT) : perfF sf ow (n + 1) 4 2 x q = perfB sf ow (perfF sf ow n) 11 (-1) x (noteF q 11) := by
  rw [perfF_s (by decide), show ownF (neaR 8 4 2) 2 = 11 from by decide, show abvF (neaR 8 4 2) = (-1) from by decide]
theorem P_43 (n : Nat) (x : Int32) (q : AT) : perfF sf ow (n + 1) 4 3 x q = perfB sf ow (perfF sf ow n) 50 1 x (noteF q 50) := by
  rw [perfF_s (by decide), show ownF (neaR 8 4 3) 3 = 50 from by decide, show abvF (neaR 8 4 3) = 1 from by decide]
theorem P_50 (n : Nat) (x : Int32) (q : AT) : perfF sf ow (n + 1) 5 0 x q = perfB sf ow (perfF sf ow n) 1 (-1) x (noteF q 1) := by
  rw [perfF_s (by decide), show ownF (neaR 8 5 0) 0 = 1 from by decide, show abvF (neaR 8 5 0) = (-1) from by decide]
theorem P_51 (n : Nat) (x : Int32) (q : AT) : perfF sf ow (n + 1) 5 1 x q = perfB sf ow (perfF sf ow n) 41 2 x (noteF q 41) := by
  rw [perfF_s (by decide), show ownF (neaR 8 5 1) 1 = 41 from by decide, show abvF (neaR 8 5 1) = 2 from by decide]
theorem P_52 (n : Nat) (x : Int32) (q : AT) : perfF sf ow (n + 1) 5 2 x q = perfB sf ow (perfF sf ow n) 60 3 x (noteF q 60) := by
  rw [perfF_s (by decide), show ownF (neaR 8 5 2) 2 = 60 from by decide, show abvF (neaR 8 5 2) = 3 from by decide]
theorem P_53 (n : Nat) (x : Int32) (q : AT) : perfF sf ow (n + 1) 5 3 x q = perfB sf ow (perfF sf ow n) 61 3 x (noteF q 61) := by
  rw [perfF_s (by decide), show ownF (neaR 8 5 3) 3 = 61 from by decide, show abvF (neaR 8 5 3) = 3 from by decide]
theorem P_60 (n : Nat) (x : Int32) (q : AT) : perfF sf ow (n + 1) 6 0 x q = perfB sf ow (perfF sf ow n) 70 0 x (noteF q 70) := by
  rw [perfF_s (by decide), show ownF (neaR 8 6 0) 0 = 70 from by decide, show abvF (neaR 8 6 0) = 0 from by decide]
theorem P_61 (n : Nat) (x : Int32) (q : AT) : perfF sf ow (n + 1) 6 1 x q = perfB sf ow (perfF sf ow n) 10 (-1) x (noteF q 10) := by
  rw [perfF_s (by decide), show ownF (neaR 8 6 1) 1 = 10 from by decide, show abvF (neaR 8 6 1) = (-1) from by decide]
theorem P_62 (n : Nat) (x : Int32) (q : AT) : perfF sf ow (n + 1) 6 2 x q = perfB sf ow (perfF sf ow n) 11 (-1) x (noteF q 11) := by
  rw [perfF_s (by decide), show ownF (neaR 8 6 2) 2 = 11 from by decide, show abvF (neaR 8 6 2) = (-1) from by decide]
theorem P_63 (n : Nat) (x : Int32) (q : AT) : perfF sf ow (n + 1) 6 3 x q = perfB sf ow (perfF sf ow n) 2 (-1) x (noteF q 2) := by
  rw [perfF_s (by decide), show ownF (neaR 8 6 3) 3 = 2 from by decide, show abvF (neaR 8 6 3) = (-1) from by decide]
theorem P_70 (n : Nat) (x : Int32) (q : AT) : perfF sf ow (n + 1) 7 0 x q = perfB sf ow (perfF sf ow n) 81 6 x (noteF q 81) := by
  rw [perfF_s (by decide), show ownF (neaR 8 7 0) 0 = 81 from by decide, show abvF (neaR 8 7 0) = 6 from by decide]
theorem P_71 (n : Nat) (x : Int32) (q : AT) : perfF sf ow (n + 1) 7 1 x q = perfB sf ow (perfF sf ow n) 80 6 x (noteF q 80) := by
  rw [perfF_s (by decide), show ownF (neaR 8 7 1) 1 = 80 from by decide, show abvF (neaR 8 7 1) = 6 from by decide]
theorem P_72 (n : Nat) (x : Int32) (q : AT) : perfF sf ow (n + 1) 7 2 x q = perfB sf ow (perfF sf ow n) 11 (-1) x (noteF q 11) := by
  rw [perfF_s (by decide), show ownF (neaR 8 7 2) 2 = 11 from by decide, show abvF (neaR 8 7 2) = (-1) from by decide]
theorem P_73 (n : Nat) (x : Int32) (q : AT) : perfF sf ow (n + 1) 7 3 x q = perfB sf ow (perfF sf ow n) 2 (-1) x (noteF q 2) := by
  rw [perfF_s (by decide), show ownF (neaR 8 7 3) 3 = 2 from by decide, show abvF (neaR 8 7 3) = (-1) from by decide]
theorem Q_go0 (n : Nat) (x : Int32) (q : AT) : perfF sf ow (n + 1) 0 0 x q = pGo sf x q := by rw [P_00]; rfl
theorem Q_go6 (n : Nat) (x : Int32) (q : AT) : perfF sf ow (n + 2) 6 0 x q = lGo sf x q := by
  rw [P_60]
  show ((perfF sf ow (n + 1) 0 0 x (noteF q 70)).1 * 2, (perfF sf ow (n + 1) 0 0 x (noteF q 70)).2) = _
  rw [Q_go0]; rfl
theorem Q_go {kd : Nat} (hk : kd < 8) (n : Nat) (x : Int32) (q : AT) : perfF sf (nI kd) (n + 3) (nI kd) 0 x q = goM (nI kd) sf x q := by
  rcases (show kd = 0 ∨ kd = 1 ∨ kd = 2 ∨ kd = 3 ∨ kd = 4 ∨ kd = 5 ∨ kd = 6 ∨ kd = 7 by omega) with rfl | rfl | rfl | rfl | rfl | rfl | rfl | rfl
  · exact Q_go0 (n + 2) x q
  · refine (P_10 (n + 2) x q).trans ?_
    show ((perfF sf _ (n + 1 + 1) 0 0 x (noteF q 20)).1 + 3, (perfF sf _ (n + 1 + 1) 0 0 x (noteF q 20)).2) = _
    rw [Q_go0]; rfl
  · refine (P_20 (n + 2) x q).trans ?_; rfl
  · refine (P_30 (n + 2) x q).trans ?_; rfl
  · refine (P_40 (n + 2) x q).trans ?_
    show ((perfF sf _ (n + 1 + 1) 0 0 x (noteF q 20)).1 + 3, (perfF sf _ (n + 1 + 1) 0 0 x (noteF q 20)).2) = _
    rw [Q_go0]; rfl
  · refine (P_50 (n + 2) x q).trans ?_; rfl
  · exact Q_go6 (n + 1) x q
  · refine (P_70 (n + 2) x q).trans ?_
    show ((perfF sf _ (n + 2) 6 0 x (noteF q 81)).1 - 1, (perfF sf _ (n + 2) 6 0 x (noteF q 81)).2) = _
    rw [Q_go6]; rfl
theorem Q_fi0 {kd : Nat} (hk : kd < 8) (n : Nat) (x : Int32) (q : AT) : perfF sf (nI kd) (n + 4) 0 1 x q = pFi (nI kd) sf x q := by
  rw [P_01]
  show ((perfF sf (nI kd) (n + 3) (nI kd) 0 x (noteF q 10)).1 * 2, (perfF sf (nI kd) (n + 3) (nI kd) 0 x (noteF q 10)).2) = _
  rw [Q_go hk]; rfl
theorem Q_fi2 {kd : Nat} (hk : kd < 8) (n : Nat) (x : Int32) (q : AT) : perfF sf (nI kd) (n + 5) 2 1 x q = lFi (nI kd) sf x q := by
  rw [P_21]
  show (-(perfF sf (nI kd) (n + 4) 0 1 x (noteF q 30)).1, (perfF sf (nI kd) (n + 4) 0 1 x (noteF q 30)).2) = _
  rw [Q_fi0 hk]; rfl
theorem Q_se0 (n : Nat) (x : Int32) (q : AT) : perfF sf ow (n + 1) 0 2 x q = pSe sf x q := by rw [P_02]; rfl
theorem Q_se2 (n : Nat) (x : Int32) (q : AT) : perfF sf ow (n + 1) 2 2 x q = pSe sf x q := by rw [P_22]; rfl
theorem Q_se3 (n : Nat) (x : Int32) (q : AT) : perfF sf ow (n + 2) 3 2 x q = oSe sf x q := by
  rw [P_32]
  show ((perfF sf ow (n + 1) 2 2 x (noteF q 40)).1 * 3, (perfF sf ow (n + 1) 2 2 x (noteF q 40)).2) = _
  rw [Q_se2]; rfl
theorem Q_se {kd : Nat} (hk : kd < 8) (n : Nat) (x : Int32) (q : AT) : perfF sf (nI kd) (n + 4) (nI kd) 2 x q = seM (nI kd) sf x q := by
  rcases (show kd = 0 ∨ kd = 1 ∨ kd = 2 ∨ kd = 3 ∨ kd = 4 ∨ kd = 5 ∨ kd = 6 ∨ kd = 7 by omega) with rfl | rfl | rfl | rfl | rfl | rfl | rfl | rfl
  · exact Q_se0 (n + 3) x q
  · refine (P_12 (n + 3) x q).trans ?_; rfl
  · exact Q_se2 (n + 3) x q
  · exact Q_se3 (n + 2) x q
  · refine (P_42 (n + 3) x q).trans ?_; rfl
  · refine (P_52 (n + 3) x q).trans ?_
    show ((perfF sf (nI 5) (n + 1 + 2) 3 2 x (noteF q 60)).1 - (perfF sf (nI 5) (n + 3) (nI 5) 0 2 (perfF sf (nI 5) (n + 1 + 2) 3 2 x (noteF q 60)).2).1, (perfF sf (nI 5) (n + 3) (nI 5) 0 2 (perfF sf (nI 5) (n + 1 + 2) 3 2 x (noteF q 60)).2).2) = _
    rw [Q_se3, Q_go (by decide)]; rfl
  · refine (P_62 (n + 3) x q).trans ?_; rfl
  · refine (P_72 (n + 3) x q).trans ?_; rfl
theorem Q_fi {kd : Nat} (hk : kd < 8) (n : Nat) (x : Int32) (q : AT) : perfF sf (nI kd) (n + 7) (nI kd) 1 x q = fiM (nI kd) sf x q := by
  rcases (show kd = 0 ∨ kd = 1 ∨ kd = 2 ∨ kd = 3 ∨ kd = 4 ∨ kd = 5 ∨ kd = 6 ∨ kd = 7 by omega) with rfl | rfl | rfl | rfl | rfl | rfl | rfl | rfl
  · exact Q_fi0 (by decide) (n + 3) x q
  · refine (P_11 (n + 6) x q).trans ((P_01 (n + 6) x q).symm.trans ?_); exact Q_fi0 (kd := 1) (by decide) (n + 3) x q
  · exact Q_fi2 (by decide) (n + 2) x q
  · refine (P_31 (n + 6) x q).trans ?_
    show ((perfF sf (nI 3) (n + 1 + 5) 2 1 (x + 1) (noteF q 41)).1, (perfF sf (nI 3) (n + 1 + 5) 2 1 (x + 1) (noteF q 41)).2) = _
    rw [Q_fi2 (by decide)]; rfl
  · refine (P_41 (n + 6) x q).trans ((P_01 (n + 6) x q).symm.trans ?_); exact Q_fi0 (kd := 4) (by decide) (n + 3) x q
  · refine (P_51 (n + 6) x q).trans ?_
    show ((perfF sf (nI 5) (n + 1 + 5) 2 1 (x + 1) (noteF q 41)).1, (perfF sf (nI 5) (n + 1 + 5) 2 1 (x + 1) (noteF q 41)).2) = _
    rw [Q_fi2 (by decide)]; rfl
  · refine (P_61 (n + 6) x q).trans ((P_01 (n + 6) x q).symm.trans ?_); exact Q_fi0 (kd := 6) (by decide) (n + 3) x q
  · refine (P_71 (n + 6) x q).trans ?_
    show ((perfF sf (nI 7) (n + 6) 6 1 x (noteF q 80)).1 + (perfF sf (nI 7) (n + 2 + 4) (nI 7) 2 2 (perfF sf (nI 7) (n + 6) 6 1 x (noteF q 80)).2).1, (perfF sf (nI 7) (n + 2 + 4) (nI 7) 2 2 (perfF sf (nI 7) (n + 6) 6 1 x (noteF q 80)).2).2) = _
    have e : ∀ q', perfF sf (nI 7) (n + 6) 6 1 x q' = pFi (nI 7) sf x q' := fun q' => (P_61 (n + 5) x q').trans ((P_01 (n + 5) x q').symm.trans (Q_fi0 (kd := 7) (by decide) (n + 2) x q'))
    rw [e, Q_se (by decide)]; rfl
theorem Q_te0 {kd : Nat} (hk : kd < 8) (n : Nat) (x : Int32) (q : AT) : perfF sf (nI kd) (n + 8) 0 3 x q = pTe (nI kd) sf x q := by
  rw [P_03]
  show ((perfF sf (nI kd) (n + 7) (nI kd) 1 x (noteF q 2)).1 - (perfF sf (nI kd) (n + 3 + 4) (nI kd) 2 1 (perfF sf (nI kd) (n + 7) (nI kd) 1 x (noteF q 2)).2).1, (perfF sf (nI kd) (n + 3 + 4) (nI kd) 2 1 (perfF sf (nI kd) (n + 7) (nI kd) 1 x (noteF q 2)).2).2) = _
  rw [Q_fi hk, Q_se hk]; rfl
theorem Q_te {kd : Nat} (hk : kd < 8) (n : Nat) (x : Int32) (q : AT) : perfF sf (nI kd) (n + 9) (nI kd) 3 x q = teM (nI kd) sf x q := by
  rcases (show kd = 0 ∨ kd = 1 ∨ kd = 2 ∨ kd = 3 ∨ kd = 4 ∨ kd = 5 ∨ kd = 6 ∨ kd = 7 by omega) with rfl | rfl | rfl | rfl | rfl | rfl | rfl | rfl
  · exact Q_te0 (by decide) (n + 1) x q
  · refine (P_13 (n + 8) x q).trans ((P_03 (n + 8) x q).symm.trans ?_); exact Q_te0 (kd := 1) (by decide) (n + 1) x q
  · refine (P_23 (n + 8) x q).trans ((P_03 (n + 8) x q).symm.trans ?_); exact Q_te0 (kd := 2) (by decide) (n + 1) x q
  · refine (P_33 (n + 8) x q).trans ((P_03 (n + 8) x q).symm.trans ?_); exact Q_te0 (kd := 3) (by decide) (n + 1) x q
  · refine (P_43 (n + 8) x q).trans ?_
    show ((perfF sf (nI 4) (n + 8) 1 3 x (noteF q 50)).1 ^^^ 5, (perfF sf (nI 4) (n + 8) 1 3 x (noteF q 50)).2) = _
    have e : ∀ q', perfF sf (nI 4) (n + 8) 1 3 x q' = pTe (nI 4) sf x q' := fun q' => (P_13 (n + 7) x q').trans ((P_03 (n + 7) x q').symm.trans (Q_te0 (kd := 4) (by decide) n x q'))
    rw [e]; rfl
  · refine (P_53 (n + 8) x q).trans ?_
    show ((perfF sf (nI 5) (n + 8) 3 3 x (noteF q 61)).1 + 1, (perfF sf (nI 5) (n + 8) 3 3 x (noteF q 61)).2) = _
    have e : ∀ q', perfF sf (nI 5) (n + 8) 3 3 x q' = pTe (nI 5) sf x q' := fun q' => (P_33 (n + 7) x q').trans ((P_03 (n + 7) x q').symm.trans (Q_te0 (kd := 5) (by decide) n x q'))
    rw [e]; rfl
  · refine (P_63 (n + 8) x q).trans ((P_03 (n + 8) x q).symm.trans ?_); exact Q_te0 (kd := 6) (by decide) (n + 1) x q
  · refine (P_73 (n + 8) x q).trans ((P_03 (n + 8) x q).symm.trans ?_); exact Q_te0 (kd := 7) (by decide) (n + 1) x q
end PERF
theorem up_up {α : Type} (f : Nat → α) (k : Nat) (a b : α) : va_up (va_up f k a) k b = va_up f k b := by
  funext j
  unfold va_up
  by_cases e : j = k
  · rw [if_pos e, if_pos e]
  · rw [if_neg e, if_neg e, if_neg e]
theorem MAll.acts {S : STT} {g g' : Nat → Int32} {h h' : Nat → Nat → Int32} {el : Nat → Int64} (M : MAll S g h el) {q : Nat × (Nat → Nat) × AT} (hn : S.2.2.2.2.2.1.1 ≤ q.1) (hg : ∀ k, k ≠ 45 → k ≠ 47 → g' k = g k) (hh : ∀ k, k ≠ 46 → k ≠ 48 → h' k = h k) (mp : MP q g' h') : MAll (S.1, S.2.1, S.2.2.1, S.2.2.2.1, S.2.2.2.2.1, q, S.2.2.2.2.2.2) g' h' el := by
  obtain ⟨m1, m2, m3, m4, m5, m6, m7, m8⟩ := M
  refine ⟨m1.kept (hg 1 (by decide) (by decide)) (hg 9 (by decide) (by decide)) (fun k _ k2 => hh k (by omega) (by omega)), m2.kept (hg 10 (by decide) (by decide)) (hg 11 (by decide) (by decide)) (fun k _ k2 => hh k (by omega) (by omega)), m3.kept (hg 17 (by decide) (by decide)) (hh 16 (by decide) (by decide)), m4.kept (hh 42 (by decide) (by decide)), m5.kept (hg 44 (by decide) (by decide)) (hh 43 (by decide) (by decide)), mp, ?_, m8.kept (hg 29 (by decide) (by decide)) (fun k _ k2 => hh k (by omega) (by omega))⟩
  intro b hb
  obtain ⟨k1, k2, k3, k4⟩ := (m7.kept (hh 49 (by decide) (by decide)) (hh 50 (by decide) (by decide)) : MSs _ _ h' el) b hb
  exact ⟨k1, k2, fun z => ⟨(k3 z).1, Nat.lt_of_lt_of_le (k3 z).2 hn⟩, k4⟩
set_option maxRecDepth 100000 in
set_option maxHeartbeats 4000000 in
theorem m_isBody {l : Launch} {D : va_G} {tc tt ad : Nat → Nat} {g : Nat → Int32} {h : Nat → Nat → Int32} {el : Nat → Int64} {u : Nat → Int32} {v : Nat → Nat → Int32} {sf : Nat → Int64} {nb : Nat} (hb0 : g 45 = nI nb) (hb50 : nb ≤ 50) (x : Int32) : Ct l yX11_isBody cX11_isBody 2 (some .boolean) 2 D tc tt [.ref (ad 0), .int x] (hm ad tc g h el u v sf) (PI fun r w => r = (if bodB nb x = true then 1 else 0) ∧ w = hm ad tc g h el u v sf) := by
  refine Ct.of (by decide +kernel) (Nat.le_of_ble_eq_true rfl) ?_
  intro p e R s m args below meth c A C hr hlk
  refine E_iload_n C dX11_isBody_0 1 rfl (E_iconst (v := 0) C dX11_isBody_1 ic_0 (E_aload_n C dX11_isBody_2 0 rfl (mg_11_45 C dX11_isBody_3 f_X11_351 ?_)))
  refine Ev.seti hb0 ?_
  refine E_iconst (v := 1) C dX11_isBody_6 ic_1 (E_isub C dX11_isBody_7 (E_callSI C dX11_isBody_8 ms_X11_118 _ (m_in x 0 (nI nb - 1)) rfl rfl (by decide) (Nat.le_of_ble_eq_true rfl) ?_))
  rintro _ _ ⟨rfl, rfl⟩
  refine E_zretI C hr hlk dX11_isBody_11 (by split <;> rfl) ?_
  exact ⟨by rw [bet_bod (by omega)], rfl⟩
set_option maxRecDepth 100000 in
set_option maxHeartbeats 4000000 in
theorem q_body {l : Launch} {D : va_G} {tc tt ad : Nat → Nat} {S : STT} {w0 : va_W} (hM : MR ad tc S w0) (x0 : Int32) : Ct l yX11_body cX11_body 2 (some .int) 3 D tc tt [.ref (ad 0), .int x0] (w0) (PI fun r w => r = aBody S x0 ∧ MR ad tc (nBody S x0) w) := by
  obtain ⟨g, h, el, u, v, sf, rfl, M⟩ := hM
  have hA := M.1
  have hn := M.1.1
  have hn8 := M.1.2.1
  have m6 := M.2.2.2.2.2.1
  refine Ct.of (by decide +kernel) (Nat.le_of_ble_eq_true rfl) ?_
  intro p e R s m args below meth c A C hr hlk
  refine E_iload_n C dX11_body_0 1 rfl (E_iconst (v := 0) C dX11_body_1 ic_0 (E_bipush (v := 7) C dX11_body_2 bp_7 (E_callSI C dX11_body_4 ms_X11_118 _ (m_in x0 0 7) rfl rfl (by decide) (Nat.le_of_ble_eq_true rfl) ?_)))
  rintro _ _ ⟨rfl, rfl⟩
  refine E_if_ne C 12 dX11_body_7 (by decide) (fun c7 => ?_) (fun c7 => ?_)
  ·
    have n0 := ite_1 c7
    have n1 := bet_eq.mp n0
    obtain ⟨xn, hxm, hxc, rfl⟩ := n_of (k := 7) (m := 7) rfl (Int32.not_lt.mpr n1.1) n1.2
    have hall : 0 ≤ nI xn ∧ nI xn < 8 := ⟨n1.1, Int32.lt_of_le_of_lt n1.2 (by decide)⟩
    have ha : aBody S (nI xn) = _ := if_pos hall
    refine E_aload_n C dX11_body_12 0 rfl (mg_11_45 C dX11_body_13 f_X11_351 ?_)
    refine Ev.seti m6.1 ?_
    refine E_bipush (v := 50) C dX11_body_16 bp_50 (E_icmp_ne C 24 dX11_body_18 (by decide) (fun c18 => ?_) (fun c18 => ?_))
    ·
      have hlt : S.2.2.2.2.2.1.1 < 50 := by
        have q2 : S.2.2.2.2.2.1.1 ≠ 50 := fun q => c18 (by rw [q]; rfl)
        have := m6.2.1
        omega
      refine E_aload_n C dX11_body_24 0 rfl (mg_11_46 C dX11_body_25 f_X11_93 (E_aload_n C dX11_body_28 0 rfl (mg_11_45 C dX11_body_29 f_X11_351 ?_)))
      refine Ev.seti m6.1 ?_
      refine E_iload_n C dX11_body_32 1 rfl (ms_26 C dX11_body_33 (vinN hlt) ?_)
      rw [nI_clamp (show S.2.2.2.2.2.1.1 < 2 ^ 31 by omega)]
      refine E_aload_n C dX11_body_34 0 rfl (E_dup C dX11_body_35 rfl (mg_11_45 C dX11_body_36 f_X11_351 ?_))
      refine Ev.seti m6.1 ?_
      refine E_iconst (v := 1) C dX11_body_39 ic_1 (E_iadd C dX11_body_40 ?_)
      refine Ev.seti (nI_1 _) ?_
      refine mp_11_45 C dX11_body_41 fw_X11_351 (E_aload_n C dX11_body_44 0 rfl (mg_11_45 C dX11_body_45 f_X11_351 ?_))
      refine Ev.seti (show _ = nI (S.2.2.2.2.2.1.1 + 1) from rfl) ?_
      refine E_iconst (v := 1) C dX11_body_48 ic_1 (E_isub C dX11_body_49 ?_)
      refine Ev.seti (show nI (S.2.2.2.2.2.1.1 + 1) - 1 = nI S.2.2.2.2.2.1.1 from pk_sub (a := S.2.2.2.2.2.1.1 + 1) (b := 1) (by omega)) ?_
      refine E_iretI C hr hlk dX11_body_50 ?_
      have hnx : nBody S (nI xn) = _ := if_pos ⟨hall.1, hall.2, hlt⟩
      rw [hnx, hxc]
      refine ⟨(ha.trans (if_neg (by omega))).symm, ⟨_, _, _, _, _, _, rfl, M.acts (q := (S.2.2.2.2.2.1.1 + 1, _, S.2.2.2.2.2.1.2.2)) (Nat.le_succ _) (fun k k5 _ => vun k5) (fun k k6 _ => vun k6) ⟨rfl, hlt, fun j hj => ?_, m6.2.2.2.1, m6.2.2.2.2⟩⟩⟩
      show upd (h 46) S.2.2.2.2.2.1.1 (nI xn) j = nI (if j = S.2.2.2.2.2.1.1 then xn else S.2.2.2.2.2.1.2.1 j) ∧ (if j = S.2.2.2.2.2.1.1 then xn else S.2.2.2.2.2.1.2.1 j) < 8
      have hj' : j < S.2.2.2.2.2.1.1 + 1 := hj
      by_cases ej : j = S.2.2.2.2.2.1.1
      · rw [if_pos ej]
        exact ⟨if_pos ej, by omega⟩
      · rw [if_neg ej]
        exact ⟨(if_neg ej).trans (m6.2.2.1 j (by omega)).1, (m6.2.2.1 j (by omega)).2⟩
    ·
      have h50 : S.2.2.2.2.2.1.1 = 50 := (nI_eq (b := 50) (by have := m6.2.1; omega) (by decide)).mp c18
      refine E_bipush (v := -3) C dX11_body_21 bp_m3 (E_iretI C hr hlk dX11_body_23 ?_)
      have hnx : nBody S (nI xn) = S := if_neg (fun q => by have q2 := q.2.2; omega)
      rw [hnx]
      exact ⟨(ha.trans (if_pos h50)).symm, ⟨g, h, el, u, v, sf, rfl, M⟩⟩
  ·
    have n0 := ite_0 c7
    refine E_iconst (v := -1) C dX11_body_10 ic_m1 (E_iretI C hr hlk dX11_body_11 ?_)
    have n1 : ¬ (0 ≤ x0 ∧ x0 < 8) := fun q => n0 (bet_eq.mpr ⟨q.1, by
      have q2 := q.2
      rw [Int32.lt_iff_toInt_lt] at q2
      rw [Int32.le_iff_toInt_le]
      have z7 : (7 : Int32).toInt = 7 := rfl
      have z8 : (8 : Int32).toInt = 8 := rfl
      omega⟩)
    have hnx : nBody S x0 = S := if_neg (fun q => n1 ⟨q.1, q.2.1⟩)
    rw [hnx]
    exact ⟨(if_neg n1).symm, ⟨g, h, el, u, v, sf, rfl, M⟩⟩
set_option maxRecDepth 100000 in
set_option maxHeartbeats 4000000 in
theorem m_isUnder {l : Launch} {D : va_G} {tc tt : Nat → Nat} {ws : va_W} (k x : Int32) : Ct l yX11_isUnder cX11_isUnder 2 (some .boolean) 1 D tc tt [.int k, .int x] (ws) (PI fun r w => r = (if undM k x = true then 1 else 0) ∧ w = ws) := by
  refine Ct.of (by decide +kernel) (Nat.le_of_ble_eq_true rfl) ?_
  intro p e R s m args below meth c A C hr hlk
  refine E_iload_n C dX11_isUnder_0 1 rfl (E_if_eq C 56 dX11_isUnder_1 (by decide) (fun c1 => ?_) (fun c1 => ?_))
  ·
    refine E_iconst (v := 1) C dX11_isUnder_56 ic_1 (E_goto C 61 dX11_isUnder_57 (by decide) (E_zretI C hr hlk dX11_isUnder_61 rfl ?_))
    first | (refine ⟨(if_pos ?_).symm, rfl⟩; simp only [undM, decide_eq_true_eq]; simp only [i32_eq, Int32.lt_iff_toInt_lt, Int32.le_iff_toInt_le, tl_m100, tl_m14, tl_m13, tl_m12, tl_m11, tl_m5, tl_m3, tl_m2, tl_m1, tl_0, tl_1, tl_2, tl_3, tl_4, tl_5, tl_6, tl_7, tl_8, tl_9, tl_10, tl_11, tl_12, tl_13, tl_14, tl_15, tl_16, tl_17, tl_18, tl_19, tl_20, tl_21, tl_22, tl_23, tl_24, tl_25, tl_26, tl_27, tl_28, tl_29, tl_30, tl_31, tl_32, tl_33, tl_34, tl_35, tl_36, tl_37, tl_38, tl_39, tl_40, tl_41, tl_42, tl_43, tl_44, tl_45, tl_46, tl_47, tl_48, tl_49, tl_50, tl_51, tl_52, tl_53, tl_54, tl_55, tl_56, tl_57, tl_58, tl_59, tl_60, tl_61, tl_62, tl_63, tl_64, tl_70, tl_80, tl_81, tl_99, tl_100, tl_110, tl_120, tl_122, tl_124, tl_126, tl_128, tl_130, tl_144, tl_200, tl_255, tl_256, tl_260, tl_360, tl_12345] at *; omega) | (refine ⟨(if_neg ?_).symm, rfl⟩; simp only [undM, decide_eq_true_eq]; simp only [i32_eq, Int32.lt_iff_toInt_lt, Int32.le_iff_toInt_le, tl_m100, tl_m14, tl_m13, tl_m12, tl_m11, tl_m5, tl_m3, tl_m2, tl_m1, tl_0, tl_1, tl_2, tl_3, tl_4, tl_5, tl_6, tl_7, tl_8, tl_9, tl_10, tl_11, tl_12, tl_13, tl_14, tl_15, tl_16, tl_17, tl_18, tl_19, tl_20, tl_21, tl_22, tl_23, tl_24, tl_25, tl_26, tl_27, tl_28, tl_29, tl_30, tl_31, tl_32, tl_33, tl_34, tl_35, tl_36, tl_37, tl_38, tl_39, tl_40, tl_41, tl_42, tl_43, tl_44, tl_45, tl_46, tl_47, tl_48, tl_49, tl_50, tl_51, tl_52, tl_53, tl_54, tl_55, tl_56, tl_57, tl_58, tl_59, tl_60, tl_61, tl_62, tl_63, tl_64, tl_70, tl_80, tl_81, tl_99, tl_100, tl_110, tl_120, tl_122, tl_124, tl_126, tl_128, tl_130, tl_144, tl_200, tl_255, tl_256, tl_260, tl_360, tl_12345] at *; omega)
  ·
    refine E_iload_n C dX11_isUnder_4 0 rfl (E_iload_n C dX11_isUnder_5 1 rfl (E_icmp_eq C 56 dX11_isUnder_6 (by decide) (fun c6 => ?_) (fun c6 => ?_)))
    ·
      refine E_iconst (v := 1) C dX11_isUnder_56 ic_1 (E_goto C 61 dX11_isUnder_57 (by decide) (E_zretI C hr hlk dX11_isUnder_61 rfl ?_))
      first | (refine ⟨(if_pos ?_).symm, rfl⟩; simp only [undM, decide_eq_true_eq]; simp only [i32_eq, Int32.lt_iff_toInt_lt, Int32.le_iff_toInt_le, tl_m100, tl_m14, tl_m13, tl_m12, tl_m11, tl_m5, tl_m3, tl_m2, tl_m1, tl_0, tl_1, tl_2, tl_3, tl_4, tl_5, tl_6, tl_7, tl_8, tl_9, tl_10, tl_11, tl_12, tl_13, tl_14, tl_15, tl_16, tl_17, tl_18, tl_19, tl_20, tl_21, tl_22, tl_23, tl_24, tl_25, tl_26, tl_27, tl_28, tl_29, tl_30, tl_31, tl_32, tl_33, tl_34, tl_35, tl_36, tl_37, tl_38, tl_39, tl_40, tl_41, tl_42, tl_43, tl_44, tl_45, tl_46, tl_47, tl_48, tl_49, tl_50, tl_51, tl_52, tl_53, tl_54, tl_55, tl_56, tl_57, tl_58, tl_59, tl_60, tl_61, tl_62, tl_63, tl_64, tl_70, tl_80, tl_81, tl_99, tl_100, tl_110, tl_120, tl_122, tl_124, tl_126, tl_128, tl_130, tl_144, tl_200, tl_255, tl_256, tl_260, tl_360, tl_12345] at *; omega) | (refine ⟨(if_neg ?_).symm, rfl⟩; simp only [undM, decide_eq_true_eq]; simp only [i32_eq, Int32.lt_iff_toInt_lt, Int32.le_iff_toInt_le, tl_m100, tl_m14, tl_m13, tl_m12, tl_m11, tl_m5, tl_m3, tl_m2, tl_m1, tl_0, tl_1, tl_2, tl_3, tl_4, tl_5, tl_6, tl_7, tl_8, tl_9, tl_10, tl_11, tl_12, tl_13, tl_14, tl_15, tl_16, tl_17, tl_18, tl_19, tl_20, tl_21, tl_22, tl_23, tl_24, tl_25, tl_26, tl_27, tl_28, tl_29, tl_30, tl_31, tl_32, tl_33, tl_34, tl_35, tl_36, tl_37, tl_38, tl_39, tl_40, tl_41, tl_42, tl_43, tl_44, tl_45, tl_46, tl_47, tl_48, tl_49, tl_50, tl_51, tl_52, tl_53, tl_54, tl_55, tl_56, tl_57, tl_58, tl_59, tl_60, tl_61, tl_62, tl_63, tl_64, tl_70, tl_80, tl_81, tl_99, tl_100, tl_110, tl_120, tl_122, tl_124, tl_126, tl_128, tl_130, tl_144, tl_200, tl_255, tl_256, tl_260, tl_360, tl_12345] at *; omega)
    ·
      refine E_iload_n C dX11_isUnder_9 1 rfl (E_iconst (v := 1) C dX11_isUnder_10 ic_1 (E_icmp_ne C 19 dX11_isUnder_11 (by decide) (fun c11 => ?_) (fun c11 => ?_)))
      ·
        refine E_iload_n C dX11_isUnder_19 1 rfl (E_iconst (v := 2) C dX11_isUnder_20 ic_2 (E_icmp_ne C 34 dX11_isUnder_21 (by decide) (fun c21 => ?_) (fun c21 => ?_)))
        ·
          refine E_iload_n C dX11_isUnder_34 1 rfl (E_iconst (v := 3) C dX11_isUnder_35 ic_3 (E_icmp_ne C 44 dX11_isUnder_36 (by decide) (fun c36 => ?_) (fun c36 => ?_)))
          ·
            refine E_iload_n C dX11_isUnder_44 1 rfl (E_bipush (v := 6) C dX11_isUnder_45 bp_6 (E_icmp_ne C 60 dX11_isUnder_47 (by decide) (fun c47 => ?_) (fun c47 => ?_)))
            ·
              refine E_iconst (v := 0) C dX11_isUnder_60 ic_0 (E_zretI C hr hlk dX11_isUnder_61 rfl ?_)
              first | (refine ⟨(if_pos ?_).symm, rfl⟩; simp only [undM, decide_eq_true_eq]; simp only [i32_eq, Int32.lt_iff_toInt_lt, Int32.le_iff_toInt_le, tl_m100, tl_m14, tl_m13, tl_m12, tl_m11, tl_m5, tl_m3, tl_m2, tl_m1, tl_0, tl_1, tl_2, tl_3, tl_4, tl_5, tl_6, tl_7, tl_8, tl_9, tl_10, tl_11, tl_12, tl_13, tl_14, tl_15, tl_16, tl_17, tl_18, tl_19, tl_20, tl_21, tl_22, tl_23, tl_24, tl_25, tl_26, tl_27, tl_28, tl_29, tl_30, tl_31, tl_32, tl_33, tl_34, tl_35, tl_36, tl_37, tl_38, tl_39, tl_40, tl_41, tl_42, tl_43, tl_44, tl_45, tl_46, tl_47, tl_48, tl_49, tl_50, tl_51, tl_52, tl_53, tl_54, tl_55, tl_56, tl_57, tl_58, tl_59, tl_60, tl_61, tl_62, tl_63, tl_64, tl_70, tl_80, tl_81, tl_99, tl_100, tl_110, tl_120, tl_122, tl_124, tl_126, tl_128, tl_130, tl_144, tl_200, tl_255, tl_256, tl_260, tl_360, tl_12345] at *; omega) | (refine ⟨(if_neg ?_).symm, rfl⟩; simp only [undM, decide_eq_true_eq]; simp only [i32_eq, Int32.lt_iff_toInt_lt, Int32.le_iff_toInt_le, tl_m100, tl_m14, tl_m13, tl_m12, tl_m11, tl_m5, tl_m3, tl_m2, tl_m1, tl_0, tl_1, tl_2, tl_3, tl_4, tl_5, tl_6, tl_7, tl_8, tl_9, tl_10, tl_11, tl_12, tl_13, tl_14, tl_15, tl_16, tl_17, tl_18, tl_19, tl_20, tl_21, tl_22, tl_23, tl_24, tl_25, tl_26, tl_27, tl_28, tl_29, tl_30, tl_31, tl_32, tl_33, tl_34, tl_35, tl_36, tl_37, tl_38, tl_39, tl_40, tl_41, tl_42, tl_43, tl_44, tl_45, tl_46, tl_47, tl_48, tl_49, tl_50, tl_51, tl_52, tl_53, tl_54, tl_55, tl_56, tl_57, tl_58, tl_59, tl_60, tl_61, tl_62, tl_63, tl_64, tl_70, tl_80, tl_81, tl_99, tl_100, tl_110, tl_120, tl_122, tl_124, tl_126, tl_128, tl_130, tl_144, tl_200, tl_255, tl_256, tl_260, tl_360, tl_12345] at *; omega)
            ·
              refine E_iload_n C dX11_isUnder_50 0 rfl (E_bipush (v := 7) C dX11_isUnder_51 bp_7 (E_icmp_ne C 60 dX11_isUnder_53 (by decide) (fun c53 => ?_) (fun c53 => ?_)))
              ·
                refine E_iconst (v := 0) C dX11_isUnder_60 ic_0 (E_zretI C hr hlk dX11_isUnder_61 rfl ?_)
                first | (refine ⟨(if_pos ?_).symm, rfl⟩; simp only [undM, decide_eq_true_eq]; simp only [i32_eq, Int32.lt_iff_toInt_lt, Int32.le_iff_toInt_le, tl_m100, tl_m14, tl_m13, tl_m12, tl_m11, tl_m5, tl_m3, tl_m2, tl_m1, tl_0, tl_1, tl_2, tl_3, tl_4, tl_5, tl_6, tl_7, tl_8, tl_9, tl_10, tl_11, tl_12, tl_13, tl_14, tl_15, tl_16, tl_17, tl_18, tl_19, tl_20, tl_21, tl_22, tl_23, tl_24, tl_25, tl_26, tl_27, tl_28, tl_29, tl_30, tl_31, tl_32, tl_33, tl_34, tl_35, tl_36, tl_37, tl_38, tl_39, tl_40, tl_41, tl_42, tl_43, tl_44, tl_45, tl_46, tl_47, tl_48, tl_49, tl_50, tl_51, tl_52, tl_53, tl_54, tl_55, tl_56, tl_57, tl_58, tl_59, tl_60, tl_61, tl_62, tl_63, tl_64, tl_70, tl_80, tl_81, tl_99, tl_100, tl_110, tl_120, tl_122, tl_124, tl_126, tl_128, tl_130, tl_144, tl_200, tl_255, tl_256, tl_260, tl_360, tl_12345] at *; omega) | (refine ⟨(if_neg ?_).symm, rfl⟩; simp only [undM, decide_eq_true_eq]; simp only [i32_eq, Int32.lt_iff_toInt_lt, Int32.le_iff_toInt_le, tl_m100, tl_m14, tl_m13, tl_m12, tl_m11, tl_m5, tl_m3, tl_m2, tl_m1, tl_0, tl_1, tl_2, tl_3, tl_4, tl_5, tl_6, tl_7, tl_8, tl_9, tl_10, tl_11, tl_12, tl_13, tl_14, tl_15, tl_16, tl_17, tl_18, tl_19, tl_20, tl_21, tl_22, tl_23, tl_24, tl_25, tl_26, tl_27, tl_28, tl_29, tl_30, tl_31, tl_32, tl_33, tl_34, tl_35, tl_36, tl_37, tl_38, tl_39, tl_40, tl_41, tl_42, tl_43, tl_44, tl_45, tl_46, tl_47, tl_48, tl_49, tl_50, tl_51, tl_52, tl_53, tl_54, tl_55, tl_56, tl_57, tl_58, tl_59, tl_60, tl_61, tl_62, tl_63, tl_64, tl_70, tl_80, tl_81, tl_99, tl_100, tl_110, tl_120, tl_122, tl_124, tl_126, tl_128, tl_130, tl_144, tl_200, tl_255, tl_256, tl_260, tl_360, tl_12345] at *; omega)
              ·
                refine E_iconst (v := 1) C dX11_isUnder_56 ic_1 (E_goto C 61 dX11_isUnder_57 (by decide) (E_zretI C hr hlk dX11_isUnder_61 rfl ?_))
                first | (refine ⟨(if_pos ?_).symm, rfl⟩; simp only [undM, decide_eq_true_eq]; simp only [i32_eq, Int32.lt_iff_toInt_lt, Int32.le_iff_toInt_le, tl_m100, tl_m14, tl_m13, tl_m12, tl_m11, tl_m5, tl_m3, tl_m2, tl_m1, tl_0, tl_1, tl_2, tl_3, tl_4, tl_5, tl_6, tl_7, tl_8, tl_9, tl_10, tl_11, tl_12, tl_13, tl_14, tl_15, tl_16, tl_17, tl_18, tl_19, tl_20, tl_21, tl_22, tl_23, tl_24, tl_25, tl_26, tl_27, tl_28, tl_29, tl_30, tl_31, tl_32, tl_33, tl_34, tl_35, tl_36, tl_37, tl_38, tl_39, tl_40, tl_41, tl_42, tl_43, tl_44, tl_45, tl_46, tl_47, tl_48, tl_49, tl_50, tl_51, tl_52, tl_53, tl_54, tl_55, tl_56, tl_57, tl_58, tl_59, tl_60, tl_61, tl_62, tl_63, tl_64, tl_70, tl_80, tl_81, tl_99, tl_100, tl_110, tl_120, tl_122, tl_124, tl_126, tl_128, tl_130, tl_144, tl_200, tl_255, tl_256, tl_260, tl_360, tl_12345] at *; omega) | (refine ⟨(if_neg ?_).symm, rfl⟩; simp only [undM, decide_eq_true_eq]; simp only [i32_eq, Int32.lt_iff_toInt_lt, Int32.le_iff_toInt_le, tl_m100, tl_m14, tl_m13, tl_m12, tl_m11, tl_m5, tl_m3, tl_m2, tl_m1, tl_0, tl_1, tl_2, tl_3, tl_4, tl_5, tl_6, tl_7, tl_8, tl_9, tl_10, tl_11, tl_12, tl_13, tl_14, tl_15, tl_16, tl_17, tl_18, tl_19, tl_20, tl_21, tl_22, tl_23, tl_24, tl_25, tl_26, tl_27, tl_28, tl_29, tl_30, tl_31, tl_32, tl_33, tl_34, tl_35, tl_36, tl_37, tl_38, tl_39, tl_40, tl_41, tl_42, tl_43, tl_44, tl_45, tl_46, tl_47, tl_48, tl_49, tl_50, tl_51, tl_52, tl_53, tl_54, tl_55, tl_56, tl_57, tl_58, tl_59, tl_60, tl_61, tl_62, tl_63, tl_64, tl_70, tl_80, tl_81, tl_99, tl_100, tl_110, tl_120, tl_122, tl_124, tl_126, tl_128, tl_130, tl_144, tl_200, tl_255, tl_256, tl_260, tl_360, tl_12345] at *; omega)
          ·
            refine E_iload_n C dX11_isUnder_39 0 rfl (E_iconst (v := 5) C dX11_isUnder_40 ic_5 (E_icmp_eq C 56 dX11_isUnder_41 (by decide) (fun c41 => ?_) (fun c41 => ?_)))
            ·
              refine E_iconst (v := 1) C dX11_isUnder_56 ic_1 (E_goto C 61 dX11_isUnder_57 (by decide) (E_zretI C hr hlk dX11_isUnder_61 rfl ?_))
              first | (refine ⟨(if_pos ?_).symm, rfl⟩; simp only [undM, decide_eq_true_eq]; simp only [i32_eq, Int32.lt_iff_toInt_lt, Int32.le_iff_toInt_le, tl_m100, tl_m14, tl_m13, tl_m12, tl_m11, tl_m5, tl_m3, tl_m2, tl_m1, tl_0, tl_1, tl_2, tl_3, tl_4, tl_5, tl_6, tl_7, tl_8, tl_9, tl_10, tl_11, tl_12, tl_13, tl_14, tl_15, tl_16, tl_17, tl_18, tl_19, tl_20, tl_21, tl_22, tl_23, tl_24, tl_25, tl_26, tl_27, tl_28, tl_29, tl_30, tl_31, tl_32, tl_33, tl_34, tl_35, tl_36, tl_37, tl_38, tl_39, tl_40, tl_41, tl_42, tl_43, tl_44, tl_45, tl_46, tl_47, tl_48, tl_49, tl_50, tl_51, tl_52, tl_53, tl_54, tl_55, tl_56, tl_57, tl_58, tl_59, tl_60, tl_61, tl_62, tl_63, tl_64, tl_70, tl_80, tl_81, tl_99, tl_100, tl_110, tl_120, tl_122, tl_124, tl_126, tl_128, tl_130, tl_144, tl_200, tl_255, tl_256, tl_260, tl_360, tl_12345] at *; omega) | (refine ⟨(if_neg ?_).symm, rfl⟩; simp only [undM, decide_eq_true_eq]; simp only [i32_eq, Int32.lt_iff_toInt_lt, Int32.le_iff_toInt_le, tl_m100, tl_m14, tl_m13, tl_m12, tl_m11, tl_m5, tl_m3, tl_m2, tl_m1, tl_0, tl_1, tl_2, tl_3, tl_4, tl_5, tl_6, tl_7, tl_8, tl_9, tl_10, tl_11, tl_12, tl_13, tl_14, tl_15, tl_16, tl_17, tl_18, tl_19, tl_20, tl_21, tl_22, tl_23, tl_24, tl_25, tl_26, tl_27, tl_28, tl_29, tl_30, tl_31, tl_32, tl_33, tl_34, tl_35, tl_36, tl_37, tl_38, tl_39, tl_40, tl_41, tl_42, tl_43, tl_44, tl_45, tl_46, tl_47, tl_48, tl_49, tl_50, tl_51, tl_52, tl_53, tl_54, tl_55, tl_56, tl_57, tl_58, tl_59, tl_60, tl_61, tl_62, tl_63, tl_64, tl_70, tl_80, tl_81, tl_99, tl_100, tl_110, tl_120, tl_122, tl_124, tl_126, tl_128, tl_130, tl_144, tl_200, tl_255, tl_256, tl_260, tl_360, tl_12345] at *; omega)
            ·
              refine E_iload_n C dX11_isUnder_44 1 rfl (E_bipush (v := 6) C dX11_isUnder_45 bp_6 (E_icmp_ne C 60 dX11_isUnder_47 (by decide) (fun c47_2 => ?_) (fun c47_2 => ?_)))
              ·
                refine E_iconst (v := 0) C dX11_isUnder_60 ic_0 (E_zretI C hr hlk dX11_isUnder_61 rfl ?_)
                first | (refine ⟨(if_pos ?_).symm, rfl⟩; simp only [undM, decide_eq_true_eq]; simp only [i32_eq, Int32.lt_iff_toInt_lt, Int32.le_iff_toInt_le, tl_m100, tl_m14, tl_m13, tl_m12, tl_m11, tl_m5, tl_m3, tl_m2, tl_m1, tl_0, tl_1, tl_2, tl_3, tl_4, tl_5, tl_6, tl_7, tl_8, tl_9, tl_10, tl_11, tl_12, tl_13, tl_14, tl_15, tl_16, tl_17, tl_18, tl_19, tl_20, tl_21, tl_22, tl_23, tl_24, tl_25, tl_26, tl_27, tl_28, tl_29, tl_30, tl_31, tl_32, tl_33, tl_34, tl_35, tl_36, tl_37, tl_38, tl_39, tl_40, tl_41, tl_42, tl_43, tl_44, tl_45, tl_46, tl_47, tl_48, tl_49, tl_50, tl_51, tl_52, tl_53, tl_54, tl_55, tl_56, tl_57, tl_58, tl_59, tl_60, tl_61, tl_62, tl_63, tl_64, tl_70, tl_80, tl_81, tl_99, tl_100, tl_110, tl_120, tl_122, tl_124, tl_126, tl_128, tl_130, tl_144, tl_200, tl_255, tl_256, tl_260, tl_360, tl_12345] at *; omega) | (refine ⟨(if_neg ?_).symm, rfl⟩; simp only [undM, decide_eq_true_eq]; simp only [i32_eq, Int32.lt_iff_toInt_lt, Int32.le_iff_toInt_le, tl_m100, tl_m14, tl_m13, tl_m12, tl_m11, tl_m5, tl_m3, tl_m2, tl_m1, tl_0, tl_1, tl_2, tl_3, tl_4, tl_5, tl_6, tl_7, tl_8, tl_9, tl_10, tl_11, tl_12, tl_13, tl_14, tl_15, tl_16, tl_17, tl_18, tl_19, tl_20, tl_21, tl_22, tl_23, tl_24, tl_25, tl_26, tl_27, tl_28, tl_29, tl_30, tl_31, tl_32, tl_33, tl_34, tl_35, tl_36, tl_37, tl_38, tl_39, tl_40, tl_41, tl_42, tl_43, tl_44, tl_45, tl_46, tl_47, tl_48, tl_49, tl_50, tl_51, tl_52, tl_53, tl_54, tl_55, tl_56, tl_57, tl_58, tl_59, tl_60, tl_61, tl_62, tl_63, tl_64, tl_70, tl_80, tl_81, tl_99, tl_100, tl_110, tl_120, tl_122, tl_124, tl_126, tl_128, tl_130, tl_144, tl_200, tl_255, tl_256, tl_260, tl_360, tl_12345] at *; omega)
              ·
                refine E_iload_n C dX11_isUnder_50 0 rfl (E_bipush (v := 7) C dX11_isUnder_51 bp_7 (E_icmp_ne C 60 dX11_isUnder_53 (by decide) (fun c53_2 => ?_) (fun c53_2 => ?_)))
                ·
                  refine E_iconst (v := 0) C dX11_isUnder_60 ic_0 (E_zretI C hr hlk dX11_isUnder_61 rfl ?_)
                  first | (refine ⟨(if_pos ?_).symm, rfl⟩; simp only [undM, decide_eq_true_eq]; simp only [i32_eq, Int32.lt_iff_toInt_lt, Int32.le_iff_toInt_le, tl_m100, tl_m14, tl_m13, tl_m12, tl_m11, tl_m5, tl_m3, tl_m2, tl_m1, tl_0, tl_1, tl_2, tl_3, tl_4, tl_5, tl_6, tl_7, tl_8, tl_9, tl_10, tl_11, tl_12, tl_13, tl_14, tl_15, tl_16, tl_17, tl_18, tl_19, tl_20, tl_21, tl_22, tl_23, tl_24, tl_25, tl_26, tl_27, tl_28, tl_29, tl_30, tl_31, tl_32, tl_33, tl_34, tl_35, tl_36, tl_37, tl_38, tl_39, tl_40, tl_41, tl_42, tl_43, tl_44, tl_45, tl_46, tl_47, tl_48, tl_49, tl_50, tl_51, tl_52, tl_53, tl_54, tl_55, tl_56, tl_57, tl_58, tl_59, tl_60, tl_61, tl_62, tl_63, tl_64, tl_70, tl_80, tl_81, tl_99, tl_100, tl_110, tl_120, tl_122, tl_124, tl_126, tl_128, tl_130, tl_144, tl_200, tl_255, tl_256, tl_260, tl_360, tl_12345] at *; omega) | (refine ⟨(if_neg ?_).symm, rfl⟩; simp only [undM, decide_eq_true_eq]; simp only [i32_eq, Int32.lt_iff_toInt_lt, Int32.le_iff_toInt_le, tl_m100, tl_m14, tl_m13, tl_m12, tl_m11, tl_m5, tl_m3, tl_m2, tl_m1, tl_0, tl_1, tl_2, tl_3, tl_4, tl_5, tl_6, tl_7, tl_8, tl_9, tl_10, tl_11, tl_12, tl_13, tl_14, tl_15, tl_16, tl_17, tl_18, tl_19, tl_20, tl_21, tl_22, tl_23, tl_24, tl_25, tl_26, tl_27, tl_28, tl_29, tl_30, tl_31, tl_32, tl_33, tl_34, tl_35, tl_36, tl_37, tl_38, tl_39, tl_40, tl_41, tl_42, tl_43, tl_44, tl_45, tl_46, tl_47, tl_48, tl_49, tl_50, tl_51, tl_52, tl_53, tl_54, tl_55, tl_56, tl_57, tl_58, tl_59, tl_60, tl_61, tl_62, tl_63, tl_64, tl_70, tl_80, tl_81, tl_99, tl_100, tl_110, tl_120, tl_122, tl_124, tl_126, tl_128, tl_130, tl_144, tl_200, tl_255, tl_256, tl_260, tl_360, tl_12345] at *; omega)
                ·
                  refine E_iconst (v := 1) C dX11_isUnder_56 ic_1 (E_goto C 61 dX11_isUnder_57 (by decide) (E_zretI C hr hlk dX11_isUnder_61 rfl ?_))
                  first | (refine ⟨(if_pos ?_).symm, rfl⟩; simp only [undM, decide_eq_true_eq]; simp only [i32_eq, Int32.lt_iff_toInt_lt, Int32.le_iff_toInt_le, tl_m100, tl_m14, tl_m13, tl_m12, tl_m11, tl_m5, tl_m3, tl_m2, tl_m1, tl_0, tl_1, tl_2, tl_3, tl_4, tl_5, tl_6, tl_7, tl_8, tl_9, tl_10, tl_11, tl_12, tl_13, tl_14, tl_15, tl_16, tl_17, tl_18, tl_19, tl_20, tl_21, tl_22, tl_23, tl_24, tl_25, tl_26, tl_27, tl_28, tl_29, tl_30, tl_31, tl_32, tl_33, tl_34, tl_35, tl_36, tl_37, tl_38, tl_39, tl_40, tl_41, tl_42, tl_43, tl_44, tl_45, tl_46, tl_47, tl_48, tl_49, tl_50, tl_51, tl_52, tl_53, tl_54, tl_55, tl_56, tl_57, tl_58, tl_59, tl_60, tl_61, tl_62, tl_63, tl_64, tl_70, tl_80, tl_81, tl_99, tl_100, tl_110, tl_120, tl_122, tl_124, tl_126, tl_128, tl_130, tl_144, tl_200, tl_255, tl_256, tl_260, tl_360, tl_12345] at *; omega) | (refine ⟨(if_neg ?_).symm, rfl⟩; simp only [undM, decide_eq_true_eq]; simp only [i32_eq, Int32.lt_iff_toInt_lt, Int32.le_iff_toInt_le, tl_m100, tl_m14, tl_m13, tl_m12, tl_m11, tl_m5, tl_m3, tl_m2, tl_m1, tl_0, tl_1, tl_2, tl_3, tl_4, tl_5, tl_6, tl_7, tl_8, tl_9, tl_10, tl_11, tl_12, tl_13, tl_14, tl_15, tl_16, tl_17, tl_18, tl_19, tl_20, tl_21, tl_22, tl_23, tl_24, tl_25, tl_26, tl_27, tl_28, tl_29, tl_30, tl_31, tl_32, tl_33, tl_34, tl_35, tl_36, tl_37, tl_38, tl_39, tl_40, tl_41, tl_42, tl_43, tl_44, tl_45, tl_46, tl_47, tl_48, tl_49, tl_50, tl_51, tl_52, tl_53, tl_54, tl_55, tl_56, tl_57, tl_58, tl_59, tl_60, tl_61, tl_62, tl_63, tl_64, tl_70, tl_80, tl_81, tl_99, tl_100, tl_110, tl_120, tl_122, tl_124, tl_126, tl_128, tl_130, tl_144, tl_200, tl_255, tl_256, tl_260, tl_360, tl_12345] at *; omega)
        ·
          refine E_iload_n C dX11_isUnder_24 0 rfl (E_iconst (v := 3) C dX11_isUnder_25 ic_3 (E_icmp_eq C 56 dX11_isUnder_26 (by decide) (fun c26 => ?_) (fun c26 => ?_)))
          ·
            refine E_iconst (v := 1) C dX11_isUnder_56 ic_1 (E_goto C 61 dX11_isUnder_57 (by decide) (E_zretI C hr hlk dX11_isUnder_61 rfl ?_))
            first | (refine ⟨(if_pos ?_).symm, rfl⟩; simp only [undM, decide_eq_true_eq]; simp only [i32_eq, Int32.lt_iff_toInt_lt, Int32.le_iff_toInt_le, tl_m100, tl_m14, tl_m13, tl_m12, tl_m11, tl_m5, tl_m3, tl_m2, tl_m1, tl_0, tl_1, tl_2, tl_3, tl_4, tl_5, tl_6, tl_7, tl_8, tl_9, tl_10, tl_11, tl_12, tl_13, tl_14, tl_15, tl_16, tl_17, tl_18, tl_19, tl_20, tl_21, tl_22, tl_23, tl_24, tl_25, tl_26, tl_27, tl_28, tl_29, tl_30, tl_31, tl_32, tl_33, tl_34, tl_35, tl_36, tl_37, tl_38, tl_39, tl_40, tl_41, tl_42, tl_43, tl_44, tl_45, tl_46, tl_47, tl_48, tl_49, tl_50, tl_51, tl_52, tl_53, tl_54, tl_55, tl_56, tl_57, tl_58, tl_59, tl_60, tl_61, tl_62, tl_63, tl_64, tl_70, tl_80, tl_81, tl_99, tl_100, tl_110, tl_120, tl_122, tl_124, tl_126, tl_128, tl_130, tl_144, tl_200, tl_255, tl_256, tl_260, tl_360, tl_12345] at *; omega) | (refine ⟨(if_neg ?_).symm, rfl⟩; simp only [undM, decide_eq_true_eq]; simp only [i32_eq, Int32.lt_iff_toInt_lt, Int32.le_iff_toInt_le, tl_m100, tl_m14, tl_m13, tl_m12, tl_m11, tl_m5, tl_m3, tl_m2, tl_m1, tl_0, tl_1, tl_2, tl_3, tl_4, tl_5, tl_6, tl_7, tl_8, tl_9, tl_10, tl_11, tl_12, tl_13, tl_14, tl_15, tl_16, tl_17, tl_18, tl_19, tl_20, tl_21, tl_22, tl_23, tl_24, tl_25, tl_26, tl_27, tl_28, tl_29, tl_30, tl_31, tl_32, tl_33, tl_34, tl_35, tl_36, tl_37, tl_38, tl_39, tl_40, tl_41, tl_42, tl_43, tl_44, tl_45, tl_46, tl_47, tl_48, tl_49, tl_50, tl_51, tl_52, tl_53, tl_54, tl_55, tl_56, tl_57, tl_58, tl_59, tl_60, tl_61, tl_62, tl_63, tl_64, tl_70, tl_80, tl_81, tl_99, tl_100, tl_110, tl_120, tl_122, tl_124, tl_126, tl_128, tl_130, tl_144, tl_200, tl_255, tl_256, tl_260, tl_360, tl_12345] at *; omega)
          ·
            refine E_iload_n C dX11_isUnder_29 0 rfl (E_iconst (v := 5) C dX11_isUnder_30 ic_5 (E_icmp_eq C 56 dX11_isUnder_31 (by decide) (fun c31 => ?_) (fun c31 => ?_)))
            ·
              refine E_iconst (v := 1) C dX11_isUnder_56 ic_1 (E_goto C 61 dX11_isUnder_57 (by decide) (E_zretI C hr hlk dX11_isUnder_61 rfl ?_))
              first | (refine ⟨(if_pos ?_).symm, rfl⟩; simp only [undM, decide_eq_true_eq]; simp only [i32_eq, Int32.lt_iff_toInt_lt, Int32.le_iff_toInt_le, tl_m100, tl_m14, tl_m13, tl_m12, tl_m11, tl_m5, tl_m3, tl_m2, tl_m1, tl_0, tl_1, tl_2, tl_3, tl_4, tl_5, tl_6, tl_7, tl_8, tl_9, tl_10, tl_11, tl_12, tl_13, tl_14, tl_15, tl_16, tl_17, tl_18, tl_19, tl_20, tl_21, tl_22, tl_23, tl_24, tl_25, tl_26, tl_27, tl_28, tl_29, tl_30, tl_31, tl_32, tl_33, tl_34, tl_35, tl_36, tl_37, tl_38, tl_39, tl_40, tl_41, tl_42, tl_43, tl_44, tl_45, tl_46, tl_47, tl_48, tl_49, tl_50, tl_51, tl_52, tl_53, tl_54, tl_55, tl_56, tl_57, tl_58, tl_59, tl_60, tl_61, tl_62, tl_63, tl_64, tl_70, tl_80, tl_81, tl_99, tl_100, tl_110, tl_120, tl_122, tl_124, tl_126, tl_128, tl_130, tl_144, tl_200, tl_255, tl_256, tl_260, tl_360, tl_12345] at *; omega) | (refine ⟨(if_neg ?_).symm, rfl⟩; simp only [undM, decide_eq_true_eq]; simp only [i32_eq, Int32.lt_iff_toInt_lt, Int32.le_iff_toInt_le, tl_m100, tl_m14, tl_m13, tl_m12, tl_m11, tl_m5, tl_m3, tl_m2, tl_m1, tl_0, tl_1, tl_2, tl_3, tl_4, tl_5, tl_6, tl_7, tl_8, tl_9, tl_10, tl_11, tl_12, tl_13, tl_14, tl_15, tl_16, tl_17, tl_18, tl_19, tl_20, tl_21, tl_22, tl_23, tl_24, tl_25, tl_26, tl_27, tl_28, tl_29, tl_30, tl_31, tl_32, tl_33, tl_34, tl_35, tl_36, tl_37, tl_38, tl_39, tl_40, tl_41, tl_42, tl_43, tl_44, tl_45, tl_46, tl_47, tl_48, tl_49, tl_50, tl_51, tl_52, tl_53, tl_54, tl_55, tl_56, tl_57, tl_58, tl_59, tl_60, tl_61, tl_62, tl_63, tl_64, tl_70, tl_80, tl_81, tl_99, tl_100, tl_110, tl_120, tl_122, tl_124, tl_126, tl_128, tl_130, tl_144, tl_200, tl_255, tl_256, tl_260, tl_360, tl_12345] at *; omega)
            ·
              refine E_iload_n C dX11_isUnder_34 1 rfl (E_iconst (v := 3) C dX11_isUnder_35 ic_3 (E_icmp_ne C 44 dX11_isUnder_36 (by decide) (fun c36_2 => ?_) (fun c36_2 => ?_)))
              ·
                refine E_iload_n C dX11_isUnder_44 1 rfl (E_bipush (v := 6) C dX11_isUnder_45 bp_6 (E_icmp_ne C 60 dX11_isUnder_47 (by decide) (fun c47_3 => ?_) (fun c47_3 => ?_)))
                ·
                  refine E_iconst (v := 0) C dX11_isUnder_60 ic_0 (E_zretI C hr hlk dX11_isUnder_61 rfl ?_)
                  first | (refine ⟨(if_pos ?_).symm, rfl⟩; simp only [undM, decide_eq_true_eq]; simp only [i32_eq, Int32.lt_iff_toInt_lt, Int32.le_iff_toInt_le, tl_m100, tl_m14, tl_m13, tl_m12, tl_m11, tl_m5, tl_m3, tl_m2, tl_m1, tl_0, tl_1, tl_2, tl_3, tl_4, tl_5, tl_6, tl_7, tl_8, tl_9, tl_10, tl_11, tl_12, tl_13, tl_14, tl_15, tl_16, tl_17, tl_18, tl_19, tl_20, tl_21, tl_22, tl_23, tl_24, tl_25, tl_26, tl_27, tl_28, tl_29, tl_30, tl_31, tl_32, tl_33, tl_34, tl_35, tl_36, tl_37, tl_38, tl_39, tl_40, tl_41, tl_42, tl_43, tl_44, tl_45, tl_46, tl_47, tl_48, tl_49, tl_50, tl_51, tl_52, tl_53, tl_54, tl_55, tl_56, tl_57, tl_58, tl_59, tl_60, tl_61, tl_62, tl_63, tl_64, tl_70, tl_80, tl_81, tl_99, tl_100, tl_110, tl_120, tl_122, tl_124, tl_126, tl_128, tl_130, tl_144, tl_200, tl_255, tl_256, tl_260, tl_360, tl_12345] at *; omega) | (refine ⟨(if_neg ?_).symm, rfl⟩; simp only [undM, decide_eq_true_eq]; simp only [i32_eq, Int32.lt_iff_toInt_lt, Int32.le_iff_toInt_le, tl_m100, tl_m14, tl_m13, tl_m12, tl_m11, tl_m5, tl_m3, tl_m2, tl_m1, tl_0, tl_1, tl_2, tl_3, tl_4, tl_5, tl_6, tl_7, tl_8, tl_9, tl_10, tl_11, tl_12, tl_13, tl_14, tl_15, tl_16, tl_17, tl_18, tl_19, tl_20, tl_21, tl_22, tl_23, tl_24, tl_25, tl_26, tl_27, tl_28, tl_29, tl_30, tl_31, tl_32, tl_33, tl_34, tl_35, tl_36, tl_37, tl_38, tl_39, tl_40, tl_41, tl_42, tl_43, tl_44, tl_45, tl_46, tl_47, tl_48, tl_49, tl_50, tl_51, tl_52, tl_53, tl_54, tl_55, tl_56, tl_57, tl_58, tl_59, tl_60, tl_61, tl_62, tl_63, tl_64, tl_70, tl_80, tl_81, tl_99, tl_100, tl_110, tl_120, tl_122, tl_124, tl_126, tl_128, tl_130, tl_144, tl_200, tl_255, tl_256, tl_260, tl_360, tl_12345] at *; omega)
                ·
                  refine E_iload_n C dX11_isUnder_50 0 rfl (E_bipush (v := 7) C dX11_isUnder_51 bp_7 (E_icmp_ne C 60 dX11_isUnder_53 (by decide) (fun c53_3 => ?_) (fun c53_3 => ?_)))
                  ·
                    refine E_iconst (v := 0) C dX11_isUnder_60 ic_0 (E_zretI C hr hlk dX11_isUnder_61 rfl ?_)
                    first | (refine ⟨(if_pos ?_).symm, rfl⟩; simp only [undM, decide_eq_true_eq]; simp only [i32_eq, Int32.lt_iff_toInt_lt, Int32.le_iff_toInt_le, tl_m100, tl_m14, tl_m13, tl_m12, tl_m11, tl_m5, tl_m3, tl_m2, tl_m1, tl_0, tl_1, tl_2, tl_3, tl_4, tl_5, tl_6, tl_7, tl_8, tl_9, tl_10, tl_11, tl_12, tl_13, tl_14, tl_15, tl_16, tl_17, tl_18, tl_19, tl_20, tl_21, tl_22, tl_23, tl_24, tl_25, tl_26, tl_27, tl_28, tl_29, tl_30, tl_31, tl_32, tl_33, tl_34, tl_35, tl_36, tl_37, tl_38, tl_39, tl_40, tl_41, tl_42, tl_43, tl_44, tl_45, tl_46, tl_47, tl_48, tl_49, tl_50, tl_51, tl_52, tl_53, tl_54, tl_55, tl_56, tl_57, tl_58, tl_59, tl_60, tl_61, tl_62, tl_63, tl_64, tl_70, tl_80, tl_81, tl_99, tl_100, tl_110, tl_120, tl_122, tl_124, tl_126, tl_128, tl_130, tl_144, tl_200, tl_255, tl_256, tl_260, tl_360, tl_12345] at *; omega) | (refine ⟨(if_neg ?_).symm, rfl⟩; simp only [undM, decide_eq_true_eq]; simp only [i32_eq, Int32.lt_iff_toInt_lt, Int32.le_iff_toInt_le, tl_m100, tl_m14, tl_m13, tl_m12, tl_m11, tl_m5, tl_m3, tl_m2, tl_m1, tl_0, tl_1, tl_2, tl_3, tl_4, tl_5, tl_6, tl_7, tl_8, tl_9, tl_10, tl_11, tl_12, tl_13, tl_14, tl_15, tl_16, tl_17, tl_18, tl_19, tl_20, tl_21, tl_22, tl_23, tl_24, tl_25, tl_26, tl_27, tl_28, tl_29, tl_30, tl_31, tl_32, tl_33, tl_34, tl_35, tl_36, tl_37, tl_38, tl_39, tl_40, tl_41, tl_42, tl_43, tl_44, tl_45, tl_46, tl_47, tl_48, tl_49, tl_50, tl_51, tl_52, tl_53, tl_54, tl_55, tl_56, tl_57, tl_58, tl_59, tl_60, tl_61, tl_62, tl_63, tl_64, tl_70, tl_80, tl_81, tl_99, tl_100, tl_110, tl_120, tl_122, tl_124, tl_126, tl_128, tl_130, tl_144, tl_200, tl_255, tl_256, tl_260, tl_360, tl_12345] at *; omega)
                  ·
                    refine E_iconst (v := 1) C dX11_isUnder_56 ic_1 (E_goto C 61 dX11_isUnder_57 (by decide) (E_zretI C hr hlk dX11_isUnder_61 rfl ?_))
                    first | (refine ⟨(if_pos ?_).symm, rfl⟩; simp only [undM, decide_eq_true_eq]; simp only [i32_eq, Int32.lt_iff_toInt_lt, Int32.le_iff_toInt_le, tl_m100, tl_m14, tl_m13, tl_m12, tl_m11, tl_m5, tl_m3, tl_m2, tl_m1, tl_0, tl_1, tl_2, tl_3, tl_4, tl_5, tl_6, tl_7, tl_8, tl_9, tl_10, tl_11, tl_12, tl_13, tl_14, tl_15, tl_16, tl_17, tl_18, tl_19, tl_20, tl_21, tl_22, tl_23, tl_24, tl_25, tl_26, tl_27, tl_28, tl_29, tl_30, tl_31, tl_32, tl_33, tl_34, tl_35, tl_36, tl_37, tl_38, tl_39, tl_40, tl_41, tl_42, tl_43, tl_44, tl_45, tl_46, tl_47, tl_48, tl_49, tl_50, tl_51, tl_52, tl_53, tl_54, tl_55, tl_56, tl_57, tl_58, tl_59, tl_60, tl_61, tl_62, tl_63, tl_64, tl_70, tl_80, tl_81, tl_99, tl_100, tl_110, tl_120, tl_122, tl_124, tl_126, tl_128, tl_130, tl_144, tl_200, tl_255, tl_256, tl_260, tl_360, tl_12345] at *; omega) | (refine ⟨(if_neg ?_).symm, rfl⟩; simp only [undM, decide_eq_true_eq]; simp only [i32_eq, Int32.lt_iff_toInt_lt, Int32.le_iff_toInt_le, tl_m100, tl_m14, tl_m13, tl_m12, tl_m11, tl_m5, tl_m3, tl_m2, tl_m1, tl_0, tl_1, tl_2, tl_3, tl_4, tl_5, tl_6, tl_7, tl_8, tl_9, tl_10, tl_11, tl_12, tl_13, tl_14, tl_15, tl_16, tl_17, tl_18, tl_19, tl_20, tl_21, tl_22, tl_23, tl_24, tl_25, tl_26, tl_27, tl_28, tl_29, tl_30, tl_31, tl_32, tl_33, tl_34, tl_35, tl_36, tl_37, tl_38, tl_39, tl_40, tl_41, tl_42, tl_43, tl_44, tl_45, tl_46, tl_47, tl_48, tl_49, tl_50, tl_51, tl_52, tl_53, tl_54, tl_55, tl_56, tl_57, tl_58, tl_59, tl_60, tl_61, tl_62, tl_63, tl_64, tl_70, tl_80, tl_81, tl_99, tl_100, tl_110, tl_120, tl_122, tl_124, tl_126, tl_128, tl_130, tl_144, tl_200, tl_255, tl_256, tl_260, tl_360, tl_12345] at *; omega)
              ·
                refine E_iload_n C dX11_isUnder_39 0 rfl (E_iconst (v := 5) C dX11_isUnder_40 ic_5 (E_icmp_eq C 56 dX11_isUnder_41 (by decide) (fun c41_2 => ?_) (fun c41_2 => ?_)))
                ·
                  refine E_iconst (v := 1) C dX11_isUnder_56 ic_1 (E_goto C 61 dX11_isUnder_57 (by decide) (E_zretI C hr hlk dX11_isUnder_61 rfl ?_))
                  first | (refine ⟨(if_pos ?_).symm, rfl⟩; simp only [undM, decide_eq_true_eq]; simp only [i32_eq, Int32.lt_iff_toInt_lt, Int32.le_iff_toInt_le, tl_m100, tl_m14, tl_m13, tl_m12, tl_m11, tl_m5, tl_m3, tl_m2, tl_m1, tl_0, tl_1, tl_2, tl_3, tl_4, tl_5, tl_6, tl_7, tl_8, tl_9, tl_10, tl_11, tl_12, tl_13, tl_14, tl_15, tl_16, tl_17, tl_18, tl_19, tl_20, tl_21, tl_22, tl_23, tl_24, tl_25, tl_26, tl_27, tl_28, tl_29, tl_30, tl_31, tl_32, tl_33, tl_34, tl_35, tl_36, tl_37, tl_38, tl_39, tl_40, tl_41, tl_42, tl_43, tl_44, tl_45, tl_46, tl_47, tl_48, tl_49, tl_50, tl_51, tl_52, tl_53, tl_54, tl_55, tl_56, tl_57, tl_58, tl_59, tl_60, tl_61, tl_62, tl_63, tl_64, tl_70, tl_80, tl_81, tl_99, tl_100, tl_110, tl_120, tl_122, tl_124, tl_126, tl_128, tl_130, tl_144, tl_200, tl_255, tl_256, tl_260, tl_360, tl_12345] at *; omega) | (refine ⟨(if_neg ?_).symm, rfl⟩; simp only [undM, decide_eq_true_eq]; simp only [i32_eq, Int32.lt_iff_toInt_lt, Int32.le_iff_toInt_le, tl_m100, tl_m14, tl_m13, tl_m12, tl_m11, tl_m5, tl_m3, tl_m2, tl_m1, tl_0, tl_1, tl_2, tl_3, tl_4, tl_5, tl_6, tl_7, tl_8, tl_9, tl_10, tl_11, tl_12, tl_13, tl_14, tl_15, tl_16, tl_17, tl_18, tl_19, tl_20, tl_21, tl_22, tl_23, tl_24, tl_25, tl_26, tl_27, tl_28, tl_29, tl_30, tl_31, tl_32, tl_33, tl_34, tl_35, tl_36, tl_37, tl_38, tl_39, tl_40, tl_41, tl_42, tl_43, tl_44, tl_45, tl_46, tl_47, tl_48, tl_49, tl_50, tl_51, tl_52, tl_53, tl_54, tl_55, tl_56, tl_57, tl_58, tl_59, tl_60, tl_61, tl_62, tl_63, tl_64, tl_70, tl_80, tl_81, tl_99, tl_100, tl_110, tl_120, tl_122, tl_124, tl_126, tl_128, tl_130, tl_144, tl_200, tl_255, tl_256, tl_260, tl_360, tl_12345] at *; omega)
                ·
                  refine E_iload_n C dX11_isUnder_44 1 rfl (E_bipush (v := 6) C dX11_isUnder_45 bp_6 (E_icmp_ne C 60 dX11_isUnder_47 (by decide) (fun c47_4 => ?_) (fun c47_4 => ?_)))
                  ·
                    refine E_iconst (v := 0) C dX11_isUnder_60 ic_0 (E_zretI C hr hlk dX11_isUnder_61 rfl ?_)
                    first | (refine ⟨(if_pos ?_).symm, rfl⟩; simp only [undM, decide_eq_true_eq]; simp only [i32_eq, Int32.lt_iff_toInt_lt, Int32.le_iff_toInt_le, tl_m100, tl_m14, tl_m13, tl_m12, tl_m11, tl_m5, tl_m3, tl_m2, tl_m1, tl_0, tl_1, tl_2, tl_3, tl_4, tl_5, tl_6, tl_7, tl_8, tl_9, tl_10, tl_11, tl_12, tl_13, tl_14, tl_15, tl_16, tl_17, tl_18, tl_19, tl_20, tl_21, tl_22, tl_23, tl_24, tl_25, tl_26, tl_27, tl_28, tl_29, tl_30, tl_31, tl_32, tl_33, tl_34, tl_35, tl_36, tl_37, tl_38, tl_39, tl_40, tl_41, tl_42, tl_43, tl_44, tl_45, tl_46, tl_47, tl_48, tl_49, tl_50, tl_51, tl_52, tl_53, tl_54, tl_55, tl_56, tl_57, tl_58, tl_59, tl_60, tl_61, tl_62, tl_63, tl_64, tl_70, tl_80, tl_81, tl_99, tl_100, tl_110, tl_120, tl_122, tl_124, tl_126, tl_128, tl_130, tl_144, tl_200, tl_255, tl_256, tl_260, tl_360, tl_12345] at *; omega) | (refine ⟨(if_neg ?_).symm, rfl⟩; simp only [undM, decide_eq_true_eq]; simp only [i32_eq, Int32.lt_iff_toInt_lt, Int32.le_iff_toInt_le, tl_m100, tl_m14, tl_m13, tl_m12, tl_m11, tl_m5, tl_m3, tl_m2, tl_m1, tl_0, tl_1, tl_2, tl_3, tl_4, tl_5, tl_6, tl_7, tl_8, tl_9, tl_10, tl_11, tl_12, tl_13, tl_14, tl_15, tl_16, tl_17, tl_18, tl_19, tl_20, tl_21, tl_22, tl_23, tl_24, tl_25, tl_26, tl_27, tl_28, tl_29, tl_30, tl_31, tl_32, tl_33, tl_34, tl_35, tl_36, tl_37, tl_38, tl_39, tl_40, tl_41, tl_42, tl_43, tl_44, tl_45, tl_46, tl_47, tl_48, tl_49, tl_50, tl_51, tl_52, tl_53, tl_54, tl_55, tl_56, tl_57, tl_58, tl_59, tl_60, tl_61, tl_62, tl_63, tl_64, tl_70, tl_80, tl_81, tl_99, tl_100, tl_110, tl_120, tl_122, tl_124, tl_126, tl_128, tl_130, tl_144, tl_200, tl_255, tl_256, tl_260, tl_360, tl_12345] at *; omega)
                  ·
                    refine E_iload_n C dX11_isUnder_50 0 rfl (E_bipush (v := 7) C dX11_isUnder_51 bp_7 (E_icmp_ne C 60 dX11_isUnder_53 (by decide) (fun c53_4 => ?_) (fun c53_4 => ?_)))
                    ·
                      refine E_iconst (v := 0) C dX11_isUnder_60 ic_0 (E_zretI C hr hlk dX11_isUnder_61 rfl ?_)
                      first | (refine ⟨(if_pos ?_).symm, rfl⟩; simp only [undM, decide_eq_true_eq]; simp only [i32_eq, Int32.lt_iff_toInt_lt, Int32.le_iff_toInt_le, tl_m100, tl_m14, tl_m13, tl_m12, tl_m11, tl_m5, tl_m3, tl_m2, tl_m1, tl_0, tl_1, tl_2, tl_3, tl_4, tl_5, tl_6, tl_7, tl_8, tl_9, tl_10, tl_11, tl_12, tl_13, tl_14, tl_15, tl_16, tl_17, tl_18, tl_19, tl_20, tl_21, tl_22, tl_23, tl_24, tl_25, tl_26, tl_27, tl_28, tl_29, tl_30, tl_31, tl_32, tl_33, tl_34, tl_35, tl_36, tl_37, tl_38, tl_39, tl_40, tl_41, tl_42, tl_43, tl_44, tl_45, tl_46, tl_47, tl_48, tl_49, tl_50, tl_51, tl_52, tl_53, tl_54, tl_55, tl_56, tl_57, tl_58, tl_59, tl_60, tl_61, tl_62, tl_63, tl_64, tl_70, tl_80, tl_81, tl_99, tl_100, tl_110, tl_120, tl_122, tl_124, tl_126, tl_128, tl_130, tl_144, tl_200, tl_255, tl_256, tl_260, tl_360, tl_12345] at *; omega) | (refine ⟨(if_neg ?_).symm, rfl⟩; simp only [undM, decide_eq_true_eq]; simp only [i32_eq, Int32.lt_iff_toInt_lt, Int32.le_iff_toInt_le, tl_m100, tl_m14, tl_m13, tl_m12, tl_m11, tl_m5, tl_m3, tl_m2, tl_m1, tl_0, tl_1, tl_2, tl_3, tl_4, tl_5, tl_6, tl_7, tl_8, tl_9, tl_10, tl_11, tl_12, tl_13, tl_14, tl_15, tl_16, tl_17, tl_18, tl_19, tl_20, tl_21, tl_22, tl_23, tl_24, tl_25, tl_26, tl_27, tl_28, tl_29, tl_30, tl_31, tl_32, tl_33, tl_34, tl_35, tl_36, tl_37, tl_38, tl_39, tl_40, tl_41, tl_42, tl_43, tl_44, tl_45, tl_46, tl_47, tl_48, tl_49, tl_50, tl_51, tl_52, tl_53, tl_54, tl_55, tl_56, tl_57, tl_58, tl_59, tl_60, tl_61, tl_62, tl_63, tl_64, tl_70, tl_80, tl_81, tl_99, tl_100, tl_110, tl_120, tl_122, tl_124, tl_126, tl_128, tl_130, tl_144, tl_200, tl_255, tl_256, tl_260, tl_360, tl_12345] at *; omega)
                    ·
                      refine E_iconst (v := 1) C dX11_isUnder_56 ic_1 (E_goto C 61 dX11_isUnder_57 (by decide) (E_zretI C hr hlk dX11_isUnder_61 rfl ?_))
                      first | (refine ⟨(if_pos ?_).symm, rfl⟩; simp only [undM, decide_eq_true_eq]; simp only [i32_eq, Int32.lt_iff_toInt_lt, Int32.le_iff_toInt_le, tl_m100, tl_m14, tl_m13, tl_m12, tl_m11, tl_m5, tl_m3, tl_m2, tl_m1, tl_0, tl_1, tl_2, tl_3, tl_4, tl_5, tl_6, tl_7, tl_8, tl_9, tl_10, tl_11, tl_12, tl_13, tl_14, tl_15, tl_16, tl_17, tl_18, tl_19, tl_20, tl_21, tl_22, tl_23, tl_24, tl_25, tl_26, tl_27, tl_28, tl_29, tl_30, tl_31, tl_32, tl_33, tl_34, tl_35, tl_36, tl_37, tl_38, tl_39, tl_40, tl_41, tl_42, tl_43, tl_44, tl_45, tl_46, tl_47, tl_48, tl_49, tl_50, tl_51, tl_52, tl_53, tl_54, tl_55, tl_56, tl_57, tl_58, tl_59, tl_60, tl_61, tl_62, tl_63, tl_64, tl_70, tl_80, tl_81, tl_99, tl_100, tl_110, tl_120, tl_122, tl_124, tl_126, tl_128, tl_130, tl_144, tl_200, tl_255, tl_256, tl_260, tl_360, tl_12345] at *; omega) | (refine ⟨(if_neg ?_).symm, rfl⟩; simp only [undM, decide_eq_true_eq]; simp only [i32_eq, Int32.lt_iff_toInt_lt, Int32.le_iff_toInt_le, tl_m100, tl_m14, tl_m13, tl_m12, tl_m11, tl_m5, tl_m3, tl_m2, tl_m1, tl_0, tl_1, tl_2, tl_3, tl_4, tl_5, tl_6, tl_7, tl_8, tl_9, tl_10, tl_11, tl_12, tl_13, tl_14, tl_15, tl_16, tl_17, tl_18, tl_19, tl_20, tl_21, tl_22, tl_23, tl_24, tl_25, tl_26, tl_27, tl_28, tl_29, tl_30, tl_31, tl_32, tl_33, tl_34, tl_35, tl_36, tl_37, tl_38, tl_39, tl_40, tl_41, tl_42, tl_43, tl_44, tl_45, tl_46, tl_47, tl_48, tl_49, tl_50, tl_51, tl_52, tl_53, tl_54, tl_55, tl_56, tl_57, tl_58, tl_59, tl_60, tl_61, tl_62, tl_63, tl_64, tl_70, tl_80, tl_81, tl_99, tl_100, tl_110, tl_120, tl_122, tl_124, tl_126, tl_128, tl_130, tl_144, tl_200, tl_255, tl_256, tl_260, tl_360, tl_12345] at *; omega)
      ·
        refine E_iload_n C dX11_isUnder_14 0 rfl (E_iconst (v := 4) C dX11_isUnder_15 ic_4 (E_icmp_eq C 56 dX11_isUnder_16 (by decide) (fun c16 => ?_) (fun c16 => ?_)))
        ·
          refine E_iconst (v := 1) C dX11_isUnder_56 ic_1 (E_goto C 61 dX11_isUnder_57 (by decide) (E_zretI C hr hlk dX11_isUnder_61 rfl ?_))
          first | (refine ⟨(if_pos ?_).symm, rfl⟩; simp only [undM, decide_eq_true_eq]; simp only [i32_eq, Int32.lt_iff_toInt_lt, Int32.le_iff_toInt_le, tl_m100, tl_m14, tl_m13, tl_m12, tl_m11, tl_m5, tl_m3, tl_m2, tl_m1, tl_0, tl_1, tl_2, tl_3, tl_4, tl_5, tl_6, tl_7, tl_8, tl_9, tl_10, tl_11, tl_12, tl_13, tl_14, tl_15, tl_16, tl_17, tl_18, tl_19, tl_20, tl_21, tl_22, tl_23, tl_24, tl_25, tl_26, tl_27, tl_28, tl_29, tl_30, tl_31, tl_32, tl_33, tl_34, tl_35, tl_36, tl_37, tl_38, tl_39, tl_40, tl_41, tl_42, tl_43, tl_44, tl_45, tl_46, tl_47, tl_48, tl_49, tl_50, tl_51, tl_52, tl_53, tl_54, tl_55, tl_56, tl_57, tl_58, tl_59, tl_60, tl_61, tl_62, tl_63, tl_64, tl_70, tl_80, tl_81, tl_99, tl_100, tl_110, tl_120, tl_122, tl_124, tl_126, tl_128, tl_130, tl_144, tl_200, tl_255, tl_256, tl_260, tl_360, tl_12345] at *; omega) | (refine ⟨(if_neg ?_).symm, rfl⟩; simp only [undM, decide_eq_true_eq]; simp only [i32_eq, Int32.lt_iff_toInt_lt, Int32.le_iff_toInt_le, tl_m100, tl_m14, tl_m13, tl_m12, tl_m11, tl_m5, tl_m3, tl_m2, tl_m1, tl_0, tl_1, tl_2, tl_3, tl_4, tl_5, tl_6, tl_7, tl_8, tl_9, tl_10, tl_11, tl_12, tl_13, tl_14, tl_15, tl_16, tl_17, tl_18, tl_19, tl_20, tl_21, tl_22, tl_23, tl_24, tl_25, tl_26, tl_27, tl_28, tl_29, tl_30, tl_31, tl_32, tl_33, tl_34, tl_35, tl_36, tl_37, tl_38, tl_39, tl_40, tl_41, tl_42, tl_43, tl_44, tl_45, tl_46, tl_47, tl_48, tl_49, tl_50, tl_51, tl_52, tl_53, tl_54, tl_55, tl_56, tl_57, tl_58, tl_59, tl_60, tl_61, tl_62, tl_63, tl_64, tl_70, tl_80, tl_81, tl_99, tl_100, tl_110, tl_120, tl_122, tl_124, tl_126, tl_128, tl_130, tl_144, tl_200, tl_255, tl_256, tl_260, tl_360, tl_12345] at *; omega)
        ·
          refine E_iload_n C dX11_isUnder_19 1 rfl (E_iconst (v := 2) C dX11_isUnder_20 ic_2 (E_icmp_ne C 34 dX11_isUnder_21 (by decide) (fun c21_2 => ?_) (fun c21_2 => ?_)))
          ·
            refine E_iload_n C dX11_isUnder_34 1 rfl (E_iconst (v := 3) C dX11_isUnder_35 ic_3 (E_icmp_ne C 44 dX11_isUnder_36 (by decide) (fun c36_3 => ?_) (fun c36_3 => ?_)))
            ·
              refine E_iload_n C dX11_isUnder_44 1 rfl (E_bipush (v := 6) C dX11_isUnder_45 bp_6 (E_icmp_ne C 60 dX11_isUnder_47 (by decide) (fun c47_5 => ?_) (fun c47_5 => ?_)))
              ·
                refine E_iconst (v := 0) C dX11_isUnder_60 ic_0 (E_zretI C hr hlk dX11_isUnder_61 rfl ?_)
                first | (refine ⟨(if_pos ?_).symm, rfl⟩; simp only [undM, decide_eq_true_eq]; simp only [i32_eq, Int32.lt_iff_toInt_lt, Int32.le_iff_toInt_le, tl_m100, tl_m14, tl_m13, tl_m12, tl_m11, tl_m5, tl_m3, tl_m2, tl_m1, tl_0, tl_1, tl_2, tl_3, tl_4, tl_5, tl_6, tl_7, tl_8, tl_9, tl_10, tl_11, tl_12, tl_13, tl_14, tl_15, tl_16, tl_17, tl_18, tl_19, tl_20, tl_21, tl_22, tl_23, tl_24, tl_25, tl_26, tl_27, tl_28, tl_29, tl_30, tl_31, tl_32, tl_33, tl_34, tl_35, tl_36, tl_37, tl_38, tl_39, tl_40, tl_41, tl_42, tl_43, tl_44, tl_45, tl_46, tl_47, tl_48, tl_49, tl_50, tl_51, tl_52, tl_53, tl_54, tl_55, tl_56, tl_57, tl_58, tl_59, tl_60, tl_61, tl_62, tl_63, tl_64, tl_70, tl_80, tl_81, tl_99, tl_100, tl_110, tl_120, tl_122, tl_124, tl_126, tl_128, tl_130, tl_144, tl_200, tl_255, tl_256, tl_260, tl_360, tl_12345] at *; omega) | (refine ⟨(if_neg ?_).symm, rfl⟩; simp only [undM, decide_eq_true_eq]; simp only [i32_eq, Int32.lt_iff_toInt_lt, Int32.le_iff_toInt_le, tl_m100, tl_m14, tl_m13, tl_m12, tl_m11, tl_m5, tl_m3, tl_m2, tl_m1, tl_0, tl_1, tl_2, tl_3, tl_4, tl_5, tl_6, tl_7, tl_8, tl_9, tl_10, tl_11, tl_12, tl_13, tl_14, tl_15, tl_16, tl_17, tl_18, tl_19, tl_20, tl_21, tl_22, tl_23, tl_24, tl_25, tl_26, tl_27, tl_28, tl_29, tl_30, tl_31, tl_32, tl_33, tl_34, tl_35, tl_36, tl_37, tl_38, tl_39, tl_40, tl_41, tl_42, tl_43, tl_44, tl_45, tl_46, tl_47, tl_48, tl_49, tl_50, tl_51, tl_52, tl_53, tl_54, tl_55, tl_56, tl_57, tl_58, tl_59, tl_60, tl_61, tl_62, tl_63, tl_64, tl_70, tl_80, tl_81, tl_99, tl_100, tl_110, tl_120, tl_122, tl_124, tl_126, tl_128, tl_130, tl_144, tl_200, tl_255, tl_256, tl_260, tl_360, tl_12345] at *; omega)
              ·
                refine E_iload_n C dX11_isUnder_50 0 rfl (E_bipush (v := 7) C dX11_isUnder_51 bp_7 (E_icmp_ne C 60 dX11_isUnder_53 (by decide) (fun c53_5 => ?_) (fun c53_5 => ?_)))
                ·
                  refine E_iconst (v := 0) C dX11_isUnder_60 ic_0 (E_zretI C hr hlk dX11_isUnder_61 rfl ?_)
                  first | (refine ⟨(if_pos ?_).symm, rfl⟩; simp only [undM, decide_eq_true_eq]; simp only [i32_eq, Int32.lt_iff_toInt_lt, Int32.le_iff_toInt_le, tl_m100, tl_m14, tl_m13, tl_m12, tl_m11, tl_m5, tl_m3, tl_m2, tl_m1, tl_0, tl_1, tl_2, tl_3, tl_4, tl_5, tl_6, tl_7, tl_8, tl_9, tl_10, tl_11, tl_12, tl_13, tl_14, tl_15, tl_16, tl_17, tl_18, tl_19, tl_20, tl_21, tl_22, tl_23, tl_24, tl_25, tl_26, tl_27, tl_28, tl_29, tl_30, tl_31, tl_32, tl_33, tl_34, tl_35, tl_36, tl_37, tl_38, tl_39, tl_40, tl_41, tl_42, tl_43, tl_44, tl_45, tl_46, tl_47, tl_48, tl_49, tl_50, tl_51, tl_52, tl_53, tl_54, tl_55, tl_56, tl_57, tl_58, tl_59, tl_60, tl_61, tl_62, tl_63, tl_64, tl_70, tl_80, tl_81, tl_99, tl_100, tl_110, tl_120, tl_122, tl_124, tl_126, tl_128, tl_130, tl_144, tl_200, tl_255, tl_256, tl_260, tl_360, tl_12345] at *; omega) | (refine ⟨(if_neg ?_).symm, rfl⟩; simp only [undM, decide_eq_true_eq]; simp only [i32_eq, Int32.lt_iff_toInt_lt, Int32.le_iff_toInt_le, tl_m100, tl_m14, tl_m13, tl_m12, tl_m11, tl_m5, tl_m3, tl_m2, tl_m1, tl_0, tl_1, tl_2, tl_3, tl_4, tl_5, tl_6, tl_7, tl_8, tl_9, tl_10, tl_11, tl_12, tl_13, tl_14, tl_15, tl_16, tl_17, tl_18, tl_19, tl_20, tl_21, tl_22, tl_23, tl_24, tl_25, tl_26, tl_27, tl_28, tl_29, tl_30, tl_31, tl_32, tl_33, tl_34, tl_35, tl_36, tl_37, tl_38, tl_39, tl_40, tl_41, tl_42, tl_43, tl_44, tl_45, tl_46, tl_47, tl_48, tl_49, tl_50, tl_51, tl_52, tl_53, tl_54, tl_55, tl_56, tl_57, tl_58, tl_59, tl_60, tl_61, tl_62, tl_63, tl_64, tl_70, tl_80, tl_81, tl_99, tl_100, tl_110, tl_120, tl_122, tl_124, tl_126, tl_128, tl_130, tl_144, tl_200, tl_255, tl_256, tl_260, tl_360, tl_12345] at *; omega)
                ·
                  refine E_iconst (v := 1) C dX11_isUnder_56 ic_1 (E_goto C 61 dX11_isUnder_57 (by decide) (E_zretI C hr hlk dX11_isUnder_61 rfl ?_))
                  first | (refine ⟨(if_pos ?_).symm, rfl⟩; simp only [undM, decide_eq_true_eq]; simp only [i32_eq, Int32.lt_iff_toInt_lt, Int32.le_iff_toInt_le, tl_m100, tl_m14, tl_m13, tl_m12, tl_m11, tl_m5, tl_m3, tl_m2, tl_m1, tl_0, tl_1, tl_2, tl_3, tl_4, tl_5, tl_6, tl_7, tl_8, tl_9, tl_10, tl_11, tl_12, tl_13, tl_14, tl_15, tl_16, tl_17, tl_18, tl_19, tl_20, tl_21, tl_22, tl_23, tl_24, tl_25, tl_26, tl_27, tl_28, tl_29, tl_30, tl_31, tl_32, tl_33, tl_34, tl_35, tl_36, tl_37, tl_38, tl_39, tl_40, tl_41, tl_42, tl_43, tl_44, tl_45, tl_46, tl_47, tl_48, tl_49, tl_50, tl_51, tl_52, tl_53, tl_54, tl_55, tl_56, tl_57, tl_58, tl_59, tl_60, tl_61, tl_62, tl_63, tl_64, tl_70, tl_80, tl_81, tl_99, tl_100, tl_110, tl_120, tl_122, tl_124, tl_126, tl_128, tl_130, tl_144, tl_200, tl_255, tl_256, tl_260, tl_360, tl_12345] at *; omega) | (refine ⟨(if_neg ?_).symm, rfl⟩; simp only [undM, decide_eq_true_eq]; simp only [i32_eq, Int32.lt_iff_toInt_lt, Int32.le_iff_toInt_le, tl_m100, tl_m14, tl_m13, tl_m12, tl_m11, tl_m5, tl_m3, tl_m2, tl_m1, tl_0, tl_1, tl_2, tl_3, tl_4, tl_5, tl_6, tl_7, tl_8, tl_9, tl_10, tl_11, tl_12, tl_13, tl_14, tl_15, tl_16, tl_17, tl_18, tl_19, tl_20, tl_21, tl_22, tl_23, tl_24, tl_25, tl_26, tl_27, tl_28, tl_29, tl_30, tl_31, tl_32, tl_33, tl_34, tl_35, tl_36, tl_37, tl_38, tl_39, tl_40, tl_41, tl_42, tl_43, tl_44, tl_45, tl_46, tl_47, tl_48, tl_49, tl_50, tl_51, tl_52, tl_53, tl_54, tl_55, tl_56, tl_57, tl_58, tl_59, tl_60, tl_61, tl_62, tl_63, tl_64, tl_70, tl_80, tl_81, tl_99, tl_100, tl_110, tl_120, tl_122, tl_124, tl_126, tl_128, tl_130, tl_144, tl_200, tl_255, tl_256, tl_260, tl_360, tl_12345] at *; omega)
            ·
              refine E_iload_n C dX11_isUnder_39 0 rfl (E_iconst (v := 5) C dX11_isUnder_40 ic_5 (E_icmp_eq C 56 dX11_isUnder_41 (by decide) (fun c41_3 => ?_) (fun c41_3 => ?_)))
              ·
                refine E_iconst (v := 1) C dX11_isUnder_56 ic_1 (E_goto C 61 dX11_isUnder_57 (by decide) (E_zretI C hr hlk dX11_isUnder_61 rfl ?_))
                first | (refine ⟨(if_pos ?_).symm, rfl⟩; simp only [undM, decide_eq_true_eq]; simp only [i32_eq, Int32.lt_iff_toInt_lt, Int32.le_iff_toInt_le, tl_m100, tl_m14, tl_m13, tl_m12, tl_m11, tl_m5, tl_m3, tl_m2, tl_m1, tl_0, tl_1, tl_2, tl_3, tl_4, tl_5, tl_6, tl_7, tl_8, tl_9, tl_10, tl_11, tl_12, tl_13, tl_14, tl_15, tl_16, tl_17, tl_18, tl_19, tl_20, tl_21, tl_22, tl_23, tl_24, tl_25, tl_26, tl_27, tl_28, tl_29, tl_30, tl_31, tl_32, tl_33, tl_34, tl_35, tl_36, tl_37, tl_38, tl_39, tl_40, tl_41, tl_42, tl_43, tl_44, tl_45, tl_46, tl_47, tl_48, tl_49, tl_50, tl_51, tl_52, tl_53, tl_54, tl_55, tl_56, tl_57, tl_58, tl_59, tl_60, tl_61, tl_62, tl_63, tl_64, tl_70, tl_80, tl_81, tl_99, tl_100, tl_110, tl_120, tl_122, tl_124, tl_126, tl_128, tl_130, tl_144, tl_200, tl_255, tl_256, tl_260, tl_360, tl_12345] at *; omega) | (refine ⟨(if_neg ?_).symm, rfl⟩; simp only [undM, decide_eq_true_eq]; simp only [i32_eq, Int32.lt_iff_toInt_lt, Int32.le_iff_toInt_le, tl_m100, tl_m14, tl_m13, tl_m12, tl_m11, tl_m5, tl_m3, tl_m2, tl_m1, tl_0, tl_1, tl_2, tl_3, tl_4, tl_5, tl_6, tl_7, tl_8, tl_9, tl_10, tl_11, tl_12, tl_13, tl_14, tl_15, tl_16, tl_17, tl_18, tl_19, tl_20, tl_21, tl_22, tl_23, tl_24, tl_25, tl_26, tl_27, tl_28, tl_29, tl_30, tl_31, tl_32, tl_33, tl_34, tl_35, tl_36, tl_37, tl_38, tl_39, tl_40, tl_41, tl_42, tl_43, tl_44, tl_45, tl_46, tl_47, tl_48, tl_49, tl_50, tl_51, tl_52, tl_53, tl_54, tl_55, tl_56, tl_57, tl_58, tl_59, tl_60, tl_61, tl_62, tl_63, tl_64, tl_70, tl_80, tl_81, tl_99, tl_100, tl_110, tl_120, tl_122, tl_124, tl_126, tl_128, tl_130, tl_144, tl_200, tl_255, tl_256, tl_260, tl_360, tl_12345] at *; omega)
              ·
                refine E_iload_n C dX11_isUnder_44 1 rfl (E_bipush (v := 6) C dX11_isUnder_45 bp_6 (E_icmp_ne C 60 dX11_isUnder_47 (by decide) (fun c47_6 => ?_) (fun c47_6 => ?_)))
                ·
                  refine E_iconst (v := 0) C dX11_isUnder_60 ic_0 (E_zretI C hr hlk dX11_isUnder_61 rfl ?_)
                  first | (refine ⟨(if_pos ?_).symm, rfl⟩; simp only [undM, decide_eq_true_eq]; simp only [i32_eq, Int32.lt_iff_toInt_lt, Int32.le_iff_toInt_le, tl_m100, tl_m14, tl_m13, tl_m12, tl_m11, tl_m5, tl_m3, tl_m2, tl_m1, tl_0, tl_1, tl_2, tl_3, tl_4, tl_5, tl_6, tl_7, tl_8, tl_9, tl_10, tl_11, tl_12, tl_13, tl_14, tl_15, tl_16, tl_17, tl_18, tl_19, tl_20, tl_21, tl_22, tl_23, tl_24, tl_25, tl_26, tl_27, tl_28, tl_29, tl_30, tl_31, tl_32, tl_33, tl_34, tl_35, tl_36, tl_37, tl_38, tl_39, tl_40, tl_41, tl_42, tl_43, tl_44, tl_45, tl_46, tl_47, tl_48, tl_49, tl_50, tl_51, tl_52, tl_53, tl_54, tl_55, tl_56, tl_57, tl_58, tl_59, tl_60, tl_61, tl_62, tl_63, tl_64, tl_70, tl_80, tl_81, tl_99, tl_100, tl_110, tl_120, tl_122, tl_124, tl_126, tl_128, tl_130, tl_144, tl_200, tl_255, tl_256, tl_260, tl_360, tl_12345] at *; omega) | (refine ⟨(if_neg ?_).symm, rfl⟩; simp only [undM, decide_eq_true_eq]; simp only [i32_eq, Int32.lt_iff_toInt_lt, Int32.le_iff_toInt_le, tl_m100, tl_m14, tl_m13, tl_m12, tl_m11, tl_m5, tl_m3, tl_m2, tl_m1, tl_0, tl_1, tl_2, tl_3, tl_4, tl_5, tl_6, tl_7, tl_8, tl_9, tl_10, tl_11, tl_12, tl_13, tl_14, tl_15, tl_16, tl_17, tl_18, tl_19, tl_20, tl_21, tl_22, tl_23, tl_24, tl_25, tl_26, tl_27, tl_28, tl_29, tl_30, tl_31, tl_32, tl_33, tl_34, tl_35, tl_36, tl_37, tl_38, tl_39, tl_40, tl_41, tl_42, tl_43, tl_44, tl_45, tl_46, tl_47, tl_48, tl_49, tl_50, tl_51, tl_52, tl_53, tl_54, tl_55, tl_56, tl_57, tl_58, tl_59, tl_60, tl_61, tl_62, tl_63, tl_64, tl_70, tl_80, tl_81, tl_99, tl_100, tl_110, tl_120, tl_122, tl_124, tl_126, tl_128, tl_130, tl_144, tl_200, tl_255, tl_256, tl_260, tl_360, tl_12345] at *; omega)
                ·
                  refine E_iload_n C dX11_isUnder_50 0 rfl (E_bipush (v := 7) C dX11_isUnder_51 bp_7 (E_icmp_ne C 60 dX11_isUnder_53 (by decide) (fun c53_6 => ?_) (fun c53_6 => ?_)))
                  ·
                    refine E_iconst (v := 0) C dX11_isUnder_60 ic_0 (E_zretI C hr hlk dX11_isUnder_61 rfl ?_)
                    first | (refine ⟨(if_pos ?_).symm, rfl⟩; simp only [undM, decide_eq_true_eq]; simp only [i32_eq, Int32.lt_iff_toInt_lt, Int32.le_iff_toInt_le, tl_m100, tl_m14, tl_m13, tl_m12, tl_m11, tl_m5, tl_m3, tl_m2, tl_m1, tl_0, tl_1, tl_2, tl_3, tl_4, tl_5, tl_6, tl_7, tl_8, tl_9, tl_10, tl_11, tl_12, tl_13, tl_14, tl_15, tl_16, tl_17, tl_18, tl_19, tl_20, tl_21, tl_22, tl_23, tl_24, tl_25, tl_26, tl_27, tl_28, tl_29, tl_30, tl_31, tl_32, tl_33, tl_34, tl_35, tl_36, tl_37, tl_38, tl_39, tl_40, tl_41, tl_42, tl_43, tl_44, tl_45, tl_46, tl_47, tl_48, tl_49, tl_50, tl_51, tl_52, tl_53, tl_54, tl_55, tl_56, tl_57, tl_58, tl_59, tl_60, tl_61, tl_62, tl_63, tl_64, tl_70, tl_80, tl_81, tl_99, tl_100, tl_110, tl_120, tl_122, tl_124, tl_126, tl_128, tl_130, tl_144, tl_200, tl_255, tl_256, tl_260, tl_360, tl_12345] at *; omega) | (refine ⟨(if_neg ?_).symm, rfl⟩; simp only [undM, decide_eq_true_eq]; simp only [i32_eq, Int32.lt_iff_toInt_lt, Int32.le_iff_toInt_le, tl_m100, tl_m14, tl_m13, tl_m12, tl_m11, tl_m5, tl_m3, tl_m2, tl_m1, tl_0, tl_1, tl_2, tl_3, tl_4, tl_5, tl_6, tl_7, tl_8, tl_9, tl_10, tl_11, tl_12, tl_13, tl_14, tl_15, tl_16, tl_17, tl_18, tl_19, tl_20, tl_21, tl_22, tl_23, tl_24, tl_25, tl_26, tl_27, tl_28, tl_29, tl_30, tl_31, tl_32, tl_33, tl_34, tl_35, tl_36, tl_37, tl_38, tl_39, tl_40, tl_41, tl_42, tl_43, tl_44, tl_45, tl_46, tl_47, tl_48, tl_49, tl_50, tl_51, tl_52, tl_53, tl_54, tl_55, tl_56, tl_57, tl_58, tl_59, tl_60, tl_61, tl_62, tl_63, tl_64, tl_70, tl_80, tl_81, tl_99, tl_100, tl_110, tl_120, tl_122, tl_124, tl_126, tl_128, tl_130, tl_144, tl_200, tl_255, tl_256, tl_260, tl_360, tl_12345] at *; omega)
                  ·
                    refine E_iconst (v := 1) C dX11_isUnder_56 ic_1 (E_goto C 61 dX11_isUnder_57 (by decide) (E_zretI C hr hlk dX11_isUnder_61 rfl ?_))
                    first | (refine ⟨(if_pos ?_).symm, rfl⟩; simp only [undM, decide_eq_true_eq]; simp only [i32_eq, Int32.lt_iff_toInt_lt, Int32.le_iff_toInt_le, tl_m100, tl_m14, tl_m13, tl_m12, tl_m11, tl_m5, tl_m3, tl_m2, tl_m1, tl_0, tl_1, tl_2, tl_3, tl_4, tl_5, tl_6, tl_7, tl_8, tl_9, tl_10, tl_11, tl_12, tl_13, tl_14, tl_15, tl_16, tl_17, tl_18, tl_19, tl_20, tl_21, tl_22, tl_23, tl_24, tl_25, tl_26, tl_27, tl_28, tl_29, tl_30, tl_31, tl_32, tl_33, tl_34, tl_35, tl_36, tl_37, tl_38, tl_39, tl_40, tl_41, tl_42, tl_43, tl_44, tl_45, tl_46, tl_47, tl_48, tl_49, tl_50, tl_51, tl_52, tl_53, tl_54, tl_55, tl_56, tl_57, tl_58, tl_59, tl_60, tl_61, tl_62, tl_63, tl_64, tl_70, tl_80, tl_81, tl_99, tl_100, tl_110, tl_120, tl_122, tl_124, tl_126, tl_128, tl_130, tl_144, tl_200, tl_255, tl_256, tl_260, tl_360, tl_12345] at *; omega) | (refine ⟨(if_neg ?_).symm, rfl⟩; simp only [undM, decide_eq_true_eq]; simp only [i32_eq, Int32.lt_iff_toInt_lt, Int32.le_iff_toInt_le, tl_m100, tl_m14, tl_m13, tl_m12, tl_m11, tl_m5, tl_m3, tl_m2, tl_m1, tl_0, tl_1, tl_2, tl_3, tl_4, tl_5, tl_6, tl_7, tl_8, tl_9, tl_10, tl_11, tl_12, tl_13, tl_14, tl_15, tl_16, tl_17, tl_18, tl_19, tl_20, tl_21, tl_22, tl_23, tl_24, tl_25, tl_26, tl_27, tl_28, tl_29, tl_30, tl_31, tl_32, tl_33, tl_34, tl_35, tl_36, tl_37, tl_38, tl_39, tl_40, tl_41, tl_42, tl_43, tl_44, tl_45, tl_46, tl_47, tl_48, tl_49, tl_50, tl_51, tl_52, tl_53, tl_54, tl_55, tl_56, tl_57, tl_58, tl_59, tl_60, tl_61, tl_62, tl_63, tl_64, tl_70, tl_80, tl_81, tl_99, tl_100, tl_110, tl_120, tl_122, tl_124, tl_126, tl_128, tl_130, tl_144, tl_200, tl_255, tl_256, tl_260, tl_360, tl_12345] at *; omega)
          ·
            refine E_iload_n C dX11_isUnder_24 0 rfl (E_iconst (v := 3) C dX11_isUnder_25 ic_3 (E_icmp_eq C 56 dX11_isUnder_26 (by decide) (fun c26_2 => ?_) (fun c26_2 => ?_)))
            ·
              refine E_iconst (v := 1) C dX11_isUnder_56 ic_1 (E_goto C 61 dX11_isUnder_57 (by decide) (E_zretI C hr hlk dX11_isUnder_61 rfl ?_))
              first | (refine ⟨(if_pos ?_).symm, rfl⟩; simp only [undM, decide_eq_true_eq]; simp only [i32_eq, Int32.lt_iff_toInt_lt, Int32.le_iff_toInt_le, tl_m100, tl_m14, tl_m13, tl_m12, tl_m11, tl_m5, tl_m3, tl_m2, tl_m1, tl_0, tl_1, tl_2, tl_3, tl_4, tl_5, tl_6, tl_7, tl_8, tl_9, tl_10, tl_11, tl_12, tl_13, tl_14, tl_15, tl_16, tl_17, tl_18, tl_19, tl_20, tl_21, tl_22, tl_23, tl_24, tl_25, tl_26, tl_27, tl_28, tl_29, tl_30, tl_31, tl_32, tl_33, tl_34, tl_35, tl_36, tl_37, tl_38, tl_39, tl_40, tl_41, tl_42, tl_43, tl_44, tl_45, tl_46, tl_47, tl_48, tl_49, tl_50, tl_51, tl_52, tl_53, tl_54, tl_55, tl_56, tl_57, tl_58, tl_59, tl_60, tl_61, tl_62, tl_63, tl_64, tl_70, tl_80, tl_81, tl_99, tl_100, tl_110, tl_120, tl_122, tl_124, tl_126, tl_128, tl_130, tl_144, tl_200, tl_255, tl_256, tl_260, tl_360, tl_12345] at *; omega) | (refine ⟨(if_neg ?_).symm, rfl⟩; simp only [undM, decide_eq_true_eq]; simp only [i32_eq, Int32.lt_iff_toInt_lt, Int32.le_iff_toInt_le, tl_m100, tl_m14, tl_m13, tl_m12, tl_m11, tl_m5, tl_m3, tl_m2, tl_m1, tl_0, tl_1, tl_2, tl_3, tl_4, tl_5, tl_6, tl_7, tl_8, tl_9, tl_10, tl_11, tl_12, tl_13, tl_14, tl_15, tl_16, tl_17, tl_18, tl_19, tl_20, tl_21, tl_22, tl_23, tl_24, tl_25, tl_26, tl_27, tl_28, tl_29, tl_30, tl_31, tl_32, tl_33, tl_34, tl_35, tl_36, tl_37, tl_38, tl_39, tl_40, tl_41, tl_42, tl_43, tl_44, tl_45, tl_46, tl_47, tl_48, tl_49, tl_50, tl_51, tl_52, tl_53, tl_54, tl_55, tl_56, tl_57, tl_58, tl_59, tl_60, tl_61, tl_62, tl_63, tl_64, tl_70, tl_80, tl_81, tl_99, tl_100, tl_110, tl_120, tl_122, tl_124, tl_126, tl_128, tl_130, tl_144, tl_200, tl_255, tl_256, tl_260, tl_360, tl_12345] at *; omega)
            ·
              refine E_iload_n C dX11_isUnder_29 0 rfl (E_iconst (v := 5) C dX11_isUnder_30 ic_5 (E_icmp_eq C 56 dX11_isUnder_31 (by decide) (fun c31_2 => ?_) (fun c31_2 => ?_)))
              ·
                refine E_iconst (v := 1) C dX11_isUnder_56 ic_1 (E_goto C 61 dX11_isUnder_57 (by decide) (E_zretI C hr hlk dX11_isUnder_61 rfl ?_))
                first | (refine ⟨(if_pos ?_).symm, rfl⟩; simp only [undM, decide_eq_true_eq]; simp only [i32_eq, Int32.lt_iff_toInt_lt, Int32.le_iff_toInt_le, tl_m100, tl_m14, tl_m13, tl_m12, tl_m11, tl_m5, tl_m3, tl_m2, tl_m1, tl_0, tl_1, tl_2, tl_3, tl_4, tl_5, tl_6, tl_7, tl_8, tl_9, tl_10, tl_11, tl_12, tl_13, tl_14, tl_15, tl_16, tl_17, tl_18, tl_19, tl_20, tl_21, tl_22, tl_23, tl_24, tl_25, tl_26, tl_27, tl_28, tl_29, tl_30, tl_31, tl_32, tl_33, tl_34, tl_35, tl_36, tl_37, tl_38, tl_39, tl_40, tl_41, tl_42, tl_43, tl_44, tl_45, tl_46, tl_47, tl_48, tl_49, tl_50, tl_51, tl_52, tl_53, tl_54, tl_55, tl_56, tl_57, tl_58, tl_59, tl_60, tl_61, tl_62, tl_63, tl_64, tl_70, tl_80, tl_81, tl_99, tl_100, tl_110, tl_120, tl_122, tl_124, tl_126, tl_128, tl_130, tl_144, tl_200, tl_255, tl_256, tl_260, tl_360, tl_12345] at *; omega) | (refine ⟨(if_neg ?_).symm, rfl⟩; simp only [undM, decide_eq_true_eq]; simp only [i32_eq, Int32.lt_iff_toInt_lt, Int32.le_iff_toInt_le, tl_m100, tl_m14, tl_m13, tl_m12, tl_m11, tl_m5, tl_m3, tl_m2, tl_m1, tl_0, tl_1, tl_2, tl_3, tl_4, tl_5, tl_6, tl_7, tl_8, tl_9, tl_10, tl_11, tl_12, tl_13, tl_14, tl_15, tl_16, tl_17, tl_18, tl_19, tl_20, tl_21, tl_22, tl_23, tl_24, tl_25, tl_26, tl_27, tl_28, tl_29, tl_30, tl_31, tl_32, tl_33, tl_34, tl_35, tl_36, tl_37, tl_38, tl_39, tl_40, tl_41, tl_42, tl_43, tl_44, tl_45, tl_46, tl_47, tl_48, tl_49, tl_50, tl_51, tl_52, tl_53, tl_54, tl_55, tl_56, tl_57, tl_58, tl_59, tl_60, tl_61, tl_62, tl_63, tl_64, tl_70, tl_80, tl_81, tl_99, tl_100, tl_110, tl_120, tl_122, tl_124, tl_126, tl_128, tl_130, tl_144, tl_200, tl_255, tl_256, tl_260, tl_360, tl_12345] at *; omega)
              ·
                refine E_iload_n C dX11_isUnder_34 1 rfl (E_iconst (v := 3) C dX11_isUnder_35 ic_3 (E_icmp_ne C 44 dX11_isUnder_36 (by decide) (fun c36_4 => ?_) (fun c36_4 => ?_)))
                ·
                  refine E_iload_n C dX11_isUnder_44 1 rfl (E_bipush (v := 6) C dX11_isUnder_45 bp_6 (E_icmp_ne C 60 dX11_isUnder_47 (by decide) (fun c47_7 => ?_) (fun c47_7 => ?_)))
                  ·
                    refine E_iconst (v := 0) C dX11_isUnder_60 ic_0 (E_zretI C hr hlk dX11_isUnder_61 rfl ?_)
                    first | (refine ⟨(if_pos ?_).symm, rfl⟩; simp only [undM, decide_eq_true_eq]; simp only [i32_eq, Int32.lt_iff_toInt_lt, Int32.le_iff_toInt_le, tl_m100, tl_m14, tl_m13, tl_m12, tl_m11, tl_m5, tl_m3, tl_m2, tl_m1, tl_0, tl_1, tl_2, tl_3, tl_4, tl_5, tl_6, tl_7, tl_8, tl_9, tl_10, tl_11, tl_12, tl_13, tl_14, tl_15, tl_16, tl_17, tl_18, tl_19, tl_20, tl_21, tl_22, tl_23, tl_24, tl_25, tl_26, tl_27, tl_28, tl_29, tl_30, tl_31, tl_32, tl_33, tl_34, tl_35, tl_36, tl_37, tl_38, tl_39, tl_40, tl_41, tl_42, tl_43, tl_44, tl_45, tl_46, tl_47, tl_48, tl_49, tl_50, tl_51, tl_52, tl_53, tl_54, tl_55, tl_56, tl_57, tl_58, tl_59, tl_60, tl_61, tl_62, tl_63, tl_64, tl_70, tl_80, tl_81, tl_99, tl_100, tl_110, tl_120, tl_122, tl_124, tl_126, tl_128, tl_130, tl_144, tl_200, tl_255, tl_256, tl_260, tl_360, tl_12345] at *; omega) | (refine ⟨(if_neg ?_).symm, rfl⟩; simp only [undM, decide_eq_true_eq]; simp only [i32_eq, Int32.lt_iff_toInt_lt, Int32.le_iff_toInt_le, tl_m100, tl_m14, tl_m13, tl_m12, tl_m11, tl_m5, tl_m3, tl_m2, tl_m1, tl_0, tl_1, tl_2, tl_3, tl_4, tl_5, tl_6, tl_7, tl_8, tl_9, tl_10, tl_11, tl_12, tl_13, tl_14, tl_15, tl_16, tl_17, tl_18, tl_19, tl_20, tl_21, tl_22, tl_23, tl_24, tl_25, tl_26, tl_27, tl_28, tl_29, tl_30, tl_31, tl_32, tl_33, tl_34, tl_35, tl_36, tl_37, tl_38, tl_39, tl_40, tl_41, tl_42, tl_43, tl_44, tl_45, tl_46, tl_47, tl_48, tl_49, tl_50, tl_51, tl_52, tl_53, tl_54, tl_55, tl_56, tl_57, tl_58, tl_59, tl_60, tl_61, tl_62, tl_63, tl_64, tl_70, tl_80, tl_81, tl_99, tl_100, tl_110, tl_120, tl_122, tl_124, tl_126, tl_128, tl_130, tl_144, tl_200, tl_255, tl_256, tl_260, tl_360, tl_12345] at *; omega)
                  ·
                    refine E_iload_n C dX11_isUnder_50 0 rfl (E_bipush (v := 7) C dX11_isUnder_51 bp_7 (E_icmp_ne C 60 dX11_isUnder_53 (by decide) (fun c53_7 => ?_) (fun c53_7 => ?_)))
                    ·
                      refine E_iconst (v := 0) C dX11_isUnder_60 ic_0 (E_zretI C hr hlk dX11_isUnder_61 rfl ?_)
                      first | (refine ⟨(if_pos ?_).symm, rfl⟩; simp only [undM, decide_eq_true_eq]; simp only [i32_eq, Int32.lt_iff_toInt_lt, Int32.le_iff_toInt_le, tl_m100, tl_m14, tl_m13, tl_m12, tl_m11, tl_m5, tl_m3, tl_m2, tl_m1, tl_0, tl_1, tl_2, tl_3, tl_4, tl_5, tl_6, tl_7, tl_8, tl_9, tl_10, tl_11, tl_12, tl_13, tl_14, tl_15, tl_16, tl_17, tl_18, tl_19, tl_20, tl_21, tl_22, tl_23, tl_24, tl_25, tl_26, tl_27, tl_28, tl_29, tl_30, tl_31, tl_32, tl_33, tl_34, tl_35, tl_36, tl_37, tl_38, tl_39, tl_40, tl_41, tl_42, tl_43, tl_44, tl_45, tl_46, tl_47, tl_48, tl_49, tl_50, tl_51, tl_52, tl_53, tl_54, tl_55, tl_56, tl_57, tl_58, tl_59, tl_60, tl_61, tl_62, tl_63, tl_64, tl_70, tl_80, tl_81, tl_99, tl_100, tl_110, tl_120, tl_122, tl_124, tl_126, tl_128, tl_130, tl_144, tl_200, tl_255, tl_256, tl_260, tl_360, tl_12345] at *; omega) | (refine ⟨(if_neg ?_).symm, rfl⟩; simp only [undM, decide_eq_true_eq]; simp only [i32_eq, Int32.lt_iff_toInt_lt, Int32.le_iff_toInt_le, tl_m100, tl_m14, tl_m13, tl_m12, tl_m11, tl_m5, tl_m3, tl_m2, tl_m1, tl_0, tl_1, tl_2, tl_3, tl_4, tl_5, tl_6, tl_7, tl_8, tl_9, tl_10, tl_11, tl_12, tl_13, tl_14, tl_15, tl_16, tl_17, tl_18, tl_19, tl_20, tl_21, tl_22, tl_23, tl_24, tl_25, tl_26, tl_27, tl_28, tl_29, tl_30, tl_31, tl_32, tl_33, tl_34, tl_35, tl_36, tl_37, tl_38, tl_39, tl_40, tl_41, tl_42, tl_43, tl_44, tl_45, tl_46, tl_47, tl_48, tl_49, tl_50, tl_51, tl_52, tl_53, tl_54, tl_55, tl_56, tl_57, tl_58, tl_59, tl_60, tl_61, tl_62, tl_63, tl_64, tl_70, tl_80, tl_81, tl_99, tl_100, tl_110, tl_120, tl_122, tl_124, tl_126, tl_128, tl_130, tl_144, tl_200, tl_255, tl_256, tl_260, tl_360, tl_12345] at *; omega)
                    ·
                      refine E_iconst (v := 1) C dX11_isUnder_56 ic_1 (E_goto C 61 dX11_isUnder_57 (by decide) (E_zretI C hr hlk dX11_isUnder_61 rfl ?_))
                      first | (refine ⟨(if_pos ?_).symm, rfl⟩; simp only [undM, decide_eq_true_eq]; simp only [i32_eq, Int32.lt_iff_toInt_lt, Int32.le_iff_toInt_le, tl_m100, tl_m14, tl_m13, tl_m12, tl_m11, tl_m5, tl_m3, tl_m2, tl_m1, tl_0, tl_1, tl_2, tl_3, tl_4, tl_5, tl_6, tl_7, tl_8, tl_9, tl_10, tl_11, tl_12, tl_13, tl_14, tl_15, tl_16, tl_17, tl_18, tl_19, tl_20, tl_21, tl_22, tl_23, tl_24, tl_25, tl_26, tl_27, tl_28, tl_29, tl_30, tl_31, tl_32, tl_33, tl_34, tl_35, tl_36, tl_37, tl_38, tl_39, tl_40, tl_41, tl_42, tl_43, tl_44, tl_45, tl_46, tl_47, tl_48, tl_49, tl_50, tl_51, tl_52, tl_53, tl_54, tl_55, tl_56, tl_57, tl_58, tl_59, tl_60, tl_61, tl_62, tl_63, tl_64, tl_70, tl_80, tl_81, tl_99, tl_100, tl_110, tl_120, tl_122, tl_124, tl_126, tl_128, tl_130, tl_144, tl_200, tl_255, tl_256, tl_260, tl_360, tl_12345] at *; omega) | (refine ⟨(if_neg ?_).symm, rfl⟩; simp only [undM, decide_eq_true_eq]; simp only [i32_eq, Int32.lt_iff_toInt_lt, Int32.le_iff_toInt_le, tl_m100, tl_m14, tl_m13, tl_m12, tl_m11, tl_m5, tl_m3, tl_m2, tl_m1, tl_0, tl_1, tl_2, tl_3, tl_4, tl_5, tl_6, tl_7, tl_8, tl_9, tl_10, tl_11, tl_12, tl_13, tl_14, tl_15, tl_16, tl_17, tl_18, tl_19, tl_20, tl_21, tl_22, tl_23, tl_24, tl_25, tl_26, tl_27, tl_28, tl_29, tl_30, tl_31, tl_32, tl_33, tl_34, tl_35, tl_36, tl_37, tl_38, tl_39, tl_40, tl_41, tl_42, tl_43, tl_44, tl_45, tl_46, tl_47, tl_48, tl_49, tl_50, tl_51, tl_52, tl_53, tl_54, tl_55, tl_56, tl_57, tl_58, tl_59, tl_60, tl_61, tl_62, tl_63, tl_64, tl_70, tl_80, tl_81, tl_99, tl_100, tl_110, tl_120, tl_122, tl_124, tl_126, tl_128, tl_130, tl_144, tl_200, tl_255, tl_256, tl_260, tl_360, tl_12345] at *; omega)
                ·
                  refine E_iload_n C dX11_isUnder_39 0 rfl (E_iconst (v := 5) C dX11_isUnder_40 ic_5 (E_icmp_eq C 56 dX11_isUnder_41 (by decide) (fun c41_4 => ?_) (fun c41_4 => ?_)))
                  ·
                    refine E_iconst (v := 1) C dX11_isUnder_56 ic_1 (E_goto C 61 dX11_isUnder_57 (by decide) (E_zretI C hr hlk dX11_isUnder_61 rfl ?_))
                    first | (refine ⟨(if_pos ?_).symm, rfl⟩; simp only [undM, decide_eq_true_eq]; simp only [i32_eq, Int32.lt_iff_toInt_lt, Int32.le_iff_toInt_le, tl_m100, tl_m14, tl_m13, tl_m12, tl_m11, tl_m5, tl_m3, tl_m2, tl_m1, tl_0, tl_1, tl_2, tl_3, tl_4, tl_5, tl_6, tl_7, tl_8, tl_9, tl_10, tl_11, tl_12, tl_13, tl_14, tl_15, tl_16, tl_17, tl_18, tl_19, tl_20, tl_21, tl_22, tl_23, tl_24, tl_25, tl_26, tl_27, tl_28, tl_29, tl_30, tl_31, tl_32, tl_33, tl_34, tl_35, tl_36, tl_37, tl_38, tl_39, tl_40, tl_41, tl_42, tl_43, tl_44, tl_45, tl_46, tl_47, tl_48, tl_49, tl_50, tl_51, tl_52, tl_53, tl_54, tl_55, tl_56, tl_57, tl_58, tl_59, tl_60, tl_61, tl_62, tl_63, tl_64, tl_70, tl_80, tl_81, tl_99, tl_100, tl_110, tl_120, tl_122, tl_124, tl_126, tl_128, tl_130, tl_144, tl_200, tl_255, tl_256, tl_260, tl_360, tl_12345] at *; omega) | (refine ⟨(if_neg ?_).symm, rfl⟩; simp only [undM, decide_eq_true_eq]; simp only [i32_eq, Int32.lt_iff_toInt_lt, Int32.le_iff_toInt_le, tl_m100, tl_m14, tl_m13, tl_m12, tl_m11, tl_m5, tl_m3, tl_m2, tl_m1, tl_0, tl_1, tl_2, tl_3, tl_4, tl_5, tl_6, tl_7, tl_8, tl_9, tl_10, tl_11, tl_12, tl_13, tl_14, tl_15, tl_16, tl_17, tl_18, tl_19, tl_20, tl_21, tl_22, tl_23, tl_24, tl_25, tl_26, tl_27, tl_28, tl_29, tl_30, tl_31, tl_32, tl_33, tl_34, tl_35, tl_36, tl_37, tl_38, tl_39, tl_40, tl_41, tl_42, tl_43, tl_44, tl_45, tl_46, tl_47, tl_48, tl_49, tl_50, tl_51, tl_52, tl_53, tl_54, tl_55, tl_56, tl_57, tl_58, tl_59, tl_60, tl_61, tl_62, tl_63, tl_64, tl_70, tl_80, tl_81, tl_99, tl_100, tl_110, tl_120, tl_122, tl_124, tl_126, tl_128, tl_130, tl_144, tl_200, tl_255, tl_256, tl_260, tl_360, tl_12345] at *; omega)
                  ·
                    refine E_iload_n C dX11_isUnder_44 1 rfl (E_bipush (v := 6) C dX11_isUnder_45 bp_6 (E_icmp_ne C 60 dX11_isUnder_47 (by decide) (fun c47_8 => ?_) (fun c47_8 => ?_)))
                    ·
                      refine E_iconst (v := 0) C dX11_isUnder_60 ic_0 (E_zretI C hr hlk dX11_isUnder_61 rfl ?_)
                      first | (refine ⟨(if_pos ?_).symm, rfl⟩; simp only [undM, decide_eq_true_eq]; simp only [i32_eq, Int32.lt_iff_toInt_lt, Int32.le_iff_toInt_le, tl_m100, tl_m14, tl_m13, tl_m12, tl_m11, tl_m5, tl_m3, tl_m2, tl_m1, tl_0, tl_1, tl_2, tl_3, tl_4, tl_5, tl_6, tl_7, tl_8, tl_9, tl_10, tl_11, tl_12, tl_13, tl_14, tl_15, tl_16, tl_17, tl_18, tl_19, tl_20, tl_21, tl_22, tl_23, tl_24, tl_25, tl_26, tl_27, tl_28, tl_29, tl_30, tl_31, tl_32, tl_33, tl_34, tl_35, tl_36, tl_37, tl_38, tl_39, tl_40, tl_41, tl_42, tl_43, tl_44, tl_45, tl_46, tl_47, tl_48, tl_49, tl_50, tl_51, tl_52, tl_53, tl_54, tl_55, tl_56, tl_57, tl_58, tl_59, tl_60, tl_61, tl_62, tl_63, tl_64, tl_70, tl_80, tl_81, tl_99, tl_100, tl_110, tl_120, tl_122, tl_124, tl_126, tl_128, tl_130, tl_144, tl_200, tl_255, tl_256, tl_260, tl_360, tl_12345] at *; omega) | (refine ⟨(if_neg ?_).symm, rfl⟩; simp only [undM, decide_eq_true_eq]; simp only [i32_eq, Int32.lt_iff_toInt_lt, Int32.le_iff_toInt_le, tl_m100, tl_m14, tl_m13, tl_m12, tl_m11, tl_m5, tl_m3, tl_m2, tl_m1, tl_0, tl_1, tl_2, tl_3, tl_4, tl_5, tl_6, tl_7, tl_8, tl_9, tl_10, tl_11, tl_12, tl_13, tl_14, tl_15, tl_16, tl_17, tl_18, tl_19, tl_20, tl_21, tl_22, tl_23, tl_24, tl_25, tl_26, tl_27, tl_28, tl_29, tl_30, tl_31, tl_32, tl_33, tl_34, tl_35, tl_36, tl_37, tl_38, tl_39, tl_40, tl_41, tl_42, tl_43, tl_44, tl_45, tl_46, tl_47, tl_48, tl_49, tl_50, tl_51, tl_52, tl_53, tl_54, tl_55, tl_56, tl_57, tl_58, tl_59, tl_60, tl_61, tl_62, tl_63, tl_64, tl_70, tl_80, tl_81, tl_99, tl_100, tl_110, tl_120, tl_122, tl_124, tl_126, tl_128, tl_130, tl_144, tl_200, tl_255, tl_256, tl_260, tl_360, tl_12345] at *; omega)
                    ·
                      refine E_iload_n C dX11_isUnder_50 0 rfl (E_bipush (v := 7) C dX11_isUnder_51 bp_7 (E_icmp_ne C 60 dX11_isUnder_53 (by decide) (fun c53_8 => ?_) (fun c53_8 => ?_)))
                      ·
                        refine E_iconst (v := 0) C dX11_isUnder_60 ic_0 (E_zretI C hr hlk dX11_isUnder_61 rfl ?_)
                        first | (refine ⟨(if_pos ?_).symm, rfl⟩; simp only [undM, decide_eq_true_eq]; simp only [i32_eq, Int32.lt_iff_toInt_lt, Int32.le_iff_toInt_le, tl_m100, tl_m14, tl_m13, tl_m12, tl_m11, tl_m5, tl_m3, tl_m2, tl_m1, tl_0, tl_1, tl_2, tl_3, tl_4, tl_5, tl_6, tl_7, tl_8, tl_9, tl_10, tl_11, tl_12, tl_13, tl_14, tl_15, tl_16, tl_17, tl_18, tl_19, tl_20, tl_21, tl_22, tl_23, tl_24, tl_25, tl_26, tl_27, tl_28, tl_29, tl_30, tl_31, tl_32, tl_33, tl_34, tl_35, tl_36, tl_37, tl_38, tl_39, tl_40, tl_41, tl_42, tl_43, tl_44, tl_45, tl_46, tl_47, tl_48, tl_49, tl_50, tl_51, tl_52, tl_53, tl_54, tl_55, tl_56, tl_57, tl_58, tl_59, tl_60, tl_61, tl_62, tl_63, tl_64, tl_70, tl_80, tl_81, tl_99, tl_100, tl_110, tl_120, tl_122, tl_124, tl_126, tl_128, tl_130, tl_144, tl_200, tl_255, tl_256, tl_260, tl_360, tl_12345] at *; omega) | (refine ⟨(if_neg ?_).symm, rfl⟩; simp only [undM, decide_eq_true_eq]; simp only [i32_eq, Int32.lt_iff_toInt_lt, Int32.le_iff_toInt_le, tl_m100, tl_m14, tl_m13, tl_m12, tl_m11, tl_m5, tl_m3, tl_m2, tl_m1, tl_0, tl_1, tl_2, tl_3, tl_4, tl_5, tl_6, tl_7, tl_8, tl_9, tl_10, tl_11, tl_12, tl_13, tl_14, tl_15, tl_16, tl_17, tl_18, tl_19, tl_20, tl_21, tl_22, tl_23, tl_24, tl_25, tl_26, tl_27, tl_28, tl_29, tl_30, tl_31, tl_32, tl_33, tl_34, tl_35, tl_36, tl_37, tl_38, tl_39, tl_40, tl_41, tl_42, tl_43, tl_44, tl_45, tl_46, tl_47, tl_48, tl_49, tl_50, tl_51, tl_52, tl_53, tl_54, tl_55, tl_56, tl_57, tl_58, tl_59, tl_60, tl_61, tl_62, tl_63, tl_64, tl_70, tl_80, tl_81, tl_99, tl_100, tl_110, tl_120, tl_122, tl_124, tl_126, tl_128, tl_130, tl_144, tl_200, tl_255, tl_256, tl_260, tl_360, tl_12345] at *; omega)
                      ·
                        refine E_iconst (v := 1) C dX11_isUnder_56 ic_1 (E_goto C 61 dX11_isUnder_57 (by decide) (E_zretI C hr hlk dX11_isUnder_61 rfl ?_))
                        first | (refine ⟨(if_pos ?_).symm, rfl⟩; simp only [undM, decide_eq_true_eq]; simp only [i32_eq, Int32.lt_iff_toInt_lt, Int32.le_iff_toInt_le, tl_m100, tl_m14, tl_m13, tl_m12, tl_m11, tl_m5, tl_m3, tl_m2, tl_m1, tl_0, tl_1, tl_2, tl_3, tl_4, tl_5, tl_6, tl_7, tl_8, tl_9, tl_10, tl_11, tl_12, tl_13, tl_14, tl_15, tl_16, tl_17, tl_18, tl_19, tl_20, tl_21, tl_22, tl_23, tl_24, tl_25, tl_26, tl_27, tl_28, tl_29, tl_30, tl_31, tl_32, tl_33, tl_34, tl_35, tl_36, tl_37, tl_38, tl_39, tl_40, tl_41, tl_42, tl_43, tl_44, tl_45, tl_46, tl_47, tl_48, tl_49, tl_50, tl_51, tl_52, tl_53, tl_54, tl_55, tl_56, tl_57, tl_58, tl_59, tl_60, tl_61, tl_62, tl_63, tl_64, tl_70, tl_80, tl_81, tl_99, tl_100, tl_110, tl_120, tl_122, tl_124, tl_126, tl_128, tl_130, tl_144, tl_200, tl_255, tl_256, tl_260, tl_360, tl_12345] at *; omega) | (refine ⟨(if_neg ?_).symm, rfl⟩; simp only [undM, decide_eq_true_eq]; simp only [i32_eq, Int32.lt_iff_toInt_lt, Int32.le_iff_toInt_le, tl_m100, tl_m14, tl_m13, tl_m12, tl_m11, tl_m5, tl_m3, tl_m2, tl_m1, tl_0, tl_1, tl_2, tl_3, tl_4, tl_5, tl_6, tl_7, tl_8, tl_9, tl_10, tl_11, tl_12, tl_13, tl_14, tl_15, tl_16, tl_17, tl_18, tl_19, tl_20, tl_21, tl_22, tl_23, tl_24, tl_25, tl_26, tl_27, tl_28, tl_29, tl_30, tl_31, tl_32, tl_33, tl_34, tl_35, tl_36, tl_37, tl_38, tl_39, tl_40, tl_41, tl_42, tl_43, tl_44, tl_45, tl_46, tl_47, tl_48, tl_49, tl_50, tl_51, tl_52, tl_53, tl_54, tl_55, tl_56, tl_57, tl_58, tl_59, tl_60, tl_61, tl_62, tl_63, tl_64, tl_70, tl_80, tl_81, tl_99, tl_100, tl_110, tl_120, tl_122, tl_124, tl_126, tl_128, tl_130, tl_144, tl_200, tl_255, tl_256, tl_260, tl_360, tl_12345] at *; omega)
set_option maxRecDepth 100000 in
set_option maxHeartbeats 4000000 in
theorem m_ran {l : Launch} {D : va_G} {tc tt ad : Nat → Nat} {g : Nat → Int32} {h : Nat → Nat → Int32} {el : Nat → Int64} {u : Nat → Int32} {v : Nat → Nat → Int32} {sf : Nat → Int64} {q : AT} {c0 : Nat} (hq : Nn c0 q) (hc : c0 ≤ 100) (bb : Int32) : Ct l yX11_ran cX11_ran 2 none 1 D tc tt [.ref (ad 0), .int bb] (hm ad tc (va_up g 47 (q).1) (va_up h 48 (q).2) el u v sf) (PV fun w => w = hm ad tc (va_up g 47 (noteF q bb).1) (va_up h 48 (noteF q bb).2) el u v sf) := by
  obtain ⟨k, hk, hkc⟩ := hq
  refine Ct.of (by decide +kernel) (Nat.le_of_ble_eq_true rfl) ?_
  intro p e R s m args below meth c A C hr hlk
  refine E_aload_n C dX11_ran_0 0 rfl (mg_11_47 C dX11_ran_1 f_X11_354 ?_)
  refine Ev.seti (show _ = nI k from hk) ?_
  refine E_bipush (v := 24) C dX11_ran_4 bp_24 (E_icmp_ge C 19 dX11_ran_6 (by decide) (fun c6 => ?_) (fun c6 => ?_))
  ·
    have hrr : (noteF q bb).2 = q.2 := by
      show (if q.1 < 0 then q.2 else if q.1 < 24 then upd q.2 q.1.toNatClampNeg bb else q.2) = _
      rw [hk, if_neg (nI_pos (by omega)), if_neg (Int32.not_lt.mpr c6)]
    refine E_aload_n C dX11_ran_19 0 rfl (E_dup C dX11_ran_20 rfl (mg_11_47 C dX11_ran_21 f_X11_354 ?_))
    refine Ev.seti (show _ = q.1 from rfl) ?_
    refine E_iconst (v := 1) C dX11_ran_24 ic_1 (E_iadd C dX11_ran_25 (mp_11_47 C dX11_ran_26 fw_X11_354 (E_vretV C hr hlk dX11_ran_29 ?_)))
    have e1 : va_up (va_up g 47 q.1) 47 (q.1 + 1) = va_up g 47 (noteF q bb).1 := up_up _ _ _ _
    rw [e1, hrr]
  ·
    have hk24 : k < 24 := by
      rcases Nat.lt_or_ge k 24 with z | z
      · exact z
      · exact absurd (show nI 24 ≤ nI k from nI_le z (by omega)) c6
    have hrr : (noteF q bb).2 = upd q.2 k bb := by
      show (if q.1 < 0 then q.2 else if q.1 < 24 then upd q.2 q.1.toNatClampNeg bb else q.2) = _
      rw [hk, if_neg (nI_pos (by omega)), if_pos (Int32.not_le.mp c6), nI_clamp (by omega)]
    refine E_aload_n C dX11_ran_9 0 rfl (mg_11_48 C dX11_ran_10 f_X11_96 (E_aload_n C dX11_ran_13 0 rfl (mg_11_47 C dX11_ran_14 f_X11_354 ?_)))
    refine Ev.seti (show _ = nI k from hk) ?_
    refine E_iload_n C dX11_ran_17 1 rfl (ms_27 C dX11_ran_18 (vinN hk24) ?_)
    rw [nI_clamp (show k < 2 ^ 31 by omega)]
    refine E_aload_n C dX11_ran_19 0 rfl (E_dup C dX11_ran_20 rfl (mg_11_47 C dX11_ran_21 f_X11_354 ?_))
    refine Ev.seti (show _ = q.1 from rfl) ?_
    refine E_iconst (v := 1) C dX11_ran_24 ic_1 (E_iadd C dX11_ran_25 (mp_11_47 C dX11_ran_26 fw_X11_354 (E_vretV C hr hlk dX11_ran_29 ?_)))
    have e1 : va_up (va_up g 47 q.1) 47 (q.1 + 1) = va_up g 47 (noteF q bb).1 := up_up _ _ _ _
    have e2 : va_up (va_up h 48 q.2) 48 (upd (va_up h 48 q.2 48) k bb) = va_up h 48 (noteF q bb).2 := by rw [hrr, up_up]; rfl
    rw [e1, e2]
set_option maxRecDepth 100000 in
set_option maxHeartbeats 4000000 in
theorem m_plainGoes {l : Launch} {D : va_G} {tc tt ad : Nat → Nat} {g : Nat → Int32} {h : Nat → Nat → Int32} {el : Nat → Int64} {u : Nat → Int32} {v : Nat → Nat → Int32} {sf : Nat → Int64} {q : AT} {c0 : Nat} (hq : Nn c0 q) (hc : c0 ≤ 90) (se x : Int32) : Ct l yX11_plainGoes cX11_plainGoes 3 (some .int) 2 D tc tt [.ref (ad 0), .int se, .int x] (hm ad tc (va_up g 47 (q).1) (va_up h 48 (q).2) el u v sf) (PI fun r w => r = (pGo se x q).1 ∧ w = hm ad tc (va_up g 47 ((pGo se x q).2).1) (va_up h 48 ((pGo se x q).2).2) el u v sf) := by
  refine Ct.of (by decide +kernel) (Nat.le_of_ble_eq_true rfl) ?_
  intro p e R s m args below meth c A C hr hlk
  refine E_aload_n C dX11_plainGoes_0 0 rfl (E_iconst (v := 1) C dX11_plainGoes_1 ic_1 (E_callVV C dX11_plainGoes_2 mv_X11_357 0 _ (m_ran hq (by omega) 1) rfl rfl rfl (by decide) (Nat.le_of_ble_eq_true rfl) ?_))
  rintro _ rfl
  refine E_iload_n C dX11_plainGoes_5 2 rfl (E_iload_n C dX11_plainGoes_6 1 rfl (E_iadd C dX11_plainGoes_7 (E_iretI C hr hlk dX11_plainGoes_8 ?_)))
  exact ⟨rfl, rfl⟩
set_option maxRecDepth 100000 in
set_option maxHeartbeats 4000000 in
theorem m_leftGoes {l : Launch} {D : va_G} {tc tt ad : Nat → Nat} {g : Nat → Int32} {h : Nat → Nat → Int32} {el : Nat → Int64} {u : Nat → Int32} {v : Nat → Nat → Int32} {sf : Nat → Int64} {q : AT} {c0 : Nat} (hq : Nn c0 q) (hc : c0 ≤ 80) (se x : Int32) : Ct l yX11_leftGoes cX11_leftGoes 3 (some .int) 3 D tc tt [.ref (ad 0), .int se, .int x] (hm ad tc (va_up g 47 (q).1) (va_up h 48 (q).2) el u v sf) (PI fun r w => r = (lGo se x q).1 ∧ w = hm ad tc (va_up g 47 ((lGo se x q).2).1) (va_up h 48 ((lGo se x q).2).2) el u v sf) := by
  refine Ct.of (by decide +kernel) (Nat.le_of_ble_eq_true rfl) ?_
  intro p e R s m args below meth c A C hr hlk
  refine E_aload_n C dX11_leftGoes_0 0 rfl (E_bipush (v := 70) C dX11_leftGoes_1 bp_70 (E_callVV C dX11_leftGoes_3 mv_X11_357 0 _ (m_ran hq (by omega) 70) rfl rfl rfl (by decide) (Nat.le_of_ble_eq_true rfl) ?_))
  rintro _ rfl
  refine E_aload_n C dX11_leftGoes_6 0 rfl (E_iload_n C dX11_leftGoes_7 1 rfl (E_iload_n C dX11_leftGoes_8 2 rfl (E_callVI C dX11_leftGoes_9 mv_X11_360 0 _ (m_plainGoes (hq.n 70) (by omega) se x) rfl rfl rfl (by decide) (Nat.le_of_ble_eq_true rfl) ?_)))
  rintro _ _ ⟨rfl, rfl⟩
  refine E_iconst (v := 2) C dX11_leftGoes_12 ic_2 (E_imul C dX11_leftGoes_13 (E_iretI C hr hlk dX11_leftGoes_14 ?_))
  exact ⟨rfl, rfl⟩
set_option maxRecDepth 100000 in
set_option maxHeartbeats 4000000 in
theorem m_goesOf {l : Launch} {D : va_G} {tc tt ad : Nat → Nat} {g : Nat → Int32} {h : Nat → Nat → Int32} {el : Nat → Int64} {u : Nat → Int32} {v : Nat → Nat → Int32} {sf : Nat → Int64} {kd bn : Nat} (hk8 : kd < 8) (hbn : bn < 50) (hkb : h 46 bn = nI kd) {q : AT} {c0 : Nat} (hq : Nn c0 q) (hc : c0 ≤ 70) (x : Int32) : Ct l yX11_goesOf cX11_goesOf 3 (some .int) 4 D tc tt [.ref (ad 0), .int (nI bn), .int x] (hm ad tc (va_up g 47 (q).1) (va_up h 48 (q).2) el u v sf) (PI fun r w => r = (goM (nI kd) (nI bn) x q).1 ∧ w = hm ad tc (va_up g 47 ((goM (nI kd) (nI bn) x q).2).1) (va_up h 48 ((goM (nI kd) (nI bn) x q).2).2) el u v sf) := by
  refine Ct.of (by decide +kernel) (Nat.le_of_ble_eq_true rfl) ?_
  intro p e R s m args below meth c A C hr hlk
  refine E_aload_n C dX11_goesOf_0 0 rfl (mg_11_46 C dX11_goesOf_1 f_X11_93 (E_iload_n C dX11_goesOf_4 1 rfl (ma_26 C dX11_goesOf_5 (vinN (by omega)) ?_)))
  rw [nI_clamp (show bn < 2 ^ 31 by omega)]
  refine Ev.seti (show _ = nI kd from hkb) ?_
  refine E_iconst (v := 1) C dX11_goesOf_6 ic_1 (E_callSI C dX11_goesOf_7 ms_X11_363 _ (m_isUnder (nI kd) 1) rfl rfl (by decide) (Nat.le_of_ble_eq_true rfl) ?_)
  rintro _ _ ⟨rfl, rfl⟩
  refine E_if_eq C 28 dX11_goesOf_10 (by decide) (fun c10 => ?_) (fun c10 => ?_)
  ·
    have u0 := ite_0 c10
    refine E_aload_n C dX11_goesOf_28 0 rfl (mg_11_46 C dX11_goesOf_29 f_X11_93 (E_iload_n C dX11_goesOf_32 1 rfl (ma_26 C dX11_goesOf_33 (vinN (by omega)) ?_)))
    rw [nI_clamp (show bn < 2 ^ 31 by omega)]
    refine Ev.seti (show _ = nI kd from hkb) ?_
    refine E_bipush (v := 7) C dX11_goesOf_34 bp_7 (E_icmp_ne C 54 dX11_goesOf_36 (by decide) (fun c36 => ?_) (fun c36 => ?_))
    ·
      refine E_aload_n C dX11_goesOf_54 0 rfl (mg_11_46 C dX11_goesOf_55 f_X11_93 (E_iload_n C dX11_goesOf_58 1 rfl (ma_26 C dX11_goesOf_59 (vinN (by omega)) ?_)))
      rw [nI_clamp (show bn < 2 ^ 31 by omega)]
      refine Ev.seti (show _ = nI kd from hkb) ?_
      refine E_bipush (v := 6) C dX11_goesOf_60 bp_6 (E_icmp_ne C 74 dX11_goesOf_62 (by decide) (fun c62 => ?_) (fun c62 => ?_))
      ·
        have hv : goM (nI kd) (nI bn) x q = _ := (if_neg u0).trans ((if_neg c36).trans (if_neg c62))
        refine E_aload_n C dX11_goesOf_74 0 rfl (E_iload_n C dX11_goesOf_75 1 rfl (E_iload_n C dX11_goesOf_76 2 rfl (E_callVI C dX11_goesOf_77 mv_X11_360 0 _ (m_plainGoes hq (by omega) (nI bn) x) rfl rfl rfl (by decide) (Nat.le_of_ble_eq_true rfl) ?_)))
        rintro _ _ ⟨rfl, rfl⟩
        refine E_iretI C hr hlk dX11_goesOf_80 ?_
        rw [hv]
        exact ⟨rfl, rfl⟩
      ·
        have hv : goM (nI kd) (nI bn) x q = _ := (if_neg u0).trans ((if_neg c36).trans (if_pos c62))
        refine E_aload_n C dX11_goesOf_65 0 rfl (E_iload_n C dX11_goesOf_66 1 rfl (E_iload_n C dX11_goesOf_67 2 rfl (E_callVI C dX11_goesOf_68 mv_X11_366 0 _ (m_leftGoes hq (by omega) (nI bn) x) rfl rfl rfl (by decide) (Nat.le_of_ble_eq_true rfl) ?_)))
        rintro _ _ ⟨rfl, rfl⟩
        refine E_goto C 80 dX11_goesOf_71 (by decide) (E_iretI C hr hlk dX11_goesOf_80 ?_)
        rw [hv]
        exact ⟨rfl, rfl⟩
    ·
      have hv : goM (nI kd) (nI bn) x q = _ := (if_neg u0).trans (if_pos c36)
      refine E_aload_n C dX11_goesOf_39 0 rfl (E_bipush (v := 81) C dX11_goesOf_40 bp_81 (E_callVV C dX11_goesOf_42 mv_X11_357 0 _ (m_ran hq (by omega) 81) rfl rfl rfl (by decide) (Nat.le_of_ble_eq_true rfl) ?_))
      rintro _ rfl
      refine E_aload_n C dX11_goesOf_45 0 rfl (E_iload_n C dX11_goesOf_46 1 rfl (E_iload_n C dX11_goesOf_47 2 rfl (E_callVI C dX11_goesOf_48 mv_X11_366 0 _ (m_leftGoes (hq.n 81) (by omega) (nI bn) x) rfl rfl rfl (by decide) (Nat.le_of_ble_eq_true rfl) ?_)))
      rintro _ _ ⟨rfl, rfl⟩
      refine E_iconst (v := 1) C dX11_goesOf_51 ic_1 (E_isub C dX11_goesOf_52 (E_iretI C hr hlk dX11_goesOf_53 ?_))
      rw [hv]
      exact ⟨rfl, rfl⟩
  ·
    have u0 := ite_1 c10
    have hv : goM (nI kd) (nI bn) x q = _ := if_pos u0
    refine E_aload_n C dX11_goesOf_13 0 rfl (E_bipush (v := 20) C dX11_goesOf_14 bp_20 (E_callVV C dX11_goesOf_16 mv_X11_357 0 _ (m_ran hq (by omega) 20) rfl rfl rfl (by decide) (Nat.le_of_ble_eq_true rfl) ?_))
    rintro _ rfl
    refine E_aload_n C dX11_goesOf_19 0 rfl (E_iload_n C dX11_goesOf_20 1 rfl (E_iload_n C dX11_goesOf_21 2 rfl (E_callVI C dX11_goesOf_22 mv_X11_360 0 _ (m_plainGoes (hq.n 20) (by omega) (nI bn) x) rfl rfl rfl (by decide) (Nat.le_of_ble_eq_true rfl) ?_)))
    rintro _ _ ⟨rfl, rfl⟩
    refine E_iconst (v := 3) C dX11_goesOf_25 ic_3 (E_iadd C dX11_goesOf_26 (E_iretI C hr hlk dX11_goesOf_27 ?_))
    rw [hv]
    exact ⟨rfl, rfl⟩
set_option maxRecDepth 100000 in
set_option maxHeartbeats 4000000 in
theorem m_plainFinds {l : Launch} {D : va_G} {tc tt ad : Nat → Nat} {g : Nat → Int32} {h : Nat → Nat → Int32} {el : Nat → Int64} {u : Nat → Int32} {v : Nat → Nat → Int32} {sf : Nat → Int64} {kd bn : Nat} (hk8 : kd < 8) (hbn : bn < 50) (hkb : h 46 bn = nI kd) {q : AT} {c0 : Nat} (hq : Nn c0 q) (hc : c0 ≤ 60) (x : Int32) : Ct l yX11_plainFinds cX11_plainFinds 3 (some .int) 5 D tc tt [.ref (ad 0), .int (nI bn), .int x] (hm ad tc (va_up g 47 (q).1) (va_up h 48 (q).2) el u v sf) (PI fun r w => r = (pFi (nI kd) (nI bn) x q).1 ∧ w = hm ad tc (va_up g 47 ((pFi (nI kd) (nI bn) x q).2).1) (va_up h 48 ((pFi (nI kd) (nI bn) x q).2).2) el u v sf) := by
  refine Ct.of (by decide +kernel) (Nat.le_of_ble_eq_true rfl) ?_
  intro p e R s m args below meth c A C hr hlk
  refine E_aload_n C dX11_plainFinds_0 0 rfl (E_bipush (v := 10) C dX11_plainFinds_1 bp_10 (E_callVV C dX11_plainFinds_3 mv_X11_357 0 _ (m_ran hq (by omega) 10) rfl rfl rfl (by decide) (Nat.le_of_ble_eq_true rfl) ?_))
  rintro _ rfl
  refine E_aload_n C dX11_plainFinds_6 0 rfl (E_iload_n C dX11_plainFinds_7 1 rfl (E_iload_n C dX11_plainFinds_8 2 rfl (E_callVI C dX11_plainFinds_9 mv_X11_369 0 _ (m_goesOf hk8 hbn hkb (hq.n 10) (by omega) x) rfl rfl rfl (by decide) (Nat.le_of_ble_eq_true rfl) ?_)))
  rintro _ _ ⟨rfl, rfl⟩
  refine E_iconst (v := 2) C dX11_plainFinds_12 ic_2 (E_imul C dX11_plainFinds_13 (E_iretI C hr hlk dX11_plainFinds_14 ?_))
  exact ⟨rfl, rfl⟩
set_option maxRecDepth 100000 in
set_option maxHeartbeats 4000000 in
theorem m_longFinds {l : Launch} {D : va_G} {tc tt ad : Nat → Nat} {g : Nat → Int32} {h : Nat → Nat → Int32} {el : Nat → Int64} {u : Nat → Int32} {v : Nat → Nat → Int32} {sf : Nat → Int64} {kd bn : Nat} (hk8 : kd < 8) (hbn : bn < 50) (hkb : h 46 bn = nI kd) {q : AT} {c0 : Nat} (hq : Nn c0 q) (hc : c0 ≤ 50) (x : Int32) : Ct l yX11_longFinds cX11_longFinds 3 (some .int) 6 D tc tt [.ref (ad 0), .int (nI bn), .int x] (hm ad tc (va_up g 47 (q).1) (va_up h 48 (q).2) el u v sf) (PI fun r w => r = (lFi (nI kd) (nI bn) x q).1 ∧ w = hm ad tc (va_up g 47 ((lFi (nI kd) (nI bn) x q).2).1) (va_up h 48 ((lFi (nI kd) (nI bn) x q).2).2) el u v sf) := by
  refine Ct.of (by decide +kernel) (Nat.le_of_ble_eq_true rfl) ?_
  intro p e R s m args below meth c A C hr hlk
  refine E_aload_n C dX11_longFinds_0 0 rfl (E_bipush (v := 30) C dX11_longFinds_1 bp_30 (E_callVV C dX11_longFinds_3 mv_X11_357 0 _ (m_ran hq (by omega) 30) rfl rfl rfl (by decide) (Nat.le_of_ble_eq_true rfl) ?_))
  rintro _ rfl
  refine E_aload_n C dX11_longFinds_6 0 rfl (E_iload_n C dX11_longFinds_7 1 rfl (E_iload_n C dX11_longFinds_8 2 rfl (E_callVI C dX11_longFinds_9 mv_X11_372 0 _ (m_plainFinds hk8 hbn hkb (hq.n 30) (by omega) x) rfl rfl rfl (by decide) (Nat.le_of_ble_eq_true rfl) ?_)))
  rintro _ _ ⟨rfl, rfl⟩
  refine E_ineg C dX11_longFinds_12 (E_iretI C hr hlk dX11_longFinds_13 ?_)
  exact ⟨rfl, rfl⟩
set_option maxRecDepth 100000 in
set_option maxHeartbeats 4000000 in
theorem m_plainSets {l : Launch} {D : va_G} {tc tt ad : Nat → Nat} {g : Nat → Int32} {h : Nat → Nat → Int32} {el : Nat → Int64} {u : Nat → Int32} {v : Nat → Nat → Int32} {sf : Nat → Int64} {q : AT} {c0 : Nat} (hq : Nn c0 q) (hc : c0 ≤ 90) (se x : Int32) : Ct l yX11_plainSets cX11_plainSets 3 (some .int) 2 D tc tt [.ref (ad 0), .int se, .int x] (hm ad tc (va_up g 47 (q).1) (va_up h 48 (q).2) el u v sf) (PI fun r w => r = (pSe se x q).1 ∧ w = hm ad tc (va_up g 47 ((pSe se x q).2).1) (va_up h 48 ((pSe se x q).2).2) el u v sf) := by
  refine Ct.of (by decide +kernel) (Nat.le_of_ble_eq_true rfl) ?_
  intro p e R s m args below meth c A C hr hlk
  refine E_aload_n C dX11_plainSets_0 0 rfl (E_bipush (v := 11) C dX11_plainSets_1 bp_11 (E_callVV C dX11_plainSets_3 mv_X11_357 0 _ (m_ran hq (by omega) 11) rfl rfl rfl (by decide) (Nat.le_of_ble_eq_true rfl) ?_))
  rintro _ rfl
  refine E_iload_n C dX11_plainSets_6 2 rfl (E_iload_n C dX11_plainSets_7 1 rfl (E_ixor C dX11_plainSets_8 (E_iretI C hr hlk dX11_plainSets_9 ?_)))
  exact ⟨rfl, rfl⟩
set_option maxRecDepth 100000 in
set_option maxHeartbeats 4000000 in
theorem m_offSets {l : Launch} {D : va_G} {tc tt ad : Nat → Nat} {g : Nat → Int32} {h : Nat → Nat → Int32} {el : Nat → Int64} {u : Nat → Int32} {v : Nat → Nat → Int32} {sf : Nat → Int64} {q : AT} {c0 : Nat} (hq : Nn c0 q) (hc : c0 ≤ 80) (se x : Int32) : Ct l yX11_offSets cX11_offSets 3 (some .int) 3 D tc tt [.ref (ad 0), .int se, .int x] (hm ad tc (va_up g 47 (q).1) (va_up h 48 (q).2) el u v sf) (PI fun r w => r = (oSe se x q).1 ∧ w = hm ad tc (va_up g 47 ((oSe se x q).2).1) (va_up h 48 ((oSe se x q).2).2) el u v sf) := by
  refine Ct.of (by decide +kernel) (Nat.le_of_ble_eq_true rfl) ?_
  intro p e R s m args below meth c A C hr hlk
  refine E_aload_n C dX11_offSets_0 0 rfl (E_bipush (v := 40) C dX11_offSets_1 bp_40 (E_callVV C dX11_offSets_3 mv_X11_357 0 _ (m_ran hq (by omega) 40) rfl rfl rfl (by decide) (Nat.le_of_ble_eq_true rfl) ?_))
  rintro _ rfl
  refine E_aload_n C dX11_offSets_6 0 rfl (E_iload_n C dX11_offSets_7 1 rfl (E_iload_n C dX11_offSets_8 2 rfl (E_callVI C dX11_offSets_9 mv_X11_381 0 _ (m_plainSets (hq.n 40) (by omega) se x) rfl rfl rfl (by decide) (Nat.le_of_ble_eq_true rfl) ?_)))
  rintro _ _ ⟨rfl, rfl⟩
  refine E_iconst (v := 3) C dX11_offSets_12 ic_3 (E_imul C dX11_offSets_13 (E_iretI C hr hlk dX11_offSets_14 ?_))
  exact ⟨rfl, rfl⟩
set_option maxRecDepth 100000 in
set_option maxHeartbeats 4000000 in
theorem m_setting {l : Launch} {D : va_G} {tc tt ad : Nat → Nat} {g : Nat → Int32} {h : Nat → Nat → Int32} {el : Nat → Int64} {u : Nat → Int32} {v : Nat → Nat → Int32} {sf : Nat → Int64} {kd bn : Nat} (hk8 : kd < 8) (hbn : bn < 50) (hkb : h 46 bn = nI kd) {q : AT} {c0 : Nat} (hq : Nn c0 q) (hc : c0 ≤ 50) (x : Int32) : Ct l yX11_setting cX11_setting 4 (some .int) 5 D tc tt [.ref (ad 0), .int (nI bn), .int x] (hm ad tc (va_up g 47 (q).1) (va_up h 48 (q).2) el u v sf) (PI fun r w => r = (seM (nI kd) (nI bn) x q).1 ∧ w = hm ad tc (va_up g 47 ((seM (nI kd) (nI bn) x q).2).1) (va_up h 48 ((seM (nI kd) (nI bn) x q).2).2) el u v sf) := by
  refine Ct.of (by decide +kernel) (Nat.le_of_ble_eq_true rfl) ?_
  intro p e R s m args below meth c A C hr hlk
  refine E_aload_n C dX11_setting_0 0 rfl (mg_11_46 C dX11_setting_1 f_X11_93 (E_iload_n C dX11_setting_4 1 rfl (ma_26 C dX11_setting_5 (vinN (by omega)) ?_)))
  rw [nI_clamp (show bn < 2 ^ 31 by omega)]
  refine Ev.seti (show _ = nI kd from hkb) ?_
  refine E_iconst (v := 5) C dX11_setting_6 ic_5 (E_icmp_ne C 32 dX11_setting_7 (by decide) (fun c7 => ?_) (fun c7 => ?_))
  ·
    refine E_aload_n C dX11_setting_32 0 rfl (mg_11_46 C dX11_setting_33 f_X11_93 (E_iload_n C dX11_setting_36 1 rfl (ma_26 C dX11_setting_37 (vinN (by omega)) ?_)))
    rw [nI_clamp (show bn < 2 ^ 31 by omega)]
    refine Ev.seti (show _ = nI kd from hkb) ?_
    refine E_iconst (v := 3) C dX11_setting_38 ic_3 (E_icmp_ne C 51 dX11_setting_39 (by decide) (fun c39 => ?_) (fun c39 => ?_))
    ·
      have hv : seM (nI kd) (nI bn) x q = _ := (if_neg c7).trans (if_neg c39)
      refine E_aload_n C dX11_setting_51 0 rfl (E_iload_n C dX11_setting_52 1 rfl (E_iload_n C dX11_setting_53 2 rfl (E_callVI C dX11_setting_54 mv_X11_381 0 _ (m_plainSets hq (by omega) (nI bn) x) rfl rfl rfl (by decide) (Nat.le_of_ble_eq_true rfl) ?_)))
      rintro _ _ ⟨rfl, rfl⟩
      refine E_iretI C hr hlk dX11_setting_57 ?_
      rw [hv]
      exact ⟨rfl, rfl⟩
    ·
      have hv : seM (nI kd) (nI bn) x q = _ := (if_neg c7).trans (if_pos c39)
      refine E_aload_n C dX11_setting_42 0 rfl (E_iload_n C dX11_setting_43 1 rfl (E_iload_n C dX11_setting_44 2 rfl (E_callVI C dX11_setting_45 mv_X11_384 0 _ (m_offSets hq (by omega) (nI bn) x) rfl rfl rfl (by decide) (Nat.le_of_ble_eq_true rfl) ?_)))
      rintro _ _ ⟨rfl, rfl⟩
      refine E_goto C 57 dX11_setting_48 (by decide) (E_iretI C hr hlk dX11_setting_57 ?_)
      rw [hv]
      exact ⟨rfl, rfl⟩
  ·
    have hv : seM (nI kd) (nI bn) x q = _ := if_pos c7
    refine E_aload_n C dX11_setting_10 0 rfl (E_bipush (v := 60) C dX11_setting_11 bp_60 (E_callVV C dX11_setting_13 mv_X11_357 0 _ (m_ran hq (by omega) 60) rfl rfl rfl (by decide) (Nat.le_of_ble_eq_true rfl) ?_))
    rintro _ rfl
    refine E_aload_n C dX11_setting_16 0 rfl (E_iload_n C dX11_setting_17 1 rfl (E_iload_n C dX11_setting_18 2 rfl (E_callVI C dX11_setting_19 mv_X11_384 0 _ (m_offSets (hq.n 60) (by omega) (nI bn) x) rfl rfl rfl (by decide) (Nat.le_of_ble_eq_true rfl) ?_)))
    rintro _ _ ⟨rfl, rfl⟩
    refine E_istore_n C dX11_setting_22 (by decide) (E_iload_n C dX11_setting_23 0 rfl (E_aload_n C dX11_setting_24 1 rfl (E_iload_n C dX11_setting_25 2 rfl (E_iconst (v := 2) C dX11_setting_26 ic_2 (E_callVI C dX11_setting_27 mv_X11_369 0 _ (m_goesOf hk8 hbn hkb (nn_oSe (hq.n 60)) (by omega) 2) rfl rfl rfl (by decide) (Nat.le_of_ble_eq_true rfl) ?_)))))
    rintro _ _ ⟨rfl, rfl⟩
    refine E_isub C dX11_setting_30 (E_iretI C hr hlk dX11_setting_31 ?_)
    rw [hv]
    exact ⟨rfl, rfl⟩
set_option maxRecDepth 100000 in
set_option maxHeartbeats 4000000 in
theorem m_finding {l : Launch} {D : va_G} {tc tt ad : Nat → Nat} {g : Nat → Int32} {h : Nat → Nat → Int32} {el : Nat → Int64} {u : Nat → Int32} {v : Nat → Nat → Int32} {sf : Nat → Int64} {kd bn : Nat} (hk8 : kd < 8) (hbn : bn < 50) (hkb : h 46 bn = nI kd) {q : AT} {c0 : Nat} (hq : Nn c0 q) (hc : c0 ≤ 40) (x : Int32) : Ct l yX11_finding cX11_finding 4 (some .int) 7 D tc tt [.ref (ad 0), .int (nI bn), .int x] (hm ad tc (va_up g 47 (q).1) (va_up h 48 (q).2) el u v sf) (PI fun r w => r = (fiM (nI kd) (nI bn) x q).1 ∧ w = hm ad tc (va_up g 47 ((fiM (nI kd) (nI bn) x q).2).1) (va_up h 48 ((fiM (nI kd) (nI bn) x q).2).2) el u v sf) := by
  refine Ct.of (by decide +kernel) (Nat.le_of_ble_eq_true rfl) ?_
  intro p e R s m args below meth c A C hr hlk
  refine E_aload_n C dX11_finding_0 0 rfl (mg_11_46 C dX11_finding_1 f_X11_93 (E_iload_n C dX11_finding_4 1 rfl (ma_26 C dX11_finding_5 (vinN (by omega)) ?_)))
  rw [nI_clamp (show bn < 2 ^ 31 by omega)]
  refine Ev.seti (show _ = nI kd from hkb) ?_
  refine E_iconst (v := 3) C dX11_finding_6 ic_3 (E_callSI C dX11_finding_7 ms_X11_363 _ (m_isUnder (nI kd) 3) rfl rfl (by decide) (Nat.le_of_ble_eq_true rfl) ?_)
  rintro _ _ ⟨rfl, rfl⟩
  refine E_if_eq C 28 dX11_finding_10 (by decide) (fun c10 => ?_) (fun c10 => ?_)
  ·
    have u0 := ite_0 c10
    refine E_aload_n C dX11_finding_28 0 rfl (mg_11_46 C dX11_finding_29 f_X11_93 (E_iload_n C dX11_finding_32 1 rfl (ma_26 C dX11_finding_33 (vinN (by omega)) ?_)))
    rw [nI_clamp (show bn < 2 ^ 31 by omega)]
    refine Ev.seti (show _ = nI kd from hkb) ?_
    refine E_bipush (v := 7) C dX11_finding_34 bp_7 (E_icmp_ne C 61 dX11_finding_36 (by decide) (fun c36 => ?_) (fun c36 => ?_))
    ·
      refine E_aload_n C dX11_finding_61 0 rfl (mg_11_46 C dX11_finding_62 f_X11_93 (E_iload_n C dX11_finding_65 1 rfl (ma_26 C dX11_finding_66 (vinN (by omega)) ?_)))
      rw [nI_clamp (show bn < 2 ^ 31 by omega)]
      refine Ev.seti (show _ = nI kd from hkb) ?_
      refine E_iconst (v := 2) C dX11_finding_67 ic_2 (E_icmp_ne C 80 dX11_finding_68 (by decide) (fun c68 => ?_) (fun c68 => ?_))
      ·
        have hv : fiM (nI kd) (nI bn) x q = _ := (if_neg u0).trans ((if_neg c36).trans (if_neg c68))
        refine E_aload_n C dX11_finding_80 0 rfl (E_iload_n C dX11_finding_81 1 rfl (E_iload_n C dX11_finding_82 2 rfl (E_callVI C dX11_finding_83 mv_X11_372 0 _ (m_plainFinds hk8 hbn hkb hq (by omega) x) rfl rfl rfl (by decide) (Nat.le_of_ble_eq_true rfl) ?_)))
        rintro _ _ ⟨rfl, rfl⟩
        refine E_iretI C hr hlk dX11_finding_86 ?_
        rw [hv]
        exact ⟨rfl, rfl⟩
      ·
        have hv : fiM (nI kd) (nI bn) x q = _ := (if_neg u0).trans ((if_neg c36).trans (if_pos c68))
        refine E_aload_n C dX11_finding_71 0 rfl (E_iload_n C dX11_finding_72 1 rfl (E_iload_n C dX11_finding_73 2 rfl (E_callVI C dX11_finding_74 mv_X11_375 0 _ (m_longFinds hk8 hbn hkb hq (by omega) x) rfl rfl rfl (by decide) (Nat.le_of_ble_eq_true rfl) ?_)))
        rintro _ _ ⟨rfl, rfl⟩
        refine E_goto C 86 dX11_finding_77 (by decide) (E_iretI C hr hlk dX11_finding_86 ?_)
        rw [hv]
        exact ⟨rfl, rfl⟩
    ·
      have hv : fiM (nI kd) (nI bn) x q = _ := (if_neg u0).trans (if_pos c36)
      refine E_aload_n C dX11_finding_39 0 rfl (E_bipush (v := 80) C dX11_finding_40 bp_80 (E_callVV C dX11_finding_42 mv_X11_357 0 _ (m_ran hq (by omega) 80) rfl rfl rfl (by decide) (Nat.le_of_ble_eq_true rfl) ?_))
      rintro _ rfl
      refine E_aload_n C dX11_finding_45 0 rfl (E_iload_n C dX11_finding_46 1 rfl (E_iload_n C dX11_finding_47 2 rfl (E_callVI C dX11_finding_48 mv_X11_372 0 _ (m_plainFinds hk8 hbn hkb (hq.n 80) (by omega) x) rfl rfl rfl (by decide) (Nat.le_of_ble_eq_true rfl) ?_)))
      rintro _ _ ⟨rfl, rfl⟩
      refine E_istore_n C dX11_finding_51 (by decide) (E_iload_n C dX11_finding_52 0 rfl (E_aload_n C dX11_finding_53 1 rfl (E_iload_n C dX11_finding_54 2 rfl (E_iconst (v := 2) C dX11_finding_55 ic_2 (E_callVI C dX11_finding_56 mv_X11_378 0 _ (m_setting hk8 hbn hkb (nn_pFi (hq.n 80)) (by omega) 2) rfl rfl rfl (by decide) (Nat.le_of_ble_eq_true rfl) ?_)))))
      rintro _ _ ⟨rfl, rfl⟩
      refine E_iadd C dX11_finding_59 (E_iretI C hr hlk dX11_finding_60 ?_)
      rw [hv]
      exact ⟨rfl, rfl⟩
  ·
    have u0 := ite_1 c10
    have hv : fiM (nI kd) (nI bn) x q = _ := if_pos u0
    refine E_aload_n C dX11_finding_13 0 rfl (E_bipush (v := 41) C dX11_finding_14 bp_41 (E_callVV C dX11_finding_16 mv_X11_357 0 _ (m_ran hq (by omega) 41) rfl rfl rfl (by decide) (Nat.le_of_ble_eq_true rfl) ?_))
    rintro _ rfl
    refine E_aload_n C dX11_finding_19 0 rfl (E_iload_n C dX11_finding_20 1 rfl (E_iload_n C dX11_finding_21 2 rfl (E_iconst (v := 1) C dX11_finding_22 ic_1 (E_iadd C dX11_finding_23 (E_callVI C dX11_finding_24 mv_X11_375 0 _ (m_longFinds hk8 hbn hkb (hq.n 41) (by omega) (x + 1)) rfl rfl rfl (by decide) (Nat.le_of_ble_eq_true rfl) ?_)))))
    rintro _ _ ⟨rfl, rfl⟩
    refine E_iretI C hr hlk dX11_finding_27 ?_
    rw [hv]
    exact ⟨rfl, rfl⟩
set_option maxRecDepth 100000 in
set_option maxHeartbeats 4000000 in
theorem m_plainTells {l : Launch} {D : va_G} {tc tt ad : Nat → Nat} {g : Nat → Int32} {h : Nat → Nat → Int32} {el : Nat → Int64} {u : Nat → Int32} {v : Nat → Nat → Int32} {sf : Nat → Int64} {kd bn : Nat} (hk8 : kd < 8) (hbn : bn < 50) (hkb : h 46 bn = nI kd) {q : AT} {c0 : Nat} (hq : Nn c0 q) (hc : c0 ≤ 30) (x : Int32) : Ct l yX11_plainTells cX11_plainTells 4 (some .int) 8 D tc tt [.ref (ad 0), .int (nI bn), .int x] (hm ad tc (va_up g 47 (q).1) (va_up h 48 (q).2) el u v sf) (PI fun r w => r = (pTe (nI kd) (nI bn) x q).1 ∧ w = hm ad tc (va_up g 47 ((pTe (nI kd) (nI bn) x q).2).1) (va_up h 48 ((pTe (nI kd) (nI bn) x q).2).2) el u v sf) := by
  refine Ct.of (by decide +kernel) (Nat.le_of_ble_eq_true rfl) ?_
  intro p e R s m args below meth c A C hr hlk
  refine E_aload_n C dX11_plainTells_0 0 rfl (E_iconst (v := 2) C dX11_plainTells_1 ic_2 (E_callVV C dX11_plainTells_2 mv_X11_357 0 _ (m_ran hq (by omega) 2) rfl rfl rfl (by decide) (Nat.le_of_ble_eq_true rfl) ?_))
  rintro _ rfl
  refine E_aload_n C dX11_plainTells_5 0 rfl (E_iload_n C dX11_plainTells_6 1 rfl (E_iload_n C dX11_plainTells_7 2 rfl (E_callVI C dX11_plainTells_8 mv_X11_387 0 _ (m_finding hk8 hbn hkb (hq.n 2) (by omega) x) rfl rfl rfl (by decide) (Nat.le_of_ble_eq_true rfl) ?_)))
  rintro _ _ ⟨rfl, rfl⟩
  refine E_istore_n C dX11_plainTells_11 (by decide) (E_iload_n C dX11_plainTells_12 0 rfl (E_aload_n C dX11_plainTells_13 1 rfl (E_iload_n C dX11_plainTells_14 2 rfl (E_iconst (v := 1) C dX11_plainTells_15 ic_1 (E_callVI C dX11_plainTells_16 mv_X11_378 0 _ (m_setting hk8 hbn hkb (nn_fi (hq.n 2)) (by omega) 1) rfl rfl rfl (by decide) (Nat.le_of_ble_eq_true rfl) ?_)))))
  rintro _ _ ⟨rfl, rfl⟩
  refine E_isub C dX11_plainTells_19 (E_iretI C hr hlk dX11_plainTells_20 ?_)
  exact ⟨rfl, rfl⟩
set_option maxRecDepth 100000 in
set_option maxHeartbeats 4000000 in
theorem m_telling {l : Launch} {D : va_G} {tc tt ad : Nat → Nat} {g : Nat → Int32} {h : Nat → Nat → Int32} {el : Nat → Int64} {u : Nat → Int32} {v : Nat → Nat → Int32} {sf : Nat → Int64} {kd bn : Nat} (hk8 : kd < 8) (hbn : bn < 50) (hkb : h 46 bn = nI kd) {q : AT} {c0 : Nat} (hq : Nn c0 q) (hc : c0 ≤ 20) (x : Int32) : Ct l yX11_telling cX11_telling 3 (some .int) 9 D tc tt [.ref (ad 0), .int (nI bn), .int x] (hm ad tc (va_up g 47 (q).1) (va_up h 48 (q).2) el u v sf) (PI fun r w => r = (teM (nI kd) (nI bn) x q).1 ∧ w = hm ad tc (va_up g 47 ((teM (nI kd) (nI bn) x q).2).1) (va_up h 48 ((teM (nI kd) (nI bn) x q).2).2) el u v sf) := by
  refine Ct.of (by decide +kernel) (Nat.le_of_ble_eq_true rfl) ?_
  intro p e R s m args below meth c A C hr hlk
  refine E_aload_n C dX11_telling_0 0 rfl (mg_11_46 C dX11_telling_1 f_X11_93 (E_iload_n C dX11_telling_4 1 rfl (ma_26 C dX11_telling_5 (vinN (by omega)) ?_)))
  rw [nI_clamp (show bn < 2 ^ 31 by omega)]
  refine Ev.seti (show _ = nI kd from hkb) ?_
  refine E_iconst (v := 4) C dX11_telling_6 ic_4 (E_icmp_ne C 25 dX11_telling_7 (by decide) (fun c7 => ?_) (fun c7 => ?_))
  ·
    refine E_aload_n C dX11_telling_25 0 rfl (mg_11_46 C dX11_telling_26 f_X11_93 (E_iload_n C dX11_telling_29 1 rfl (ma_26 C dX11_telling_30 (vinN (by omega)) ?_)))
    rw [nI_clamp (show bn < 2 ^ 31 by omega)]
    refine Ev.seti (show _ = nI kd from hkb) ?_
    refine E_iconst (v := 5) C dX11_telling_31 ic_5 (E_icmp_ne C 50 dX11_telling_32 (by decide) (fun c32 => ?_) (fun c32 => ?_))
    ·
      have hv : teM (nI kd) (nI bn) x q = _ := (if_neg c7).trans (if_neg c32)
      refine E_aload_n C dX11_telling_50 0 rfl (E_iload_n C dX11_telling_51 1 rfl (E_iload_n C dX11_telling_52 2 rfl (E_callVI C dX11_telling_53 mv_X11_390 0 _ (m_plainTells hk8 hbn hkb hq (by omega) x) rfl rfl rfl (by decide) (Nat.le_of_ble_eq_true rfl) ?_)))
      rintro _ _ ⟨rfl, rfl⟩
      refine E_iretI C hr hlk dX11_telling_56 ?_
      rw [hv]
      exact ⟨rfl, rfl⟩
    ·
      have hv : teM (nI kd) (nI bn) x q = _ := (if_neg c7).trans (if_pos c32)
      refine E_aload_n C dX11_telling_35 0 rfl (E_bipush (v := 61) C dX11_telling_36 bp_61 (E_callVV C dX11_telling_38 mv_X11_357 0 _ (m_ran hq (by omega) 61) rfl rfl rfl (by decide) (Nat.le_of_ble_eq_true rfl) ?_))
      rintro _ rfl
      refine E_aload_n C dX11_telling_41 0 rfl (E_iload_n C dX11_telling_42 1 rfl (E_iload_n C dX11_telling_43 2 rfl (E_callVI C dX11_telling_44 mv_X11_390 0 _ (m_plainTells hk8 hbn hkb (hq.n 61) (by omega) x) rfl rfl rfl (by decide) (Nat.le_of_ble_eq_true rfl) ?_)))
      rintro _ _ ⟨rfl, rfl⟩
      refine E_iconst (v := 1) C dX11_telling_47 ic_1 (E_iadd C dX11_telling_48 (E_iretI C hr hlk dX11_telling_49 ?_))
      rw [hv]
      exact ⟨rfl, rfl⟩
  ·
    have hv : teM (nI kd) (nI bn) x q = _ := if_pos c7
    refine E_aload_n C dX11_telling_10 0 rfl (E_bipush (v := 50) C dX11_telling_11 bp_50 (E_callVV C dX11_telling_13 mv_X11_357 0 _ (m_ran hq (by omega) 50) rfl rfl rfl (by decide) (Nat.le_of_ble_eq_true rfl) ?_))
    rintro _ rfl
    refine E_aload_n C dX11_telling_16 0 rfl (E_iload_n C dX11_telling_17 1 rfl (E_iload_n C dX11_telling_18 2 rfl (E_callVI C dX11_telling_19 mv_X11_390 0 _ (m_plainTells hk8 hbn hkb (hq.n 50) (by omega) x) rfl rfl rfl (by decide) (Nat.le_of_ble_eq_true rfl) ?_)))
    rintro _ _ ⟨rfl, rfl⟩
    refine E_iconst (v := 5) C dX11_telling_22 ic_5 (E_ixor C dX11_telling_23 (E_iretI C hr hlk dX11_telling_24 ?_))
    rw [hv]
    exact ⟨rfl, rfl⟩
set_option maxRecDepth 100000 in
set_option maxHeartbeats 4000000 in
theorem q_act {l : Launch} {D : va_G} {tc tt ad : Nat → Nat} {S : STT} {w0 : va_W} (hM : MR ad tc S w0) (b0 a0 x0 : Int32) : Ct l yX11_act cX11_act 4 (some .int) 10 D tc tt [.ref (ad 0), .int b0, .int a0, .int x0] (w0) (PI fun r w => r = aAct S b0 a0 x0 ∧ MR ad tc (nAct S b0 a0 x0) w) := by
  obtain ⟨g, h, el, u, v, sf, rfl, M⟩ := hM
  have hA := M.1
  have hn := M.1.1
  have hn8 := M.1.2.1
  have m6 := M.2.2.2.2.2.1
  refine Ct.of (by decide +kernel) (Nat.le_of_ble_eq_true rfl) ?_
  intro p e R s m args below meth c A C hr hlk
  refine E_aload_n C dX11_act_0 0 rfl (E_iconst (v := 0) C dX11_act_1 ic_0 (mp_11_47 C dX11_act_2 fw_X11_354 (E_aload_n C dX11_act_5 0 rfl (E_iload_n C dX11_act_6 1 rfl (E_callVI C dX11_act_7 mv_X11_393 0 _ (m_isBody (show (va_up g 47 0) 45 = nI S.2.2.2.2.2.1.1 from m6.1) m6.2.1 b0) rfl rfl rfl (by decide) (Nat.le_of_ble_eq_true rfl) ?_)))))
  rintro _ _ ⟨rfl, rfl⟩
  refine E_if_eq C 22 dX11_act_10 (by decide) (fun c10 => ?_) (fun c10 => ?_)
  ·
    have n0 := ite_0 c10
    refine E_iconst (v := 0) C dX11_act_22 ic_0 (E_iretI C hr hlk dX11_act_23 ?_)
    have hq0 : actQ S b0 a0 x0 = (0, 0, S.2.2.2.2.2.1.2.2.2) := if_neg (fun q => n0 q.1)
    refine ⟨by unfold aAct; rw [hq0], ⟨_, h, el, u, v, sf, rfl, M.acts (q := (S.2.2.2.2.2.1.1, S.2.2.2.2.2.1.2.1, (actQ S b0 a0 x0).2)) (Nat.le_refl _) (fun k _ k7 => vun k7) (fun _ _ _ => rfl) ⟨m6.1, m6.2.1, m6.2.2.1, ?_, ?_⟩⟩⟩
    · rw [hq0]; rfl
    · rw [hq0]; exact m6.2.2.2.2
  ·
    have n0 := ite_1 c10
    refine E_iload_n C dX11_act_13 2 rfl (E_iconst (v := 0) C dX11_act_14 ic_0 (E_iconst (v := 3) C dX11_act_15 ic_3 (E_callSI C dX11_act_16 ms_X11_118 _ (m_in a0 0 3) rfl rfl (by decide) (Nat.le_of_ble_eq_true rfl) ?_)))
    rintro _ _ ⟨rfl, rfl⟩
    refine E_if_ne C 24 dX11_act_19 (by decide) (fun c19 => ?_) (fun c19 => ?_)
    ·
      have n1 := ite_1 c19
      have n2 := bet_eq.mp n1
      obtain ⟨bn, hbl, hbc, rfl⟩ := bodB_ex m6.2.1 n0
      have hall : bodB S.2.2.2.2.2.1.1 (nI bn) = true ∧ 0 ≤ a0 ∧ a0 < 4 := ⟨n0, n2.1, Int32.lt_of_le_of_lt n2.2 (by decide)⟩
      have hb50 := m6.2.1
      refine Ev.setw (ws' := hm ad tc (va_up g 47 ((0, S.2.2.2.2.2.1.2.2.2)).1) (va_up h 48 ((0, S.2.2.2.2.2.1.2.2.2)).2) el u v sf) (congrArg (fun q => hm ad tc (va_up g 47 0) q el u v sf) (show h = va_up h 48 S.2.2.2.2.2.1.2.2.2 by rw [← m6.2.2.2.2, up_self])) ?_
      refine E_iload_n C dX11_act_24 2 rfl (E_if_ne C 37 dX11_act_25 (by decide) (fun c25 => ?_) (fun c25 => ?_))
      ·
        refine E_iload_n C dX11_act_37 2 rfl (E_iconst (v := 1) C dX11_act_38 ic_1 (E_icmp_ne C 51 dX11_act_39 (by decide) (fun c39 => ?_) (fun c39 => ?_)))
        ·
          refine E_iload_n C dX11_act_51 2 rfl (E_iconst (v := 2) C dX11_act_52 ic_2 (E_icmp_ne C 65 dX11_act_53 (by decide) (fun c53 => ?_) (fun c53 => ?_)))
          ·
            refine E_aload_n C dX11_act_65 0 rfl (E_iload_n C dX11_act_66 1 rfl (E_iload_n C dX11_act_67 3 rfl (E_callVI C dX11_act_68 mv_X11_396 0 _ (m_telling (q := (0, S.2.2.2.2.2.1.2.2.2)) (kd := S.2.2.2.2.2.1.2.1 bn) (bn := bn) (m6.2.2.1 bn hbl).2 (by omega) (m6.2.2.1 bn hbl).1 (c0 := 0) ⟨0, rfl, Nat.le_refl 0⟩ (by decide) x0) rfl rfl rfl (by decide) (Nat.le_of_ble_eq_true rfl) ?_)))
            rintro _ _ ⟨rfl, rfl⟩
            refine E_iretI C hr hlk dX11_act_71 ?_
            obtain rfl : a0 = 3 := by
              obtain ⟨an, han, hac, rfl⟩ := n_of (k := 3) (m := 3) rfl (Int32.not_lt.mpr n2.1) n2.2
              rcases (show an = 0 ∨ an = 1 ∨ an = 2 ∨ an = 3 by omega) with rfl | rfl | rfl | rfl
              · exact absurd rfl c25
              · exact absurd rfl c39
              · exact absurd rfl c53
              · rfl
            have e0 : actQ S (nI bn) 3 x0 = teM (nI (S.2.2.2.2.2.1.2.1 bn)) (nI bn) x0 (0, S.2.2.2.2.2.1.2.2.2) := by
              refine (if_pos hall).trans ?_
              rw [hbc]
              exact Q_te (m6.2.2.1 bn hbl).2 31 x0 _
            refine ⟨(congrArg Prod.fst e0).symm, ⟨_, _, _, _, _, _, rfl, M.acts (q := (S.2.2.2.2.2.1.1, S.2.2.2.2.2.1.2.1, (actQ S (nI bn) 3 x0).2)) (Nat.le_refl _) (fun k _ k7 => vun k7) (fun k _ k8 => vun k8) ⟨m6.1, m6.2.1, m6.2.2.1, ?_, ?_⟩⟩⟩
            · rw [e0]; rfl
            · rw [e0]; rfl
          ·
            refine E_aload_n C dX11_act_56 0 rfl (E_iload_n C dX11_act_57 1 rfl (E_iload_n C dX11_act_58 3 rfl (E_callVI C dX11_act_59 mv_X11_378 0 _ (m_setting (q := (0, S.2.2.2.2.2.1.2.2.2)) (kd := S.2.2.2.2.2.1.2.1 bn) (bn := bn) (m6.2.2.1 bn hbl).2 (by omega) (m6.2.2.1 bn hbl).1 (c0 := 0) ⟨0, rfl, Nat.le_refl 0⟩ (by decide) x0) rfl rfl rfl (by decide) (Nat.le_of_ble_eq_true rfl) ?_)))
            rintro _ _ ⟨rfl, rfl⟩
            refine E_goto C 71 dX11_act_62 (by decide) (E_iretI C hr hlk dX11_act_71 ?_)
            subst c53
            have e0 : actQ S (nI bn) 2 x0 = seM (nI (S.2.2.2.2.2.1.2.1 bn)) (nI bn) x0 (0, S.2.2.2.2.2.1.2.2.2) := by
              refine (if_pos hall).trans ?_
              rw [hbc]
              exact Q_se (m6.2.2.1 bn hbl).2 36 x0 _
            refine ⟨(congrArg Prod.fst e0).symm, ⟨_, _, _, _, _, _, rfl, M.acts (q := (S.2.2.2.2.2.1.1, S.2.2.2.2.2.1.2.1, (actQ S (nI bn) 2 x0).2)) (Nat.le_refl _) (fun k _ k7 => vun k7) (fun k _ k8 => vun k8) ⟨m6.1, m6.2.1, m6.2.2.1, ?_, ?_⟩⟩⟩
            · rw [e0]; rfl
            · rw [e0]; rfl
        ·
          refine E_aload_n C dX11_act_42 0 rfl (E_iload_n C dX11_act_43 1 rfl (E_iload_n C dX11_act_44 3 rfl (E_callVI C dX11_act_45 mv_X11_387 0 _ (m_finding (q := (0, S.2.2.2.2.2.1.2.2.2)) (kd := S.2.2.2.2.2.1.2.1 bn) (bn := bn) (m6.2.2.1 bn hbl).2 (by omega) (m6.2.2.1 bn hbl).1 (c0 := 0) ⟨0, rfl, Nat.le_refl 0⟩ (by decide) x0) rfl rfl rfl (by decide) (Nat.le_of_ble_eq_true rfl) ?_)))
          rintro _ _ ⟨rfl, rfl⟩
          refine E_goto C 71 dX11_act_48 (by decide) (E_iretI C hr hlk dX11_act_71 ?_)
          subst c39
          have e0 : actQ S (nI bn) 1 x0 = fiM (nI (S.2.2.2.2.2.1.2.1 bn)) (nI bn) x0 (0, S.2.2.2.2.2.1.2.2.2) := by
            refine (if_pos hall).trans ?_
            rw [hbc]
            exact Q_fi (m6.2.2.1 bn hbl).2 33 x0 _
          refine ⟨(congrArg Prod.fst e0).symm, ⟨_, _, _, _, _, _, rfl, M.acts (q := (S.2.2.2.2.2.1.1, S.2.2.2.2.2.1.2.1, (actQ S (nI bn) 1 x0).2)) (Nat.le_refl _) (fun k _ k7 => vun k7) (fun k _ k8 => vun k8) ⟨m6.1, m6.2.1, m6.2.2.1, ?_, ?_⟩⟩⟩
          · rw [e0]; rfl
          · rw [e0]; rfl
      ·
        refine E_aload_n C dX11_act_28 0 rfl (E_iload_n C dX11_act_29 1 rfl (E_iload_n C dX11_act_30 3 rfl (E_callVI C dX11_act_31 mv_X11_369 0 _ (m_goesOf (q := (0, S.2.2.2.2.2.1.2.2.2)) (kd := S.2.2.2.2.2.1.2.1 bn) (bn := bn) (m6.2.2.1 bn hbl).2 (by omega) (m6.2.2.1 bn hbl).1 (c0 := 0) ⟨0, rfl, Nat.le_refl 0⟩ (by decide) x0) rfl rfl rfl (by decide) (Nat.le_of_ble_eq_true rfl) ?_)))
        rintro _ _ ⟨rfl, rfl⟩
        refine E_goto C 71 dX11_act_34 (by decide) (E_iretI C hr hlk dX11_act_71 ?_)
        subst c25
        have e0 : actQ S (nI bn) 0 x0 = goM (nI (S.2.2.2.2.2.1.2.1 bn)) (nI bn) x0 (0, S.2.2.2.2.2.1.2.2.2) := by
          refine (if_pos hall).trans ?_
          rw [hbc]
          exact Q_go (m6.2.2.1 bn hbl).2 37 x0 _
        refine ⟨(congrArg Prod.fst e0).symm, ⟨_, _, _, _, _, _, rfl, M.acts (q := (S.2.2.2.2.2.1.1, S.2.2.2.2.2.1.2.1, (actQ S (nI bn) 0 x0).2)) (Nat.le_refl _) (fun k _ k7 => vun k7) (fun k _ k8 => vun k8) ⟨m6.1, m6.2.1, m6.2.2.1, ?_, ?_⟩⟩⟩
        · rw [e0]; rfl
        · rw [e0]; rfl
    ·
      have n1 := ite_0 c19
      refine E_iconst (v := 0) C dX11_act_22 ic_0 (E_iretI C hr hlk dX11_act_23 ?_)
      have hq0 : actQ S b0 a0 x0 = (0, 0, S.2.2.2.2.2.1.2.2.2) := if_neg (fun q => n1 (bet_eq.mpr ⟨q.2.1, by
          have q2 := q.2.2
          rw [Int32.lt_iff_toInt_lt] at q2
          rw [Int32.le_iff_toInt_le]
          have z3 : (3 : Int32).toInt = 3 := rfl
          have z4 : (4 : Int32).toInt = 4 := rfl
          omega⟩))
      refine ⟨by unfold aAct; rw [hq0], ⟨_, h, el, u, v, sf, rfl, M.acts (q := (S.2.2.2.2.2.1.1, S.2.2.2.2.2.1.2.1, (actQ S b0 a0 x0).2)) (Nat.le_refl _) (fun k _ k7 => vun k7) (fun _ _ _ => rfl) ⟨m6.1, m6.2.1, m6.2.2.1, ?_, ?_⟩⟩⟩
      · rw [hq0]; rfl
      · rw [hq0]; exact m6.2.2.2.2
