/-! what the lines say, and that the class's stack comes to it -/
def evE (nm : Nat → Int32) (c : CD) : Int32 := match exO nm c [] with | some (v :: _) => v | _ => 0
def evL (nm : Nat → Int32) : List (CD × CD) → Int32
  | [] => 0
  | q :: r => if q.1.length = 0 ∨ evE nm q.1 ≠ 0 then evE nm q.2 else evL nm r
theorem gc_ev {c : CD} (h : GC c) (nm : Nat → Int32) (st : List Int32) : exO nm c st = some (evE nm c :: st) := by
  obtain ⟨v, hv⟩ := h nm
  have e : evE nm c = v := by unfold evE; rw [hv []]
  rw [e]
  exact hv st
def AtC (ops nums : Nat → Int32) (i : Nat) (c : CD) : Prop := ∀ (j a b : Nat), c[j]? = some (a, b) → ops (i + j) = nI a ∧ nums (i + j) = nI b
theorem AtC.hd {ops nums : Nat → Int32} {i a b : Nat} {c : CD} (h : AtC ops nums i ((a, b) :: c)) : ops i = nI a ∧ nums i = nI b := h 0 a b rfl
theorem AtC.tl {ops nums : Nat → Int32} {i : Nat} {q : Nat × Nat} {c : CD} (h : AtC ops nums i (q :: c)) : AtC ops nums (i + 1) c := fun j a b e => by
  have k := h (j + 1) a b e
  rw [show i + 1 + j = i + (j + 1) by omega]
  exact k
theorem AtC.l {ops nums : Nat → Int32} {i : Nat} {c d : CD} (h : AtC ops nums i (c ++ d)) : AtC ops nums i c := fun j a b e => h j a b (by
  rw [List.getElem?_append_left (List.getElem?_eq_some_iff.mp e).1]
  exact e)
theorem AtC.r {ops nums : Nat → Int32} {i : Nat} {c d : CD} (h : AtC ops nums i (c ++ d)) : AtC ops nums (i + c.length) d := fun j a b e => by
  have k := h (c.length + j) a b (by
    rw [List.getElem?_append_right (Nat.le_add_right _ _), Nat.add_sub_cancel_left]
    exact e)
  rw [Nat.add_assoc]
  exact k
/-- the class's stack holds a list, its last on top -/
def Rst (st : Nat → Int32) (L : List Int32) : Prop := ∀ (k : Nat) (x : Int32), L[k]? = some x → st (L.length + 1 - k) = x
theorem Rst.push {st : Nat → Int32} {L : List Int32} (h : Rst st L) (v : Int32) : Rst (upd st (L.length + 2) v) (v :: L) := fun k x e => by
  cases k with
  | zero =>
    cases e
    exact if_pos rfl
  | succ k =>
    have hk : k < L.length := (List.getElem?_eq_some_iff.mp (show L[k]? = some x from e)).1
    show upd st (L.length + 2) v (L.length + 1 + 1 - (k + 1)) = x
    exact (if_neg (by omega)).trans ((congrArg st (by omega)).trans (h k x e))
theorem Rst.top {st : Nat → Int32} {L : List Int32} {x : Int32} (h : Rst st (x :: L)) (v : Int32) : st (L.length + 2) = x ∧ Rst (upd st (L.length + 2) v) (v :: L) := by
  refine ⟨h 0 x rfl, fun k y e => ?_⟩
  cases k with
  | zero =>
    cases e
    exact if_pos rfl
  | succ k =>
    have hk : k < L.length := (List.getElem?_eq_some_iff.mp (show L[k]? = some y from e)).1
    show upd st (L.length + 2) v (L.length + 1 + 1 - (k + 1)) = y
    exact (if_neg (by omega)).trans (h (k + 1) y e)
theorem Rst.two {st : Nat → Int32} {L : List Int32} {x y : Int32} (h : Rst st (y :: x :: L)) (v : Int32) : st (L.length + 2) = x ∧ st (L.length + 3) = y ∧ Rst (upd st (L.length + 2) v) (v :: L) := by
  refine ⟨h 1 x rfl, h 0 y rfl, fun k z e => ?_⟩
  cases k with
  | zero =>
    cases e
    exact if_pos rfl
  | succ k =>
    have hk : k < L.length := (List.getElem?_eq_some_iff.mp (show L[k]? = some z from e)).1
    show upd st (L.length + 2) v (L.length + 1 + 1 - (k + 1)) = z
    refine (if_neg (by omega)).trans ?_
    have q := h (k + 2) z e
    have e2 : (y :: x :: L).length + 1 - (k + 2) = L.length + 1 + 1 - (k + 1) := by
      show L.length + 1 + 1 + 1 - (k + 2) = _
      omega
    rw [e2] at q
    exact q
theorem lawR_seg {ops nums nm : Nat → Int32} {sz : Nat} (hsz : sz ≤ 128) {cnt : Int32} : ∀ (c : CD) (i n : Nat) (st : Nat → Int32) (L L' : List Int32), exO nm c L = some L' → Rst st L → L.length ≤ i → i + c.length ≤ sz → AtC ops nums i c → c.length ≤ n → ∃ st', Rst st' L' ∧ L'.length ≤ i + c.length ∧ lawR ops nums nm sz n i (L.length + 2) st cnt = lawR ops nums nm sz (n - c.length) (i + c.length) (L'.length + 2) st' cnt
  | [], i, n, st, L, L', h, hr, hl, _, _, _ => by
    cases h
    exact ⟨st, hr, hl, rfl⟩
  | (a, b) :: r, i, n, st, L, L', h, hr, hl, hi, hat, hn => by
    have hi' : i + (r.length + 1) ≤ sz := hi
    have hn' : r.length + 1 ≤ n := hn
    obtain ⟨m, rfl⟩ : ∃ m, n = m + 1 := ⟨n - 1, by omega⟩
    obtain ⟨ha, hb⟩ := hat.hd
    have hc : i < sz ∧ i < 128 ∧ 2 ≤ L.length + 2 ∧ L.length + 2 < 130 := ⟨by omega, by omega, by omega, by omega⟩
    have h' : (match ex1 nm a b L with | some st' => exO nm r st' | none => none) = some L' := h
    have go : ∀ (L1 : List Int32) (st1 : Nat → Int32), ex1 nm a b L = some L1 → Rst st1 L1 → L1.length ≤ i + 1 → lawR ops nums nm sz (m + 1) i (L.length + 2) st cnt = lawR ops nums nm sz m (i + 1) (L1.length + 2) st1 cnt → ∃ st', Rst st' L' ∧ L'.length ≤ i + (r.length + 1) ∧ lawR ops nums nm sz (m + 1) i (L.length + 2) st cnt = lawR ops nums nm sz (m + 1 - (r.length + 1)) (i + (r.length + 1)) (L'.length + 2) st' cnt := by
      intro L1 st1 e1 r1 l1 q
      rw [e1] at h'
      obtain ⟨st', k1, k2, k3⟩ := lawR_seg hsz r (i + 1) m st1 L1 L' h' r1 l1 (by omega) hat.tl (by omega)
      refine ⟨st', k1, by omega, ?_⟩
      rw [q, k3, show m + 1 - (r.length + 1) = m - r.length by omega, show i + (r.length + 1) = i + 1 + r.length by omega]
    show ∃ st', Rst st' L' ∧ L'.length ≤ i + (r.length + 1) ∧ lawR ops nums nm sz (m + 1) i (L.length + 2) st cnt = lawR ops nums nm sz (m + 1 - (r.length + 1)) (i + (r.length + 1)) (L'.length + 2) st' cnt
    by_cases a1 : a = 48
    · subst a1
      refine go _ _ (if_pos rfl) (hr.push (nI b)) (by show L.length + 1 ≤ _; omega) ?_
      rw [lawR_48 hc ha, hb]
      rfl
    · by_cases a2 : a = 110
      · subst a2
        by_cases hb5 : b < 5
        · refine go _ _ ((if_neg (by decide)).trans ((if_pos rfl).trans (if_pos hb5))) (hr.push (nm b)) (by show L.length + 1 ≤ _; omega) ?_
          rw [lawR_110 hc ha, hb]
          have e5 : namedF nm (nI b) = nm b := by
            unfold namedF
            rw [if_neg (nI_pos (by omega))]
            exact (if_pos (show nI b < nI 5 from nI_lt hb5 (by decide))).trans (congrArg nm (nI_clamp (by omega)))
          rw [e5]
          rfl
        · have e : ex1 nm 110 b L = none := (if_neg (by decide)).trans ((if_pos rfl).trans (if_neg hb5))
          rw [e] at h'
          cases h'
      · by_cases a3 : a = 33
        · subst a3
          cases L with
          | nil => cases h'
          | cons x q =>
            obtain ⟨k1, k2⟩ := hr.top (if x = 0 then 1 else 0)
            refine go ((if x = 0 then 1 else 0) :: q) _ rfl k2 hl.step ?_
            rw [lawR_33 hc ha]
            show lawR ops nums nm sz m (i + 1) (q.length + 1 + 2) (upd st (q.length + 2) (if st (q.length + 2) = 0 then 1 else 0)) cnt = _
            rw [k1]
            rfl
        · by_cases a4 : a = 126
          · subst a4
            cases L with
            | nil => cases h'
            | cons x q =>
              obtain ⟨k1, k2⟩ := hr.top (-x)
              refine go (-x :: q) _ rfl k2 hl.step ?_
              rw [lawR_126 hc ha]
              show lawR ops nums nm sz m (i + 1) (q.length + 1 + 2) (upd st (q.length + 2) (-(st (q.length + 2)))) cnt = _
              rw [k1]
              rfl
          · by_cases a5 : bnO a = true
            · obtain ⟨-, -, -, -, n1, -, -, n2, n3⟩ := bnO_ne a5
              have ex : ∀ z, ex1 nm a b z = (match z with | y :: x :: q => some (togF (nI a) x y :: q) | _ => none) := fun z => (if_neg a1).trans ((if_neg a2).trans ((if_neg a3).trans ((if_neg a4).trans (if_pos a5))))
              match L, hr, hl, hc, h', ex, go with
              | [], _, _, _, h', ex, _ => rw [ex] at h'; cases h'
              | [_], _, _, _, h', ex, _ => rw [ex] at h'; cases h'
              | y :: x :: q, hr, hl, hc, h', ex, go =>
                obtain ⟨k1, k2, k3⟩ := hr.two (togF (nI a) x y)
                refine go (togF (nI a) x y :: q) _ (ex _) k3 (by have hl' : q.length + 1 + 1 ≤ i := hl; show q.length + 1 ≤ _; omega) ?_
                have ne : ∀ k : Nat, k < 256 → a ≠ k → ¬ ops i = nI k := fun k hk hne e => hne ((nI_eq (by omega) (by omega)).mp (ha.symm.trans e))
                rw [lawR_def hc (ne 33 (by decide) a3) (ne 48 (by decide) a1) (ne 59 (by decide) n3) (ne 63 (by decide) n2) (ne 110 (by decide) a2) (ne 126 (by decide) a4), ha]
                show lawR ops nums nm sz m (i + 1) (q.length + 1 + 1 + 2 - 1) (upd st (q.length + 2) (togF (nI a) (st (q.length + 2)) (st (q.length + 3)))) cnt = _
                rw [k1, k2]
                rfl
            · have e : ex1 nm a b L = none := (if_neg a1).trans ((if_neg a2).trans ((if_neg a3).trans ((if_neg a4).trans (if_neg a5))))
              rw [e] at h'
              cases h'
theorem rst_nil (st : Nat → Int32) : Rst st [] := fun k x e => by cases e
theorem lawR_lines {ops nums nm : Nat → Int32} {sz : Nat} (hsz : sz ≤ 128) : ∀ (ls : List (CD × CD)) (i n : Nat) (st : Nat → Int32), (∀ q ∈ ls, LnG q) → i + (ls.flatMap flt).length = sz → AtC ops nums i (ls.flatMap flt) → (ls.flatMap flt).length ≤ n → lawR ops nums nm sz n i 2 st 1 = evL nm ls
  | [], i, n, st, _, hi, _, _ => by
    have hi' : i + 0 = sz := hi
    rw [lawR_out (by omega)]
    rfl
  | q :: r, i, n, st, hg, hi, hat, hn => by
    have hq := hg q (List.mem_cons_self ..)
    have hr : ∀ z ∈ r, LnG z := fun z hz => hg z (List.mem_cons_of_mem _ hz)
    have ef : (q :: r).flatMap flt = flt q ++ r.flatMap flt := List.flatMap_cons
    rw [ef] at hi hat hn
    rw [List.length_append] at hi hn
    obtain ⟨qa, qb⟩ := q
    obtain ⟨g1, g2⟩ := hq
    have g2' : GC qb := g2
    -- what is said, and the line's end
    have say : ∀ (i' n' : Nat) (st' : Nat → Int32) (cnt : Int32), AtC ops nums i' (qb ++ [(59, 0)]) → i' + (qb.length + 1) ≤ sz → qb.length + 1 ≤ n' → lawR ops nums nm sz n' i' 2 st' cnt = (if cnt = 0 then lawR ops nums nm sz (n' - (qb.length + 1)) (i' + (qb.length + 1)) 2 (fun j => 0) 1 else evE nm qb) ∨ ∃ st2, lawR ops nums nm sz n' i' 2 st' cnt = (if cnt = 0 then lawR ops nums nm sz (n' - (qb.length + 1)) (i' + (qb.length + 1)) 2 st2 1 else evE nm qb) := by
      intro i' n' st' cnt ha hs hn'
      right
      obtain ⟨st2, k1, k2, k3⟩ := lawR_seg (nm := nm) hsz (cnt := cnt) qb i' n' st' [] [evE nm qb] (gc_ev g2' nm []) (rst_nil _) (Nat.zero_le _) (by omega) ha.l (by omega)
      refine ⟨st2, ?_⟩
      have e3 := k3
      have hop := (AtC.r ha).hd.1
      obtain ⟨m, hm⟩ : ∃ m, n' - qb.length = m + 1 := ⟨n' - qb.length - 1, by omega⟩
      rw [hm] at e3
      have hc : i' + qb.length < sz ∧ i' + qb.length < 128 ∧ 2 ≤ 3 ∧ 3 < 130 := ⟨by omega, by omega, by decide, by decide⟩
      have e3' : lawR ops nums nm sz n' i' 2 st' cnt = lawR ops nums nm sz (m + 1) (i' + qb.length) 3 st2 cnt := e3
      rw [e3']
      by_cases hz : cnt = 0
      · rw [lawR_59a hc hop hz, if_pos hz, show n' - (qb.length + 1) = m by omega]
        rfl
      · rw [lawR_59b hc hop hz, if_neg hz]
        exact k1 0 _ rfl
    by_cases he : qa.length = 0
    · have efl : flt (qa, qb) = qb ++ [(59, 0)] := if_pos he
      rw [efl] at hi hat hn
      rw [List.length_append] at hi hn
      have hi' : i + (qb.length + 1 + (r.flatMap flt).length) = sz := hi
      have hn' : qb.length + 1 + (r.flatMap flt).length ≤ n := hn
      have ee : evL nm ((qa, qb) :: r) = evE nm qb := if_pos (Or.inl he)
      rw [ee]
      rcases say i n st 1 hat.l (by omega) (by omega) with k | ⟨st2, k⟩
      · rw [k]; exact if_neg (by decide)
      · rw [k]; exact if_neg (by decide)
    · have efl : flt (qa, qb) = qa ++ (63, 0) :: (qb ++ [(59, 0)]) := if_neg he
      rw [efl] at hi hat hn
      rw [List.length_append, List.length_cons, List.length_append] at hi hn
      have hi' : i + (qa.length + (qb.length + 1 + 1) + (r.flatMap flt).length) = sz := hi
      have hn' : qa.length + (qb.length + 1 + 1) + (r.flatMap flt).length ≤ n := hn
      have g1' : GC qa := by
        rcases g1 with g1 | g1
        · exact absurd (show qa = [] from g1) (fun z => he (by rw [z]; rfl))
        · exact g1
      have hat1 := hat.l
      obtain ⟨st1, k1, k2, k3⟩ := lawR_seg (nm := nm) hsz (cnt := 1) qa i n st [] [evE nm qa] (gc_ev g1' nm []) (rst_nil _) (Nat.zero_le _) (by omega) hat1.l (by omega)
      have hat2 := hat1.r
      have hop := hat2.hd.1
      obtain ⟨m, hm⟩ : ∃ m, n - qa.length = m + 1 := ⟨n - qa.length - 1, by omega⟩
      rw [hm] at k3
      have hc : i + qa.length < sz ∧ i + qa.length < 128 ∧ 2 ≤ 3 ∧ 3 < 130 := ⟨by omega, by omega, by decide, by decide⟩
      have k3' : lawR ops nums nm sz n i 2 st 1 = lawR ops nums nm sz (m + 1) (i + qa.length) 3 st1 1 := k3
      have hv : st1 (3 - 1) = evE nm qa := k1 0 _ rfl
      rw [k3', lawR_63 hc hop, hv]
      have hlast : ∀ st2, lawR ops nums nm sz (m - (qb.length + 1)) (i + qa.length + 1 + (qb.length + 1)) 2 st2 1 = evL nm r := by
        intro st2
        refine lawR_lines hsz r _ _ st2 hr (by omega) ?_ (by omega)
        have q := hat.r
        rw [List.length_append, List.length_cons, List.length_append] at q
        have e9 : i + qa.length + 1 + (qb.length + 1) = i + (qa.length + (qb.length + [((59 : Nat), (0 : Nat))].length + 1)) := by
          show _ = i + (qa.length + (qb.length + 1 + 1))
          omega
        rw [e9]
        exact q
      show lawR ops nums nm sz m (i + qa.length + 1) 2 st1 (if evE nm qa = 0 then 0 else 1) = _
      have hs : ∃ st2, lawR ops nums nm sz m (i + qa.length + 1) 2 st1 (if evE nm qa = 0 then 0 else 1) = (if (if evE nm qa = 0 then (0 : Int32) else 1) = 0 then lawR ops nums nm sz (m - (qb.length + 1)) (i + qa.length + 1 + (qb.length + 1)) 2 st2 1 else evE nm qb) := by
        rcases say (i + qa.length + 1) m st1 (if evE nm qa = 0 then 0 else 1) hat2.tl (by omega) (by omega) with k | k
        · exact ⟨_, k⟩
        · exact k
      obtain ⟨st2, hs⟩ := hs
      rw [hs, hlast]
      by_cases hz : evE nm qa = 0
      · have ee : evL nm ((qa, qb) :: r) = evL nm r := if_neg (fun z => by
          rcases z with z | z
          · exact he z
          · exact z hz)
        rw [ee, if_pos hz]
        exact if_pos rfl
      · have ee : evL nm ((qa, qb) :: r) = evE nm qb := if_pos (Or.inr hz)
        rw [ee, if_neg hz]
        exact if_neg (by decide)
/-- the minutes of a going, by the lines of a law -/
def lawL (ls : List (CD × CD)) (n p k w s : Nat) : Nat := (heldF (evL (facts (nI n) (nI p) (nI k) (nI w) (nI s)) ls)).toNatClampNeg
/-- without a law -/
def law0 (n p k w s : Nat) : Nat := (heldF (nI p + nI n)).toNatClampNeg
theorem held_nat (x : Int32) : heldF x = nI (heldF x).toNatClampNeg ∧ 1 ≤ (heldF x).toNatClampNeg ∧ (heldF x).toNatClampNeg ≤ 60 := by
  obtain ⟨h1, h2⟩ := heldF_in x
  revert h1 h2
  generalize heldF x = y
  intro h1 h2
  obtain ⟨j, hj, rfl⟩ := nI_of (x := y) (fun q => by
    rw [Int32.lt_iff_toInt_lt] at q
    have : (0 : Int32).toInt = 0 := rfl
    omega)
  rw [nI_toInt hj] at h1 h2
  rw [nI_clamp hj]
  exact ⟨rfl, by omega, by omega⟩
theorem LawX.new {g : Nat → Int32} {h : Nat → Nat → Int32} {ls : List (CD × CD)} (hg : ∀ q ∈ ls, LnG q) (hn : ls ≠ []) (hl : (ls.flatMap flt).length ≤ 128) (h2 : g 2 = nI (ls.flatMap flt).length) (ha : AtC (h 0) (h 1) 0 (ls.flatMap flt)) : LawX g h (lawL ls) := by
  have hne : ¬ (ls.flatMap flt).length = 0 := by
    cases ls with
    | nil => exact absurd rfl hn
    | cons q r =>
      rw [List.flatMap_cons, List.length_append]
      have : 0 < (flt q).length := by
        unfold flt
        split
        · rw [List.length_append]
          show 0 < _ + 1
          omega
        · rw [List.length_append, List.length_cons]
          omega
      omega
  refine ⟨(ls.flatMap flt).length, hl, h2, fun n p k w s st => ?_⟩
  rw [if_neg hne, lawR_lines hl ls 0 129 st hg (Nat.zero_add _) ha (by omega)]
  exact held_nat _
theorem LawX.none {g : Nat → Int32} {h : Nat → Nat → Int32} (h2 : g 2 = 0) : LawX g h law0 := by
  refine ⟨0, by decide, h2, fun n p k w s st => ?_⟩
  rw [if_pos rfl]
  exact held_nat _
