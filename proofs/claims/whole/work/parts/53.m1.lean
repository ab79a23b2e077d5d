/-! the reference: small methods, things, changes -/
theorem lim8 {n k j : Nat} (hn : n ≤ 8) (h : j < lim n k) : j < 8 := by
  unfold lim at h
  split at h
  · omega
  · split at h
    · omega
    · split at h <;> omega
def valF (g : Nat → Int32) (h : Nat → Nat → Int32) (x : Int32) (j : Nat) : Int32 := if x = 0 then h 2 j else if x = 1 then h 3 j else if x = 2 then h 4 j else if x = 3 then h 5 j else if x = 4 then h 6 j else if x = 5 then h 7 j else if x = 6 then h 8 j else g 9
def layH (h : Nat → Nat → Int32) (x : Int32) (j : Nat) (w : Int32) : Nat → Nat → Int32 := if x = 0 then va_up h 2 (upd (h 2) j w) else if x = 1 then va_up h 3 (upd (h 3) j w) else if x = 2 then va_up h 4 (upd (h 4) j w) else if x = 3 then va_up h 5 (upd (h 5) j w) else if x = 4 then va_up h 6 (upd (h 6) j w) else if x = 5 then va_up h 7 (upd (h 7) j w) else if x = 6 then va_up h 8 (upd (h 8) j w) else h
def layG (g : Nat → Int32) (x : Int32) (w : Int32) : Nat → Int32 := if x = 0 then g else if x = 1 then g else if x = 2 then g else if x = 3 then g else if x = 4 then g else if x = 5 then g else if x = 6 then g else va_up g 9 w
theorem valF_N {n : Nat} {N : Nat → Nat → Nat} {g : Nat → Int32} {h : Nat → Nat → Int32} (m : MA n N g h) {k j : Nat} (hk : k < 8) (hj : j < lim n k) : valF g h (nI k) j = nI (N k j) := by
  rcases (show k = 0 ∨ k = 1 ∨ k = 2 ∨ k = 3 ∨ k = 4 ∨ k = 5 ∨ k = 6 ∨ k = 7 by omega) with rfl | rfl | rfl | rfl | rfl | rfl | rfl | rfl
  · exact m.2.2.1 0 j (by decide) hj
  · exact m.2.2.1 1 j (by decide) hj
  · exact m.2.2.1 2 j (by decide) hj
  · exact m.2.2.1 3 j (by decide) hj
  · exact m.2.2.1 4 j (by decide) hj
  · exact m.2.2.1 5 j (by decide) hj
  · exact m.2.2.1 6 j (by decide) hj
  · have hj' : j < 1 := hj
    obtain rfl : j = 0 := by omega
    exact m.2.2.2.1
theorem layG_ne {g : Nat → Int32} {x w : Int32} {q : Nat} (h : q ≠ 9) : layG g x w q = g q := by
  unfold layG
  repeat' split
  all_goals first | rfl | exact vun h
theorem layH_ne {h : Nat → Nat → Int32} {x w : Int32} {j q : Nat} (hq : q < 2 ∨ 8 < q) : layH h x j w q = h q := by
  unfold layH
  repeat' split
  all_goals first | rfl | exact vun (by omega)
theorem layH_k {h : Nat → Nat → Int32} {w : Int32} {j k : Nat} (hk : k < 7) : layH h (nI k) j w = va_up h (2 + k) (upd (h (2 + k)) j w) := by
  rcases (show k = 0 ∨ k = 1 ∨ k = 2 ∨ k = 3 ∨ k = 4 ∨ k = 5 ∨ k = 6 by omega) with rfl | rfl | rfl | rfl | rfl | rfl | rfl <;> rfl
theorem MA.lay {n : Nat} {N : Nat → Nat → Nat} {g : Nat → Int32} {h : Nat → Nat → Int32} (m : MA n N g h) {k j y : Nat} (hk : k < 8) (hj : j < lim n k) (hy : y ≤ maxN k) : MA n (upN N k j y) (layG g (nI k) (nI y)) (layH h (nI k) j (nI y)) := by
  obtain ⟨m1, m2, m3, m4, m5, m6⟩ := m
  refine ⟨(layG_ne (by decide)).trans m1, m2, fun a b ha hb => ?_, ?_, m5.up hy, Z4.up m6 hj⟩
  · by_cases e7 : k = 7
    · subst e7
      have e : layH h (nI 7) j (nI y) = h := rfl
      rw [e, m3 a b ha hb]
      unfold upN
      rw [if_neg (fun q => by omega)]
    · rw [layH_k (by omega)]
      unfold upN
      by_cases e1 : a = k
      · subst e1
        rw [vus]
        by_cases e2 : b = j
        · subst e2
          rw [if_pos ⟨rfl, rfl⟩]
          exact if_pos rfl
        · rw [if_neg (fun q => e2 q.2)]
          exact (if_neg e2).trans (m3 a b ha hb)
      · rw [vun (by omega), if_neg (fun q => e1 q.1)]
        exact m3 a b ha hb
  · by_cases e7 : k = 7
    · subst e7
      have hj' : j < 1 := hj
      obtain rfl : j = 0 := by omega
      have e : layG g (nI 7) (nI y) = va_up g 9 (nI y) := rfl
      rw [e, vus]
      unfold upN
      rw [if_pos ⟨rfl, rfl⟩]
    · have e : layG g (nI k) (nI y) = g := by
        rcases (show k = 0 ∨ k = 1 ∨ k = 2 ∨ k = 3 ∨ k = 4 ∨ k = 5 ∨ k = 6 by omega) with rfl | rfl | rfl | rfl | rfl | rfl | rfl <;> rfl
      rw [e, m4]
      unfold upN
      rw [if_neg (fun q => e7 q.1.symm)]
/-- what stands beside the numbers stays -/
theorem MAll.nums {S : STT} {g g' : Nat → Int32} {h h' : Nat → Nat → Int32} {el : Nat → Int64} (M : MAll S g h el) {a' : Nat × (Nat → Nat → Nat) × (Nat → Nat → Nat → Nat → Nat → Nat)} {b' : CL × Nat} (hn : S.1.1 ≤ a'.1) (hL : a'.2.2 = S.1.2.2) (hg : ∀ q, q ≠ 1 → q ≠ 9 → q ≠ 10 → q ≠ 11 → g' q = g q) (hh : ∀ q, 16 ≤ q → h' q = h q) (ma : MA a'.1 a'.2.1 g' h') (mb : MBc a'.1 b' g' h') : MAll (a', b', S.2.2) g' h' el := by
  obtain ⟨m1, m2, m3, m4, m5, m6, m7, m8⟩ := M
  refine ⟨ma, mb, m3.kept (hg 17 (by decide) (by decide) (by decide) (by decide)) (hh 16 (by decide)), ?_, ?_, m6.kept (hg 45 (by decide) (by decide) (by decide) (by decide)) (hg 47 (by decide) (by decide) (by decide) (by decide)) (hh 46 (by decide)) (hh 48 (by decide)), m7.kept (hh 49 (by decide)) (hh 50 (by decide)), ?_⟩
  · have k : MD S.1.1 S.2.2.2.1 h' := m4.kept (hh 42 (by decide))
    exact ⟨k.1, k.2.le hn⟩
  · have k : MI S.1.1 S.2.2.2.2.1 g' h' := m5.kept (hg 44 (by decide) (by decide) (by decide) (by decide)) (hh 43 (by decide))
    exact ⟨k.1, k.2.1, fun q => ⟨(k.2.2 q).1, (k.2.2 q).2.le hn⟩⟩
  · show MLw g' h' a'.2.2
    rw [hL]
    exact m8.kept (hg 29 (by decide) (by decide) (by decide) (by decide)) (fun q q1 _ => hh q (by omega))
def addH (h : Nat → Nat → Int32) (n : Nat) (a b c d : Int32) : Nat → Nat → Int32 := va_up (va_up (va_up (va_up (va_up h 2 (upd (h 2) n a)) 3 (upd (h 3) n b)) 4 (upd (h 4) n c)) 5 (upd (h 5) n d)) 6 (upd (h 6) n 0)
theorem MAll.add {S : STT} {g : Nat → Int32} {h : Nat → Nat → Int32} {el : Nat → Int64} (M : MAll S g h el) (hlt : S.1.1 < 8) {a b c d : Nat} (ha : a ≤ maxN 0) (hb : b ≤ maxN 1) (hc : c ≤ maxN 2) (hd : d ≤ maxN 3) : MAll (addS S a b c d) (va_up g 1 (nI (S.1.1 + 1))) (addH h S.1.1 (nI a) (nI b) (nI c) (nI d)) el := by
  have m1 := M.1
  have m2 := M.2.1
  obtain ⟨y1, y2, y3, y4, y5, y6⟩ := m1
  have hne : ∀ q j, ¬ j = S.1.1 → upN (upN (upN (upN S.1.2.1 0 S.1.1 a) 1 S.1.1 b) 2 S.1.1 c) 3 S.1.1 d q j = S.1.2.1 q j := by
    intro q j e
    unfold upN
    rw [if_neg (fun z => e z.2), if_neg (fun z => e z.2), if_neg (fun z => e z.2), if_neg (fun z => e z.2)]
  have hat : ∀ q, upN (upN (upN (upN S.1.2.1 0 S.1.1 a) 1 S.1.1 b) 2 S.1.1 c) 3 S.1.1 d q S.1.1 = if q = 3 then d else if q = 2 then c else if q = 1 then b else if q = 0 then a else S.1.2.1 q S.1.1 := by
    intro q
    unfold upN
    simp only [and_true]
  have e0 := hat 0
  have e1 := hat 1
  have e2 := hat 2
  have e3 := hat 3
  have e4 : upN (upN (upN (upN S.1.2.1 0 S.1.1 a) 1 S.1.1 b) 2 S.1.1 c) 3 S.1.1 d 4 S.1.1 = 0 := (hat 4).trans (y6 S.1.1 (Nat.le_refl _) hlt)
  refine M.nums (a' := (S.1.1 + 1, upN (upN (upN (upN S.1.2.1 0 S.1.1 a) 1 S.1.1 b) 2 S.1.1 c) 3 S.1.1 d, S.1.2.2)) (b' := S.2.1) (Nat.le_succ _) rfl (fun q h1 _ _ _ => vun h1) (fun q hq => ?_) ⟨rfl, hlt, ?_, ?_, (((y5.up ha).up hb).up hc).up hd, fun q q1 q2 => ?_⟩ ⟨m2.1, m2.2.1, m2.2.2.1, m2.2.2.2.1, m2.2.2.2.2.1, fun q a' b' x' y' hq => ?_⟩
  · exact (vun (by omega)).trans ((vun (by omega)).trans ((vun (by omega)).trans ((vun (by omega)).trans (vun (by omega)))))
  · intro k j hk hj
    have hj' : j < lim (S.1.1 + 1) k := hj
    rcases (show k = 0 ∨ k = 1 ∨ k = 2 ∨ k = 3 ∨ k = 4 ∨ k = 5 ∨ k = 6 by omega) with rfl | rfl | rfl | rfl | rfl | rfl | rfl
    · have hj2 : j < S.1.1 + 1 := hj'
      by_cases e : j = S.1.1
      · rw [e]
        exact (show addH h S.1.1 (nI a) (nI b) (nI c) (nI d) 2 S.1.1 = (nI a) from if_pos rfl).trans (congrArg nI e0.symm)
      · exact (show addH h S.1.1 (nI a) (nI b) (nI c) (nI d) 2 j = h 2 j from if_neg e).trans ((y3 0 j (by decide) (show j < S.1.1 by omega)).trans (congrArg nI (hne 0 j e).symm))
    · have hj2 : j < S.1.1 + 1 := hj'
      by_cases e : j = S.1.1
      · rw [e]
        exact (show addH h S.1.1 (nI a) (nI b) (nI c) (nI d) 3 S.1.1 = (nI b) from if_pos rfl).trans (congrArg nI e1.symm)
      · exact (show addH h S.1.1 (nI a) (nI b) (nI c) (nI d) 3 j = h 3 j from if_neg e).trans ((y3 1 j (by decide) (show j < S.1.1 by omega)).trans (congrArg nI (hne 1 j e).symm))
    · have hj2 : j < S.1.1 + 1 := hj'
      by_cases e : j = S.1.1
      · rw [e]
        exact (show addH h S.1.1 (nI a) (nI b) (nI c) (nI d) 4 S.1.1 = (nI c) from if_pos rfl).trans (congrArg nI e2.symm)
      · exact (show addH h S.1.1 (nI a) (nI b) (nI c) (nI d) 4 j = h 4 j from if_neg e).trans ((y3 2 j (by decide) (show j < S.1.1 by omega)).trans (congrArg nI (hne 2 j e).symm))
    · have hj2 : j < S.1.1 + 1 := hj'
      by_cases e : j = S.1.1
      · rw [e]
        exact (show addH h S.1.1 (nI a) (nI b) (nI c) (nI d) 5 S.1.1 = (nI d) from if_pos rfl).trans (congrArg nI e3.symm)
      · exact (show addH h S.1.1 (nI a) (nI b) (nI c) (nI d) 5 j = h 5 j from if_neg e).trans ((y3 3 j (by decide) (show j < S.1.1 by omega)).trans (congrArg nI (hne 3 j e).symm))
    · have hj2 : j < S.1.1 + 1 := hj'
      by_cases e : j = S.1.1
      · rw [e]
        exact (show addH h S.1.1 (nI a) (nI b) (nI c) (nI d) 6 S.1.1 = 0 from if_pos rfl).trans (congrArg nI e4.symm)
      · exact (show addH h S.1.1 (nI a) (nI b) (nI c) (nI d) 6 j = h 6 j from if_neg e).trans ((y3 4 j (by decide) (show j < S.1.1 by omega)).trans (congrArg nI (hne 4 j e).symm))
    · exact y3 5 j (by decide) hj'
    · exact y3 6 j (by decide) hj'
  · show g 9 = nI (upN (upN (upN (upN S.1.2.1 0 S.1.1 a) 1 S.1.1 b) 2 S.1.1 c) 3 S.1.1 d 7 0)
    unfold upN
    rw [if_neg (fun z => absurd z.1 (by decide)), if_neg (fun z => absurd z.1 (by decide)), if_neg (fun z => absurd z.1 (by decide)), if_neg (fun z => absurd z.1 (by decide))]
    exact y4
  · show upN (upN (upN (upN S.1.2.1 0 S.1.1 a) 1 S.1.1 b) 2 S.1.1 c) 3 S.1.1 d 4 q = 0
    unfold upN
    rw [if_neg (fun z => absurd z.1 (by decide)), if_neg (fun z => absurd z.1 (by decide)), if_neg (fun z => absurd z.1 (by decide)), if_neg (fun z => absurd z.1 (by decide))]
    have q1' : S.1.1 + 1 ≤ q := q1
    exact y6 q (by omega) q2
  · obtain ⟨r1, r2, r3, r4⟩ := m2.2.2.2.2.2 q a' b' x' y' hq
    exact ⟨r1, Nat.lt_of_lt_of_le r2 lim_le, r3, r4⟩
set_option maxRecDepth 100000 in
set_option maxHeartbeats 4000000 in
theorem m_in {l : Launch} {D : va_G} {tc tt : Nat → Nat} {ws : va_W} (x lo hi : Int32) : Ct l yX11_in cX11_in 3 (some .boolean) 1 D tc tt [.int x, .int lo, .int hi] (ws) (PI fun r w => r = (if bet x lo hi = true then 1 else 0) ∧ w = ws) := by
  refine Ct.of (by decide +kernel) (Nat.le_of_ble_eq_true rfl) ?_
  intro p e R s m args below meth c A C hr hlk
  refine E_iload_n C dX11_in_0 0 rfl (E_iload_n C dX11_in_1 1 rfl (E_icmp_lt C 14 dX11_in_2 (by decide) (fun c2 => ?_) (fun c2 => ?_)))
  ·
    refine E_iconst (v := 0) C dX11_in_14 ic_0 (E_zretI C hr hlk dX11_in_15 rfl ?_)
    refine ⟨(if_neg fun q => ?_).symm, rfl⟩
    exact absurd c2 (Int32.not_lt.mpr (bet_eq.mp q).1)
  ·
    refine E_iload_n C dX11_in_5 0 rfl (E_iload_n C dX11_in_6 2 rfl (E_icmp_gt C 14 dX11_in_7 (by decide) (fun c7 => ?_) (fun c7 => ?_)))
    ·
      refine E_iconst (v := 0) C dX11_in_14 ic_0 (E_zretI C hr hlk dX11_in_15 rfl ?_)
      refine ⟨(if_neg fun q => ?_).symm, rfl⟩
      exact absurd c7 (Int32.not_lt.mpr (bet_eq.mp q).2)
    ·
      refine E_iconst (v := 1) C dX11_in_10 ic_1 (E_goto C 15 dX11_in_11 (by decide) (E_zretI C hr hlk dX11_in_15 rfl ?_))
      exact ⟨(if_pos (bet_eq.mpr ⟨Int32.not_lt.mp c2, Int32.not_lt.mp c7⟩)).symm, rfl⟩
set_option maxRecDepth 100000 in
set_option maxHeartbeats 4000000 in
theorem m_bitsOf {l : Launch} {D : va_G} {tc tt : Nat → Nat} {ws : va_W} (σ : Nat) (hσ : σ < 256) : Ct l yX11_bitsOf cX11_bitsOf 3 (some .int) 1 D tc tt [.int (nI σ)] (ws) (PI fun r w => r = nI (pop σ) ∧ w = ws) := by
  refine Ct.of (by decide +kernel) (Nat.le_of_ble_eq_true rfl) ?_
  intro p e R s m args below meth c A C hr hlk
  have K : ∀ (n i a : Nat), a < 256 → a < n → i + pop a = pop σ → Ev p l e R s m args below meth c 0 0 (EQ below (PI fun r w => r = nI (pop σ) ∧ w = ws) args s D A) D A 3 (ws) 4 [(2, .int (nI a)), (1, .int (nI i)), (0, .int (nI σ))] [] := by
    intro n
    induction n with
    | zero =>
      intro i a ha256 hlt hp
      exfalso; omega
    | succ n ih =>
      intro i a ha256 hlt hp
      refine E_iload_n C dX11_bitsOf_4 0 rfl (E_if_eq C 20 dX11_bitsOf_5 (by decide) (fun c5 => ?_) (fun c5 => ?_))
      ·
        have ha : a = 0 := (nI_eq (b := 0) (by omega) (by decide)).mp c5
        subst ha
        refine E_iload_n C dX11_bitsOf_20 1 rfl (E_iretI C hr hlk dX11_bitsOf_21 ?_)
        exact ⟨by rw [← hp]; rfl, rfl⟩
      ·
        have hne : a ≠ 0 := fun q => c5 (by rw [q]; rfl)
        obtain ⟨q1, q2⟩ := pop_low a ha256 hne
        refine E_iinc C dX11_bitsOf_8 1 rfl (nI_1 i) (by decide) (E_iload_n C dX11_bitsOf_11 1 rfl (E_iload_n C dX11_bitsOf_12 1 rfl (E_iconst (v := 1) C dX11_bitsOf_13 ic_1 (E_isub C dX11_bitsOf_14 ?_))))
        refine Ev.seti (show nI a - 1 = nI (a - 1) from pk_sub (b := 1) (by omega)) ?_
        refine E_iand C dX11_bitsOf_15 ?_
        refine Ev.seti (nx_and a (a - 1)) ?_
        refine E_istore_n C dX11_bitsOf_16 (by decide) (E_goto C 4 dX11_bitsOf_17 (by decide) ?_)
        exact ih (i + 1) (a &&& (a - 1)) (by omega) (by omega) (by omega)
  refine E_iconst (v := 0) C dX11_bitsOf_0 ic_0 (E_istore_n C dX11_bitsOf_1 (by decide) (E_iload_n C dX11_bitsOf_2 1 rfl (E_istore_n C dX11_bitsOf_3 (by decide) ?_)))
  exact K (σ + 1) 0 σ hσ (by omega) (by omega)
set_option maxRecDepth 100000 in
set_option maxHeartbeats 4000000 in
theorem m_isThing {l : Launch} {D : va_G} {tc tt ad : Nat → Nat} {g : Nat → Int32} {h : Nat → Nat → Int32} {el : Nat → Int64} {u : Nat → Int32} {v : Nat → Nat → Int32} {sf : Nat → Int64} {n : Nat} (hn : g 1 = nI n) (hn8 : n ≤ 8) (t : Int32) : Ct l yX11_isThing cX11_isThing 2 (some .boolean) 2 D tc tt [.ref (ad 0), .int t] (hm ad tc g h el u v sf) (PI fun r w => r = (if bodB n t = true then 1 else 0) ∧ w = hm ad tc g h el u v sf) := by
  refine Ct.of (by decide +kernel) (Nat.le_of_ble_eq_true rfl) ?_
  intro p e R s m args below meth c A C hr hlk
  refine E_iload_n C dX11_isThing_0 1 rfl (E_iconst (v := 0) C dX11_isThing_1 ic_0 (E_aload_n C dX11_isThing_2 0 rfl (mg_11_1 C dX11_isThing_3 f_X11_115 ?_)))
  refine Ev.seti hn ?_
  refine E_iconst (v := 1) C dX11_isThing_6 ic_1 (E_isub C dX11_isThing_7 (E_callSI C dX11_isThing_8 ms_X11_118 _ (m_in t 0 (nI n - 1)) rfl rfl (by decide) (Nat.le_of_ble_eq_true rfl) ?_))
  rintro _ _ ⟨rfl, rfl⟩
  refine E_zretI C hr hlk dX11_isThing_11 (by split <;> rfl) ?_
  exact ⟨by rw [bet_bod (by omega)], rfl⟩
set_option maxRecDepth 100000 in
set_option maxHeartbeats 4000000 in
theorem m_addThing {l : Launch} {D : va_G} {tc tt ad : Nat → Nat} {g : Nat → Int32} {h : Nat → Nat → Int32} {el : Nat → Int64} {u : Nat → Int32} {v : Nat → Nat → Int32} {sf : Nat → Int64} {n : Nat} (hn : g 1 = nI n) (hlt : n < 8) (a b d f : Int32) : Ct l yX11_addThing cX11_addThing 5 (some .int) 1 D tc tt [.ref (ad 0), .int a, .int b, .int d, .int f] (hm ad tc g h el u v sf) (PI fun r w => r = nI n ∧ w = hm ad tc (va_up g 1 (nI (n + 1))) (addH h n a b d f) el u v sf) := by
  refine Ct.of (by decide +kernel) (Nat.le_of_ble_eq_true rfl) ?_
  intro p e R s m args below meth c A C hr hlk
  refine E_aload_n C dX11_addThing_0 0 rfl (mg_11_2 C dX11_addThing_1 f_X11_9 (E_aload_n C dX11_addThing_4 0 rfl (mg_11_1 C dX11_addThing_5 f_X11_115 ?_)))
  refine Ev.seti hn ?_
  refine E_iload_n C dX11_addThing_8 1 rfl (ms_1 C dX11_addThing_9 (vinN (by omega)) ?_)
  rw [nI_clamp (show n < 2 ^ 31 by omega)]
  refine E_aload_n C dX11_addThing_10 0 rfl (mg_11_3 C dX11_addThing_11 f_X11_15 (E_aload_n C dX11_addThing_14 0 rfl (mg_11_1 C dX11_addThing_15 f_X11_115 ?_)))
  refine Ev.seti hn ?_
  refine E_iload_n C dX11_addThing_18 2 rfl (ms_2 C dX11_addThing_19 (vinN (by omega)) ?_)
  rw [nI_clamp (show n < 2 ^ 31 by omega)]
  refine E_aload_n C dX11_addThing_20 0 rfl (mg_11_4 C dX11_addThing_21 f_X11_18 (E_aload_n C dX11_addThing_24 0 rfl (mg_11_1 C dX11_addThing_25 f_X11_115 ?_)))
  refine Ev.seti hn ?_
  refine E_iload_n C dX11_addThing_28 3 rfl (ms_3 C dX11_addThing_29 (vinN (by omega)) ?_)
  rw [nI_clamp (show n < 2 ^ 31 by omega)]
  refine E_aload_n C dX11_addThing_30 0 rfl (mg_11_5 C dX11_addThing_31 f_X11_21 (E_aload_n C dX11_addThing_34 0 rfl (mg_11_1 C dX11_addThing_35 f_X11_115 ?_)))
  refine Ev.seti hn ?_
  refine E_iload C dX11_addThing_38 4 rfl (ms_4 C dX11_addThing_40 (vinN (by omega)) ?_)
  rw [nI_clamp (show n < 2 ^ 31 by omega)]
  refine E_aload_n C dX11_addThing_41 0 rfl (mg_11_6 C dX11_addThing_42 f_X11_24 (E_aload_n C dX11_addThing_45 0 rfl (mg_11_1 C dX11_addThing_46 f_X11_115 ?_)))
  refine Ev.seti hn ?_
  refine E_iconst (v := 0) C dX11_addThing_49 ic_0 (ms_5 C dX11_addThing_50 (vinN (by omega)) ?_)
  rw [nI_clamp (show n < 2 ^ 31 by omega)]
  refine E_aload_n C dX11_addThing_51 0 rfl (E_dup C dX11_addThing_52 rfl (mg_11_1 C dX11_addThing_53 f_X11_115 ?_))
  refine Ev.seti hn ?_
  refine E_iconst (v := 1) C dX11_addThing_56 ic_1 (E_iadd C dX11_addThing_57 ?_)
  refine Ev.seti (nI_1 n) ?_
  refine mp_11_1 C dX11_addThing_58 fw_X11_115 (E_aload_n C dX11_addThing_61 0 rfl (mg_11_1 C dX11_addThing_62 f_X11_115 ?_))
  refine Ev.seti (show _ = nI (n + 1) from rfl) ?_
  refine E_iconst (v := 1) C dX11_addThing_65 ic_1 (E_isub C dX11_addThing_66 ?_)
  refine Ev.seti (show nI (n + 1) - 1 = nI n from pk_sub (a := n + 1) (b := 1) (by omega)) ?_
  refine E_iretI C hr hlk dX11_addThing_67 ?_
  exact ⟨rfl, rfl⟩
set_option maxRecDepth 100000 in
set_option maxHeartbeats 4000000 in
theorem m_isThingSo {l : Launch} {D : va_G} {tc tt : Nat → Nat} {ws : va_W} (a b d : Int32) : Ct l yX11_isThingSo cX11_isThingSo 3 (some .boolean) 2 D tc tt [.int a, .int b, .int d] (ws) (PI fun r w => r = (if mayB 0 a = true ∧ mayB 1 b = true ∧ mayB 2 d = true then 1 else 0) ∧ w = ws) := by
  refine Ct.of (by decide +kernel) (Nat.le_of_ble_eq_true rfl) ?_
  intro p e R s m args below meth c A C hr hlk
  refine E_iload_n C dX11_isThingSo_0 0 rfl (E_iconst (v := 0) C dX11_isThingSo_1 ic_0 (E_iconst (v := 5) C dX11_isThingSo_2 ic_5 (E_callSI C dX11_isThingSo_3 ms_X11_118 _ (m_in a 0 5) rfl rfl (by decide) (Nat.le_of_ble_eq_true rfl) ?_)))
  rintro _ _ ⟨rfl, rfl⟩
  refine E_if_eq C 33 dX11_isThingSo_6 (by decide) (fun c6 => ?_) (fun c6 => ?_)
  ·
    have n0 := ite_0 c6
    refine E_iconst (v := 0) C dX11_isThingSo_33 ic_0 (E_zretI C hr hlk dX11_isThingSo_34 rfl ?_)
    exact ⟨(if_neg fun q => n0 ((may_0 a).symm.trans q.1)).symm, rfl⟩
  ·
    have n0 := ite_1 c6
    refine E_iload_n C dX11_isThingSo_9 1 rfl (E_iconst (v := 0) C dX11_isThingSo_10 ic_0 (E_bipush (v := 12) C dX11_isThingSo_11 bp_12 (E_callSI C dX11_isThingSo_13 ms_X11_118 _ (m_in b 0 12) rfl rfl (by decide) (Nat.le_of_ble_eq_true rfl) ?_)))
    rintro _ _ ⟨rfl, rfl⟩
    refine E_if_eq C 33 dX11_isThingSo_16 (by decide) (fun c16 => ?_) (fun c16 => ?_)
    ·
      have n1 := ite_0 c16
      refine E_iconst (v := 0) C dX11_isThingSo_33 ic_0 (E_zretI C hr hlk dX11_isThingSo_34 rfl ?_)
      exact ⟨(if_neg fun q => n1 ((may_1 b).symm.trans q.2.1)).symm, rfl⟩
    ·
      have n1 := ite_1 c16
      refine E_iload_n C dX11_isThingSo_19 2 rfl (E_iconst (v := 0) C dX11_isThingSo_20 ic_0 (E_bipush (v := 6) C dX11_isThingSo_21 bp_6 (E_callSI C dX11_isThingSo_23 ms_X11_118 _ (m_in d 0 6) rfl rfl (by decide) (Nat.le_of_ble_eq_true rfl) ?_)))
      rintro _ _ ⟨rfl, rfl⟩
      refine E_if_eq C 33 dX11_isThingSo_26 (by decide) (fun c26 => ?_) (fun c26 => ?_)
      ·
        have n2 := ite_0 c26
        refine E_iconst (v := 0) C dX11_isThingSo_33 ic_0 (E_zretI C hr hlk dX11_isThingSo_34 rfl ?_)
        exact ⟨(if_neg fun q => n2 ((may_2 d).symm.trans q.2.2)).symm, rfl⟩
      ·
        have n2 := ite_1 c26
        refine E_iconst (v := 1) C dX11_isThingSo_29 ic_1 (E_goto C 34 dX11_isThingSo_30 (by decide) (E_zretI C hr hlk dX11_isThingSo_34 rfl ?_))
        exact ⟨(if_pos ⟨(may_0 a).trans n0, (may_1 b).trans n1, (may_2 d).trans n2⟩).symm, rfl⟩
set_option maxRecDepth 100000 in
set_option maxHeartbeats 4000000 in
theorem q_thing {l : Launch} {D : va_G} {tc tt ad : Nat → Nat} {S : STT} {w0 : va_W} (hM : MR ad tc S w0) (wc st : Int32) : Ct l yX11_thing cX11_thing 3 (some .int) 4 D tc tt [.ref (ad 0), .int wc, .int st] (w0) (PI fun r w => r = aThing S wc st ∧ MR ad tc (nThing S wc st) w) := by
  obtain ⟨g, h, el, u, v, sf, rfl, M⟩ := hM
  have hA := M.1
  have hn := M.1.1
  have hn8 := M.1.2.1
  refine Ct.of (by decide +kernel) (Nat.le_of_ble_eq_true rfl) ?_
  intro p e R s m args below meth c A C hr hlk
  refine E_iload_n C dX11_thing_0 1 rfl (E_if_lt C 19 dX11_thing_1 (by decide) (fun c1 => ?_) (fun c1 => ?_))
  ·
    refine E_iconst (v := -1) C dX11_thing_19 ic_m1 (E_iretI C hr hlk dX11_thing_20 ?_)
    have hok : ¬ okT wc st = true := fun q => by have q2 := of_decide_eq_true q; exact q2.1 c1
    have hnx : nThing S wc st = S := if_neg (fun q => hok q.1)
    rw [hnx]
    exact ⟨(if_neg hok).symm, ⟨g, h, el, u, v, sf, rfl, M⟩⟩
  ·
    refine E_iload_n C dX11_thing_4 1 rfl (E_bipush (v := 100) C dX11_thing_5 bp_100 (E_idiv C dX11_thing_7 (by decide) (E_iload_n C dX11_thing_8 1 rfl (E_bipush (v := 100) C dX11_thing_9 bp_100 (E_irem C dX11_thing_11 (by decide) ?_)))))
    refine E_iload_n C dX11_thing_12 2 rfl (E_callSI C dX11_thing_13 ms_X11_122 _ (m_isThingSo (wc / 100) (wc - wc / 100 * 100) st) rfl rfl (by decide) (Nat.le_of_ble_eq_true rfl) ?_)
    rintro _ _ ⟨rfl, rfl⟩
    refine E_if_ne C 21 dX11_thing_16 (by decide) (fun c16 => ?_) (fun c16 => ?_)
    ·
      have m3 := ite_1 c16
      have hok : okT wc st = true := decide_eq_true ⟨c1, m3⟩
      have ha : aThing S wc st = _ := if_pos hok
      refine E_aload_n C dX11_thing_21 0 rfl (mg_11_1 C dX11_thing_22 f_X11_115 ?_)
      refine Ev.seti hn ?_
      refine E_bipush (v := 8) C dX11_thing_25 bp_8 (E_icmp_ne C 35 dX11_thing_27 (by decide) (fun c27 => ?_) (fun c27 => ?_))
      ·
        have hlt : S.1.1 < 8 := by
          have q2 : S.1.1 ≠ 8 := fun q => c27 (by rw [q]; rfl)
          omega
        refine E_aload_n C dX11_thing_35 0 rfl (E_iload_n C dX11_thing_36 1 rfl (E_bipush (v := 100) C dX11_thing_37 bp_100 (E_idiv C dX11_thing_39 (by decide) (E_iload_n C dX11_thing_40 1 rfl (E_bipush (v := 100) C dX11_thing_41 bp_100 ?_)))))
        refine E_irem C dX11_thing_43 (by decide) (E_iload_n C dX11_thing_44 2 rfl (E_bipush (v := 10) C dX11_thing_45 bp_10 (E_callVI C dX11_thing_47 mv_X11_125 0 _ (m_addThing hn hlt (wc / 100) (wc - wc / 100 * 100) st 10) rfl rfl rfl (by decide) (Nat.le_of_ble_eq_true rfl) ?_)))
        rintro _ _ ⟨rfl, rfl⟩
        refine E_iretI C hr hlk dX11_thing_50 ?_
        obtain ⟨m0, m1, m2⟩ := m3
        obtain ⟨xa, b1, f1, e1⟩ := may_ex (k := 0) (by decide) m0
        obtain ⟨xb, b2, f2, e2⟩ := may_ex (k := 1) (by decide) m1
        obtain ⟨xc, b3, f3, e3⟩ := may_ex (k := 2) (by decide) m2
        have hnx : nThing S wc st = addS S xa xb xc 10 := (if_pos ⟨hok, hlt⟩).trans (by rw [e2, e1, e3, nI_clamp f1, nI_clamp f2, nI_clamp f3])
        rw [hnx]
        refine ⟨(ha.trans (if_neg (by omega))).symm, ?_⟩
        have hfin := M.add hlt b1 b2 b3 (d := 10) (by decide)
        rw [← e1, ← e2, ← e3] at hfin
        exact ⟨_, _, _, _, _, _, rfl, hfin⟩
      ·
        have h8 : S.1.1 = 8 := (nI_eq (b := 8) (by omega) (by decide)).mp c27
        refine E_bipush (v := -3) C dX11_thing_30 bp_m3 (E_goto C 50 dX11_thing_32 (by decide) (E_iretI C hr hlk dX11_thing_50 ?_))
        have hnx : nThing S wc st = S := if_neg (fun q => by have q2 := q.2; omega)
        rw [hnx]
        exact ⟨(ha.trans (if_pos h8)).symm, ⟨g, h, el, u, v, sf, rfl, M⟩⟩
    ·
      have m3 := ite_0 c16
      refine E_iconst (v := -1) C dX11_thing_19 ic_m1 (E_iretI C hr hlk dX11_thing_20 ?_)
      have hok : ¬ okT wc st = true := fun q => by have q2 := of_decide_eq_true q; exact m3 q2.2
      have hnx : nThing S wc st = S := if_neg (fun q => hok q.1)
      rw [hnx]
      exact ⟨(if_neg hok).symm, ⟨g, h, el, u, v, sf, rfl, M⟩⟩
set_option maxRecDepth 100000 in
set_option maxHeartbeats 4000000 in
theorem m_valueAt {l : Launch} {D : va_G} {tc tt ad : Nat → Nat} {g : Nat → Int32} {h : Nat → Nat → Int32} {el : Nat → Int64} {u : Nat → Int32} {v : Nat → Nat → Int32} {sf : Nat → Int64} (x : Int32) {j : Nat} (h8 : j < 8) (h6 : (x = 5 ∨ x = 6) → j < 6) : Ct l yX11_valueAt cX11_valueAt 3 (some .int) 1 D tc tt [.ref (ad 0), .int x, .int (nI j)] (hm ad tc g h el u v sf) (PI fun r w => r = valF g h x j ∧ w = hm ad tc g h el u v sf) := by
  refine Ct.of (by decide +kernel) (Nat.le_of_ble_eq_true rfl) ?_
  intro p e R s m args below meth c A C hr hlk
  refine E_iload_n C dX11_valueAt_0 1 rfl ?_
  by_cases e1 : x = 0
  ·
    subst e1
    refine E_tableIn C 44 dX11_valueAt_1 (by decide) (by decide) rfl (by decide) (E_aload_n C dX11_valueAt_44 0 rfl (mg_11_2 C dX11_valueAt_45 f_X11_9 (E_iload_n C dX11_valueAt_48 2 rfl (ma_1 C dX11_valueAt_49 (vinN h8) ?_))))
    rw [nI_clamp (show j < 2 ^ 31 by omega)]
    refine E_iretI C hr hlk dX11_valueAt_50 ?_
    exact ⟨(if_pos rfl).symm, rfl⟩
  by_cases e1_2 : x = 1
  ·
    subst e1_2
    refine E_tableIn C 51 dX11_valueAt_1 (by decide) (by decide) rfl (by decide) (E_aload_n C dX11_valueAt_51 0 rfl (mg_11_3 C dX11_valueAt_52 f_X11_15 (E_iload_n C dX11_valueAt_55 2 rfl (ma_2 C dX11_valueAt_56 (vinN h8) ?_))))
    rw [nI_clamp (show j < 2 ^ 31 by omega)]
    refine E_iretI C hr hlk dX11_valueAt_57 ?_
    exact ⟨((if_neg (by decide)).trans (if_pos rfl)).symm, rfl⟩
  by_cases e1_3 : x = 2
  ·
    subst e1_3
    refine E_tableIn C 58 dX11_valueAt_1 (by decide) (by decide) rfl (by decide) (E_aload_n C dX11_valueAt_58 0 rfl (mg_11_4 C dX11_valueAt_59 f_X11_18 (E_iload_n C dX11_valueAt_62 2 rfl (ma_3 C dX11_valueAt_63 (vinN h8) ?_))))
    rw [nI_clamp (show j < 2 ^ 31 by omega)]
    refine E_iretI C hr hlk dX11_valueAt_64 ?_
    exact ⟨((if_neg (by decide)).trans ((if_neg (by decide)).trans (if_pos rfl))).symm, rfl⟩
  by_cases e1_4 : x = 3
  ·
    subst e1_4
    refine E_tableIn C 65 dX11_valueAt_1 (by decide) (by decide) rfl (by decide) (E_aload_n C dX11_valueAt_65 0 rfl (mg_11_5 C dX11_valueAt_66 f_X11_21 (E_iload_n C dX11_valueAt_69 2 rfl (ma_4 C dX11_valueAt_70 (vinN h8) ?_))))
    rw [nI_clamp (show j < 2 ^ 31 by omega)]
    refine E_iretI C hr hlk dX11_valueAt_71 ?_
    exact ⟨((if_neg (by decide)).trans ((if_neg (by decide)).trans ((if_neg (by decide)).trans (if_pos rfl)))).symm, rfl⟩
  by_cases e1_5 : x = 4
  ·
    subst e1_5
    refine E_tableIn C 72 dX11_valueAt_1 (by decide) (by decide) rfl (by decide) (E_aload_n C dX11_valueAt_72 0 rfl (mg_11_6 C dX11_valueAt_73 f_X11_24 (E_iload_n C dX11_valueAt_76 2 rfl (ma_5 C dX11_valueAt_77 (vinN h8) ?_))))
    rw [nI_clamp (show j < 2 ^ 31 by omega)]
    refine E_iretI C hr hlk dX11_valueAt_78 ?_
    exact ⟨((if_neg (by decide)).trans ((if_neg (by decide)).trans ((if_neg (by decide)).trans ((if_neg (by decide)).trans (if_pos rfl))))).symm, rfl⟩
  by_cases e1_6 : x = 5
  ·
    subst e1_6
    refine E_tableIn C 79 dX11_valueAt_1 (by decide) (by decide) rfl (by decide) (E_aload_n C dX11_valueAt_79 0 rfl (mg_11_7 C dX11_valueAt_80 f_X11_27 (E_iload_n C dX11_valueAt_83 2 rfl (ma_6 C dX11_valueAt_84 (vinN (h6 (Or.inl rfl))) ?_))))
    rw [nI_clamp (show j < 2 ^ 31 by omega)]
    refine E_iretI C hr hlk dX11_valueAt_85 ?_
    exact ⟨((if_neg (by decide)).trans ((if_neg (by decide)).trans ((if_neg (by decide)).trans ((if_neg (by decide)).trans ((if_neg (by decide)).trans (if_pos rfl)))))).symm, rfl⟩
  by_cases e1_7 : x = 6
  ·
    subst e1_7
    refine E_tableIn C 86 dX11_valueAt_1 (by decide) (by decide) rfl (by decide) (E_aload_n C dX11_valueAt_86 0 rfl (mg_11_8 C dX11_valueAt_87 f_X11_30 (E_iload_n C dX11_valueAt_90 2 rfl (ma_7 C dX11_valueAt_91 (vinN (h6 (Or.inr rfl))) ?_))))
    rw [nI_clamp (show j < 2 ^ 31 by omega)]
    refine E_iretI C hr hlk dX11_valueAt_92 ?_
    exact ⟨((if_neg (by decide)).trans ((if_neg (by decide)).trans ((if_neg (by decide)).trans ((if_neg (by decide)).trans ((if_neg (by decide)).trans ((if_neg (by decide)).trans (if_pos rfl))))))).symm, rfl⟩
  have oe1 := ntoi (n := 0) rfl e1
  have oe1_2 := ntoi (n := 1) rfl e1_2
  have oe1_3 := ntoi (n := 2) rfl e1_3
  have oe1_4 := ntoi (n := 3) rfl e1_4
  have oe1_5 := ntoi (n := 4) rfl e1_5
  have oe1_6 := ntoi (n := 5) rfl e1_6
  have oe1_7 := ntoi (n := 6) rfl e1_7
  refine E_tableOut C 93 dX11_valueAt_1 (by omega) (by decide) (E_aload_n C dX11_valueAt_93 0 rfl (mg_11_9 C dX11_valueAt_94 f_X11_33 (E_iretI C hr hlk dX11_valueAt_97 ?_)))
  exact ⟨((if_neg e1).trans ((if_neg e1_2).trans ((if_neg e1_3).trans ((if_neg e1_4).trans ((if_neg e1_5).trans ((if_neg e1_6).trans (if_neg e1_7))))))).symm, rfl⟩
set_option maxRecDepth 100000 in
set_option maxHeartbeats 4000000 in
theorem m_lays {l : Launch} {D : va_G} {tc tt ad : Nat → Nat} {g : Nat → Int32} {h : Nat → Nat → Int32} {el : Nat → Int64} {u : Nat → Int32} {v : Nat → Nat → Int32} {sf : Nat → Int64} (x : Int32) {j : Nat} (h8 : j < 8) (h6 : (x = 5 ∨ x = 6) → j < 6) (wv : Int32) : Ct l yX11_lays cX11_lays 4 none 1 D tc tt [.ref (ad 0), .int x, .int (nI j), .int wv] (hm ad tc g h el u v sf) (PV fun w => w = hm ad tc (layG g x wv) (layH h x j wv) el u v sf) := by
  refine Ct.of (by decide +kernel) (Nat.le_of_ble_eq_true rfl) ?_
  intro p e R s m args below meth c A C hr hlk
  refine E_iload_n C dX11_lays_0 1 rfl ?_
  by_cases e1 : x = 0
  ·
    subst e1
    refine E_tableIn C 44 dX11_lays_1 (by decide) (by decide) rfl (by decide) (E_aload_n C dX11_lays_44 0 rfl (mg_11_2 C dX11_lays_45 f_X11_9 (E_iload_n C dX11_lays_48 2 rfl (E_iload_n C dX11_lays_49 3 rfl (ms_1 C dX11_lays_50 (vinN h8) ?_)))))
    rw [nI_clamp (show j < 2 ^ 31 by omega)]
    refine E_goto C 119 dX11_lays_51 (by decide) (E_vretV C hr hlk dX11_lays_119 ?_)
    exact rfl
  by_cases e1_2 : x = 1
  ·
    subst e1_2
    refine E_tableIn C 54 dX11_lays_1 (by decide) (by decide) rfl (by decide) (E_aload_n C dX11_lays_54 0 rfl (mg_11_3 C dX11_lays_55 f_X11_15 (E_iload_n C dX11_lays_58 2 rfl (E_iload_n C dX11_lays_59 3 rfl (ms_2 C dX11_lays_60 (vinN h8) ?_)))))
    rw [nI_clamp (show j < 2 ^ 31 by omega)]
    refine E_goto C 119 dX11_lays_61 (by decide) (E_vretV C hr hlk dX11_lays_119 ?_)
    exact rfl
  by_cases e1_3 : x = 2
  ·
    subst e1_3
    refine E_tableIn C 64 dX11_lays_1 (by decide) (by decide) rfl (by decide) (E_aload_n C dX11_lays_64 0 rfl (mg_11_4 C dX11_lays_65 f_X11_18 (E_iload_n C dX11_lays_68 2 rfl (E_iload_n C dX11_lays_69 3 rfl (ms_3 C dX11_lays_70 (vinN h8) ?_)))))
    rw [nI_clamp (show j < 2 ^ 31 by omega)]
    refine E_goto C 119 dX11_lays_71 (by decide) (E_vretV C hr hlk dX11_lays_119 ?_)
    exact rfl
  by_cases e1_4 : x = 3
  ·
    subst e1_4
    refine E_tableIn C 74 dX11_lays_1 (by decide) (by decide) rfl (by decide) (E_aload_n C dX11_lays_74 0 rfl (mg_11_5 C dX11_lays_75 f_X11_21 (E_iload_n C dX11_lays_78 2 rfl (E_iload_n C dX11_lays_79 3 rfl (ms_4 C dX11_lays_80 (vinN h8) ?_)))))
    rw [nI_clamp (show j < 2 ^ 31 by omega)]
    refine E_goto C 119 dX11_lays_81 (by decide) (E_vretV C hr hlk dX11_lays_119 ?_)
    exact rfl
  by_cases e1_5 : x = 4
  ·
    subst e1_5
    refine E_tableIn C 84 dX11_lays_1 (by decide) (by decide) rfl (by decide) (E_aload_n C dX11_lays_84 0 rfl (mg_11_6 C dX11_lays_85 f_X11_24 (E_iload_n C dX11_lays_88 2 rfl (E_iload_n C dX11_lays_89 3 rfl (ms_5 C dX11_lays_90 (vinN h8) ?_)))))
    rw [nI_clamp (show j < 2 ^ 31 by omega)]
    refine E_goto C 119 dX11_lays_91 (by decide) (E_vretV C hr hlk dX11_lays_119 ?_)
    exact rfl
  by_cases e1_6 : x = 5
  ·
    subst e1_6
    refine E_tableIn C 94 dX11_lays_1 (by decide) (by decide) rfl (by decide) (E_aload_n C dX11_lays_94 0 rfl (mg_11_7 C dX11_lays_95 f_X11_27 (E_iload_n C dX11_lays_98 2 rfl (E_iload_n C dX11_lays_99 3 rfl (ms_6 C dX11_lays_100 (vinN (h6 (Or.inl rfl))) ?_)))))
    rw [nI_clamp (show j < 2 ^ 31 by omega)]
    refine E_goto C 119 dX11_lays_101 (by decide) (E_vretV C hr hlk dX11_lays_119 ?_)
    exact rfl
  by_cases e1_7 : x = 6
  ·
    subst e1_7
    refine E_tableIn C 104 dX11_lays_1 (by decide) (by decide) rfl (by decide) (E_aload_n C dX11_lays_104 0 rfl (mg_11_8 C dX11_lays_105 f_X11_30 (E_iload_n C dX11_lays_108 2 rfl (E_iload_n C dX11_lays_109 3 rfl (ms_7 C dX11_lays_110 (vinN (h6 (Or.inr rfl))) ?_)))))
    rw [nI_clamp (show j < 2 ^ 31 by omega)]
    refine E_goto C 119 dX11_lays_111 (by decide) (E_vretV C hr hlk dX11_lays_119 ?_)
    exact rfl
  have oe1 := ntoi (n := 0) rfl e1
  have oe1_2 := ntoi (n := 1) rfl e1_2
  have oe1_3 := ntoi (n := 2) rfl e1_3
  have oe1_4 := ntoi (n := 3) rfl e1_4
  have oe1_5 := ntoi (n := 4) rfl e1_5
  have oe1_6 := ntoi (n := 5) rfl e1_6
  have oe1_7 := ntoi (n := 6) rfl e1_7
  refine E_tableOut C 114 dX11_lays_1 (by omega) (by decide) (E_aload_n C dX11_lays_114 0 rfl (E_iload_n C dX11_lays_115 3 rfl (mp_11_9 C dX11_lays_116 fw_X11_33 (E_vretV C hr hlk dX11_lays_119 ?_))))
  have eg : layG g x wv = va_up g 9 wv := (if_neg e1).trans ((if_neg e1_2).trans ((if_neg e1_3).trans ((if_neg e1_4).trans ((if_neg e1_5).trans ((if_neg e1_6).trans (if_neg e1_7))))))
  have eh : layH h x j wv = h := (if_neg e1).trans ((if_neg e1_2).trans ((if_neg e1_3).trans ((if_neg e1_4).trans ((if_neg e1_5).trans ((if_neg e1_6).trans (if_neg e1_7))))))
  rw [eg, eh]
set_option maxRecDepth 100000 in
set_option maxHeartbeats 4000000 in
theorem m_isOne {l : Launch} {D : va_G} {tc tt ad : Nat → Nat} {g : Nat → Int32} {h : Nat → Nat → Int32} {el : Nat → Int64} {u : Nat → Int32} {v : Nat → Nat → Int32} {sf : Nat → Int64} {n : Nat} (hn : g 1 = nI n) (hn8 : n ≤ 8) (num what : Int32) : Ct l yX11_isOne cX11_isOne 3 (some .boolean) 3 D tc tt [.ref (ad 0), .int num, .int what] (hm ad tc g h el u v sf) (PI fun r w => r = (if hasB n what num = true then 1 else 0) ∧ w = hm ad tc g h el u v sf) := by
  refine Ct.of (by decide +kernel) (Nat.le_of_ble_eq_true rfl) ?_
  intro p e R s m args below meth c A C hr hlk
  refine E_iload_n C dX11_isOne_0 2 rfl (E_iconst (v := 0) C dX11_isOne_1 ic_0 (E_iconst (v := 4) C dX11_isOne_2 ic_4 (E_callSI C dX11_isOne_3 ms_X11_118 _ (m_in what 0 4) rfl rfl (by decide) (Nat.le_of_ble_eq_true rfl) ?_)))
  rintro _ _ ⟨rfl, rfl⟩
  refine E_if_eq C 15 dX11_isOne_6 (by decide) (fun c6 => ?_) (fun c6 => ?_)
  ·
    have n0 := ite_0 c6
    refine E_iload_n C dX11_isOne_15 2 rfl (E_iconst (v := 5) C dX11_isOne_16 ic_5 (E_icmp_ne C 27 dX11_isOne_17 (by decide) (fun c17 => ?_) (fun c17 => ?_)))
    ·
      refine E_iload_n C dX11_isOne_27 2 rfl (E_bipush (v := 6) C dX11_isOne_28 bp_6 (E_icmp_ne C 40 dX11_isOne_30 (by decide) (fun c30 => ?_) (fun c30 => ?_)))
      ·
        refine E_iload_n C dX11_isOne_40 2 rfl (E_bipush (v := 7) C dX11_isOne_41 bp_7 (E_icmp_ne C 54 dX11_isOne_43 (by decide) (fun c43 => ?_) (fun c43 => ?_)))
        ·
          refine E_iconst (v := 0) C dX11_isOne_54 ic_0 (E_zretI C hr hlk dX11_isOne_55 rfl ?_)
          have e : ¬ hasB n what num = true := by
            have z0 : (0 : Int32).toInt = 0 := rfl
            have z4 : (4 : Int32).toInt = 4 := rfl
            have z5 : (5 : Int32).toInt = 5 := rfl
            have z6 : (6 : Int32).toInt = 6 := rfl
            have z7 : (7 : Int32).toInt = 7 := rfl
            simp only [hasB, decide_eq_true_eq]
            simp only [bet_eq, i32_eq, Int32.le_iff_toInt_le] at *
            omega
          exact ⟨(if_neg e).symm, rfl⟩
        ·
          refine E_iload_n C dX11_isOne_46 1 rfl (E_if_ne C 54 dX11_isOne_47 (by decide) (fun c47 => ?_) (fun c47 => ?_))
          ·
            refine E_iconst (v := 0) C dX11_isOne_54 ic_0 (E_zretI C hr hlk dX11_isOne_55 rfl ?_)
            have e : ¬ hasB n what num = true := by
              have z0 : (0 : Int32).toInt = 0 := rfl
              have z4 : (4 : Int32).toInt = 4 := rfl
              have z5 : (5 : Int32).toInt = 5 := rfl
              have z6 : (6 : Int32).toInt = 6 := rfl
              have z7 : (7 : Int32).toInt = 7 := rfl
              simp only [hasB, decide_eq_true_eq]
              simp only [bet_eq, i32_eq, Int32.le_iff_toInt_le] at *
              omega
            exact ⟨(if_neg e).symm, rfl⟩
          ·
            refine E_iconst (v := 1) C dX11_isOne_50 ic_1 (E_goto C 55 dX11_isOne_51 (by decide) (E_zretI C hr hlk dX11_isOne_55 rfl ?_))
            have e : hasB n what num = true := by
              have z0 : (0 : Int32).toInt = 0 := rfl
              have z4 : (4 : Int32).toInt = 4 := rfl
              have z5 : (5 : Int32).toInt = 5 := rfl
              have z6 : (6 : Int32).toInt = 6 := rfl
              have z7 : (7 : Int32).toInt = 7 := rfl
              simp only [hasB, decide_eq_true_eq]
              simp only [bet_eq, i32_eq, Int32.le_iff_toInt_le] at *
              omega
            exact ⟨(if_pos e).symm, rfl⟩
      ·
        refine E_iload_n C dX11_isOne_33 1 rfl (E_iconst (v := 0) C dX11_isOne_34 ic_0 (E_iconst (v := 5) C dX11_isOne_35 ic_5 (E_callSI C dX11_isOne_36 ms_X11_118 _ (m_in num 0 5) rfl rfl (by decide) (Nat.le_of_ble_eq_true rfl) ?_)))
        rintro _ _ ⟨rfl, rfl⟩
        refine E_zretI C hr hlk dX11_isOne_39 (by split <;> rfl) ?_
        have e : hasB n what num = bet num 0 5 := by
          have z0 : (0 : Int32).toInt = 0 := rfl
          have z4 : (4 : Int32).toInt = 4 := rfl
          have z5 : (5 : Int32).toInt = 5 := rfl
          have z6 : (6 : Int32).toInt = 6 := rfl
          have z7 : (7 : Int32).toInt = 7 := rfl
          refine decide_eq_decide.mpr ?_
          simp only [bet_eq, i32_eq, Int32.le_iff_toInt_le] at *
          omega
        exact ⟨by rw [e], rfl⟩
    ·
      refine E_iload_n C dX11_isOne_20 1 rfl (E_iconst (v := 0) C dX11_isOne_21 ic_0 (E_iconst (v := 5) C dX11_isOne_22 ic_5 (E_callSI C dX11_isOne_23 ms_X11_118 _ (m_in num 0 5) rfl rfl (by decide) (Nat.le_of_ble_eq_true rfl) ?_)))
      rintro _ _ ⟨rfl, rfl⟩
      refine E_zretI C hr hlk dX11_isOne_26 (by split <;> rfl) ?_
      have e : hasB n what num = bet num 0 5 := by
        have z0 : (0 : Int32).toInt = 0 := rfl
        have z4 : (4 : Int32).toInt = 4 := rfl
        have z5 : (5 : Int32).toInt = 5 := rfl
        have z6 : (6 : Int32).toInt = 6 := rfl
        have z7 : (7 : Int32).toInt = 7 := rfl
        refine decide_eq_decide.mpr ?_
        simp only [bet_eq, i32_eq, Int32.le_iff_toInt_le] at *
        omega
      exact ⟨by rw [e], rfl⟩
  ·
    have n0 := ite_1 c6
    refine E_aload_n C dX11_isOne_9 0 rfl (E_iload_n C dX11_isOne_10 1 rfl (E_callVI C dX11_isOne_11 mv_X11_149 0 _ (m_isThing hn hn8 num) rfl rfl rfl (by decide) (Nat.le_of_ble_eq_true rfl) ?_))
    rintro _ _ ⟨rfl, rfl⟩
    refine E_zretI C hr hlk dX11_isOne_14 (by split <;> rfl) ?_
    have e : hasB n what num = bodB n num := by
      have z0 : (0 : Int32).toInt = 0 := rfl
      have z4 : (4 : Int32).toInt = 4 := rfl
      have z5 : (5 : Int32).toInt = 5 := rfl
      have z6 : (6 : Int32).toInt = 6 := rfl
      have z7 : (7 : Int32).toInt = 7 := rfl
      refine decide_eq_decide.mpr ?_
      simp only [bet_eq, i32_eq, Int32.le_iff_toInt_le] at *
      omega
    exact ⟨by rw [e], rfl⟩
set_option maxRecDepth 100000 in
set_option maxHeartbeats 4000000 in
theorem m_mayBe {l : Launch} {D : va_G} {tc tt : Nat → Nat} {ws : va_W} (what vv : Int32) (hw0 : 0 ≤ what) (hw7 : what ≤ 7) : Ct l yX11_mayBe cX11_mayBe 2 (some .boolean) 2 D tc tt [.int what, .int vv] (ws) (PI fun r w => r = (if mayB what vv = true then 1 else 0) ∧ w = ws) := by
  refine Ct.of (by decide +kernel) (Nat.le_of_ble_eq_true rfl) ?_
  intro p e R s m args below meth c A C hr hlk
  refine E_iload_n C dX11_mayBe_0 0 rfl ?_
  by_cases e1 : what = 0
  ·
    subst e1
    refine E_tableIn C 44 dX11_mayBe_1 (by decide) (by decide) rfl (by decide) (E_iload_n C dX11_mayBe_44 1 rfl (E_iconst (v := 0) C dX11_mayBe_45 ic_0 (E_iconst (v := 5) C dX11_mayBe_46 ic_5 (E_callSI C dX11_mayBe_47 ms_X11_118 _ (m_in vv 0 5) rfl rfl (by decide) (Nat.le_of_ble_eq_true rfl) ?_))))
    rintro _ _ ⟨rfl, rfl⟩
    refine E_zretI C hr hlk dX11_mayBe_50 (by split <;> rfl) ?_
    exact ⟨by rw [may_0], rfl⟩
  by_cases e1_2 : what = 1
  ·
    subst e1_2
    refine E_tableIn C 51 dX11_mayBe_1 (by decide) (by decide) rfl (by decide) (E_iload_n C dX11_mayBe_51 1 rfl (E_iconst (v := 0) C dX11_mayBe_52 ic_0 (E_bipush (v := 12) C dX11_mayBe_53 bp_12 (E_callSI C dX11_mayBe_55 ms_X11_118 _ (m_in vv 0 12) rfl rfl (by decide) (Nat.le_of_ble_eq_true rfl) ?_))))
    rintro _ _ ⟨rfl, rfl⟩
    refine E_zretI C hr hlk dX11_mayBe_58 (by split <;> rfl) ?_
    exact ⟨by rw [may_1], rfl⟩
  by_cases e1_3 : what = 2
  ·
    subst e1_3
    refine E_tableIn C 59 dX11_mayBe_1 (by decide) (by decide) rfl (by decide) (E_iload_n C dX11_mayBe_59 1 rfl (E_iconst (v := 0) C dX11_mayBe_60 ic_0 (E_bipush (v := 6) C dX11_mayBe_61 bp_6 (E_callSI C dX11_mayBe_63 ms_X11_118 _ (m_in vv 0 6) rfl rfl (by decide) (Nat.le_of_ble_eq_true rfl) ?_))))
    rintro _ _ ⟨rfl, rfl⟩
    refine E_zretI C hr hlk dX11_mayBe_66 (by split <;> rfl) ?_
    exact ⟨by rw [may_2], rfl⟩
  by_cases e1_4 : what = 3
  ·
    subst e1_4
    refine E_tableIn C 67 dX11_mayBe_1 (by decide) (by decide) rfl (by decide) (E_iload_n C dX11_mayBe_67 1 rfl (E_iconst (v := 0) C dX11_mayBe_68 ic_0 (E_bipush (v := 99) C dX11_mayBe_69 bp_99 (E_callSI C dX11_mayBe_71 ms_X11_118 _ (m_in vv 0 99) rfl rfl (by decide) (Nat.le_of_ble_eq_true rfl) ?_))))
    rintro _ _ ⟨rfl, rfl⟩
    refine E_zretI C hr hlk dX11_mayBe_74 (by split <;> rfl) ?_
    exact ⟨by rw [may_3], rfl⟩
  by_cases e1_5 : what = 4
  ·
    subst e1_5
    refine E_tableIn C 75 dX11_mayBe_1 (by decide) (by decide) rfl (by decide) (E_iload_n C dX11_mayBe_75 1 rfl (E_iconst (v := 0) C dX11_mayBe_76 ic_0 (E_sipush (v := 255) C dX11_mayBe_77 sp_255 (E_callSI C dX11_mayBe_80 ms_X11_118 _ (m_in vv 0 255) rfl rfl (by decide) (Nat.le_of_ble_eq_true rfl) ?_))))
    rintro _ _ ⟨rfl, rfl⟩
    refine E_zretI C hr hlk dX11_mayBe_83 (by split <;> rfl) ?_
    exact ⟨by rw [may_4], rfl⟩
  by_cases e1_6 : what = 5
  ·
    subst e1_6
    refine E_tableIn C 84 dX11_mayBe_1 (by decide) (by decide) rfl (by decide) (E_iload_n C dX11_mayBe_84 1 rfl (E_iconst (v := 1) C dX11_mayBe_85 ic_1 (E_bipush (v := 9) C dX11_mayBe_86 bp_9 (E_callSI C dX11_mayBe_88 ms_X11_118 _ (m_in vv 1 9) rfl rfl (by decide) (Nat.le_of_ble_eq_true rfl) ?_))))
    rintro _ _ ⟨rfl, rfl⟩
    refine E_zretI C hr hlk dX11_mayBe_91 (by split <;> rfl) ?_
    exact ⟨by rw [may_5], rfl⟩
  by_cases e1_7 : what = 6
  ·
    subst e1_7
    refine E_tableIn C 92 dX11_mayBe_1 (by decide) (by decide) rfl (by decide) (E_iload_n C dX11_mayBe_92 1 rfl (E_iconst (v := 1) C dX11_mayBe_93 ic_1 (E_bipush (v := 20) C dX11_mayBe_94 bp_20 (E_callSI C dX11_mayBe_96 ms_X11_118 _ (m_in vv 1 20) rfl rfl (by decide) (Nat.le_of_ble_eq_true rfl) ?_))))
    rintro _ _ ⟨rfl, rfl⟩
    refine E_zretI C hr hlk dX11_mayBe_99 (by split <;> rfl) ?_
    exact ⟨by rw [may_6], rfl⟩
  have oe1 := ntoi (n := 0) rfl e1
  have oe1_2 := ntoi (n := 1) rfl e1_2
  have oe1_3 := ntoi (n := 2) rfl e1_3
  have oe1_4 := ntoi (n := 3) rfl e1_4
  have oe1_5 := ntoi (n := 4) rfl e1_5
  have oe1_6 := ntoi (n := 5) rfl e1_6
  have oe1_7 := ntoi (n := 6) rfl e1_7
  refine E_tableOut C 100 dX11_mayBe_1 (by omega) (by decide) (E_iload_n C dX11_mayBe_100 1 rfl (E_iconst (v := 0) C dX11_mayBe_101 ic_0 (E_bipush (v := 9) C dX11_mayBe_102 bp_9 (E_callSI C dX11_mayBe_104 ms_X11_118 _ (m_in vv 0 9) rfl rfl (by decide) (Nat.le_of_ble_eq_true rfl) ?_))))
  rintro _ _ ⟨rfl, rfl⟩
  refine E_zretI C hr hlk dX11_mayBe_107 (by split <;> rfl) ?_
  obtain rfl : what = 7 := by
    simp only [i32_eq, Int32.le_iff_toInt_le] at *
    have z0 : (0 : Int32).toInt = 0 := rfl
    have z1 : (1 : Int32).toInt = 1 := rfl
    have z2 : (2 : Int32).toInt = 2 := rfl
    have z3 : (3 : Int32).toInt = 3 := rfl
    have z4 : (4 : Int32).toInt = 4 := rfl
    have z5 : (5 : Int32).toInt = 5 := rfl
    have z6 : (6 : Int32).toInt = 6 := rfl
    have z7 : (7 : Int32).toInt = 7 := rfl
    omega
  exact ⟨by rw [may_7], rfl⟩
theorem lim6 {n k j : Nat} (hk : k < 8) (hj : j < lim n k) : (nI k = 5 ∨ nI k = 6) → j < 6 := by
  intro q
  rcases q with q | q
  · obtain rfl : k = 5 := (nI_eq (b := 5) (by omega) (by decide)).mp q
    exact hj
  · obtain rfl : k = 6 := (nI_eq (b := 6) (by omega) (by decide)).mp q
    exact hj
set_option maxRecDepth 100000 in
set_option maxHeartbeats 4000000 in
theorem q_of {l : Launch} {D : va_G} {tc tt ad : Nat → Nat} {S : STT} {w0 : va_W} (hM : MR ad tc S w0) (num what : Int32) : Ct l yX11_of cX11_of 3 (some .int) 4 D tc tt [.ref (ad 0), .int num, .int what] (w0) (PI fun r w => r = aOf S num what ∧ MR ad tc S w) := by
  obtain ⟨g, h, el, u, v, sf, rfl, M⟩ := hM
  have hA := M.1
  have hn := M.1.1
  have hn8 := M.1.2.1
  refine Ct.of (by decide +kernel) (Nat.le_of_ble_eq_true rfl) ?_
  intro p e R s m args below meth c A C hr hlk
  refine E_aload_n C dX11_of_0 0 rfl (E_iload_n C dX11_of_1 1 rfl (E_iload_n C dX11_of_2 2 rfl (E_callVI C dX11_of_3 mv_X11_152 0 _ (m_isOne hn hn8 num what) rfl rfl rfl (by decide) (Nat.le_of_ble_eq_true rfl) ?_)))
  rintro _ _ ⟨rfl, rfl⟩
  refine E_if_eq C 18 dX11_of_6 (by decide) (fun c6 => ?_) (fun c6 => ?_)
  ·
    have n0 := ite_0 c6
    refine E_iconst (v := -1) C dX11_of_18 ic_m1 (E_iretI C hr hlk dX11_of_19 ?_)
    exact ⟨(if_neg n0).symm, ⟨g, h, el, u, v, sf, rfl, M⟩⟩
  ·
    have n0 := ite_1 c6
    obtain ⟨k, j, hk, hj, hj8, hkc, hjc, rfl, rfl⟩ := hasB_ex hn8 n0
    have h6 : (nI k = 5 ∨ nI k = 6) → j < 6 := lim6 hk hj
    refine E_aload_n C dX11_of_9 0 rfl (E_iload_n C dX11_of_10 2 rfl (E_iload_n C dX11_of_11 1 rfl (E_callVI C dX11_of_12 mv_X11_135 0 _ (m_valueAt (nI k) hj8 h6) rfl rfl rfl (by decide) (Nat.le_of_ble_eq_true rfl) ?_)))
    rintro _ _ ⟨rfl, rfl⟩
    refine E_goto C 19 dX11_of_15 (by decide) (E_iretI C hr hlk dX11_of_19 ?_)
    have ha : aOf S (nI j) (nI k) = _ := if_pos n0
    rw [hkc, hjc] at ha
    exact ⟨(valF_N hA hk hj).trans ha.symm, ⟨g, h, el, u, v, sf, rfl, M⟩⟩
