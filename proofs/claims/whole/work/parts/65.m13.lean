/-! the reference: shelves -/
theorem bet_S (x : Int32) : bet x 0 5 = inS x := decide_eq_decide.mpr ⟨fun q => ⟨q.1, Int32.lt_of_le_of_lt q.2 (by decide)⟩, fun q => ⟨q.1, by
  have q2 := q.2
  rw [Int32.lt_iff_toInt_lt] at q2
  rw [Int32.le_iff_toInt_le]
  have z5 : (5 : Int32).toInt = 5 := rfl
  have z6 : (6 : Int32).toInt = 6 := rfl
  omega⟩⟩
theorem MSh.cong {nb b : Nat} {q : SHT} {h h' : Nat → Nat → Int32} {el el' : Nat → Int64} (m : MSh nb q b h el) (h1 : h' 49 b = h 49 b) (h2 : h' 50 b = h 50 b) (he : ∀ i, i < 60 → el' (60 * b + i) = el (60 * b + i)) : MSh nb q b h' el' := by
  obtain ⟨m1, m2, m3, m4⟩ := m
  refine ⟨m1, fun z => h1.trans (m2 z), fun z => ⟨h1.trans (m3 z).1, (m3 z).2⟩, fun z => ?_⟩
  obtain ⟨n1, n2, n3, n4, n5⟩ := m4 z
  exact ⟨h1.trans n1, n2, h2.trans n3, n4, fun j hj => (he j (by omega)).trans (n5 j hj)⟩
theorem MAll.shelf {S : STT} {g : Nat → Int32} {h h' : Nat → Nat → Int32} {el el' : Nat → Int64} (M : MAll S g h el) {b : Nat} {q : SHT} (hh : ∀ k, k ≠ 49 → k ≠ 50 → h' k = h k) (h1 : ∀ j, j ≠ b → h' 49 j = h 49 j) (h2 : ∀ j, j ≠ b → h' 50 j = h 50 j) (he : ∀ j, j ≠ b → ∀ i, i < 60 → el' (60 * j + i) = el (60 * j + i)) (hs : MSh S.2.2.2.2.2.1.1 q b h' el') : MAll (setSh S b q) g h' el' := by
  obtain ⟨m1, m2, m3, m4, m5, m6, m7, m8⟩ := M
  refine ⟨m1.kept rfl rfl (fun k _ k2 => hh k (by omega) (by omega)), m2.kept rfl rfl (fun k _ k2 => hh k (by omega) (by omega)), m3.kept rfl (hh 16 (by decide) (by decide)), m4.kept (hh 42 (by decide) (by decide)), m5.kept rfl (hh 43 (by decide) (by decide)), m6.kept rfl rfl (hh 46 (by decide) (by decide)) (hh 48 (by decide) (by decide)), fun j hj => ?_, m8.kept rfl (fun k _ k2 => hh k (by omega) (by omega))⟩
  show MSh S.2.2.2.2.2.1.1 (if j = b then q else S.2.2.2.2.2.2 j) j h' el'
  by_cases e : j = b
  · subst e
    rw [if_pos rfl]
    exact hs
  · rw [if_neg e]
    exact (m7 j hj).cong (h1 j e) (h2 j e) (he j e)
theorem so5 {so : Nat} (h : so < 5) : (-2 - nI so : Int32) < 0 ∧ (-2 - nI so : Int32) ≠ -1 ∧ ((-2 - nI so : Int32) = -2 ↔ so = 0) ∧ (-2 : Int32) - (-2 - nI so) = nI so := by
  rcases (show so = 0 ∨ so = 1 ∨ so = 2 ∨ so = 3 ∨ so = 4 by omega) with rfl | rfl | rfl | rfl | rfl <;> decide
theorem so5_inj {a b : Nat} (ha : a < 5) (hb : b < 5) (h : (-2 - nI a : Int32) = -2 - nI b) : a = b := by
  have k := congrArg (fun z => (-2 : Int32) - z) h
  have k2 : (-2 : Int32) - (-2 - nI a) = (-2 : Int32) - (-2 - nI b) := k
  rw [(so5 ha).2.2.2, (so5 hb).2.2.2] at k2
  exact (nI_eq (by omega) (by omega)).mp k2
theorem MSh.e0 {nb b : Nat} {q : SHT} {h : Nat → Nat → Int32} {el : Nat → Int64} (hn : nb ≤ 50) (m : MSh nb q b h el) : h 49 b = -1 ↔ q.1 = 0 := by
  obtain ⟨m1, m2, m3, m4⟩ := m
  refine ⟨fun z => ?_, m2⟩
  rcases (show q.1 = 0 ∨ q.1 = 1 ∨ q.1 = 2 by omega) with e | e | e
  · exact e
  · have k := m3 e
    rw [k.1] at z
    exact absurd (show nI q.2.1 < 0 by rw [z]; decide) (nI_pos (by omega))
  · have k := m4 e
    rw [k.1] at z
    exact absurd z (so5 k.2.1).2.1
theorem MSh.e1 {nb b : Nat} {q : SHT} {h : Nat → Nat → Int32} {el : Nat → Int64} (hn : nb ≤ 50) (m : MSh nb q b h el) : ¬ h 49 b < 0 ↔ q.1 = 1 := by
  obtain ⟨m1, m2, m3, m4⟩ := m
  refine ⟨fun z => ?_, fun e => ?_⟩
  · rcases (show q.1 = 0 ∨ q.1 = 1 ∨ q.1 = 2 by omega) with e | e | e
    · exact absurd (by rw [m2 e]; decide) z
    · exact e
    · exact absurd (by rw [(m4 e).1]; exact (so5 (m4 e).2.1).1) z
  · rw [(m3 e).1]
    exact nI_pos (by have := (m3 e).2; omega)
theorem MSh.e2 {nb b : Nat} {q : SHT} {h : Nat → Nat → Int32} {el : Nat → Int64} (hn : nb ≤ 50) (m : MSh nb q b h el) : h 49 b = -2 ↔ (q.1 = 2 ∧ q.2.2.1 = 0) := by
  have a1 := m.e1 hn
  obtain ⟨m1, m2, m3, m4⟩ := m
  refine ⟨fun z => ?_, fun e => ?_⟩
  · rcases (show q.1 = 0 ∨ q.1 = 1 ∨ q.1 = 2 by omega) with e | e | e
    · rw [m2 e] at z; exact absurd z (by decide)
    · exact absurd (by rw [z]; decide) (a1.mpr e)
    · rw [(m4 e).1] at z
      exact ⟨e, (so5 (m4 e).2.1).2.2.1.mp z⟩
  · rw [(m4 e.1).1, e.2]
    decide
theorem bodB_e6 {n : Nat} (hn : n < 1000) {x : Int32} (h : bodB n x = true) : ∃ j : Nat, j < n ∧ (nI j).toNatClampNeg = j ∧ x = nI j := by
  have h' := of_decide_eq_true h
  obtain ⟨j, hj, rfl⟩ := nI_of (x := x) (fun q => by
    rw [Int32.lt_iff_toInt_lt] at q
    have z0 : (0 : Int32).toInt = 0 := rfl
    omega)
  rw [nI_toInt hj] at h'
  exact ⟨j, by omega, nI_clamp hj, rfl⟩
theorem hp_bod {sz : Nat} (hs : sz ≤ 60) (i : Int32) : hpB (nI sz) i 1 = bodB sz i := by
  cases e : bodB sz i with
  | true =>
    obtain ⟨j, hj, -, rfl⟩ := bodB_e6 (by omega) e
    exact hpB_of hs (show j + 1 ≤ sz by omega)
  | false =>
    refine Bool.eq_false_iff.mpr fun q => ?_
    obtain ⟨a, c, h1, rfl, h3⟩ := hpB_ex hs q
    have hc : c = 1 := ((nI_eq (a := 1) (by decide) (by omega)).mp h3).symm
    have k : bodB sz (nI a) = true := by
      refine decide_eq_true ?_
      rw [nI_toInt (by omega)]
      omega
    rw [e] at k
    cases k
theorem updL_at {f : Nat → Int64} {k : Nat} {x : Int64} : vp_updL f k x k = x := if_pos rfl
theorem updL_ne {f : Nat → Int64} {k j : Nat} {x : Int64} (h : j ≠ k) : vp_updL f k x j = f j := if_neg h
theorem shf_gt {sz a b : Nat} (hs : sz ≤ 60) (ha : a < 2 ^ 31) (hb : b < 2 ^ 31) : nI sz - nI b < nI a ↔ sz < a + b := by
  rw [Int32.lt_iff_toInt_lt, Int32.toInt_sub, nI_toInt (by omega), nI_toInt hb, nI_toInt ha, Int.bmod_eq_of_le (by omega) (by omega)]
  omega
set_option maxRecDepth 100000 in
set_option maxHeartbeats 4000000 in
theorem m_isShelf {l : Launch} {D : va_G} {tc tt : Nat → Nat} {ws : va_W} (x : Int32) : Ct l yX11_isShelf cX11_isShelf 1 (some .boolean) 2 D tc tt [.int x] (ws) (PI fun r w => r = (if inS x = true then 1 else 0) ∧ w = ws) := by
  refine Ct.of (by decide +kernel) (Nat.le_of_ble_eq_true rfl) ?_
  intro p e R s m args below meth c A C hr hlk
  refine E_iload_n C dX11_isShelf_0 0 rfl (E_iconst (v := 0) C dX11_isShelf_1 ic_0 (E_iconst (v := 5) C dX11_isShelf_2 ic_5 (E_callSI C dX11_isShelf_3 ms_X11_118 _ (m_in x 0 5) rfl rfl (by decide) (Nat.le_of_ble_eq_true rfl) ?_)))
  rintro _ _ ⟨rfl, rfl⟩
  refine E_zretI C hr hlk dX11_isShelf_6 (by split <;> rfl) ?_
  exact ⟨by rw [bet_S], rfl⟩
set_option maxRecDepth 100000 in
set_option maxHeartbeats 4000000 in
theorem q_keep {l : Launch} {D : va_G} {tc tt ad : Nat → Nat} {S : STT} {w0 : va_W} (hM : MR ad tc S w0) (x0 b0 : Int32) : Ct l yX11_keep cX11_keep 3 (some .int) 3 D tc tt [.ref (ad 0), .int x0, .int b0] (w0) (PI fun r w => r = aKeep S x0 b0 ∧ MR ad tc (nKeep S x0 b0) w) := by
  obtain ⟨g, h, el, u, v, sf, rfl, M⟩ := hM
  have hA := M.1
  have hn := M.1.1
  have hn8 := M.1.2.1
  have m6 := M.2.2.2.2.2.1
  have hnb := m6.2.1
  by_cases hx : inS x0 = true
  ·
    obtain ⟨b, hb6, hbc, rfl⟩ := inS_ex hx
    have hs := M.2.2.2.2.2.2.1 b hb6
    refine Ct.of (by decide +kernel) (Nat.le_of_ble_eq_true rfl) ?_
    intro p e R s m args below meth c A C hr hlk
    refine E_iload_n C dX11_keep_0 1 rfl (E_callSI C dX11_keep_1 ms_X11_129 _ (m_isShelf (nI b)) rfl rfl (by decide) (Nat.le_of_ble_eq_true rfl) ?_)
    rintro _ _ ⟨rfl, rfl⟩
    refine E_if_eq C 20 dX11_keep_4 (by decide) (fun c4 => ?_) (fun c4 => ?_)
    ·
      exact absurd hx (ite_0 c4)
    ·
      refine E_iload_n C dX11_keep_7 2 rfl (E_iconst (v := -1) C dX11_keep_8 ic_m1 (E_icmp_eq C 22 dX11_keep_9 (by decide) (fun c9 => ?_) (fun c9 => ?_)))
      ·
        refine E_aload_n C dX11_keep_22 0 rfl (mg_11_49 C dX11_keep_23 f_X11_99 (E_iload_n C dX11_keep_26 1 rfl (E_iload_n C dX11_keep_27 2 rfl (ms_28 C dX11_keep_28 (vinN (by omega)) ?_))))
        rw [nI_clamp (show b < 2 ^ 31 by omega)]
        refine E_iconst (v := 1) C dX11_keep_29 ic_1 (E_iretI C hr hlk dX11_keep_30 ?_)
        have hok : inS (nI b) = true ∧ (b0 = -1 ∨ bodB S.2.2.2.2.2.1.1 b0 = true) := ⟨hx, Or.inl c9⟩
        have hnx : nKeep S (nI b) b0 = _ := if_pos hok
        rw [hnx, hbc]
        refine ⟨(if_pos hok).symm, ⟨_, _, _, _, _, _, rfl, M.shelf (fun k k9 _ => vun k9) (fun j hj => if_neg hj) (fun _ _ => rfl) (fun _ _ _ _ => rfl) ?_⟩⟩
        rw [if_pos c9]
        exact ⟨Nat.zero_le _, fun _ => (if_pos rfl).trans c9, fun z => (by cases z), fun z => (by cases z)⟩
      ·
        refine E_aload_n C dX11_keep_12 0 rfl (E_iload_n C dX11_keep_13 2 rfl (E_callVI C dX11_keep_14 mv_X11_393 0 _ (m_isBody m6.1 m6.2.1 b0) rfl rfl rfl (by decide) (Nat.le_of_ble_eq_true rfl) ?_))
        rintro _ _ ⟨rfl, rfl⟩
        refine E_if_ne C 22 dX11_keep_17 (by decide) (fun c17 => ?_) (fun c17 => ?_)
        ·
          have n1 := ite_1 c17
          refine E_aload_n C dX11_keep_22 0 rfl (mg_11_49 C dX11_keep_23 f_X11_99 (E_iload_n C dX11_keep_26 1 rfl (E_iload_n C dX11_keep_27 2 rfl (ms_28 C dX11_keep_28 (vinN (by omega)) ?_))))
          rw [nI_clamp (show b < 2 ^ 31 by omega)]
          refine E_iconst (v := 1) C dX11_keep_29 ic_1 (E_iretI C hr hlk dX11_keep_30 ?_)
          have hok : inS (nI b) = true ∧ (b0 = -1 ∨ bodB S.2.2.2.2.2.1.1 b0 = true) := ⟨hx, Or.inr n1⟩
          have hnx : nKeep S (nI b) b0 = _ := if_pos hok
          rw [hnx, hbc]
          refine ⟨(if_pos hok).symm, ⟨_, _, _, _, _, _, rfl, M.shelf (fun k k9 _ => vun k9) (fun j hj => if_neg hj) (fun _ _ => rfl) (fun _ _ _ _ => rfl) ?_⟩⟩
          rw [if_neg c9]
          obtain ⟨j, hj, hjc, rfl⟩ := bodB_ex hnb n1
          exact ⟨(by decide : 1 ≤ 2), fun z => (by cases z), fun _ => ⟨(if_pos rfl).trans (congrArg nI hjc.symm), by rw [hjc]; exact hj⟩, fun z => (by cases z)⟩
        ·
          have n1 := ite_0 c17
          refine E_iconst (v := -1) C dX11_keep_20 ic_m1 (E_iretI C hr hlk dX11_keep_21 ?_)
          have hno : ¬ (inS (nI b) = true ∧ (b0 = -1 ∨ bodB S.2.2.2.2.2.1.1 b0 = true)) := fun q => q.2.elim c9 n1
          have hnx : nKeep S (nI b) b0 = S := if_neg hno
          rw [hnx]
          exact ⟨(if_neg hno).symm, ⟨g, h, el, u, v, sf, rfl, M⟩⟩
  ·
    refine Ct.of (by decide +kernel) (Nat.le_of_ble_eq_true rfl) ?_
    intro p e R s m args below meth c A C hr hlk
    refine E_iload_n C dX11_keep_0 1 rfl (E_callSI C dX11_keep_1 ms_X11_129 _ (m_isShelf x0) rfl rfl (by decide) (Nat.le_of_ble_eq_true rfl) ?_)
    rintro _ _ ⟨rfl, rfl⟩
    refine E_if_eq C 20 dX11_keep_4 (by decide) (fun c4 => ?_) (fun c4 => ?_)
    ·
      refine E_iconst (v := -1) C dX11_keep_20 ic_m1 (E_iretI C hr hlk dX11_keep_21 ?_)
      have hnx : nKeep S x0 b0 = S := if_neg (fun q => hx q.1)
      rw [hnx]
      exact ⟨(if_neg (fun q => hx q.1)).symm, ⟨g, h, el, u, v, sf, rfl, M⟩⟩
    ·
      exact absurd (ite_1 c4) hx
set_option maxRecDepth 100000 in
set_option maxHeartbeats 4000000 in
theorem q_row {l : Launch} {D : va_G} {tc tt ad : Nat → Nat} {S : STT} {w0 : va_W} (hM : MR ad tc S w0) (x0 so n0 : Int32) : Ct l yX11_row cX11_row 5 (some .int) 3 D tc tt [.ref (ad 0), .int x0, .int so, .int n0] (w0) (PI fun r w => r = aRow S x0 so n0 ∧ MR ad tc (nRow S x0 so n0) w) := by
  obtain ⟨g, h, el, u, v, sf, rfl, M⟩ := hM
  have hA := M.1
  have hn := M.1.1
  have hn8 := M.1.2.1
  have m6 := M.2.2.2.2.2.1
  have hnb := m6.2.1
  by_cases hx : inS x0 = true
  ·
    obtain ⟨b, hb6, hbc, rfl⟩ := inS_ex hx
    have hs := M.2.2.2.2.2.2.1 b hb6
    refine Ct.of (by decide +kernel) (Nat.le_of_ble_eq_true rfl) ?_
    intro p e R s m args below meth c A C hr hlk
    refine E_iload_n C dX11_row_0 1 rfl (E_callSI C dX11_row_1 ms_X11_129 _ (m_isShelf (nI b)) rfl rfl (by decide) (Nat.le_of_ble_eq_true rfl) ?_)
    rintro _ _ ⟨rfl, rfl⟩
    refine E_if_eq C 22 dX11_row_4 (by decide) (fun c4 => ?_) (fun c4 => ?_)
    ·
      exact absurd hx (ite_0 c4)
    ·
      refine E_iload_n C dX11_row_7 2 rfl (E_iconst (v := 0) C dX11_row_8 ic_0 (E_iconst (v := 4) C dX11_row_9 ic_4 (E_callSI C dX11_row_10 ms_X11_118 _ (m_in so 0 4) rfl rfl (by decide) (Nat.le_of_ble_eq_true rfl) ?_)))
      rintro _ _ ⟨rfl, rfl⟩
      refine E_if_eq C 22 dX11_row_13 (by decide) (fun c13 => ?_) (fun c13 => ?_)
      ·
        have n1 := ite_0 c13
        refine E_iconst (v := -1) C dX11_row_22 ic_m1 (E_iretI C hr hlk dX11_row_23 ?_)
        have hnx : nRow S (nI b) so n0 = S := if_neg (fun q => n1 (bet_eq.mpr ⟨q.2.1, (by
            have q2 := q.2.2.1
            rw [Int32.lt_iff_toInt_lt] at q2
            rw [Int32.le_iff_toInt_le]
            have z4 : (4 : Int32).toInt = 4 := rfl
            have z5 : (5 : Int32).toInt = 5 := rfl
            omega)⟩))
        rw [hnx]
        exact ⟨(if_neg (fun q => n1 (bet_eq.mpr ⟨q.2.1, (by
            have q2 := q.2.2.1
            rw [Int32.lt_iff_toInt_lt] at q2
            rw [Int32.le_iff_toInt_le]
            have z4 : (4 : Int32).toInt = 4 := rfl
            have z5 : (5 : Int32).toInt = 5 := rfl
            omega)⟩))).symm, ⟨g, h, el, u, v, sf, rfl, M⟩⟩
      ·
        have n1 := ite_1 c13
        refine E_iload_n C dX11_row_16 3 rfl (E_bipush (v := 60) C dX11_row_17 bp_60 (E_icmp_le C 24 dX11_row_19 (by decide) (fun c19 => ?_) (fun c19 => ?_)))
        ·
          have n2 := bet_eq.mp n1
          obtain ⟨sn, hsn, hsc, rfl⟩ := n_of (k := 4) (m := 4) (x := so) rfl (Int32.not_lt.mpr n2.1) n2.2
          have hso := n2.1
          have hs5 : nI sn < 5 := Int32.lt_of_le_of_lt n2.2 (by decide)
          refine E_iload_n C dX11_row_24 3 rfl (E_if_ge C 31 dX11_row_25 (by decide) (fun c25 => ?_) (fun c25 => ?_))
          ·
            obtain ⟨zn, hzn, hzc, rfl⟩ := n_of (k := 60) (m := 60) (x := n0) rfl (Int32.not_lt.mpr c25) c19
            have hz60 := c19
            refine E_aload_n C dX11_row_31 0 rfl (mg_11_49 C dX11_row_32 f_X11_99 (E_iload_n C dX11_row_35 1 rfl (E_bipush (v := -2) C dX11_row_36 bp_m2 (E_iload_n C dX11_row_38 2 rfl (E_isub C dX11_row_39 ?_)))))
            refine ms_28 C dX11_row_40 (vinN (by omega)) ?_
            rw [nI_clamp (show b < 2 ^ 31 by omega)]
            refine E_aload_n C dX11_row_41 0 rfl (mg_11_50 C dX11_row_42 f_X11_102 (E_iload_n C dX11_row_45 1 rfl (E_iload_n C dX11_row_46 3 rfl (ms_29 C dX11_row_47 (vinN (by omega)) ?_))))
            rw [nI_clamp (show b < 2 ^ 31 by omega)]
            refine E_bipush (v := 60) C dX11_row_48 bp_60 (E_iload_n C dX11_row_50 1 rfl (E_imul C dX11_row_51 ?_))
            refine Ev.seti (show (60 : Int32) * nI b = nI (60 * b) from pk_mul 60 b) ?_
            refine E_istore C dX11_row_52 (by decide) ?_
            have K : ∀ (mm i : Nat) (el1 : Nat → Int64), i ≤ 60 → 60 < i + mm → (∀ j, (j < 60 * b ∨ 60 * b + 60 ≤ j) → el1 j = el j) → (∀ j, j < i → el1 (60 * b + j) = 0) → Ev p l e R s m args below meth c 0 0 (EQ below (PI fun r w => r = aRow S (nI b) (nI sn) (nI zn) ∧ MR ad tc (nRow S (nI b) (nI sn) (nI zn)) w) args s D A) D A 5 (hm ad tc g (va_up (va_up h 49 (upd (h 49) b (-2 - nI sn))) 50 (upd (h 50) b (nI zn))) el1 u v sf) 54 [(4, .int (nI (60 * b + i))), (0, .ref (ad 0)), (1, .int (nI b)), (2, .int (nI sn)), (3, .int (nI zn))] [] := by
              intro mm
              induction mm with
              | zero => intro i el1 h1 h2; exfalso; omega
              | succ mm ih =>
                intro i el1 hi1 hi2 ho hz
                refine E_iload C dX11_row_54 0 rfl (E_bipush (v := 60) C dX11_row_56 bp_60 (E_iload_n C dX11_row_58 2 rfl (E_imul C dX11_row_59 ?_)))
                refine Ev.seti (show (60 : Int32) * nI b = nI (60 * b) from pk_mul 60 b) ?_
                refine E_bipush (v := 60) C dX11_row_60 bp_60 (E_iadd C dX11_row_62 ?_)
                refine Ev.seti (nI_add _ 60) ?_
                refine E_icmp_ge C 80 dX11_row_63 (by decide) (fun c63 => ?_) (fun c63 => ?_)
                ·
                  have hi : i = 60 := by
                    rcases Nat.lt_or_ge i 60 with q | q
                    · exact absurd (show nI (60 * b + 60) ≤ nI (60 * b + i) from c63) (nI_ge (by omega) (by omega))
                    · omega
                  subst hi
                  refine E_iconst (v := 1) C dX11_row_80 ic_1 (E_iretI C hr hlk dX11_row_81 ?_)
                  have hok : inS (nI b) = true ∧ 0 ≤ nI sn ∧ nI sn < 5 ∧ nI zn ≤ 60 ∧ 0 ≤ nI zn := ⟨hx, hso, hs5, hz60, nI_pos' (by omega)⟩
                  have hnx : nRow S (nI b) (nI sn) (nI zn) = _ := if_pos hok
                  rw [hbc, nI_clamp (show sn < 2 ^ 31 by omega), nI_clamp (show zn < 2 ^ 31 by omega)] at hnx
                  rw [hnx]
                  have ha : aRow S (nI b) (nI sn) (nI zn) = 1 := (if_pos ⟨hx, hso, hs5, hz60⟩).trans (if_neg (nI_pos (by omega)))
                  refine ⟨ha.symm, ⟨_, _, _, _, _, _, rfl, M.shelf (fun k k9 k0 => (vun k0).trans (vun k9)) (fun j hj => if_neg hj) (fun j hj => if_neg hj) (fun j hj i hi => ho _ (by omega)) ?_⟩⟩
                  exact ⟨(by decide : 2 ≤ 2), fun z => (by cases z), fun z => (by cases z), fun _ => ⟨if_pos rfl, (show sn < 5 by omega), if_pos rfl, (show zn ≤ 60 by omega), fun j hj => hz j (by have hj2 : j < zn := hj; omega)⟩⟩
                ·
                  have hi : i < 60 := by
                    rcases Nat.lt_or_ge i 60 with q | q
                    · exact q
                    · exact absurd (show nI (60 * b + 60) ≤ nI (60 * b + i) from nI_le (by omega) (by omega)) c63
                  refine E_aload_n C dX11_row_66 1 rfl (mg_11_51 C dX11_row_67 f_X11_105 (E_iload C dX11_row_70 0 rfl (E_lconst (v := 0) C dX11_row_72 rfl (ms_30 C dX11_row_73 (vinN (by omega)) ?_))))
                  rw [nI_clamp (show (60 * b + i) < 2 ^ 31 by omega)]
                  refine E_iinc C dX11_row_74 0 rfl (nI_1 _) (by decide) (E_goto C 54 dX11_row_77 (by decide) ?_)
                  exact ih (i + 1) _ (by omega) (by omega) (fun j hj => (updL_ne (by omega)).trans (ho j hj)) (fun j hj => by
                    by_cases e : j = i
                    · rw [e]; exact updL_at
                    · exact (updL_ne (by omega)).trans (hz j (by omega)))
            exact Ev.sub [0, 1, 2, 3, 4] rfl (K 61 0 el (by decide) (by decide) (fun _ _ => rfl) (fun j hj => by omega))
          ·
            have hlt : n0 < 0 := Int32.not_le.mp c25
            refine E_bipush (v := -14) C dX11_row_28 bp_m14 (E_iretI C hr hlk dX11_row_30 ?_)
            have hnx : nRow S (nI b) (nI sn) n0 = S := if_neg (fun q => absurd hlt (Int32.not_lt.mpr q.2.2.2.2))
            rw [hnx]
            exact ⟨((if_pos ⟨hx, hso, hs5, c19⟩).trans (if_pos hlt)).symm, ⟨g, h, el, u, v, sf, rfl, M⟩⟩
        ·
          refine E_iconst (v := -1) C dX11_row_22 ic_m1 (E_iretI C hr hlk dX11_row_23 ?_)
          have hnx : nRow S (nI b) so n0 = S := if_neg (fun q => c19 q.2.2.2.1)
          rw [hnx]
          exact ⟨(if_neg (fun q => c19 q.2.2.2)).symm, ⟨g, h, el, u, v, sf, rfl, M⟩⟩
  ·
    refine Ct.of (by decide +kernel) (Nat.le_of_ble_eq_true rfl) ?_
    intro p e R s m args below meth c A C hr hlk
    refine E_iload_n C dX11_row_0 1 rfl (E_callSI C dX11_row_1 ms_X11_129 _ (m_isShelf x0) rfl rfl (by decide) (Nat.le_of_ble_eq_true rfl) ?_)
    rintro _ _ ⟨rfl, rfl⟩
    refine E_if_eq C 22 dX11_row_4 (by decide) (fun c4 => ?_) (fun c4 => ?_)
    ·
      refine E_iconst (v := -1) C dX11_row_22 ic_m1 (E_iretI C hr hlk dX11_row_23 ?_)
      have hnx : nRow S x0 so n0 = S := if_neg (fun q => hx q.1)
      rw [hnx]
      exact ⟨(if_neg (fun q => hx q.1)).symm, ⟨g, h, el, u, v, sf, rfl, M⟩⟩
    ·
      exact absurd (ite_1 c4) hx
theorem inS_n {b : Nat} (h : b < 6) : inS (nI b) = true := decide_eq_true ⟨nI_pos' (by omega), nI_lt (b := 6) h (by decide)⟩
set_option maxRecDepth 100000 in
set_option maxHeartbeats 4000000 in
theorem m_why {l : Launch} {D : va_G} {tc tt ad : Nat → Nat} {g : Nat → Int32} {h : Nat → Nat → Int32} {el : Nat → Int64} {u : Nat → Int32} {v : Nat → Nat → Int32} {sf : Nat → Int64} {nb b : Nat} {q : SHT} (hs : MSh nb q b h el) (hb6 : b < 6) (hnb : nb ≤ 50) (i0 : Int32) : Ct l yX11_whyNoPlace cX11_whyNoPlace 3 (some .int) 3 D tc tt [.ref (ad 0), .int (nI b), .int i0] (hm ad tc g h el u v sf) (PI fun r w => r = rfPn q i0 ∧ w = hm ad tc g h el u v sf) := by
  refine Ct.of (by decide +kernel) (Nat.le_of_ble_eq_true rfl) ?_
  intro p e R s m args below meth c A C hr hlk
  refine E_iload_n C dX11_whyNoPlace_0 1 rfl (E_callSI C dX11_whyNoPlace_1 ms_X11_129 _ (m_isShelf (nI b)) rfl rfl (by decide) (Nat.le_of_ble_eq_true rfl) ?_)
  rintro _ _ ⟨rfl, rfl⟩
  refine E_if_ne C 9 dX11_whyNoPlace_4 (by decide) (fun c4 => ?_) (fun c4 => ?_)
  ·
    refine E_aload_n C dX11_whyNoPlace_9 0 rfl (mg_11_49 C dX11_whyNoPlace_10 f_X11_99 (E_iload_n C dX11_whyNoPlace_13 1 rfl (ma_28 C dX11_whyNoPlace_14 (vinN (by omega)) ?_)))
    rw [nI_clamp (show b < 2 ^ 31 by omega)]
    refine E_iconst (v := -1) C dX11_whyNoPlace_15 ic_m1 (E_icmp_ne C 22 dX11_whyNoPlace_16 (by decide) (fun c16 => ?_) (fun c16 => ?_))
    ·
      have z0 : ¬ q.1 = 0 := fun z => c16 ((hs.e0 hnb).mpr z)
      refine E_aload_n C dX11_whyNoPlace_22 0 rfl (mg_11_49 C dX11_whyNoPlace_23 f_X11_99 (E_iload_n C dX11_whyNoPlace_26 1 rfl (ma_28 C dX11_whyNoPlace_27 (vinN (by omega)) ?_)))
      rw [nI_clamp (show b < 2 ^ 31 by omega)]
      refine E_if_lt C 34 dX11_whyNoPlace_28 (by decide) (fun c28 => ?_) (fun c28 => ?_)
      ·
        have z1 : q.1 = 2 := by
          have k : ¬ q.1 = 1 := fun z => (hs.e1 hnb).mpr z c28
          have := hs.1
          omega
        obtain ⟨r1, r2, r3, r4, r5⟩ := hs.2.2.2 z1
        have hv : rfPn q i0 = (if hpB (nI q.2.2.2.1) i0 1 = true then 0 else -13) := (if_neg z0).trans (if_pos z1)
        rw [hp_bod r4] at hv
        refine E_iload_n C dX11_whyNoPlace_34 2 rfl (E_iconst (v := 0) C dX11_whyNoPlace_35 ic_0 (E_aload_n C dX11_whyNoPlace_36 0 rfl (mg_11_50 C dX11_whyNoPlace_37 f_X11_102 (E_iload_n C dX11_whyNoPlace_40 1 rfl (ma_29 C dX11_whyNoPlace_41 (vinN (by omega)) ?_)))))
        rw [nI_clamp (show b < 2 ^ 31 by omega)]
        refine Ev.seti r3 ?_
        refine E_iconst (v := 1) C dX11_whyNoPlace_42 ic_1 (E_isub C dX11_whyNoPlace_43 (E_callSI C dX11_whyNoPlace_44 ms_X11_118 _ (m_in i0 0 (nI q.2.2.2.1 - 1)) rfl rfl (by decide) (Nat.le_of_ble_eq_true rfl) ?_))
        rintro _ _ ⟨rfl, rfl⟩
        rw [bet_bod (by omega)]
        refine E_if_eq C 54 dX11_whyNoPlace_47 (by decide) (fun c47 => ?_) (fun c47 => ?_)
        ·
          have n0 := ite_0 c47
          refine E_bipush (v := -13) C dX11_whyNoPlace_54 bp_m13 (E_iretI C hr hlk dX11_whyNoPlace_56 ?_)
          exact ⟨(hv.trans (if_neg n0)).symm, rfl⟩
        ·
          have n0 := ite_1 c47
          refine E_iconst (v := 0) C dX11_whyNoPlace_50 ic_0 (E_goto C 56 dX11_whyNoPlace_51 (by decide) (E_iretI C hr hlk dX11_whyNoPlace_56 ?_))
          exact ⟨(hv.trans (if_pos n0)).symm, rfl⟩
      ·
        have z1 : q.1 = 1 := (hs.e1 hnb).mp c28
        refine E_bipush (v := -12) C dX11_whyNoPlace_31 bp_m12 (E_iretI C hr hlk dX11_whyNoPlace_33 ?_)
        exact ⟨((if_neg z0).trans (if_neg (by omega))).symm, rfl⟩
    ·
      have z0 := (hs.e0 hnb).mp c16
      refine E_bipush (v := -11) C dX11_whyNoPlace_19 bp_m11 (E_iretI C hr hlk dX11_whyNoPlace_21 ?_)
      exact ⟨(if_pos z0).symm, rfl⟩
  ·
    exact absurd (inS_n hb6) (ite_0 c4)
set_option maxRecDepth 100000 in
set_option maxHeartbeats 4000000 in
theorem m_whyN {l : Launch} {D : va_G} {tc tt ad : Nat → Nat} {g : Nat → Int32} {h : Nat → Nat → Int32} {el : Nat → Int64} {u : Nat → Int32} {v : Nat → Nat → Int32} {sf : Nat → Int64} {x0 : Int32} (hx : ¬ inS x0 = true) (i0 : Int32) : Ct l yX11_whyNoPlace cX11_whyNoPlace 3 (some .int) 3 D tc tt [.ref (ad 0), .int x0, .int i0] (hm ad tc g h el u v sf) (PI fun r w => r = -1 ∧ w = hm ad tc g h el u v sf) := by
  refine Ct.of (by decide +kernel) (Nat.le_of_ble_eq_true rfl) ?_
  intro p e R s m args below meth c A C hr hlk
  refine E_iload_n C dX11_whyNoPlace_0 1 rfl (E_callSI C dX11_whyNoPlace_1 ms_X11_129 _ (m_isShelf x0) rfl rfl (by decide) (Nat.le_of_ble_eq_true rfl) ?_)
  rintro _ _ ⟨rfl, rfl⟩
  refine E_if_ne C 9 dX11_whyNoPlace_4 (by decide) (fun c4 => ?_) (fun c4 => ?_)
  ·
    exact absurd (ite_1 c4) hx
  ·
    refine E_iconst (v := -1) C dX11_whyNoPlace_7 ic_m1 (E_iretI C hr hlk dX11_whyNoPlace_8 ?_)
    exact ⟨rfl, rfl⟩
theorem rfPn_neg {q : SHT} {i : Int32} : rfPn q i < 0 ↔ ¬ rfPn q i = 0 := by
  unfold rfPn
  repeat' split
  all_goals decide
set_option maxRecDepth 100000 in
set_option maxHeartbeats 4000000 in
theorem q_element {l : Launch} {D : va_G} {tc tt ad : Nat → Nat} {S : STT} {w0 : va_W} (hM : MR ad tc S w0) (x0 i0 : Int32) : Ct l yX11_element cX11_element 3 (some .long) 4 D tc tt [.ref (ad 0), .int x0, .int i0] (w0) (PL fun r w => r = aElem S x0 i0 ∧ MR ad tc S w) := by
  obtain ⟨g, h, el, u, v, sf, rfl, M⟩ := hM
  have hA := M.1
  have hn := M.1.1
  have hn8 := M.1.2.1
  have m6 := M.2.2.2.2.2.1
  have hnb := m6.2.1
  by_cases hx : inS x0 = true
  ·
    obtain ⟨b, hb6, hbc, rfl⟩ := inS_ex hx
    have hs := M.2.2.2.2.2.2.1 b hb6
    refine Ct.of (by decide +kernel) (Nat.le_of_ble_eq_true rfl) ?_
    intro p e R s m args below meth c A C hr hlk
    refine E_aload_n C dX11_element_0 0 rfl (E_iload_n C dX11_element_1 1 rfl (E_iload_n C dX11_element_2 2 rfl (E_callVI C dX11_element_3 mv_X11_399 0 _ (m_why hs hb6 hnb i0) rfl rfl rfl (by decide) (Nat.le_of_ble_eq_true rfl) ?_)))
    rintro _ _ ⟨rfl, rfl⟩
    refine E_if_ge C 15 dX11_element_6 (by decide) (fun c6 => ?_) (fun c6 => ?_)
    ·
      have z := Classical.byContradiction fun z => (fun w => absurd w (Int32.not_lt.mpr c6)) (rfPn_neg.mpr z)
      obtain ⟨z1, z2⟩ := rfPn_0 z
      obtain ⟨r1, r2, r3, r4, r5⟩ := hs.2.2.2 z1
      rw [hp_bod r4] at z2
      obtain ⟨jn, hjl, hjc, rfl⟩ := bodB_e6 (by omega) z2
      refine E_aload_n C dX11_element_15 0 rfl (mg_11_51 C dX11_element_16 f_X11_105 (E_bipush (v := 60) C dX11_element_19 bp_60 (E_iload_n C dX11_element_21 1 rfl (E_imul C dX11_element_22 ?_))))
      refine Ev.seti (show (60 : Int32) * nI b = nI (60 * b) from pk_mul 60 b) ?_
      refine E_iload_n C dX11_element_23 2 rfl (E_iadd C dX11_element_24 ?_)
      refine Ev.seti (nI_add _ _) ?_
      refine ma_30 C dX11_element_25 (vinN (by omega)) ?_
      rw [nI_clamp (show (60 * b + jn) < 2 ^ 31 by omega)]
      refine E_lretL C hr hlk dX11_element_26 ?_
      have ha : aElem S (nI b) (nI jn) = _ := if_pos ⟨hx, by rw [hbc]; exact z⟩
      rw [hbc, hjc] at ha
      exact ⟨(r5 jn hjl).trans ha.symm, ⟨g, h, el, u, v, sf, rfl, M⟩⟩
    ·
      refine E_ldc2 C k_X11_302 dX11_element_9 (E_goto C 26 dX11_element_12 (by decide) (E_lretL C hr hlk dX11_element_26 ?_))
      exact ⟨(if_neg (fun q => by rw [hbc] at q; exact c6 (by rw [q.2]; decide))).symm, ⟨g, h, el, u, v, sf, rfl, M⟩⟩
  ·
    refine Ct.of (by decide +kernel) (Nat.le_of_ble_eq_true rfl) ?_
    intro p e R s m args below meth c A C hr hlk
    refine E_aload_n C dX11_element_0 0 rfl (E_iload_n C dX11_element_1 1 rfl (E_iload_n C dX11_element_2 2 rfl (E_callVI C dX11_element_3 mv_X11_399 0 _ (m_whyN hx i0) rfl rfl rfl (by decide) (Nat.le_of_ble_eq_true rfl) ?_)))
    rintro _ _ ⟨rfl, rfl⟩
    refine E_if_ge C 15 dX11_element_6 (by decide) (fun c6 => ?_) (fun c6 => ?_)
    ·
      exact absurd c6 (by decide)
    ·
      refine E_ldc2 C k_X11_302 dX11_element_9 (E_goto C 26 dX11_element_12 (by decide) (E_lretL C hr hlk dX11_element_26 ?_))
      exact ⟨(if_neg (fun q => hx q.1)).symm, ⟨g, h, el, u, v, sf, rfl, M⟩⟩
set_option maxRecDepth 100000 in
set_option maxHeartbeats 4000000 in
theorem q_put {l : Launch} {D : va_G} {tc tt ad : Nat → Nat} {S : STT} {w0 : va_W} (hM : MR ad tc S w0) (x0 i0 : Int32) (v0 : Int64) : Ct l yX11_put cX11_put 7 (some .int) 4 D tc tt [.ref (ad 0), .int x0, .int i0, .long v0] (w0) (PI fun r w => r = aPut S x0 i0 ∧ MR ad tc (nPut S x0 i0 v0) w) := by
  obtain ⟨g, h, el, u, v, sf, rfl, M⟩ := hM
  have hA := M.1
  have hn := M.1.1
  have hn8 := M.1.2.1
  have m6 := M.2.2.2.2.2.1
  have hnb := m6.2.1
  by_cases hx : inS x0 = true
  ·
    obtain ⟨b, hb6, hbc, rfl⟩ := inS_ex hx
    have hs := M.2.2.2.2.2.2.1 b hb6
    refine Ct.of (by decide +kernel) (Nat.le_of_ble_eq_true rfl) ?_
    intro p e R s m args below meth c A C hr hlk
    refine E_aload_n C dX11_put_0 0 rfl (E_iload_n C dX11_put_1 1 rfl (E_iload_n C dX11_put_2 2 rfl (E_callVI C dX11_put_3 mv_X11_399 0 _ (m_why hs hb6 hnb i0) rfl rfl rfl (by decide) (Nat.le_of_ble_eq_true rfl) ?_)))
    rintro _ _ ⟨rfl, rfl⟩
    refine E_istore C dX11_put_6 (by decide) (E_iload C dX11_put_8 0 rfl (E_if_ge C 16 dX11_put_10 (by decide) (fun c10 => ?_) (fun c10 => ?_)))
    ·
      have z := Classical.byContradiction fun z => (fun w => absurd w (Int32.not_lt.mpr c10)) (rfPn_neg.mpr z)
      obtain ⟨z1, z2⟩ := rfPn_0 z
      obtain ⟨r1, r2, r3, r4, r5⟩ := hs.2.2.2 z1
      rw [hp_bod r4] at z2
      obtain ⟨jn, hjl, hjc, rfl⟩ := bodB_e6 (by omega) z2
      refine E_bipush (v := -2) C dX11_put_16 bp_m2 (E_aload_n C dX11_put_18 1 rfl (mg_11_49 C dX11_put_19 f_X11_99 (E_iload_n C dX11_put_22 2 rfl (ma_28 C dX11_put_23 (vinN (by omega)) ?_))))
      rw [nI_clamp (show b < 2 ^ 31 by omega)]
      refine Ev.seti r1 ?_
      refine E_isub C dX11_put_24 ?_
      refine Ev.seti (so5 r2).2.2.2 ?_
      refine E_istore C dX11_put_25 (by decide) (E_aload_n C dX11_put_27 2 rfl (mg_11_51 C dX11_put_28 f_X11_105 (E_bipush (v := 60) C dX11_put_31 bp_60 (E_iload_n C dX11_put_33 3 rfl (E_imul C dX11_put_34 ?_)))))
      refine Ev.seti (show (60 : Int32) * nI b = nI (60 * b) from pk_mul 60 b) ?_
      refine E_iload_n C dX11_put_35 4 rfl (E_iadd C dX11_put_36 ?_)
      refine Ev.seti (nI_add _ _) ?_
      refine E_iload C dX11_put_37 0 rfl (E_if_ne C 49 dX11_put_39 (by decide) (fun c39 => ?_) (fun c39 => ?_))
      ·
        refine E_iload C dX11_put_49 0 rfl (E_iconst (v := 1) C dX11_put_51 ic_1 (E_icmp_ne C 62 dX11_put_52 (by decide) (fun c52 => ?_) (fun c52 => ?_)))
        ·
          refine E_iload C dX11_put_62 0 rfl (E_iconst (v := 2) C dX11_put_64 ic_2 (E_icmp_ne C 74 dX11_put_65 (by decide) (fun c65 => ?_) (fun c65 => ?_)))
          ·
            refine E_iload C dX11_put_74 0 rfl (E_iconst (v := 3) C dX11_put_76 ic_3 (E_icmp_ne C 84 dX11_put_77 (by decide) (fun c77 => ?_) (fun c77 => ?_)))
            ·
              refine E_lload_n C dX11_put_84 5 rfl (E_lconst (v := 0) C dX11_put_85 rfl (E_lcmp C dX11_put_86 (E_if_eq C 94 dX11_put_87 (by decide) (fun c87 => ?_) (fun c87 => ?_))))
              ·
                have hv0 := lg_cmp0.mp c87
                refine E_lconst (v := 0) C dX11_put_94 rfl ?_
                refine Ev.setl (show _ = lbF (nI (S.2.2.2.2.2.2 b).2.2.1) v0 from (((if_neg c39).trans ((if_neg c52).trans ((if_neg c65).trans ((if_neg c77).trans (if_pos hv0)))))).symm) ?_
                refine ms_30 C dX11_put_95 (vinN (by omega)) ?_
                rw [nI_clamp (show (60 * b + jn) < 2 ^ 31 by omega)]
                refine E_iconst (v := 1) C dX11_put_96 ic_1 (E_iretI C hr hlk dX11_put_97 ?_)
                have hok : inS (nI b) = true ∧ rfPn (S.2.2.2.2.2.2 (nI b).toNatClampNeg) (nI jn) = 0 := ⟨hx, by rw [hbc]; exact z⟩
                have hnx : nPut S (nI b) (nI jn) v0 = _ := if_pos hok
                rw [hbc, hjc] at hnx
                rw [hnx]
                have ha : aPut S (nI b) (nI jn) = _ := if_pos hx
                rw [hbc] at ha
                refine ⟨(ha.trans (if_pos z)).symm, ⟨_, _, _, _, _, _, rfl, M.shelf (fun _ _ _ => rfl) (fun _ _ => rfl) (fun _ _ => rfl) (fun j hj i hi => updL_ne (by omega)) ?_⟩⟩
                refine ⟨hs.1, hs.2.1, hs.2.2.1, fun _ => ⟨r1, r2, r3, r4, fun j hj => ?_⟩⟩
                show vp_updL el (60 * b + jn) _ (60 * b + j) = vp_updL (S.2.2.2.2.2.2 b).2.2.2.2 jn _ j
                by_cases e : j = jn
                · rw [e, updL_at, updL_at]
                · rw [updL_ne e, updL_ne (by omega)]
                  exact r5 j hj
              ·
                have hv0 : ¬ v0 = 0 := fun q => c87 (lg_cmp0.mpr q)
                refine E_lconst (v := 1) C dX11_put_90 rfl (E_goto C 95 dX11_put_91 (by decide) ?_)
                refine Ev.setl (show _ = lbF (nI (S.2.2.2.2.2.2 b).2.2.1) v0 from (((if_neg c39).trans ((if_neg c52).trans ((if_neg c65).trans ((if_neg c77).trans (if_neg hv0)))))).symm) ?_
                refine ms_30 C dX11_put_95 (vinN (by omega)) ?_
                rw [nI_clamp (show (60 * b + jn) < 2 ^ 31 by omega)]
                refine E_iconst (v := 1) C dX11_put_96 ic_1 (E_iretI C hr hlk dX11_put_97 ?_)
                have hok : inS (nI b) = true ∧ rfPn (S.2.2.2.2.2.2 (nI b).toNatClampNeg) (nI jn) = 0 := ⟨hx, by rw [hbc]; exact z⟩
                have hnx : nPut S (nI b) (nI jn) v0 = _ := if_pos hok
                rw [hbc, hjc] at hnx
                rw [hnx]
                have ha : aPut S (nI b) (nI jn) = _ := if_pos hx
                rw [hbc] at ha
                refine ⟨(ha.trans (if_pos z)).symm, ⟨_, _, _, _, _, _, rfl, M.shelf (fun _ _ _ => rfl) (fun _ _ => rfl) (fun _ _ => rfl) (fun j hj i hi => updL_ne (by omega)) ?_⟩⟩
                refine ⟨hs.1, hs.2.1, hs.2.2.1, fun _ => ⟨r1, r2, r3, r4, fun j hj => ?_⟩⟩
                show vp_updL el (60 * b + jn) _ (60 * b + j) = vp_updL (S.2.2.2.2.2.2 b).2.2.2.2 jn _ j
                by_cases e : j = jn
                · rw [e, updL_at, updL_at]
                · rw [updL_ne e, updL_ne (by omega)]
                  exact r5 j hj
            ·
              refine E_lload_n C dX11_put_80 5 rfl (E_goto C 95 dX11_put_81 (by decide) ?_)
              refine Ev.setl (show _ = lbF (nI (S.2.2.2.2.2.2 b).2.2.1) v0 from (((if_neg c39).trans ((if_neg c52).trans ((if_neg c65).trans (if_pos c77))))).symm) ?_
              refine ms_30 C dX11_put_95 (vinN (by omega)) ?_
              rw [nI_clamp (show (60 * b + jn) < 2 ^ 31 by omega)]
              refine E_iconst (v := 1) C dX11_put_96 ic_1 (E_iretI C hr hlk dX11_put_97 ?_)
              have hok : inS (nI b) = true ∧ rfPn (S.2.2.2.2.2.2 (nI b).toNatClampNeg) (nI jn) = 0 := ⟨hx, by rw [hbc]; exact z⟩
              have hnx : nPut S (nI b) (nI jn) v0 = _ := if_pos hok
              rw [hbc, hjc] at hnx
              rw [hnx]
              have ha : aPut S (nI b) (nI jn) = _ := if_pos hx
              rw [hbc] at ha
              refine ⟨(ha.trans (if_pos z)).symm, ⟨_, _, _, _, _, _, rfl, M.shelf (fun _ _ _ => rfl) (fun _ _ => rfl) (fun _ _ => rfl) (fun j hj i hi => updL_ne (by omega)) ?_⟩⟩
              refine ⟨hs.1, hs.2.1, hs.2.2.1, fun _ => ⟨r1, r2, r3, r4, fun j hj => ?_⟩⟩
              show vp_updL el (60 * b + jn) _ (60 * b + j) = vp_updL (S.2.2.2.2.2.2 b).2.2.2.2 jn _ j
              by_cases e : j = jn
              · rw [e, updL_at, updL_at]
              · rw [updL_ne e, updL_ne (by omega)]
                exact r5 j hj
          ·
            refine E_lload_n C dX11_put_68 5 rfl (E_l2i C dX11_put_69 (E_i2l C dX11_put_70 (E_goto C 95 dX11_put_71 (by decide) ?_)))
            refine Ev.setl (show _ = lbF (nI (S.2.2.2.2.2.2 b).2.2.1) v0 from (((if_neg c39).trans ((if_neg c52).trans (if_pos c65)))).symm) ?_
            refine ms_30 C dX11_put_95 (vinN (by omega)) ?_
            rw [nI_clamp (show (60 * b + jn) < 2 ^ 31 by omega)]
            refine E_iconst (v := 1) C dX11_put_96 ic_1 (E_iretI C hr hlk dX11_put_97 ?_)
            have hok : inS (nI b) = true ∧ rfPn (S.2.2.2.2.2.2 (nI b).toNatClampNeg) (nI jn) = 0 := ⟨hx, by rw [hbc]; exact z⟩
            have hnx : nPut S (nI b) (nI jn) v0 = _ := if_pos hok
            rw [hbc, hjc] at hnx
            rw [hnx]
            have ha : aPut S (nI b) (nI jn) = _ := if_pos hx
            rw [hbc] at ha
            refine ⟨(ha.trans (if_pos z)).symm, ⟨_, _, _, _, _, _, rfl, M.shelf (fun _ _ _ => rfl) (fun _ _ => rfl) (fun _ _ => rfl) (fun j hj i hi => updL_ne (by omega)) ?_⟩⟩
            refine ⟨hs.1, hs.2.1, hs.2.2.1, fun _ => ⟨r1, r2, r3, r4, fun j hj => ?_⟩⟩
            show vp_updL el (60 * b + jn) _ (60 * b + j) = vp_updL (S.2.2.2.2.2.2 b).2.2.2.2 jn _ j
            by_cases e : j = jn
            · rw [e, updL_at, updL_at]
            · rw [updL_ne e, updL_ne (by omega)]
              exact r5 j hj
        ·
          refine E_lload_n C dX11_put_55 5 rfl (E_l2i C dX11_put_56 (E_i2s C dX11_put_57 (E_i2l C dX11_put_58 (E_goto C 95 dX11_put_59 (by decide) ?_))))
          refine Ev.setl (show _ = lbF (nI (S.2.2.2.2.2.2 b).2.2.1) v0 from (((if_neg c39).trans (if_pos c52))).symm) ?_
          refine ms_30 C dX11_put_95 (vinN (by omega)) ?_
          rw [nI_clamp (show (60 * b + jn) < 2 ^ 31 by omega)]
          refine E_iconst (v := 1) C dX11_put_96 ic_1 (E_iretI C hr hlk dX11_put_97 ?_)
          have hok : inS (nI b) = true ∧ rfPn (S.2.2.2.2.2.2 (nI b).toNatClampNeg) (nI jn) = 0 := ⟨hx, by rw [hbc]; exact z⟩
          have hnx : nPut S (nI b) (nI jn) v0 = _ := if_pos hok
          rw [hbc, hjc] at hnx
          rw [hnx]
          have ha : aPut S (nI b) (nI jn) = _ := if_pos hx
          rw [hbc] at ha
          refine ⟨(ha.trans (if_pos z)).symm, ⟨_, _, _, _, _, _, rfl, M.shelf (fun _ _ _ => rfl) (fun _ _ => rfl) (fun _ _ => rfl) (fun j hj i hi => updL_ne (by omega)) ?_⟩⟩
          refine ⟨hs.1, hs.2.1, hs.2.2.1, fun _ => ⟨r1, r2, r3, r4, fun j hj => ?_⟩⟩
          show vp_updL el (60 * b + jn) _ (60 * b + j) = vp_updL (S.2.2.2.2.2.2 b).2.2.2.2 jn _ j
          by_cases e : j = jn
          · rw [e, updL_at, updL_at]
          · rw [updL_ne e, updL_ne (by omega)]
            exact r5 j hj
      ·
        refine E_lload_n C dX11_put_42 5 rfl (E_l2i C dX11_put_43 (E_i2b C dX11_put_44 (E_i2l C dX11_put_45 (E_goto C 95 dX11_put_46 (by decide) ?_))))
        refine Ev.setl (show _ = lbF (nI (S.2.2.2.2.2.2 b).2.2.1) v0 from ((if_pos c39)).symm) ?_
        refine ms_30 C dX11_put_95 (vinN (by omega)) ?_
        rw [nI_clamp (show (60 * b + jn) < 2 ^ 31 by omega)]
        refine E_iconst (v := 1) C dX11_put_96 ic_1 (E_iretI C hr hlk dX11_put_97 ?_)
        have hok : inS (nI b) = true ∧ rfPn (S.2.2.2.2.2.2 (nI b).toNatClampNeg) (nI jn) = 0 := ⟨hx, by rw [hbc]; exact z⟩
        have hnx : nPut S (nI b) (nI jn) v0 = _ := if_pos hok
        rw [hbc, hjc] at hnx
        rw [hnx]
        have ha : aPut S (nI b) (nI jn) = _ := if_pos hx
        rw [hbc] at ha
        refine ⟨(ha.trans (if_pos z)).symm, ⟨_, _, _, _, _, _, rfl, M.shelf (fun _ _ _ => rfl) (fun _ _ => rfl) (fun _ _ => rfl) (fun j hj i hi => updL_ne (by omega)) ?_⟩⟩
        refine ⟨hs.1, hs.2.1, hs.2.2.1, fun _ => ⟨r1, r2, r3, r4, fun j hj => ?_⟩⟩
        show vp_updL el (60 * b + jn) _ (60 * b + j) = vp_updL (S.2.2.2.2.2.2 b).2.2.2.2 jn _ j
        by_cases e : j = jn
        · rw [e, updL_at, updL_at]
        · rw [updL_ne e, updL_ne (by omega)]
          exact r5 j hj
    ·
      refine E_iload C dX11_put_13 0 rfl (E_iretI C hr hlk dX11_put_15 ?_)
      have hno : ¬ rfPn (S.2.2.2.2.2.2 b) i0 = 0 := fun q => c10 (by rw [q]; decide)
      have hnx : nPut S (nI b) i0 v0 = S := if_neg (fun q => by rw [hbc] at q; exact hno q.2)
      rw [hnx]
      have ha : aPut S (nI b) i0 = _ := if_pos hx
      rw [hbc] at ha
      exact ⟨(ha.trans (if_neg hno)).symm, ⟨g, h, el, u, v, sf, rfl, M⟩⟩
  ·
    refine Ct.of (by decide +kernel) (Nat.le_of_ble_eq_true rfl) ?_
    intro p e R s m args below meth c A C hr hlk
    refine E_aload_n C dX11_put_0 0 rfl (E_iload_n C dX11_put_1 1 rfl (E_iload_n C dX11_put_2 2 rfl (E_callVI C dX11_put_3 mv_X11_399 0 _ (m_whyN hx i0) rfl rfl rfl (by decide) (Nat.le_of_ble_eq_true rfl) ?_)))
    rintro _ _ ⟨rfl, rfl⟩
    refine E_istore C dX11_put_6 (by decide) (E_iload C dX11_put_8 0 rfl (E_if_ge C 16 dX11_put_10 (by decide) (fun c10 => ?_) (fun c10 => ?_)))
    ·
      exact absurd c10 (by decide)
    ·
      refine E_iload C dX11_put_13 0 rfl (E_iretI C hr hlk dX11_put_15 ?_)
      have hnx : nPut S x0 i0 v0 = S := if_neg (fun q => hx q.1)
      rw [hnx]
      exact ⟨(if_neg hx).symm, ⟨g, h, el, u, v, sf, rfl, M⟩⟩
set_option maxRecDepth 100000 in
set_option maxHeartbeats 4000000 in
theorem q_taken {l : Launch} {D : va_G} {tc tt ad : Nat → Nat} {S : STT} {w0 : va_W} (hM : MR ad tc S w0) (x0 k0 : Int32) : Ct l yX11_taken cX11_taken 3 (some .int) 3 D tc tt [.ref (ad 0), .int x0, .int k0] (w0) (PI fun r w => r = aTaken S x0 k0 ∧ MR ad tc S w) := by
  obtain ⟨g, h, el, u, v, sf, rfl, M⟩ := hM
  have hA := M.1
  have hn := M.1.1
  have hn8 := M.1.2.1
  have m6 := M.2.2.2.2.2.1
  have hnb := m6.2.1
  by_cases hx : inS x0 = true
  ·
    obtain ⟨b, hb6, hbc, rfl⟩ := inS_ex hx
    have hs := M.2.2.2.2.2.2.1 b hb6
    refine Ct.of (by decide +kernel) (Nat.le_of_ble_eq_true rfl) ?_
    intro p e R s m args below meth c A C hr hlk
    refine E_iload_n C dX11_taken_0 1 rfl (E_callSI C dX11_taken_1 ms_X11_129 _ (m_isShelf (nI b)) rfl rfl (by decide) (Nat.le_of_ble_eq_true rfl) ?_)
    rintro _ _ ⟨rfl, rfl⟩
    refine E_if_eq C 17 dX11_taken_4 (by decide) (fun c4 => ?_) (fun c4 => ?_)
    ·
      exact absurd hx (ite_0 c4)
    ·
      refine E_iload_n C dX11_taken_7 2 rfl (E_iconst (v := 0) C dX11_taken_8 ic_0 (E_bipush (v := 7) C dX11_taken_9 bp_7 (E_callSI C dX11_taken_11 ms_X11_118 _ (m_in k0 0 7) rfl rfl (by decide) (Nat.le_of_ble_eq_true rfl) ?_)))
      rintro _ _ ⟨rfl, rfl⟩
      refine E_if_ne C 19 dX11_taken_14 (by decide) (fun c14 => ?_) (fun c14 => ?_)
      ·
        have n1 := ite_1 c14
        have n2 := bet_eq.mp n1
        obtain ⟨kn, hkn, hkc, rfl⟩ := n_of (k := 7) (m := 7) (x := k0) rfl (Int32.not_lt.mpr n2.1) n2.2
        have ha : aTaken S (nI b) (nI kn) = _ := if_pos ⟨hx, n2.1, Int32.lt_of_le_of_lt n2.2 (by decide)⟩
        rw [hbc] at ha
        refine E_aload_n C dX11_taken_19 0 rfl (mg_11_49 C dX11_taken_20 f_X11_99 (E_iload_n C dX11_taken_23 1 rfl (ma_28 C dX11_taken_24 (vinN (by omega)) ?_)))
        rw [nI_clamp (show b < 2 ^ 31 by omega)]
        refine E_iconst (v := -1) C dX11_taken_25 ic_m1 (E_icmp_ne C 32 dX11_taken_26 (by decide) (fun c26 => ?_) (fun c26 => ?_))
        ·
          have z0 : ¬ (S.2.2.2.2.2.2 b).1 = 0 := fun z => c26 ((hs.e0 hnb).mpr z)
          refine E_aload_n C dX11_taken_32 0 rfl (mg_11_49 C dX11_taken_33 f_X11_99 (E_iload_n C dX11_taken_36 1 rfl (ma_28 C dX11_taken_37 (vinN (by omega)) ?_)))
          rw [nI_clamp (show b < 2 ^ 31 by omega)]
          refine E_if_lt C 73 dX11_taken_38 (by decide) (fun c38 => ?_) (fun c38 => ?_)
          ·
            have z1 : ¬ (S.2.2.2.2.2.2 b).1 = 1 := fun z => (hs.e1 hnb).mpr z c38
            have hv := ha.trans ((if_neg z0).trans (if_neg z1))
            refine E_bipush (v := -12) C dX11_taken_73 bp_m12 (E_iretI C hr hlk dX11_taken_75 ?_)
            exact ⟨hv.symm, ⟨g, h, el, u, v, sf, rfl, M⟩⟩
          ·
            have z1 := (hs.e1 hnb).mp c38
            obtain ⟨r1, r2⟩ := hs.2.2.1 z1
            obtain ⟨t1, t2⟩ := m6.2.2.1 _ r2
            have hv0 := ha.trans ((if_neg z0).trans (if_pos z1))
            refine E_aload_n C dX11_taken_41 0 rfl (mg_11_46 C dX11_taken_42 f_X11_93 (E_aload_n C dX11_taken_45 0 rfl (mg_11_49 C dX11_taken_46 f_X11_99 (E_iload_n C dX11_taken_49 1 rfl (ma_28 C dX11_taken_50 (vinN (by omega)) ?_)))))
            rw [nI_clamp (show b < 2 ^ 31 by omega)]
            refine Ev.seti r1 ?_
            refine ma_26 C dX11_taken_51 (vinN (by omega)) ?_
            rw [nI_clamp (show (S.2.2.2.2.2.2 b).2.1 < 2 ^ 31 by omega)]
            refine Ev.seti t1 ?_
            refine E_iload_n C dX11_taken_52 2 rfl (E_callSI C dX11_taken_53 ms_X11_363 _ (m_isUnder (nI (S.2.2.2.2.2.1.2.1 (S.2.2.2.2.2.2 b).2.1)) (nI kn)) rfl rfl (by decide) (Nat.le_of_ble_eq_true rfl) ?_)
            rintro _ _ ⟨rfl, rfl⟩
            refine E_if_eq C 73 dX11_taken_56 (by decide) (fun c56 => ?_) (fun c56 => ?_)
            ·
              have n3 := ite_0 c56
              have hv := hv0.trans (if_neg (fun q => n3 ((undM_R _ t2 kn (by omega)).mp q)))
              refine E_bipush (v := -12) C dX11_taken_73 bp_m12 (E_iretI C hr hlk dX11_taken_75 ?_)
              exact ⟨hv.symm, ⟨g, h, el, u, v, sf, rfl, M⟩⟩
            ·
              have n3 := ite_1 c56
              have hv := hv0.trans (if_pos ((undM_R _ t2 kn (by omega)).mpr n3))
              refine E_aload_n C dX11_taken_59 0 rfl (mg_11_46 C dX11_taken_60 f_X11_93 (E_aload_n C dX11_taken_63 0 rfl (mg_11_49 C dX11_taken_64 f_X11_99 (E_iload_n C dX11_taken_67 1 rfl (ma_28 C dX11_taken_68 (vinN (by omega)) ?_)))))
              rw [nI_clamp (show b < 2 ^ 31 by omega)]
              refine Ev.seti r1 ?_
              refine ma_26 C dX11_taken_69 (vinN (by omega)) ?_
              rw [nI_clamp (show (S.2.2.2.2.2.2 b).2.1 < 2 ^ 31 by omega)]
              refine Ev.seti t1 ?_
              refine E_goto C 75 dX11_taken_70 (by decide) (E_iretI C hr hlk dX11_taken_75 ?_)
              exact ⟨hv.symm, ⟨g, h, el, u, v, sf, rfl, M⟩⟩
        ·
          have z0 := (hs.e0 hnb).mp c26
          refine E_bipush (v := -11) C dX11_taken_29 bp_m11 (E_iretI C hr hlk dX11_taken_31 ?_)
          exact ⟨(ha.trans (if_pos z0)).symm, ⟨g, h, el, u, v, sf, rfl, M⟩⟩
      ·
        have n1 := ite_0 c14
        refine E_iconst (v := -1) C dX11_taken_17 ic_m1 (E_iretI C hr hlk dX11_taken_18 ?_)
        exact ⟨(if_neg (fun q => n1 (bet_eq.mpr ⟨q.2.1, by
            have q2 := q.2.2
            rw [Int32.lt_iff_toInt_lt] at q2
            rw [Int32.le_iff_toInt_le]
            have z7 : (7 : Int32).toInt = 7 := rfl
            have z8 : (8 : Int32).toInt = 8 := rfl
            omega⟩))).symm, ⟨g, h, el, u, v, sf, rfl, M⟩⟩
  ·
    refine Ct.of (by decide +kernel) (Nat.le_of_ble_eq_true rfl) ?_
    intro p e R s m args below meth c A C hr hlk
    refine E_iload_n C dX11_taken_0 1 rfl (E_callSI C dX11_taken_1 ms_X11_129 _ (m_isShelf x0) rfl rfl (by decide) (Nat.le_of_ble_eq_true rfl) ?_)
    rintro _ _ ⟨rfl, rfl⟩
    refine E_if_eq C 17 dX11_taken_4 (by decide) (fun c4 => ?_) (fun c4 => ?_)
    ·
      refine E_iconst (v := -1) C dX11_taken_17 ic_m1 (E_iretI C hr hlk dX11_taken_18 ?_)
      exact ⟨(if_neg (fun q => hx q.1)).symm, ⟨g, h, el, u, v, sf, rfl, M⟩⟩
    ·
      exact absurd (ite_1 c4) hx
set_option maxRecDepth 100000 in
set_option maxHeartbeats 4000000 in
theorem m_rowFault {l : Launch} {D : va_G} {tc tt ad : Nat → Nat} {g : Nat → Int32} {h : Nat → Nat → Int32} {el : Nat → Int64} {u : Nat → Int32} {v : Nat → Nat → Int32} {sf : Nat → Int64} {nb b : Nat} {q : SHT} (hs : MSh nb q b h el) (hb6 : b < 6) (hnb : nb ≤ 50) : Ct l yX11_rowFault cX11_rowFault 2 (some .int) 1 D tc tt [.ref (ad 0), .int (nI b)] (hm ad tc g h el u v sf) (PI fun r w => r = rfBn q ∧ w = hm ad tc g h el u v sf) := by
  refine Ct.of (by decide +kernel) (Nat.le_of_ble_eq_true rfl) ?_
  intro p e R s m args below meth c A C hr hlk
  refine E_aload_n C dX11_rowFault_0 0 rfl (mg_11_49 C dX11_rowFault_1 f_X11_99 (E_iload_n C dX11_rowFault_4 1 rfl (ma_28 C dX11_rowFault_5 (vinN (by omega)) ?_)))
  rw [nI_clamp (show b < 2 ^ 31 by omega)]
  refine E_iconst (v := -1) C dX11_rowFault_6 ic_m1 (E_icmp_ne C 15 dX11_rowFault_7 (by decide) (fun c7 => ?_) (fun c7 => ?_))
  ·
    have z0 : ¬ q.1 = 0 := fun z => c7 ((hs.e0 hnb).mpr z)
    refine E_aload_n C dX11_rowFault_15 0 rfl (mg_11_49 C dX11_rowFault_16 f_X11_99 (E_iload_n C dX11_rowFault_19 1 rfl (ma_28 C dX11_rowFault_20 (vinN (by omega)) ?_)))
    rw [nI_clamp (show b < 2 ^ 31 by omega)]
    refine E_bipush (v := -2) C dX11_rowFault_21 bp_m2 (E_icmp_ne C 30 dX11_rowFault_23 (by decide) (fun c23 => ?_) (fun c23 => ?_))
    ·
      have z2 : ¬ (q.1 = 2 ∧ q.2.2.1 = 0) := fun z => c23 ((hs.e2 hnb).mpr z)
      refine E_bipush (v := -12) C dX11_rowFault_30 bp_m12 (E_iretI C hr hlk dX11_rowFault_32 ?_)
      exact ⟨((if_neg z0).trans (if_neg z2)).symm, rfl⟩
    ·
      have z2 := (hs.e2 hnb).mp c23
      refine E_iconst (v := 0) C dX11_rowFault_26 ic_0 (E_goto C 32 dX11_rowFault_27 (by decide) (E_iretI C hr hlk dX11_rowFault_32 ?_))
      exact ⟨((if_neg z0).trans (if_pos z2)).symm, rfl⟩
  ·
    have z0 := (hs.e0 hnb).mp c7
    refine E_bipush (v := -11) C dX11_rowFault_10 bp_m11 (E_goto C 32 dX11_rowFault_12 (by decide) (E_iretI C hr hlk dX11_rowFault_32 ?_))
    exact ⟨(if_pos z0).symm, rfl⟩
