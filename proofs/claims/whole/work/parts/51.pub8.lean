/-! the class's law: the text becomes the law -/
def aLaw (S : STT) : Int32 := match ftT S.2.2.1 with | none => 1 | some f => -100 - nI f
def nLaw (S : STT) : STT := match ftT S.2.2.1 with | none => ((S.1.1, S.1.2.1, lawL (lnT S.2.2.1)), S.2.1, [], S.2.2.2) | some _ => (S.1, S.2.1, [], S.2.2.2)
theorem lnT_ne (t : List Nat) : lnT t ≠ [] := by
  have h1 : ∀ (E : PS → PS) (X : LS), (linX t E X).2 ≠ [] := by
    intro E X
    unfold linX
    split
    · exact fun q => by have := congrArg List.length q; rw [List.length_append] at this; exact absurd this (by show ¬ _ + 1 = 0; omega)
    · exact fun q => by have := congrArg List.length q; rw [List.length_append] at this; exact absurd this (by show ¬ _ + 1 = 0; omega)
  have h2 : ∀ (E : PS → PS) (k : Nat) (X : LS), X.2 ≠ [] → (linXL t E k X).2 ≠ [] := by
    intro E k
    induction k with
    | zero => exact fun X q => q
    | succ k ih =>
      intro X q
      by_cases e : ltr t (X.1.1, X.1.2, []) = 59
      · rw [linXL_t e]; exact ih _ (h1 _ _)
      · rw [linXL_f e]; exact q
  exact h2 _ 120 _ (h1 _ _)
set_option maxRecDepth 100000 in
set_option maxHeartbeats 4000000 in
theorem p_law {l : Launch} {D : va_G} {tc tt ad : Nat → Nat} {S : STT} {kk0 : Nat} {w0 : va_W} (hX : XR ad tc S kk0 w0) (hk600 : kk0 ≤ 600) : Ct l yX10_law cX10_law 2 (some .int) 47 D tc tt [.ref (ad 0)] w0 (PI fun r w => r = aLaw S ∧ XR ad tc (nLaw S) (kk0 + 1) w) := by
  obtain ⟨W, g, h, Dv, Sh, u, v, z, y, rfl, X⟩ := hX
  have hn := X.1.1
  have hn8 := X.1.2.1
  have hN := X.1.2.2.1
  have hB := X.1.2.2.2.1
  have hL := X.1.2.2.2.2.2
  have hT := X.2.2.1
  have htl := hT.2.1
  by_cases hcase : ftT S.2.2.1 = none
  ·
    obtain ⟨e1, e2, e3, -⟩ := endC_c hcase
    have e4 : (endC S.2.2.1).2.2.length ≤ 121 := by rw [e1]; omega
    have e5 : ((lnT S.2.2.1).flatMap flt).length ≤ 121 := by omega
    refine Ct.of (by decide +kernel) (Nat.le_of_ble_eq_true rfl) ?_
    intro p e R s m args below meth c A C hr hlk
    refine E_aload_n C dX10_law_0 0 rfl (xg_10_2 C dX10_law_1 f_X10_26 (E_callVI C dX10_law_4 mv_X10_117 21 _ (s_read hT) rfl rfl rfl (by decide) (Nat.le_of_ble_eq_true rfl) ?_))
    rintro _ _ ⟨rfl, u', v', rfl, hrr⟩
    obtain ⟨k1, k2, k3, k4, k5, k6, k7, k8⟩ := hrr
    refine Ev.seti (show _ = (-1 : Int32) by rw [endC_f, hcase]; rfl) ?_
    refine E_istore_n C dX10_law_7 (by decide) (E_iload_n C dX10_law_8 0 rfl (E_if_lt C 17 dX10_law_9 (by decide) (fun c9 => ?_) (fun c9 => ?_)))
    ·
      refine E_aload_n C dX10_law_17 1 rfl (xg_10_0 C dX10_law_18 f_X10_10 (E_aload_n C dX10_law_21 1 rfl (xg_10_2 C dX10_law_22 f_X10_26 (E_callVV C dX10_law_25 mv_X10_121 1 _ (s_obey (sz := (endC S.2.2.1).2.2.length) (by rw [k5.1, Nat.min_eq_left (by omega)]) (by omega)) rfl rfl rfl (by decide) (Nat.le_of_ble_eq_true rfl) ?_))))
      rintro _ ⟨f0, f1, rfl, hf01⟩
      refine E_iconst (v := 1) C dX10_law_28 ic_1 (E_iretI C hr hlk dX10_law_29 ?_)
      have ha : aLaw S = 1 := by unfold aLaw; rw [hcase]
      have hnx : nLaw S = ((S.1.1, S.1.2.1, lawL (lnT S.2.2.1)), S.2.1, [], S.2.2.2) := by unfold nLaw; rw [hcase]
      rw [hnx]
      refine ⟨ha.symm, ⟨W, _, _, Dv, Sh, u', v', z, y, rfl, ?_⟩⟩
      obtain ⟨x1, x2, x3, x4, x5, x6, x7, x8⟩ := X
      have hlx : LawX (bG (va_up (va_up g 5 0) 2 (nI (endC S.2.2.1).2.2.length))) (va_up (va_up h 0 f0) 1 f1) (lawL (lnT S.2.2.1)) := by
        refine LawX.new e2 (lnT_ne _) (by omega) ?_ ?_
        · show nI (endC S.2.2.1).2.2.length = _
          rw [e1]
        · rw [← e1]
          intro j a b q
          have hj := (List.getElem?_eq_some_iff.mp q).1
          obtain ⟨q1, q2⟩ := k5.2 j a b (by omega) q
          obtain ⟨q3, q4⟩ := hf01 j hj
          rw [Nat.zero_add]
          exact ⟨q3.trans q1, q4.trans q2⟩
      refine ⟨⟨x1.1, x1.2.1, x1.2.2.1, x1.2.2.2.1, x1.2.2.2.2.1, hlx⟩, x2.kept rfl rfl rfl rfl rfl rfl, ⟨rfl, Nat.zero_le _, fun j x q => (by cases q)⟩, x4.kept rfl rfl rfl, x5.kept rfl rfl rfl rfl, x6.kept rfl rfl rfl rfl, x7, ?_⟩
      obtain ⟨ed, te, d1, d2, d3, d4, -⟩ := x8
      refine ⟨ed + 1, te, ?_, k6.trans d2, by omega, by omega, fun q => by omega⟩
      show g 1 + 1 = nI (ed + 1)
      rw [d1, nI_1]
    ·
      exact absurd (by decide) c9
  ·
    obtain ⟨f, hf⟩ := Option.ne_none_iff_exists'.mp hcase
    have hfl := ft_le hf
    refine Ct.of (by decide +kernel) (Nat.le_of_ble_eq_true rfl) ?_
    intro p e R s m args below meth c A C hr hlk
    refine E_aload_n C dX10_law_0 0 rfl (xg_10_2 C dX10_law_1 f_X10_26 (E_callVI C dX10_law_4 mv_X10_117 21 _ (s_read hT) rfl rfl rfl (by decide) (Nat.le_of_ble_eq_true rfl) ?_))
    rintro _ _ ⟨rfl, u', v', rfl, hrr⟩
    obtain ⟨k1, k2, k3, k4, k5, k6, k7, k8⟩ := hrr
    refine Ev.seti (show _ = nI f by rw [endC_f, hf]; rfl) ?_
    refine E_istore_n C dX10_law_7 (by decide) (E_iload_n C dX10_law_8 0 rfl (E_if_lt C 17 dX10_law_9 (by decide) (fun c9 => ?_) (fun c9 => ?_)))
    ·
      exact absurd c9 (nI_pos (by omega))
    ·
      refine E_bipush (v := -100) C dX10_law_12 bp_m100 (E_iload_n C dX10_law_14 0 rfl (E_isub C dX10_law_15 (E_iretI C hr hlk dX10_law_16 ?_)))
      have ha : aLaw S = -100 - nI f := by unfold aLaw; rw [hf]
      have hnx : nLaw S = (S.1, S.2.1, [], S.2.2.2) := by unfold nLaw; rw [hf]
      rw [hnx]
      refine ⟨ha.symm, ⟨W, _, h, Dv, Sh, u', v', z, y, rfl, ?_⟩⟩
      obtain ⟨x1, x2, x3, x4, x5, x6, x7, x8⟩ := X
      exact ⟨x1.kept rfl rfl rfl rfl, x2.kept rfl rfl rfl rfl rfl rfl, ⟨rfl, Nat.zero_le _, fun j x q => (by cases q)⟩, x4.kept rfl rfl rfl, x5.kept rfl rfl rfl rfl, x6.kept rfl rfl rfl rfl, x7, x8.keptl rfl k6 (k8 4 (by decide) (by decide)) (k8 5 (by decide) (by decide)) (k8 6 (by decide) (by decide))⟩
