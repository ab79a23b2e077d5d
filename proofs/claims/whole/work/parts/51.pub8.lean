/-! the class's law: the text becomes the law -/
def aLaw (S : STT) : Int32 := match ftT S.2.2.1 with | none => 1 | some f => -100 - nI f
def nLaw (S : STT) : STT := match ftT S.2.2.1 with | none => ((S.1.1, S.1.2.1, lawL (lnT S.2.2.1)), S.2.1, [], S.2.2.2) | some _ => (S.1, S.2.1, [], S.2.2.2)
theorem lnT_ne (t : List Nat) : lnT t ≠ [] := by
  have h1 : ∀ (E : PS → PS) (X : LXS), (linX t E X).2 ≠ [] := by
    intro E X
    unfold linX
    split
    · exact fun q => by have := congrArg List.length q; rw [List.length_append] at this; exact absurd this (by show ¬ _ + 1 = 0; omega)
    · exact fun q => by have := congrArg List.length q; rw [List.length_append] at this; exact absurd this (by show ¬ _ + 1 = 0; omega)
  have h2 : ∀ (E : PS → PS) (k : Nat) (X : LXS), X.2 ≠ [] → (linXL t E k X).2 ≠ [] := by
    intro E k
    induction k with
    | zero => exact fun X q => q
    | succ k ih =>
      intro X q
      by_cases e : ltr t (X.1.1, X.1.2, []) = 59
      · rw [linXL_t e]; exact ih _ (h1 _ _)
      · rw [linXL_f e]; exact q
  exact h2 _ 120 _ (h1 _ _)
set_option maxRecDepth 100000 in
set_option maxHeartbeats 4000000 in
theorem s_obeyB {l : Launch} {D : va_G} {tc tt ad : Nat → Nat} {W : Nat → Nat → Int32} {g : Nat → Int32} {h : Nat → Nat → Int32} {Dv : Nat → (Nat → Int32) × (Nat → Nat → Int32)} {Sh : Nat → (Nat → Int32) × (Nat → Int64)} {u : Nat → Int32} {v : Nat → Nat → Int32} {z : Int64} {y : Nat → Int64} {sz : Nat} (hu : u 0 = nI sz) (hs : sz ≤ 128) : Ct l yX9_obey cX9_obey 2 none 2 D tc tt [.ref (ad 1), .ref (ad 21)] (hx ad tc W g h Dv Sh u v z y) (PV fun w => ∃ f0 f1 : Nat → Int32, w = hx ad tc W (bG (va_up g 2 (nI sz))) (va_up (va_up h 0 f0) 1 f1) Dv Sh u v z y ∧ ∀ j, j < sz → f0 j = v 2 j ∧ f1 j = v 3 j) := by
  refine Ct.of (by decide +kernel) (Nat.le_of_ble_eq_true rfl) ?_
  intro p e R s m args below meth c A C hr hlk
  refine E_aload_n C dX9_obey_0 0 rfl (xg_9_1 C dX9_obey_1 f_X9_19 (E_aload_n C dX9_obey_4 1 rfl (xg_6_1 C dX9_obey_5 f_X9_41 (E_aload_n C dX9_obey_8 1 rfl (xg_6_2 C dX9_obey_9 f_X9_46 ?_)))))
  refine E_aload_n C dX9_obey_12 1 rfl (xg_6_4 C dX9_obey_13 f_X9_48 ?_)
  rw [hu]
  refine E_callVV C dX9_obey_16 mv_X9_51 11 _ (s_adopt sz hs) rfl rfl rfl (by decide) (Nat.le_of_ble_eq_true rfl) ?_
  rintro _ ⟨f0, f1, rfl, hf⟩
  refine E_aload_n C dX9_obey_19 0 rfl (E_dup C dX9_obey_20 rfl (xg_9_3 C dX9_obey_21 f_X9_23 (E_iconst (v := 1) C dX9_obey_24 ic_1 (E_iadd C dX9_obey_25 (xp_9_3 C dX9_obey_26 fw_X9_23 ?_)))))
  refine E_vretV C hr hlk dX9_obey_29 ?_
  exact ⟨f0, f1, rfl, hf⟩
set_option maxRecDepth 100000 in
set_option maxHeartbeats 4000000 in
theorem p_onB {l : Launch} {D : va_G} {tc tt ad : Nat → Nat} {S : STT} {kk0 : Nat} {w0 : va_W} (hX : XR ad tc S kk0 w0) (hk600 : kk0 ≤ 600)  : Ct l yX10_on cX10_on 1 (some .int) 8 D tc tt [.ref (ad 0)] w0 (PI fun r w => r = aOn S ∧ XR ad tc (nOn S) (kk0 + 1) w) := by
  obtain ⟨W, g, h, Dv, Sh, u, v, z, y, rfl, X⟩ := hX
  have hn := X.1.1
  have hn8 := X.1.2.1
  have hN := X.1.2.2.1
  have hB := X.1.2.2.2.1
  have hL := X.1.2.2.2.2.2
  have hD := X.2.2.2.1
  have hI := X.2.2.2.2.1
  have hone := hD.2.1
  by_cases hcase : S.2.2.2.1.1 = 0
  · skip
    refine Ct.of (by decide +kernel) (Nat.le_of_ble_eq_true rfl) ?_
    intro p e R s m args below meth c A C hr hlk
    refine E_aload_n C dX10_on_0 0 rfl (xg_10_6 C dX10_on_1 f_X10_56 (xg_4_0 C dX10_on_4 f_X10_232 (xg_3_4 C (b := 2) (by decide) dX10_on_7 f_X10_235 ?_)))
    refine Ev.seti (show (Dv 2).1 0 = 0 by rw [hD.1.1, hcase]; rfl) ?_
    refine E_if_ne C 16 dX10_on_10 (by decide) (fun c10 => ?_) (fun c10 => ?_)
    ·
      exact absurd rfl c10
    ·
      refine E_bipush (v := -5) C dX10_on_13 bp_m5 (E_iretI C hr hlk dX10_on_15 ?_)
      have hnx : nOn S = S := if_pos hcase
      rw [hnx]
      exact ⟨(if_pos hcase).symm, ⟨W, g, h, Dv, Sh, u, v, z, y, rfl, X.same⟩⟩
  · have hon1 : S.2.2.2.1.1 = 1 := by omega
    refine Ct.of (by decide +kernel) (Nat.le_of_ble_eq_true rfl) ?_
    intro p e R s m args below meth c A C hr hlk
    refine E_aload_n C dX10_on_0 0 rfl (xg_10_6 C dX10_on_1 f_X10_56 (xg_4_0 C dX10_on_4 f_X10_232 (xg_3_4 C (b := 2) (by decide) dX10_on_7 f_X10_235 ?_)))
    refine Ev.seti (show (Dv 2).1 0 = 1 by rw [hD.1.1, hon1]; rfl) ?_
    refine E_if_ne C 16 dX10_on_10 (by decide) (fun c10 => ?_) (fun c10 => ?_)
    ·
      refine E_aload_n C dX10_on_16 0 rfl (xg_10_6 C dX10_on_17 f_X10_56 (xg_4_0 C dX10_on_20 f_X10_232 (E_callVV C dX10_on_23 mv_X10_242 _ _ (s_driveOn_2 hN hB hL (st := S.2.2.2.1.2.1) (fo := S.2.2.2.1.2.2.1) (q := S.2.2.2.1.2.2.2.1) (P := False) (hon1 ▸ hD.1) hD.2.2.2.2.1 hD.2.2.2.1 hD.2.2.1) (xat_dr0 (b := 2) (by decide)) rfl rfl (by decide) (Nat.le_of_ble_eq_true rfl) ?_)))
      rintro _ ⟨Dv1, v2, rfl, hf, hv2, hq1⟩
      have hdi : DI (onQ S) := onStop_inv hB hD.2.2.2.1 hD.2.2.2.2.1
      refine E_aload_n C dX10_on_26 0 rfl (xg_10_6 C dX10_on_27 f_X10_56 (xg_4_0 C dX10_on_30 f_X10_232 (xg_3_4 C (b := 2) (by decide) dX10_on_33 f_X10_235 ?_)))
      refine Ev.seti hq1.1 ?_
      refine E_if_eq C 50 dX10_on_36 (by decide) (fun c36 => ?_) (fun c36 => ?_)
      ·
        have h6 : ¬ S.2.2.2.1.2.1 < 6 := fun q => by rw [if_pos q] at c36; exact absurd c36 (by decide)
        rw [if_neg h6, if_neg h6] at hq1
        refine E_aload_n C dX10_on_50 0 rfl (xg_10_6 C dX10_on_51 f_X10_56 (E_dup C dX10_on_54 rfl (xg_4_2 C dX10_on_55 f_X10_248 (E_iconst (v := 1) C dX10_on_58 ic_1 (E_iadd C dX10_on_59 ?_)))))
        refine xp_4_2 C dX10_on_60 fw_X10_248 (E_aload_n C dX10_on_63 0 rfl (xg_10_6 C dX10_on_64 f_X10_56 (E_dup C dX10_on_67 rfl (xg_4_3 C dX10_on_68 f_X10_251 (E_aload_n C dX10_on_71 0 rfl ?_)))))
        refine xg_10_6 C dX10_on_72 f_X10_56 (xg_4_0 C dX10_on_75 f_X10_232 (E_callVI C dX10_on_78 mv_X10_145 _ _ (s_cost_2 hN (mi := (onQ S).2.2.1) (le := (onQ S).2.1) hq1.2.2.2.2.2.1 hq1.2.2.2.2.1 hdi.2.1) (xat_dr0 (b := 2) (by decide)) rfl rfl (by decide) (Nat.le_of_ble_eq_true rfl) ?_))
        rintro _ _ ⟨rfl, rfl⟩
        refine E_iadd C dX10_on_81 (xp_4_3 C dX10_on_82 fw_X10_251 (E_bipush (v := -2) C dX10_on_85 bp_m2 (E_iretI C hr hlk dX10_on_87 ?_)))
        have hnx : nOn S = _ := (if_neg hcase).trans (if_neg h6)
        rw [hnx]
        refine ⟨((if_neg hcase).trans (if_neg h6)).symm, ⟨W, _, h, Dv1, Sh, u, v2, z, y, rfl, X.deed (fun j j6 j7 => (vun j7).trans (vun j6)) (hf 3 (by decide)) rfl (hv2 4 (by decide) (by decide)) (hv2 5 (by decide) (by decide)) (hv2 6 (by decide) (by decide)) ⟨hq1, Nat.zero_le _, hD.2.2.1, hD.2.2.2.1, hdi, ?_, ?_⟩⟩⟩
        · show g 6 + 1 = _
          rw [hD.2.2.2.2.2.1]
        · show g 7 + _ = _
          rw [hD.2.2.2.2.2.2]
          rfl
      ·
        have h6 : S.2.2.2.1.2.1 < 6 := Classical.byContradiction fun q => c36 (by rw [if_neg q]; rfl)
        rw [if_pos h6, if_pos h6] at hq1
        refine E_aload_n C dX10_on_39 0 rfl (xg_10_6 C dX10_on_40 f_X10_56 (xg_4_0 C dX10_on_43 f_X10_232 (xg_3_5 C (b := 2) (by decide) dX10_on_46 f_X10_245 ?_)))
        refine Ev.seti hq1.2.1 ?_
        refine E_iretI C hr hlk dX10_on_49 ?_
        have hnx : nOn S = _ := (if_neg hcase).trans (if_pos h6)
        rw [hnx]
        exact ⟨((if_neg hcase).trans (if_pos h6)).symm, ⟨W, g, h, Dv1, Sh, u, v2, z, y, rfl, X.deed (fun _ _ _ => rfl) (hf 3 (by decide)) rfl (hv2 4 (by decide) (by decide)) (hv2 5 (by decide) (by decide)) (hv2 6 (by decide) (by decide)) ⟨hq1, Nat.le_refl _, h6, hD.2.2.2.1, hdi, hD.2.2.2.2.2.1, hD.2.2.2.2.2.2⟩⟩⟩
    ·
      exact absurd c10 (by decide)
set_option maxRecDepth 100000 in
set_option maxHeartbeats 4000000 in
theorem p_law {l : Launch} {D : va_G} {tc tt ad : Nat → Nat} {S : STT} {kk0 : Nat} {w0 : va_W} (hX : XR ad tc S kk0 w0) (hk600 : kk0 ≤ 600) : Ct l yX10_law cX10_law 2 (some .int) 47 D tc tt [.ref (ad 0)] w0 (PI fun r w => r = aLaw S ∧ XR ad tc (nLaw S) (kk0 + 1) w) := by
  obtain ⟨W, g, h, Dv, Sh, u, v, z, y, rfl, X⟩ := hX
  have hn := X.1.1
  have hn8 := X.1.2.1
  have hN := X.1.2.2.1
  have hB := X.1.2.2.2.1
  have hL := X.1.2.2.2.2.2
  have hT := X.2.2.1
  have htl := hT.2.1
  by_cases hcase : ftT S.2.2.1 = none
  ·
    obtain ⟨e1, e2, e3, -⟩ := endC_c hcase
    have e4 : (endC S.2.2.1).2.2.length ≤ 121 := by rw [e1]; omega
    have e5 : ((lnT S.2.2.1).flatMap flt).length ≤ 121 := by omega
    have f1 := endC_f S.2.2.1
    have hlne := lnT_ne S.2.2.1
    refine Ct.of (by decide +kernel) (Nat.le_of_ble_eq_true rfl) ?_
    intro p e R s m args below meth c A C hr hlk
    refine E_aload_n C dX10_law_0 0 rfl (xg_10_2 C dX10_law_1 f_X10_26 (E_callVI C dX10_law_4 mv_X10_117 21 _ (s_read hT) rfl rfl rfl (by decide) (Nat.le_of_ble_eq_true rfl) ?_))
    rintro _ _ ⟨rfl, u', v', rfl, hrr⟩
    generalize endC S.2.2.1 = E9 at f1 e1 e4 hrr ⊢
    obtain ⟨k1, k2, k3, k4, k5, k6, k7, k8⟩ := hrr
    refine Ev.seti (show _ = (-1 : Int32) by rw [f1, hcase]; rfl) ?_
    refine E_istore_n C dX10_law_7 (by decide) (E_iload_n C dX10_law_8 0 rfl (E_if_lt C 17 dX10_law_9 (by decide) (fun c9 => ?_) (fun c9 => ?_)))
    ·
      refine E_aload_n C dX10_law_17 1 rfl (xg_10_0 C dX10_law_18 f_X10_10 (E_aload_n C dX10_law_21 1 rfl (xg_10_2 C dX10_law_22 f_X10_26 ?_)))
      have hu0 : u' 0 = nI E9.2.2.length := k5.1.trans (congrArg nI (Nat.min_eq_left (by omega)))
      refine E_callVV C dX10_law_25 mv_X10_121 1 _ (s_obeyB hu0 (by omega)) rfl rfl rfl (by decide) (Nat.le_of_ble_eq_true rfl) ?_
      rintro _ ⟨fa, fb, rfl, hf01⟩
      refine E_iconst (v := 1) C dX10_law_28 ic_1 (E_iretI C hr hlk dX10_law_29 ?_)
      have ha : aLaw S = 1 := by unfold aLaw; rw [hcase]
      have hnx : nLaw S = ((S.1.1, S.1.2.1, lawL (lnT S.2.2.1)), S.2.1, [], S.2.2.2) := by unfold nLaw; rw [hcase]
      rw [hnx]
      generalize lnT S.2.2.1 = ls at e1 e2 e3 e5 hlne ⊢
      refine ⟨ha.symm, ⟨W, _, _, Dv, Sh, u', v', z, y, rfl, ?_⟩⟩
      obtain ⟨x1, x2, x3, x4, x5, x6, x7, x8⟩ := X
      have hlx : LawX (bG (va_up (va_up g 5 0) 2 (nI E9.2.2.length))) (va_up (va_up h 0 fa) 1 fb) (lawL ls) := by
        refine LawX.new e2 hlne (by omega) ?_ ?_
        · show nI E9.2.2.length = _
          rw [e1]
        · rw [← e1]
          intro j a b q
          have hj := (List.getElem?_eq_some_iff.mp q).1
          obtain ⟨q1, q2⟩ := k5.2 j a b (by omega) q
          obtain ⟨q3, q4⟩ := hf01 j hj
          rw [Nat.zero_add]
          exact ⟨q3.trans q1, q4.trans q2⟩
      refine ⟨⟨x1.1, x1.2.1, x1.2.2.1, x1.2.2.2.1, x1.2.2.2.2.1, hlx⟩, x2.kept rfl rfl rfl rfl rfl rfl, ⟨rfl, Nat.zero_le _, fun j x q => (by cases q)⟩, x4.kept rfl rfl rfl, x5.kept rfl rfl rfl rfl, x6.kept rfl rfl rfl rfl, x7, ?_⟩
      obtain ⟨ed, te, d1, d2, d3, d4, -⟩ := x8
      refine ⟨ed + 1, te, ?_, k6.trans d2, by omega, by omega, fun q => by omega⟩
      show g 1 + 1 = nI (ed + 1)
      rw [d1, nI_1]
    ·
      exact absurd (by decide) c9
  ·
    obtain ⟨f, hf⟩ := Option.ne_none_iff_exists'.mp hcase
    have hfl := ft_le hf
    have f1 := endC_f S.2.2.1
    refine Ct.of (by decide +kernel) (Nat.le_of_ble_eq_true rfl) ?_
    intro p e R s m args below meth c A C hr hlk
    refine E_aload_n C dX10_law_0 0 rfl (xg_10_2 C dX10_law_1 f_X10_26 (E_callVI C dX10_law_4 mv_X10_117 21 _ (s_read hT) rfl rfl rfl (by decide) (Nat.le_of_ble_eq_true rfl) ?_))
    rintro _ _ ⟨rfl, u', v', rfl, hrr⟩
    generalize endC S.2.2.1 = E9 at f1 hrr ⊢
    obtain ⟨k1, k2, k3, k4, k5, k6, k7, k8⟩ := hrr
    refine Ev.seti (show _ = nI f by rw [f1, hf]; rfl) ?_
    refine E_istore_n C dX10_law_7 (by decide) (E_iload_n C dX10_law_8 0 rfl (E_if_lt C 17 dX10_law_9 (by decide) (fun c9 => ?_) (fun c9 => ?_)))
    ·
      exact absurd c9 (nI_pos (by omega))
    ·
      refine E_bipush (v := -100) C dX10_law_12 bp_m100 (E_iload_n C dX10_law_14 0 rfl (E_isub C dX10_law_15 (E_iretI C hr hlk dX10_law_16 ?_)))
      have ha : aLaw S = -100 - nI f := by unfold aLaw; rw [hf]
      have hnx : nLaw S = (S.1, S.2.1, [], S.2.2.2) := by unfold nLaw; rw [hf]
      rw [hnx]
      refine ⟨ha.symm, ⟨W, _, h, Dv, Sh, u', v', z, y, rfl, ?_⟩⟩
      obtain ⟨x1, x2, x3, x4, x5, x6, x7, x8⟩ := X
      exact ⟨x1.kept rfl rfl rfl rfl, x2.kept rfl rfl rfl rfl rfl rfl, ⟨rfl, Nat.zero_le _, fun j x q => (by cases q)⟩, x4.kept rfl rfl rfl, x5.kept rfl rfl rfl rfl, x6.kept rfl rfl rfl rfl, x7, x8.keptl rfl k6 (k8 4 (by decide) (by decide)) (k8 5 (by decide) (by decide)) (k8 6 (by decide) (by decide))⟩
