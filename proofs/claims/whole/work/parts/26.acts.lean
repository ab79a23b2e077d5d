/-! the class's Acts -/
set_option maxRecDepth 100000 in
set_option maxHeartbeats 4000000 in
theorem s_bodyAdd {l : Launch} {D : va_G} {tc tt ad : Nat → Nat} {W : Nat → Nat → Int32} {g : Nat → Int32} {h : Nat → Nat → Int32} {Dv : Nat → (Nat → Int32) × (Nat → Nat → Int32)} {Sh : Nat → (Nat → Int32) × (Nat → Int64)} {u : Nat → Int32} {v : Nat → Nat → Int32} {z : Int64} {y : Nat → Int64} {nb : Nat} (hg : g 11 = nI nb) (hlt : nb < 50) (x : Int32) : Ct l yX0_add cX0_add 2 (some .int) 1 D tc tt [.ref (ad 32), .int x] (hx ad tc W g h Dv Sh u v z y) (PI fun r w => r = nI nb ∧ w = hx ad tc W (va_up g 11 (nI (nb + 1))) (va_up h 7 (upd (h 7) nb x)) Dv Sh u v z y) := by
  refine Ct.of (by decide +kernel) (Nat.le_of_ble_eq_true rfl) ?_
  intro p e R s m args below meth c A C hr hlk
  refine E_aload_n C dX0_add_0 0 rfl (xg_0_2 C dX0_add_1 f_X0_18 ?_)
  refine Ev.seti hg ?_
  refine E_if_lt C 16 dX0_add_4 (by decide) (fun c4 => ?_) (fun c4 => ?_)
  ·
    exact absurd c4 (nI_pos (by omega))
  ·
    refine E_aload_n C dX0_add_7 0 rfl (xg_0_2 C dX0_add_8 f_X0_18 ?_)
    refine Ev.seti hg ?_
    refine E_bipush (v := 50) C dX0_add_11 bp_50 (E_icmp_lt C 19 dX0_add_13 (by decide) (fun c13 => ?_) (fun c13 => ?_))
    ·
      refine E_aload_n C dX0_add_19 0 rfl (xg_0_0 C dX0_add_20 f_X0_11 (E_aload_n C dX0_add_23 0 rfl (xg_0_2 C dX0_add_24 f_X0_18 ?_)))
      refine Ev.seti hg ?_
      refine E_iload_n C dX0_add_27 1 rfl (xs_33 C dX0_add_28 (vinN hlt) ?_)
      rw [nI_clamp (show nb < 2 ^ 31 by omega)]
      refine E_aload_n C dX0_add_29 0 rfl (E_dup C dX0_add_30 rfl (xg_0_2 C dX0_add_31 f_X0_18 ?_))
      refine Ev.seti hg ?_
      refine E_iconst (v := 1) C dX0_add_34 ic_1 (E_iadd C dX0_add_35 ?_)
      refine Ev.seti (nI_1 nb) ?_
      refine xp_0_2 C dX0_add_36 fw_X0_18 (E_aload_n C dX0_add_39 0 rfl (xg_0_2 C dX0_add_40 f_X0_18 ?_))
      refine Ev.seti (show (va_up g 11 (nI (nb + 1))) 11 = nI (nb + 1) from rfl) ?_
      refine E_iconst (v := 1) C dX0_add_43 ic_1 (E_isub C dX0_add_44 ?_)
      refine Ev.seti (nI_pred nb) ?_
      refine E_iretI C hr hlk dX0_add_45 ?_
      exact ⟨rfl, rfl⟩
    ·
      exact absurd (show nI nb < nI 50 from nI_lt hlt (by decide)) c13
set_option maxRecDepth 100000 in
set_option maxHeartbeats 4000000 in
theorem s_bodyAddF {l : Launch} {D : va_G} {tc tt ad : Nat → Nat} {W : Nat → Nat → Int32} {g : Nat → Int32} {h : Nat → Nat → Int32} {Dv : Nat → (Nat → Int32) × (Nat → Nat → Int32)} {Sh : Nat → (Nat → Int32) × (Nat → Int64)} {u : Nat → Int32} {v : Nat → Nat → Int32} {z : Int64} {y : Nat → Int64} (hg : g 11 = nI 50) (x : Int32) : Ct l yX0_add cX0_add 2 (some .int) 1 D tc tt [.ref (ad 32), .int x] (hx ad tc W g h Dv Sh u v z y) (PI fun r w => r = -3 ∧ w = hx ad tc W g h Dv Sh u v z y) := by
  refine Ct.of (by decide +kernel) (Nat.le_of_ble_eq_true rfl) ?_
  intro p e R s m args below meth c A C hr hlk
  refine E_aload_n C dX0_add_0 0 rfl (xg_0_2 C dX0_add_1 f_X0_18 ?_)
  refine Ev.seti hg ?_
  refine E_if_lt C 16 dX0_add_4 (by decide) (fun c4 => ?_) (fun c4 => ?_)
  ·
    exact absurd c4 (nI_pos (by decide))
  ·
    refine E_aload_n C dX0_add_7 0 rfl (xg_0_2 C dX0_add_8 f_X0_18 ?_)
    refine Ev.seti hg ?_
    refine E_bipush (v := 50) C dX0_add_11 bp_50 (E_icmp_lt C 19 dX0_add_13 (by decide) (fun c13 => ?_) (fun c13 => ?_))
    ·
      exact absurd c13 Int32.lt_irrefl
    ·
      refine E_bipush (v := -3) C dX0_add_16 bp_m3 (E_iretI C hr hlk dX0_add_18 ?_)
      exact ⟨rfl, rfl⟩
set_option maxRecDepth 100000 in
set_option maxHeartbeats 4000000 in
theorem s_bodyHas {l : Launch} {D : va_G} {tc tt ad : Nat → Nat} {W : Nat → Nat → Int32} {g : Nat → Int32} {h : Nat → Nat → Int32} {Dv : Nat → (Nat → Int32) × (Nat → Nat → Int32)} {Sh : Nat → (Nat → Int32) × (Nat → Int64)} {u : Nat → Int32} {v : Nat → Nat → Int32} {z : Int64} {y : Nat → Int64} {nb : Nat} (hg : g 11 = nI nb) (hnb : nb ≤ 50) (x : Int32) : Ct l yX0_has cX0_has 2 (some .boolean) 1 D tc tt [.ref (ad 32), .int x] (hx ad tc W g h Dv Sh u v z y) (PI fun r w => r = (if bodB nb x then 1 else 0) ∧ w = hx ad tc W g h Dv Sh u v z y) := by
  refine Ct.of (by decide +kernel) (Nat.le_of_ble_eq_true rfl) ?_
  intro p e R s m args below meth c A C hr hlk
  have en : (nI nb).toInt = (nb : Int) := nI_toInt (by omega)
  refine E_iload_n C dX0_has_0 1 rfl (E_if_lt C 22 dX0_has_1 (by decide) (fun c1 => ?_) (fun c1 => ?_))
  ·
    refine E_iconst (v := 0) C dX0_has_22 ic_0 (E_zretI C hr hlk dX0_has_23 rfl ?_)
    first | (refine ⟨(if_pos ?_).symm, rfl⟩; simp only [bodB, decide_eq_true_eq]; simp only [i32_eq, Int32.lt_iff_toInt_lt, Int32.le_iff_toInt_le, tl_m100, tl_m14, tl_m13, tl_m12, tl_m11, tl_m5, tl_m3, tl_m2, tl_m1, tl_0, tl_1, tl_2, tl_3, tl_4, tl_5, tl_6, tl_7, tl_8, tl_9, tl_10, tl_11, tl_12, tl_13, tl_14, tl_15, tl_16, tl_17, tl_18, tl_19, tl_20, tl_21, tl_22, tl_23, tl_24, tl_25, tl_26, tl_27, tl_28, tl_29, tl_30, tl_31, tl_32, tl_33, tl_34, tl_35, tl_36, tl_37, tl_38, tl_39, tl_40, tl_41, tl_42, tl_43, tl_44, tl_45, tl_46, tl_47, tl_48, tl_49, tl_50, tl_51, tl_52, tl_53, tl_54, tl_55, tl_56, tl_57, tl_58, tl_59, tl_60, tl_61, tl_62, tl_63, tl_64, tl_70, tl_80, tl_81, tl_99, tl_100, tl_110, tl_120, tl_122, tl_124, tl_126, tl_128, tl_130, tl_144, tl_200, tl_255, tl_256, tl_260, tl_360, tl_12345] at *; omega) | (refine ⟨(if_neg ?_).symm, rfl⟩; simp only [bodB, decide_eq_true_eq]; simp only [i32_eq, Int32.lt_iff_toInt_lt, Int32.le_iff_toInt_le, tl_m100, tl_m14, tl_m13, tl_m12, tl_m11, tl_m5, tl_m3, tl_m2, tl_m1, tl_0, tl_1, tl_2, tl_3, tl_4, tl_5, tl_6, tl_7, tl_8, tl_9, tl_10, tl_11, tl_12, tl_13, tl_14, tl_15, tl_16, tl_17, tl_18, tl_19, tl_20, tl_21, tl_22, tl_23, tl_24, tl_25, tl_26, tl_27, tl_28, tl_29, tl_30, tl_31, tl_32, tl_33, tl_34, tl_35, tl_36, tl_37, tl_38, tl_39, tl_40, tl_41, tl_42, tl_43, tl_44, tl_45, tl_46, tl_47, tl_48, tl_49, tl_50, tl_51, tl_52, tl_53, tl_54, tl_55, tl_56, tl_57, tl_58, tl_59, tl_60, tl_61, tl_62, tl_63, tl_64, tl_70, tl_80, tl_81, tl_99, tl_100, tl_110, tl_120, tl_122, tl_124, tl_126, tl_128, tl_130, tl_144, tl_200, tl_255, tl_256, tl_260, tl_360, tl_12345] at *; omega)
  ·
    refine E_iload_n C dX0_has_4 1 rfl (E_aload_n C dX0_has_5 0 rfl (xg_0_2 C dX0_has_6 f_X0_18 ?_))
    refine Ev.seti hg ?_
    refine E_icmp_ge C 22 dX0_has_9 (by decide) (fun c9 => ?_) (fun c9 => ?_)
    ·
      refine E_iconst (v := 0) C dX0_has_22 ic_0 (E_zretI C hr hlk dX0_has_23 rfl ?_)
      first | (refine ⟨(if_pos ?_).symm, rfl⟩; simp only [bodB, decide_eq_true_eq]; simp only [i32_eq, Int32.lt_iff_toInt_lt, Int32.le_iff_toInt_le, tl_m100, tl_m14, tl_m13, tl_m12, tl_m11, tl_m5, tl_m3, tl_m2, tl_m1, tl_0, tl_1, tl_2, tl_3, tl_4, tl_5, tl_6, tl_7, tl_8, tl_9, tl_10, tl_11, tl_12, tl_13, tl_14, tl_15, tl_16, tl_17, tl_18, tl_19, tl_20, tl_21, tl_22, tl_23, tl_24, tl_25, tl_26, tl_27, tl_28, tl_29, tl_30, tl_31, tl_32, tl_33, tl_34, tl_35, tl_36, tl_37, tl_38, tl_39, tl_40, tl_41, tl_42, tl_43, tl_44, tl_45, tl_46, tl_47, tl_48, tl_49, tl_50, tl_51, tl_52, tl_53, tl_54, tl_55, tl_56, tl_57, tl_58, tl_59, tl_60, tl_61, tl_62, tl_63, tl_64, tl_70, tl_80, tl_81, tl_99, tl_100, tl_110, tl_120, tl_122, tl_124, tl_126, tl_128, tl_130, tl_144, tl_200, tl_255, tl_256, tl_260, tl_360, tl_12345] at *; omega) | (refine ⟨(if_neg ?_).symm, rfl⟩; simp only [bodB, decide_eq_true_eq]; simp only [i32_eq, Int32.lt_iff_toInt_lt, Int32.le_iff_toInt_le, tl_m100, tl_m14, tl_m13, tl_m12, tl_m11, tl_m5, tl_m3, tl_m2, tl_m1, tl_0, tl_1, tl_2, tl_3, tl_4, tl_5, tl_6, tl_7, tl_8, tl_9, tl_10, tl_11, tl_12, tl_13, tl_14, tl_15, tl_16, tl_17, tl_18, tl_19, tl_20, tl_21, tl_22, tl_23, tl_24, tl_25, tl_26, tl_27, tl_28, tl_29, tl_30, tl_31, tl_32, tl_33, tl_34, tl_35, tl_36, tl_37, tl_38, tl_39, tl_40, tl_41, tl_42, tl_43, tl_44, tl_45, tl_46, tl_47, tl_48, tl_49, tl_50, tl_51, tl_52, tl_53, tl_54, tl_55, tl_56, tl_57, tl_58, tl_59, tl_60, tl_61, tl_62, tl_63, tl_64, tl_70, tl_80, tl_81, tl_99, tl_100, tl_110, tl_120, tl_122, tl_124, tl_126, tl_128, tl_130, tl_144, tl_200, tl_255, tl_256, tl_260, tl_360, tl_12345] at *; omega)
    ·
      refine E_iload_n C dX0_has_12 1 rfl (E_bipush (v := 50) C dX0_has_13 bp_50 (E_icmp_ge C 22 dX0_has_15 (by decide) (fun c15 => ?_) (fun c15 => ?_)))
      ·
        refine E_iconst (v := 0) C dX0_has_22 ic_0 (E_zretI C hr hlk dX0_has_23 rfl ?_)
        first | (refine ⟨(if_pos ?_).symm, rfl⟩; simp only [bodB, decide_eq_true_eq]; simp only [i32_eq, Int32.lt_iff_toInt_lt, Int32.le_iff_toInt_le, tl_m100, tl_m14, tl_m13, tl_m12, tl_m11, tl_m5, tl_m3, tl_m2, tl_m1, tl_0, tl_1, tl_2, tl_3, tl_4, tl_5, tl_6, tl_7, tl_8, tl_9, tl_10, tl_11, tl_12, tl_13, tl_14, tl_15, tl_16, tl_17, tl_18, tl_19, tl_20, tl_21, tl_22, tl_23, tl_24, tl_25, tl_26, tl_27, tl_28, tl_29, tl_30, tl_31, tl_32, tl_33, tl_34, tl_35, tl_36, tl_37, tl_38, tl_39, tl_40, tl_41, tl_42, tl_43, tl_44, tl_45, tl_46, tl_47, tl_48, tl_49, tl_50, tl_51, tl_52, tl_53, tl_54, tl_55, tl_56, tl_57, tl_58, tl_59, tl_60, tl_61, tl_62, tl_63, tl_64, tl_70, tl_80, tl_81, tl_99, tl_100, tl_110, tl_120, tl_122, tl_124, tl_126, tl_128, tl_130, tl_144, tl_200, tl_255, tl_256, tl_260, tl_360, tl_12345] at *; omega) | (refine ⟨(if_neg ?_).symm, rfl⟩; simp only [bodB, decide_eq_true_eq]; simp only [i32_eq, Int32.lt_iff_toInt_lt, Int32.le_iff_toInt_le, tl_m100, tl_m14, tl_m13, tl_m12, tl_m11, tl_m5, tl_m3, tl_m2, tl_m1, tl_0, tl_1, tl_2, tl_3, tl_4, tl_5, tl_6, tl_7, tl_8, tl_9, tl_10, tl_11, tl_12, tl_13, tl_14, tl_15, tl_16, tl_17, tl_18, tl_19, tl_20, tl_21, tl_22, tl_23, tl_24, tl_25, tl_26, tl_27, tl_28, tl_29, tl_30, tl_31, tl_32, tl_33, tl_34, tl_35, tl_36, tl_37, tl_38, tl_39, tl_40, tl_41, tl_42, tl_43, tl_44, tl_45, tl_46, tl_47, tl_48, tl_49, tl_50, tl_51, tl_52, tl_53, tl_54, tl_55, tl_56, tl_57, tl_58, tl_59, tl_60, tl_61, tl_62, tl_63, tl_64, tl_70, tl_80, tl_81, tl_99, tl_100, tl_110, tl_120, tl_122, tl_124, tl_126, tl_128, tl_130, tl_144, tl_200, tl_255, tl_256, tl_260, tl_360, tl_12345] at *; omega)
      ·
        refine E_iconst (v := 1) C dX0_has_18 ic_1 (E_goto C 23 dX0_has_19 (by decide) (E_zretI C hr hlk dX0_has_23 rfl ?_))
        first | (refine ⟨(if_pos ?_).symm, rfl⟩; simp only [bodB, decide_eq_true_eq]; simp only [i32_eq, Int32.lt_iff_toInt_lt, Int32.le_iff_toInt_le, tl_m100, tl_m14, tl_m13, tl_m12, tl_m11, tl_m5, tl_m3, tl_m2, tl_m1, tl_0, tl_1, tl_2, tl_3, tl_4, tl_5, tl_6, tl_7, tl_8, tl_9, tl_10, tl_11, tl_12, tl_13, tl_14, tl_15, tl_16, tl_17, tl_18, tl_19, tl_20, tl_21, tl_22, tl_23, tl_24, tl_25, tl_26, tl_27, tl_28, tl_29, tl_30, tl_31, tl_32, tl_33, tl_34, tl_35, tl_36, tl_37, tl_38, tl_39, tl_40, tl_41, tl_42, tl_43, tl_44, tl_45, tl_46, tl_47, tl_48, tl_49, tl_50, tl_51, tl_52, tl_53, tl_54, tl_55, tl_56, tl_57, tl_58, tl_59, tl_60, tl_61, tl_62, tl_63, tl_64, tl_70, tl_80, tl_81, tl_99, tl_100, tl_110, tl_120, tl_122, tl_124, tl_126, tl_128, tl_130, tl_144, tl_200, tl_255, tl_256, tl_260, tl_360, tl_12345] at *; omega) | (refine ⟨(if_neg ?_).symm, rfl⟩; simp only [bodB, decide_eq_true_eq]; simp only [i32_eq, Int32.lt_iff_toInt_lt, Int32.le_iff_toInt_le, tl_m100, tl_m14, tl_m13, tl_m12, tl_m11, tl_m5, tl_m3, tl_m2, tl_m1, tl_0, tl_1, tl_2, tl_3, tl_4, tl_5, tl_6, tl_7, tl_8, tl_9, tl_10, tl_11, tl_12, tl_13, tl_14, tl_15, tl_16, tl_17, tl_18, tl_19, tl_20, tl_21, tl_22, tl_23, tl_24, tl_25, tl_26, tl_27, tl_28, tl_29, tl_30, tl_31, tl_32, tl_33, tl_34, tl_35, tl_36, tl_37, tl_38, tl_39, tl_40, tl_41, tl_42, tl_43, tl_44, tl_45, tl_46, tl_47, tl_48, tl_49, tl_50, tl_51, tl_52, tl_53, tl_54, tl_55, tl_56, tl_57, tl_58, tl_59, tl_60, tl_61, tl_62, tl_63, tl_64, tl_70, tl_80, tl_81, tl_99, tl_100, tl_110, tl_120, tl_122, tl_124, tl_126, tl_128, tl_130, tl_144, tl_200, tl_255, tl_256, tl_260, tl_360, tl_12345] at *; omega)
set_option maxRecDepth 100000 in
set_option maxHeartbeats 4000000 in
theorem s_kindOf {l : Launch} {D : va_G} {tc tt ad : Nat → Nat} {W : Nat → Nat → Int32} {g : Nat → Int32} {h : Nat → Nat → Int32} {Dv : Nat → (Nat → Int32) × (Nat → Nat → Int32)} {Sh : Nat → (Nat → Int32) × (Nat → Int64)} {u : Nat → Int32} {v : Nat → Nat → Int32} {z : Int64} {y : Nat → Int64} {nb : Nat} (hg : g 11 = nI nb) (hnb : nb ≤ 50) (x : Int32) : Ct l yX0_kindOf cX0_kindOf 2 (some .int) 2 D tc tt [.ref (ad 32), .int x] (hx ad tc W g h Dv Sh u v z y) (PI fun r w => r = (if bodB nb x then h 7 x.toNatClampNeg else -1) ∧ w = hx ad tc W g h Dv Sh u v z y) := by
  refine Ct.of (by decide +kernel) (Nat.le_of_ble_eq_true rfl) ?_
  intro p e R s m args below meth c A C hr hlk
  refine E_aload_n C dX0_kindOf_0 0 rfl (E_iload_n C dX0_kindOf_1 1 rfl (E_callVI C dX0_kindOf_2 mv_X0_22 32 _ (s_bodyHas hg hnb x) rfl rfl rfl (by decide) (Nat.le_of_ble_eq_true rfl) ?_))
  rintro _ _ ⟨rfl, rfl⟩
  refine E_if_eq C 17 dX0_kindOf_5 (by decide) (fun c5 => ?_) (fun c5 => ?_)
  ·
    have hb : ¬ bodB nb x = true := fun q => by rw [if_pos q] at c5; cases c5
    rw [if_neg hb]
    refine E_iconst (v := -1) C dX0_kindOf_17 ic_m1 (E_iretI C hr hlk dX0_kindOf_18 ?_)
    exact ⟨rfl, rfl⟩
  ·
    have hb : bodB nb x = true := Classical.byContradiction fun q => c5 (if_neg q)
    rw [if_pos hb]
    simp only [bodB, decide_eq_true_eq] at hb
    refine E_aload_n C dX0_kindOf_8 0 rfl (xg_0_0 C dX0_kindOf_9 f_X0_11 (E_iload_n C dX0_kindOf_12 1 rfl (xa_33 C dX0_kindOf_13 (by rw [vp_in_iff]; omega) (E_goto C 18 dX0_kindOf_14 (by decide) (E_iretI C hr hlk dX0_kindOf_18 ?_)))))
    exact ⟨rfl, rfl⟩
set_option maxRecDepth 100000 in
set_option maxHeartbeats 4000000 in
theorem s_aboveOf {l : Launch} {D : va_G} {tc tt : Nat → Nat} {ws : va_W} (x : Int32) : Ct l yX0_aboveOf cX0_aboveOf 1 (some .int) 1 D tc tt [.int x] (ws) (PI fun r w => r = abvF x ∧ w = ws) := by
  refine Ct.of (by decide +kernel) (Nat.le_of_ble_eq_true rfl) ?_
  intro p e R s m args below meth c A C hr hlk
  refine E_iload_n C dX0_aboveOf_0 0 rfl (E_if_lt C 20 dX0_aboveOf_1 (by decide) (fun c1 => ?_) (fun c1 => ?_))
  ·
    have e : abvF x = -1 := if_pos c1
    rw [e]
    refine E_iconst (v := -1) C dX0_aboveOf_20 ic_m1 (E_iretI C hr hlk dX0_aboveOf_21 ?_)
    exact ⟨rfl, rfl⟩
  ·
    refine E_iload_n C dX0_aboveOf_4 0 rfl (E_gets C dX0_aboveOf_5 st_X0_30 C.2.2.2.2.2.2.2.1.2.2.1.1 (E_tlen (v := 8) C dX0_aboveOf_8 C.2.2.2.2.2.2.2.1.2.2.1.2 rfl (E_icmp_ge C 20 dX0_aboveOf_9 (by decide) (fun c9 => ?_) (fun c9 => ?_))))
    ·
      have e : abvF x = -1 := (if_neg c1).trans (if_pos c9)
      rw [e]
      refine E_iconst (v := -1) C dX0_aboveOf_20 ic_m1 (E_iretI C hr hlk dX0_aboveOf_21 ?_)
      exact ⟨rfl, rfl⟩
    ·
      have e : abvF x = kAbove x.toNatClampNeg := (if_neg c1).trans (if_neg c9)
      rw [e]
      refine E_gets C dX0_aboveOf_12 st_X0_30 C.2.2.2.2.2.2.2.1.2.2.1.1 (E_iload_n C dX0_aboveOf_15 0 rfl (E_tald C dX0_aboveOf_16 C.2.2.2.2.2.2.2.1.2.2.1.2 (by rw [vp_in_iff]; simp only [Int32.lt_iff_toInt_lt, Int32.le_iff_toInt_le, tl_m100, tl_m14, tl_m13, tl_m12, tl_m11, tl_m5, tl_m3, tl_m2, tl_m1, tl_0, tl_1, tl_2, tl_3, tl_4, tl_5, tl_6, tl_7, tl_8, tl_9, tl_10, tl_11, tl_12, tl_13, tl_14, tl_15, tl_16, tl_17, tl_18, tl_19, tl_20, tl_21, tl_22, tl_23, tl_24, tl_25, tl_26, tl_27, tl_28, tl_29, tl_30, tl_31, tl_32, tl_33, tl_34, tl_35, tl_36, tl_37, tl_38, tl_39, tl_40, tl_41, tl_42, tl_43, tl_44, tl_45, tl_46, tl_47, tl_48, tl_49, tl_50, tl_51, tl_52, tl_53, tl_54, tl_55, tl_56, tl_57, tl_58, tl_59, tl_60, tl_61, tl_62, tl_63, tl_64, tl_70, tl_80, tl_81, tl_99, tl_100, tl_110, tl_120, tl_122, tl_124, tl_126, tl_128, tl_130, tl_144, tl_200, tl_255, tl_256, tl_260, tl_360, tl_12345] at *; omega) (E_goto C 21 dX0_aboveOf_17 (by decide) (E_iretI C hr hlk dX0_aboveOf_21 ?_))))
      exact ⟨rfl, rfl⟩
set_option maxRecDepth 100000 in
set_option maxHeartbeats 4000000 in
theorem s_ownBody {l : Launch} {D : va_G} {tc tt : Nat → Nat} {ws : va_W} (k a : Int32) : Ct l yX0_ownBody cX0_ownBody 3 (some .int) 1 D tc tt [.int k, .int a] (ws) (PI fun r w => r = ownF k a ∧ w = ws) := by
  refine Ct.of (by decide +kernel) (Nat.le_of_ble_eq_true rfl) ?_
  intro p e R s m args below meth c A C hr hlk
  refine E_iload_n C dX0_ownBody_0 0 rfl (E_iconst (v := 4) C dX0_ownBody_1 ic_4 (E_imul C dX0_ownBody_2 (E_iload_n C dX0_ownBody_3 1 rfl (E_iadd C dX0_ownBody_4 (E_istore_n C dX0_ownBody_5 (by decide) ?_)))))
  refine E_iload_n C dX0_ownBody_6 0 rfl (E_if_lt C 26 dX0_ownBody_7 (by decide) (fun c7 => ?_) (fun c7 => ?_))
  ·
    have e : ownF k a = 0 := if_pos c7
    rw [e]
    refine E_iconst (v := 0) C dX0_ownBody_26 ic_0 (E_iretI C hr hlk dX0_ownBody_27 ?_)
    exact ⟨rfl, rfl⟩
  ·
    refine E_iload_n C dX0_ownBody_10 0 rfl (E_gets C dX0_ownBody_11 st_X0_33 C.2.2.2.2.2.2.2.1.2.2.2.1 (E_tlen (v := 32) C dX0_ownBody_14 C.2.2.2.2.2.2.2.1.2.2.2.2 rfl (E_icmp_ge C 26 dX0_ownBody_15 (by decide) (fun c15 => ?_) (fun c15 => ?_))))
    ·
      have e : ownF k a = 0 := (if_neg c7).trans (if_pos c15)
      rw [e]
      refine E_iconst (v := 0) C dX0_ownBody_26 ic_0 (E_iretI C hr hlk dX0_ownBody_27 ?_)
      exact ⟨rfl, rfl⟩
    ·
      have e : ownF k a = kOwn (k * 4 + a).toNatClampNeg := (if_neg c7).trans (if_neg c15)
      rw [e]
      refine E_gets C dX0_ownBody_18 st_X0_33 C.2.2.2.2.2.2.2.1.2.2.2.1 (E_iload_n C dX0_ownBody_21 0 rfl (E_tald C dX0_ownBody_22 C.2.2.2.2.2.2.2.1.2.2.2.2 (by rw [vp_in_iff]; simp only [Int32.lt_iff_toInt_lt, Int32.le_iff_toInt_le, tl_m100, tl_m14, tl_m13, tl_m12, tl_m11, tl_m5, tl_m3, tl_m2, tl_m1, tl_0, tl_1, tl_2, tl_3, tl_4, tl_5, tl_6, tl_7, tl_8, tl_9, tl_10, tl_11, tl_12, tl_13, tl_14, tl_15, tl_16, tl_17, tl_18, tl_19, tl_20, tl_21, tl_22, tl_23, tl_24, tl_25, tl_26, tl_27, tl_28, tl_29, tl_30, tl_31, tl_32, tl_33, tl_34, tl_35, tl_36, tl_37, tl_38, tl_39, tl_40, tl_41, tl_42, tl_43, tl_44, tl_45, tl_46, tl_47, tl_48, tl_49, tl_50, tl_51, tl_52, tl_53, tl_54, tl_55, tl_56, tl_57, tl_58, tl_59, tl_60, tl_61, tl_62, tl_63, tl_64, tl_70, tl_80, tl_81, tl_99, tl_100, tl_110, tl_120, tl_122, tl_124, tl_126, tl_128, tl_130, tl_144, tl_200, tl_255, tl_256, tl_260, tl_360, tl_12345] at *; omega) (E_goto C 27 dX0_ownBody_23 (by decide) (E_iretI C hr hlk dX0_ownBody_27 ?_))))
      exact ⟨rfl, rfl⟩
set_option maxRecDepth 100000 in
set_option maxHeartbeats 4000000 in
theorem s_nearest {l : Launch} {D : va_G} {tc tt : Nat → Nat} {ws : va_W} (fm a : Int32) : Ct l yX0_nearest cX0_nearest 4 (some .int) 2 D tc tt [.int fm, .int a] (ws) (PI fun r w => r = neaR 8 fm a ∧ w = ws) := by
  refine Ct.of (by decide +kernel) (Nat.le_of_ble_eq_true rfl) ?_
  intro p e R s m args below meth c A C hr hlk
  have K : ∀ (n i : Nat) (x : Int32), i ≤ 8 → 8 < i + n → neaR (8 - i) x a = neaR 8 fm a → Ev p l e R s m args below meth c 0 0 (EQ below (PI fun r w => r = neaR 8 fm a ∧ w = ws) args s D A) D A 4 (ws) 4 [(3, .int (nI i)), (2, .int x), (0, .int fm), (1, .int a)] [] := by
    intro n
    induction n with
    | zero =>
      intro i x h1 h2 hres
      exfalso; omega
    | succ n ih =>
      intro i x h1 h2 hres
      refine E_iload_n C dX0_nearest_4 0 rfl (E_bipush (v := 8) C dX0_nearest_5 bp_8 (E_icmp_ge C 33 dX0_nearest_7 (by decide) (fun c7 => ?_) (fun c7 => ?_)))
      ·
        have hz : 8 - i = 0 := by
          rcases Nat.lt_or_ge i 8 with q | q
          · exact absurd (show nI 8 ≤ nI i from c7) (nI_ge q (by decide))
          · omega
        rw [hz] at hres
        rw [← hres]
        refine E_iload_n C dX0_nearest_33 1 rfl (E_iretI C hr hlk dX0_nearest_34 ?_)
        exact ⟨rfl, rfl⟩
      ·
        have hi : i < 8 := by
          rcases Nat.lt_or_ge i 8 with q | q
          · exact q
          · exact absurd (show nI 8 ≤ nI i from nI_le q (by omega)) c7
        rw [show 8 - i = (8 - (i + 1)) + 1 by omega] at hres
        refine E_iload_n C dX0_nearest_10 1 rfl (E_if_lt C 33 dX0_nearest_11 (by decide) (fun c11 => ?_) (fun c11 => ?_))
        ·
          rw [neaR, if_pos c11] at hres
          rw [← hres]
          refine E_iload_n C dX0_nearest_33 1 rfl (E_iretI C hr hlk dX0_nearest_34 ?_)
          exact ⟨rfl, rfl⟩
        ·
          rw [neaR, if_neg c11] at hres
          refine E_iload_n C dX0_nearest_14 1 rfl (E_iload_n C dX0_nearest_15 3 rfl (E_callSI C dX0_nearest_16 ms_X0_36 _ (s_ownBody x a) rfl rfl (by decide) (Nat.le_of_ble_eq_true rfl) ?_))
          rintro _ _ ⟨rfl, rfl⟩
          refine E_if_ne C 33 dX0_nearest_19 (by decide) (fun c19 => ?_) (fun c19 => ?_)
          ·
            rw [if_neg c19] at hres
            rw [← hres]
            refine E_iload_n C dX0_nearest_33 1 rfl (E_iretI C hr hlk dX0_nearest_34 ?_)
            exact ⟨rfl, rfl⟩
          ·
            rw [if_pos c19] at hres
            refine E_iload_n C dX0_nearest_22 1 rfl (E_callSI C dX0_nearest_23 ms_X0_26 _ (s_aboveOf x) rfl rfl (by decide) (Nat.le_of_ble_eq_true rfl) ?_)
            rintro _ _ ⟨rfl, rfl⟩
            refine E_istore_n C dX0_nearest_26 (by decide) (E_iinc C dX0_nearest_27 1 rfl (nI_1 i) (by decide) (E_goto C 4 dX0_nearest_30 (by decide) ?_))
            exact ih (i + 1) _ (by omega) (by omega) hres
  refine E_iload_n C dX0_nearest_0 0 rfl (E_istore_n C dX0_nearest_1 (by decide) (E_iconst (v := 0) C dX0_nearest_2 ic_0 (E_istore_n C dX0_nearest_3 (by decide) ?_)))
  exact K 9 0 fm (by omega) (by omega) rfl
set_option maxRecDepth 100000 in
set_option maxHeartbeats 4000000 in
theorem s_isUnder {l : Launch} {D : va_G} {tc tt : Nat → Nat} {ws : va_W} (kd ot : Int32) : Ct l yX0_isUnder cX0_isUnder 4 (some .boolean) 2 D tc tt [.int kd, .int ot] (ws) (PI fun r w => r = (if undR 8 kd ot = ot then 1 else 0) ∧ w = ws) := by
  refine Ct.of (by decide +kernel) (Nat.le_of_ble_eq_true rfl) ?_
  intro p e R s m args below meth c A C hr hlk
  have K : ∀ (n i : Nat) (x : Int32), i ≤ 8 → 8 < i + n → undR (8 - i) x ot = undR 8 kd ot → Ev p l e R s m args below meth c 0 0 (EQ below (PI fun r w => r = (if undR 8 kd ot = ot then 1 else 0) ∧ w = ws) args s D A) D A 4 (ws) 4 [(3, .int (nI i)), (2, .int x), (0, .int kd), (1, .int ot)] [] := by
    intro n
    induction n with
    | zero =>
      intro i x h1 h2 hres
      exfalso; omega
    | succ n ih =>
      intro i x h1 h2 hres
      refine E_iload_n C dX0_isUnder_4 0 rfl (E_bipush (v := 8) C dX0_isUnder_5 bp_8 (E_icmp_ge C 30 dX0_isUnder_7 (by decide) (fun c7 => ?_) (fun c7 => ?_)))
      ·
        have hz : 8 - i = 0 := by
          rcases Nat.lt_or_ge i 8 with q | q
          · exact absurd (show nI 8 ≤ nI i from c7) (nI_ge q (by decide))
          · omega
        rw [hz] at hres
        have hres : x = undR 8 kd ot := hres
        rw [← hres]
        refine E_iload_n C dX0_isUnder_30 1 rfl (E_iload_n C dX0_isUnder_31 3 rfl (E_icmp_ne C 39 dX0_isUnder_32 (by decide) (fun c32 => ?_) (fun c32 => ?_)))
        ·
          rw [if_neg c32]
          refine E_iconst (v := 0) C dX0_isUnder_39 ic_0 (E_zretI C hr hlk dX0_isUnder_40 rfl ?_)
          exact ⟨rfl, rfl⟩
        ·
          rw [if_pos c32]
          refine E_iconst (v := 1) C dX0_isUnder_35 ic_1 (E_goto C 40 dX0_isUnder_36 (by decide) (E_zretI C hr hlk dX0_isUnder_40 rfl ?_))
          exact ⟨rfl, rfl⟩
      ·
        have hi : i < 8 := by
          rcases Nat.lt_or_ge i 8 with q | q
          · exact q
          · exact absurd (show nI 8 ≤ nI i from nI_le q (by omega)) c7
        rw [show 8 - i = (8 - (i + 1)) + 1 by omega] at hres
        refine E_iload_n C dX0_isUnder_10 1 rfl (E_if_lt C 30 dX0_isUnder_11 (by decide) (fun c11 => ?_) (fun c11 => ?_))
        ·
          rw [undR, if_pos c11] at hres
          rw [← hres]
          refine E_iload_n C dX0_isUnder_30 1 rfl (E_iload_n C dX0_isUnder_31 3 rfl (E_icmp_ne C 39 dX0_isUnder_32 (by decide) (fun c32_2 => ?_) (fun c32_2 => ?_)))
          ·
            rw [if_neg c32_2]
            refine E_iconst (v := 0) C dX0_isUnder_39 ic_0 (E_zretI C hr hlk dX0_isUnder_40 rfl ?_)
            exact ⟨rfl, rfl⟩
          ·
            rw [if_pos c32_2]
            refine E_iconst (v := 1) C dX0_isUnder_35 ic_1 (E_goto C 40 dX0_isUnder_36 (by decide) (E_zretI C hr hlk dX0_isUnder_40 rfl ?_))
            exact ⟨rfl, rfl⟩
        ·
          rw [undR, if_neg c11] at hres
          refine E_iload_n C dX0_isUnder_14 1 rfl (E_iload_n C dX0_isUnder_15 3 rfl (E_icmp_eq C 30 dX0_isUnder_16 (by decide) (fun c16 => ?_) (fun c16 => ?_)))
          ·
            rw [if_pos c16] at hres
            rw [← hres]
            refine E_iload_n C dX0_isUnder_30 1 rfl (E_iload_n C dX0_isUnder_31 3 rfl (E_icmp_ne C 39 dX0_isUnder_32 (by decide) (fun c32_3 => ?_) (fun c32_3 => ?_)))
            ·
              rw [if_neg c32_3]
              refine E_iconst (v := 0) C dX0_isUnder_39 ic_0 (E_zretI C hr hlk dX0_isUnder_40 rfl ?_)
              exact ⟨rfl, rfl⟩
            ·
              rw [if_pos c32_3]
              refine E_iconst (v := 1) C dX0_isUnder_35 ic_1 (E_goto C 40 dX0_isUnder_36 (by decide) (E_zretI C hr hlk dX0_isUnder_40 rfl ?_))
              exact ⟨rfl, rfl⟩
          ·
            rw [if_neg c16] at hres
            refine E_iload_n C dX0_isUnder_19 1 rfl (E_callSI C dX0_isUnder_20 ms_X0_26 _ (s_aboveOf x) rfl rfl (by decide) (Nat.le_of_ble_eq_true rfl) ?_)
            rintro _ _ ⟨rfl, rfl⟩
            refine E_istore_n C dX0_isUnder_23 (by decide) (E_iinc C dX0_isUnder_24 1 rfl (nI_1 i) (by decide) (E_goto C 4 dX0_isUnder_27 (by decide) ?_))
            exact ih (i + 1) _ (by omega) (by omega) hres
  refine E_iload_n C dX0_isUnder_0 0 rfl (E_istore_n C dX0_isUnder_1 (by decide) (E_iconst (v := 0) C dX0_isUnder_2 ic_0 (E_istore_n C dX0_isUnder_3 (by decide) ?_)))
  exact K 9 0 kd (by omega) (by omega) rfl
set_option maxRecDepth 100000 in
set_option maxHeartbeats 4000000 in
theorem s_noteA {l : Launch} {D : va_G} {tc tt ad : Nat → Nat} {W : Nat → Nat → Int32} {g : Nat → Int32} {h : Nat → Nat → Int32} {Dv : Nat → (Nat → Int32) × (Nat → Nat → Int32)} {Sh : Nat → (Nat → Int32) × (Nat → Int64)} {u : Nat → Int32} {v : Nat → Nat → Int32} {z : Int64} {y : Nat → Int64} (b : Int32) : Ct l yX0_note cX0_note 2 none 1 D tc tt [.ref (ad 32), .int b] (hx ad tc W g h Dv Sh u v z y) (PV fun w => w = hx ad tc W (va_up g 12 (noteF (g 12, h 8) b).1) (va_up h 8 (noteF (g 12, h 8) b).2) Dv Sh u v z y) := by
  refine Ct.of (by decide +kernel) (Nat.le_of_ble_eq_true rfl) ?_
  intro p e R s m args below meth c A C hr hlk
  refine E_aload_n C dX0_note_0 0 rfl (xg_0_3 C dX0_note_1 f_X0_40 (E_if_lt C 26 dX0_note_4 (by decide) (fun c4 => ?_) (fun c4 => ?_)))
  ·
    have e : (noteF (g 12, h 8) b).2 = h 8 := if_pos c4
    rw [e, up_self]
    refine E_aload_n C dX0_note_26 0 rfl (E_dup C dX0_note_27 rfl (xg_0_3 C dX0_note_28 f_X0_40 (E_iconst (v := 1) C dX0_note_31 ic_1 (E_iadd C dX0_note_32 (xp_0_3 C dX0_note_33 fw_X0_40 ?_)))))
    refine E_vretV C hr hlk dX0_note_36 ?_
    rfl
  ·
    refine E_aload_n C dX0_note_7 0 rfl (xg_0_3 C dX0_note_8 f_X0_40 (E_bipush (v := 24) C dX0_note_11 bp_24 (E_icmp_ge C 26 dX0_note_13 (by decide) (fun c13 => ?_) (fun c13 => ?_))))
    ·
      have e : (noteF (g 12, h 8) b).2 = h 8 := (if_neg c4).trans (if_neg (Int32.not_lt.mpr c13))
      rw [e, up_self]
      refine E_aload_n C dX0_note_26 0 rfl (E_dup C dX0_note_27 rfl (xg_0_3 C dX0_note_28 f_X0_40 (E_iconst (v := 1) C dX0_note_31 ic_1 (E_iadd C dX0_note_32 (xp_0_3 C dX0_note_33 fw_X0_40 ?_)))))
      refine E_vretV C hr hlk dX0_note_36 ?_
      rfl
    ·
      have e : (noteF (g 12, h 8) b).2 = upd (h 8) (g 12).toNatClampNeg b := (if_neg c4).trans (if_pos (Int32.not_le.mp c13))
      rw [e]
      refine E_aload_n C dX0_note_16 0 rfl (xg_0_1 C dX0_note_17 f_X0_15 (E_aload_n C dX0_note_20 0 rfl (xg_0_3 C dX0_note_21 f_X0_40 (E_iload_n C dX0_note_24 1 rfl (xs_34 C dX0_note_25 (by rw [vp_in_iff]; simp only [Int32.lt_iff_toInt_lt, Int32.le_iff_toInt_le, tl_m100, tl_m14, tl_m13, tl_m12, tl_m11, tl_m5, tl_m3, tl_m2, tl_m1, tl_0, tl_1, tl_2, tl_3, tl_4, tl_5, tl_6, tl_7, tl_8, tl_9, tl_10, tl_11, tl_12, tl_13, tl_14, tl_15, tl_16, tl_17, tl_18, tl_19, tl_20, tl_21, tl_22, tl_23, tl_24, tl_25, tl_26, tl_27, tl_28, tl_29, tl_30, tl_31, tl_32, tl_33, tl_34, tl_35, tl_36, tl_37, tl_38, tl_39, tl_40, tl_41, tl_42, tl_43, tl_44, tl_45, tl_46, tl_47, tl_48, tl_49, tl_50, tl_51, tl_52, tl_53, tl_54, tl_55, tl_56, tl_57, tl_58, tl_59, tl_60, tl_61, tl_62, tl_63, tl_64, tl_70, tl_80, tl_81, tl_99, tl_100, tl_110, tl_120, tl_122, tl_124, tl_126, tl_128, tl_130, tl_144, tl_200, tl_255, tl_256, tl_260, tl_360, tl_12345] at *; omega) ?_)))))
      refine E_aload_n C dX0_note_26 0 rfl (E_dup C dX0_note_27 rfl (xg_0_3 C dX0_note_28 f_X0_40 (E_iconst (v := 1) C dX0_note_31 ic_1 (E_iadd C dX0_note_32 (xp_0_3 C dX0_note_33 fw_X0_40 ?_)))))
      refine E_vretV C hr hlk dX0_note_36 ?_
      rfl
set_option maxRecDepth 100000 in
set_option maxHeartbeats 4000000 in
theorem s_perform {l : Launch} {D : va_G} {tc tt ad : Nat → Nat} {W : Nat → Nat → Int32} {Dv : Nat → (Nat → Int32) × (Nat → Nat → Int32)} {Sh : Nat → (Nat → Int32) × (Nat → Int64)} {u : Nat → Int32} {v : Nat → Nat → Int32} {z : Int64} {y : Nat → Int64} {nb sf : Nat} {ow : Int32} (hnb : nb ≤ 50) (hsf : sf < nb) : ∀ (n dp : Nat), dp + n = 40 → ∀ (g : Nat → Int32) (h : Nat → Nat → Int32) (fm a x : Int32), g 11 = nI nb → (if bodB nb (nI sf) then h 7 (nI sf).toNatClampNeg else -1) = ow → Ct l yX0_perform cX0_perform 11 (some .int) (n + 3) D tc tt [.ref (ad 32), .int (nI sf), .int fm, .int a, .int x, .int (nI dp)] (hx ad tc W g h Dv Sh u v z y) (PI fun r w => r = (perfF (nI sf) ow n fm a x (g 12, h 8)).1 ∧ w = hx ad tc W (va_up g 12 (perfF (nI sf) ow n fm a x (g 12, h 8)).2.1) (va_up h 8 (perfF (nI sf) ow n fm a x (g 12, h 8)).2.2) Dv Sh u v z y) := by
  intro n
  induction n with
  | zero =>
    intro dp hdp g h fm a x hg hk
    refine Ct.of (by decide +kernel) (Nat.le_of_ble_eq_true rfl) ?_
    intro p e R s m args below meth c A C hr hlk
    show Ev _ _ _ _ _ _ _ _ _ _ _ _ (EQ _ (PI fun r w => r = 0 ∧ w = hx ad tc W (va_up g 12 (g 12)) (va_up h 8 (h 8)) Dv Sh u v z y) _ _ _ _) _ _ _ _ _ _ _
    rw [up_self, up_self]
    refine E_iload_n C dX0_perform_0 2 rfl (E_iload_n C dX0_perform_1 3 rfl (E_callSI C dX0_perform_2 ms_X0_50 _ (s_nearest fm a) rfl rfl (by decide) (Nat.le_of_ble_eq_true rfl) ?_))
    rintro _ _ ⟨rfl, rfl⟩
    refine E_istore C dX0_perform_5 (by decide) (E_iload C dX0_perform_7 0 rfl (E_if_lt C 19 dX0_perform_9 (by decide) (fun c9 => ?_) (fun c9 => ?_)))
    ·
      refine E_iconst (v := 0) C dX0_perform_19 ic_0 (E_iretI C hr hlk dX0_perform_20 ?_)
      exact ⟨rfl, rfl⟩
    ·
      refine E_iload C dX0_perform_12 6 rfl (E_bipush (v := 40) C dX0_perform_14 bp_40 (E_icmp_lt C 21 dX0_perform_16 (by decide) (fun c16 => ?_) (fun c16 => ?_)))
      ·
        exact absurd (show nI dp < nI 40 from c16) (nI_nlt (by omega) (by omega))
      ·
        refine E_iconst (v := 0) C dX0_perform_19 ic_0 (E_iretI C hr hlk dX0_perform_20 ?_)
        exact ⟨rfl, rfl⟩
  | succ n ih =>
    intro dp hdp g h fm a x hg hk
    refine Ct.of (by decide +kernel) (Nat.le_of_ble_eq_true rfl) ?_
    intro p e R s m args below meth c A C hr hlk
    refine E_iload_n C dX0_perform_0 2 rfl (E_iload_n C dX0_perform_1 3 rfl (E_callSI C dX0_perform_2 ms_X0_50 _ (s_nearest fm a) rfl rfl (by omega) (Nat.le_of_ble_eq_true rfl) ?_))
    rintro _ _ ⟨rfl, rfl⟩
    refine E_istore C dX0_perform_5 (by decide) (E_iload C dX0_perform_7 0 rfl (E_if_lt C 19 dX0_perform_9 (by decide) (fun c9 => ?_) (fun c9 => ?_)))
    ·
      rw [perfF_0 c9]
      show Ev _ _ _ _ _ _ _ _ _ _ _ _ (EQ _ (PI fun r w => r = 0 ∧ w = hx ad tc W (va_up g 12 (g 12)) (va_up h 8 (h 8)) Dv Sh u v z y) _ _ _ _) _ _ _ _ _ _ _
      rw [up_self, up_self]
      refine E_iconst (v := 0) C dX0_perform_19 ic_0 (E_iretI C hr hlk dX0_perform_20 ?_)
      exact ⟨rfl, rfl⟩
    ·
      refine E_iload C dX0_perform_12 6 rfl (E_bipush (v := 40) C dX0_perform_14 bp_40 (E_icmp_lt C 21 dX0_perform_16 (by decide) (fun c16 => ?_) (fun c16 => ?_)))
      ·
        refine E_iload C dX0_perform_21 0 rfl (E_iload_n C dX0_perform_23 4 rfl (E_callSI C dX0_perform_24 ms_X0_36 _ (s_ownBody _ _) rfl rfl (by omega) (Nat.le_of_ble_eq_true rfl) ?_))
        rintro _ _ ⟨rfl, rfl⟩
        refine E_istore C dX0_perform_27 (by decide) (E_iload C dX0_perform_29 1 rfl (E_callSI C dX0_perform_31 ms_X0_26 _ (s_aboveOf _) rfl rfl (by omega) (Nat.le_of_ble_eq_true rfl) ?_))
        rintro _ _ ⟨rfl, rfl⟩
        refine E_istore C dX0_perform_34 (by decide) (E_aload_n C dX0_perform_36 3 rfl (E_iload_n C dX0_perform_37 4 rfl (E_callVI C dX0_perform_38 mv_X0_43 32 _ (s_kindOf hg hnb (nI sf)) rfl rfl rfl (by omega) (Nat.le_of_ble_eq_true rfl) ?_)))
        rintro _ _ ⟨rfl, rfl⟩
        refine Ev.seti hk ?_
        refine E_istore C dX0_perform_41 (by decide) (E_iload C dX0_perform_43 9 rfl (E_iconst (v := 1) C dX0_perform_45 ic_1 (E_iadd C dX0_perform_46 ?_)))
        refine Ev.seti (nI_1 dp) ?_
        refine E_istore C dX0_perform_47 (by decide) (E_aload_n C dX0_perform_49 5 rfl (E_iload C dX0_perform_50 3 rfl (E_callVV C dX0_perform_52 mv_X0_53 32 _ (s_noteA _) rfl rfl rfl (by omega) (Nat.le_of_ble_eq_true rfl) ?_)))
        rintro _ rfl
        refine E_iload C dX0_perform_55 3 rfl ?_
        by_cases e57 : ownF (neaR 8 fm a) a = 1
        ·
          rw [e57]
          refine E_lookup C 180 dX0_perform_57 (by decide) rfl (by decide) (E_iload C dX0_perform_180 9 rfl (E_iload_n C dX0_perform_182 6 rfl (E_iadd C dX0_perform_183 (E_iretI C hr hlk dX0_perform_184 ?_))))
          rw [perfF_s c9, perfB, if_pos e57, e57]
          exact ⟨rfl, rfl⟩
        by_cases e57_2 : ownF (neaR 8 fm a) a = 2
        ·
          rw [e57_2]
          refine E_lookup C 185 dX0_perform_57 (by decide) rfl (by decide) (E_aload_n C dX0_perform_185 5 rfl (E_iload_n C dX0_perform_186 6 rfl (E_iload C dX0_perform_187 1 rfl (E_iconst (v := 1) C dX0_perform_189 ic_1 (E_iload C dX0_perform_190 9 rfl ?_)))))
          refine E_iload C dX0_perform_192 0 rfl (E_callVI C dX0_perform_194 mv_X0_46 32 _ (ih (dp + 1) (by omega) _ _ ow 1 x hg hk) rfl rfl rfl (by omega) (Nat.le_of_ble_eq_true rfl) ?_)
          rintro _ _ ⟨rfl, rfl⟩
          refine Ev.setw (by rw [bx_uu, bx_uu]) ?_
          refine E_aload_n C dX0_perform_197 5 rfl (E_iload_n C dX0_perform_198 6 rfl (E_iload C dX0_perform_199 1 rfl (E_iconst (v := 2) C dX0_perform_201 ic_2 (E_iconst (v := 1) C dX0_perform_202 ic_1 (E_iload C dX0_perform_203 0 rfl ?_)))))
          refine E_callVI C dX0_perform_205 mv_X0_46 32 _ (ih (dp + 1) (by omega) _ _ ow 2 1 hg hk) rfl rfl rfl (by omega) (Nat.le_of_ble_eq_true rfl) ?_
          rintro _ _ ⟨rfl, rfl⟩
          refine Ev.setw (by rw [bx_uu, bx_uu]) ?_
          refine E_isub C dX0_perform_208 (E_iretI C hr hlk dX0_perform_209 ?_)
          rw [perfF_s c9, perfB, if_neg (by rw [e57_2]; decide), if_pos e57_2, e57_2]
          exact ⟨rfl, rfl⟩
        by_cases e57_3 : ownF (neaR 8 fm a) a = 10
        ·
          rw [e57_3]
          refine E_lookup C 210 dX0_perform_57 (by decide) rfl (by decide) (E_aload_n C dX0_perform_210 5 rfl (E_iload_n C dX0_perform_211 6 rfl (E_iload C dX0_perform_212 1 rfl (E_iconst (v := 0) C dX0_perform_214 ic_0 (E_iload C dX0_perform_215 9 rfl ?_)))))
          refine E_iload C dX0_perform_217 0 rfl (E_callVI C dX0_perform_219 mv_X0_46 32 _ (ih (dp + 1) (by omega) _ _ ow 0 x hg hk) rfl rfl rfl (by omega) (Nat.le_of_ble_eq_true rfl) ?_)
          rintro _ _ ⟨rfl, rfl⟩
          refine Ev.setw (by rw [bx_uu, bx_uu]) ?_
          refine E_iconst (v := 2) C dX0_perform_222 ic_2 (E_imul C dX0_perform_223 (E_iretI C hr hlk dX0_perform_224 ?_))
          rw [perfF_s c9, perfB, if_neg (by rw [e57_3]; decide), if_neg (by rw [e57_3]; decide), if_pos e57_3, e57_3]
          exact ⟨rfl, rfl⟩
        by_cases e57_4 : ownF (neaR 8 fm a) a = 11
        ·
          rw [e57_4]
          refine E_lookup C 225 dX0_perform_57 (by decide) rfl (by decide) (E_iload C dX0_perform_225 9 rfl (E_iload_n C dX0_perform_227 6 rfl (E_ixor C dX0_perform_228 (E_iretI C hr hlk dX0_perform_229 ?_))))
          rw [perfF_s c9, perfB, if_neg (by rw [e57_4]; decide), if_neg (by rw [e57_4]; decide), if_neg (by rw [e57_4]; decide), if_pos e57_4, e57_4]
          exact ⟨rfl, rfl⟩
        by_cases e57_5 : ownF (neaR 8 fm a) a = 20
        ·
          rw [e57_5]
          refine E_lookup C 230 dX0_perform_57 (by decide) rfl (by decide) (E_aload_n C dX0_perform_230 5 rfl (E_iload_n C dX0_perform_231 6 rfl (E_iload C dX0_perform_232 2 rfl (E_iconst (v := 0) C dX0_perform_234 ic_0 (E_iload C dX0_perform_235 9 rfl ?_)))))
          refine E_iload C dX0_perform_237 0 rfl (E_callVI C dX0_perform_239 mv_X0_46 32 _ (ih (dp + 1) (by omega) _ _ (abvF (neaR 8 fm a)) 0 x hg hk) rfl rfl rfl (by omega) (Nat.le_of_ble_eq_true rfl) ?_)
          rintro _ _ ⟨rfl, rfl⟩
          refine Ev.setw (by rw [bx_uu, bx_uu]) ?_
          refine E_iconst (v := 3) C dX0_perform_242 ic_3 (E_iadd C dX0_perform_243 (E_iretI C hr hlk dX0_perform_244 ?_))
          rw [perfF_s c9, perfB, if_neg (by rw [e57_5]; decide), if_neg (by rw [e57_5]; decide), if_neg (by rw [e57_5]; decide), if_neg (by rw [e57_5]; decide), if_pos e57_5, e57_5]
          exact ⟨rfl, rfl⟩
        by_cases e57_6 : ownF (neaR 8 fm a) a = 30
        ·
          rw [e57_6]
          refine E_lookup C 245 dX0_perform_57 (by decide) rfl (by decide) (E_aload_n C dX0_perform_245 5 rfl (E_iload_n C dX0_perform_246 6 rfl (E_iload C dX0_perform_247 2 rfl (E_iconst (v := 1) C dX0_perform_249 ic_1 (E_iload C dX0_perform_250 9 rfl ?_)))))
          refine E_iload C dX0_perform_252 0 rfl (E_callVI C dX0_perform_254 mv_X0_46 32 _ (ih (dp + 1) (by omega) _ _ (abvF (neaR 8 fm a)) 1 x hg hk) rfl rfl rfl (by omega) (Nat.le_of_ble_eq_true rfl) ?_)
          rintro _ _ ⟨rfl, rfl⟩
          refine Ev.setw (by rw [bx_uu, bx_uu]) ?_
          refine E_ineg C dX0_perform_257 (E_iretI C hr hlk dX0_perform_258 ?_)
          rw [perfF_s c9, perfB, if_neg (by rw [e57_6]; decide), if_neg (by rw [e57_6]; decide), if_neg (by rw [e57_6]; decide), if_neg (by rw [e57_6]; decide), if_neg (by rw [e57_6]; decide), if_pos e57_6, e57_6]
          exact ⟨rfl, rfl⟩
        by_cases e57_7 : ownF (neaR 8 fm a) a = 40
        ·
          rw [e57_7]
          refine E_lookup C 259 dX0_perform_57 (by decide) rfl (by decide) (E_aload_n C dX0_perform_259 5 rfl (E_iload_n C dX0_perform_260 6 rfl (E_iload C dX0_perform_261 2 rfl (E_iconst (v := 2) C dX0_perform_263 ic_2 (E_iload C dX0_perform_264 9 rfl ?_)))))
          refine E_iload C dX0_perform_266 0 rfl (E_callVI C dX0_perform_268 mv_X0_46 32 _ (ih (dp + 1) (by omega) _ _ (abvF (neaR 8 fm a)) 2 x hg hk) rfl rfl rfl (by omega) (Nat.le_of_ble_eq_true rfl) ?_)
          rintro _ _ ⟨rfl, rfl⟩
          refine Ev.setw (by rw [bx_uu, bx_uu]) ?_
          refine E_iconst (v := 3) C dX0_perform_271 ic_3 (E_imul C dX0_perform_272 (E_iretI C hr hlk dX0_perform_273 ?_))
          rw [perfF_s c9, perfB, if_neg (by rw [e57_7]; decide), if_neg (by rw [e57_7]; decide), if_neg (by rw [e57_7]; decide), if_neg (by rw [e57_7]; decide), if_neg (by rw [e57_7]; decide), if_neg (by rw [e57_7]; decide), if_pos e57_7, e57_7]
          exact ⟨rfl, rfl⟩
        by_cases e57_8 : ownF (neaR 8 fm a) a = 41
        ·
          rw [e57_8]
          refine E_lookup C 274 dX0_perform_57 (by decide) rfl (by decide) (E_aload_n C dX0_perform_274 5 rfl (E_iload_n C dX0_perform_275 6 rfl (E_iload C dX0_perform_276 2 rfl (E_iconst (v := 1) C dX0_perform_278 ic_1 (E_iload C dX0_perform_279 9 rfl ?_)))))
          refine E_iconst (v := 1) C dX0_perform_281 ic_1 (E_iadd C dX0_perform_282 (E_iload C dX0_perform_283 0 rfl (E_callVI C dX0_perform_285 mv_X0_46 32 _ (ih (dp + 1) (by omega) _ _ (abvF (neaR 8 fm a)) 1 (x + 1) hg hk) rfl rfl rfl (by omega) (Nat.le_of_ble_eq_true rfl) ?_)))
          rintro _ _ ⟨rfl, rfl⟩
          refine Ev.setw (by rw [bx_uu, bx_uu]) ?_
          refine E_iretI C hr hlk dX0_perform_288 ?_
          rw [perfF_s c9, perfB, if_neg (by rw [e57_8]; decide), if_neg (by rw [e57_8]; decide), if_neg (by rw [e57_8]; decide), if_neg (by rw [e57_8]; decide), if_neg (by rw [e57_8]; decide), if_neg (by rw [e57_8]; decide), if_neg (by rw [e57_8]; decide), if_pos e57_8, e57_8]
          exact ⟨rfl, rfl⟩
        by_cases e57_9 : ownF (neaR 8 fm a) a = 50
        ·
          rw [e57_9]
          refine E_lookup C 289 dX0_perform_57 (by decide) rfl (by decide) (E_aload_n C dX0_perform_289 5 rfl (E_iload_n C dX0_perform_290 6 rfl (E_iload C dX0_perform_291 2 rfl (E_iconst (v := 3) C dX0_perform_293 ic_3 (E_iload C dX0_perform_294 9 rfl ?_)))))
          refine E_iload C dX0_perform_296 0 rfl (E_callVI C dX0_perform_298 mv_X0_46 32 _ (ih (dp + 1) (by omega) _ _ (abvF (neaR 8 fm a)) 3 x hg hk) rfl rfl rfl (by omega) (Nat.le_of_ble_eq_true rfl) ?_)
          rintro _ _ ⟨rfl, rfl⟩
          refine Ev.setw (by rw [bx_uu, bx_uu]) ?_
          refine E_iconst (v := 5) C dX0_perform_301 ic_5 (E_ixor C dX0_perform_302 (E_iretI C hr hlk dX0_perform_303 ?_))
          rw [perfF_s c9, perfB, if_neg (by rw [e57_9]; decide), if_neg (by rw [e57_9]; decide), if_neg (by rw [e57_9]; decide), if_neg (by rw [e57_9]; decide), if_neg (by rw [e57_9]; decide), if_neg (by rw [e57_9]; decide), if_neg (by rw [e57_9]; decide), if_neg (by rw [e57_9]; decide), if_pos e57_9, e57_9]
          exact ⟨rfl, rfl⟩
        by_cases e57_10 : ownF (neaR 8 fm a) a = 60
        ·
          rw [e57_10]
          refine E_lookup C 304 dX0_perform_57 (by decide) rfl (by decide) (E_aload_n C dX0_perform_304 5 rfl (E_iload_n C dX0_perform_305 6 rfl (E_iload C dX0_perform_306 2 rfl (E_iconst (v := 2) C dX0_perform_308 ic_2 (E_iload C dX0_perform_309 9 rfl ?_)))))
          refine E_iload C dX0_perform_311 0 rfl (E_callVI C dX0_perform_313 mv_X0_46 32 _ (ih (dp + 1) (by omega) _ _ (abvF (neaR 8 fm a)) 2 x hg hk) rfl rfl rfl (by omega) (Nat.le_of_ble_eq_true rfl) ?_)
          rintro _ _ ⟨rfl, rfl⟩
          refine Ev.setw (by rw [bx_uu, bx_uu]) ?_
          refine E_aload_n C dX0_perform_316 5 rfl (E_iload_n C dX0_perform_317 6 rfl (E_iload C dX0_perform_318 1 rfl (E_iconst (v := 0) C dX0_perform_320 ic_0 (E_iconst (v := 2) C dX0_perform_321 ic_2 (E_iload C dX0_perform_322 0 rfl ?_)))))
          refine E_callVI C dX0_perform_324 mv_X0_46 32 _ (ih (dp + 1) (by omega) _ _ ow 0 2 hg hk) rfl rfl rfl (by omega) (Nat.le_of_ble_eq_true rfl) ?_
          rintro _ _ ⟨rfl, rfl⟩
          refine Ev.setw (by rw [bx_uu, bx_uu]) ?_
          refine E_isub C dX0_perform_327 (E_iretI C hr hlk dX0_perform_328 ?_)
          rw [perfF_s c9, perfB, if_neg (by rw [e57_10]; decide), if_neg (by rw [e57_10]; decide), if_neg (by rw [e57_10]; decide), if_neg (by rw [e57_10]; decide), if_neg (by rw [e57_10]; decide), if_neg (by rw [e57_10]; decide), if_neg (by rw [e57_10]; decide), if_neg (by rw [e57_10]; decide), if_neg (by rw [e57_10]; decide), if_pos e57_10, e57_10]
          exact ⟨rfl, rfl⟩
        by_cases e57_11 : ownF (neaR 8 fm a) a = 61
        ·
          rw [e57_11]
          refine E_lookup C 329 dX0_perform_57 (by decide) rfl (by decide) (E_aload_n C dX0_perform_329 5 rfl (E_iload_n C dX0_perform_330 6 rfl (E_iload C dX0_perform_331 2 rfl (E_iconst (v := 3) C dX0_perform_333 ic_3 (E_iload C dX0_perform_334 9 rfl ?_)))))
          refine E_iload C dX0_perform_336 0 rfl (E_callVI C dX0_perform_338 mv_X0_46 32 _ (ih (dp + 1) (by omega) _ _ (abvF (neaR 8 fm a)) 3 x hg hk) rfl rfl rfl (by omega) (Nat.le_of_ble_eq_true rfl) ?_)
          rintro _ _ ⟨rfl, rfl⟩
          refine Ev.setw (by rw [bx_uu, bx_uu]) ?_
          refine E_iconst (v := 1) C dX0_perform_341 ic_1 (E_iadd C dX0_perform_342 (E_iretI C hr hlk dX0_perform_343 ?_))
          rw [perfF_s c9, perfB, if_neg (by rw [e57_11]; decide), if_neg (by rw [e57_11]; decide), if_neg (by rw [e57_11]; decide), if_neg (by rw [e57_11]; decide), if_neg (by rw [e57_11]; decide), if_neg (by rw [e57_11]; decide), if_neg (by rw [e57_11]; decide), if_neg (by rw [e57_11]; decide), if_neg (by rw [e57_11]; decide), if_neg (by rw [e57_11]; decide), if_pos e57_11, e57_11]
          exact ⟨rfl, rfl⟩
        by_cases e57_12 : ownF (neaR 8 fm a) a = 70
        ·
          rw [e57_12]
          refine E_lookup C 344 dX0_perform_57 (by decide) rfl (by decide) (E_aload_n C dX0_perform_344 5 rfl (E_iload_n C dX0_perform_345 6 rfl (E_iload C dX0_perform_346 2 rfl (E_iconst (v := 0) C dX0_perform_348 ic_0 (E_iload C dX0_perform_349 9 rfl ?_)))))
          refine E_iload C dX0_perform_351 0 rfl (E_callVI C dX0_perform_353 mv_X0_46 32 _ (ih (dp + 1) (by omega) _ _ (abvF (neaR 8 fm a)) 0 x hg hk) rfl rfl rfl (by omega) (Nat.le_of_ble_eq_true rfl) ?_)
          rintro _ _ ⟨rfl, rfl⟩
          refine Ev.setw (by rw [bx_uu, bx_uu]) ?_
          refine E_iconst (v := 2) C dX0_perform_356 ic_2 (E_imul C dX0_perform_357 (E_iretI C hr hlk dX0_perform_358 ?_))
          rw [perfF_s c9, perfB, if_neg (by rw [e57_12]; decide), if_neg (by rw [e57_12]; decide), if_neg (by rw [e57_12]; decide), if_neg (by rw [e57_12]; decide), if_neg (by rw [e57_12]; decide), if_neg (by rw [e57_12]; decide), if_neg (by rw [e57_12]; decide), if_neg (by rw [e57_12]; decide), if_neg (by rw [e57_12]; decide), if_neg (by rw [e57_12]; decide), if_neg (by rw [e57_12]; decide), if_pos e57_12, e57_12]
          exact ⟨rfl, rfl⟩
        by_cases e57_13 : ownF (neaR 8 fm a) a = 80
        ·
          rw [e57_13]
          refine E_lookup C 359 dX0_perform_57 (by decide) rfl (by decide) (E_aload_n C dX0_perform_359 5 rfl (E_iload_n C dX0_perform_360 6 rfl (E_iload C dX0_perform_361 2 rfl (E_iconst (v := 1) C dX0_perform_363 ic_1 (E_iload C dX0_perform_364 9 rfl ?_)))))
          refine E_iload C dX0_perform_366 0 rfl (E_callVI C dX0_perform_368 mv_X0_46 32 _ (ih (dp + 1) (by omega) _ _ (abvF (neaR 8 fm a)) 1 x hg hk) rfl rfl rfl (by omega) (Nat.le_of_ble_eq_true rfl) ?_)
          rintro _ _ ⟨rfl, rfl⟩
          refine Ev.setw (by rw [bx_uu, bx_uu]) ?_
          refine E_aload_n C dX0_perform_371 5 rfl (E_iload_n C dX0_perform_372 6 rfl (E_iload C dX0_perform_373 1 rfl (E_iconst (v := 2) C dX0_perform_375 ic_2 (E_iconst (v := 2) C dX0_perform_376 ic_2 (E_iload C dX0_perform_377 0 rfl ?_)))))
          refine E_callVI C dX0_perform_379 mv_X0_46 32 _ (ih (dp + 1) (by omega) _ _ ow 2 2 hg hk) rfl rfl rfl (by omega) (Nat.le_of_ble_eq_true rfl) ?_
          rintro _ _ ⟨rfl, rfl⟩
          refine Ev.setw (by rw [bx_uu, bx_uu]) ?_
          refine E_iadd C dX0_perform_382 (E_iretI C hr hlk dX0_perform_383 ?_)
          rw [perfF_s c9, perfB, if_neg (by rw [e57_13]; decide), if_neg (by rw [e57_13]; decide), if_neg (by rw [e57_13]; decide), if_neg (by rw [e57_13]; decide), if_neg (by rw [e57_13]; decide), if_neg (by rw [e57_13]; decide), if_neg (by rw [e57_13]; decide), if_neg (by rw [e57_13]; decide), if_neg (by rw [e57_13]; decide), if_neg (by rw [e57_13]; decide), if_neg (by rw [e57_13]; decide), if_neg (by rw [e57_13]; decide), if_pos e57_13, e57_13]
          exact ⟨rfl, rfl⟩
        by_cases e57_14 : ownF (neaR 8 fm a) a = 81
        ·
          rw [e57_14]
          refine E_lookup C 384 dX0_perform_57 (by decide) rfl (by decide) (E_aload_n C dX0_perform_384 5 rfl (E_iload_n C dX0_perform_385 6 rfl (E_iload C dX0_perform_386 2 rfl (E_iconst (v := 0) C dX0_perform_388 ic_0 (E_iload C dX0_perform_389 9 rfl ?_)))))
          refine E_iload C dX0_perform_391 0 rfl (E_callVI C dX0_perform_393 mv_X0_46 32 _ (ih (dp + 1) (by omega) _ _ (abvF (neaR 8 fm a)) 0 x hg hk) rfl rfl rfl (by omega) (Nat.le_of_ble_eq_true rfl) ?_)
          rintro _ _ ⟨rfl, rfl⟩
          refine Ev.setw (by rw [bx_uu, bx_uu]) ?_
          refine E_iconst (v := 1) C dX0_perform_396 ic_1 (E_isub C dX0_perform_397 (E_iretI C hr hlk dX0_perform_398 ?_))
          rw [perfF_s c9, perfB, if_neg (by rw [e57_14]; decide), if_neg (by rw [e57_14]; decide), if_neg (by rw [e57_14]; decide), if_neg (by rw [e57_14]; decide), if_neg (by rw [e57_14]; decide), if_neg (by rw [e57_14]; decide), if_neg (by rw [e57_14]; decide), if_neg (by rw [e57_14]; decide), if_neg (by rw [e57_14]; decide), if_neg (by rw [e57_14]; decide), if_neg (by rw [e57_14]; decide), if_neg (by rw [e57_14]; decide), if_neg (by rw [e57_14]; decide), if_pos e57_14, e57_14]
          exact ⟨rfl, rfl⟩
        refine E_lookup (off := 342) C 399 dX0_perform_57 (by decide) ((lv_osw e57 rfl).trans ((lv_osw e57_2 rfl).trans ((lv_osw e57_3 rfl).trans ((lv_osw e57_4 rfl).trans ((lv_osw e57_5 rfl).trans ((lv_osw e57_6 rfl).trans ((lv_osw e57_7 rfl).trans ((lv_osw e57_8 rfl).trans ((lv_osw e57_9 rfl).trans ((lv_osw e57_10 rfl).trans ((lv_osw e57_11 rfl).trans ((lv_osw e57_12 rfl).trans ((lv_osw e57_13 rfl).trans ((lv_osw e57_14 rfl).trans rfl)))))))))))))) (by decide) (E_iconst (v := 0) C dX0_perform_399 ic_0 (E_iretI C hr hlk dX0_perform_400 ?_))
        rw [perfF_s c9, perfB, if_neg e57, if_neg e57_2, if_neg e57_3, if_neg e57_4, if_neg e57_5, if_neg e57_6, if_neg e57_7, if_neg e57_8, if_neg e57_9, if_neg e57_10, if_neg e57_11, if_neg e57_12, if_neg e57_13, if_neg e57_14]
        exact ⟨rfl, rfl⟩
      ·
        exact absurd (show nI dp < nI 40 from nI_lt (by omega) (by decide)) c16
set_option maxRecDepth 100000 in
set_option maxHeartbeats 4000000 in
theorem s_answer {l : Launch} {D : va_G} {tc tt ad : Nat → Nat} {W : Nat → Nat → Int32} {g : Nat → Int32} {h : Nat → Nat → Int32} {Dv : Nat → (Nat → Int32) × (Nat → Nat → Int32)} {Sh : Nat → (Nat → Int32) × (Nat → Int64)} {u : Nat → Int32} {v : Nat → Nat → Int32} {z : Int64} {y : Nat → Int64} {nb sf : Nat} {ow : Int32} (hnb : nb ≤ 50) (hsf : sf < nb) (hg : g 11 = nI nb) (hk : (if bodB nb (nI sf) then h 7 (nI sf).toNatClampNeg else -1) = ow) (a x : Int32) : Ct l yX0_answer cX0_answer 4 (some .int) 44 D tc tt [.ref (ad 32), .int (nI sf), .int a, .int x] (hx ad tc W g h Dv Sh u v z y) (PI fun r w => r = (perfF (nI sf) ow 40 ow a x (g 12, h 8)).1 ∧ w = hx ad tc W (va_up g 12 (perfF (nI sf) ow 40 ow a x (g 12, h 8)).2.1) (va_up h 8 (perfF (nI sf) ow 40 ow a x (g 12, h 8)).2.2) Dv Sh u v z y) := by
  refine Ct.of (by decide +kernel) (Nat.le_of_ble_eq_true rfl) ?_
  intro p e R s m args below meth c A C hr hlk
  refine E_aload_n C dX0_answer_0 0 rfl (E_iload_n C dX0_answer_1 1 rfl (E_aload_n C dX0_answer_2 0 rfl (E_iload_n C dX0_answer_3 1 rfl (E_callVI C dX0_answer_4 mv_X0_43 32 _ (s_kindOf hg hnb (nI sf)) rfl rfl rfl (by decide) (Nat.le_of_ble_eq_true rfl) ?_))))
  rintro _ _ ⟨rfl, rfl⟩
  refine Ev.seti hk ?_
  refine E_iload_n C dX0_answer_7 2 rfl (E_iload_n C dX0_answer_8 3 rfl (E_iconst (v := 0) C dX0_answer_9 ic_0 (E_callVI C dX0_answer_10 mv_X0_46 32 _ (s_perform hnb hsf 40 0 rfl g h ow a x hg hk) rfl rfl rfl (by decide) (Nat.le_of_ble_eq_true rfl) ?_)))
  rintro _ _ ⟨rfl, rfl⟩
  refine E_iretI C hr hlk dX0_answer_13 ?_
  exact ⟨rfl, rfl⟩
