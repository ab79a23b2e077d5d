/-! the class's Shelf, Journey, and what one going can bring -/
set_option maxRecDepth 100000 in
set_option maxHeartbeats 4000000 in
theorem s_holdsBytes {l : Launch} {D : va_G} {tc tt ad : Nat → Nat} {W : Nat → Nat → Int32} {g : Nat → Int32} {h : Nat → Nat → Int32} {Dv : Nat → (Nat → Int32) × (Nat → Nat → Int32)} {Sh : Nat → (Nat → Int32) × (Nat → Int64)} {u : Nat → Int32} {v : Nat → Nat → Int32} {z : Int64} {y : Nat → Int64} {b : Nat} (hb_b : b < 6) : Ct l yX7_holdsBytes cX7_holdsBytes 1 (some .boolean) 1 D tc tt [.ref (ad (52 + 2 * b))] (hx ad tc W g h Dv Sh u v z y) (PI fun r w => r = (if byB (Sh b).1 then 1 else 0) ∧ w = hx ad tc W g h Dv Sh u v z y) := by
  refine Ct.of (by decide +kernel) (Nat.le_of_ble_eq_true rfl) ?_
  intro p e R s m args below meth c A C hr hlk
  refine E_aload_n C dX7_holdsBytes_0 0 rfl (xg_7_1 C (b := b) hb_b dX7_holdsBytes_1 f_X7_15 (E_iconst (v := 2) C dX7_holdsBytes_4 ic_2 (E_icmp_ne C 19 dX7_holdsBytes_5 (by decide) (fun c5 => ?_) (fun c5 => ?_))))
  ·
    refine E_iconst (v := 0) C dX7_holdsBytes_19 ic_0 (E_zretI C hr hlk dX7_holdsBytes_20 rfl ?_)
    first | (refine ⟨(if_pos ?_).symm, rfl⟩; simp only [byB, decide_eq_true_eq]; simp only [i32_eq, Int32.lt_iff_toInt_lt, Int32.le_iff_toInt_le, tl_m100, tl_m14, tl_m13, tl_m12, tl_m11, tl_m5, tl_m3, tl_m2, tl_m1, tl_0, tl_1, tl_2, tl_3, tl_4, tl_5, tl_6, tl_7, tl_8, tl_9, tl_10, tl_11, tl_12, tl_13, tl_14, tl_15, tl_16, tl_17, tl_18, tl_19, tl_20, tl_21, tl_22, tl_23, tl_24, tl_25, tl_26, tl_27, tl_28, tl_29, tl_30, tl_31, tl_32, tl_33, tl_34, tl_35, tl_36, tl_37, tl_38, tl_39, tl_40, tl_41, tl_42, tl_43, tl_44, tl_45, tl_46, tl_47, tl_48, tl_49, tl_50, tl_51, tl_52, tl_53, tl_54, tl_55, tl_56, tl_57, tl_58, tl_59, tl_60, tl_61, tl_62, tl_63, tl_64, tl_70, tl_80, tl_81, tl_99, tl_100, tl_110, tl_120, tl_122, tl_124, tl_126, tl_128, tl_130, tl_144, tl_200, tl_255, tl_256, tl_260, tl_360, tl_12345] at *; omega) | (refine ⟨(if_neg ?_).symm, rfl⟩; simp only [byB, decide_eq_true_eq]; simp only [i32_eq, Int32.lt_iff_toInt_lt, Int32.le_iff_toInt_le, tl_m100, tl_m14, tl_m13, tl_m12, tl_m11, tl_m5, tl_m3, tl_m2, tl_m1, tl_0, tl_1, tl_2, tl_3, tl_4, tl_5, tl_6, tl_7, tl_8, tl_9, tl_10, tl_11, tl_12, tl_13, tl_14, tl_15, tl_16, tl_17, tl_18, tl_19, tl_20, tl_21, tl_22, tl_23, tl_24, tl_25, tl_26, tl_27, tl_28, tl_29, tl_30, tl_31, tl_32, tl_33, tl_34, tl_35, tl_36, tl_37, tl_38, tl_39, tl_40, tl_41, tl_42, tl_43, tl_44, tl_45, tl_46, tl_47, tl_48, tl_49, tl_50, tl_51, tl_52, tl_53, tl_54, tl_55, tl_56, tl_57, tl_58, tl_59, tl_60, tl_61, tl_62, tl_63, tl_64, tl_70, tl_80, tl_81, tl_99, tl_100, tl_110, tl_120, tl_122, tl_124, tl_126, tl_128, tl_130, tl_144, tl_200, tl_255, tl_256, tl_260, tl_360, tl_12345] at *; omega)
  ·
    refine E_aload_n C dX7_holdsBytes_8 0 rfl (xg_7_3 C (b := b) hb_b dX7_holdsBytes_9 f_X7_19 (E_if_ne C 19 dX7_holdsBytes_12 (by decide) (fun c12 => ?_) (fun c12 => ?_)))
    ·
      refine E_iconst (v := 0) C dX7_holdsBytes_19 ic_0 (E_zretI C hr hlk dX7_holdsBytes_20 rfl ?_)
      first | (refine ⟨(if_pos ?_).symm, rfl⟩; simp only [byB, decide_eq_true_eq]; simp only [i32_eq, Int32.lt_iff_toInt_lt, Int32.le_iff_toInt_le, tl_m100, tl_m14, tl_m13, tl_m12, tl_m11, tl_m5, tl_m3, tl_m2, tl_m1, tl_0, tl_1, tl_2, tl_3, tl_4, tl_5, tl_6, tl_7, tl_8, tl_9, tl_10, tl_11, tl_12, tl_13, tl_14, tl_15, tl_16, tl_17, tl_18, tl_19, tl_20, tl_21, tl_22, tl_23, tl_24, tl_25, tl_26, tl_27, tl_28, tl_29, tl_30, tl_31, tl_32, tl_33, tl_34, tl_35, tl_36, tl_37, tl_38, tl_39, tl_40, tl_41, tl_42, tl_43, tl_44, tl_45, tl_46, tl_47, tl_48, tl_49, tl_50, tl_51, tl_52, tl_53, tl_54, tl_55, tl_56, tl_57, tl_58, tl_59, tl_60, tl_61, tl_62, tl_63, tl_64, tl_70, tl_80, tl_81, tl_99, tl_100, tl_110, tl_120, tl_122, tl_124, tl_126, tl_128, tl_130, tl_144, tl_200, tl_255, tl_256, tl_260, tl_360, tl_12345] at *; omega) | (refine ⟨(if_neg ?_).symm, rfl⟩; simp only [byB, decide_eq_true_eq]; simp only [i32_eq, Int32.lt_iff_toInt_lt, Int32.le_iff_toInt_le, tl_m100, tl_m14, tl_m13, tl_m12, tl_m11, tl_m5, tl_m3, tl_m2, tl_m1, tl_0, tl_1, tl_2, tl_3, tl_4, tl_5, tl_6, tl_7, tl_8, tl_9, tl_10, tl_11, tl_12, tl_13, tl_14, tl_15, tl_16, tl_17, tl_18, tl_19, tl_20, tl_21, tl_22, tl_23, tl_24, tl_25, tl_26, tl_27, tl_28, tl_29, tl_30, tl_31, tl_32, tl_33, tl_34, tl_35, tl_36, tl_37, tl_38, tl_39, tl_40, tl_41, tl_42, tl_43, tl_44, tl_45, tl_46, tl_47, tl_48, tl_49, tl_50, tl_51, tl_52, tl_53, tl_54, tl_55, tl_56, tl_57, tl_58, tl_59, tl_60, tl_61, tl_62, tl_63, tl_64, tl_70, tl_80, tl_81, tl_99, tl_100, tl_110, tl_120, tl_122, tl_124, tl_126, tl_128, tl_130, tl_144, tl_200, tl_255, tl_256, tl_260, tl_360, tl_12345] at *; omega)
    ·
      refine E_iconst (v := 1) C dX7_holdsBytes_15 ic_1 (E_goto C 20 dX7_holdsBytes_16 (by decide) (E_zretI C hr hlk dX7_holdsBytes_20 rfl ?_))
      first | (refine ⟨(if_pos ?_).symm, rfl⟩; simp only [byB, decide_eq_true_eq]; simp only [i32_eq, Int32.lt_iff_toInt_lt, Int32.le_iff_toInt_le, tl_m100, tl_m14, tl_m13, tl_m12, tl_m11, tl_m5, tl_m3, tl_m2, tl_m1, tl_0, tl_1, tl_2, tl_3, tl_4, tl_5, tl_6, tl_7, tl_8, tl_9, tl_10, tl_11, tl_12, tl_13, tl_14, tl_15, tl_16, tl_17, tl_18, tl_19, tl_20, tl_21, tl_22, tl_23, tl_24, tl_25, tl_26, tl_27, tl_28, tl_29, tl_30, tl_31, tl_32, tl_33, tl_34, tl_35, tl_36, tl_37, tl_38, tl_39, tl_40, tl_41, tl_42, tl_43, tl_44, tl_45, tl_46, tl_47, tl_48, tl_49, tl_50, tl_51, tl_52, tl_53, tl_54, tl_55, tl_56, tl_57, tl_58, tl_59, tl_60, tl_61, tl_62, tl_63, tl_64, tl_70, tl_80, tl_81, tl_99, tl_100, tl_110, tl_120, tl_122, tl_124, tl_126, tl_128, tl_130, tl_144, tl_200, tl_255, tl_256, tl_260, tl_360, tl_12345] at *; omega) | (refine ⟨(if_neg ?_).symm, rfl⟩; simp only [byB, decide_eq_true_eq]; simp only [i32_eq, Int32.lt_iff_toInt_lt, Int32.le_iff_toInt_le, tl_m100, tl_m14, tl_m13, tl_m12, tl_m11, tl_m5, tl_m3, tl_m2, tl_m1, tl_0, tl_1, tl_2, tl_3, tl_4, tl_5, tl_6, tl_7, tl_8, tl_9, tl_10, tl_11, tl_12, tl_13, tl_14, tl_15, tl_16, tl_17, tl_18, tl_19, tl_20, tl_21, tl_22, tl_23, tl_24, tl_25, tl_26, tl_27, tl_28, tl_29, tl_30, tl_31, tl_32, tl_33, tl_34, tl_35, tl_36, tl_37, tl_38, tl_39, tl_40, tl_41, tl_42, tl_43, tl_44, tl_45, tl_46, tl_47, tl_48, tl_49, tl_50, tl_51, tl_52, tl_53, tl_54, tl_55, tl_56, tl_57, tl_58, tl_59, tl_60, tl_61, tl_62, tl_63, tl_64, tl_70, tl_80, tl_81, tl_99, tl_100, tl_110, tl_120, tl_122, tl_124, tl_126, tl_128, tl_130, tl_144, tl_200, tl_255, tl_256, tl_260, tl_360, tl_12345] at *; omega)
set_option maxRecDepth 100000 in
set_option maxHeartbeats 4000000 in
theorem s_refusalOfBytes {l : Launch} {D : va_G} {tc tt ad : Nat → Nat} {W : Nat → Nat → Int32} {g : Nat → Int32} {h : Nat → Nat → Int32} {Dv : Nat → (Nat → Int32) × (Nat → Nat → Int32)} {Sh : Nat → (Nat → Int32) × (Nat → Int64)} {u : Nat → Int32} {v : Nat → Nat → Int32} {z : Int64} {y : Nat → Int64} {b : Nat} (hb_b : b < 6) : Ct l yX7_refusalOfBytes cX7_refusalOfBytes 1 (some .int) 2 D tc tt [.ref (ad (52 + 2 * b))] (hx ad tc W g h Dv Sh u v z y) (PI fun r w => r = rfB (Sh b).1 ∧ w = hx ad tc W g h Dv Sh u v z y) := by
  refine Ct.of (by decide +kernel) (Nat.le_of_ble_eq_true rfl) ?_
  intro p e R s m args below meth c A C hr hlk
  refine E_aload_n C dX7_refusalOfBytes_0 0 rfl (xg_7_1 C (b := b) hb_b dX7_refusalOfBytes_1 f_X7_15 (E_if_ne C 10 dX7_refusalOfBytes_4 (by decide) (fun c4 => ?_) (fun c4 => ?_)))
  ·
    rw [rfB, if_neg c4]
    refine E_aload_n C dX7_refusalOfBytes_10 0 rfl (E_callVI C dX7_refusalOfBytes_11 mv_X7_25 _ _ (s_holdsBytes hb_b) (xat_sh0 (b := b) hb_b) rfl rfl (by decide) (Nat.le_of_ble_eq_true rfl) ?_)
    rintro _ _ ⟨rfl, rfl⟩
    refine E_if_eq C 21 dX7_refusalOfBytes_14 (by decide) (fun c14 => ?_) (fun c14 => ?_)
    ·
      have hb : ¬ byB (Sh b).1 = true := fun q => by rw [if_pos q] at c14; cases c14
      rw [if_neg hb]
      refine E_bipush (v := -12) C dX7_refusalOfBytes_21 bp_m12 (E_iretI C hr hlk dX7_refusalOfBytes_23 ?_)
      exact ⟨rfl, rfl⟩
    ·
      have hb : byB (Sh b).1 = true := Classical.byContradiction fun q => c14 (if_neg q)
      rw [if_pos hb]
      refine E_iconst (v := 0) C dX7_refusalOfBytes_17 ic_0 (E_goto C 23 dX7_refusalOfBytes_18 (by decide) (E_iretI C hr hlk dX7_refusalOfBytes_23 ?_))
      exact ⟨rfl, rfl⟩
  ·
    rw [rfB, if_pos c4]
    refine E_bipush (v := -11) C dX7_refusalOfBytes_7 bp_m11 (E_iretI C hr hlk dX7_refusalOfBytes_9 ?_)
    exact ⟨rfl, rfl⟩
set_option maxRecDepth 100000 in
set_option maxHeartbeats 4000000 in
theorem s_hasPlaces {l : Launch} {D : va_G} {tc tt ad : Nat → Nat} {W : Nat → Nat → Int32} {g : Nat → Int32} {h : Nat → Nat → Int32} {Dv : Nat → (Nat → Int32) × (Nat → Nat → Int32)} {Sh : Nat → (Nat → Int32) × (Nat → Int64)} {u : Nat → Int32} {v : Nat → Nat → Int32} {z : Int64} {y : Nat → Int64} {b : Nat} (hb_b : b < 6) (i n : Int32) : Ct l yX7_hasPlaces cX7_hasPlaces 3 (some .boolean) 1 D tc tt [.ref (ad (52 + 2 * b)), .int i, .int n] (hx ad tc W g h Dv Sh u v z y) (PI fun r w => r = (if hpB ((Sh b).1 3) i n then 1 else 0) ∧ w = hx ad tc W g h Dv Sh u v z y) := by
  refine Ct.of (by decide +kernel) (Nat.le_of_ble_eq_true rfl) ?_
  intro p e R s m args below meth c A C hr hlk
  refine E_aload_n C dX7_hasPlaces_0 0 rfl (xg_7_4 C (b := b) hb_b dX7_hasPlaces_1 f_X7_22 (E_bipush (v := 60) C dX7_hasPlaces_4 bp_60 (E_icmp_gt C 39 dX7_hasPlaces_6 (by decide) (fun c6 => ?_) (fun c6 => ?_))))
  ·
    refine E_iconst (v := 0) C dX7_hasPlaces_39 ic_0 (E_zretI C hr hlk dX7_hasPlaces_40 rfl ?_)
    first | (refine ⟨(if_pos ?_).symm, rfl⟩; simp only [hpB, decide_eq_true_eq]; simp only [i32_eq, Int32.lt_iff_toInt_lt, Int32.le_iff_toInt_le, tl_m100, tl_m14, tl_m13, tl_m12, tl_m11, tl_m5, tl_m3, tl_m2, tl_m1, tl_0, tl_1, tl_2, tl_3, tl_4, tl_5, tl_6, tl_7, tl_8, tl_9, tl_10, tl_11, tl_12, tl_13, tl_14, tl_15, tl_16, tl_17, tl_18, tl_19, tl_20, tl_21, tl_22, tl_23, tl_24, tl_25, tl_26, tl_27, tl_28, tl_29, tl_30, tl_31, tl_32, tl_33, tl_34, tl_35, tl_36, tl_37, tl_38, tl_39, tl_40, tl_41, tl_42, tl_43, tl_44, tl_45, tl_46, tl_47, tl_48, tl_49, tl_50, tl_51, tl_52, tl_53, tl_54, tl_55, tl_56, tl_57, tl_58, tl_59, tl_60, tl_61, tl_62, tl_63, tl_64, tl_70, tl_80, tl_81, tl_99, tl_100, tl_110, tl_120, tl_122, tl_124, tl_126, tl_128, tl_130, tl_144, tl_200, tl_255, tl_256, tl_260, tl_360, tl_12345] at *; omega) | (refine ⟨(if_neg ?_).symm, rfl⟩; simp only [hpB, decide_eq_true_eq]; simp only [i32_eq, Int32.lt_iff_toInt_lt, Int32.le_iff_toInt_le, tl_m100, tl_m14, tl_m13, tl_m12, tl_m11, tl_m5, tl_m3, tl_m2, tl_m1, tl_0, tl_1, tl_2, tl_3, tl_4, tl_5, tl_6, tl_7, tl_8, tl_9, tl_10, tl_11, tl_12, tl_13, tl_14, tl_15, tl_16, tl_17, tl_18, tl_19, tl_20, tl_21, tl_22, tl_23, tl_24, tl_25, tl_26, tl_27, tl_28, tl_29, tl_30, tl_31, tl_32, tl_33, tl_34, tl_35, tl_36, tl_37, tl_38, tl_39, tl_40, tl_41, tl_42, tl_43, tl_44, tl_45, tl_46, tl_47, tl_48, tl_49, tl_50, tl_51, tl_52, tl_53, tl_54, tl_55, tl_56, tl_57, tl_58, tl_59, tl_60, tl_61, tl_62, tl_63, tl_64, tl_70, tl_80, tl_81, tl_99, tl_100, tl_110, tl_120, tl_122, tl_124, tl_126, tl_128, tl_130, tl_144, tl_200, tl_255, tl_256, tl_260, tl_360, tl_12345] at *; omega)
  ·
    refine E_iload_n C dX7_hasPlaces_9 1 rfl (E_if_lt C 39 dX7_hasPlaces_10 (by decide) (fun c10 => ?_) (fun c10 => ?_))
    ·
      refine E_iconst (v := 0) C dX7_hasPlaces_39 ic_0 (E_zretI C hr hlk dX7_hasPlaces_40 rfl ?_)
      first | (refine ⟨(if_pos ?_).symm, rfl⟩; simp only [hpB, decide_eq_true_eq]; simp only [i32_eq, Int32.lt_iff_toInt_lt, Int32.le_iff_toInt_le, tl_m100, tl_m14, tl_m13, tl_m12, tl_m11, tl_m5, tl_m3, tl_m2, tl_m1, tl_0, tl_1, tl_2, tl_3, tl_4, tl_5, tl_6, tl_7, tl_8, tl_9, tl_10, tl_11, tl_12, tl_13, tl_14, tl_15, tl_16, tl_17, tl_18, tl_19, tl_20, tl_21, tl_22, tl_23, tl_24, tl_25, tl_26, tl_27, tl_28, tl_29, tl_30, tl_31, tl_32, tl_33, tl_34, tl_35, tl_36, tl_37, tl_38, tl_39, tl_40, tl_41, tl_42, tl_43, tl_44, tl_45, tl_46, tl_47, tl_48, tl_49, tl_50, tl_51, tl_52, tl_53, tl_54, tl_55, tl_56, tl_57, tl_58, tl_59, tl_60, tl_61, tl_62, tl_63, tl_64, tl_70, tl_80, tl_81, tl_99, tl_100, tl_110, tl_120, tl_122, tl_124, tl_126, tl_128, tl_130, tl_144, tl_200, tl_255, tl_256, tl_260, tl_360, tl_12345] at *; omega) | (refine ⟨(if_neg ?_).symm, rfl⟩; simp only [hpB, decide_eq_true_eq]; simp only [i32_eq, Int32.lt_iff_toInt_lt, Int32.le_iff_toInt_le, tl_m100, tl_m14, tl_m13, tl_m12, tl_m11, tl_m5, tl_m3, tl_m2, tl_m1, tl_0, tl_1, tl_2, tl_3, tl_4, tl_5, tl_6, tl_7, tl_8, tl_9, tl_10, tl_11, tl_12, tl_13, tl_14, tl_15, tl_16, tl_17, tl_18, tl_19, tl_20, tl_21, tl_22, tl_23, tl_24, tl_25, tl_26, tl_27, tl_28, tl_29, tl_30, tl_31, tl_32, tl_33, tl_34, tl_35, tl_36, tl_37, tl_38, tl_39, tl_40, tl_41, tl_42, tl_43, tl_44, tl_45, tl_46, tl_47, tl_48, tl_49, tl_50, tl_51, tl_52, tl_53, tl_54, tl_55, tl_56, tl_57, tl_58, tl_59, tl_60, tl_61, tl_62, tl_63, tl_64, tl_70, tl_80, tl_81, tl_99, tl_100, tl_110, tl_120, tl_122, tl_124, tl_126, tl_128, tl_130, tl_144, tl_200, tl_255, tl_256, tl_260, tl_360, tl_12345] at *; omega)
    ·
      refine E_iload_n C dX7_hasPlaces_13 2 rfl (E_if_lt C 39 dX7_hasPlaces_14 (by decide) (fun c14 => ?_) (fun c14 => ?_))
      ·
        refine E_iconst (v := 0) C dX7_hasPlaces_39 ic_0 (E_zretI C hr hlk dX7_hasPlaces_40 rfl ?_)
        first | (refine ⟨(if_pos ?_).symm, rfl⟩; simp only [hpB, decide_eq_true_eq]; simp only [i32_eq, Int32.lt_iff_toInt_lt, Int32.le_iff_toInt_le, tl_m100, tl_m14, tl_m13, tl_m12, tl_m11, tl_m5, tl_m3, tl_m2, tl_m1, tl_0, tl_1, tl_2, tl_3, tl_4, tl_5, tl_6, tl_7, tl_8, tl_9, tl_10, tl_11, tl_12, tl_13, tl_14, tl_15, tl_16, tl_17, tl_18, tl_19, tl_20, tl_21, tl_22, tl_23, tl_24, tl_25, tl_26, tl_27, tl_28, tl_29, tl_30, tl_31, tl_32, tl_33, tl_34, tl_35, tl_36, tl_37, tl_38, tl_39, tl_40, tl_41, tl_42, tl_43, tl_44, tl_45, tl_46, tl_47, tl_48, tl_49, tl_50, tl_51, tl_52, tl_53, tl_54, tl_55, tl_56, tl_57, tl_58, tl_59, tl_60, tl_61, tl_62, tl_63, tl_64, tl_70, tl_80, tl_81, tl_99, tl_100, tl_110, tl_120, tl_122, tl_124, tl_126, tl_128, tl_130, tl_144, tl_200, tl_255, tl_256, tl_260, tl_360, tl_12345] at *; omega) | (refine ⟨(if_neg ?_).symm, rfl⟩; simp only [hpB, decide_eq_true_eq]; simp only [i32_eq, Int32.lt_iff_toInt_lt, Int32.le_iff_toInt_le, tl_m100, tl_m14, tl_m13, tl_m12, tl_m11, tl_m5, tl_m3, tl_m2, tl_m1, tl_0, tl_1, tl_2, tl_3, tl_4, tl_5, tl_6, tl_7, tl_8, tl_9, tl_10, tl_11, tl_12, tl_13, tl_14, tl_15, tl_16, tl_17, tl_18, tl_19, tl_20, tl_21, tl_22, tl_23, tl_24, tl_25, tl_26, tl_27, tl_28, tl_29, tl_30, tl_31, tl_32, tl_33, tl_34, tl_35, tl_36, tl_37, tl_38, tl_39, tl_40, tl_41, tl_42, tl_43, tl_44, tl_45, tl_46, tl_47, tl_48, tl_49, tl_50, tl_51, tl_52, tl_53, tl_54, tl_55, tl_56, tl_57, tl_58, tl_59, tl_60, tl_61, tl_62, tl_63, tl_64, tl_70, tl_80, tl_81, tl_99, tl_100, tl_110, tl_120, tl_122, tl_124, tl_126, tl_128, tl_130, tl_144, tl_200, tl_255, tl_256, tl_260, tl_360, tl_12345] at *; omega)
      ·
        refine E_iload_n C dX7_hasPlaces_17 1 rfl (E_aload_n C dX7_hasPlaces_18 0 rfl (xg_7_4 C (b := b) hb_b dX7_hasPlaces_19 f_X7_22 (E_icmp_gt C 39 dX7_hasPlaces_22 (by decide) (fun c22 => ?_) (fun c22 => ?_))))
        ·
          refine E_iconst (v := 0) C dX7_hasPlaces_39 ic_0 (E_zretI C hr hlk dX7_hasPlaces_40 rfl ?_)
          first | (refine ⟨(if_pos ?_).symm, rfl⟩; simp only [hpB, decide_eq_true_eq]; simp only [i32_eq, Int32.lt_iff_toInt_lt, Int32.le_iff_toInt_le, tl_m100, tl_m14, tl_m13, tl_m12, tl_m11, tl_m5, tl_m3, tl_m2, tl_m1, tl_0, tl_1, tl_2, tl_3, tl_4, tl_5, tl_6, tl_7, tl_8, tl_9, tl_10, tl_11, tl_12, tl_13, tl_14, tl_15, tl_16, tl_17, tl_18, tl_19, tl_20, tl_21, tl_22, tl_23, tl_24, tl_25, tl_26, tl_27, tl_28, tl_29, tl_30, tl_31, tl_32, tl_33, tl_34, tl_35, tl_36, tl_37, tl_38, tl_39, tl_40, tl_41, tl_42, tl_43, tl_44, tl_45, tl_46, tl_47, tl_48, tl_49, tl_50, tl_51, tl_52, tl_53, tl_54, tl_55, tl_56, tl_57, tl_58, tl_59, tl_60, tl_61, tl_62, tl_63, tl_64, tl_70, tl_80, tl_81, tl_99, tl_100, tl_110, tl_120, tl_122, tl_124, tl_126, tl_128, tl_130, tl_144, tl_200, tl_255, tl_256, tl_260, tl_360, tl_12345] at *; omega) | (refine ⟨(if_neg ?_).symm, rfl⟩; simp only [hpB, decide_eq_true_eq]; simp only [i32_eq, Int32.lt_iff_toInt_lt, Int32.le_iff_toInt_le, tl_m100, tl_m14, tl_m13, tl_m12, tl_m11, tl_m5, tl_m3, tl_m2, tl_m1, tl_0, tl_1, tl_2, tl_3, tl_4, tl_5, tl_6, tl_7, tl_8, tl_9, tl_10, tl_11, tl_12, tl_13, tl_14, tl_15, tl_16, tl_17, tl_18, tl_19, tl_20, tl_21, tl_22, tl_23, tl_24, tl_25, tl_26, tl_27, tl_28, tl_29, tl_30, tl_31, tl_32, tl_33, tl_34, tl_35, tl_36, tl_37, tl_38, tl_39, tl_40, tl_41, tl_42, tl_43, tl_44, tl_45, tl_46, tl_47, tl_48, tl_49, tl_50, tl_51, tl_52, tl_53, tl_54, tl_55, tl_56, tl_57, tl_58, tl_59, tl_60, tl_61, tl_62, tl_63, tl_64, tl_70, tl_80, tl_81, tl_99, tl_100, tl_110, tl_120, tl_122, tl_124, tl_126, tl_128, tl_130, tl_144, tl_200, tl_255, tl_256, tl_260, tl_360, tl_12345] at *; omega)
        ·
          refine E_iload_n C dX7_hasPlaces_25 2 rfl (E_aload_n C dX7_hasPlaces_26 0 rfl (xg_7_4 C (b := b) hb_b dX7_hasPlaces_27 f_X7_22 (E_iload_n C dX7_hasPlaces_30 1 rfl (E_isub C dX7_hasPlaces_31 (E_icmp_gt C 39 dX7_hasPlaces_32 (by decide) (fun c32 => ?_) (fun c32 => ?_))))))
          ·
            refine E_iconst (v := 0) C dX7_hasPlaces_39 ic_0 (E_zretI C hr hlk dX7_hasPlaces_40 rfl ?_)
            first | (refine ⟨(if_pos ?_).symm, rfl⟩; simp only [hpB, decide_eq_true_eq]; simp only [i32_eq, Int32.lt_iff_toInt_lt, Int32.le_iff_toInt_le, tl_m100, tl_m14, tl_m13, tl_m12, tl_m11, tl_m5, tl_m3, tl_m2, tl_m1, tl_0, tl_1, tl_2, tl_3, tl_4, tl_5, tl_6, tl_7, tl_8, tl_9, tl_10, tl_11, tl_12, tl_13, tl_14, tl_15, tl_16, tl_17, tl_18, tl_19, tl_20, tl_21, tl_22, tl_23, tl_24, tl_25, tl_26, tl_27, tl_28, tl_29, tl_30, tl_31, tl_32, tl_33, tl_34, tl_35, tl_36, tl_37, tl_38, tl_39, tl_40, tl_41, tl_42, tl_43, tl_44, tl_45, tl_46, tl_47, tl_48, tl_49, tl_50, tl_51, tl_52, tl_53, tl_54, tl_55, tl_56, tl_57, tl_58, tl_59, tl_60, tl_61, tl_62, tl_63, tl_64, tl_70, tl_80, tl_81, tl_99, tl_100, tl_110, tl_120, tl_122, tl_124, tl_126, tl_128, tl_130, tl_144, tl_200, tl_255, tl_256, tl_260, tl_360, tl_12345] at *; omega) | (refine ⟨(if_neg ?_).symm, rfl⟩; simp only [hpB, decide_eq_true_eq]; simp only [i32_eq, Int32.lt_iff_toInt_lt, Int32.le_iff_toInt_le, tl_m100, tl_m14, tl_m13, tl_m12, tl_m11, tl_m5, tl_m3, tl_m2, tl_m1, tl_0, tl_1, tl_2, tl_3, tl_4, tl_5, tl_6, tl_7, tl_8, tl_9, tl_10, tl_11, tl_12, tl_13, tl_14, tl_15, tl_16, tl_17, tl_18, tl_19, tl_20, tl_21, tl_22, tl_23, tl_24, tl_25, tl_26, tl_27, tl_28, tl_29, tl_30, tl_31, tl_32, tl_33, tl_34, tl_35, tl_36, tl_37, tl_38, tl_39, tl_40, tl_41, tl_42, tl_43, tl_44, tl_45, tl_46, tl_47, tl_48, tl_49, tl_50, tl_51, tl_52, tl_53, tl_54, tl_55, tl_56, tl_57, tl_58, tl_59, tl_60, tl_61, tl_62, tl_63, tl_64, tl_70, tl_80, tl_81, tl_99, tl_100, tl_110, tl_120, tl_122, tl_124, tl_126, tl_128, tl_130, tl_144, tl_200, tl_255, tl_256, tl_260, tl_360, tl_12345] at *; omega)
          ·
            refine E_iconst (v := 1) C dX7_hasPlaces_35 ic_1 (E_goto C 40 dX7_hasPlaces_36 (by decide) (E_zretI C hr hlk dX7_hasPlaces_40 rfl ?_))
            first | (refine ⟨(if_pos ?_).symm, rfl⟩; simp only [hpB, decide_eq_true_eq]; simp only [i32_eq, Int32.lt_iff_toInt_lt, Int32.le_iff_toInt_le, tl_m100, tl_m14, tl_m13, tl_m12, tl_m11, tl_m5, tl_m3, tl_m2, tl_m1, tl_0, tl_1, tl_2, tl_3, tl_4, tl_5, tl_6, tl_7, tl_8, tl_9, tl_10, tl_11, tl_12, tl_13, tl_14, tl_15, tl_16, tl_17, tl_18, tl_19, tl_20, tl_21, tl_22, tl_23, tl_24, tl_25, tl_26, tl_27, tl_28, tl_29, tl_30, tl_31, tl_32, tl_33, tl_34, tl_35, tl_36, tl_37, tl_38, tl_39, tl_40, tl_41, tl_42, tl_43, tl_44, tl_45, tl_46, tl_47, tl_48, tl_49, tl_50, tl_51, tl_52, tl_53, tl_54, tl_55, tl_56, tl_57, tl_58, tl_59, tl_60, tl_61, tl_62, tl_63, tl_64, tl_70, tl_80, tl_81, tl_99, tl_100, tl_110, tl_120, tl_122, tl_124, tl_126, tl_128, tl_130, tl_144, tl_200, tl_255, tl_256, tl_260, tl_360, tl_12345] at *; omega) | (refine ⟨(if_neg ?_).symm, rfl⟩; simp only [hpB, decide_eq_true_eq]; simp only [i32_eq, Int32.lt_iff_toInt_lt, Int32.le_iff_toInt_le, tl_m100, tl_m14, tl_m13, tl_m12, tl_m11, tl_m5, tl_m3, tl_m2, tl_m1, tl_0, tl_1, tl_2, tl_3, tl_4, tl_5, tl_6, tl_7, tl_8, tl_9, tl_10, tl_11, tl_12, tl_13, tl_14, tl_15, tl_16, tl_17, tl_18, tl_19, tl_20, tl_21, tl_22, tl_23, tl_24, tl_25, tl_26, tl_27, tl_28, tl_29, tl_30, tl_31, tl_32, tl_33, tl_34, tl_35, tl_36, tl_37, tl_38, tl_39, tl_40, tl_41, tl_42, tl_43, tl_44, tl_45, tl_46, tl_47, tl_48, tl_49, tl_50, tl_51, tl_52, tl_53, tl_54, tl_55, tl_56, tl_57, tl_58, tl_59, tl_60, tl_61, tl_62, tl_63, tl_64, tl_70, tl_80, tl_81, tl_99, tl_100, tl_110, tl_120, tl_122, tl_124, tl_126, tl_128, tl_130, tl_144, tl_200, tl_255, tl_256, tl_260, tl_360, tl_12345] at *; omega)
set_option maxRecDepth 100000 in
set_option maxHeartbeats 4000000 in
theorem s_refusalOfPlace {l : Launch} {D : va_G} {tc tt ad : Nat → Nat} {W : Nat → Nat → Int32} {g : Nat → Int32} {h : Nat → Nat → Int32} {Dv : Nat → (Nat → Int32) × (Nat → Nat → Int32)} {Sh : Nat → (Nat → Int32) × (Nat → Int64)} {u : Nat → Int32} {v : Nat → Nat → Int32} {z : Int64} {y : Nat → Int64} {b : Nat} (hb_b : b < 6) (i : Int32) : Ct l yX7_refusalOfPlace cX7_refusalOfPlace 2 (some .int) 2 D tc tt [.ref (ad (52 + 2 * b)), .int i] (hx ad tc W g h Dv Sh u v z y) (PI fun r w => r = rfP (Sh b).1 i ∧ w = hx ad tc W g h Dv Sh u v z y) := by
  refine Ct.of (by decide +kernel) (Nat.le_of_ble_eq_true rfl) ?_
  intro p e R s m args below meth c A C hr hlk
  refine E_aload_n C dX7_refusalOfPlace_0 0 rfl (xg_7_1 C (b := b) hb_b dX7_refusalOfPlace_1 f_X7_15 (E_if_ne C 10 dX7_refusalOfPlace_4 (by decide) (fun c4 => ?_) (fun c4 => ?_)))
  ·
    rw [rfP, if_neg c4]
    refine E_aload_n C dX7_refusalOfPlace_10 0 rfl (xg_7_1 C (b := b) hb_b dX7_refusalOfPlace_11 f_X7_15 (E_iconst (v := 2) C dX7_refusalOfPlace_14 ic_2 (E_icmp_eq C 21 dX7_refusalOfPlace_15 (by decide) (fun c15 => ?_) (fun c15 => ?_))))
    ·
      rw [if_pos c15]
      refine E_aload_n C dX7_refusalOfPlace_21 0 rfl (E_iload_n C dX7_refusalOfPlace_22 1 rfl (E_iconst (v := 1) C dX7_refusalOfPlace_23 ic_1 (E_callVI C dX7_refusalOfPlace_24 mv_X7_29 _ _ (s_hasPlaces hb_b i 1) (xat_sh0 (b := b) hb_b) rfl rfl (by decide) (Nat.le_of_ble_eq_true rfl) ?_)))
      rintro _ _ ⟨rfl, rfl⟩
      refine E_if_eq C 34 dX7_refusalOfPlace_27 (by decide) (fun c27 => ?_) (fun c27 => ?_)
      ·
        have hb : ¬ hpB ((Sh b).1 3) i 1 = true := fun q => by rw [if_pos q] at c27; cases c27
        rw [if_neg hb]
        refine E_bipush (v := -13) C dX7_refusalOfPlace_34 bp_m13 (E_iretI C hr hlk dX7_refusalOfPlace_36 ?_)
        exact ⟨rfl, rfl⟩
      ·
        have hb : hpB ((Sh b).1 3) i 1 = true := Classical.byContradiction fun q => c27 (if_neg q)
        rw [if_pos hb]
        refine E_iconst (v := 0) C dX7_refusalOfPlace_30 ic_0 (E_goto C 36 dX7_refusalOfPlace_31 (by decide) (E_iretI C hr hlk dX7_refusalOfPlace_36 ?_))
        exact ⟨rfl, rfl⟩
    ·
      rw [if_neg c15]
      refine E_bipush (v := -12) C dX7_refusalOfPlace_18 bp_m12 (E_iretI C hr hlk dX7_refusalOfPlace_20 ?_)
      exact ⟨rfl, rfl⟩
  ·
    rw [rfP, if_pos c4]
    refine E_bipush (v := -11) C dX7_refusalOfPlace_7 bp_m11 (E_iretI C hr hlk dX7_refusalOfPlace_9 ?_)
    exact ⟨rfl, rfl⟩
set_option maxRecDepth 100000 in
set_option maxHeartbeats 4000000 in
theorem s_elementAt {l : Launch} {D : va_G} {tc tt ad : Nat → Nat} {W : Nat → Nat → Int32} {g : Nat → Int32} {h : Nat → Nat → Int32} {Dv : Nat → (Nat → Int32) × (Nat → Nat → Int32)} {Sh : Nat → (Nat → Int32) × (Nat → Int64)} {u : Nat → Int32} {v : Nat → Nat → Int32} {z : Int64} {y : Nat → Int64} {b : Nat} (hb_b : b < 6) {j sz : Nat} (hz : (Sh b).1 3 = nI sz) (hsz : sz ≤ 60) (hj : j < sz) : Ct l yX7_elementAt cX7_elementAt 2 (some .long) 1 D tc tt [.ref (ad (52 + 2 * b)), .int (nI j)] (hx ad tc W g h Dv Sh u v z y) (PL fun r w => r = (Sh b).2 j ∧ w = hx ad tc W g h Dv Sh u v z y) := by
  refine Ct.of (by decide +kernel) (Nat.le_of_ble_eq_true rfl) ?_
  intro p e R s m args below meth c A C hr hlk
  refine E_iload_n C dX7_elementAt_0 1 rfl (E_if_lt C 27 dX7_elementAt_1 (by decide) (fun c1 => ?_) (fun c1 => ?_))
  ·
    exact absurd c1 (nI_pos (by omega))
  ·
    refine E_iload_n C dX7_elementAt_4 1 rfl (E_aload_n C dX7_elementAt_5 0 rfl (xg_7_4 C (b := b) hb_b dX7_elementAt_6 f_X7_22 ?_))
    refine Ev.seti hz ?_
    refine E_icmp_ge C 27 dX7_elementAt_9 (by decide) (fun c9 => ?_) (fun c9 => ?_)
    ·
      exact absurd c9 (nI_ge hj (by omega))
    ·
      refine E_iload_n C dX7_elementAt_12 1 rfl (E_bipush (v := 60) C dX7_elementAt_13 bp_60 (E_icmp_ge C 27 dX7_elementAt_15 (by decide) (fun c15 => ?_) (fun c15 => ?_)))
      ·
        exact absurd (show nI 60 ≤ nI j from c15) (nI_ge (by omega) (by decide))
      ·
        refine E_aload_n C dX7_elementAt_18 0 rfl (xg_7_0 C (b := b) hb_b dX7_elementAt_19 f_X7_11 (E_iload_n C dX7_elementAt_22 1 rfl (xa_sh1 C (b := b) hb_b dX7_elementAt_23 (vinN (by omega)) ?_)))
        rw [nI_clamp (show j < 2 ^ 31 by omega)]
        refine E_goto C 28 dX7_elementAt_24 (by decide) (E_lretL C hr hlk dX7_elementAt_28 ?_)
        exact ⟨rfl, rfl⟩
set_option maxRecDepth 100000 in
set_option maxHeartbeats 4000000 in
theorem s_lowestBits {l : Launch} {D : va_G} {tc tt ad : Nat → Nat} {W : Nat → Nat → Int32} {g : Nat → Int32} {h : Nat → Nat → Int32} {Dv : Nat → (Nat → Int32) × (Nat → Nat → Int32)} {Sh : Nat → (Nat → Int32) × (Nat → Int64)} {u : Nat → Int32} {v : Nat → Nat → Int32} {z : Int64} {y : Nat → Int64} {b : Nat} (hb_b : b < 6) (v1 : Int64) : Ct l yX7_lowestBits cX7_lowestBits 3 (some .long) 1 D tc tt [.ref (ad (52 + 2 * b)), .long v1] (hx ad tc W g h Dv Sh u v z y) (PL fun r w => r = lbF ((Sh b).1 2) v1 ∧ w = hx ad tc W g h Dv Sh u v z y) := by
  refine Ct.of (by decide +kernel) (Nat.le_of_ble_eq_true rfl) ?_
  intro p e R s m args below meth c A C hr hlk
  refine E_aload_n C dX7_lowestBits_0 0 rfl (xg_7_3 C (b := b) hb_b dX7_lowestBits_1 f_X7_19 ?_)
  by_cases e4 : (Sh b).1 2 = 0
  ·
    rw [e4]
    refine E_tableIn C 36 dX7_lowestBits_4 (by decide) (by decide) rfl (by decide) (E_lload_n C dX7_lowestBits_36 1 rfl (E_l2i C dX7_lowestBits_37 (E_i2b C dX7_lowestBits_38 (E_i2l C dX7_lowestBits_39 (E_lretL C hr hlk dX7_lowestBits_40 ?_)))))
    exact ⟨rfl, rfl⟩
  by_cases e4_2 : (Sh b).1 2 = 1
  ·
    rw [e4_2]
    refine E_tableIn C 41 dX7_lowestBits_4 (by decide) (by decide) rfl (by decide) (E_lload_n C dX7_lowestBits_41 1 rfl (E_l2i C dX7_lowestBits_42 (E_i2s C dX7_lowestBits_43 (E_i2l C dX7_lowestBits_44 (E_lretL C hr hlk dX7_lowestBits_45 ?_)))))
    exact ⟨rfl, rfl⟩
  by_cases e4_3 : (Sh b).1 2 = 2
  ·
    rw [e4_3]
    refine E_tableIn C 46 dX7_lowestBits_4 (by decide) (by decide) rfl (by decide) (E_lload_n C dX7_lowestBits_46 1 rfl (E_l2i C dX7_lowestBits_47 (E_i2l C dX7_lowestBits_48 (E_lretL C hr hlk dX7_lowestBits_49 ?_))))
    exact ⟨rfl, rfl⟩
  by_cases e4_4 : (Sh b).1 2 = 3
  ·
    rw [e4_4]
    refine E_tableIn C 50 dX7_lowestBits_4 (by decide) (by decide) rfl (by decide) (E_lload_n C dX7_lowestBits_50 1 rfl (E_lretL C hr hlk dX7_lowestBits_51 ?_))
    exact ⟨rfl, rfl⟩
  have oe4 := ntoi (n := 0) rfl e4
  have oe4_2 := ntoi (n := 1) rfl e4_2
  have oe4_3 := ntoi (n := 2) rfl e4_3
  have oe4_4 := ntoi (n := 3) rfl e4_4
  refine E_tableOut C 52 dX7_lowestBits_4 (by omega) (by decide) (E_lload_n C dX7_lowestBits_52 1 rfl (E_lconst (v := 0) C dX7_lowestBits_53 rfl (E_lcmp C dX7_lowestBits_54 (E_if_eq C 62 dX7_lowestBits_55 (by decide) (fun c55 => ?_) (fun c55 => ?_)))))
  ·
    have ee : lbF ((Sh b).1 2) v1 = 0 := (if_neg e4).trans ((if_neg e4_2).trans ((if_neg e4_3).trans ((if_neg e4_4).trans (if_pos (lg_cmp0.mp c55)))))
    rw [ee]
    refine E_lconst (v := 0) C dX7_lowestBits_62 rfl (E_lretL C hr hlk dX7_lowestBits_63 ?_)
    exact ⟨rfl, rfl⟩
  ·
    have ee : lbF ((Sh b).1 2) v1 = 1 := (if_neg e4).trans ((if_neg e4_2).trans ((if_neg e4_3).trans ((if_neg e4_4).trans (if_neg (fun q => c55 (lg_cmp0.mpr q))))))
    rw [ee]
    refine E_lconst (v := 1) C dX7_lowestBits_58 rfl (E_goto C 63 dX7_lowestBits_59 (by decide) (E_lretL C hr hlk dX7_lowestBits_63 ?_))
    exact ⟨rfl, rfl⟩
set_option maxRecDepth 100000 in
set_option maxHeartbeats 4000000 in
theorem s_store {l : Launch} {D : va_G} {tc tt ad : Nat → Nat} {W : Nat → Nat → Int32} {g : Nat → Int32} {h : Nat → Nat → Int32} {Dv : Nat → (Nat → Int32) × (Nat → Nat → Int32)} {Sh : Nat → (Nat → Int32) × (Nat → Int64)} {u : Nat → Int32} {v : Nat → Nat → Int32} {z : Int64} {y : Nat → Int64} {b : Nat} (hb_b : b < 6) {j sz : Nat} (hz : (Sh b).1 3 = nI sz) (hsz : sz ≤ 60) (hj : j < sz) (v1 : Int64) : Ct l yX7_store cX7_store 4 none 2 D tc tt [.ref (ad (52 + 2 * b)), .int (nI j), .long v1] (hx ad tc W g h Dv Sh u v z y) (PV fun w => w = hx ad tc W g h Dv (va_up Sh b ((Sh b).1, vp_updL (Sh b).2 j (lbF ((Sh b).1 2) v1))) u v z y) := by
  refine Ct.of (by decide +kernel) (Nat.le_of_ble_eq_true rfl) ?_
  intro p e R s m args below meth c A C hr hlk
  refine E_iload_n C dX7_store_0 1 rfl (E_if_lt C 29 dX7_store_1 (by decide) (fun c1 => ?_) (fun c1 => ?_))
  ·
    exact absurd c1 (nI_pos (by omega))
  ·
    refine E_iload_n C dX7_store_4 1 rfl (E_aload_n C dX7_store_5 0 rfl (xg_7_4 C (b := b) hb_b dX7_store_6 f_X7_22 ?_))
    refine Ev.seti hz ?_
    refine E_icmp_ge C 29 dX7_store_9 (by decide) (fun c9 => ?_) (fun c9 => ?_)
    ·
      exact absurd c9 (nI_ge hj (by omega))
    ·
      refine E_iload_n C dX7_store_12 1 rfl (E_bipush (v := 60) C dX7_store_13 bp_60 (E_icmp_ge C 29 dX7_store_15 (by decide) (fun c15 => ?_) (fun c15 => ?_)))
      ·
        exact absurd (show nI 60 ≤ nI j from c15) (nI_ge (by omega) (by decide))
      ·
        refine E_aload_n C dX7_store_18 0 rfl (xg_7_0 C (b := b) hb_b dX7_store_19 f_X7_11 (E_iload_n C dX7_store_22 1 rfl (E_aload_n C dX7_store_23 0 rfl (E_lload_n C dX7_store_24 2 rfl (E_callVL C dX7_store_25 mv_X7_33 _ _ (s_lowestBits hb_b v1) (xat_sh0 (b := b) hb_b) rfl rfl (by decide) (Nat.le_of_ble_eq_true rfl) ?_)))))
        rintro _ _ ⟨rfl, rfl⟩
        refine xs_sh1 C (b := b) hb_b dX7_store_28 (vinN (by omega)) ?_
        rw [nI_clamp (show j < 2 ^ 31 by omega)]
        refine E_vretV C hr hlk dX7_store_29 ?_
        rfl
set_option maxRecDepth 100000 in
set_option maxHeartbeats 4000000 in
theorem s_becomeRow {l : Launch} {D : va_G} {tc tt ad : Nat → Nat} {W : Nat → Nat → Int32} {g : Nat → Int32} {h : Nat → Nat → Int32} {Dv : Nat → (Nat → Int32) × (Nat → Nat → Int32)} {Sh : Nat → (Nat → Int32) × (Nat → Int64)} {u : Nat → Int32} {v : Nat → Nat → Int32} {z : Int64} {y : Nat → Int64} {b : Nat} (hb_b : b < 6) (so nn : Int32) : Ct l yX7_becomeRow cX7_becomeRow 4 none 1 D tc tt [.ref (ad (52 + 2 * b)), .int so, .int nn] (hx ad tc W g h Dv Sh u v z y) (PV fun w => ∃ Sh', w = hx ad tc W g h Dv Sh' u v z y ∧ (∀ k, k ≠ b → Sh' k = Sh k) ∧ (Sh' b).1 0 = 2 ∧ (Sh' b).1 1 = (Sh b).1 1 ∧ (Sh' b).1 2 = so ∧ (Sh' b).1 3 = nn ∧ ∀ j, j < 60 → (Sh' b).2 j = 0) := by
  refine Ct.of (by decide +kernel) (Nat.le_of_ble_eq_true rfl) ?_
  intro p e R s m args below meth c A C hr hlk
  have K : ∀ (n i : Nat) (Sh1 : (Nat → (Nat → Int32) × (Nat → Int64))), i ≤ 60 → 60 < i + n → (∀ k, k ≠ b → Sh1 k = Sh k) → (Sh1 b).1 0 = 2 → (Sh1 b).1 1 = (Sh b).1 1 → (Sh1 b).1 2 = so → (Sh1 b).1 3 = nn → (∀ j, j < i → (Sh1 b).2 j = 0) → Ev p l e R s m args below meth c 0 0 (EQ below (PV fun w => ∃ Sh', w = hx ad tc W g h Dv Sh' u v z y ∧ (∀ k, k ≠ b → Sh' k = Sh k) ∧ (Sh' b).1 0 = 2 ∧ (Sh' b).1 1 = (Sh b).1 1 ∧ (Sh' b).1 2 = so ∧ (Sh' b).1 3 = nn ∧ ∀ j, j < 60 → (Sh' b).2 j = 0) args s D A) D A 4 (hx ad tc W g h Dv Sh1 u v z y) 17 [(3, .int (nI i)), (0, .ref (ad (52 + 2 * b))), (1, .int so), (2, .int nn)] [] := by
    intro n
    induction n with
    | zero =>
      intro i Sh1 h1 h2 hf h0 h3 h4 h5 hz
      exfalso; omega
    | succ n ih =>
      intro i Sh1 h1 h2 hf h0 h3 h4 h5 hz
      refine E_iload_n C dX7_becomeRow_17 0 rfl (E_bipush (v := 60) C dX7_becomeRow_18 bp_60 (E_icmp_ge C 36 dX7_becomeRow_20 (by decide) (fun c20 => ?_) (fun c20 => ?_)))
      ·
        obtain rfl : i = 60 := by
          rcases Nat.lt_or_ge i 60 with q | q
          · exact absurd (show nI 60 ≤ nI i from c20) (nI_ge q (by decide))
          · omega
        refine E_vretV C hr hlk dX7_becomeRow_36 ?_
        exact ⟨Sh1, rfl, hf, h0, h3, h4, h5, hz⟩
      ·
        have hi : i < 60 := by
          rcases Nat.lt_or_ge i 60 with q | q
          · exact q
          · exact absurd (show nI 60 ≤ nI i from nI_le q (by omega)) c20
        refine E_aload_n C dX7_becomeRow_23 1 rfl (xg_7_0 C (b := b) hb_b dX7_becomeRow_24 f_X7_11 (E_iload_n C dX7_becomeRow_27 0 rfl (E_lconst (v := 0) C dX7_becomeRow_28 rfl (xs_sh1 C (b := b) hb_b dX7_becomeRow_29 (vinN hi) ?_))))
        rw [nI_clamp (show i < 2 ^ 31 by omega)]
        refine E_iinc C dX7_becomeRow_30 0 rfl (nI_1 i) (by decide) (E_goto C 17 dX7_becomeRow_33 (by decide) ?_)
        refine Ev.sub [0, 1, 2, 3] rfl (ih (i + 1) _ (by omega) (by omega) (fun k hk => (vun hk).trans (hf k hk)) ?_ ?_ ?_ ?_ ?_)
        · rw [vus]; exact h0
        · rw [vus]; exact h3
        · rw [vus]; exact h4
        · rw [vus]; exact h5
        · intro j hj
          rw [vus]
          by_cases e : j = i
          · subst e; exact if_pos rfl
          · exact (if_neg e).trans (hz j (by omega))
  refine E_aload_n C dX7_becomeRow_0 0 rfl (E_iconst (v := 2) C dX7_becomeRow_1 ic_2 (xp_7_1 C (b := b) hb_b dX7_becomeRow_2 fw_X7_15 (E_aload_n C dX7_becomeRow_5 0 rfl (E_iload_n C dX7_becomeRow_6 1 rfl (xp_7_3 C (b := b) hb_b dX7_becomeRow_7 fw_X7_19 ?_)))))
  refine E_aload_n C dX7_becomeRow_10 0 rfl (E_iload_n C dX7_becomeRow_11 2 rfl (xp_7_4 C (b := b) hb_b dX7_becomeRow_12 fw_X7_22 (E_iconst (v := 0) C dX7_becomeRow_15 ic_0 (E_istore_n C dX7_becomeRow_16 (by decide) ?_))))
  exact K 61 0 _ (by omega) (by omega) (fun k hk => (vun hk).trans ((vun hk).trans (vun hk))) (by rw [vus, vus, vus]; rfl) (by rw [vus, vus, vus]; rfl) (by rw [vus, vus, vus]; rfl) (by rw [vus, vus, vus]; rfl) (fun j hj => absurd hj (Nat.not_lt_zero _))
set_option maxRecDepth 100000 in
set_option maxHeartbeats 4000000 in
theorem s_becomeLike_3 {l : Launch} {D : va_G} {tc tt ad : Nat → Nat} {W : Nat → Nat → Int32} {g : Nat → Int32} {h : Nat → Nat → Int32} {Dv : Nat → (Nat → Int32) × (Nat → Nat → Int32)} {Sh : Nat → (Nat → Int32) × (Nat → Int64)} {u : Nat → Int32} {v : Nat → Nat → Int32} {z : Int64} {y : Nat → Int64} {on st fo : Nat} {q : DT} (hq : DRel False (Dv 2) on st fo q) (hon : on ≤ 1) : Ct l yX3_becomeLike cX3_becomeLike 2 none 1 D tc tt [.ref (ad 48), .ref (ad 44)] (hx ad tc W g h Dv Sh u v z y) (PV fun w => ∃ Dv', w = hx ad tc W g h Dv' Sh u v z y ∧ (∀ k, k ≠ 3 → Dv' k = Dv k) ∧ DRel False (Dv' 3) on st fo q) := by
  refine Ct.of (by decide +kernel) (Nat.le_of_ble_eq_true rfl) ?_
  intro p e R s m args below meth c A C hr hlk
  obtain ⟨h0, h1, h2, h3, h4, h5, h6, h7, h8, h9⟩ := hq
  refine E_aload_n C dX3_becomeLike_0 0 rfl (E_aload_n C dX3_becomeLike_1 1 rfl (xg_3_4 C (b := 2) (by decide) dX3_becomeLike_2 f_X3_32 ?_))
  refine Ev.seti h0 ?_
  refine xp_3_4 C (b := 3) (by decide) dX3_becomeLike_5 fw_X3_32 (bzN hon).1 (bzN hon).2 (E_aload_n C dX3_becomeLike_8 0 rfl (E_aload_n C dX3_becomeLike_9 1 rfl (xg_3_5 C (b := 2) (by decide) dX3_becomeLike_10 f_X3_36 (xp_3_5 C (b := 3) (by decide) dX3_becomeLike_13 fw_X3_36 (E_aload_n C dX3_becomeLike_16 0 rfl ?_)))))
  refine E_aload_n C dX3_becomeLike_17 1 rfl (xg_3_6 C (b := 2) (by decide) dX3_becomeLike_18 f_X3_40 (xp_3_6 C (b := 3) (by decide) dX3_becomeLike_21 fw_X3_40 (E_aload_n C dX3_becomeLike_24 0 rfl (E_aload_n C dX3_becomeLike_25 1 rfl (xg_3_7 C (b := 2) (by decide) dX3_becomeLike_26 f_X3_43 ?_)))))
  refine xp_3_7 C (b := 3) (by decide) dX3_becomeLike_29 fw_X3_43 (E_aload_n C dX3_becomeLike_32 0 rfl (E_aload_n C dX3_becomeLike_33 1 rfl (xg_3_8 C (b := 2) (by decide) dX3_becomeLike_34 f_X3_46 (xp_3_8 C (b := 3) (by decide) dX3_becomeLike_37 fw_X3_46 (E_aload_n C dX3_becomeLike_40 0 rfl ?_)))))
  refine E_aload_n C dX3_becomeLike_41 1 rfl (xg_3_9 C (b := 2) (by decide) dX3_becomeLike_42 f_X3_49 (xp_3_9 C (b := 3) (by decide) dX3_becomeLike_45 fw_X3_49 (E_aload_n C dX3_becomeLike_48 0 rfl (E_aload_n C dX3_becomeLike_49 1 rfl (xg_3_10 C (b := 2) (by decide) dX3_becomeLike_50 f_X3_52 ?_)))))
  refine xp_3_10 C (b := 3) (by decide) dX3_becomeLike_53 fw_X3_52 (E_aload_n C dX3_becomeLike_56 0 rfl (E_aload_n C dX3_becomeLike_57 1 rfl (xg_3_11 C (b := 2) (by decide) dX3_becomeLike_58 f_X3_55 (xp_3_11 C (b := 3) (by decide) dX3_becomeLike_61 fw_X3_55 (E_vretV C hr hlk dX3_becomeLike_64 ?_)))))
  refine ⟨_, rfl, fun k hk => ?_, rfl, h1, h2, h3, h4, h5, h6, h7, fun q => absurd q not_false, fun q => absurd q not_false⟩
  simp only [va_up, if_neg hk]
set_option maxRecDepth 100000 in
set_option maxHeartbeats 4000000 in
theorem s_becomeLike_2 {l : Launch} {D : va_G} {tc tt ad : Nat → Nat} {W : Nat → Nat → Int32} {g : Nat → Int32} {h : Nat → Nat → Int32} {Dv : Nat → (Nat → Int32) × (Nat → Nat → Int32)} {Sh : Nat → (Nat → Int32) × (Nat → Int64)} {u : Nat → Int32} {v : Nat → Nat → Int32} {z : Int64} {y : Nat → Int64} {on st fo : Nat} {q : DT} (hq : DRel False (Dv 3) on st fo q) (hon : on ≤ 1) : Ct l yX3_becomeLike cX3_becomeLike 2 none 1 D tc tt [.ref (ad 44), .ref (ad 48)] (hx ad tc W g h Dv Sh u v z y) (PV fun w => ∃ Dv', w = hx ad tc W g h Dv' Sh u v z y ∧ (∀ k, k ≠ 2 → Dv' k = Dv k) ∧ DRel False (Dv' 2) on st fo q) := by
  refine Ct.of (by decide +kernel) (Nat.le_of_ble_eq_true rfl) ?_
  intro p e R s m args below meth c A C hr hlk
  obtain ⟨h0, h1, h2, h3, h4, h5, h6, h7, h8, h9⟩ := hq
  refine E_aload_n C dX3_becomeLike_0 0 rfl (E_aload_n C dX3_becomeLike_1 1 rfl (xg_3_4 C (b := 3) (by decide) dX3_becomeLike_2 f_X3_32 ?_))
  refine Ev.seti h0 ?_
  refine xp_3_4 C (b := 2) (by decide) dX3_becomeLike_5 fw_X3_32 (bzN hon).1 (bzN hon).2 (E_aload_n C dX3_becomeLike_8 0 rfl (E_aload_n C dX3_becomeLike_9 1 rfl (xg_3_5 C (b := 3) (by decide) dX3_becomeLike_10 f_X3_36 (xp_3_5 C (b := 2) (by decide) dX3_becomeLike_13 fw_X3_36 (E_aload_n C dX3_becomeLike_16 0 rfl ?_)))))
  refine E_aload_n C dX3_becomeLike_17 1 rfl (xg_3_6 C (b := 3) (by decide) dX3_becomeLike_18 f_X3_40 (xp_3_6 C (b := 2) (by decide) dX3_becomeLike_21 fw_X3_40 (E_aload_n C dX3_becomeLike_24 0 rfl (E_aload_n C dX3_becomeLike_25 1 rfl (xg_3_7 C (b := 3) (by decide) dX3_becomeLike_26 f_X3_43 ?_)))))
  refine xp_3_7 C (b := 2) (by decide) dX3_becomeLike_29 fw_X3_43 (E_aload_n C dX3_becomeLike_32 0 rfl (E_aload_n C dX3_becomeLike_33 1 rfl (xg_3_8 C (b := 3) (by decide) dX3_becomeLike_34 f_X3_46 (xp_3_8 C (b := 2) (by decide) dX3_becomeLike_37 fw_X3_46 (E_aload_n C dX3_becomeLike_40 0 rfl ?_)))))
  refine E_aload_n C dX3_becomeLike_41 1 rfl (xg_3_9 C (b := 3) (by decide) dX3_becomeLike_42 f_X3_49 (xp_3_9 C (b := 2) (by decide) dX3_becomeLike_45 fw_X3_49 (E_aload_n C dX3_becomeLike_48 0 rfl (E_aload_n C dX3_becomeLike_49 1 rfl (xg_3_10 C (b := 3) (by decide) dX3_becomeLike_50 f_X3_52 ?_)))))
  refine xp_3_10 C (b := 2) (by decide) dX3_becomeLike_53 fw_X3_52 (E_aload_n C dX3_becomeLike_56 0 rfl (E_aload_n C dX3_becomeLike_57 1 rfl (xg_3_11 C (b := 3) (by decide) dX3_becomeLike_58 f_X3_55 (xp_3_11 C (b := 2) (by decide) dX3_becomeLike_61 fw_X3_55 (E_vretV C hr hlk dX3_becomeLike_64 ?_)))))
  refine ⟨_, rfl, fun k hk => ?_, rfl, h1, h2, h3, h4, h5, h6, h7, fun q => absurd q not_false, fun q => absurd q not_false⟩
  simp only [va_up, if_neg hk]
set_option maxRecDepth 100000 in
set_option maxHeartbeats 4000000 in
theorem s_keepImage {l : Launch} {D : va_G} {tc tt ad : Nat → Nat} {W : Nat → Nat → Int32} {g : Nat → Int32} {h : Nat → Nat → Int32} {Dv : Nat → (Nat → Int32) × (Nat → Nat → Int32)} {Sh : Nat → (Nat → Int32) × (Nat → Int64)} {u : Nat → Int32} {v : Nat → Nat → Int32} {z : Int64} {y : Nat → Int64} {on st fo : Nat} {q : DT} (hq : DRel False (Dv 2) on st fo q) (hon : on ≤ 1) : Ct l yX4_keepImage cX4_keepImage 1 none 2 D tc tt [.ref (ad 31)] (hx ad tc W g h Dv Sh u v z y) (PV fun w => ∃ Dv', w = hx ad tc W (va_up (va_up (va_up g 8 (g 6)) 9 (g 7)) 10 1) h Dv' Sh u v z y ∧ (∀ k, k ≠ 3 → Dv' k = Dv k) ∧ DRel False (Dv' 3) on st fo q) := by
  refine Ct.of (by decide +kernel) (Nat.le_of_ble_eq_true rfl) ?_
  intro p e R s m args below meth c A C hr hlk
  refine E_aload_n C dX4_keepImage_0 0 rfl (xg_4_1 C dX4_keepImage_1 f_X4_18 (E_aload_n C dX4_keepImage_4 0 rfl (xg_4_0 C dX4_keepImage_5 f_X4_12 (E_callVV C dX4_keepImage_8 mv_X4_21 _ _ (s_becomeLike_3 hq hon) (xat_dr0 (b := 3) (by decide)) rfl rfl (by decide) (Nat.le_of_ble_eq_true rfl) ?_))))
  rintro _ ⟨Dv1, rfl, hf, hq1⟩
  refine E_aload_n C dX4_keepImage_11 0 rfl (E_aload_n C dX4_keepImage_12 0 rfl (xg_4_2 C dX4_keepImage_13 f_X4_25 (xp_4_4 C dX4_keepImage_16 fw_X4_29 (E_aload_n C dX4_keepImage_19 0 rfl (E_aload_n C dX4_keepImage_20 0 rfl ?_)))))
  refine xg_4_3 C dX4_keepImage_21 f_X4_32 (xp_4_5 C dX4_keepImage_24 fw_X4_35 (E_aload_n C dX4_keepImage_27 0 rfl (E_iconst (v := 1) C dX4_keepImage_28 ic_1 (xp_4_6 C dX4_keepImage_29 fw_X4_38 rfl rfl (E_vretV C hr hlk dX4_keepImage_32 ?_)))))
  exact ⟨Dv1, rfl, hf, hq1⟩
set_option maxRecDepth 100000 in
set_option maxHeartbeats 4000000 in
theorem s_layBack {l : Launch} {D : va_G} {tc tt ad : Nat → Nat} {W : Nat → Nat → Int32} {g : Nat → Int32} {h : Nat → Nat → Int32} {Dv : Nat → (Nat → Int32) × (Nat → Nat → Int32)} {Sh : Nat → (Nat → Int32) × (Nat → Int64)} {u : Nat → Int32} {v : Nat → Nat → Int32} {z : Int64} {y : Nat → Int64} {on st fo : Nat} {q : DT} (hq : DRel False (Dv 3) on st fo q) (hon : on ≤ 1) : Ct l yX4_layBack cX4_layBack 1 none 2 D tc tt [.ref (ad 31)] (hx ad tc W g h Dv Sh u v z y) (PV fun w => ∃ Dv', w = hx ad tc W (va_up (va_up g 6 (g 8)) 7 (g 9)) h Dv' Sh u v z y ∧ (∀ k, k ≠ 2 → Dv' k = Dv k) ∧ DRel False (Dv' 2) on st fo q) := by
  refine Ct.of (by decide +kernel) (Nat.le_of_ble_eq_true rfl) ?_
  intro p e R s m args below meth c A C hr hlk
  refine E_aload_n C dX4_layBack_0 0 rfl (xg_4_0 C dX4_layBack_1 f_X4_12 (E_aload_n C dX4_layBack_4 0 rfl (xg_4_1 C dX4_layBack_5 f_X4_18 (E_callVV C dX4_layBack_8 mv_X4_21 _ _ (s_becomeLike_2 hq hon) (xat_dr0 (b := 2) (by decide)) rfl rfl (by decide) (Nat.le_of_ble_eq_true rfl) ?_))))
  rintro _ ⟨Dv1, rfl, hf, hq1⟩
  refine E_aload_n C dX4_layBack_11 0 rfl (E_aload_n C dX4_layBack_12 0 rfl (xg_4_4 C dX4_layBack_13 f_X4_29 (xp_4_2 C dX4_layBack_16 fw_X4_25 (E_aload_n C dX4_layBack_19 0 rfl (E_aload_n C dX4_layBack_20 0 rfl ?_)))))
  refine xg_4_5 C dX4_layBack_21 f_X4_35 (xp_4_3 C dX4_layBack_24 fw_X4_32 (E_vretV C hr hlk dX4_layBack_27 ?_))
  exact ⟨Dv1, rfl, hf, hq1⟩
set_option maxRecDepth 100000 in
set_option maxHeartbeats 4000000 in
theorem s_broughtBy {l : Launch} {D : va_G} {tc tt ad : Nat → Nat} {W : Nat → Nat → Int32} {g : Nat → Int32} {h : Nat → Nat → Int32} {Dv : Nat → (Nat → Int32) × (Nat → Nat → Int32)} {Sh : Nat → (Nat → Int32) × (Nat → Int64)} {u : Nat → Int32} {v : Nat → Nat → Int32} {z : Int64} {y : Nat → Int64} {N : Nat → Nat → Nat} (hN : NW W N) {n : Nat} (hn : g 0 = nI n) (hn8 : n ≤ 8) (t : Nat) (ht : t < 8) : Ct l yX9_broughtBy cX9_broughtBy 5 (some .int) 2 D tc tt [.ref (ad 1), .int (nI t)] (hx ad tc W g h Dv Sh u v z y) (PI fun r w => r = nI (brO N n (2 ^ t) 8) ∧ w = hx ad tc W g h Dv Sh u v z y) := by
  refine Ct.of (by decide +kernel) (Nat.le_of_ble_eq_true rfl) ?_
  intro p e R s m args below meth c A C hr hlk
  have I : ∀ (k : Nat), Ev p l e R s m args below meth c 0 0 (EQ below (PI fun r w => r = nI (brO N n (2 ^ t) 8) ∧ w = hx ad tc W g h Dv Sh u v z y) args s D A) D A 5 (hx ad tc W g h Dv Sh u v z y) 55 [(4, .int (nI 8)), (3, .int (nI k)), (2, .int (nI (brI N n (brO N n (2 ^ t) k) 8))), (0, .ref (ad 1)), (1, .int (nI t))] [] → ∀ (f i : Nat), i ≤ 8 → 8 < i + f → Ev p l e R s m args below meth c 0 0 (EQ below (PI fun r w => r = nI (brO N n (2 ^ t) 8) ∧ w = hx ad tc W g h Dv Sh u v z y) args s D A) D A 5 (hx ad tc W g h Dv Sh u v z y) 15 [(4, .int (nI i)), (3, .int (nI k)), (2, .int (nI (brI N n (brO N n (2 ^ t) k) i))), (0, .ref (ad 1)), (1, .int (nI t))] [] := by
    intro k hk f
    induction f with
    | zero => intro i h1 h2; exfalso; omega
    | succ f ih =>
      intro i h1 h2
      refine E_iload C dX9_broughtBy_15 0 rfl (E_bipush (v := 8) C dX9_broughtBy_17 bp_8 (E_icmp_ge C 55 dX9_broughtBy_19 (by decide) (fun c19 => ?_) (fun c19 => ?_)))
      ·
        obtain rfl : i = 8 := by
          rcases Nat.lt_or_ge i 8 with q | q
          · exact absurd (show nI 8 ≤ nI i from c19) (nI_ge q (by decide))
          · omega
        exact hk
      ·
        have hi : i < 8 := by
          rcases Nat.lt_or_ge i 8 with q | q
          · exact q
          · exact absurd (show nI 8 ≤ nI i from nI_le q (by omega)) c19
        have hlt := brI_lt (N := N) hn8 (brO_lt (N := N) hn8 (two_lt ht) k) i
        refine E_iload_n C dX9_broughtBy_22 2 rfl (E_iload C dX9_broughtBy_23 0 rfl (E_ishr C dX9_broughtBy_25 (E_iconst (v := 1) C dX9_broughtBy_26 ic_1 (E_iand C dX9_broughtBy_27 (E_iconst (v := 1) C dX9_broughtBy_28 ic_1 ?_)))))
        refine E_icmp_ne C 49 dX9_broughtBy_29 (by decide) (fun c29 => ?_) (fun c29 => ?_)
        ·
          have hbt : ¬ (brI N n (brO N n (2 ^ t) k) i).testBit i = true := fun z => c29 ((nx_bitE _ i (by omega) (by omega)).mpr z)
          have hbr : brI N n (brO N n (2 ^ t) k) (i + 1) = brI N n (brO N n (2 ^ t) k) i := if_neg hbt
          refine E_iinc C dX9_broughtBy_49 0 rfl (nI_1 i) (by decide) (E_goto C 15 dX9_broughtBy_52 (by decide) ?_)
          refine Ev.sub [0, 1, 2, 3, 4] rfl ?_
          have hg := ih (i + 1) (by omega) (by omega)
          rw [hbr] at hg
          exact hg
        ·
          have hbt : (brI N n (brO N n (2 ^ t) k) i).testBit i = true := (nx_bitE _ i (by omega) (by omega)).mp c29
          have hbr : brI N n (brO N n (2 ^ t) k) (i + 1) = brI N n (brO N n (2 ^ t) k) i ||| (N 4 i &&& (2 ^ n - 1)) := if_pos hbt
          refine E_iload_n C dX9_broughtBy_32 2 rfl (E_aload_n C dX9_broughtBy_33 3 rfl (E_iconst (v := 4) C dX9_broughtBy_34 ic_4 (E_iload C dX9_broughtBy_35 0 rfl (E_callVI C dX9_broughtBy_37 mv_X9_65 1 _ (s_value 4 i (by decide) hi) rfl rfl rfl (by decide) (Nat.le_of_ble_eq_true rfl) ?_))))
          rintro _ _ ⟨rfl, rfl⟩
          refine Ev.seti (hN 4 i (by decide) hi) ?_
          refine E_aload_n C dX9_broughtBy_40 3 rfl (E_callVI C dX9_broughtBy_41 mv_X9_61 1 _ (s_sets hn hn8) rfl rfl rfl (by decide) (Nat.le_of_ble_eq_true rfl) ?_)
          rintro _ _ ⟨rfl, rfl⟩
          refine E_iconst (v := 1) C dX9_broughtBy_44 ic_1 (E_isub C dX9_broughtBy_45 ?_)
          refine Ev.seti (show nI (2 ^ n) - 1 = nI (2 ^ n - 1) from pk_sub (b := 1) (Nat.two_pow_pos n)) ?_
          refine E_iand C dX9_broughtBy_46 ?_
          refine Ev.seti (nx_and _ _) ?_
          refine E_ior C dX9_broughtBy_47 ?_
          refine Ev.seti (nx_or _ _) ?_
          refine E_istore_n C dX9_broughtBy_48 (by decide) (E_iinc C dX9_broughtBy_49 1 rfl (nI_1 i) (by decide) (E_goto C 15 dX9_broughtBy_52 (by decide) ?_))
          refine Ev.sub [0, 2, 1, 3, 4] rfl ?_
          have hg := ih (i + 1) (by omega) (by omega)
          rw [hbr] at hg
          exact hg
  have J : ∀ (f k : Nat), k ≤ 8 → 8 < k + f → Ev p l e R s m args below meth c 0 0 (EQ below (PI fun r w => r = nI (brO N n (2 ^ t) 8) ∧ w = hx ad tc W g h Dv Sh u v z y) args s D A) D A 5 (hx ad tc W g h Dv Sh u v z y) 6 [(3, .int (nI k)), (2, .int (nI (brO N n (2 ^ t) k))), (0, .ref (ad 1)), (1, .int (nI t))] [] := by
    intro f
    induction f with
    | zero => intro k h1 h2; exfalso; omega
    | succ f ih =>
      intro k h1 h2
      refine E_iload_n C dX9_broughtBy_6 0 rfl (E_bipush (v := 8) C dX9_broughtBy_7 bp_8 (E_icmp_ge C 61 dX9_broughtBy_9 (by decide) (fun c9 => ?_) (fun c9 => ?_)))
      ·
        obtain rfl : k = 8 := by
          rcases Nat.lt_or_ge k 8 with q | q
          · exact absurd (show nI 8 ≤ nI k from c9) (nI_ge q (by decide))
          · omega
        refine E_iload_n C dX9_broughtBy_61 1 rfl (E_iretI C hr hlk dX9_broughtBy_62 ?_)
        exact ⟨rfl, rfl⟩
      ·
        have hk8 : k < 8 := by
          rcases Nat.lt_or_ge k 8 with q | q
          · exact q
          · exact absurd (show nI 8 ≤ nI k from nI_le q (by omega)) c9
        refine E_iconst (v := 0) C dX9_broughtBy_12 ic_0 (E_istore C dX9_broughtBy_13 (by decide) ?_)
        refine Ev.sub [0, 1, 2, 3, 4] rfl (I k ?_ 9 0 (by omega) (by omega))
        refine E_iinc C dX9_broughtBy_55 1 rfl (nI_1 k) (by decide) (E_goto C 6 dX9_broughtBy_58 (by decide) ?_)
        exact Ev.sub [0, 2, 3, 4] rfl (ih (k + 1) (by omega) (by omega))
  refine E_iconst (v := 1) C dX9_broughtBy_0 ic_1 (E_iload_n C dX9_broughtBy_1 1 rfl (E_ishl C dX9_broughtBy_2 ?_))
  refine Ev.seti (nx_one t (by omega)) ?_
  refine E_istore_n C dX9_broughtBy_3 (by decide) (E_iconst (v := 0) C dX9_broughtBy_4 ic_0 (E_istore_n C dX9_broughtBy_5 (by decide) ?_))
  exact Ev.sub [0, 1, 2, 3] rfl (J 9 0 (by omega) (by omega))
