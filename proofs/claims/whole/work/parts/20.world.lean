/-! small methods: the class's World -/
/-- the numbers of things, people, ways, price as naturals, each as it may be; n things -/
def lim (n k : Nat) : Nat := if k < 5 then n else if k = 5 then 6 else if k = 6 then 6 else 1
def lo (k : Nat) : Nat := if k = 5 then 1 else if k = 6 then 1 else 0
def hi (k : Nat) : Nat := [5, 12, 6, 99, 255, 9, 20, 9].getD k 0
def NW (W : Nat → Nat → Int32) (N : Nat → Nat → Nat) : Prop := ∀ k j, k < 8 → j < 8 → W k j = nI (N k j)
def mayB (what v : Int32) : Bool := decide (0 ≤ what ∧ what < 8 ∧ kLeast what.toNatClampNeg ≤ v ∧ v ≤ kMost what.toNatClampNeg)
theorem bz_or (x : Int32) (h : x = 0 ∨ x = 1) : narrow .boolean (.int x) = .int x := by rcases h with rfl | rfl <;> rfl
set_option maxRecDepth 100000 in
set_option maxHeartbeats 4000000 in
theorem s_value {l : Launch} {D : va_G} {tc tt ad : Nat → Nat} {W : Nat → Nat → Int32} {g : Nat → Int32} {h : Nat → Nat → Int32} {Dv : Nat → (Nat → Int32) × (Nat → Nat → Int32)} {Sh : Nat → (Nat → Int32) × (Nat → Int64)} {u : Nat → Int32} {v : Nat → Nat → Int32} {z : Int64} {y : Nat → Int64} (k j : Nat) (hk : k < 8) (hj : j < 8) : Ct l yX9_value cX9_value 3 (some .int) 1 D tc tt [.ref (ad 1), .int (nI k), .int (nI j)] (hx ad tc W g h Dv Sh u v z y) (PI fun r w => r = W k j ∧ w = hx ad tc W g h Dv Sh u v z y) := by
  refine Ct.of (by decide +kernel) (Nat.le_of_ble_eq_true rfl) ?_
  intro p e R s m args below meth c A C hr hlk
  refine E_iload_n C dX9_value_0 1 rfl (E_if_lt C 20 dX9_value_1 (by decide) (fun c1 => ?_) (fun c1 => ?_))
  ·
    exact absurd c1 (nI_pos (by omega))
  ·
    refine E_iload_n C dX9_value_4 1 rfl (E_bipush (v := 8) C dX9_value_5 bp_8 (E_icmp_ge C 20 dX9_value_7 (by decide) (fun c7 => ?_) (fun c7 => ?_)))
    ·
      exact absurd (show nI 8 ≤ nI k from c7) (nI_ge hk (by decide))
    ·
      refine E_iload_n C dX9_value_10 2 rfl (E_if_lt C 20 dX9_value_11 (by decide) (fun c11 => ?_) (fun c11 => ?_))
      ·
        exact absurd c11 (nI_pos (by omega))
      ·
        refine E_iload_n C dX9_value_14 2 rfl (E_bipush (v := 8) C dX9_value_15 bp_8 (E_icmp_lt C 22 dX9_value_17 (by decide) (fun c17 => ?_) (fun c17 => ?_)))
        ·
          refine E_aload_n C dX9_value_22 0 rfl (xg_9_0 C dX9_value_23 f_X9_11 (E_iload_n C dX9_value_26 1 rfl (xa_num C dX9_value_27 (vinN hk) (E_iload_n C dX9_value_28 2 rfl ?_))))
          rw [nI_clamp (show k < 2 ^ 31 by omega)]
          refine xa_row C hk dX9_value_29 (vinN hj) ?_
          rw [nI_clamp (show j < 2 ^ 31 by omega)]
          refine E_iretI C hr hlk dX9_value_30 ?_
          exact ⟨rfl, rfl⟩
        ·
          exact absurd (show nI j < nI 8 from nI_lt hj (by decide)) c17
set_option maxRecDepth 100000 in
set_option maxHeartbeats 4000000 in
theorem s_become {l : Launch} {D : va_G} {tc tt ad : Nat → Nat} {W : Nat → Nat → Int32} {g : Nat → Int32} {h : Nat → Nat → Int32} {Dv : Nat → (Nat → Int32) × (Nat → Nat → Int32)} {Sh : Nat → (Nat → Int32) × (Nat → Int64)} {u : Nat → Int32} {v : Nat → Nat → Int32} {z : Int64} {y : Nat → Int64} (k j : Nat) (x : Int32) (hk : k < 8) (hj : j < 8) : Ct l yX9_become cX9_become 4 none 1 D tc tt [.ref (ad 1), .int (nI k), .int (nI j), .int x] (hx ad tc W g h Dv Sh u v z y) (PV fun w => w = hx ad tc (va_up W k (upd (W k) j x)) (va_up g 1 (g 1 + 1)) h Dv Sh u v z y) := by
  refine Ct.of (by decide +kernel) (Nat.le_of_ble_eq_true rfl) ?_
  intro p e R s m args below meth c A C hr hlk
  refine E_iload_n C dX9_become_0 1 rfl (E_if_lt C 39 dX9_become_1 (by decide) (fun c1 => ?_) (fun c1 => ?_))
  ·
    exact absurd c1 (nI_pos (by omega))
  ·
    refine E_iload_n C dX9_become_4 1 rfl (E_bipush (v := 8) C dX9_become_5 bp_8 (E_icmp_ge C 39 dX9_become_7 (by decide) (fun c7 => ?_) (fun c7 => ?_)))
    ·
      exact absurd (show nI 8 ≤ nI k from c7) (nI_ge hk (by decide))
    ·
      refine E_iload_n C dX9_become_10 2 rfl (E_if_lt C 39 dX9_become_11 (by decide) (fun c11 => ?_) (fun c11 => ?_))
      ·
        exact absurd c11 (nI_pos (by omega))
      ·
        refine E_iload_n C dX9_become_14 2 rfl (E_bipush (v := 8) C dX9_become_15 bp_8 (E_icmp_ge C 39 dX9_become_17 (by decide) (fun c17 => ?_) (fun c17 => ?_)))
        ·
          exact absurd (show nI 8 ≤ nI j from c17) (nI_ge hj (by decide))
        ·
          refine E_aload_n C dX9_become_20 0 rfl (xg_9_0 C dX9_become_21 f_X9_11 (E_iload_n C dX9_become_24 1 rfl (xa_num C dX9_become_25 (vinN hk) ?_)))
          rw [nI_clamp (show k < 2 ^ 31 by omega)]
          refine E_iload_n C dX9_become_26 2 rfl (E_iload_n C dX9_become_27 3 rfl (xs_row C hk dX9_become_28 (vinN hj) ?_))
          rw [nI_clamp (show j < 2 ^ 31 by omega)]
          refine E_aload_n C dX9_become_29 0 rfl (E_dup C dX9_become_30 rfl (xg_9_3 C dX9_become_31 f_X9_23 (E_iconst (v := 1) C dX9_become_34 ic_1 (E_iadd C dX9_become_35 (xp_9_3 C dX9_become_36 fw_X9_23 ?_)))))
          refine E_vretV C hr hlk dX9_become_39 ?_
          rfl
set_option maxRecDepth 100000 in
set_option maxHeartbeats 4000000 in
theorem s_may {l : Launch} {D : va_G} {tc tt : Nat → Nat} {ws : va_W} (what x : Int32) : Ct l yX9_may cX9_may 2 (some .boolean) 1 D tc tt [.int what, .int x] (ws) (PI fun r w => r = (if mayB what x then 1 else 0) ∧ w = ws) := by
  refine Ct.of (by decide +kernel) (Nat.le_of_ble_eq_true rfl) ?_
  intro p e R s m args below meth c A C hr hlk
  refine E_iload_n C dX9_may_0 0 rfl (E_if_lt C 42 dX9_may_1 (by decide) (fun c1 => ?_) (fun c1 => ?_))
  ·
    refine E_iconst (v := 0) C dX9_may_42 ic_0 (E_zretI C hr hlk dX9_may_43 rfl ?_)
    first | (refine ⟨(if_pos ?_).symm, rfl⟩; simp only [mayB, decide_eq_true_eq]; simp only [Int32.lt_iff_toInt_lt, Int32.le_iff_toInt_le, tl_m100, tl_m14, tl_m13, tl_m12, tl_m11, tl_m5, tl_m3, tl_m2, tl_m1, tl_0, tl_1, tl_2, tl_3, tl_4, tl_5, tl_6, tl_7, tl_8, tl_9, tl_10, tl_11, tl_12, tl_13, tl_14, tl_15, tl_16, tl_17, tl_18, tl_19, tl_20, tl_21, tl_22, tl_23, tl_24, tl_25, tl_26, tl_27, tl_28, tl_29, tl_30, tl_31, tl_32, tl_33, tl_34, tl_35, tl_36, tl_37, tl_38, tl_39, tl_40, tl_41, tl_42, tl_43, tl_44, tl_45, tl_46, tl_47, tl_48, tl_49, tl_50, tl_51, tl_52, tl_53, tl_54, tl_55, tl_56, tl_57, tl_58, tl_59, tl_60, tl_61, tl_62, tl_63, tl_64, tl_70, tl_80, tl_81, tl_99, tl_100, tl_110, tl_120, tl_122, tl_124, tl_126, tl_128, tl_130, tl_144, tl_200, tl_255, tl_256, tl_260, tl_360, tl_12345] at *; omega) | (refine ⟨(if_neg ?_).symm, rfl⟩; simp only [mayB, decide_eq_true_eq]; simp only [Int32.lt_iff_toInt_lt, Int32.le_iff_toInt_le, tl_m100, tl_m14, tl_m13, tl_m12, tl_m11, tl_m5, tl_m3, tl_m2, tl_m1, tl_0, tl_1, tl_2, tl_3, tl_4, tl_5, tl_6, tl_7, tl_8, tl_9, tl_10, tl_11, tl_12, tl_13, tl_14, tl_15, tl_16, tl_17, tl_18, tl_19, tl_20, tl_21, tl_22, tl_23, tl_24, tl_25, tl_26, tl_27, tl_28, tl_29, tl_30, tl_31, tl_32, tl_33, tl_34, tl_35, tl_36, tl_37, tl_38, tl_39, tl_40, tl_41, tl_42, tl_43, tl_44, tl_45, tl_46, tl_47, tl_48, tl_49, tl_50, tl_51, tl_52, tl_53, tl_54, tl_55, tl_56, tl_57, tl_58, tl_59, tl_60, tl_61, tl_62, tl_63, tl_64, tl_70, tl_80, tl_81, tl_99, tl_100, tl_110, tl_120, tl_122, tl_124, tl_126, tl_128, tl_130, tl_144, tl_200, tl_255, tl_256, tl_260, tl_360, tl_12345] at *; omega)
  ·
    refine E_iload_n C dX9_may_4 0 rfl (E_gets C dX9_may_5 st_X9_27 C.2.2.2.2.2.2.2.1.1.1 (E_tlen (v := 8) C dX9_may_8 C.2.2.2.2.2.2.2.1.1.2 rfl (E_icmp_ge C 42 dX9_may_9 (by decide) (fun c9 => ?_) (fun c9 => ?_))))
    ·
      refine E_iconst (v := 0) C dX9_may_42 ic_0 (E_zretI C hr hlk dX9_may_43 rfl ?_)
      first | (refine ⟨(if_pos ?_).symm, rfl⟩; simp only [mayB, decide_eq_true_eq]; simp only [Int32.lt_iff_toInt_lt, Int32.le_iff_toInt_le, tl_m100, tl_m14, tl_m13, tl_m12, tl_m11, tl_m5, tl_m3, tl_m2, tl_m1, tl_0, tl_1, tl_2, tl_3, tl_4, tl_5, tl_6, tl_7, tl_8, tl_9, tl_10, tl_11, tl_12, tl_13, tl_14, tl_15, tl_16, tl_17, tl_18, tl_19, tl_20, tl_21, tl_22, tl_23, tl_24, tl_25, tl_26, tl_27, tl_28, tl_29, tl_30, tl_31, tl_32, tl_33, tl_34, tl_35, tl_36, tl_37, tl_38, tl_39, tl_40, tl_41, tl_42, tl_43, tl_44, tl_45, tl_46, tl_47, tl_48, tl_49, tl_50, tl_51, tl_52, tl_53, tl_54, tl_55, tl_56, tl_57, tl_58, tl_59, tl_60, tl_61, tl_62, tl_63, tl_64, tl_70, tl_80, tl_81, tl_99, tl_100, tl_110, tl_120, tl_122, tl_124, tl_126, tl_128, tl_130, tl_144, tl_200, tl_255, tl_256, tl_260, tl_360, tl_12345] at *; omega) | (refine ⟨(if_neg ?_).symm, rfl⟩; simp only [mayB, decide_eq_true_eq]; simp only [Int32.lt_iff_toInt_lt, Int32.le_iff_toInt_le, tl_m100, tl_m14, tl_m13, tl_m12, tl_m11, tl_m5, tl_m3, tl_m2, tl_m1, tl_0, tl_1, tl_2, tl_3, tl_4, tl_5, tl_6, tl_7, tl_8, tl_9, tl_10, tl_11, tl_12, tl_13, tl_14, tl_15, tl_16, tl_17, tl_18, tl_19, tl_20, tl_21, tl_22, tl_23, tl_24, tl_25, tl_26, tl_27, tl_28, tl_29, tl_30, tl_31, tl_32, tl_33, tl_34, tl_35, tl_36, tl_37, tl_38, tl_39, tl_40, tl_41, tl_42, tl_43, tl_44, tl_45, tl_46, tl_47, tl_48, tl_49, tl_50, tl_51, tl_52, tl_53, tl_54, tl_55, tl_56, tl_57, tl_58, tl_59, tl_60, tl_61, tl_62, tl_63, tl_64, tl_70, tl_80, tl_81, tl_99, tl_100, tl_110, tl_120, tl_122, tl_124, tl_126, tl_128, tl_130, tl_144, tl_200, tl_255, tl_256, tl_260, tl_360, tl_12345] at *; omega)
    ·
      refine E_iload_n C dX9_may_12 0 rfl (E_gets C dX9_may_13 st_X9_31 C.2.2.2.2.2.2.2.1.2.1.1 (E_tlen (v := 8) C dX9_may_16 C.2.2.2.2.2.2.2.1.2.1.2 rfl (E_icmp_ge C 42 dX9_may_17 (by decide) (fun c17 => ?_) (fun c17 => ?_))))
      ·
        refine E_iconst (v := 0) C dX9_may_42 ic_0 (E_zretI C hr hlk dX9_may_43 rfl ?_)
        first | (refine ⟨(if_pos ?_).symm, rfl⟩; simp only [mayB, decide_eq_true_eq]; simp only [Int32.lt_iff_toInt_lt, Int32.le_iff_toInt_le, tl_m100, tl_m14, tl_m13, tl_m12, tl_m11, tl_m5, tl_m3, tl_m2, tl_m1, tl_0, tl_1, tl_2, tl_3, tl_4, tl_5, tl_6, tl_7, tl_8, tl_9, tl_10, tl_11, tl_12, tl_13, tl_14, tl_15, tl_16, tl_17, tl_18, tl_19, tl_20, tl_21, tl_22, tl_23, tl_24, tl_25, tl_26, tl_27, tl_28, tl_29, tl_30, tl_31, tl_32, tl_33, tl_34, tl_35, tl_36, tl_37, tl_38, tl_39, tl_40, tl_41, tl_42, tl_43, tl_44, tl_45, tl_46, tl_47, tl_48, tl_49, tl_50, tl_51, tl_52, tl_53, tl_54, tl_55, tl_56, tl_57, tl_58, tl_59, tl_60, tl_61, tl_62, tl_63, tl_64, tl_70, tl_80, tl_81, tl_99, tl_100, tl_110, tl_120, tl_122, tl_124, tl_126, tl_128, tl_130, tl_144, tl_200, tl_255, tl_256, tl_260, tl_360, tl_12345] at *; omega) | (refine ⟨(if_neg ?_).symm, rfl⟩; simp only [mayB, decide_eq_true_eq]; simp only [Int32.lt_iff_toInt_lt, Int32.le_iff_toInt_le, tl_m100, tl_m14, tl_m13, tl_m12, tl_m11, tl_m5, tl_m3, tl_m2, tl_m1, tl_0, tl_1, tl_2, tl_3, tl_4, tl_5, tl_6, tl_7, tl_8, tl_9, tl_10, tl_11, tl_12, tl_13, tl_14, tl_15, tl_16, tl_17, tl_18, tl_19, tl_20, tl_21, tl_22, tl_23, tl_24, tl_25, tl_26, tl_27, tl_28, tl_29, tl_30, tl_31, tl_32, tl_33, tl_34, tl_35, tl_36, tl_37, tl_38, tl_39, tl_40, tl_41, tl_42, tl_43, tl_44, tl_45, tl_46, tl_47, tl_48, tl_49, tl_50, tl_51, tl_52, tl_53, tl_54, tl_55, tl_56, tl_57, tl_58, tl_59, tl_60, tl_61, tl_62, tl_63, tl_64, tl_70, tl_80, tl_81, tl_99, tl_100, tl_110, tl_120, tl_122, tl_124, tl_126, tl_128, tl_130, tl_144, tl_200, tl_255, tl_256, tl_260, tl_360, tl_12345] at *; omega)
      ·
        refine E_iload_n C dX9_may_20 1 rfl (E_gets C dX9_may_21 st_X9_27 C.2.2.2.2.2.2.2.1.1.1 (E_iload_n C dX9_may_24 0 rfl (E_tald C dX9_may_25 C.2.2.2.2.2.2.2.1.1.2 (by rw [vp_in_iff]; simp only [Int32.lt_iff_toInt_lt, Int32.le_iff_toInt_le, tl_m100, tl_m14, tl_m13, tl_m12, tl_m11, tl_m5, tl_m3, tl_m2, tl_m1, tl_0, tl_1, tl_2, tl_3, tl_4, tl_5, tl_6, tl_7, tl_8, tl_9, tl_10, tl_11, tl_12, tl_13, tl_14, tl_15, tl_16, tl_17, tl_18, tl_19, tl_20, tl_21, tl_22, tl_23, tl_24, tl_25, tl_26, tl_27, tl_28, tl_29, tl_30, tl_31, tl_32, tl_33, tl_34, tl_35, tl_36, tl_37, tl_38, tl_39, tl_40, tl_41, tl_42, tl_43, tl_44, tl_45, tl_46, tl_47, tl_48, tl_49, tl_50, tl_51, tl_52, tl_53, tl_54, tl_55, tl_56, tl_57, tl_58, tl_59, tl_60, tl_61, tl_62, tl_63, tl_64, tl_70, tl_80, tl_81, tl_99, tl_100, tl_110, tl_120, tl_122, tl_124, tl_126, tl_128, tl_130, tl_144, tl_200, tl_255, tl_256, tl_260, tl_360, tl_12345] at *; omega) (E_icmp_lt C 42 dX9_may_26 (by decide) (fun c26 => ?_) (fun c26 => ?_)))))
        ·
          refine E_iconst (v := 0) C dX9_may_42 ic_0 (E_zretI C hr hlk dX9_may_43 rfl ?_)
          first | (refine ⟨(if_pos ?_).symm, rfl⟩; simp only [mayB, decide_eq_true_eq]; simp only [Int32.lt_iff_toInt_lt, Int32.le_iff_toInt_le, tl_m100, tl_m14, tl_m13, tl_m12, tl_m11, tl_m5, tl_m3, tl_m2, tl_m1, tl_0, tl_1, tl_2, tl_3, tl_4, tl_5, tl_6, tl_7, tl_8, tl_9, tl_10, tl_11, tl_12, tl_13, tl_14, tl_15, tl_16, tl_17, tl_18, tl_19, tl_20, tl_21, tl_22, tl_23, tl_24, tl_25, tl_26, tl_27, tl_28, tl_29, tl_30, tl_31, tl_32, tl_33, tl_34, tl_35, tl_36, tl_37, tl_38, tl_39, tl_40, tl_41, tl_42, tl_43, tl_44, tl_45, tl_46, tl_47, tl_48, tl_49, tl_50, tl_51, tl_52, tl_53, tl_54, tl_55, tl_56, tl_57, tl_58, tl_59, tl_60, tl_61, tl_62, tl_63, tl_64, tl_70, tl_80, tl_81, tl_99, tl_100, tl_110, tl_120, tl_122, tl_124, tl_126, tl_128, tl_130, tl_144, tl_200, tl_255, tl_256, tl_260, tl_360, tl_12345] at *; omega) | (refine ⟨(if_neg ?_).symm, rfl⟩; simp only [mayB, decide_eq_true_eq]; simp only [Int32.lt_iff_toInt_lt, Int32.le_iff_toInt_le, tl_m100, tl_m14, tl_m13, tl_m12, tl_m11, tl_m5, tl_m3, tl_m2, tl_m1, tl_0, tl_1, tl_2, tl_3, tl_4, tl_5, tl_6, tl_7, tl_8, tl_9, tl_10, tl_11, tl_12, tl_13, tl_14, tl_15, tl_16, tl_17, tl_18, tl_19, tl_20, tl_21, tl_22, tl_23, tl_24, tl_25, tl_26, tl_27, tl_28, tl_29, tl_30, tl_31, tl_32, tl_33, tl_34, tl_35, tl_36, tl_37, tl_38, tl_39, tl_40, tl_41, tl_42, tl_43, tl_44, tl_45, tl_46, tl_47, tl_48, tl_49, tl_50, tl_51, tl_52, tl_53, tl_54, tl_55, tl_56, tl_57, tl_58, tl_59, tl_60, tl_61, tl_62, tl_63, tl_64, tl_70, tl_80, tl_81, tl_99, tl_100, tl_110, tl_120, tl_122, tl_124, tl_126, tl_128, tl_130, tl_144, tl_200, tl_255, tl_256, tl_260, tl_360, tl_12345] at *; omega)
        ·
          refine E_iload_n C dX9_may_29 1 rfl (E_gets C dX9_may_30 st_X9_31 C.2.2.2.2.2.2.2.1.2.1.1 (E_iload_n C dX9_may_33 0 rfl (E_tald C dX9_may_34 C.2.2.2.2.2.2.2.1.2.1.2 (by rw [vp_in_iff]; simp only [Int32.lt_iff_toInt_lt, Int32.le_iff_toInt_le, tl_m100, tl_m14, tl_m13, tl_m12, tl_m11, tl_m5, tl_m3, tl_m2, tl_m1, tl_0, tl_1, tl_2, tl_3, tl_4, tl_5, tl_6, tl_7, tl_8, tl_9, tl_10, tl_11, tl_12, tl_13, tl_14, tl_15, tl_16, tl_17, tl_18, tl_19, tl_20, tl_21, tl_22, tl_23, tl_24, tl_25, tl_26, tl_27, tl_28, tl_29, tl_30, tl_31, tl_32, tl_33, tl_34, tl_35, tl_36, tl_37, tl_38, tl_39, tl_40, tl_41, tl_42, tl_43, tl_44, tl_45, tl_46, tl_47, tl_48, tl_49, tl_50, tl_51, tl_52, tl_53, tl_54, tl_55, tl_56, tl_57, tl_58, tl_59, tl_60, tl_61, tl_62, tl_63, tl_64, tl_70, tl_80, tl_81, tl_99, tl_100, tl_110, tl_120, tl_122, tl_124, tl_126, tl_128, tl_130, tl_144, tl_200, tl_255, tl_256, tl_260, tl_360, tl_12345] at *; omega) (E_icmp_gt C 42 dX9_may_35 (by decide) (fun c35 => ?_) (fun c35 => ?_)))))
          ·
            refine E_iconst (v := 0) C dX9_may_42 ic_0 (E_zretI C hr hlk dX9_may_43 rfl ?_)
            first | (refine ⟨(if_pos ?_).symm, rfl⟩; simp only [mayB, decide_eq_true_eq]; simp only [Int32.lt_iff_toInt_lt, Int32.le_iff_toInt_le, tl_m100, tl_m14, tl_m13, tl_m12, tl_m11, tl_m5, tl_m3, tl_m2, tl_m1, tl_0, tl_1, tl_2, tl_3, tl_4, tl_5, tl_6, tl_7, tl_8, tl_9, tl_10, tl_11, tl_12, tl_13, tl_14, tl_15, tl_16, tl_17, tl_18, tl_19, tl_20, tl_21, tl_22, tl_23, tl_24, tl_25, tl_26, tl_27, tl_28, tl_29, tl_30, tl_31, tl_32, tl_33, tl_34, tl_35, tl_36, tl_37, tl_38, tl_39, tl_40, tl_41, tl_42, tl_43, tl_44, tl_45, tl_46, tl_47, tl_48, tl_49, tl_50, tl_51, tl_52, tl_53, tl_54, tl_55, tl_56, tl_57, tl_58, tl_59, tl_60, tl_61, tl_62, tl_63, tl_64, tl_70, tl_80, tl_81, tl_99, tl_100, tl_110, tl_120, tl_122, tl_124, tl_126, tl_128, tl_130, tl_144, tl_200, tl_255, tl_256, tl_260, tl_360, tl_12345] at *; omega) | (refine ⟨(if_neg ?_).symm, rfl⟩; simp only [mayB, decide_eq_true_eq]; simp only [Int32.lt_iff_toInt_lt, Int32.le_iff_toInt_le, tl_m100, tl_m14, tl_m13, tl_m12, tl_m11, tl_m5, tl_m3, tl_m2, tl_m1, tl_0, tl_1, tl_2, tl_3, tl_4, tl_5, tl_6, tl_7, tl_8, tl_9, tl_10, tl_11, tl_12, tl_13, tl_14, tl_15, tl_16, tl_17, tl_18, tl_19, tl_20, tl_21, tl_22, tl_23, tl_24, tl_25, tl_26, tl_27, tl_28, tl_29, tl_30, tl_31, tl_32, tl_33, tl_34, tl_35, tl_36, tl_37, tl_38, tl_39, tl_40, tl_41, tl_42, tl_43, tl_44, tl_45, tl_46, tl_47, tl_48, tl_49, tl_50, tl_51, tl_52, tl_53, tl_54, tl_55, tl_56, tl_57, tl_58, tl_59, tl_60, tl_61, tl_62, tl_63, tl_64, tl_70, tl_80, tl_81, tl_99, tl_100, tl_110, tl_120, tl_122, tl_124, tl_126, tl_128, tl_130, tl_144, tl_200, tl_255, tl_256, tl_260, tl_360, tl_12345] at *; omega)
          ·
            refine E_iconst (v := 1) C dX9_may_38 ic_1 (E_goto C 43 dX9_may_39 (by decide) (E_zretI C hr hlk dX9_may_43 rfl ?_))
            first | (refine ⟨(if_pos ?_).symm, rfl⟩; simp only [mayB, decide_eq_true_eq]; simp only [Int32.lt_iff_toInt_lt, Int32.le_iff_toInt_le, tl_m100, tl_m14, tl_m13, tl_m12, tl_m11, tl_m5, tl_m3, tl_m2, tl_m1, tl_0, tl_1, tl_2, tl_3, tl_4, tl_5, tl_6, tl_7, tl_8, tl_9, tl_10, tl_11, tl_12, tl_13, tl_14, tl_15, tl_16, tl_17, tl_18, tl_19, tl_20, tl_21, tl_22, tl_23, tl_24, tl_25, tl_26, tl_27, tl_28, tl_29, tl_30, tl_31, tl_32, tl_33, tl_34, tl_35, tl_36, tl_37, tl_38, tl_39, tl_40, tl_41, tl_42, tl_43, tl_44, tl_45, tl_46, tl_47, tl_48, tl_49, tl_50, tl_51, tl_52, tl_53, tl_54, tl_55, tl_56, tl_57, tl_58, tl_59, tl_60, tl_61, tl_62, tl_63, tl_64, tl_70, tl_80, tl_81, tl_99, tl_100, tl_110, tl_120, tl_122, tl_124, tl_126, tl_128, tl_130, tl_144, tl_200, tl_255, tl_256, tl_260, tl_360, tl_12345] at *; omega) | (refine ⟨(if_neg ?_).symm, rfl⟩; simp only [mayB, decide_eq_true_eq]; simp only [Int32.lt_iff_toInt_lt, Int32.le_iff_toInt_le, tl_m100, tl_m14, tl_m13, tl_m12, tl_m11, tl_m5, tl_m3, tl_m2, tl_m1, tl_0, tl_1, tl_2, tl_3, tl_4, tl_5, tl_6, tl_7, tl_8, tl_9, tl_10, tl_11, tl_12, tl_13, tl_14, tl_15, tl_16, tl_17, tl_18, tl_19, tl_20, tl_21, tl_22, tl_23, tl_24, tl_25, tl_26, tl_27, tl_28, tl_29, tl_30, tl_31, tl_32, tl_33, tl_34, tl_35, tl_36, tl_37, tl_38, tl_39, tl_40, tl_41, tl_42, tl_43, tl_44, tl_45, tl_46, tl_47, tl_48, tl_49, tl_50, tl_51, tl_52, tl_53, tl_54, tl_55, tl_56, tl_57, tl_58, tl_59, tl_60, tl_61, tl_62, tl_63, tl_64, tl_70, tl_80, tl_81, tl_99, tl_100, tl_110, tl_120, tl_122, tl_124, tl_126, tl_128, tl_130, tl_144, tl_200, tl_255, tl_256, tl_260, tl_360, tl_12345] at *; omega)
set_option maxRecDepth 100000 in
set_option maxHeartbeats 4000000 in
theorem s_worthOf {l : Launch} {D : va_G} {tc tt ad : Nat → Nat} {W : Nat → Nat → Int32} {g : Nat → Int32} {h : Nat → Nat → Int32} {Dv : Nat → (Nat → Int32) × (Nat → Nat → Int32)} {Sh : Nat → (Nat → Int32) × (Nat → Int64)} {u : Nat → Int32} {v : Nat → Nat → Int32} {z : Int64} {y : Nat → Int64} {N : Nat → Nat → Nat} (hN : NW W N) (σ : Nat) (hσ : σ < 256) : Ct l yX9_worthOf cX9_worthOf 4 (some .int) 2 D tc tt [.ref (ad 1), .int (nI σ)] (hx ad tc W g h Dv Sh u v z y) (PI fun r w => r = nI (wsum N σ 8) ∧ w = hx ad tc W g h Dv Sh u v z y) := by
  refine Ct.of (by decide +kernel) (Nat.le_of_ble_eq_true rfl) ?_
  intro p e R s m args below meth c A C hr hlk
  have K : ∀ n i : Nat, i ≤ 8 → 8 < i + n → Ev p l e R s m args below meth c 0 0 (EQ below (PI fun r w => r = nI (wsum N σ 8) ∧ w = hx ad tc W g h Dv Sh u v z y) args s D A) D A 4 (hx ad tc W g h Dv Sh u v z y) 4 [(3, .int (nI i)), (2, .int (nI (wsum N σ i))), (0, .ref (ad 1)), (1, .int (nI σ))] [] := by
    intro n
    induction n with
    | zero =>
      intro i h1 h2
      exfalso; omega
    | succ n ih =>
      intro i h1 h2
      refine E_iload_n C dX9_worthOf_4 0 rfl (E_bipush (v := 8) C dX9_worthOf_5 bp_8 (E_icmp_ge C 31 dX9_worthOf_7 (by decide) (fun c7 => ?_) (fun c7 => ?_)))
      ·
        obtain rfl : i = 8 := by
          rcases Nat.lt_or_ge i 8 with q | q
          · exact absurd (show nI 8 ≤ nI i from c7) (nI_ge q (by decide))
          · omega
        refine E_iload_n C dX9_worthOf_31 1 rfl (E_iretI C hr hlk dX9_worthOf_32 ?_)
        exact ⟨rfl, rfl⟩
      ·
        have hi : i < 8 := by
          rcases Nat.lt_or_ge i 8 with q | q
          · exact q
          · exact absurd (show nI 8 ≤ nI i from nI_le q (by omega)) c7
        refine E_iload_n C dX9_worthOf_10 1 rfl (E_iload_n C dX9_worthOf_11 3 rfl (E_iload_n C dX9_worthOf_12 0 rfl (E_ishr C dX9_worthOf_13 (E_iconst (v := 1) C dX9_worthOf_14 ic_1 (E_iand C dX9_worthOf_15 ?_)))))
        refine E_aload_n C dX9_worthOf_16 2 rfl (E_iconst (v := 3) C dX9_worthOf_17 ic_3 (E_iload_n C dX9_worthOf_18 0 rfl (E_callVI C dX9_worthOf_19 mv_X9_65 1 _ (s_value 3 i (by decide) hi) rfl rfl rfl (by decide) (Nat.le_of_ble_eq_true rfl) ?_)))
        rintro _ _ ⟨rfl, rfl⟩
        refine E_imul C dX9_worthOf_22 (E_iadd C dX9_worthOf_23 ?_)
        refine Ev.seti (wsum_step hσ hi (hN 3 i (by decide) hi)) ?_
        refine E_istore_n C dX9_worthOf_24 (by decide) (E_iinc C dX9_worthOf_25 1 rfl (nI_1 i) (by decide) (E_goto C 4 dX9_worthOf_28 (by decide) ?_))
        exact ih (i + 1) (by omega) (by omega)
  refine E_iconst (v := 0) C dX9_worthOf_0 ic_0 (E_istore_n C dX9_worthOf_1 (by decide) (E_iconst (v := 0) C dX9_worthOf_2 ic_0 (E_istore_n C dX9_worthOf_3 (by decide) ?_)))
  exact K 9 0 (by omega) (by omega)
set_option maxRecDepth 100000 in
set_option maxHeartbeats 4000000 in
theorem s_minutesTo {l : Launch} {D : va_G} {tc tt ad : Nat → Nat} {W : Nat → Nat → Int32} {g : Nat → Int32} {h : Nat → Nat → Int32} {Dv : Nat → (Nat → Int32) × (Nat → Nat → Int32)} {Sh : Nat → (Nat → Int32) × (Nat → Int64)} {u : Nat → Int32} {v : Nat → Nat → Int32} {z : Int64} {y : Nat → Int64} {N : Nat → Nat → Nat} (hN : NW W N) (t : Nat) (ht : t ≤ 6) : Ct l yX9_minutesTo cX9_minutesTo 4 (some .int) 2 D tc tt [.ref (ad 1), .int (nI t)] (hx ad tc W g h Dv Sh u v z y) (PI fun r w => r = nI (tsum N t) ∧ w = hx ad tc W g h Dv Sh u v z y) := by
  refine Ct.of (by decide +kernel) (Nat.le_of_ble_eq_true rfl) ?_
  intro p e R s m args below meth c A C hr hlk
  have K : ∀ n i : Nat, i ≤ t → t < i + n → Ev p l e R s m args below meth c 0 0 (EQ below (PI fun r w => r = nI (tsum N t) ∧ w = hx ad tc W g h Dv Sh u v z y) args s D A) D A 4 (hx ad tc W g h Dv Sh u v z y) 4 [(3, .int (nI i)), (2, .int (nI (tsum N i))), (0, .ref (ad 1)), (1, .int (nI t))] [] := by
    intro n
    induction n with
    | zero =>
      intro i h1 h2
      exfalso; omega
    | succ n ih =>
      intro i h1 h2
      refine E_iload_n C dX9_minutesTo_4 0 rfl (E_iload_n C dX9_minutesTo_5 3 rfl (E_icmp_ge C 31 dX9_minutesTo_6 (by decide) (fun c6 => ?_) (fun c6 => ?_)))
      ·
        obtain rfl : i = t := by
          rcases Nat.lt_or_ge i t with q | q
          · exact absurd (show nI t ≤ nI i from c6) (nI_ge q (by omega))
          · omega
        refine E_iload_n C dX9_minutesTo_31 1 rfl (E_iretI C hr hlk dX9_minutesTo_32 ?_)
        exact ⟨rfl, rfl⟩
      ·
        have hi : i < t := by
          rcases Nat.lt_or_ge i t with q | q
          · exact q
          · exact absurd (show nI t ≤ nI i from nI_le q (by omega)) c6
        refine E_iload_n C dX9_minutesTo_9 0 rfl (E_bipush (v := 6) C dX9_minutesTo_10 bp_6 (E_icmp_ge C 31 dX9_minutesTo_12 (by decide) (fun c12 => ?_) (fun c12 => ?_)))
        ·
          exact absurd (show nI 6 ≤ nI i from c12) (nI_ge (by omega) (by decide))
        ·
          refine E_iload_n C dX9_minutesTo_15 1 rfl (E_aload_n C dX9_minutesTo_16 2 rfl (E_bipush (v := 6) C dX9_minutesTo_17 bp_6 (E_iload_n C dX9_minutesTo_19 0 rfl (E_callVI C dX9_minutesTo_20 mv_X9_65 1 _ (s_value 6 i (by decide) (by omega)) rfl rfl rfl (by decide) (Nat.le_of_ble_eq_true rfl) ?_))))
          rintro _ _ ⟨rfl, rfl⟩
          refine E_iadd C dX9_minutesTo_23 ?_
          refine Ev.seti (tsum_step (hN 6 i (by decide) (by omega))) ?_
          refine E_istore_n C dX9_minutesTo_24 (by decide) (E_iinc C dX9_minutesTo_25 1 rfl (nI_1 i) (by decide) (E_goto C 4 dX9_minutesTo_28 (by decide) ?_))
          exact ih (i + 1) (by omega) (by omega)
  refine E_iconst (v := 0) C dX9_minutesTo_0 ic_0 (E_istore_n C dX9_minutesTo_1 (by decide) (E_iconst (v := 0) C dX9_minutesTo_2 ic_0 (E_istore_n C dX9_minutesTo_3 (by decide) ?_)))
  exact K (t + 1) 0 (by omega) (by omega)
