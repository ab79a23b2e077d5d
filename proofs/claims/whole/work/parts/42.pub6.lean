/-! the class's own methods: shelves -/
theorem xset_sh1 {ad tc : Nat → Nat} {W : Nat → Nat → Int32} {g : Nat → Int32} {h : Nat → Nat → Int32} {Dv : DV} {Sh : SV} {u : Nat → Int32} {v : Nat → Nat → Int32} {z : Int64} {y : Nat → Int64} {b : Nat} (hb : b < 6) (f : Nat → Int64) : (hx ad tc W g h Dv Sh u v z y).set (53 + 2 * b) (ad (53 + 2 * b), .inl (tc 1, 60, .inr (.inl f))) = hx ad tc W g h Dv (va_up Sh b ((Sh b).1, f)) u v z y := by
  rcases (show b = 0 ∨ b = 1 ∨ b = 2 ∨ b = 3 ∨ b = 4 ∨ b = 5 by omega) with rfl | rfl | rfl | rfl | rfl | rfl <;> rfl
set_option maxRecDepth 100000 in
set_option maxHeartbeats 4000000 in
theorem s_shelfAt {l : Launch} {D : va_G} {tc tt ad : Nat → Nat} {W : Nat → Nat → Int32} {g : Nat → Int32} {h : Nat → Nat → Int32} {Dv : Nat → (Nat → Int32) × (Nat → Nat → Int32)} {Sh : Nat → (Nat → Int32) × (Nat → Int64)} {u : Nat → Int32} {v : Nat → Nat → Int32} {z : Int64} {y : Nat → Int64} {b : Nat} (hb_b : b < 6) : Ct l yX10_shelfAt cX10_shelfAt 2 (some (.object "BackHouse$Shelf")) 1 D tc tt [.ref (ad 0), .int (nI b)] (hx ad tc W g h Dv Sh u v z y) (PR fun r w => r = .ref (ad (52 + 2 * b)) ∧ w = hx ad tc W g h Dv Sh u v z y) := by
  refine Ct.of (by decide +kernel) (Nat.le_of_ble_eq_true rfl) ?_
  intro p e R s m args below meth c A C hr hlk
  refine E_iload_n C dX10_shelfAt_0 1 rfl (E_if_lt C 13 dX10_shelfAt_1 (by decide) (fun c1 => ?_) (fun c1 => ?_))
  ·
    exact absurd c1 (nI_pos (by omega))
  ·
    refine E_iload_n C dX10_shelfAt_4 1 rfl (E_aload_n C dX10_shelfAt_5 0 rfl (xg_10_8 C dX10_shelfAt_6 f_X10_69 (xn_shv C dX10_shelfAt_9 (E_icmp_lt C 17 dX10_shelfAt_10 (by decide) (fun c10 => ?_) (fun c10 => ?_)))))
    ·
      refine E_aload_n C dX10_shelfAt_17 0 rfl (xg_10_8 C dX10_shelfAt_18 f_X10_69 (E_iload_n C dX10_shelfAt_21 1 rfl (xa_shv C dX10_shelfAt_22 (vinN (by omega)) ?_)))
      rw [nI_clamp (show b < 2 ^ 31 by omega)]
      refine E_aretR C hr (Or.inl ⟨_, rfl⟩) (Or.inr ⟨_, rfl⟩) hlk dX10_shelfAt_23 ?_
      exact ⟨rfl, rfl⟩
    ·
      exact absurd (show nI b < nI 6 from nI_lt hb_b (by decide)) c10
set_option maxRecDepth 100000 in
set_option maxHeartbeats 4000000 in
theorem s_shelfAtN {l : Launch} {D : va_G} {tc tt ad : Nat → Nat} {W : Nat → Nat → Int32} {g : Nat → Int32} {h : Nat → Nat → Int32} {Dv : Nat → (Nat → Int32) × (Nat → Nat → Int32)} {Sh : Nat → (Nat → Int32) × (Nat → Int64)} {u : Nat → Int32} {v : Nat → Nat → Int32} {z : Int64} {y : Nat → Int64} (x0 : Int32) (hno : ¬ inS x0 = true) : Ct l yX10_shelfAt cX10_shelfAt 2 (some (.object "BackHouse$Shelf")) 1 D tc tt [.ref (ad 0), .int x0] (hx ad tc W g h Dv Sh u v z y) (PR fun r w => r = .null ∧ w = hx ad tc W g h Dv Sh u v z y) := by
  refine Ct.of (by decide +kernel) (Nat.le_of_ble_eq_true rfl) ?_
  intro p e R s m args below meth c A C hr hlk
  refine E_iload_n C dX10_shelfAt_0 1 rfl (E_if_lt C 13 dX10_shelfAt_1 (by decide) (fun c1 => ?_) (fun c1 => ?_))
  ·
    refine E_null C dX10_shelfAt_13 (E_goto C 23 dX10_shelfAt_14 (by decide) (E_aretR C hr (Or.inl ⟨_, rfl⟩) (Or.inl rfl) hlk dX10_shelfAt_23 ?_))
    exact ⟨rfl, rfl⟩
  ·
    refine E_iload_n C dX10_shelfAt_4 1 rfl (E_aload_n C dX10_shelfAt_5 0 rfl (xg_10_8 C dX10_shelfAt_6 f_X10_69 (xn_shv C dX10_shelfAt_9 (E_icmp_lt C 17 dX10_shelfAt_10 (by decide) (fun c10 => ?_) (fun c10 => ?_)))))
    ·
      exact absurd (by simp only [inS, decide_eq_true_eq]; exact ⟨Int32.not_lt.mp c1, c10⟩) hno
    ·
      refine E_null C dX10_shelfAt_13 (E_goto C 23 dX10_shelfAt_14 (by decide) (E_aretR C hr (Or.inl ⟨_, rfl⟩) (Or.inl rfl) hlk dX10_shelfAt_23 ?_))
      exact ⟨rfl, rfl⟩
set_option maxRecDepth 100000 in
set_option maxHeartbeats 4000000 in
theorem p_keep {l : Launch} {D : va_G} {tc tt ad : Nat → Nat} {S : STT} {kk0 : Nat} {w0 : va_W} (hX : XR ad tc S kk0 w0) (hk600 : kk0 ≤ 600) (x0 b0 : Int32) : Ct l yX10_keep cX10_keep 4 (some .int) 4 D tc tt [.ref (ad 0), .int x0, .int b0] w0 (PI fun r w => r = aKeep S x0 b0 ∧ XR ad tc (nKeep S x0 b0) (kk0 + 1) w) := by
  obtain ⟨W, g, h, Dv, Sh, u, v, z, y, rfl, X⟩ := hX
  have hn := X.1.1
  have hn8 := X.1.2.1
  have hN := X.1.2.2.1
  have hB := X.1.2.2.2.1
  have hL := X.1.2.2.2.2.2
  have hP := X.2.2.2.2.2.1
  have hnb := hP.2.1
  by_cases hcase : inS x0 = true
  ·
    obtain ⟨b, hb_b, hbc, rfl⟩ := inS_ex hcase
    have hs := X.sf hb_b
    refine Ct.of (by decide +kernel) (Nat.le_of_ble_eq_true rfl) ?_
    intro p e R s m args below meth c A C hr hlk
    refine E_aload_n C dX10_keep_0 0 rfl (E_iload_n C dX10_keep_1 1 rfl (E_callVR C dX10_keep_2 mv_X10_82 0 _ (s_shelfAt hb_b) rfl rfl rfl (by decide) (Nat.le_of_ble_eq_true rfl) ?_))
    rintro _ _ ⟨rfl, rfl⟩
    refine E_astore_n C dX10_keep_5 (by decide) (E_aload_n C dX10_keep_6 0 rfl (E_ifnull C dX10_keep_7 (E_iload_n C dX10_keep_10 3 rfl (E_iconst (v := -1) C dX10_keep_11 ic_m1 (E_icmp_eq C 28 dX10_keep_12 (by decide) (fun c12 => ?_) (fun c12 => ?_))))))
    ·
      have hok : inS (nI b) = true ∧ (b0 = -1 ∨ bodB S.2.2.2.2.2.1.1 b0 = true) := ⟨hcase, Or.inl c12⟩
      have ha : aKeep S (nI b) b0 = 1 := if_pos hok
      have hnx : nKeep S (nI b) b0 = _ := if_pos hok
      rw [hbc] at hnx
      refine E_aload_n C dX10_keep_28 0 rfl (E_iload_n C dX10_keep_29 3 rfl (E_iconst (v := -1) C dX10_keep_30 ic_m1 (E_icmp_ne C 38 dX10_keep_31 (by decide) (fun c31 => ?_) (fun c31 => ?_))))
      ·
        exact absurd c12 c31
      ·
        refine E_iconst (v := 0) C dX10_keep_34 ic_0 (E_goto C 39 dX10_keep_35 (by decide) (xp_7_1 C (b := b) hb_b dX10_keep_39 fw_X10_86 (E_aload_n C dX10_keep_42 0 rfl (E_iload_n C dX10_keep_43 3 rfl (xp_7_2 C (b := b) hb_b dX10_keep_44 fw_X10_289 ?_)))))
        refine E_iconst (v := 1) C dX10_keep_47 ic_1 (E_iretI C hr hlk dX10_keep_48 ?_)
        rw [if_pos c12] at hnx
        rw [hnx]
        refine ⟨ha.symm, ⟨W, g, h, Dv, _, u, v, z, y, rfl, X.shelf (fun j hj => (vun hj).trans (vun hj)) ?_⟩⟩
        rw [vus, vus]
        exact ⟨rfl, (by decide : 0 ≤ 2), fun q => absurd q (by decide : ¬ 0 = 1), fun q => absurd q (by decide : ¬ 0 = 2)⟩
    ·
      refine E_aload_n C dX10_keep_15 1 rfl (xg_10_7 C dX10_keep_16 f_X10_63 (E_iload_n C dX10_keep_19 3 rfl (E_callVI C dX10_keep_20 mv_X10_280 32 _ (s_bodyHas hP.1 hnb b0) rfl rfl rfl (by decide) (Nat.le_of_ble_eq_true rfl) ?_)))
      rintro _ _ ⟨rfl, rfl⟩
      refine E_if_ne C 28 dX10_keep_23 (by decide) (fun c23 => ?_) (fun c23 => ?_)
      ·
        have hbo : bodB S.2.2.2.2.2.1.1 b0 = true := Classical.byContradiction fun q => c23 (if_neg q)
        have hok : inS (nI b) = true ∧ (b0 = -1 ∨ bodB S.2.2.2.2.2.1.1 b0 = true) := ⟨hcase, Or.inr hbo⟩
        have ha : aKeep S (nI b) b0 = 1 := if_pos hok
        have hnx : nKeep S (nI b) b0 = _ := if_pos hok
        rw [hbc] at hnx
        obtain ⟨jb, hjn, hjc, rfl⟩ := bodB_ex hnb hbo
        refine E_aload_n C dX10_keep_28 0 rfl (E_iload_n C dX10_keep_29 3 rfl (E_iconst (v := -1) C dX10_keep_30 ic_m1 (E_icmp_ne C 38 dX10_keep_31 (by decide) (fun c31_2 => ?_) (fun c31_2 => ?_))))
        ·
          refine E_iconst (v := 1) C dX10_keep_38 ic_1 (xp_7_1 C (b := b) hb_b dX10_keep_39 fw_X10_86 (E_aload_n C dX10_keep_42 0 rfl (E_iload_n C dX10_keep_43 3 rfl (xp_7_2 C (b := b) hb_b dX10_keep_44 fw_X10_289 (E_iconst (v := 1) C dX10_keep_47 ic_1 ?_)))))
          refine E_iretI C hr hlk dX10_keep_48 ?_
          rw [if_neg c12] at hnx
          rw [hnx]
          refine ⟨ha.symm, ⟨W, g, h, Dv, _, u, v, z, y, rfl, X.shelf (fun j hj => (vun hj).trans (vun hj)) ?_⟩⟩
          rw [vus, vus]
          exact ⟨rfl, (by decide : 1 ≤ 2), fun q => ⟨by show nI jb = nI (nI jb).toNatClampNeg; rw [hjc], by show (nI jb).toNatClampNeg < _; rw [hjc]; exact hjn⟩, fun q => absurd q (by decide : ¬ 1 = 2)⟩
        ·
          exact absurd c31_2 c12
      ·
        have hbo : ¬ bodB S.2.2.2.2.2.1.1 b0 = true := fun q => by rw [if_pos q] at c23; cases c23
        refine E_iconst (v := -1) C dX10_keep_26 ic_m1 (E_iretI C hr hlk dX10_keep_27 ?_)
        have hno : ¬ (inS (nI b) = true ∧ (b0 = -1 ∨ bodB S.2.2.2.2.2.1.1 b0 = true)) := fun q => q.2.elim c12 hbo
        have hnx : nKeep S (nI b) b0 = S := if_neg hno
        rw [hnx]
        exact ⟨(if_neg hno).symm, ⟨W, g, h, Dv, Sh, u, v, z, y, rfl, X.same⟩⟩
  ·
    refine Ct.of (by decide +kernel) (Nat.le_of_ble_eq_true rfl) ?_
    intro p e R s m args below meth c A C hr hlk
    refine E_aload_n C dX10_keep_0 0 rfl (E_iload_n C dX10_keep_1 1 rfl (E_callVR C dX10_keep_2 mv_X10_82 0 _ (s_shelfAtN x0 hcase) rfl rfl rfl (by decide) (Nat.le_of_ble_eq_true rfl) ?_))
    rintro _ _ ⟨rfl, rfl⟩
    refine E_astore_nN C dX10_keep_5 (by decide) (E_aload_nN C dX10_keep_6 0 rfl (E_ifnullN C 26 dX10_keep_7 (by decide) (E_iconst (v := -1) C dX10_keep_26 ic_m1 (E_iretI C hr hlk dX10_keep_27 ?_))))
    have hnx : nKeep S x0 b0 = S := if_neg (fun q => hcase q.1)
    rw [hnx]
    exact ⟨(if_neg (fun q => hcase q.1)).symm, ⟨W, g, h, Dv, Sh, u, v, z, y, rfl, X.same⟩⟩
set_option maxRecDepth 100000 in
set_option maxHeartbeats 4000000 in
theorem p_row {l : Launch} {D : va_G} {tc tt ad : Nat → Nat} {S : STT} {kk0 : Nat} {w0 : va_W} (hX : XR ad tc S kk0 w0) (hk600 : kk0 ≤ 600) (x0 so n0 : Int32) : Ct l yX10_row cX10_row 5 (some .int) 3 D tc tt [.ref (ad 0), .int x0, .int so, .int n0] w0 (PI fun r w => r = aRow S x0 so n0 ∧ XR ad tc (nRow S x0 so n0) (kk0 + 1) w) := by
  obtain ⟨W, g, h, Dv, Sh, u, v, z, y, rfl, X⟩ := hX
  have hn := X.1.1
  have hn8 := X.1.2.1
  have hN := X.1.2.2.1
  have hB := X.1.2.2.2.1
  have hL := X.1.2.2.2.2.2
  by_cases hcase : inS x0 = true
  ·
    obtain ⟨b, hb_b, hbc, rfl⟩ := inS_ex hcase
    have hs := X.sf hb_b
    refine Ct.of (by decide +kernel) (Nat.le_of_ble_eq_true rfl) ?_
    intro p e R s m args below meth c A C hr hlk
    refine E_aload_n C dX10_row_0 0 rfl (E_iload_n C dX10_row_1 1 rfl (E_callVR C dX10_row_2 mv_X10_82 0 _ (s_shelfAt hb_b) rfl rfl rfl (by decide) (Nat.le_of_ble_eq_true rfl) ?_))
    rintro _ _ ⟨rfl, rfl⟩
    refine E_astore C dX10_row_5 (by decide) (E_aload C dX10_row_7 0 rfl (E_ifnull C dX10_row_9 (E_iload_n C dX10_row_12 3 rfl (E_if_lt C 27 dX10_row_13 (by decide) (fun c13 => ?_) (fun c13 => ?_)))))
    ·
      refine E_iconst (v := -1) C dX10_row_27 ic_m1 (E_iretI C hr hlk dX10_row_28 ?_)
      have hno : ¬ (inS (nI b) = true ∧ 0 ≤ so ∧ so < 5 ∧ n0 ≤ 60) := fun q => absurd c13 (Int32.not_lt.mpr q.2.1)
      have hnx : nRow S (nI b) so n0 = S := if_neg (fun q => hno ⟨q.1, q.2.1, q.2.2.1, q.2.2.2.1⟩)
      rw [hnx]
      exact ⟨(if_neg hno).symm, ⟨W, g, h, Dv, Sh, u, v, z, y, rfl, X.same⟩⟩
    ·
      refine E_iload_n C dX10_row_16 3 rfl (E_iconst (v := 5) C dX10_row_17 ic_5 (E_icmp_ge C 27 dX10_row_18 (by decide) (fun c18 => ?_) (fun c18 => ?_)))
      ·
        refine E_iconst (v := -1) C dX10_row_27 ic_m1 (E_iretI C hr hlk dX10_row_28 ?_)
        have hno : ¬ (inS (nI b) = true ∧ 0 ≤ so ∧ so < 5 ∧ n0 ≤ 60) := fun q => absurd q.2.2.1 (Int32.not_lt.mpr c18)
        have hnx : nRow S (nI b) so n0 = S := if_neg (fun q => hno ⟨q.1, q.2.1, q.2.2.1, q.2.2.2.1⟩)
        rw [hnx]
        exact ⟨(if_neg hno).symm, ⟨W, g, h, Dv, Sh, u, v, z, y, rfl, X.same⟩⟩
      ·
        refine E_iload_n C dX10_row_21 4 rfl (E_bipush (v := 60) C dX10_row_22 bp_60 (E_icmp_le C 29 dX10_row_24 (by decide) (fun c24 => ?_) (fun c24 => ?_)))
        ·
          have hok : inS (nI b) = true ∧ 0 ≤ so ∧ so < 5 ∧ n0 ≤ 60 := ⟨hcase, Int32.not_lt.mp c13, Int32.not_le.mp c18, c24⟩
          have ha : aRow S (nI b) so n0 = _ := if_pos hok
          refine E_iload_n C dX10_row_29 4 rfl (E_if_ge C 36 dX10_row_30 (by decide) (fun c30 => ?_) (fun c30 => ?_))
          ·
            refine E_aload C dX10_row_36 0 rfl (E_iload_n C dX10_row_38 3 rfl (E_iload_n C dX10_row_39 4 rfl (E_callVV C dX10_row_40 mv_X10_292 _ _ (s_becomeRow hb_b so n0) (xat_sh0 (b := b) hb_b) rfl rfl (by decide) (Nat.le_of_ble_eq_true rfl) ?_)))
            rintro _ ⟨Sh2, rfl, hf2, r0, r1, r2, r3, rz⟩
            refine E_iconst (v := 1) C dX10_row_43 ic_1 (E_iretI C hr hlk dX10_row_44 ?_)
            obtain ⟨sn, hs31, rfl⟩ := nI_of c13
            obtain ⟨nn, hn60, hnc, rfl⟩ := n_of (k := 60) (m := 60) rfl (Int32.not_lt.mpr c30) c24
            have hs5 : sn < 5 := (nI_ltI (b := 5) hs31 (by decide)).mp hok.2.2.1
            have hnx : nRow S (nI b) (nI sn) (nI nn) = _ := if_pos ⟨hok.1, hok.2.1, hok.2.2.1, hok.2.2.2, c30⟩
            rw [hbc, nI_clamp hs31, hnc] at hnx
            rw [hnx]
            exact ⟨(ha.trans (if_neg (Int32.not_lt.mpr c30))).symm, ⟨W, g, h, Dv, Sh2, u, v, z, y, rfl, X.shelf hf2 ⟨r0, by show 2 ≤ 2; decide, fun q => absurd q (by show ¬ (2 = 1); decide), fun _ => ⟨r2, hs5, r3, hn60, fun j hj => rz j (Nat.lt_of_lt_of_le hj hn60)⟩⟩⟩⟩
          ·
            refine E_bipush (v := -14) C dX10_row_33 bp_m14 (E_iretI C hr hlk dX10_row_35 ?_)
            have hnx : nRow S (nI b) so n0 = S := if_neg (fun q => c30 q.2.2.2.2)
            rw [hnx]
            exact ⟨(ha.trans (if_pos (Int32.not_le.mp c30))).symm, ⟨W, g, h, Dv, Sh, u, v, z, y, rfl, X.same⟩⟩
        ·
          refine E_iconst (v := -1) C dX10_row_27 ic_m1 (E_iretI C hr hlk dX10_row_28 ?_)
          have hno : ¬ (inS (nI b) = true ∧ 0 ≤ so ∧ so < 5 ∧ n0 ≤ 60) := fun q => c24 q.2.2.2
          have hnx : nRow S (nI b) so n0 = S := if_neg (fun q => hno ⟨q.1, q.2.1, q.2.2.1, q.2.2.2.1⟩)
          rw [hnx]
          exact ⟨(if_neg hno).symm, ⟨W, g, h, Dv, Sh, u, v, z, y, rfl, X.same⟩⟩
  ·
    refine Ct.of (by decide +kernel) (Nat.le_of_ble_eq_true rfl) ?_
    intro p e R s m args below meth c A C hr hlk
    refine E_aload_n C dX10_row_0 0 rfl (E_iload_n C dX10_row_1 1 rfl (E_callVR C dX10_row_2 mv_X10_82 0 _ (s_shelfAtN x0 hcase) rfl rfl rfl (by decide) (Nat.le_of_ble_eq_true rfl) ?_))
    rintro _ _ ⟨rfl, rfl⟩
    refine E_astoreN C dX10_row_5 (by decide) (E_aloadN C dX10_row_7 0 rfl (E_ifnullN C 27 dX10_row_9 (by decide) (E_iconst (v := -1) C dX10_row_27 ic_m1 (E_iretI C hr hlk dX10_row_28 ?_))))
    have hnx : nRow S x0 so n0 = S := if_neg (fun q => hcase q.1)
    rw [hnx]
    exact ⟨(if_neg (fun q => hcase q.1)).symm, ⟨W, g, h, Dv, Sh, u, v, z, y, rfl, X.same⟩⟩
set_option maxRecDepth 100000 in
set_option maxHeartbeats 4000000 in
theorem p_put {l : Launch} {D : va_G} {tc tt ad : Nat → Nat} {S : STT} {kk0 : Nat} {w0 : va_W} (hX : XR ad tc S kk0 w0) (hk600 : kk0 ≤ 600) (x0 i0 : Int32) (v1 : Int64) : Ct l yX10_put cX10_put 7 (some .int) 4 D tc tt [.ref (ad 0), .int x0, .int i0, .long v1] w0 (PI fun r w => r = aPut S x0 i0 ∧ XR ad tc (nPut S x0 i0 v1) (kk0 + 1) w) := by
  obtain ⟨W, g, h, Dv, Sh, u, v, z, y, rfl, X⟩ := hX
  have hn := X.1.1
  have hn8 := X.1.2.1
  have hN := X.1.2.2.1
  have hB := X.1.2.2.2.1
  have hL := X.1.2.2.2.2.2
  by_cases hcase : inS x0 = true
  ·
    obtain ⟨b, hb_b, hbc, rfl⟩ := inS_ex hcase
    have hs := X.sf hb_b
    refine Ct.of (by decide +kernel) (Nat.le_of_ble_eq_true rfl) ?_
    intro p e R s m args below meth c A C hr hlk
    refine E_aload_n C dX10_put_0 0 rfl (E_iload_n C dX10_put_1 1 rfl (E_callVR C dX10_put_2 mv_X10_82 0 _ (s_shelfAt hb_b) rfl rfl rfl (by decide) (Nat.le_of_ble_eq_true rfl) ?_))
    rintro _ _ ⟨rfl, rfl⟩
    refine E_astore C dX10_put_5 (by decide) (E_aload C dX10_put_7 0 rfl (E_ifnonnull C 14 dX10_put_9 (by decide) (E_aload C dX10_put_14 0 rfl (E_iload_n C dX10_put_16 3 rfl (E_callVI C dX10_put_17 mv_X10_295 _ _ (s_refusalOfPlace hb_b i0) (xat_sh0 (b := b) hb_b) rfl rfl (by decide) (Nat.le_of_ble_eq_true rfl) ?_)))))
    rintro _ _ ⟨rfl, rfl⟩
    refine Ev.seti (hs.rp i0) ?_
    refine E_istore C dX10_put_20 (by decide) (E_iload C dX10_put_22 0 rfl (E_if_eq C 30 dX10_put_24 (by decide) (fun c24 => ?_) (fun c24 => ?_)))
    ·
      obtain ⟨h2, hp1⟩ := rfPn_0 c24
      obtain ⟨r1, r2, r3, r4, r5⟩ := hs.2.2.2 h2
      obtain ⟨jn, on, hjn, rfl, hon⟩ := hpB_ex r4 hp1
      have hon1 : on = 1 := by
        rcases Nat.eq_zero_or_pos on with q | q
        · rw [q] at hon; exact absurd hon (by decide)
        · rcases Nat.lt_or_ge on (2 ^ 31) with q2 | q2
          · exact ((nI_eq (a := 1) (by decide) q2).mp hon).symm
          · omega
      have hjl : jn < (S.2.2.2.2.2.2 b).2.2.2.1 := by omega
      refine E_aload C dX10_put_30 1 rfl (E_iload_n C dX10_put_32 4 rfl (E_lload_n C dX10_put_33 5 rfl (E_callVV C dX10_put_34 mv_X10_298 _ _ (s_store hb_b r3 r4 hjl v1) (xat_sh0 (b := b) hb_b) rfl rfl (by decide) (Nat.le_of_ble_eq_true rfl) ?_)))
      rintro _ rfl
      refine E_iconst (v := 1) C dX10_put_37 ic_1 (E_iretI C hr hlk dX10_put_38 ?_)
      have hnx : nPut S (nI b) (nI jn) v1 = _ := if_pos ⟨hcase, by rw [hbc]; exact c24⟩
      rw [hbc, nI_clamp (show jn < 2 ^ 31 by omega)] at hnx
      rw [hnx]
      refine ⟨Eq.trans ?_ (if_pos hcase).symm, ⟨W, g, h, Dv, _, u, v, z, y, rfl, X.shelf (fun j hj => vun hj) ?_⟩⟩
      · rw [hbc]
        exact (if_pos c24).symm
      · rw [vus, r1]
        refine ⟨hs.1, hs.2.1, hs.2.2.1, fun _ => ⟨r1, r2, r3, r4, fun j hj => ?_⟩⟩
        show (if j = jn then _ else _) = (if j = jn then _ else _)
        by_cases e : j = jn
        · rw [if_pos e, if_pos e]
        · rw [if_neg e, if_neg e]
          exact r5 j hj
    ·
      refine E_iload C dX10_put_27 0 rfl (E_iretI C hr hlk dX10_put_29 ?_)
      have hnx : nPut S (nI b) i0 v1 = S := if_neg (fun q => c24 (by rw [← q.2, hbc]))
      rw [hnx]
      refine ⟨Eq.trans ?_ (if_pos hcase).symm, ⟨W, g, h, Dv, Sh, u, v, z, y, rfl, X.same⟩⟩
      rw [hbc]
      exact (if_neg c24).symm
  ·
    refine Ct.of (by decide +kernel) (Nat.le_of_ble_eq_true rfl) ?_
    intro p e R s m args below meth c A C hr hlk
    refine E_aload_n C dX10_put_0 0 rfl (E_iload_n C dX10_put_1 1 rfl (E_callVR C dX10_put_2 mv_X10_82 0 _ (s_shelfAtN x0 hcase) rfl rfl rfl (by decide) (Nat.le_of_ble_eq_true rfl) ?_))
    rintro _ _ ⟨rfl, rfl⟩
    refine E_astoreN C dX10_put_5 (by decide) (E_aloadN C dX10_put_7 0 rfl (E_ifnonnullN C dX10_put_9 (E_iconst (v := -1) C dX10_put_12 ic_m1 (E_iretI C hr hlk dX10_put_13 ?_))))
    have hnx : nPut S x0 i0 v1 = S := if_neg (fun q => hcase q.1)
    rw [hnx]
    exact ⟨(if_neg hcase).symm, ⟨W, g, h, Dv, Sh, u, v, z, y, rfl, X.same⟩⟩
set_option maxRecDepth 100000 in
set_option maxHeartbeats 4000000 in
theorem p_element {l : Launch} {D : va_G} {tc tt ad : Nat → Nat} {S : STT} {kk0 : Nat} {w0 : va_W} (hX : XR ad tc S kk0 w0) (hk600 : kk0 ≤ 600) (x0 i0 : Int32) : Ct l yX10_element cX10_element 4 (some .long) 4 D tc tt [.ref (ad 0), .int x0, .int i0] w0 (PL fun r w => r = aElem S x0 i0 ∧ XR ad tc S (kk0 + 1) w) := by
  obtain ⟨W, g, h, Dv, Sh, u, v, z, y, rfl, X⟩ := hX
  have hn := X.1.1
  have hn8 := X.1.2.1
  have hN := X.1.2.2.1
  have hB := X.1.2.2.2.1
  have hL := X.1.2.2.2.2.2
  by_cases hcase : inS x0 = true
  ·
    obtain ⟨b, hb_b, hbc, rfl⟩ := inS_ex hcase
    have hs := X.sf hb_b
    refine Ct.of (by decide +kernel) (Nat.le_of_ble_eq_true rfl) ?_
    intro p e R s m args below meth c A C hr hlk
    refine E_aload_n C dX10_element_0 0 rfl (E_iload_n C dX10_element_1 1 rfl (E_callVR C dX10_element_2 mv_X10_82 0 _ (s_shelfAt hb_b) rfl rfl rfl (by decide) (Nat.le_of_ble_eq_true rfl) ?_))
    rintro _ _ ⟨rfl, rfl⟩
    refine E_astore_n C dX10_element_5 (by decide) (E_aload_n C dX10_element_6 0 rfl (E_ifnull C dX10_element_7 (E_aload_n C dX10_element_10 0 rfl (E_iload_n C dX10_element_11 3 rfl (E_callVI C dX10_element_12 mv_X10_295 _ _ (s_refusalOfPlace hb_b i0) (xat_sh0 (b := b) hb_b) rfl rfl (by decide) (Nat.le_of_ble_eq_true rfl) ?_)))))
    rintro _ _ ⟨rfl, rfl⟩
    refine Ev.seti (hs.rp i0) ?_
    refine E_if_eq C 22 dX10_element_15 (by decide) (fun c15 => ?_) (fun c15 => ?_)
    ·
      obtain ⟨h2, hp1⟩ := rfPn_0 c15
      obtain ⟨r1, r2, r3, r4, r5⟩ := hs.2.2.2 h2
      obtain ⟨jn, on, hjn, rfl, hon⟩ := hpB_ex r4 hp1
      have hon1 : on = 1 := by
        rcases Nat.eq_zero_or_pos on with q | q
        · rw [q] at hon; exact absurd hon (by decide)
        · rcases Nat.lt_or_ge on (2 ^ 31) with q2 | q2
          · exact ((nI_eq (a := 1) (by decide) q2).mp hon).symm
          · omega
      have hjl : jn < (S.2.2.2.2.2.2 b).2.2.2.1 := by omega
      refine E_aload_n C dX10_element_22 0 rfl (E_iload_n C dX10_element_23 3 rfl (E_callVL C dX10_element_24 mv_X10_302 _ _ (s_elementAt hb_b r3 r4 hjl) (xat_sh0 (b := b) hb_b) rfl rfl (by decide) (Nat.le_of_ble_eq_true rfl) ?_))
      rintro _ _ ⟨rfl, rfl⟩
      refine E_lretL C hr hlk dX10_element_27 ?_
      refine ⟨Eq.trans ?_ (if_pos ⟨hcase, by rw [hbc]; exact c15⟩).symm, ⟨W, g, h, Dv, Sh, u, v, z, y, rfl, X.same⟩⟩
      rw [hbc, nI_clamp (show jn < 2 ^ 31 by omega)]
      exact r5 jn hjl
    ·
      refine E_ldc2 C k_X10_160 dX10_element_18 (E_lretL C hr hlk dX10_element_21 ?_)
      refine ⟨(if_neg fun q => c15 ?_).symm, ⟨W, g, h, Dv, Sh, u, v, z, y, rfl, X.same⟩⟩
      rw [hbc] at q
      exact q.2
  ·
    refine Ct.of (by decide +kernel) (Nat.le_of_ble_eq_true rfl) ?_
    intro p e R s m args below meth c A C hr hlk
    refine E_aload_n C dX10_element_0 0 rfl (E_iload_n C dX10_element_1 1 rfl (E_callVR C dX10_element_2 mv_X10_82 0 _ (s_shelfAtN x0 hcase) rfl rfl rfl (by decide) (Nat.le_of_ble_eq_true rfl) ?_))
    rintro _ _ ⟨rfl, rfl⟩
    refine E_astore_nN C dX10_element_5 (by decide) (E_aload_nN C dX10_element_6 0 rfl (E_ifnullN C 18 dX10_element_7 (by decide) (E_ldc2 C k_X10_160 dX10_element_18 (E_lretL C hr hlk dX10_element_21 ?_))))
    exact ⟨(if_neg (fun q => hcase q.1)).symm, ⟨W, g, h, Dv, Sh, u, v, z, y, rfl, X.same⟩⟩
set_option maxRecDepth 100000 in
set_option maxHeartbeats 4000000 in
theorem p_taken {l : Launch} {D : va_G} {tc tt ad : Nat → Nat} {S : STT} {kk0 : Nat} {w0 : va_W} (hX : XR ad tc S kk0 w0) (hk600 : kk0 ≤ 600) (x0 k0 : Int32) : Ct l yX10_taken cX10_taken 5 (some .int) 4 D tc tt [.ref (ad 0), .int x0, .int k0] w0 (PI fun r w => r = aTaken S x0 k0 ∧ XR ad tc S (kk0 + 1) w) := by
  obtain ⟨W, g, h, Dv, Sh, u, v, z, y, rfl, X⟩ := hX
  have hn := X.1.1
  have hn8 := X.1.2.1
  have hN := X.1.2.2.1
  have hB := X.1.2.2.2.1
  have hL := X.1.2.2.2.2.2
  have hP := X.2.2.2.2.2.1
  have hnb := hP.2.1
  by_cases hcase : inS x0 = true
  ·
    obtain ⟨b, hb_b, hbc, rfl⟩ := inS_ex hcase
    have hs := X.sf hb_b
    refine Ct.of (by decide +kernel) (Nat.le_of_ble_eq_true rfl) ?_
    intro p e R s m args below meth c A C hr hlk
    refine E_aload_n C dX10_taken_0 0 rfl (E_iload_n C dX10_taken_1 1 rfl (E_callVR C dX10_taken_2 mv_X10_82 0 _ (s_shelfAt hb_b) rfl rfl rfl (by decide) (Nat.le_of_ble_eq_true rfl) ?_))
    rintro _ _ ⟨rfl, rfl⟩
    refine E_astore_n C dX10_taken_5 (by decide) (E_aload_n C dX10_taken_6 0 rfl (E_ifnull C dX10_taken_7 (E_iload_n C dX10_taken_10 3 rfl (E_if_lt C 20 dX10_taken_11 (by decide) (fun c11 => ?_) (fun c11 => ?_)))))
    ·
      refine E_iconst (v := -1) C dX10_taken_20 ic_m1 (E_iretI C hr hlk dX10_taken_21 ?_)
      exact ⟨(if_neg fun q => absurd c11 (Int32.not_lt.mpr q.2.1)).symm, ⟨W, g, h, Dv, Sh, u, v, z, y, rfl, X.same⟩⟩
    ·
      refine E_iload_n C dX10_taken_14 3 rfl (E_bipush (v := 8) C dX10_taken_15 bp_8 (E_icmp_lt C 22 dX10_taken_17 (by decide) (fun c17 => ?_) (fun c17 => ?_)))
      ·
        have ha : aTaken S (nI b) k0 = takK S (S.2.2.2.2.2.2 (nI b).toNatClampNeg) k0 := if_pos ⟨hcase, Int32.not_lt.mp c11, c17⟩
        rw [hbc] at ha
        refine E_aload_n C dX10_taken_22 0 rfl (xg_7_1 C (b := b) hb_b dX10_taken_23 f_X10_86 ?_)
        refine Ev.seti hs.1 ?_
        refine E_if_ne C 32 dX10_taken_26 (by decide) (fun c26 => ?_) (fun c26 => ?_)
        ·
          have h0 : ¬ (S.2.2.2.2.2.2 b).1 = 0 := fun q => c26 (by rw [q]; rfl)
          have ha2 := ha.trans (if_neg h0)
          refine E_aload_n C dX10_taken_32 0 rfl (xg_7_1 C (b := b) hb_b dX10_taken_33 f_X10_86 ?_)
          refine Ev.seti hs.1 ?_
          refine E_iconst (v := 1) C dX10_taken_36 ic_1 (E_icmp_eq C 43 dX10_taken_37 (by decide) (fun c37 => ?_) (fun c37 => ?_))
          ·
            have h1 : (S.2.2.2.2.2.2 b).1 = 1 := (nI_eq (b := 1) (by have := hs.2.1; omega) (by decide)).mp c37
            obtain ⟨r1, r2⟩ := hs.2.2.1 h1
            have ha3 := ha2.trans (if_pos h1)
            have hb1 : bodB S.2.2.2.2.2.1.1 (nI (S.2.2.2.2.2.2 b).2.1) = true := by simp only [bodB, decide_eq_true_eq]; rw [nI_toInt (by omega)]; omega
            refine E_aload_n C dX10_taken_43 1 rfl (xg_10_7 C dX10_taken_44 f_X10_63 (E_aload_n C dX10_taken_47 0 rfl (xg_7_2 C (b := b) hb_b dX10_taken_48 f_X10_289 ?_)))
            refine Ev.seti r1 ?_
            refine E_callVI C dX10_taken_51 mv_X10_321 32 _ (s_kindOf hP.1 hnb (nI (S.2.2.2.2.2.2 b).2.1)) rfl rfl rfl (by decide) (Nat.le_of_ble_eq_true rfl) ?_
            rintro _ _ ⟨rfl, rfl⟩
            refine Ev.seti (show _ = nI (S.2.2.2.2.2.1.2.1 (S.2.2.2.2.2.2 b).2.1) by rw [if_pos hb1, nI_clamp (by omega)]; exact (hP.2.2.1 _ r2).1) ?_
            refine E_istore C dX10_taken_54 (by decide) (E_iload C dX10_taken_56 0 rfl (E_iload_n C dX10_taken_58 4 rfl (E_callSI C dX10_taken_59 ms_X10_324 _ (s_isUnder (nI (S.2.2.2.2.2.1.2.1 (S.2.2.2.2.2.2 b).2.1)) k0) rfl rfl (by decide) (Nat.le_of_ble_eq_true rfl) ?_)))
            rintro _ _ ⟨rfl, rfl⟩
            refine E_if_eq C 70 dX10_taken_62 (by decide) (fun c62 => ?_) (fun c62 => ?_)
            ·
              have hun : ¬ undR 8 (nI (S.2.2.2.2.2.1.2.1 (S.2.2.2.2.2.2 b).2.1)) k0 = k0 := fun q => by rw [if_pos q] at c62; cases c62
              refine E_bipush (v := -12) C dX10_taken_70 bp_m12 (E_iretI C hr hlk dX10_taken_72 ?_)
              exact ⟨(ha3.trans (if_neg hun)).symm, ⟨W, g, h, Dv, Sh, u, v, z, y, rfl, X.same⟩⟩
            ·
              have hun : undR 8 (nI (S.2.2.2.2.2.1.2.1 (S.2.2.2.2.2.2 b).2.1)) k0 = k0 := Classical.byContradiction fun q => c62 (if_neg q)
              refine E_iload C dX10_taken_65 0 rfl (E_goto C 72 dX10_taken_67 (by decide) (E_iretI C hr hlk dX10_taken_72 ?_))
              exact ⟨(ha3.trans (if_pos hun)).symm, ⟨W, g, h, Dv, Sh, u, v, z, y, rfl, X.same⟩⟩
          ·
            have h1 : ¬ (S.2.2.2.2.2.2 b).1 = 1 := fun q => c37 (by rw [q]; rfl)
            refine E_bipush (v := -12) C dX10_taken_40 bp_m12 (E_iretI C hr hlk dX10_taken_42 ?_)
            exact ⟨(ha2.trans (if_neg h1)).symm, ⟨W, g, h, Dv, Sh, u, v, z, y, rfl, X.same⟩⟩
        ·
          have h0 : (S.2.2.2.2.2.2 b).1 = 0 := (nI_eq (b := 0) (by have := hs.2.1; omega) (by decide)).mp c26
          refine E_bipush (v := -11) C dX10_taken_29 bp_m11 (E_iretI C hr hlk dX10_taken_31 ?_)
          exact ⟨(ha.trans (if_pos h0)).symm, ⟨W, g, h, Dv, Sh, u, v, z, y, rfl, X.same⟩⟩
      ·
        refine E_iconst (v := -1) C dX10_taken_20 ic_m1 (E_iretI C hr hlk dX10_taken_21 ?_)
        exact ⟨(if_neg fun q => c17 q.2.2).symm, ⟨W, g, h, Dv, Sh, u, v, z, y, rfl, X.same⟩⟩
  ·
    refine Ct.of (by decide +kernel) (Nat.le_of_ble_eq_true rfl) ?_
    intro p e R s m args below meth c A C hr hlk
    refine E_aload_n C dX10_taken_0 0 rfl (E_iload_n C dX10_taken_1 1 rfl (E_callVR C dX10_taken_2 mv_X10_82 0 _ (s_shelfAtN x0 hcase) rfl rfl rfl (by decide) (Nat.le_of_ble_eq_true rfl) ?_))
    rintro _ _ ⟨rfl, rfl⟩
    refine E_astore_nN C dX10_taken_5 (by decide) (E_aload_nN C dX10_taken_6 0 rfl (E_ifnullN C 20 dX10_taken_7 (by decide) (E_iconst (v := -1) C dX10_taken_20 ic_m1 (E_iretI C hr hlk dX10_taken_21 ?_))))
    exact ⟨(if_neg (fun q => hcase q.1)).symm, ⟨W, g, h, Dv, Sh, u, v, z, y, rfl, X.same⟩⟩
set_option maxRecDepth 100000 in
set_option maxHeartbeats 4000000 in
theorem p_shift {l : Launch} {D : va_G} {tc tt ad : Nat → Nat} {S : STT} {kk0 : Nat} {w0 : va_W} (hX : XR ad tc S kk0 w0) (hk600 : kk0 ≤ 600) (x0 i0 x2 j0 n0 : Int32) : Ct l yX10_shift cX10_shift 8 (some .int) 3 D tc tt [.ref (ad 0), .int x0, .int i0, .int x2, .int j0, .int n0] w0 (PI fun r w => r = aShift S x0 i0 x2 j0 n0 ∧ XR ad tc (nShift S x0 i0 x2 j0 n0) (kk0 + 1) w) := by
  obtain ⟨W, g, h, Dv, Sh, u, v, z, y, rfl, X⟩ := hX
  have hn := X.1.1
  have hn8 := X.1.2.1
  have hN := X.1.2.2.1
  have hB := X.1.2.2.2.1
  have hL := X.1.2.2.2.2.2
  by_cases hcase : inS x0 = true
  ·
    by_cases hcase2 : inS x2 = true
    ·
      obtain ⟨b, hb_b, hbc, rfl⟩ := inS_ex hcase
      have hs := X.sf hb_b
      obtain ⟨b2, hb_b2, hbc2, rfl⟩ := inS_ex hcase2
      have hs2 := X.sf hb_b2
      have ha : aShift S (nI b) i0 (nI b2) j0 n0 = shfK (S.2.2.2.2.2.2 (nI b).toNatClampNeg) (S.2.2.2.2.2.2 (nI b2).toNatClampNeg) i0 j0 n0 := if_pos ⟨hcase, hcase2⟩
      rw [hbc, hbc2] at ha
      refine Ct.of (by decide +kernel) (Nat.le_of_ble_eq_true rfl) ?_
      intro p e R s m args below meth c A C hr hlk
      refine E_aload_n C dX10_shift_0 0 rfl (E_iload_n C dX10_shift_1 1 rfl (E_callVR C dX10_shift_2 mv_X10_82 0 _ (s_shelfAt hb_b) rfl rfl rfl (by decide) (Nat.le_of_ble_eq_true rfl) ?_))
      rintro _ _ ⟨rfl, rfl⟩
      refine E_astore C dX10_shift_5 (by decide) (E_aload_n C dX10_shift_7 1 rfl (E_iload_n C dX10_shift_8 4 rfl (E_callVR C dX10_shift_9 mv_X10_82 0 _ (s_shelfAt hb_b2) rfl rfl rfl (by decide) (Nat.le_of_ble_eq_true rfl) ?_)))
      rintro _ _ ⟨rfl, rfl⟩
      refine E_astore C dX10_shift_12 (by decide) (E_aload C dX10_shift_14 1 rfl (E_ifnull C dX10_shift_16 (E_aload C dX10_shift_19 0 rfl (E_ifnonnull C 26 dX10_shift_21 (by decide) (E_aload C dX10_shift_26 1 rfl ?_)))))
      refine xg_7_1 C (b := b) hb_b dX10_shift_28 f_X10_86 ?_
      refine Ev.seti hs.1 ?_
      refine E_if_eq C 42 dX10_shift_31 (by decide) (fun c31 => ?_) (fun c31 => ?_)
      ·
        have z1 : (S.2.2.2.2.2.2 b).1 = 0 := (nI_eq (b := 0) (by have := hs.2.1; omega) (by decide)).mp c31
        refine E_bipush (v := -11) C dX10_shift_42 bp_m11 (E_iretI C hr hlk dX10_shift_44 ?_)
        have hnx : nShift S (nI b) i0 (nI b2) j0 n0 = S := if_neg (fun q => by rw [hbc, hbc2] at q; have q3 := of_decide_eq_true q.2.2; exact absurd (z1.symm.trans q3.1) (by decide))
        rw [hnx]
        exact ⟨(ha.trans (if_pos (Or.inl z1))).symm, ⟨W, g, h, Dv, Sh, u, v, z, y, rfl, X.same⟩⟩
      ·
        have z1 : ¬ (S.2.2.2.2.2.2 b).1 = 0 := fun q => c31 (by rw [q]; rfl)
        refine E_aload C dX10_shift_34 0 rfl (xg_7_1 C (b := b2) hb_b2 dX10_shift_36 f_X10_86 ?_)
        refine Ev.seti hs2.1 ?_
        refine E_if_ne C 45 dX10_shift_39 (by decide) (fun c39 => ?_) (fun c39 => ?_)
        ·
          have z2 : ¬ (S.2.2.2.2.2.2 b2).1 = 0 := fun q => c39 (by rw [q]; rfl)
          have ha2 := ha.trans (if_neg fun q => q.elim z1 z2)
          refine E_aload C dX10_shift_45 1 rfl (xg_7_1 C (b := b) hb_b dX10_shift_47 f_X10_86 ?_)
          refine Ev.seti hs.1 ?_
          refine E_iconst (v := 2) C dX10_shift_50 ic_2 (E_icmp_ne C 76 dX10_shift_51 (by decide) (fun c51 => ?_) (fun c51 => ?_))
          ·
            have t1 : ¬ (S.2.2.2.2.2.2 b).1 = 2 := fun q => c51 (by rw [q]; rfl)
            refine E_bipush (v := -12) C dX10_shift_76 bp_m12 (E_iretI C hr hlk dX10_shift_78 ?_)
            have hnx : nShift S (nI b) i0 (nI b2) j0 n0 = S := if_neg (fun q => by rw [hbc, hbc2] at q; have q3 := of_decide_eq_true q.2.2; exact t1 q3.1)
            rw [hnx]
            exact ⟨(ha2.trans (if_neg fun q => t1 q.1)).symm, ⟨W, g, h, Dv, Sh, u, v, z, y, rfl, X.same⟩⟩
          ·
            have t1 : (S.2.2.2.2.2.2 b).1 = 2 := (nI_eq (b := 2) (by have := hs.2.1; omega) (by decide)).mp c51
            refine E_aload C dX10_shift_54 0 rfl (xg_7_1 C (b := b2) hb_b2 dX10_shift_56 f_X10_86 ?_)
            refine Ev.seti hs2.1 ?_
            refine E_iconst (v := 2) C dX10_shift_59 ic_2 (E_icmp_ne C 76 dX10_shift_60 (by decide) (fun c60 => ?_) (fun c60 => ?_))
            ·
              have t2 : ¬ (S.2.2.2.2.2.2 b2).1 = 2 := fun q => c60 (by rw [q]; rfl)
              refine E_bipush (v := -12) C dX10_shift_76 bp_m12 (E_iretI C hr hlk dX10_shift_78 ?_)
              have hnx : nShift S (nI b) i0 (nI b2) j0 n0 = S := if_neg (fun q => by rw [hbc, hbc2] at q; have q3 := of_decide_eq_true q.2.2; exact t2 q3.2.1)
              rw [hnx]
              exact ⟨(ha2.trans (if_neg fun q => t2 q.2.1)).symm, ⟨W, g, h, Dv, Sh, u, v, z, y, rfl, X.same⟩⟩
            ·
              have t2 : (S.2.2.2.2.2.2 b2).1 = 2 := (nI_eq (b := 2) (by have := hs2.2.1; omega) (by decide)).mp c60
              obtain ⟨r1, r2, r3, r4, r5⟩ := hs.2.2.2 t1
              obtain ⟨y1, y2, y3, y4, y5⟩ := hs2.2.2.2 t2
              refine E_aload C dX10_shift_63 1 rfl (xg_7_3 C (b := b) hb_b dX10_shift_65 f_X10_305 ?_)
              refine Ev.seti r1 ?_
              refine E_aload C dX10_shift_68 0 rfl (xg_7_3 C (b := b2) hb_b2 dX10_shift_70 f_X10_305 ?_)
              refine Ev.seti y1 ?_
              refine E_icmp_eq C 79 dX10_shift_73 (by decide) (fun c73 => ?_) (fun c73 => ?_)
              ·
                have so : (S.2.2.2.2.2.2 b).2.2.1 = (S.2.2.2.2.2.2 b2).2.2.1 := (nI_eq (by omega) (by omega)).mp c73
                have ha3 := ha2.trans (if_pos ⟨t1, t2, so⟩)
                refine E_aload C dX10_shift_79 1 rfl (E_iload_n C dX10_shift_81 4 rfl (E_iload C dX10_shift_82 7 rfl (E_callVI C dX10_shift_84 mv_X10_308 _ _ (s_hasPlaces hb_b i0 n0) (xat_sh0 (b := b) hb_b) rfl rfl (by decide) (Nat.le_of_ble_eq_true rfl) ?_)))
                rintro _ _ ⟨rfl, rfl⟩
                refine Ev.seti (show _ = (if hpB (nI (S.2.2.2.2.2.2 b).2.2.2.1) i0 n0 = true then 1 else 0) by rw [r3]) ?_
                refine E_if_eq C 102 dX10_shift_87 (by decide) (fun c87 => ?_) (fun c87 => ?_)
                ·
                  have p1 : ¬ hpB (nI (S.2.2.2.2.2.2 b).2.2.2.1) i0 n0 = true := fun q => by rw [if_pos q] at c87; cases c87
                  refine E_bipush (v := -13) C dX10_shift_102 bp_m13 (E_iretI C hr hlk dX10_shift_104 ?_)
                  have hnx : nShift S (nI b) i0 (nI b2) j0 n0 = S := if_neg (fun q => by rw [hbc, hbc2] at q; have q3 := of_decide_eq_true q.2.2; exact p1 q3.2.2.2.1)
                  rw [hnx]
                  exact ⟨(ha3.trans (if_neg fun q => p1 q.1)).symm, ⟨W, g, h, Dv, Sh, u, v, z, y, rfl, X.same⟩⟩
                ·
                  have p1 : hpB (nI (S.2.2.2.2.2.2 b).2.2.2.1) i0 n0 = true := Classical.byContradiction fun q => c87 (if_neg q)
                  refine E_aload C dX10_shift_90 0 rfl (E_iload C dX10_shift_92 6 rfl (E_iload C dX10_shift_94 7 rfl (E_callVI C dX10_shift_96 mv_X10_308 _ _ (s_hasPlaces hb_b2 j0 n0) (xat_sh0 (b := b2) hb_b2) rfl rfl (by decide) (Nat.le_of_ble_eq_true rfl) ?_)))
                  rintro _ _ ⟨rfl, rfl⟩
                  refine Ev.seti (show _ = (if hpB (nI (S.2.2.2.2.2.2 b2).2.2.2.1) j0 n0 = true then 1 else 0) by rw [y3]) ?_
                  refine E_if_ne C 105 dX10_shift_99 (by decide) (fun c99 => ?_) (fun c99 => ?_)
                  ·
                    have p2 : hpB (nI (S.2.2.2.2.2.2 b2).2.2.2.1) j0 n0 = true := Classical.byContradiction fun q => c99 (if_neg q)
                    obtain ⟨in1, nn1, hin1, rfl, hnn1⟩ := hpB_ex r4 p1
                    obtain ⟨jn1, nn2, hjn1, rfl, hnn2⟩ := hpB_ex y4 p2
                    have hnn : nn1 = nn2 := (nI_eq (by omega) (by omega)).mp (hnn1.symm.trans hnn2)
                    subst hnn
                    subst hnn1
                    refine E_aload C dX10_shift_105 1 rfl (xg_7_0 C (b := b) hb_b dX10_shift_107 f_X10_311 (E_iload_n C dX10_shift_110 4 rfl (E_aload C dX10_shift_111 0 rfl (xg_7_0 C (b := b2) hb_b2 dX10_shift_113 f_X10_311 (E_iload C dX10_shift_116 6 rfl ?_)))))
                    refine E_iload C dX10_shift_118 7 rfl ?_
                    refine E_copyl C dX10_shift_120 w_ac1 (53 + 2 * b) (53 + 2 * b2) (xat_sh1 hb_b) (xat_sh1 hb_b2) (nI_pos (by omega)) (nI_pos (by omega)) (nI_pos (by omega)) (by rw [nI_clamp (show in1 < 2 ^ 31 by omega), nI_clamp (show nn1 < 2 ^ 31 by omega)]; omega) (by rw [nI_clamp (show jn1 < 2 ^ 31 by omega), nI_clamp (show nn1 < 2 ^ 31 by omega)]; omega) (by decide) (Nat.le_of_ble_eq_true rfl) (xset_sh1 hb_b2 _) ?_
                    rw [nI_clamp (show in1 < 2 ^ 31 by omega), nI_clamp (show jn1 < 2 ^ 31 by omega), nI_clamp (show nn1 < 2 ^ 31 by omega)]
                    refine E_iload C dX10_shift_123 7 rfl (E_iretI C hr hlk dX10_shift_125 ?_)
                    have hok : shfB (S.2.2.2.2.2.2 b) (S.2.2.2.2.2.2 b2) (nI in1) (nI jn1) (nI nn1) = true := decide_eq_true ⟨t1, t2, so, p1, p2⟩
                    have hnx : nShift S (nI b) (nI in1) (nI b2) (nI jn1) (nI nn1) = _ := if_pos ⟨hcase, hcase2, by rw [hbc, hbc2]; exact hok⟩
                    rw [hbc, hbc2, nI_clamp (show in1 < 2 ^ 31 by omega), nI_clamp (show jn1 < 2 ^ 31 by omega), nI_clamp (show nn1 < 2 ^ 31 by omega)] at hnx
                    rw [hnx]
                    refine ⟨(ha3.trans (if_pos ⟨p1, p2⟩)).symm, ⟨W, g, h, Dv, _, u, v, z, y, rfl, X.shelf (fun j hj => vun hj) ?_⟩⟩
                    rw [vus]
                    refine ⟨hs2.1, hs2.2.1, hs2.2.2.1, fun _ => ⟨y1, y2, y3, y4, fun j hj => ?_⟩⟩
                    show (if jn1 ≤ j ∧ j < jn1 + nn1 then (Sh b).2 (in1 + (j - jn1)) else (Sh b2).2 j) = (if jn1 ≤ j ∧ j < jn1 + nn1 then (S.2.2.2.2.2.2 b).2.2.2.2 (in1 + (j - jn1)) else (S.2.2.2.2.2.2 b2).2.2.2.2 j)
                    by_cases e : jn1 ≤ j ∧ j < jn1 + nn1
                    · rw [if_pos e, if_pos e]
                      exact r5 _ (by omega)
                    · rw [if_neg e, if_neg e]
                      exact y5 j hj
                  ·
                    have p2 : ¬ hpB (nI (S.2.2.2.2.2.2 b2).2.2.2.1) j0 n0 = true := fun q => by rw [if_pos q] at c99; cases c99
                    refine E_bipush (v := -13) C dX10_shift_102 bp_m13 (E_iretI C hr hlk dX10_shift_104 ?_)
                    have hnx : nShift S (nI b) i0 (nI b2) j0 n0 = S := if_neg (fun q => by rw [hbc, hbc2] at q; have q3 := of_decide_eq_true q.2.2; exact p2 q3.2.2.2.2)
                    rw [hnx]
                    exact ⟨(ha3.trans (if_neg fun q => p2 q.2)).symm, ⟨W, g, h, Dv, Sh, u, v, z, y, rfl, X.same⟩⟩
              ·
                have so : ¬ (S.2.2.2.2.2.2 b).2.2.1 = (S.2.2.2.2.2.2 b2).2.2.1 := fun q => c73 (by rw [q])
                refine E_bipush (v := -12) C dX10_shift_76 bp_m12 (E_iretI C hr hlk dX10_shift_78 ?_)
                have hnx : nShift S (nI b) i0 (nI b2) j0 n0 = S := if_neg (fun q => by rw [hbc, hbc2] at q; have q3 := of_decide_eq_true q.2.2; exact so q3.2.2.1)
                rw [hnx]
                exact ⟨(ha2.trans (if_neg fun q => so q.2.2)).symm, ⟨W, g, h, Dv, Sh, u, v, z, y, rfl, X.same⟩⟩
        ·
          have z2 : (S.2.2.2.2.2.2 b2).1 = 0 := (nI_eq (b := 0) (by have := hs2.2.1; omega) (by decide)).mp c39
          refine E_bipush (v := -11) C dX10_shift_42 bp_m11 (E_iretI C hr hlk dX10_shift_44 ?_)
          have hnx : nShift S (nI b) i0 (nI b2) j0 n0 = S := if_neg (fun q => by rw [hbc, hbc2] at q; have q3 := of_decide_eq_true q.2.2; exact absurd (z2.symm.trans q3.2.1) (by decide))
          rw [hnx]
          exact ⟨(ha.trans (if_pos (Or.inr z2))).symm, ⟨W, g, h, Dv, Sh, u, v, z, y, rfl, X.same⟩⟩
    ·
      obtain ⟨b, hb_b, hbc, rfl⟩ := inS_ex hcase
      refine Ct.of (by decide +kernel) (Nat.le_of_ble_eq_true rfl) ?_
      intro p e R s m args below meth c A C hr hlk
      refine E_aload_n C dX10_shift_0 0 rfl (E_iload_n C dX10_shift_1 1 rfl (E_callVR C dX10_shift_2 mv_X10_82 0 _ (s_shelfAt hb_b) rfl rfl rfl (by decide) (Nat.le_of_ble_eq_true rfl) ?_))
      rintro _ _ ⟨rfl, rfl⟩
      refine E_astore C dX10_shift_5 (by decide) (E_aload_n C dX10_shift_7 1 rfl (E_iload_n C dX10_shift_8 4 rfl (E_callVR C dX10_shift_9 mv_X10_82 0 _ (s_shelfAtN x2 hcase2) rfl rfl rfl (by decide) (Nat.le_of_ble_eq_true rfl) ?_)))
      rintro _ _ ⟨rfl, rfl⟩
      refine E_astoreN C dX10_shift_12 (by decide) (E_aload C dX10_shift_14 1 rfl (E_ifnull C dX10_shift_16 (E_aloadN C dX10_shift_19 0 rfl (E_ifnonnullN C dX10_shift_21 (E_iconst (v := -1) C dX10_shift_24 ic_m1 ?_)))))
      refine E_iretI C hr hlk dX10_shift_25 ?_
      have hnx : nShift S (nI b) i0 x2 j0 n0 = S := if_neg (fun q => hcase2 q.2.1)
      rw [hnx]
      exact ⟨(if_neg (fun q => hcase2 q.2)).symm, ⟨W, g, h, Dv, Sh, u, v, z, y, rfl, X.same⟩⟩
  ·
    by_cases hcase2 : inS x2 = true
    ·
      obtain ⟨b2, hb_b2, hbc2, rfl⟩ := inS_ex hcase2
      refine Ct.of (by decide +kernel) (Nat.le_of_ble_eq_true rfl) ?_
      intro p e R s m args below meth c A C hr hlk
      refine E_aload_n C dX10_shift_0 0 rfl (E_iload_n C dX10_shift_1 1 rfl (E_callVR C dX10_shift_2 mv_X10_82 0 _ (s_shelfAtN x0 hcase) rfl rfl rfl (by decide) (Nat.le_of_ble_eq_true rfl) ?_))
      rintro _ _ ⟨rfl, rfl⟩
      refine E_astoreN C dX10_shift_5 (by decide) (E_aload_n C dX10_shift_7 1 rfl (E_iload_n C dX10_shift_8 4 rfl (E_callVR C dX10_shift_9 mv_X10_82 0 _ (s_shelfAt hb_b2) rfl rfl rfl (by decide) (Nat.le_of_ble_eq_true rfl) ?_)))
      rintro _ _ ⟨rfl, rfl⟩
      refine E_astore C dX10_shift_12 (by decide) (E_aloadN C dX10_shift_14 1 rfl (E_ifnullN C 24 dX10_shift_16 (by decide) (E_iconst (v := -1) C dX10_shift_24 ic_m1 (E_iretI C hr hlk dX10_shift_25 ?_))))
      have hnx : nShift S x0 i0 (nI b2) j0 n0 = S := if_neg (fun q => hcase q.1)
      rw [hnx]
      exact ⟨(if_neg (fun q => hcase q.1)).symm, ⟨W, g, h, Dv, Sh, u, v, z, y, rfl, X.same⟩⟩
    ·
      refine Ct.of (by decide +kernel) (Nat.le_of_ble_eq_true rfl) ?_
      intro p e R s m args below meth c A C hr hlk
      refine E_aload_n C dX10_shift_0 0 rfl (E_iload_n C dX10_shift_1 1 rfl (E_callVR C dX10_shift_2 mv_X10_82 0 _ (s_shelfAtN x0 hcase) rfl rfl rfl (by decide) (Nat.le_of_ble_eq_true rfl) ?_))
      rintro _ _ ⟨rfl, rfl⟩
      refine E_astoreN C dX10_shift_5 (by decide) (E_aload_n C dX10_shift_7 1 rfl (E_iload_n C dX10_shift_8 4 rfl (E_callVR C dX10_shift_9 mv_X10_82 0 _ (s_shelfAtN x2 hcase2) rfl rfl rfl (by decide) (Nat.le_of_ble_eq_true rfl) ?_)))
      rintro _ _ ⟨rfl, rfl⟩
      refine E_astoreN C dX10_shift_12 (by decide) (E_aloadN C dX10_shift_14 1 rfl (E_ifnullN C 24 dX10_shift_16 (by decide) (E_iconst (v := -1) C dX10_shift_24 ic_m1 (E_iretI C hr hlk dX10_shift_25 ?_))))
      have hnx : nShift S x0 i0 x2 j0 n0 = S := if_neg (fun q => hcase q.1)
      rw [hnx]
      exact ⟨(if_neg (fun q => hcase q.1)).symm, ⟨W, g, h, Dv, Sh, u, v, z, y, rfl, X.same⟩⟩
