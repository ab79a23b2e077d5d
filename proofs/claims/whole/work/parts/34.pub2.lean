/-! the class's own methods: more reads -/
set_option maxRecDepth 100000 in
set_option maxHeartbeats 4000000 in
theorem p_mean {l : Launch} {D : va_G} {tc tt ad : Nat → Nat} {S : STT} {kk0 : Nat} {w0 : va_W} (hX : XR ad tc S kk0 w0) (hk600 : kk0 ≤ 600) (part : Int32) : Ct l yX10_mean cX10_mean 2 (some .long) 9 D tc tt [.ref (ad 0), .int part] w0 (PL fun r w => r = aMean S part ∧ XR ad tc S (kk0 + 1) w) := by
  obtain ⟨W, g, h, Dv, Sh, u, v, z, y, rfl, X⟩ := hX
  have hn := X.1.1
  have hn8 := X.1.2.1
  have hN := X.1.2.2.1
  have hB := X.1.2.2.2.1
  have hL := X.1.2.2.2.2.2
  refine Ct.of (by decide +kernel) (Nat.le_of_ble_eq_true rfl) ?_
  intro p e R s m args below meth c A C hr hlk
  refine E_iload_n C dX10_mean_0 1 rfl (E_if_lt C 9 dX10_mean_1 (by decide) (fun c1 => ?_) (fun c1 => ?_))
  ·
    refine E_ldc2 C k_X10_160 dX10_mean_9 (E_lretL C hr hlk dX10_mean_12 ?_)
    refine ⟨(if_neg fun q => ?_).symm, ⟨W, g, h, Dv, Sh, u, v, z, y, rfl, X.same⟩⟩
    first
      | exact absurd c1 (Int32.not_lt.mpr q.1)
      | exact c6 q.2
  ·
    refine E_iload_n C dX10_mean_4 1 rfl (E_iconst (v := 1) C dX10_mean_5 ic_1 (E_icmp_le C 13 dX10_mean_6 (by decide) (fun c6 => ?_) (fun c6 => ?_)))
    ·
      have hall : 0 ≤ part ∧ part ≤ 1 := ⟨Int32.not_lt.mp c1, c6⟩
      obtain ⟨pn, hpn, hpc, rfl⟩ := n_of (m := 1) rfl c1 c6
      refine E_aload_n C dX10_mean_13 0 rfl (xg_10_4 C dX10_mean_14 f_X10_42 (E_callVV C dX10_mean_17 mv_X10_162 25 _ (s_refresh hn hn8 hN hB hL (X.2.2.2.2.2.2.2.fresh hk600)) rfl rfl rfl (by decide) (Nat.le_of_ble_eq_true rfl) ?_))
      rintro _ ⟨Dv2, v2, rfl, hf2, hv2, ht2⟩
      have X2 := X.table hk600 hf2 ht2
      have hLe := hL.le
      have hp256 := p256 hn8
      have hco := ht2.co hB hLe hp256
      refine E_aload_n C dX10_mean_20 0 rfl (xg_10_4 C dX10_mean_21 f_X10_42 (E_iconst (v := 0) C dX10_mean_24 ic_0 (E_iconst (v := 0) C dX10_mean_25 ic_0 (E_callVV C dX10_mean_26 mv_X10_165 25 _ (s_weigh hn hn8 hN hB (0) (0) (by decide) (by decide)) rfl rfl rfl (by decide) (Nat.le_of_ble_eq_true rfl) ?_))))
      rintro _ ⟨y2, rfl, hy2⟩
      refine E_aload_n C dX10_mean_29 0 rfl (xg_10_4 C dX10_mean_30 f_X10_42 (E_aload_n C dX10_mean_33 0 rfl (xg_10_4 C dX10_mean_34 f_X10_42 (E_callVL C dX10_mean_37 mv_X10_169 25 _ (s_costs hn hn8 hy2 hco) rfl rfl rfl (by decide) (Nat.le_of_ble_eq_true rfl) ?_))))
      rintro _ _ ⟨rfl, rfl⟩
      refine E_iload_n C dX10_mean_40 1 rfl (E_callVL C dX10_mean_41 mv_X10_173 25 _ (s_lowest (csumN S.1.2.1 S.1.2.2 S.1.1 0 0) (belN 0 S.1.1) pn rfl (belN_pos _ _) (belN_lt hn8 (by decide)) (csum_lt hB hLe hn8 0 (by decide)) (by omega)) rfl rfl rfl (by decide) (Nat.le_of_ble_eq_true rfl) ?_)
      rintro _ _ ⟨rfl, rfl⟩
      refine E_lretL C hr hlk dX10_mean_44 ?_
      refine ⟨Eq.trans ?_ (if_pos hall).symm, ⟨W, g, h, Dv2, Sh, _, v2, _, y2, rfl, X2⟩⟩
      rw [hpc]
      rfl
    ·
      refine E_ldc2 C k_X10_160 dX10_mean_9 (E_lretL C hr hlk dX10_mean_12 ?_)
      refine ⟨(if_neg fun q => ?_).symm, ⟨W, g, h, Dv, Sh, u, v, z, y, rfl, X.same⟩⟩
      first
        | exact absurd c1 (Int32.not_lt.mpr q.1)
        | exact c6 q.2
set_option maxRecDepth 100000 in
set_option maxHeartbeats 4000000 in
theorem p_likely {l : Launch} {D : va_G} {tc tt ad : Nat → Nat} {S : STT} {kk0 : Nat} {w0 : va_W} (hX : XR ad tc S kk0 w0) (hk600 : kk0 ≤ 600) (t0 part : Int32) : Ct l yX10_likely cX10_likely 5 (some .long) 9 D tc tt [.ref (ad 0), .int t0, .int part] w0 (PL fun r w => r = aLikely S t0 part ∧ XR ad tc S (kk0 + 1) w) := by
  obtain ⟨W, g, h, Dv, Sh, u, v, z, y, rfl, X⟩ := hX
  have hn := X.1.1
  have hn8 := X.1.2.1
  have hN := X.1.2.2.1
  have hB := X.1.2.2.2.1
  have hL := X.1.2.2.2.2.2
  refine Ct.of (by decide +kernel) (Nat.le_of_ble_eq_true rfl) ?_
  intro p e R s m args below meth c A C hr hlk
  refine E_iload_n C dX10_likely_0 1 rfl (E_iconst (v := -1) C dX10_likely_1 ic_m1 (E_icmp_lt C 25 dX10_likely_2 (by decide) (fun c2 => ?_) (fun c2 => ?_)))
  ·
    refine E_ldc2 C k_X10_160 dX10_likely_25 (E_lretL C hr hlk dX10_likely_28 ?_)
    refine ⟨(if_neg fun q => ?_).symm, ⟨W, g, h, Dv, Sh, u, v, z, y, rfl, X.same⟩⟩
    obtain ⟨q1, q2, q3, q4⟩ := q
    first
      | exact absurd c2 (Int32.not_lt.mpr q1)
      | exact absurd q2 (Int32.not_lt.mpr c13)
      | exact absurd c17 (Int32.not_lt.mpr q3)
      | exact c22 q4
  ·
    refine E_iload_n C dX10_likely_5 1 rfl (E_aload_n C dX10_likely_6 0 rfl (xg_10_0 C dX10_likely_7 f_X10_10 (xg_9_2 C dX10_likely_10 f_X10_177 ?_)))
    refine Ev.seti hn ?_
    refine E_icmp_ge C 25 dX10_likely_13 (by decide) (fun c13 => ?_) (fun c13 => ?_)
    ·
      refine E_ldc2 C k_X10_160 dX10_likely_25 (E_lretL C hr hlk dX10_likely_28 ?_)
      refine ⟨(if_neg fun q => ?_).symm, ⟨W, g, h, Dv, Sh, u, v, z, y, rfl, X.same⟩⟩
      obtain ⟨q1, q2, q3, q4⟩ := q
      first
        | exact absurd c2 (Int32.not_lt.mpr q1)
        | exact absurd q2 (Int32.not_lt.mpr c13)
        | exact absurd c17 (Int32.not_lt.mpr q3)
        | exact c22 q4
    ·
      refine E_iload_n C dX10_likely_16 2 rfl (E_if_lt C 25 dX10_likely_17 (by decide) (fun c17 => ?_) (fun c17 => ?_))
      ·
        refine E_ldc2 C k_X10_160 dX10_likely_25 (E_lretL C hr hlk dX10_likely_28 ?_)
        refine ⟨(if_neg fun q => ?_).symm, ⟨W, g, h, Dv, Sh, u, v, z, y, rfl, X.same⟩⟩
        obtain ⟨q1, q2, q3, q4⟩ := q
        first
          | exact absurd c2 (Int32.not_lt.mpr q1)
          | exact absurd q2 (Int32.not_lt.mpr c13)
          | exact absurd c17 (Int32.not_lt.mpr q3)
          | exact c22 q4
      ·
        refine E_iload_n C dX10_likely_20 2 rfl (E_iconst (v := 1) C dX10_likely_21 ic_1 (E_icmp_le C 29 dX10_likely_22 (by decide) (fun c22 => ?_) (fun c22 => ?_)))
        ·
          have hall : -1 ≤ t0 ∧ t0 < nI S.1.1 ∧ 0 ≤ part ∧ part ≤ 1 := ⟨Int32.not_lt.mp c2, Int32.not_le.mp c13, Int32.not_lt.mp c17, c22⟩
          obtain ⟨pn, hpn, hpc, rfl⟩ := n_of (m := 1) rfl c17 c22
          refine E_aload_n C dX10_likely_29 0 rfl (xg_10_4 C dX10_likely_30 f_X10_42 (E_callVV C dX10_likely_33 mv_X10_162 25 _ (s_refresh hn hn8 hN hB hL (X.2.2.2.2.2.2.2.fresh hk600)) rfl rfl rfl (by decide) (Nat.le_of_ble_eq_true rfl) ?_))
          rintro _ ⟨Dv2, v2, rfl, hf2, hv2, ht2⟩
          have X2 := X.table hk600 hf2 ht2
          have hLe := hL.le
          have hp256 := p256 hn8
          have hco := ht2.co hB hLe hp256
          refine E_aload_n C dX10_likely_36 0 rfl (xg_10_4 C dX10_likely_37 f_X10_42 (E_iconst (v := 0) C dX10_likely_40 ic_0 (E_iconst (v := 0) C dX10_likely_41 ic_0 (E_callVV C dX10_likely_42 mv_X10_165 25 _ (s_weigh hn hn8 hN hB (0) (0) (by decide) (by decide)) rfl rfl rfl (by decide) (Nat.le_of_ble_eq_true rfl) ?_))))
          rintro _ ⟨y2, rfl, hy2⟩
          refine E_iload_n C dX10_likely_45 1 rfl (E_if_ge C 59 dX10_likely_46 (by decide) (fun c46 => ?_) (fun c46 => ?_))
          ·
            have hnn : ¬ t0 < 0 := Int32.not_lt.mpr c46
            obtain ⟨tn, htn, rfl⟩ := nI_of hnn
            have htl : tn < S.1.1 := (nI_ltI htn (by omega)).mp hall.2.1
            have hlik : likN S (nI tn) = ssum (fun q => if (whole S.1.2.1 S.1.2.2 q).2.1.testBit tn then wgt S.1.2.1 0 0 S.1.1 q else 0) (2 ^ S.1.1) := by
              unfold likN
              rw [if_neg hnn, nI_clamp htn]
            have hwl := ways_lt hB hn8 (fun q => (whole S.1.2.1 S.1.2.2 q).2.1.testBit tn = true)
            rw [← hlik] at hwl
            refine E_aload_n C dX10_likely_59 0 rfl (xg_10_4 C dX10_likely_60 f_X10_42 (E_iconst (v := 1) C dX10_likely_63 ic_1 (E_iload_n C dX10_likely_64 1 rfl (E_ishl C dX10_likely_65 ?_))))
            refine Ev.seti (nx_one tn (by omega)) ?_
            refine E_callVL C dX10_likely_66 mv_X10_183 25 _ (s_withLeft hn hn8 hy2 (ht2.le hB hp256) tn) rfl rfl rfl (by decide) (Nat.le_of_ble_eq_true rfl) ?_
            rintro _ _ ⟨rfl, rfl⟩
            rw [← hlik]
            refine E_lstore_n C dX10_likely_69 (by decide) (E_aload_n C dX10_likely_70 1 rfl (xg_10_4 C dX10_likely_71 f_X10_42 (E_lload_n C dX10_likely_74 0 rfl (E_iload_n C dX10_likely_75 3 rfl (E_callVL C dX10_likely_76 mv_X10_173 25 _ (s_lowest _ (belN 0 S.1.1) pn rfl (belN_pos _ _) (belN_lt hn8 (by decide)) hwl (by omega)) rfl rfl rfl (by decide) (Nat.le_of_ble_eq_true rfl) ?_)))))
            rintro _ _ ⟨rfl, rfl⟩
            refine E_lretL C hr hlk dX10_likely_79 ?_
            refine ⟨Eq.trans ?_ (if_pos hall).symm, ⟨W, g, h, Dv2, Sh, _, v2, _, y2, rfl, X2⟩⟩
            rw [hpc]
          ·
            have hnn : t0 < 0 := Int32.not_le.mp c46
            have hlik : likN S t0 = ssum (fun q => if (whole S.1.2.1 S.1.2.2 q).2.2.2.1.length = 0 then wgt S.1.2.1 0 0 S.1.1 q else 0) (2 ^ S.1.1) := if_pos hnn
            have hwl := ways_lt hB hn8 (fun q => (whole S.1.2.1 S.1.2.2 q).2.2.2.1.length = 0)
            rw [← hlik] at hwl
            refine E_aload_n C dX10_likely_49 0 rfl (xg_10_4 C dX10_likely_50 f_X10_42 (E_callVL C dX10_likely_53 mv_X10_180 25 _ (s_without hn hn8 hy2 (ht2.go hB hp256)) rfl rfl rfl (by decide) (Nat.le_of_ble_eq_true rfl) ?_))
            rintro _ _ ⟨rfl, rfl⟩
            rw [← hlik]
            refine E_goto C 69 dX10_likely_56 (by decide) (E_lstore_n C dX10_likely_69 (by decide) (E_aload_n C dX10_likely_70 1 rfl (xg_10_4 C dX10_likely_71 f_X10_42 (E_lload_n C dX10_likely_74 0 rfl (E_iload_n C dX10_likely_75 3 rfl ?_)))))
            refine E_callVL C dX10_likely_76 mv_X10_173 25 _ (s_lowest _ (belN 0 S.1.1) pn rfl (belN_pos _ _) (belN_lt hn8 (by decide)) hwl (by omega)) rfl rfl rfl (by decide) (Nat.le_of_ble_eq_true rfl) ?_
            rintro _ _ ⟨rfl, rfl⟩
            refine E_lretL C hr hlk dX10_likely_79 ?_
            refine ⟨Eq.trans ?_ (if_pos hall).symm, ⟨W, g, h, Dv2, Sh, _, v2, _, y2, rfl, X2⟩⟩
            rw [hpc]
        ·
          refine E_ldc2 C k_X10_160 dX10_likely_25 (E_lretL C hr hlk dX10_likely_28 ?_)
          refine ⟨(if_neg fun q => ?_).symm, ⟨W, g, h, Dv, Sh, u, v, z, y, rfl, X.same⟩⟩
          obtain ⟨q1, q2, q3, q4⟩ := q
          first
            | exact absurd c2 (Int32.not_lt.mpr q1)
            | exact absurd q2 (Int32.not_lt.mpr c13)
            | exact absurd c17 (Int32.not_lt.mpr q3)
            | exact c22 q4
set_option maxRecDepth 100000 in
set_option maxHeartbeats 4000000 in
theorem p_doorstep {l : Launch} {D : va_G} {tc tt ad : Nat → Nat} {S : STT} {kk0 : Nat} {w0 : va_W} (hX : XR ad tc S kk0 w0) (hk600 : kk0 ≤ 600) (part : Int32) : Ct l yX10_doorstep cX10_doorstep 3 (some .long) 9 D tc tt [.ref (ad 0), .int part] w0 (PL fun r w => r = aDoor S part ∧ XR ad tc S (kk0 + 1) w) := by
  obtain ⟨W, g, h, Dv, Sh, u, v, z, y, rfl, X⟩ := hX
  have hn := X.1.1
  have hn8 := X.1.2.1
  have hN := X.1.2.2.1
  have hB := X.1.2.2.2.1
  have hL := X.1.2.2.2.2.2
  refine Ct.of (by decide +kernel) (Nat.le_of_ble_eq_true rfl) ?_
  intro p e R s m args below meth c A C hr hlk
  refine E_iload_n C dX10_doorstep_0 1 rfl (E_if_lt C 9 dX10_doorstep_1 (by decide) (fun c1 => ?_) (fun c1 => ?_))
  ·
    refine E_ldc2 C k_X10_160 dX10_doorstep_9 (E_lretL C hr hlk dX10_doorstep_12 ?_)
    refine ⟨(if_neg fun q => ?_).symm, ⟨W, g, h, Dv, Sh, u, v, z, y, rfl, X.same⟩⟩
    first
      | exact absurd c1 (Int32.not_lt.mpr q.1)
      | exact c6 q.2
  ·
    refine E_iload_n C dX10_doorstep_4 1 rfl (E_iconst (v := 2) C dX10_doorstep_5 ic_2 (E_icmp_le C 13 dX10_doorstep_6 (by decide) (fun c6 => ?_) (fun c6 => ?_)))
    ·
      have hall : 0 ≤ part ∧ part ≤ 2 := ⟨Int32.not_lt.mp c1, c6⟩
      have ha : aDoor S part = _ := if_pos hall
      refine E_aload_n C dX10_doorstep_13 0 rfl (xg_10_0 C dX10_doorstep_14 f_X10_10 (xg_9_2 C dX10_doorstep_17 f_X10_177 ?_))
      refine Ev.seti hn ?_
      refine E_if_ne C 27 dX10_doorstep_20 (by decide) (fun c20 => ?_) (fun c20 => ?_)
      ·
        have hn0 : ¬ S.1.1 = 0 := fun q => c20 (by rw [q]; rfl)
        have ha2 := ha.trans (if_neg hn0)
        refine E_aload_n C dX10_doorstep_27 0 rfl (xg_10_4 C dX10_doorstep_28 f_X10_42 (E_callVV C dX10_doorstep_31 mv_X10_162 25 _ (s_refresh hn hn8 hN hB hL (X.2.2.2.2.2.2.2.fresh hk600)) rfl rfl rfl (by decide) (Nat.le_of_ble_eq_true rfl) ?_))
        rintro _ ⟨Dv2, v2, rfl, hf2, hv2, ht2⟩
        have X2 := X.table hk600 hf2 ht2
        have hLe := hL.le
        have hp256 := p256 hn8
        have hco := ht2.co hB hLe hp256
        refine E_aload_n C dX10_doorstep_34 0 rfl (xg_10_4 C dX10_doorstep_35 f_X10_42 (E_callVI C dX10_doorstep_38 mv_X10_192 25 _ (s_bestDoorstep hn hn8 hN hB hco (fun t _ => csum_lt hB hLe hn8 (2 ^ t) (by decide))) rfl rfl rfl (by decide) (Nat.le_of_ble_eq_true rfl) ?_))
        rintro _ _ ⟨rfl, z1, y1, rfl⟩
        have hd : (bdF (fun t => ssum (fun q => wgt S.1.2.1 (2 ^ t) 0 S.1.1 q * costT S.1.2.1 (whole S.1.2.1 S.1.2.2 q)) (2 ^ S.1.1)) S.1.1).1 = dorN S := rfl
        rw [hd]
        have hdl : dorN S < S.1.1 := bdF_1 (Nat.pos_of_ne_zero hn0) _ (Nat.le_refl _)
        refine E_istore_n C dX10_doorstep_41 (by decide) (E_iload_n C dX10_doorstep_42 2 rfl (E_iconst (v := 2) C dX10_doorstep_43 ic_2 (E_icmp_ne C 50 dX10_doorstep_44 (by decide) (fun c44 => ?_) (fun c44 => ?_))))
        ·
          have ha3 := ha2.trans (if_neg c44)
          obtain ⟨pn, hpn, hpc, rfl⟩ := n_of (m := 2) rfl c1 c6
          have hp2 : ¬ pn = 2 := fun q => c44 (by rw [q]; rfl)
          refine E_aload_n C dX10_doorstep_50 1 rfl (xg_10_4 C dX10_doorstep_51 f_X10_42 (E_iconst (v := 1) C dX10_doorstep_54 ic_1 (E_iload_n C dX10_doorstep_55 0 rfl (E_ishl C dX10_doorstep_56 ?_))))
          refine Ev.seti (nx_one _ (by omega)) ?_
          refine E_iconst (v := 0) C dX10_doorstep_57 ic_0 (E_callVV C dX10_doorstep_58 mv_X10_165 25 _ (s_weigh hn hn8 hN hB (2 ^ dorN S) (0) (two_lt (by omega)) (by decide)) rfl rfl rfl (by decide) (Nat.le_of_ble_eq_true rfl) ?_)
          rintro _ ⟨y2, rfl, hy2⟩
          refine E_aload_n C dX10_doorstep_61 1 rfl (xg_10_4 C dX10_doorstep_62 f_X10_42 (E_aload_n C dX10_doorstep_65 1 rfl (xg_10_4 C dX10_doorstep_66 f_X10_42 (E_callVL C dX10_doorstep_69 mv_X10_169 25 _ (s_costs hn hn8 hy2 hco) rfl rfl rfl (by decide) (Nat.le_of_ble_eq_true rfl) ?_))))
          rintro _ _ ⟨rfl, rfl⟩
          refine E_iload_n C dX10_doorstep_72 2 rfl (E_callVL C dX10_doorstep_73 mv_X10_173 25 _ (s_lowest (csumN S.1.2.1 S.1.2.2 S.1.1 (2 ^ dorN S) 0) (belN 0 S.1.1) pn rfl (belN_pos _ _) (belN_lt hn8 (by decide)) (csum_lt hB hLe hn8 _ (by decide)) (by omega)) rfl rfl rfl (by decide) (Nat.le_of_ble_eq_true rfl) ?_)
          rintro _ _ ⟨rfl, rfl⟩
          refine E_lretL C hr hlk dX10_doorstep_76 ?_
          refine ⟨Eq.trans ?_ ha3.symm, ⟨W, g, h, Dv2, Sh, _, v2, _, y2, rfl, X2⟩⟩
          rw [hpc]
          rfl
        ·
          have ha3 := ha2.trans (if_pos c44)
          refine E_iload_n C dX10_doorstep_47 0 rfl (E_i2l C dX10_doorstep_48 ?_)
          refine Ev.setl (nI_l (by omega)) ?_
          refine E_lretL C hr hlk dX10_doorstep_49 ?_
          exact ⟨ha3.symm, ⟨W, g, h, Dv2, Sh, _, v2, z1, y1, rfl, X2⟩⟩
      ·
        have hn0 : S.1.1 = 0 := (nI_eq (b := 0) (by omega) (by decide)).mp c20
        refine E_ldc2 C k_X10_190 dX10_doorstep_23 (E_lretL C hr hlk dX10_doorstep_26 ?_)
        exact ⟨(ha.trans (if_pos hn0)).symm, ⟨W, g, h, Dv, Sh, u, v, z, y, rfl, X.same⟩⟩
    ·
      refine E_ldc2 C k_X10_160 dX10_doorstep_9 (E_lretL C hr hlk dX10_doorstep_12 ?_)
      refine ⟨(if_neg fun q => ?_).symm, ⟨W, g, h, Dv, Sh, u, v, z, y, rfl, X.same⟩⟩
      first
        | exact absurd c1 (Int32.not_lt.mpr q.1)
        | exact c6 q.2
set_option maxRecDepth 100000 in
set_option maxHeartbeats 4000000 in
theorem p_list {l : Launch} {D : va_G} {tc tt ad : Nat → Nat} {S : STT} {kk0 : Nat} {w0 : va_W} (hX : XR ad tc S kk0 w0) (hk600 : kk0 ≤ 600) (most part : Int32) : Ct l yX10_list cX10_list 4 (some .long) 9 D tc tt [.ref (ad 0), .int most, .int part] w0 (PL fun r w => r = aList S most part ∧ XR ad tc S (kk0 + 1) w) := by
  obtain ⟨W, g, h, Dv, Sh, u, v, z, y, rfl, X⟩ := hX
  have hn := X.1.1
  have hn8 := X.1.2.1
  have hN := X.1.2.2.1
  have hB := X.1.2.2.2.1
  have hL := X.1.2.2.2.2.2
  refine Ct.of (by decide +kernel) (Nat.le_of_ble_eq_true rfl) ?_
  intro p e R s m args below meth c A C hr hlk
  refine E_iload_n C dX10_list_0 1 rfl (E_if_lt C 18 dX10_list_1 (by decide) (fun c1 => ?_) (fun c1 => ?_))
  ·
    refine E_ldc2 C k_X10_160 dX10_list_18 (E_lretL C hr hlk dX10_list_21 ?_)
    refine ⟨(if_neg fun q => ?_).symm, ⟨W, g, h, Dv, Sh, u, v, z, y, rfl, X.same⟩⟩
    obtain ⟨q1, q2, q3, q4⟩ := q
    first
      | exact absurd c1 (Int32.not_lt.mpr q1)
      | exact absurd c6 (Int32.not_lt.mpr q2)
      | exact absurd c10 (Int32.not_lt.mpr q3)
      | exact c15 q4
  ·
    refine E_iload_n C dX10_list_4 1 rfl (E_iconst (v := 3) C dX10_list_5 ic_3 (E_icmp_gt C 18 dX10_list_6 (by decide) (fun c6 => ?_) (fun c6 => ?_)))
    ·
      refine E_ldc2 C k_X10_160 dX10_list_18 (E_lretL C hr hlk dX10_list_21 ?_)
      refine ⟨(if_neg fun q => ?_).symm, ⟨W, g, h, Dv, Sh, u, v, z, y, rfl, X.same⟩⟩
      obtain ⟨q1, q2, q3, q4⟩ := q
      first
        | exact absurd c1 (Int32.not_lt.mpr q1)
        | exact absurd c6 (Int32.not_lt.mpr q2)
        | exact absurd c10 (Int32.not_lt.mpr q3)
        | exact c15 q4
    ·
      refine E_iload_n C dX10_list_9 2 rfl (E_if_lt C 18 dX10_list_10 (by decide) (fun c10 => ?_) (fun c10 => ?_))
      ·
        refine E_ldc2 C k_X10_160 dX10_list_18 (E_lretL C hr hlk dX10_list_21 ?_)
        refine ⟨(if_neg fun q => ?_).symm, ⟨W, g, h, Dv, Sh, u, v, z, y, rfl, X.same⟩⟩
        obtain ⟨q1, q2, q3, q4⟩ := q
        first
          | exact absurd c1 (Int32.not_lt.mpr q1)
          | exact absurd c6 (Int32.not_lt.mpr q2)
          | exact absurd c10 (Int32.not_lt.mpr q3)
          | exact c15 q4
      ·
        refine E_iload_n C dX10_list_13 2 rfl (E_iconst (v := 2) C dX10_list_14 ic_2 (E_icmp_le C 22 dX10_list_15 (by decide) (fun c15 => ?_) (fun c15 => ?_)))
        ·
          have hall : 0 ≤ most ∧ most ≤ 3 ∧ 0 ≤ part ∧ part ≤ 2 := ⟨Int32.not_lt.mp c1, Int32.not_lt.mp c6, Int32.not_lt.mp c10, c15⟩
          have ha : aList S most part = _ := if_pos hall
          obtain ⟨mo, hmo, hmc, rfl⟩ := n_of (m := 3) rfl c1 (Int32.not_lt.mp c6)
          rw [hmc] at ha
          refine E_aload_n C dX10_list_22 0 rfl (xg_10_4 C dX10_list_23 f_X10_42 (E_callVV C dX10_list_26 mv_X10_162 25 _ (s_refresh hn hn8 hN hB hL (X.2.2.2.2.2.2.2.fresh hk600)) rfl rfl rfl (by decide) (Nat.le_of_ble_eq_true rfl) ?_))
          rintro _ ⟨Dv2, v2, rfl, hf2, hv2, ht2⟩
          have X2 := X.table hk600 hf2 ht2
          have hLe := hL.le
          have hp256 := p256 hn8
          have hco := ht2.co hB hLe hp256
          refine E_aload_n C dX10_list_29 0 rfl (xg_10_4 C dX10_list_30 f_X10_42 (E_iload_n C dX10_list_33 1 rfl (E_callVI C dX10_list_34 mv_X10_195 25 _ (s_bestList hn hn8 hN hB hco mo hmo (fun s0 q _ _ hp => csum_scl hB hLe hn8 0 hp)) rfl rfl rfl (by decide) (Nat.le_of_ble_eq_true rfl) ?_)))
          rintro _ _ ⟨rfl, z1, y1, rfl⟩
          have hd : (blO (fun li => ssum (fun q => wgt S.1.2.1 0 li S.1.1 q * costT S.1.2.1 (whole S.1.2.1 S.1.2.2 q)) (2 ^ S.1.1)) S.1.1 (mo + 1)).1 = lisN S mo := rfl
          rw [hd]
          have hdl : lisN S mo < 2 ^ S.1.1 := blO_1 _
          have hdp : pop (lisN S mo) ≤ 3 := Nat.le_trans (blO_pop (c := mo) _ (Nat.le_refl _)) hmo
          refine E_istore_n C dX10_list_37 (by decide) (E_iload_n C dX10_list_38 3 rfl (E_iconst (v := 2) C dX10_list_39 ic_2 (E_icmp_ne C 46 dX10_list_40 (by decide) (fun c40 => ?_) (fun c40 => ?_))))
          ·
            have ha3 := ha.trans (if_neg c40)
            obtain ⟨pn, hpn, hpc, rfl⟩ := n_of (m := 2) rfl c10 c15
            have hp2 : ¬ pn = 2 := fun q => c40 (by rw [q]; rfl)
            refine E_aload_n C dX10_list_46 1 rfl (xg_10_4 C dX10_list_47 f_X10_42 (E_iconst (v := 0) C dX10_list_50 ic_0 (E_iload_n C dX10_list_51 0 rfl (E_callVV C dX10_list_52 mv_X10_165 25 _ (s_weigh hn hn8 hN hB (0) (lisN S mo) (by decide) (by omega)) rfl rfl rfl (by decide) (Nat.le_of_ble_eq_true rfl) ?_))))
            rintro _ ⟨y2, rfl, hy2⟩
            refine E_aload_n C dX10_list_55 1 rfl (xg_10_4 C dX10_list_56 f_X10_42 (E_aload_n C dX10_list_59 1 rfl (xg_10_4 C dX10_list_60 f_X10_42 (E_callVL C dX10_list_63 mv_X10_169 25 _ (s_costs hn hn8 hy2 hco) rfl rfl rfl (by decide) (Nat.le_of_ble_eq_true rfl) ?_))))
            rintro _ _ ⟨rfl, rfl⟩
            refine E_iload_n C dX10_list_66 3 rfl (E_callVL C dX10_list_67 mv_X10_173 25 _ (s_lowest (csumN S.1.2.1 S.1.2.2 S.1.1 0 (lisN S mo)) (belN (lisN S mo) S.1.1) pn rfl (belN_pos _ _) (belN_lt hn8 hdp) (csum_lt hB hLe hn8 0 hdp) (by omega)) rfl rfl rfl (by decide) (Nat.le_of_ble_eq_true rfl) ?_)
            rintro _ _ ⟨rfl, rfl⟩
            refine E_lretL C hr hlk dX10_list_70 ?_
            refine ⟨Eq.trans ?_ ha3.symm, ⟨W, g, h, Dv2, Sh, _, v2, _, y2, rfl, X2⟩⟩
            rw [hpc]
            rfl
          ·
            have ha3 := ha.trans (if_pos c40)
            refine E_iload_n C dX10_list_43 0 rfl (E_i2l C dX10_list_44 ?_)
            refine Ev.setl (nI_l (by omega)) ?_
            refine E_lretL C hr hlk dX10_list_45 ?_
            exact ⟨ha3.symm, ⟨W, g, h, Dv2, Sh, _, v2, z1, y1, rfl, X2⟩⟩
        ·
          refine E_ldc2 C k_X10_160 dX10_list_18 (E_lretL C hr hlk dX10_list_21 ?_)
          refine ⟨(if_neg fun q => ?_).symm, ⟨W, g, h, Dv, Sh, u, v, z, y, rfl, X.same⟩⟩
          obtain ⟨q1, q2, q3, q4⟩ := q
          first
            | exact absurd c1 (Int32.not_lt.mpr q1)
            | exact absurd c6 (Int32.not_lt.mpr q2)
            | exact absurd c10 (Int32.not_lt.mpr q3)
            | exact c15 q4
