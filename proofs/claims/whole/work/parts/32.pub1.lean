/-! the class's own methods: reads -/
set_option maxRecDepth 100000 in
set_option maxHeartbeats 4000000 in
theorem p_drive {l : Launch} {D : va_G} {tc tt ad : Nat → Nat} {S : STT} {kk0 : Nat} {w0 : va_W} (hX : XR ad tc S kk0 w0) (hk600 : kk0 ≤ 600) (told what : Int32) : Ct l yX10_drive cX10_drive 3 (some .int) 8 D tc tt [.ref (ad 0), .int told, .int what] w0 (PI fun r w => r = aDrive S told what ∧ XR ad tc S (kk0 + 1) w) := by
  obtain ⟨W, g, h, Dv, Sh, u, v, z, y, rfl, X⟩ := hX
  have hn := X.1.1
  have hn8 := X.1.2.1
  have hN := X.1.2.2.1
  have hB := X.1.2.2.2.1
  have hL := X.1.2.2.2.2.2
  refine Ct.of (by decide +kernel) (Nat.le_of_ble_eq_true rfl) ?_
  intro p e R s m args below meth c A C hr hlk
  refine E_aload_n C dX10_drive_0 0 rfl (xg_10_0 C dX10_drive_1 f_X10_10 (E_iload_n C dX10_drive_4 1 rfl (E_callVI C dX10_drive_5 mv_X10_125 1 _ (s_knows hn hn8 told) rfl rfl rfl (by decide) (Nat.le_of_ble_eq_true rfl) ?_)))
  rintro _ _ ⟨rfl, rfl⟩
  refine E_if_eq C 20 dX10_drive_8 (by decide) (fun c8 => ?_) (fun c8 => ?_)
  ·
    have hkn : ¬ knB S.1.1 told = true := fun q => by rw [if_pos q] at c8; cases c8
    refine E_iconst (v := -1) C dX10_drive_20 ic_m1 (E_iretI C hr hlk dX10_drive_21 ?_)
    refine ⟨(if_neg fun q => ?_).symm, ⟨W, g, h, Dv, Sh, u, v, z, y, rfl, X.same⟩⟩
    first
      | exact hkn q.1
      | exact absurd c12 (Int32.not_lt.mpr q.2.1)
      | exact c17 q.2.2
  ·
    have hkn : knB S.1.1 told = true := Classical.byContradiction fun q => c8 (if_neg q)
    obtain ⟨t, hlt, hcl, rfl⟩ := knB_ex hn8 hkn
    have hp256 := p256 hn8
    refine E_iload_n C dX10_drive_11 2 rfl (E_if_lt C 20 dX10_drive_12 (by decide) (fun c12 => ?_) (fun c12 => ?_))
    ·
      refine E_iconst (v := -1) C dX10_drive_20 ic_m1 (E_iretI C hr hlk dX10_drive_21 ?_)
      refine ⟨(if_neg fun q => ?_).symm, ⟨W, g, h, Dv, Sh, u, v, z, y, rfl, X.same⟩⟩
      first
        | exact hkn q.1
        | exact absurd c12 (Int32.not_lt.mpr q.2.1)
        | exact c17 q.2.2
    ·
      refine E_iload_n C dX10_drive_15 2 rfl (E_iconst (v := 4) C dX10_drive_16 ic_4 (E_icmp_le C 22 dX10_drive_17 (by decide) (fun c17 => ?_) (fun c17 => ?_)))
      ·
        refine E_aload_n C dX10_drive_22 0 rfl (xg_10_3 C dX10_drive_23 f_X10_35 (E_iload_n C dX10_drive_26 1 rfl (E_callVV C dX10_drive_27 mv_X10_129 _ _ (s_wholeWith_0 hN hB hL t (by omega)) (xat_dr0 (b := 0) (by decide)) rfl rfl (by decide) (Nat.le_of_ble_eq_true rfl) ?_)))
        rintro _ ⟨Dv2, v2, rfl, hf2, hv2, hq2⟩
        obtain ⟨k0, k1, k2, k3, k4, k5, k6, k7, k8, k9⟩ := hq2
        have hwi := whole_inv hB (L := S.1.2.2) (show t < 256 by omega)
        refine E_iload_n C dX10_drive_30 2 rfl ?_
        have hall : knB S.1.1 (nI t) = true ∧ 0 ≤ what ∧ what ≤ 4 := ⟨hkn, Int32.not_lt.mp c12, c17⟩
        have ha : aDrive S (nI t) what = _ := if_pos hall
        rw [hcl] at ha
        by_cases e31 : what = 0
        ·
          subst e31
          refine E_tableIn C 60 dX10_drive_31 (by decide) (by decide) rfl (by decide) (E_aload_n C dX10_drive_60 0 rfl (xg_10_3 C dX10_drive_61 f_X10_35 (xg_3_9 C (b := 0) (by decide) dX10_drive_64 f_X10_133 ?_)))
          refine Ev.seti k5 ?_
          refine E_iretI C hr hlk dX10_drive_67 ?_
          exact ⟨(ha.trans (if_pos rfl)).symm, ⟨W, g, h, Dv2, Sh, u, v2, z, y, rfl, X.thought (hf2 2 (by decide)) (hf2 3 (by decide)) rfl (hv2 4 (by decide) (by decide)) (hv2 5 (by decide) (by decide)) (hv2 6 (by decide) (by decide))⟩⟩
        by_cases e31_2 : what = 1
        ·
          subst e31_2
          refine E_tableIn C 68 dX10_drive_31 (by decide) (by decide) rfl (by decide) (E_aload_n C dX10_drive_68 0 rfl (xg_10_3 C dX10_drive_69 f_X10_35 (xg_3_10 C (b := 0) (by decide) dX10_drive_72 f_X10_136 ?_)))
          refine Ev.seti k6 ?_
          refine E_iretI C hr hlk dX10_drive_75 ?_
          exact ⟨(ha.trans ((if_neg (by decide)).trans (if_pos rfl))).symm, ⟨W, g, h, Dv2, Sh, u, v2, z, y, rfl, X.thought (hf2 2 (by decide)) (hf2 3 (by decide)) rfl (hv2 4 (by decide) (by decide)) (hv2 5 (by decide) (by decide)) (hv2 6 (by decide) (by decide))⟩⟩
        by_cases e31_3 : what = 2
        ·
          subst e31_3
          refine E_tableIn C 76 dX10_drive_31 (by decide) (by decide) rfl (by decide) (E_aload_n C dX10_drive_76 0 rfl (xg_10_3 C dX10_drive_77 f_X10_35 (xg_3_11 C (b := 0) (by decide) dX10_drive_80 f_X10_139 ?_)))
          refine Ev.seti k7 ?_
          refine E_iretI C hr hlk dX10_drive_83 ?_
          exact ⟨(ha.trans ((if_neg (by decide)).trans ((if_neg (by decide)).trans (if_pos rfl)))).symm, ⟨W, g, h, Dv2, Sh, u, v2, z, y, rfl, X.thought (hf2 2 (by decide)) (hf2 3 (by decide)) rfl (hv2 4 (by decide) (by decide)) (hv2 5 (by decide) (by decide)) (hv2 6 (by decide) (by decide))⟩⟩
        by_cases e31_4 : what = 3
        ·
          subst e31_4
          refine E_tableIn C 84 dX10_drive_31 (by decide) (by decide) rfl (by decide) (E_aload_n C dX10_drive_84 0 rfl (xg_10_3 C dX10_drive_85 f_X10_35 (xg_3_8 C (b := 0) (by decide) dX10_drive_88 f_X10_142 ?_)))
          refine Ev.seti k4 ?_
          refine E_iretI C hr hlk dX10_drive_91 ?_
          exact ⟨(ha.trans ((if_neg (by decide)).trans ((if_neg (by decide)).trans ((if_neg (by decide)).trans (if_pos rfl))))).symm, ⟨W, g, h, Dv2, Sh, u, v2, z, y, rfl, X.thought (hf2 2 (by decide)) (hf2 3 (by decide)) rfl (hv2 4 (by decide) (by decide)) (hv2 5 (by decide) (by decide)) (hv2 6 (by decide) (by decide))⟩⟩
        have oe31 := ntoi (n := 0) rfl e31
        have oe31_2 := ntoi (n := 1) rfl e31_2
        have oe31_3 := ntoi (n := 2) rfl e31_3
        have oe31_4 := ntoi (n := 3) rfl e31_4
        refine E_tableOut C 92 dX10_drive_31 (by omega) (by decide) (E_aload_n C dX10_drive_92 0 rfl (xg_10_3 C dX10_drive_93 f_X10_35 (E_callVI C dX10_drive_96 mv_X10_145 _ _ (s_cost_0 hN k5 k4 hwi.2.1) (xat_dr0 (b := 0) (by decide)) rfl rfl (by decide) (Nat.le_of_ble_eq_true rfl) ?_)))
        rintro _ _ ⟨rfl, rfl⟩
        refine E_iretI C hr hlk dX10_drive_99 ?_
        exact ⟨(ha.trans ((if_neg e31).trans ((if_neg e31_2).trans ((if_neg e31_3).trans (if_neg e31_4))))).symm, ⟨W, g, h, Dv2, Sh, u, v2, z, y, rfl, X.thought (hf2 2 (by decide)) (hf2 3 (by decide)) rfl (hv2 4 (by decide) (by decide)) (hv2 5 (by decide) (by decide)) (hv2 6 (by decide) (by decide))⟩⟩
      ·
        refine E_iconst (v := -1) C dX10_drive_20 ic_m1 (E_iretI C hr hlk dX10_drive_21 ?_)
        refine ⟨(if_neg fun q => ?_).symm, ⟨W, g, h, Dv, Sh, u, v, z, y, rfl, X.same⟩⟩
        first
          | exact hkn q.1
          | exact absurd c12 (Int32.not_lt.mpr q.2.1)
          | exact c17 q.2.2
set_option maxRecDepth 100000 in
set_option maxHeartbeats 4000000 in
theorem p_onWith {l : Launch} {D : va_G} {tc tt ad : Nat → Nat} {S : STT} {kk0 : Nat} {w0 : va_W} (hX : XR ad tc S kk0 w0) (hk600 : kk0 ≤ 600) (told : Int32) : Ct l yX10_onWith cX10_onWith 2 (some .int) 8 D tc tt [.ref (ad 0), .int told] w0 (PI fun r w => r = aOnWith S told ∧ XR ad tc S (kk0 + 1) w) := by
  obtain ⟨W, g, h, Dv, Sh, u, v, z, y, rfl, X⟩ := hX
  have hn := X.1.1
  have hn8 := X.1.2.1
  have hN := X.1.2.2.1
  have hB := X.1.2.2.2.1
  have hL := X.1.2.2.2.2.2
  refine Ct.of (by decide +kernel) (Nat.le_of_ble_eq_true rfl) ?_
  intro p e R s m args below meth c A C hr hlk
  refine E_aload_n C dX10_onWith_0 0 rfl (xg_10_0 C dX10_onWith_1 f_X10_10 (E_iload_n C dX10_onWith_4 1 rfl (E_callVI C dX10_onWith_5 mv_X10_125 1 _ (s_knows hn hn8 told) rfl rfl rfl (by decide) (Nat.le_of_ble_eq_true rfl) ?_)))
  rintro _ _ ⟨rfl, rfl⟩
  refine E_if_ne C 13 dX10_onWith_8 (by decide) (fun c8 => ?_) (fun c8 => ?_)
  ·
    have hkn : knB S.1.1 told = true := Classical.byContradiction fun q => c8 (if_neg q)
    obtain ⟨t, hlt, hcl, rfl⟩ := knB_ex hn8 hkn
    have hp256 := p256 hn8
    refine E_aload_n C dX10_onWith_13 0 rfl (xg_10_3 C dX10_onWith_14 f_X10_35 (E_iload_n C dX10_onWith_17 1 rfl (E_callVV C dX10_onWith_18 mv_X10_129 _ _ (s_wholeWith_0 hN hB hL t (by omega)) (xat_dr0 (b := 0) (by decide)) rfl rfl (by decide) (Nat.le_of_ble_eq_true rfl) ?_)))
    rintro _ ⟨Dv2, v2, rfl, hf2, hv2, hq2⟩
    obtain ⟨k0, k1, k2, k3, k4, k5, k6, k7, k8, k9⟩ := hq2
    have hwi := whole_inv hB (L := S.1.2.2) (show t < 256 by omega)
    refine E_aload_n C dX10_onWith_21 0 rfl (xg_10_3 C dX10_onWith_22 f_X10_35 (xg_3_12 C (b := 0) (by decide) dX10_onWith_25 f_X10_198 ?_))
    refine Ev.seti (k8 trivial) ?_
    refine E_iretI C hr hlk dX10_onWith_28 ?_
    refine ⟨?_, ⟨W, g, h, Dv2, Sh, u, v2, z, y, rfl, X.thought (hf2 2 (by decide)) (hf2 3 (by decide)) rfl (hv2 4 (by decide) (by decide)) (hv2 5 (by decide) (by decide)) (hv2 6 (by decide) (by decide))⟩⟩
    refine Eq.trans ?_ (if_pos hkn : aOnWith S (nI t) = _).symm
    rw [hcl]
  ·
    have hkn : ¬ knB S.1.1 told = true := fun q => by rw [if_pos q] at c8; cases c8
    refine E_iconst (v := -1) C dX10_onWith_11 ic_m1 (E_iretI C hr hlk dX10_onWith_12 ?_)
    exact ⟨(if_neg hkn).symm, ⟨W, g, h, Dv, Sh, u, v, z, y, rfl, X.same⟩⟩
set_option maxRecDepth 100000 in
set_option maxHeartbeats 4000000 in
theorem p_going {l : Launch} {D : va_G} {tc tt ad : Nat → Nat} {S : STT} {kk0 : Nat} {w0 : va_W} (hX : XR ad tc S kk0 w0) (hk600 : kk0 ≤ 600) (told k what : Int32) : Ct l yX10_going cX10_going 4 (some .int) 8 D tc tt [.ref (ad 0), .int told, .int k, .int what] w0 (PI fun r w => r = aGoing S told k what ∧ XR ad tc S (kk0 + 1) w) := by
  obtain ⟨W, g, h, Dv, Sh, u, v, z, y, rfl, X⟩ := hX
  have hn := X.1.1
  have hn8 := X.1.2.1
  have hN := X.1.2.2.1
  have hB := X.1.2.2.2.1
  have hL := X.1.2.2.2.2.2
  refine Ct.of (by decide +kernel) (Nat.le_of_ble_eq_true rfl) ?_
  intro p e R s m args below meth c A C hr hlk
  refine E_aload_n C dX10_going_0 0 rfl (xg_10_0 C dX10_going_1 f_X10_10 (E_iload_n C dX10_going_4 1 rfl (E_callVI C dX10_going_5 mv_X10_125 1 _ (s_knows hn hn8 told) rfl rfl rfl (by decide) (Nat.le_of_ble_eq_true rfl) ?_)))
  rintro _ _ ⟨rfl, rfl⟩
  refine E_if_eq C 24 dX10_going_8 (by decide) (fun c8 => ?_) (fun c8 => ?_)
  ·
    have hkn : ¬ knB S.1.1 told = true := fun q => by rw [if_pos q] at c8; cases c8
    refine E_iconst (v := -1) C dX10_going_24 ic_m1 (E_iretI C hr hlk dX10_going_25 ?_)
    refine ⟨(if_neg fun q => ?_).symm, ⟨W, g, h, Dv, Sh, u, v, z, y, rfl, X.same⟩⟩
    first
      | exact hkn q.1
      | exact absurd c12 (Int32.not_lt.mpr q.2.1)
      | exact absurd c16 (Int32.not_lt.mpr q.2.2.1)
      | exact c21 q.2.2.2
  ·
    have hkn : knB S.1.1 told = true := Classical.byContradiction fun q => c8 (if_neg q)
    obtain ⟨t, hlt, hcl, rfl⟩ := knB_ex hn8 hkn
    have hp256 := p256 hn8
    refine E_iload_n C dX10_going_11 2 rfl (E_if_lt C 24 dX10_going_12 (by decide) (fun c12 => ?_) (fun c12 => ?_))
    ·
      refine E_iconst (v := -1) C dX10_going_24 ic_m1 (E_iretI C hr hlk dX10_going_25 ?_)
      refine ⟨(if_neg fun q => ?_).symm, ⟨W, g, h, Dv, Sh, u, v, z, y, rfl, X.same⟩⟩
      first
        | exact hkn q.1
        | exact absurd c12 (Int32.not_lt.mpr q.2.1)
        | exact absurd c16 (Int32.not_lt.mpr q.2.2.1)
        | exact c21 q.2.2.2
    ·
      refine E_iload_n C dX10_going_15 3 rfl (E_if_lt C 24 dX10_going_16 (by decide) (fun c16 => ?_) (fun c16 => ?_))
      ·
        refine E_iconst (v := -1) C dX10_going_24 ic_m1 (E_iretI C hr hlk dX10_going_25 ?_)
        refine ⟨(if_neg fun q => ?_).symm, ⟨W, g, h, Dv, Sh, u, v, z, y, rfl, X.same⟩⟩
        first
          | exact hkn q.1
          | exact absurd c12 (Int32.not_lt.mpr q.2.1)
          | exact absurd c16 (Int32.not_lt.mpr q.2.2.1)
          | exact c21 q.2.2.2
      ·
        refine E_iload_n C dX10_going_19 3 rfl (E_iconst (v := 2) C dX10_going_20 ic_2 (E_icmp_le C 26 dX10_going_21 (by decide) (fun c21 => ?_) (fun c21 => ?_)))
        ·
          refine E_aload_n C dX10_going_26 0 rfl (xg_10_3 C dX10_going_27 f_X10_35 (E_iload_n C dX10_going_30 1 rfl (E_callVV C dX10_going_31 mv_X10_129 _ _ (s_wholeWith_0 hN hB hL t (by omega)) (xat_dr0 (b := 0) (by decide)) rfl rfl (by decide) (Nat.le_of_ble_eq_true rfl) ?_)))
          rintro _ ⟨Dv2, v2, rfl, hf2, hv2, hq2⟩
          obtain ⟨k0, k1, k2, k3, k4, k5, k6, k7, k8, k9⟩ := hq2
          have hwi := whole_inv hB (L := S.1.2.2) (show t < 256 by omega)
          have hall : knB S.1.1 (nI t) = true ∧ 0 ≤ k ∧ 0 ≤ what ∧ what ≤ 2 := ⟨hkn, Int32.not_lt.mp c12, Int32.not_lt.mp c16, c21⟩
          have hgl := whole_inv hB (L := S.1.2.2) (show t < 256 by omega)
          have hgl8 : (whole S.1.2.1 S.1.2.2 t).2.2.2.1.length ≤ 8 := by rw [hgl.2.2]; exact pop_le _
          obtain ⟨kn, hkn2, rfl⟩ := nI_of c12
          refine E_iload_n C dX10_going_34 2 rfl (E_aload_n C dX10_going_35 0 rfl (xg_10_3 C dX10_going_36 f_X10_35 (xg_3_10 C (b := 0) (by decide) dX10_going_39 f_X10_136 ?_)))
          refine Ev.seti k6 ?_
          refine E_icmp_ge C 51 dX10_going_42 (by decide) (fun c42 => ?_) (fun c42 => ?_)
          ·
            refine E_bipush (v := -2) C dX10_going_51 bp_m2 (E_iretI C hr hlk dX10_going_53 ?_)
            refine ⟨?_, ⟨W, g, h, Dv2, Sh, u, v2, z, y, rfl, X.thought (hf2 2 (by decide)) (hf2 3 (by decide)) rfl (hv2 4 (by decide) (by decide)) (hv2 5 (by decide) (by decide)) (hv2 6 (by decide) (by decide))⟩⟩
            refine Eq.trans ?_ (if_pos hall).symm
            unfold gAt
            rw [nI_clamp hkn2, hcl, List.getElem?_eq_none (Nat.not_lt.mp fun q => nI_ge q (by omega) c42)]
          ·
            refine E_iload_n C dX10_going_45 2 rfl (E_bipush (v := 8) C dX10_going_46 bp_8 (E_icmp_lt C 54 dX10_going_48 (by decide) (fun c48 => ?_) (fun c48 => ?_)))
            ·
              have hkl : kn < (whole S.1.2.1 S.1.2.2 t).2.2.2.1.length := (nI_ltI hkn2 (by omega)).mp (Int32.not_le.mp c42)
              have hge : (whole S.1.2.1 S.1.2.2 t).2.2.2.1[kn]? = some ((whole S.1.2.1 S.1.2.2 t).2.2.2.1[kn]) := List.getElem?_eq_getElem hkl
              have hk9 := k9 trivial kn _ _ _ hge
              refine E_iload_n C dX10_going_54 3 rfl ?_
              by_cases e55 : what = 0
              ·
                subst e55
                refine E_lookup C 80 dX10_going_55 (by decide) rfl (by decide) (E_aload_n C dX10_going_80 0 rfl (xg_10_3 C dX10_going_81 f_X10_35 (xg_3_1 C (b := 0) (by decide) dX10_going_84 f_X10_148 (E_iload_n C dX10_going_87 2 rfl (xa_dr1 C (b := 0) (by decide) dX10_going_88 (vinN (by omega)) ?_)))))
                rw [nI_clamp (show kn < 2 ^ 31 by omega)]
                refine Ev.seti hk9.1 ?_
                refine E_iretI C hr hlk dX10_going_89 ?_
                refine ⟨?_, ⟨W, g, h, Dv2, Sh, u, v2, z, y, rfl, X.thought (hf2 2 (by decide)) (hf2 3 (by decide)) rfl (hv2 4 (by decide) (by decide)) (hv2 5 (by decide) (by decide)) (hv2 6 (by decide) (by decide))⟩⟩
                refine Eq.trans ?_ (if_pos hall).symm
                unfold gAt
                rw [nI_clamp (show kn < 2 ^ 31 by omega), hcl, hge]
                exact (if_pos rfl).symm
              by_cases e55_2 : what = 1
              ·
                subst e55_2
                refine E_lookup C 90 dX10_going_55 (by decide) rfl (by decide) (E_aload_n C dX10_going_90 0 rfl (xg_10_3 C dX10_going_91 f_X10_35 (xg_3_2 C (b := 0) (by decide) dX10_going_94 f_X10_152 (E_iload_n C dX10_going_97 2 rfl (xa_dr2 C (b := 0) (by decide) dX10_going_98 (vinN (by omega)) ?_)))))
                rw [nI_clamp (show kn < 2 ^ 31 by omega)]
                refine Ev.seti hk9.2.1 ?_
                refine E_iretI C hr hlk dX10_going_99 ?_
                refine ⟨?_, ⟨W, g, h, Dv2, Sh, u, v2, z, y, rfl, X.thought (hf2 2 (by decide)) (hf2 3 (by decide)) rfl (hv2 4 (by decide) (by decide)) (hv2 5 (by decide) (by decide)) (hv2 6 (by decide) (by decide))⟩⟩
                refine Eq.trans ?_ (if_pos hall).symm
                unfold gAt
                rw [nI_clamp (show kn < 2 ^ 31 by omega), hcl, hge]
                exact ((if_neg (by decide)).trans (if_pos rfl)).symm
              refine E_lookup (off := 45) C 100 dX10_going_55 (by decide) ((lv_osw e55 rfl).trans ((lv_osw e55_2 rfl).trans rfl)) (by decide) (E_aload_n C dX10_going_100 0 rfl (xg_10_3 C dX10_going_101 f_X10_35 (xg_3_3 C (b := 0) (by decide) dX10_going_104 f_X10_155 (E_iload_n C dX10_going_107 2 rfl (xa_dr3 C (b := 0) (by decide) dX10_going_108 (vinN (by omega)) ?_)))))
              rw [nI_clamp (show kn < 2 ^ 31 by omega)]
              refine Ev.seti hk9.2.2 ?_
              refine E_iretI C hr hlk dX10_going_109 ?_
              refine ⟨?_, ⟨W, g, h, Dv2, Sh, u, v2, z, y, rfl, X.thought (hf2 2 (by decide)) (hf2 3 (by decide)) rfl (hv2 4 (by decide) (by decide)) (hv2 5 (by decide) (by decide)) (hv2 6 (by decide) (by decide))⟩⟩
              refine Eq.trans ?_ (if_pos hall).symm
              unfold gAt
              rw [nI_clamp (show kn < 2 ^ 31 by omega), hcl, hge]
              exact ((if_neg e55).trans (if_neg e55_2)).symm
            ·
              exact absurd (show nI kn < nI 8 from nI_lt (by have := (nI_ltI hkn2 (by omega)).mp (Int32.not_le.mp c42); omega) (by decide)) c48
        ·
          refine E_iconst (v := -1) C dX10_going_24 ic_m1 (E_iretI C hr hlk dX10_going_25 ?_)
          refine ⟨(if_neg fun q => ?_).symm, ⟨W, g, h, Dv, Sh, u, v, z, y, rfl, X.same⟩⟩
          first
            | exact hkn q.1
            | exact absurd c12 (Int32.not_lt.mpr q.2.1)
            | exact absurd c16 (Int32.not_lt.mpr q.2.2.1)
            | exact c21 q.2.2.2
