/-! the class's own methods: the rest of the reads that ask no shelf -/
set_option maxRecDepth 100000 in
set_option maxHeartbeats 4000000 in
theorem p_of {l : Launch} {D : va_G} {tc tt ad : Nat → Nat} {S : STT} {kk0 : Nat} {w0 : va_W} (hX : XR ad tc S kk0 w0) (hk600 : kk0 ≤ 600) (number what : Int32) : Ct l yX10_of cX10_of 3 (some .int) 4 D tc tt [.ref (ad 0), .int number, .int what] w0 (PI fun r w => r = aOf S number what ∧ XR ad tc S (kk0 + 1) w) := by
  obtain ⟨W, g, h, Dv, Sh, u, v, z, y, rfl, X⟩ := hX
  have hn := X.1.1
  have hn8 := X.1.2.1
  have hN := X.1.2.2.1
  have hB := X.1.2.2.2.1
  have hL := X.1.2.2.2.2.2
  refine Ct.of (by decide +kernel) (Nat.le_of_ble_eq_true rfl) ?_
  intro p e R s m args below meth c A C hr hlk
  refine E_aload_n C dX10_of_0 0 rfl (xg_10_0 C dX10_of_1 f_X10_10 (E_iload_n C dX10_of_4 2 rfl (E_iload_n C dX10_of_5 1 rfl (E_callVI C dX10_of_6 mv_X10_98 1 _ (s_has hn hn8 what number) rfl rfl rfl (by decide) (Nat.le_of_ble_eq_true rfl) ?_))))
  rintro _ _ ⟨rfl, rfl⟩
  refine E_if_eq C 24 dX10_of_9 (by decide) (fun c9 => ?_) (fun c9 => ?_)
  ·
    have hhb : ¬ hasB S.1.1 what number = true := fun q => by rw [if_pos q] at c9; cases c9
    refine E_iconst (v := -1) C dX10_of_24 ic_m1 (E_iretI C hr hlk dX10_of_25 ?_)
    exact ⟨(if_neg hhb).symm, ⟨W, g, h, Dv, Sh, u, v, z, y, rfl, X.same⟩⟩
  ·
    have hhb : hasB S.1.1 what number = true := Classical.byContradiction fun q => c9 (if_neg q)
    obtain ⟨kw, jw, hk8, hjl, hj8, hkc, hjc, rfl, rfl⟩ := hasB_ex hn8 hhb
    refine E_aload_n C dX10_of_12 0 rfl (xg_10_0 C dX10_of_13 f_X10_10 (E_iload_n C dX10_of_16 2 rfl (E_iload_n C dX10_of_17 1 rfl (E_callVI C dX10_of_18 mv_X10_101 1 _ (s_value kw jw hk8 hj8) rfl rfl rfl (by decide) (Nat.le_of_ble_eq_true rfl) ?_))))
    rintro _ _ ⟨rfl, rfl⟩
    refine Ev.seti (hN kw jw hk8 hj8) ?_
    refine E_goto C 25 dX10_of_21 (by decide) (E_iretI C hr hlk dX10_of_25 ?_)
    refine ⟨Eq.trans ?_ (if_pos hhb).symm, ⟨W, g, h, Dv, Sh, u, v, z, y, rfl, X.same⟩⟩
    rw [hkc, hjc]
set_option maxRecDepth 100000 in
set_option maxHeartbeats 4000000 in
theorem p_aloud {l : Launch} {D : va_G} {tc tt ad : Nat → Nat} {S : STT} {kk0 : Nat} {w0 : va_W} (hX : XR ad tc S kk0 w0) (hk600 : kk0 ≤ 600) (told person : Int32) : Ct l yX10_aloud cX10_aloud 3 (some .int) 6 D tc tt [.ref (ad 0), .int told, .int person] w0 (PI fun r w => r = aAloud S told person ∧ XR ad tc S (kk0 + 1) w) := by
  obtain ⟨W, g, h, Dv, Sh, u, v, z, y, rfl, X⟩ := hX
  have hn := X.1.1
  have hn8 := X.1.2.1
  have hN := X.1.2.2.1
  have hB := X.1.2.2.2.1
  have hL := X.1.2.2.2.2.2
  refine Ct.of (by decide +kernel) (Nat.le_of_ble_eq_true rfl) ?_
  intro p e R s m args below meth c A C hr hlk
  refine E_aload_n C dX10_aloud_0 0 rfl (xg_10_0 C dX10_aloud_1 f_X10_10 (E_iload_n C dX10_aloud_4 1 rfl (E_callVI C dX10_aloud_5 mv_X10_125 1 _ (s_knows hn hn8 told) rfl rfl rfl (by decide) (Nat.le_of_ble_eq_true rfl) ?_)))
  rintro _ _ ⟨rfl, rfl⟩
  refine E_if_eq C 21 dX10_aloud_8 (by decide) (fun c8 => ?_) (fun c8 => ?_)
  ·
    have hkn : ¬ knB S.1.1 told = true := fun q => by rw [if_pos q] at c8; cases c8
    refine E_iconst (v := -1) C dX10_aloud_21 ic_m1 (E_iretI C hr hlk dX10_aloud_22 ?_)
    refine ⟨(if_neg fun q => ?_).symm, ⟨W, g, h, Dv, Sh, u, v, z, y, rfl, X.same⟩⟩
    first
      | exact hkn q.1
      | exact absurd c12 (Int32.not_lt.mpr q.2.1)
      | exact c18 q.2.2
  ·
    have hkn : knB S.1.1 told = true := Classical.byContradiction fun q => c8 (if_neg q)
    obtain ⟨t, hlt, hcl, rfl⟩ := knB_ex hn8 hkn
    have hp256 := p256 hn8
    refine E_iload_n C dX10_aloud_11 2 rfl (E_if_lt C 21 dX10_aloud_12 (by decide) (fun c12 => ?_) (fun c12 => ?_))
    ·
      refine E_iconst (v := -1) C dX10_aloud_21 ic_m1 (E_iretI C hr hlk dX10_aloud_22 ?_)
      refine ⟨(if_neg fun q => ?_).symm, ⟨W, g, h, Dv, Sh, u, v, z, y, rfl, X.same⟩⟩
      first
        | exact hkn q.1
        | exact absurd c12 (Int32.not_lt.mpr q.2.1)
        | exact c18 q.2.2
    ·
      refine E_iload_n C dX10_aloud_15 2 rfl (E_bipush (v := 6) C dX10_aloud_16 bp_6 (E_icmp_lt C 23 dX10_aloud_18 (by decide) (fun c18 => ?_) (fun c18 => ?_)))
      ·
        have hall : knB S.1.1 (nI t) = true ∧ 0 ≤ person ∧ person < 6 := ⟨hkn, Int32.not_lt.mp c12, c18⟩
        have ha : aAloud S (nI t) person = _ := if_pos hall
        obtain ⟨pn, hpn, rfl⟩ := nI_of c12
        have hp6 : pn < 6 := (nI_ltI (b := 6) hpn (by decide)).mp hall.2.2
        rw [hcl, nI_clamp hpn] at ha
        refine E_aload_n C dX10_aloud_23 0 rfl (xg_10_0 C dX10_aloud_24 f_X10_10 (E_iload_n C dX10_aloud_27 1 rfl (E_iload_n C dX10_aloud_28 2 rfl (E_callVI C dX10_aloud_29 mv_X10_187 1 _ (s_minutesAloud hN hL t (by omega) pn hp6) rfl rfl rfl (by decide) (Nat.le_of_ble_eq_true rfl) ?_))))
        rintro _ _ ⟨rfl, v2, rfl, hv2⟩
        refine E_iretI C hr hlk dX10_aloud_32 ?_
        exact ⟨ha.symm, ⟨W, g, h, Dv, Sh, u, v2, z, y, rfl, X.thought rfl rfl rfl (hv2 4 (by decide) (by decide)) (hv2 5 (by decide) (by decide)) (hv2 6 (by decide) (by decide))⟩⟩
      ·
        refine E_iconst (v := -1) C dX10_aloud_21 ic_m1 (E_iretI C hr hlk dX10_aloud_22 ?_)
        refine ⟨(if_neg fun q => ?_).symm, ⟨W, g, h, Dv, Sh, u, v, z, y, rfl, X.same⟩⟩
        first
          | exact hkn q.1
          | exact absurd c12 (Int32.not_lt.mpr q.2.1)
          | exact c18 q.2.2
set_option maxRecDepth 100000 in
set_option maxHeartbeats 4000000 in
theorem p_first {l : Launch} {D : va_G} {tc tt ad : Nat → Nat} {S : STT} {kk0 : Nat} {w0 : va_W} (hX : XR ad tc S kk0 w0) (hk600 : kk0 ≤ 600) (what : Int32) : Ct l yX10_first cX10_first 3 (some .int) 9 D tc tt [.ref (ad 0), .int what] w0 (PI fun r w => r = aFirst S what ∧ XR ad tc S (kk0 + 1) w) := by
  obtain ⟨W, g, h, Dv, Sh, u, v, z, y, rfl, X⟩ := hX
  have hn := X.1.1
  have hn8 := X.1.2.1
  have hN := X.1.2.2.1
  have hB := X.1.2.2.2.1
  have hL := X.1.2.2.2.2.2
  refine Ct.of (by decide +kernel) (Nat.le_of_ble_eq_true rfl) ?_
  intro p e R s m args below meth c A C hr hlk
  refine E_iload_n C dX10_first_0 1 rfl (E_if_lt C 9 dX10_first_1 (by decide) (fun c1 => ?_) (fun c1 => ?_))
  ·
    refine E_iconst (v := -1) C dX10_first_9 ic_m1 (E_iretI C hr hlk dX10_first_10 ?_)
    refine ⟨(if_neg fun q => ?_).symm, ⟨W, g, h, Dv, Sh, u, v, z, y, rfl, X.same⟩⟩
    first
      | exact absurd c1 (Int32.not_lt.mpr q.1)
      | exact c6 q.2
  ·
    refine E_iload_n C dX10_first_4 1 rfl (E_iconst (v := 1) C dX10_first_5 ic_1 (E_icmp_le C 11 dX10_first_6 (by decide) (fun c6 => ?_) (fun c6 => ?_)))
    ·
      have hall : 0 ≤ what ∧ what ≤ 1 := ⟨Int32.not_lt.mp c1, c6⟩
      have ha : aFirst S what = _ := if_pos hall
      refine E_aload_n C dX10_first_11 0 rfl (xg_10_0 C dX10_first_12 f_X10_10 (xg_9_2 C dX10_first_15 f_X10_177 ?_))
      refine Ev.seti hn ?_
      refine E_if_ne C 24 dX10_first_18 (by decide) (fun c18 => ?_) (fun c18 => ?_)
      ·
        have hn0 : ¬ S.1.1 = 0 := fun q => c18 (by rw [q]; rfl)
        have ha2 := ha.trans (if_neg hn0)
        refine E_aload_n C dX10_first_24 0 rfl (xg_10_4 C dX10_first_25 f_X10_42 (E_callVV C dX10_first_28 mv_X10_162 25 _ (s_refresh hn hn8 hN hB hL (X.2.2.2.2.2.2.2.fresh hk600)) rfl rfl rfl (by decide) (Nat.le_of_ble_eq_true rfl) ?_))
        rintro _ ⟨Dv2, v2, rfl, hf2, hv2, ht2⟩
        have X2 := X.table hk600 hf2 ht2
        have hLe := hL.le
        have hp256 := p256 hn8
        have hco := ht2.co hB hLe hp256
        refine E_aload_n C dX10_first_31 0 rfl (xg_10_4 C dX10_first_32 f_X10_42 (E_callVI C dX10_first_35 mv_X10_211 25 _ (s_dearest hn hn8 (Nat.pos_of_ne_zero hn0) hco) rfl rfl rfl (by decide) (Nat.le_of_ble_eq_true rfl) ?_))
        rintro _ _ ⟨rfl, rfl⟩
        obtain ⟨de, hde⟩ : ∃ de, de = deaF (fun q => costT S.1.2.1 (whole S.1.2.1 S.1.2.2 q)) (2 ^ S.1.1 - 2) := ⟨_, rfl⟩
        have hp2n : 2 ^ 1 ≤ 2 ^ S.1.1 := Nat.pow_le_pow_right (by decide) (Nat.pos_of_ne_zero hn0)
        have hdl : de < 2 ^ S.1.1 := by
          have := deaF_lt (fun q => costT S.1.2.1 (whole S.1.2.1 S.1.2.2 q)) (2 ^ S.1.1 - 2)
          rw [← hde] at this
          omega
        rw [← hde] at ha2 ⊢
        refine E_istore_n C dX10_first_38 (by decide) (E_iload_n C dX10_first_39 2 rfl (E_if_ne C 47 dX10_first_40 (by decide) (fun c40 => ?_) (fun c40 => ?_)))
        ·
          have ha3 := ha2.trans (if_neg c40)
          refine E_aload_n C dX10_first_47 1 rfl (xg_10_4 C dX10_first_48 f_X10_42 (E_iload_n C dX10_first_51 0 rfl (E_callVI C dX10_first_52 mv_X10_214 25 _ (s_costOf de (by omega)) rfl rfl rfl (by decide) (Nat.le_of_ble_eq_true rfl) ?_)))
          rintro _ _ ⟨rfl, rfl⟩
          refine Ev.seti (hco de hdl).1 ?_
          refine E_iretI C hr hlk dX10_first_55 ?_
          exact ⟨ha3.symm, ⟨W, g, h, Dv2, Sh, _, v2, _, y, rfl, X2⟩⟩
        ·
          have ha3 := ha2.trans (if_pos c40)
          refine E_iload_n C dX10_first_43 0 rfl (E_goto C 55 dX10_first_44 (by decide) (E_iretI C hr hlk dX10_first_55 ?_))
          exact ⟨ha3.symm, ⟨W, g, h, Dv2, Sh, _, v2, _, y, rfl, X2⟩⟩
      ·
        have hn0 : S.1.1 = 0 := (nI_eq (b := 0) (by omega) (by decide)).mp c18
        refine E_bipush (v := -2) C dX10_first_21 bp_m2 (E_iretI C hr hlk dX10_first_23 ?_)
        exact ⟨(ha.trans (if_pos hn0)).symm, ⟨W, g, h, Dv, Sh, u, v, z, y, rfl, X.same⟩⟩
    ·
      refine E_iconst (v := -1) C dX10_first_9 ic_m1 (E_iretI C hr hlk dX10_first_10 ?_)
      refine ⟨(if_neg fun q => ?_).symm, ⟨W, g, h, Dv, Sh, u, v, z, y, rfl, X.same⟩⟩
      first
        | exact absurd c1 (Int32.not_lt.mpr q.1)
        | exact c6 q.2
set_option maxRecDepth 100000 in
set_option maxHeartbeats 4000000 in
theorem p_chain {l : Launch} {D : va_G} {tc tt ad : Nat → Nat} {S : STT} {kk0 : Nat} {w0 : va_W} (hX : XR ad tc S kk0 w0) (hk600 : kk0 ≤ 600) (t0 : Int32) : Ct l yX10_chain cX10_chain 2 (some .int) 4 D tc tt [.ref (ad 0), .int t0] w0 (PI fun r w => r = aChain S t0 ∧ XR ad tc S (kk0 + 1) w) := by
  obtain ⟨W, g, h, Dv, Sh, u, v, z, y, rfl, X⟩ := hX
  have hn := X.1.1
  have hn8 := X.1.2.1
  have hN := X.1.2.2.1
  have hB := X.1.2.2.2.1
  have hL := X.1.2.2.2.2.2
  refine Ct.of (by decide +kernel) (Nat.le_of_ble_eq_true rfl) ?_
  intro p e R s m args below meth c A C hr hlk
  refine E_aload_n C dX10_chain_0 0 rfl (xg_10_0 C dX10_chain_1 f_X10_10 (E_iconst (v := 4) C dX10_chain_4 ic_4 (E_iload_n C dX10_chain_5 1 rfl (E_callVI C dX10_chain_6 mv_X10_98 1 _ (s_has hn hn8 4 t0) rfl rfl rfl (by decide) (Nat.le_of_ble_eq_true rfl) ?_))))
  rintro _ _ ⟨rfl, rfl⟩
  refine E_if_eq C 26 dX10_chain_9 (by decide) (fun c9 => ?_) (fun c9 => ?_)
  ·
    have hhb : ¬ hasB S.1.1 4 t0 = true := fun q => by rw [if_pos q] at c9; cases c9
    refine E_iconst (v := -1) C dX10_chain_26 ic_m1 (E_iretI C hr hlk dX10_chain_27 ?_)
    exact ⟨(if_neg hhb).symm, ⟨W, g, h, Dv, Sh, u, v, z, y, rfl, X.same⟩⟩
  ·
    have hhb : hasB S.1.1 4 t0 = true := Classical.byContradiction fun q => c9 (if_neg q)
    have hh2 := hhb
    simp only [hasB, decide_eq_true_eq] at hh2
    obtain ⟨tn, htn, rfl⟩ := nI_of (x := t0) (fun q => by rw [Int32.lt_iff_toInt_lt] at q; have z0 : (0 : Int32).toInt = 0 := rfl; omega)
    have htl : tn < 8 := by
      have h4 := hh2.2.2.2.1
      rw [nI_toInt htn] at h4
      have z4 : (4 : Int32).toInt = 4 := rfl
      omega
    refine E_aload_n C dX10_chain_12 0 rfl (xg_10_0 C dX10_chain_13 f_X10_10 (E_iload_n C dX10_chain_16 1 rfl (E_callVI C dX10_chain_17 mv_X10_217 1 _ (s_broughtBy hN hn hn8 tn htl) rfl rfl rfl (by decide) (Nat.le_of_ble_eq_true rfl) ?_)))
    rintro _ _ ⟨rfl, rfl⟩
    refine E_callSI C dX10_chain_20 ms_X10_220 _ (s_bitCount _ (brO_lt hn8 (two_lt htl) 8)) rfl rfl (by decide) (Nat.le_of_ble_eq_true rfl) ?_
    rintro _ _ ⟨rfl, rfl⟩
    refine E_goto C 27 dX10_chain_23 (by decide) (E_iretI C hr hlk dX10_chain_27 ?_)
    refine ⟨Eq.trans ?_ (if_pos hhb).symm, ⟨W, g, h, Dv, Sh, u, v, z, y, rfl, X.same⟩⟩
    rw [nI_clamp htn]
set_option maxRecDepth 100000 in
set_option maxHeartbeats 4000000 in
theorem p_led {l : Launch} {D : va_G} {tc tt ad : Nat → Nat} {S : STT} {kk0 : Nat} {w0 : va_W} (hX : XR ad tc S kk0 w0) (hk600 : kk0 ≤ 600) (what : Int32) : Ct l yX10_led cX10_led 2 (some .int) 2 D tc tt [.ref (ad 0), .int what] w0 (PI fun r w => r = aLed S what ∧ XR ad tc S (kk0 + 1) w) := by
  obtain ⟨W, g, h, Dv, Sh, u, v, z, y, rfl, X⟩ := hX
  have hn := X.1.1
  have hn8 := X.1.2.1
  have hN := X.1.2.2.1
  have hB := X.1.2.2.2.1
  have hL := X.1.2.2.2.2.2
  refine Ct.of (by decide +kernel) (Nat.le_of_ble_eq_true rfl) ?_
  intro p e R s m args below meth c A C hr hlk
  refine E_iload_n C dX10_led_0 1 rfl ?_
  obtain ⟨d0, d1, d2, d3, d4, d5, d6, d7, d8, -⟩ := X.2.2.2.1.1
  have hon := X.2.2.2.1.2.1
  have hov := X.2.2.2.1.2.2.2.2.2.1
  have hcs := X.2.2.2.1.2.2.2.2.2.2
  by_cases e1 : what = 0
  ·
    subst e1
    refine E_tableIn C 44 dX10_led_1 (by decide) (by decide) rfl (by decide) (E_aload_n C dX10_led_44 0 rfl (xg_10_6 C dX10_led_45 f_X10_56 (xg_4_0 C dX10_led_48 f_X10_232 (xg_3_9 C (b := 2) (by decide) dX10_led_51 f_X10_133 ?_))))
    refine Ev.seti d5 ?_
    refine E_iretI C hr hlk dX10_led_54 ?_
    exact ⟨(if_pos rfl).symm, ⟨W, g, h, Dv, Sh, u, v, z, y, rfl, X.same⟩⟩
  by_cases e1_2 : what = 1
  ·
    subst e1_2
    refine E_tableIn C 55 dX10_led_1 (by decide) (by decide) rfl (by decide) (E_aload_n C dX10_led_55 0 rfl (xg_10_6 C dX10_led_56 f_X10_56 (xg_4_0 C dX10_led_59 f_X10_232 (xg_3_10 C (b := 2) (by decide) dX10_led_62 f_X10_136 ?_))))
    refine Ev.seti d6 ?_
    refine E_iretI C hr hlk dX10_led_65 ?_
    exact ⟨((if_neg (by decide)).trans (if_pos rfl)).symm, ⟨W, g, h, Dv, Sh, u, v, z, y, rfl, X.same⟩⟩
  by_cases e1_3 : what = 2
  ·
    subst e1_3
    refine E_tableIn C 66 dX10_led_1 (by decide) (by decide) rfl (by decide) (E_aload_n C dX10_led_66 0 rfl (xg_10_6 C dX10_led_67 f_X10_56 (xg_4_0 C dX10_led_70 f_X10_232 (xg_3_11 C (b := 2) (by decide) dX10_led_73 f_X10_139 ?_))))
    refine Ev.seti d7 ?_
    refine E_iretI C hr hlk dX10_led_76 ?_
    exact ⟨((if_neg (by decide)).trans ((if_neg (by decide)).trans (if_pos rfl))).symm, ⟨W, g, h, Dv, Sh, u, v, z, y, rfl, X.same⟩⟩
  by_cases e1_4 : what = 3
  ·
    subst e1_4
    refine E_tableIn C 77 dX10_led_1 (by decide) (by decide) rfl (by decide) (E_aload_n C dX10_led_77 0 rfl (xg_10_6 C dX10_led_78 f_X10_56 (xg_4_0 C dX10_led_81 f_X10_232 (xg_3_8 C (b := 2) (by decide) dX10_led_84 f_X10_142 ?_))))
    refine Ev.seti d4 ?_
    refine E_iretI C hr hlk dX10_led_87 ?_
    exact ⟨((if_neg (by decide)).trans ((if_neg (by decide)).trans ((if_neg (by decide)).trans (if_pos rfl)))).symm, ⟨W, g, h, Dv, Sh, u, v, z, y, rfl, X.same⟩⟩
  by_cases e1_5 : what = 4
  ·
    subst e1_5
    refine E_tableIn C 88 dX10_led_1 (by decide) (by decide) rfl (by decide) (E_aload_n C dX10_led_88 0 rfl (xg_10_6 C dX10_led_89 f_X10_56 (xg_4_2 C dX10_led_92 f_X10_248 ?_)))
    refine Ev.seti hov ?_
    refine E_iretI C hr hlk dX10_led_95 ?_
    exact ⟨((if_neg (by decide)).trans ((if_neg (by decide)).trans ((if_neg (by decide)).trans ((if_neg (by decide)).trans (if_pos rfl))))).symm, ⟨W, g, h, Dv, Sh, u, v, z, y, rfl, X.same⟩⟩
  by_cases e1_6 : what = 5
  ·
    subst e1_6
    refine E_tableIn C 96 dX10_led_1 (by decide) (by decide) rfl (by decide) (E_aload_n C dX10_led_96 0 rfl (xg_10_6 C dX10_led_97 f_X10_56 (xg_4_3 C dX10_led_100 f_X10_251 ?_)))
    refine Ev.seti hcs ?_
    refine E_iretI C hr hlk dX10_led_103 ?_
    exact ⟨((if_neg (by decide)).trans ((if_neg (by decide)).trans ((if_neg (by decide)).trans ((if_neg (by decide)).trans ((if_neg (by decide)).trans (if_pos rfl)))))).symm, ⟨W, g, h, Dv, Sh, u, v, z, y, rfl, X.same⟩⟩
  by_cases e1_7 : what = 6
  ·
    subst e1_7
    refine E_tableIn C 104 dX10_led_1 (by decide) (by decide) rfl (by decide) (E_aload_n C dX10_led_104 0 rfl (xg_10_6 C dX10_led_105 f_X10_56 (xg_4_0 C dX10_led_108 f_X10_232 (xg_3_4 C (b := 2) (by decide) dX10_led_111 f_X10_235 ?_))))
    refine Ev.seti d0 ?_
    refine E_if_eq C 130 dX10_led_114 (by decide) (fun c114 => ?_) (fun c114 => ?_)
    ·
      have ho0 : S.2.2.2.1.1 = 0 := (nI_eq (b := 0) (by omega) (by decide)).mp c114
      refine E_bipush (v := -2) C dX10_led_130 bp_m2 (E_iretI C hr hlk dX10_led_132 ?_)
      exact ⟨((if_neg (by decide)).trans ((if_neg (by decide)).trans ((if_neg (by decide)).trans ((if_neg (by decide)).trans ((if_neg (by decide)).trans ((if_neg (by decide)).trans ((if_pos rfl).trans (if_pos ho0)))))))).symm, ⟨W, g, h, Dv, Sh, u, v, z, y, rfl, X.same⟩⟩
    ·
      have ho0 : ¬ S.2.2.2.1.1 = 0 := fun q => c114 (by rw [q]; rfl)
      refine E_aload_n C dX10_led_117 0 rfl (xg_10_6 C dX10_led_118 f_X10_56 (xg_4_0 C dX10_led_121 f_X10_232 (xg_3_5 C (b := 2) (by decide) dX10_led_124 f_X10_245 ?_)))
      refine Ev.seti d1 ?_
      refine E_goto C 132 dX10_led_127 (by decide) (E_iretI C hr hlk dX10_led_132 ?_)
      exact ⟨((if_neg (by decide)).trans ((if_neg (by decide)).trans ((if_neg (by decide)).trans ((if_neg (by decide)).trans ((if_neg (by decide)).trans ((if_neg (by decide)).trans ((if_pos rfl).trans (if_neg ho0)))))))).symm, ⟨W, g, h, Dv, Sh, u, v, z, y, rfl, X.same⟩⟩
  have oe1 := ntoi (n := 0) rfl e1
  have oe1_2 := ntoi (n := 1) rfl e1_2
  have oe1_3 := ntoi (n := 2) rfl e1_3
  have oe1_4 := ntoi (n := 3) rfl e1_4
  have oe1_5 := ntoi (n := 4) rfl e1_5
  have oe1_6 := ntoi (n := 5) rfl e1_6
  have oe1_7 := ntoi (n := 6) rfl e1_7
  refine E_tableOut C 133 dX10_led_1 (by omega) (by decide) (E_iconst (v := -1) C dX10_led_133 ic_m1 (E_iretI C hr hlk dX10_led_134 ?_))
  exact ⟨((if_neg e1).trans ((if_neg e1_2).trans ((if_neg e1_3).trans ((if_neg e1_4).trans ((if_neg e1_5).trans ((if_neg e1_6).trans (if_neg e1_7))))))).symm, ⟨W, g, h, Dv, Sh, u, v, z, y, rfl, X.same⟩⟩
set_option maxRecDepth 100000 in
set_option maxHeartbeats 4000000 in
theorem p_count {l : Launch} {D : va_G} {tc tt ad : Nat → Nat} {S : STT} {kk0 : Nat} {w0 : va_W} (hX : XR ad tc S kk0 w0) (hk600 : kk0 ≤ 600) (what : Int32) : Ct l yX10_count cX10_count 2 (some .int) 2 D tc tt [.ref (ad 0), .int what] w0 (PI fun r w => r = aCount S what ∧ XR ad tc S (kk0 + 1) w) := by
  obtain ⟨W, g, h, Dv, Sh, u, v, z, y, rfl, X⟩ := hX
  have hn := X.1.1
  have hn8 := X.1.2.1
  have hN := X.1.2.2.1
  have hB := X.1.2.2.2.1
  have hL := X.1.2.2.2.2.2
  refine Ct.of (by decide +kernel) (Nat.le_of_ble_eq_true rfl) ?_
  intro p e R s m args below meth c A C hr hlk
  refine E_iload_n C dX10_count_0 1 rfl ?_
  have hnb := X.2.2.2.2.2.1.1
  have hrn := X.2.2.2.2.2.1.2.2.2.1
  have htp := X.2.2.1.1
  have hdn := X.2.1.1
  by_cases e1 : what = 0
  ·
    subst e1
    refine E_tableIn C 36 dX10_count_1 (by decide) (by decide) rfl (by decide) (E_aload_n C dX10_count_36 0 rfl (xg_10_0 C dX10_count_37 f_X10_10 (xg_9_2 C dX10_count_40 f_X10_177 ?_)))
    refine Ev.seti hn ?_
    refine E_iretI C hr hlk dX10_count_43 ?_
    exact ⟨(if_pos rfl).symm, ⟨W, g, h, Dv, Sh, u, v, z, y, rfl, X.same⟩⟩
  by_cases e1_2 : what = 1
  ·
    subst e1_2
    refine E_tableIn C 44 dX10_count_1 (by decide) (by decide) rfl (by decide) (E_aload_n C dX10_count_44 0 rfl (xg_10_2 C dX10_count_45 f_X10_26 (xg_6_3 C dX10_count_48 f_X10_327 ?_)))
    refine Ev.seti htp ?_
    refine E_iretI C hr hlk dX10_count_51 ?_
    exact ⟨((if_neg (by decide)).trans (if_pos rfl)).symm, ⟨W, g, h, Dv, Sh, u, v, z, y, rfl, X.same⟩⟩
  by_cases e1_3 : what = 2
  ·
    subst e1_3
    refine E_tableIn C 52 dX10_count_1 (by decide) (by decide) rfl (by decide) (E_aload_n C dX10_count_52 0 rfl (xg_10_1 C dX10_count_53 f_X10_19 (xg_1_4 C dX10_count_56 f_X10_266 ?_)))
    refine Ev.seti hdn ?_
    refine E_iretI C hr hlk dX10_count_59 ?_
    exact ⟨((if_neg (by decide)).trans ((if_neg (by decide)).trans (if_pos rfl))).symm, ⟨W, g, h, Dv, Sh, u, v, z, y, rfl, X.same⟩⟩
  by_cases e1_4 : what = 3
  ·
    subst e1_4
    refine E_tableIn C 60 dX10_count_1 (by decide) (by decide) rfl (by decide) (E_aload_n C dX10_count_60 0 rfl (xg_10_7 C dX10_count_61 f_X10_63 (xg_0_2 C dX10_count_64 f_X10_330 ?_)))
    refine Ev.seti hnb ?_
    refine E_iretI C hr hlk dX10_count_67 ?_
    exact ⟨((if_neg (by decide)).trans ((if_neg (by decide)).trans ((if_neg (by decide)).trans (if_pos rfl)))).symm, ⟨W, g, h, Dv, Sh, u, v, z, y, rfl, X.same⟩⟩
  by_cases e1_5 : what = 4
  ·
    subst e1_5
    refine E_tableIn C 68 dX10_count_1 (by decide) (by decide) rfl (by decide) (E_aload_n C dX10_count_68 0 rfl (xg_10_7 C dX10_count_69 f_X10_63 (xg_0_3 C dX10_count_72 f_X10_277 ?_)))
    refine Ev.seti hrn ?_
    refine E_iretI C hr hlk dX10_count_75 ?_
    exact ⟨((if_neg (by decide)).trans ((if_neg (by decide)).trans ((if_neg (by decide)).trans ((if_neg (by decide)).trans (if_pos rfl))))).symm, ⟨W, g, h, Dv, Sh, u, v, z, y, rfl, X.same⟩⟩
  have oe1 := ntoi (n := 0) rfl e1
  have oe1_2 := ntoi (n := 1) rfl e1_2
  have oe1_3 := ntoi (n := 2) rfl e1_3
  have oe1_4 := ntoi (n := 3) rfl e1_4
  have oe1_5 := ntoi (n := 4) rfl e1_5
  refine E_tableOut C 76 dX10_count_1 (by omega) (by decide) (E_iconst (v := -1) C dX10_count_76 ic_m1 (E_iretI C hr hlk dX10_count_77 ?_))
  exact ⟨((if_neg e1).trans ((if_neg e1_2).trans ((if_neg e1_3).trans ((if_neg e1_4).trans (if_neg e1_5))))).symm, ⟨W, g, h, Dv, Sh, u, v, z, y, rfl, X.same⟩⟩
set_option maxRecDepth 100000 in
set_option maxHeartbeats 4000000 in
theorem p_trace {l : Launch} {D : va_G} {tc tt ad : Nat → Nat} {S : STT} {kk0 : Nat} {w0 : va_W} (hX : XR ad tc S kk0 w0) (hk600 : kk0 ≤ 600) (i : Int32) : Ct l yX10_trace cX10_trace 2 (some .int) 2 D tc tt [.ref (ad 0), .int i] w0 (PI fun r w => r = aTrace S i ∧ XR ad tc S (kk0 + 1) w) := by
  obtain ⟨W, g, h, Dv, Sh, u, v, z, y, rfl, X⟩ := hX
  have hn := X.1.1
  have hn8 := X.1.2.1
  have hN := X.1.2.2.1
  have hB := X.1.2.2.2.1
  have hL := X.1.2.2.2.2.2
  refine Ct.of (by decide +kernel) (Nat.le_of_ble_eq_true rfl) ?_
  intro p e R s m args below meth c A C hr hlk
  refine E_iload_n C dX10_trace_0 1 rfl ?_
  have hnb := X.2.2.2.2.2.1.1
  have hrn := X.2.2.2.2.2.1.2.2.2.1
  have htp := X.2.2.1.1
  have hdn := X.2.1.1
  have hta := X.2.2.2.2.2.1.2.2.2.2
  refine E_if_lt C 21 dX10_trace_1 (by decide) (fun c1 => ?_) (fun c1 => ?_)
  ·
    have ha : aTrace S i = -1 := if_pos c1
    refine E_iconst (v := -1) C dX10_trace_21 ic_m1 (E_goto C 34 dX10_trace_22 (by decide) (E_iretI C hr hlk dX10_trace_34 ?_))
    exact ⟨ha.symm, ⟨W, g, h, Dv, Sh, u, v, z, y, rfl, X.same⟩⟩
  ·
    refine E_iload_n C dX10_trace_4 1 rfl (E_aload_n C dX10_trace_5 0 rfl (xg_10_7 C dX10_trace_6 f_X10_63 (xg_0_3 C dX10_trace_9 f_X10_277 ?_)))
    refine Ev.seti hrn ?_
    refine E_icmp_ge C 21 dX10_trace_12 (by decide) (fun c12 => ?_) (fun c12 => ?_)
    ·
      have ha : aTrace S i = -1 := (if_neg c1).trans (if_pos c12)
      refine E_iconst (v := -1) C dX10_trace_21 ic_m1 (E_goto C 34 dX10_trace_22 (by decide) (E_iretI C hr hlk dX10_trace_34 ?_))
      exact ⟨ha.symm, ⟨W, g, h, Dv, Sh, u, v, z, y, rfl, X.same⟩⟩
    ·
      refine E_iload_n C dX10_trace_15 1 rfl (E_bipush (v := 24) C dX10_trace_16 bp_24 (E_icmp_lt C 25 dX10_trace_18 (by decide) (fun c18 => ?_) (fun c18 => ?_)))
      ·
        have ha : aTrace S i = _ := (if_neg c1).trans ((if_neg c12).trans (if_pos c18))
        refine E_aload_n C dX10_trace_25 0 rfl (xg_10_7 C dX10_trace_26 f_X10_63 (xg_0_1 C dX10_trace_29 f_X10_286 (E_iload_n C dX10_trace_32 1 rfl (xa_34 C dX10_trace_33 (by rw [vp_in_iff]; simp only [Int32.lt_iff_toInt_lt, Int32.le_iff_toInt_le, tl_m100, tl_m14, tl_m13, tl_m12, tl_m11, tl_m5, tl_m3, tl_m2, tl_m1, tl_0, tl_1, tl_2, tl_3, tl_4, tl_5, tl_6, tl_7, tl_8, tl_9, tl_10, tl_11, tl_12, tl_13, tl_14, tl_15, tl_16, tl_17, tl_18, tl_19, tl_20, tl_21, tl_22, tl_23, tl_24, tl_25, tl_26, tl_27, tl_28, tl_29, tl_30, tl_31, tl_32, tl_33, tl_34, tl_35, tl_36, tl_37, tl_38, tl_39, tl_40, tl_41, tl_42, tl_43, tl_44, tl_45, tl_46, tl_47, tl_48, tl_49, tl_50, tl_51, tl_52, tl_53, tl_54, tl_55, tl_56, tl_57, tl_58, tl_59, tl_60, tl_61, tl_62, tl_63, tl_64, tl_70, tl_80, tl_81, tl_99, tl_100, tl_110, tl_120, tl_122, tl_124, tl_126, tl_128, tl_130, tl_144, tl_200, tl_255, tl_256, tl_260, tl_360, tl_12345] at *; omega) (E_iretI C hr hlk dX10_trace_34 ?_)))))
        refine ⟨Eq.trans ?_ ha.symm, ⟨W, g, h, Dv, Sh, u, v, z, y, rfl, X.same⟩⟩
        rw [hta]
      ·
        have ha : aTrace S i = -1 := (if_neg c1).trans ((if_neg c12).trans (if_neg c18))
        refine E_iconst (v := -1) C dX10_trace_21 ic_m1 (E_goto C 34 dX10_trace_22 (by decide) (E_iretI C hr hlk dX10_trace_34 ?_))
        exact ⟨ha.symm, ⟨W, g, h, Dv, Sh, u, v, z, y, rfl, X.same⟩⟩
set_option maxRecDepth 100000 in
set_option maxHeartbeats 4000000 in
theorem p_who {l : Launch} {D : va_G} {tc tt ad : Nat → Nat} {S : STT} {kk0 : Nat} {w0 : va_W} (hX : XR ad tc S kk0 w0) (hk600 : kk0 ≤ 600) (told : Int32) : Ct l yX10_who cX10_who 4 (some .int) 7 D tc tt [.ref (ad 0), .int told] w0 (PI fun r w => r = aWho S told ∧ XR ad tc S (kk0 + 1) w) := by
  obtain ⟨W, g, h, Dv, Sh, u, v, z, y, rfl, X⟩ := hX
  have hn := X.1.1
  have hn8 := X.1.2.1
  have hN := X.1.2.2.1
  have hB := X.1.2.2.2.1
  have hL := X.1.2.2.2.2.2
  refine Ct.of (by decide +kernel) (Nat.le_of_ble_eq_true rfl) ?_
  intro p e R s m args below meth c A C hr hlk
  refine E_aload_n C dX10_who_0 0 rfl (xg_10_0 C dX10_who_1 f_X10_10 (E_iload_n C dX10_who_4 1 rfl (E_callVI C dX10_who_5 mv_X10_125 1 _ (s_knows hn hn8 told) rfl rfl rfl (by decide) (Nat.le_of_ble_eq_true rfl) ?_)))
  rintro _ _ ⟨rfl, rfl⟩
  refine E_if_ne C 13 dX10_who_8 (by decide) (fun c8 => ?_) (fun c8 => ?_)
  ·
    have hkn : knB S.1.1 told = true := Classical.byContradiction fun q => c8 (if_neg q)
    obtain ⟨t, hlt, hcl, rfl⟩ := knB_ex hn8 hkn
    have hp256 := p256 hn8
    have K : ∀ (n i : Nat) (v1 : Nat → Nat → Int32), i ≤ 5 → 5 < i + n → (∀ k, k ≠ 0 → k ≠ 1 → v1 k = v k) → Ev p l e R s m args below meth c 0 0 (EQ below (PI fun r w => r = aWho S (nI t) ∧ XR ad tc S (kk0 + 1) w) args s D A) D A 4 (hx ad tc W g h Dv Sh u v1 z y) 17 [(3, .int (nI (i + 1))), (2, .int (nI (whoF (aloudN S.1.2.1 S.1.2.2 t) i))), (0, .ref (ad 0)), (1, .int (nI t))] [] := by
      intro n
      induction n with
      | zero => intro i v1 h1 h2; exfalso; omega
      | succ n ih =>
        intro i v1 h1 h2 hv1
        refine E_iload_n C dX10_who_17 0 rfl (E_bipush (v := 6) C dX10_who_18 bp_6 (E_icmp_ge C 52 dX10_who_20 (by decide) (fun c20 => ?_) (fun c20 => ?_)))
        ·
          obtain rfl : i = 5 := by
            rcases Nat.lt_or_ge i 5 with q | q
            · exact absurd (show nI 6 ≤ nI (i + 1) from c20) (nI_ge (by omega) (by decide))
            · omega
          refine E_iload_n C dX10_who_52 1 rfl (E_iretI C hr hlk dX10_who_53 ?_)
          refine ⟨Eq.trans ?_ (if_pos hkn).symm, ⟨W, g, h, Dv, Sh, u, v1, z, y, rfl, X.thought rfl rfl rfl (hv1 4 (by decide) (by decide)) (hv1 5 (by decide) (by decide)) (hv1 6 (by decide) (by decide))⟩⟩
          rw [hcl]
        ·
          have hi : i < 5 := by
            rcases Nat.lt_or_ge i 5 with q | q
            · exact q
            · exact absurd (show nI 6 ≤ nI (i + 1) from nI_le (by omega) (by omega)) c20
          have hwl := whoF_le (aloudN S.1.2.1 S.1.2.2 t) i
          refine E_aload_n C dX10_who_23 2 rfl (xg_10_0 C dX10_who_24 f_X10_10 (E_iload_n C dX10_who_27 3 rfl (E_iload_n C dX10_who_28 0 rfl (E_callVI C dX10_who_29 mv_X10_187 1 _ (s_minutesAloud hN hL t (by omega) (i + 1) (by omega)) rfl rfl rfl (by decide) (Nat.le_of_ble_eq_true rfl) ?_))))
          rintro _ _ ⟨rfl, v2, rfl, hv2⟩
          refine E_aload_n C dX10_who_32 2 rfl (xg_10_0 C dX10_who_33 f_X10_10 (E_iload_n C dX10_who_36 3 rfl (E_iload_n C dX10_who_37 1 rfl (E_callVI C dX10_who_38 mv_X10_187 1 _ (s_minutesAloud hN hL t (by omega) (whoF (aloudN S.1.2.1 S.1.2.2 t) i) (by omega)) rfl rfl rfl (by decide) (Nat.le_of_ble_eq_true rfl) ?_))))
          rintro _ _ ⟨rfl, v3, rfl, hv3⟩
          refine E_icmp_ge C 46 dX10_who_41 (by decide) (fun c41 => ?_) (fun c41 => ?_)
          ·
            have hst : whoF (aloudN S.1.2.1 S.1.2.2 t) (i + 1) = whoF (aloudN S.1.2.1 S.1.2.2 t) i := if_neg (fun q => nI_ge q (aloud_lt hB hL.le _ _) c41)
            refine E_iinc C dX10_who_46 0 rfl (nI_1 (i + 1)) (by decide) (E_goto C 17 dX10_who_49 (by decide) ?_)
            refine Ev.sub [0, 1, 2, 3] rfl ?_
            have hgo := ih (i + 1) v3 (by omega) (by omega) (fun k a b => (hv3 k a b).trans ((hv2 k a b).trans (hv1 k a b)))
            rw [hst] at hgo
            exact hgo
          ·
            have hst : whoF (aloudN S.1.2.1 S.1.2.2 t) (i + 1) = i + 1 := if_pos (Nat.not_le.mp fun q => c41 (nI_le q (aloud_lt hB hL.le _ _)))
            refine E_iload_n C dX10_who_44 0 rfl (E_istore_n C dX10_who_45 (by decide) (E_iinc C dX10_who_46 1 rfl (nI_1 (i + 1)) (by decide) (E_goto C 17 dX10_who_49 (by decide) ?_)))
            refine Ev.sub [0, 1, 2, 3] rfl ?_
            have hgo := ih (i + 1) v3 (by omega) (by omega) (fun k a b => (hv3 k a b).trans ((hv2 k a b).trans (hv1 k a b)))
            rw [hst] at hgo
            exact hgo
    refine E_iconst (v := 0) C dX10_who_13 ic_0 (E_istore_n C dX10_who_14 (by decide) (E_iconst (v := 1) C dX10_who_15 ic_1 (E_istore_n C dX10_who_16 (by decide) ?_)))
    exact Ev.sub [0, 1, 2, 3] rfl (K 6 0 v (by omega) (by omega) (fun _ _ _ => rfl))
  ·
    have hkn : ¬ knB S.1.1 told = true := fun q => by rw [if_pos q] at c8; cases c8
    refine E_iconst (v := -1) C dX10_who_11 ic_m1 (E_iretI C hr hlk dX10_who_12 ?_)
    exact ⟨(if_neg hkn).symm, ⟨W, g, h, Dv, Sh, u, v, z, y, rfl, X.same⟩⟩
