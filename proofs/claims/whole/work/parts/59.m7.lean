/-! the reference: drives told, drawn, in deed -/
set_option maxRecDepth 100000 in
set_option maxHeartbeats 4000000 in
theorem q_drive {l : Launch} {D : va_G} {tc tt ad : Nat → Nat} {S : STT} {w0 : va_W} (hM : MR ad tc S w0) (told what : Int32) : Ct l yX11_drive cX11_drive 3 (some .int) 8 D tc tt [.ref (ad 0), .int told, .int what] (w0) (PI fun r w => r = aDrive S told what ∧ MR ad tc S w) := by
  obtain ⟨g, h, el, u, v, sf, rfl, M⟩ := hM
  have hA := M.1
  have hn := M.1.1
  have hn8 := M.1.2.1
  have hML := M.2.2.2.2.2.2.2
  have hB := hA.2.2.2.2.1
  refine Ct.of (by decide +kernel) (Nat.le_of_ble_eq_true rfl) ?_
  intro p e R s m args below meth c A C hr hlk
  refine E_aload_n C dX11_drive_0 0 rfl (E_iload_n C dX11_drive_1 1 rfl (E_callVI C dX11_drive_2 mv_X11_284 0 _ (m_isTold hn hn8 told) rfl rfl rfl (by decide) (Nat.le_of_ble_eq_true rfl) ?_))
  rintro _ _ ⟨rfl, rfl⟩
  refine E_if_eq C 17 dX11_drive_5 (by decide) (fun c5 => ?_) (fun c5 => ?_)
  ·
    have hkn := ite_0 c5
    refine E_iconst (v := -1) C dX11_drive_17 ic_m1 (E_iretI C hr hlk dX11_drive_18 ?_)
    exact ⟨(if_neg fun q => hkn q.1).symm, ⟨g, h, el, u, v, sf, rfl, M⟩⟩
  ·
    have hkn := ite_1 c5
    obtain ⟨t, hlt, hcl, rfl⟩ := knB_ex hn8 hkn
    have hp256 := p256 hn8
    refine E_iload_n C dX11_drive_8 2 rfl (E_iconst (v := 0) C dX11_drive_9 ic_0 (E_iconst (v := 4) C dX11_drive_10 ic_4 (E_callSI C dX11_drive_11 ms_X11_118 _ (m_in what 0 4) rfl rfl (by decide) (Nat.le_of_ble_eq_true rfl) ?_)))
    rintro _ _ ⟨rfl, rfl⟩
    refine E_if_ne C 19 dX11_drive_14 (by decide) (fun c14 => ?_) (fun c14 => ?_)
    ·
      have n1 := ite_1 c14
      refine E_aload_n C dX11_drive_19 0 rfl (E_iload_n C dX11_drive_20 1 rfl (E_callVV C dX11_drive_21 mv_X11_287 0 _ (m_goDrive hA hML hlt) rfl rfl rfl (by decide) (Nat.le_of_ble_eq_true rfl) ?_))
      rintro _ ⟨u2, v2, rfl, hq, ku, kv⟩
      refine E_iload_n C dX11_drive_24 2 rfl ?_
      have n2 := bet_eq.mp n1
      have ha : aDrive S (nI t) what = _ := if_pos ⟨hkn, n2⟩
      rw [hcl] at ha
      by_cases e25 : what = 0
      ·
        subst e25
        refine E_tableIn C 56 dX11_drive_25 (by decide) (by decide) rfl (by decide) (E_aload_n C dX11_drive_56 0 rfl (mg_11_33 C dX11_drive_57 f_X11_246 ?_))
        refine Ev.seti hq.2.2.2.1 ?_
        refine E_iretI C hr hlk dX11_drive_60 ?_
        exact ⟨(ha.trans (if_pos rfl)).symm, ⟨g, h, el, _, _, sf, rfl, M⟩⟩
      by_cases e25_2 : what = 1
      ·
        subst e25_2
        refine E_tableIn C 61 dX11_drive_25 (by decide) (by decide) rfl (by decide) (E_aload_n C dX11_drive_61 0 rfl (mg_11_34 C dX11_drive_62 f_X11_249 ?_))
        refine Ev.seti hq.2.2.2.2.1 ?_
        refine E_iretI C hr hlk dX11_drive_65 ?_
        exact ⟨(ha.trans ((if_neg (by decide)).trans (if_pos rfl))).symm, ⟨g, h, el, _, _, sf, rfl, M⟩⟩
      by_cases e25_3 : what = 2
      ·
        subst e25_3
        refine E_tableIn C 66 dX11_drive_25 (by decide) (by decide) rfl (by decide) (E_aload_n C dX11_drive_66 0 rfl (mg_11_35 C dX11_drive_67 f_X11_252 ?_))
        refine Ev.seti hq.2.2.2.2.2.1 ?_
        refine E_iretI C hr hlk dX11_drive_70 ?_
        exact ⟨(ha.trans ((if_neg (by decide)).trans ((if_neg (by decide)).trans (if_pos rfl)))).symm, ⟨g, h, el, _, _, sf, rfl, M⟩⟩
      by_cases e25_4 : what = 3
      ·
        subst e25_4
        refine E_tableIn C 71 dX11_drive_25 (by decide) (by decide) rfl (by decide) (E_aload_n C dX11_drive_71 0 rfl (mg_11_32 C dX11_drive_72 f_X11_243 ?_))
        refine Ev.seti hq.2.2.1 ?_
        refine E_iretI C hr hlk dX11_drive_75 ?_
        exact ⟨(ha.trans ((if_neg (by decide)).trans ((if_neg (by decide)).trans ((if_neg (by decide)).trans (if_pos rfl))))).symm, ⟨g, h, el, _, _, sf, rfl, M⟩⟩
      have oe25 := ntoi (n := 0) rfl e25
      have oe25_2 := ntoi (n := 1) rfl e25_2
      have oe25_3 := ntoi (n := 2) rfl e25_3
      have oe25_4 := ntoi (n := 3) rfl e25_4
      refine E_tableOut C 76 dX11_drive_25 (by omega) (by decide) (E_aload_n C dX11_drive_76 0 rfl (E_callVI C dX11_drive_77 mv_X11_290 0 _ (m_costNow hA hq (goStops_le hlt 7)) rfl rfl rfl (by decide) (Nat.le_of_ble_eq_true rfl) ?_))
      rintro _ _ ⟨rfl, rfl⟩
      refine E_iretI C hr hlk dX11_drive_80 ?_
      exact ⟨(ha.trans ((if_neg e25).trans ((if_neg e25_2).trans ((if_neg e25_3).trans (if_neg e25_4))))).symm, ⟨g, h, el, _, _, sf, rfl, M⟩⟩
    ·
      have n1 := ite_0 c14
      refine E_iconst (v := -1) C dX11_drive_17 ic_m1 (E_iretI C hr hlk dX11_drive_18 ?_)
      exact ⟨(if_neg fun q => n1 (bet_eq.mpr q.2)).symm, ⟨g, h, el, u, v, sf, rfl, M⟩⟩
set_option maxRecDepth 100000 in
set_option maxHeartbeats 4000000 in
theorem q_onWith {l : Launch} {D : va_G} {tc tt ad : Nat → Nat} {S : STT} {w0 : va_W} (hM : MR ad tc S w0) (told : Int32) : Ct l yX11_onWith cX11_onWith 2 (some .int) 8 D tc tt [.ref (ad 0), .int told] (w0) (PI fun r w => r = aOnWith S told ∧ MR ad tc S w) := by
  obtain ⟨g, h, el, u, v, sf, rfl, M⟩ := hM
  have hA := M.1
  have hn := M.1.1
  have hn8 := M.1.2.1
  have hML := M.2.2.2.2.2.2.2
  have hB := hA.2.2.2.2.1
  refine Ct.of (by decide +kernel) (Nat.le_of_ble_eq_true rfl) ?_
  intro p e R s m args below meth c A C hr hlk
  refine E_aload_n C dX11_onWith_0 0 rfl (E_iload_n C dX11_onWith_1 1 rfl (E_callVI C dX11_onWith_2 mv_X11_284 0 _ (m_isTold hn hn8 told) rfl rfl rfl (by decide) (Nat.le_of_ble_eq_true rfl) ?_))
  rintro _ _ ⟨rfl, rfl⟩
  refine E_if_ne C 10 dX11_onWith_5 (by decide) (fun c5 => ?_) (fun c5 => ?_)
  ·
    have hkn := ite_1 c5
    obtain ⟨t, hlt, hcl, rfl⟩ := knB_ex hn8 hkn
    have hp256 := p256 hn8
    refine E_aload_n C dX11_onWith_10 0 rfl (E_iload_n C dX11_onWith_11 1 rfl (E_callVV C dX11_onWith_12 mv_X11_287 0 _ (m_goDrive hA hML hlt) rfl rfl rfl (by decide) (Nat.le_of_ble_eq_true rfl) ?_))
    rintro _ ⟨u2, v2, rfl, hq, ku, kv⟩
    refine E_aload_n C dX11_onWith_15 0 rfl (mg_11_36 C dX11_onWith_16 f_X11_255 ?_)
    refine Ev.seti (hq.2.2.2.2.2.2 trivial).1 ?_
    refine E_iretI C hr hlk dX11_onWith_19 ?_
    refine ⟨?_, ⟨g, h, el, _, _, sf, rfl, M⟩⟩
    refine Eq.trans ?_ (if_pos hkn : aOnWith S (nI t) = _).symm
    rw [hcl]
  ·
    have hkn := ite_0 c5
    refine E_iconst (v := -1) C dX11_onWith_8 ic_m1 (E_iretI C hr hlk dX11_onWith_9 ?_)
    exact ⟨(if_neg hkn).symm, ⟨g, h, el, u, v, sf, rfl, M⟩⟩
set_option maxRecDepth 100000 in
set_option maxHeartbeats 4000000 in
theorem q_going {l : Launch} {D : va_G} {tc tt ad : Nat → Nat} {S : STT} {w0 : va_W} (hM : MR ad tc S w0) (told k what : Int32) : Ct l yX11_going cX11_going 4 (some .int) 8 D tc tt [.ref (ad 0), .int told, .int k, .int what] (w0) (PI fun r w => r = aGoing S told k what ∧ MR ad tc S w) := by
  obtain ⟨g, h, el, u, v, sf, rfl, M⟩ := hM
  have hA := M.1
  have hn := M.1.1
  have hn8 := M.1.2.1
  have hML := M.2.2.2.2.2.2.2
  have hB := hA.2.2.2.2.1
  refine Ct.of (by decide +kernel) (Nat.le_of_ble_eq_true rfl) ?_
  intro p e R s m args below meth c A C hr hlk
  refine E_aload_n C dX11_going_0 0 rfl (E_iload_n C dX11_going_1 1 rfl (E_callVI C dX11_going_2 mv_X11_284 0 _ (m_isTold hn hn8 told) rfl rfl rfl (by decide) (Nat.le_of_ble_eq_true rfl) ?_))
  rintro _ _ ⟨rfl, rfl⟩
  refine E_if_eq C 21 dX11_going_5 (by decide) (fun c5 => ?_) (fun c5 => ?_)
  ·
    have hkn := ite_0 c5
    refine E_iconst (v := -1) C dX11_going_21 ic_m1 (E_iretI C hr hlk dX11_going_22 ?_)
    exact ⟨(if_neg fun q => hkn q.1).symm, ⟨g, h, el, u, v, sf, rfl, M⟩⟩
  ·
    have hkn := ite_1 c5
    obtain ⟨t, hlt, hcl, rfl⟩ := knB_ex hn8 hkn
    have hp256 := p256 hn8
    refine E_iload_n C dX11_going_8 2 rfl (E_if_lt C 21 dX11_going_9 (by decide) (fun c9 => ?_) (fun c9 => ?_))
    ·
      refine E_iconst (v := -1) C dX11_going_21 ic_m1 (E_iretI C hr hlk dX11_going_22 ?_)
      exact ⟨(if_neg fun q => absurd c9 (Int32.not_lt.mpr q.2.1)).symm, ⟨g, h, el, u, v, sf, rfl, M⟩⟩
    ·
      refine E_iload_n C dX11_going_12 3 rfl (E_iconst (v := 0) C dX11_going_13 ic_0 (E_iconst (v := 2) C dX11_going_14 ic_2 (E_callSI C dX11_going_15 ms_X11_118 _ (m_in what 0 2) rfl rfl (by decide) (Nat.le_of_ble_eq_true rfl) ?_)))
      rintro _ _ ⟨rfl, rfl⟩
      refine E_if_ne C 23 dX11_going_18 (by decide) (fun c18 => ?_) (fun c18 => ?_)
      ·
        have n1 := ite_1 c18
        refine E_aload_n C dX11_going_23 0 rfl (E_iload_n C dX11_going_24 1 rfl (E_callVV C dX11_going_25 mv_X11_287 0 _ (m_goDrive hA hML hlt) rfl rfl rfl (by decide) (Nat.le_of_ble_eq_true rfl) ?_))
        rintro _ ⟨u2, v2, rfl, hq, ku, kv⟩
        have n2 := bet_eq.mp n1
        have hall : knB S.1.1 (nI t) = true ∧ 0 ≤ k ∧ 0 ≤ what ∧ what ≤ 2 := ⟨hkn, Int32.not_lt.mp c9, n2⟩
        have ha : aGoing S (nI t) k what = _ := if_pos hall
        rw [hcl] at ha
        have hgl := whole_inv hB (L := S.1.2.2) (show t < 256 by omega)
        have hgl8 : (whole S.1.2.1 S.1.2.2 t).2.2.2.1.length ≤ 8 := by rw [hgl.2.2]; exact pop_le _
        obtain ⟨kn, hkn2, rfl⟩ := nI_of c9
        unfold gAt at ha
        rw [nI_clamp hkn2] at ha
        refine E_iload_n C dX11_going_28 2 rfl (E_aload_n C dX11_going_29 0 rfl (mg_11_34 C dX11_going_30 f_X11_249 ?_))
        refine Ev.seti hq.2.2.2.2.1 ?_
        refine E_icmp_lt C 39 dX11_going_33 (by decide) (fun c33 => ?_) (fun c33 => ?_)
        ·
          have hkl : kn < (whole S.1.2.1 S.1.2.2 t).2.2.2.1.length := (nI_ltI hkn2 (by omega)).mp c33
          have hge : (whole S.1.2.1 S.1.2.2 t).2.2.2.1[kn]? = some ((whole S.1.2.1 S.1.2.2 t).2.2.2.1[kn]) := List.getElem?_eq_getElem hkl
          have hk9 := (hq.2.2.2.2.2.2 trivial).2 kn _ _ _ hge
          rw [hge] at ha
          refine E_iload_n C dX11_going_39 3 rfl (E_if_ne C 52 dX11_going_40 (by decide) (fun c40 => ?_) (fun c40 => ?_))
          ·
            refine E_iload_n C dX11_going_52 3 rfl (E_iconst (v := 1) C dX11_going_53 ic_1 (E_icmp_ne C 66 dX11_going_54 (by decide) (fun c54 => ?_) (fun c54 => ?_)))
            ·
              refine E_aload_n C dX11_going_66 0 rfl (mg_11_39 C dX11_going_67 f_X11_81 (E_iload_n C dX11_going_70 2 rfl (ma_22 C dX11_going_71 (vinN (by omega)) ?_)))
              rw [nI_clamp (show kn < 2 ^ 31 by omega)]
              refine Ev.seti hk9.2.2 ?_
              refine E_iretI C hr hlk dX11_going_72 ?_
              exact ⟨(ha.trans ((if_neg c40).trans (if_neg c54))).symm, ⟨g, h, el, _, _, sf, rfl, M⟩⟩
            ·
              refine E_aload_n C dX11_going_57 0 rfl (mg_11_38 C dX11_going_58 f_X11_78 (E_iload_n C dX11_going_61 2 rfl (ma_21 C dX11_going_62 (vinN (by omega)) ?_)))
              rw [nI_clamp (show kn < 2 ^ 31 by omega)]
              refine Ev.seti hk9.2.1 ?_
              refine E_goto C 72 dX11_going_63 (by decide) (E_iretI C hr hlk dX11_going_72 ?_)
              exact ⟨(ha.trans ((if_neg c40).trans (if_pos c54))).symm, ⟨g, h, el, _, _, sf, rfl, M⟩⟩
          ·
            refine E_aload_n C dX11_going_43 0 rfl (mg_11_37 C dX11_going_44 f_X11_75 (E_iload_n C dX11_going_47 2 rfl (ma_20 C dX11_going_48 (vinN (by omega)) ?_)))
            rw [nI_clamp (show kn < 2 ^ 31 by omega)]
            refine Ev.seti hk9.1 ?_
            refine E_goto C 72 dX11_going_49 (by decide) (E_iretI C hr hlk dX11_going_72 ?_)
            exact ⟨(ha.trans (if_pos c40)).symm, ⟨g, h, el, _, _, sf, rfl, M⟩⟩
        ·
          have hge : (whole S.1.2.1 S.1.2.2 t).2.2.2.1[kn]? = none := List.getElem?_eq_none (Nat.not_lt.mp fun q => c33 (nI_lt q (by omega)))
          rw [hge] at ha
          refine E_bipush (v := -2) C dX11_going_36 bp_m2 (E_iretI C hr hlk dX11_going_38 ?_)
          exact ⟨ha.symm, ⟨g, h, el, _, _, sf, rfl, M⟩⟩
      ·
        have n1 := ite_0 c18
        refine E_iconst (v := -1) C dX11_going_21 ic_m1 (E_iretI C hr hlk dX11_going_22 ?_)
        exact ⟨(if_neg fun q => n1 (bet_eq.mpr q.2.2)).symm, ⟨g, h, el, u, v, sf, rfl, M⟩⟩
set_option maxRecDepth 100000 in
set_option maxHeartbeats 4000000 in
theorem m_aloudBy {l : Launch} {D : va_G} {tc tt ad : Nat → Nat} {g : Nat → Int32} {h : Nat → Nat → Int32} {el : Nat → Int64} {u : Nat → Int32} {v : Nat → Nat → Int32} {sf : Nat → Int64} {n : Nat} {N : Nat → Nat → Nat} (hA : MA n N g h) {L : Nat → Nat → Nat → Nat → Nat → Nat} (hL : MLw g h L) {σ pp : Nat} (hσ : σ < 2 ^ n) (hpp : pp < 6) : Ct l yX11_aloudBy cX11_aloudBy 3 (some .int) 5 D tc tt [.ref (ad 0), .int (nI σ), .int (nI pp)] (hm ad tc g h el u v sf) (PI fun r w => r = nI (aloudN N L σ pp) ∧ ∃ v', w = hm ad tc g h el u v' sf ∧ ∀ q, q ≠ 27 → q ≠ 28 → v' q = v q) := by
  have hn := hA.1
  have hn8 := hA.2.1
  have hp := p256 hn8
  refine Ct.of (by decide +kernel) (Nat.le_of_ble_eq_true rfl) ?_
  intro p e R s m args below meth c A C hr hlk
  refine E_aload_n C dX11_aloudBy_0 0 rfl (E_bipush (v := 6) C dX11_aloudBy_1 bp_6 (E_callVI C dX11_aloudBy_3 mv_X11_274 0 _ (m_toHouse hA (s0 := 6) (by decide)) rfl rfl rfl (by decide) (Nat.le_of_ble_eq_true rfl) ?_))
  rintro _ _ ⟨rfl, rfl⟩
  refine E_iload_n C dX11_aloudBy_6 1 rfl (E_if_ne C 14 dX11_aloudBy_7 (by decide) (fun c7 => ?_) (fun c7 => ?_))
  ·
    have hne : ¬ σ = 0 := fun q => c7 (by rw [q]; rfl)
    refine E_aload_n C dX11_aloudBy_14 0 rfl (E_iload_n C dX11_aloudBy_15 1 rfl (E_callSI C dX11_aloudBy_16 ms_X11_318 _ (m_bitsOf σ (by omega)) rfl rfl (by decide) (Nat.le_of_ble_eq_true rfl) ?_))
    rintro _ _ ⟨rfl, rfl⟩
    refine E_iload_n C dX11_aloudBy_19 2 rfl (E_iconst (v := 0) C dX11_aloudBy_20 ic_0 (E_aload_n C dX11_aloudBy_21 0 rfl (E_iload_n C dX11_aloudBy_22 1 rfl (E_callVI C dX11_aloudBy_23 mv_X11_271 0 _ (m_worthOf hA hσ) rfl rfl rfl (by decide) (Nat.le_of_ble_eq_true rfl) ?_))))
    rintro _ _ ⟨rfl, rfl⟩
    refine E_iconst (v := 0) C dX11_aloudBy_26 ic_0 (E_callVI C dX11_aloudBy_27 mv_X11_258 0 _ (m_goingTakes hA hL (kk := 0) (ss := 0) hpp) rfl rfl rfl (by decide) (Nat.le_of_ble_eq_true rfl) ?_)
    rintro _ _ ⟨rfl, v2, rfl, hv2⟩
    refine E_iadd C dX11_aloudBy_30 ?_
    refine Ev.seti (nI_add _ _) ?_
    refine E_iretI C hr hlk dX11_aloudBy_31 ?_
    exact ⟨congrArg nI (if_neg hne).symm, _, rfl, hv2⟩
  ·
    have hz : σ = 0 := (nI_eq (b := 0) (by omega) (by decide)).mp c7
    refine E_iconst (v := 0) C dX11_aloudBy_10 ic_0 (E_goto C 30 dX11_aloudBy_11 (by decide) (E_iadd C dX11_aloudBy_30 ?_))
    refine Ev.seti (show nI (tsum N 6) + 0 = nI (tsum N 6) from nI_add _ 0) ?_
    refine E_iretI C hr hlk dX11_aloudBy_31 ?_
    exact ⟨congrArg nI (if_pos hz).symm, _, rfl, fun _ _ _ => rfl⟩
set_option maxRecDepth 100000 in
set_option maxHeartbeats 4000000 in
theorem q_aloud {l : Launch} {D : va_G} {tc tt ad : Nat → Nat} {S : STT} {w0 : va_W} (hM : MR ad tc S w0) (told person : Int32) : Ct l yX11_aloud cX11_aloud 3 (some .int) 8 D tc tt [.ref (ad 0), .int told, .int person] (w0) (PI fun r w => r = aAloud S told person ∧ MR ad tc S w) := by
  obtain ⟨g, h, el, u, v, sf, rfl, M⟩ := hM
  have hA := M.1
  have hn := M.1.1
  have hn8 := M.1.2.1
  have hML := M.2.2.2.2.2.2.2
  have hB := hA.2.2.2.2.1
  refine Ct.of (by decide +kernel) (Nat.le_of_ble_eq_true rfl) ?_
  intro p e R s m args below meth c A C hr hlk
  refine E_aload_n C dX11_aloud_0 0 rfl (E_iload_n C dX11_aloud_1 1 rfl (E_callVI C dX11_aloud_2 mv_X11_284 0 _ (m_isTold hn hn8 told) rfl rfl rfl (by decide) (Nat.le_of_ble_eq_true rfl) ?_))
  rintro _ _ ⟨rfl, rfl⟩
  refine E_if_eq C 26 dX11_aloud_5 (by decide) (fun c5 => ?_) (fun c5 => ?_)
  ·
    have hkn := ite_0 c5
    refine E_iconst (v := -1) C dX11_aloud_26 ic_m1 (E_iretI C hr hlk dX11_aloud_27 ?_)
    exact ⟨(if_neg fun q => hkn q.1).symm, ⟨g, h, el, u, v, sf, rfl, M⟩⟩
  ·
    have hkn := ite_1 c5
    obtain ⟨t, hlt, hcl, rfl⟩ := knB_ex hn8 hkn
    have hp256 := p256 hn8
    refine E_iload_n C dX11_aloud_8 2 rfl (E_iconst (v := 0) C dX11_aloud_9 ic_0 (E_iconst (v := 5) C dX11_aloud_10 ic_5 (E_callSI C dX11_aloud_11 ms_X11_118 _ (m_in person 0 5) rfl rfl (by decide) (Nat.le_of_ble_eq_true rfl) ?_)))
    rintro _ _ ⟨rfl, rfl⟩
    refine E_if_eq C 26 dX11_aloud_14 (by decide) (fun c14 => ?_) (fun c14 => ?_)
    ·
      have n1 := ite_0 c14
      refine E_iconst (v := -1) C dX11_aloud_26 ic_m1 (E_iretI C hr hlk dX11_aloud_27 ?_)
      exact ⟨(if_neg fun q => n1 (bet_eq.mpr ⟨q.2.1, by
        have q2 := q.2.2
        rw [Int32.lt_iff_toInt_lt] at q2
        rw [Int32.le_iff_toInt_le]
        have z5 : (5 : Int32).toInt = 5 := rfl
        have z6 : (6 : Int32).toInt = 6 := rfl
        omega⟩)).symm, ⟨g, h, el, u, v, sf, rfl, M⟩⟩
    ·
      have n1 := bet_eq.mp (ite_1 c14)
      obtain ⟨pp, hpp, hpc, rfl⟩ := n_of (k := 5) (m := 5) rfl (Int32.not_lt.mpr n1.1) n1.2
      have ha : aAloud S (nI t) (nI pp) = _ := if_pos ⟨hkn, n1.1, Int32.lt_of_le_of_lt n1.2 (by decide)⟩
      rw [hcl, hpc] at ha
      refine E_aload_n C dX11_aloud_17 0 rfl (E_iload_n C dX11_aloud_18 1 rfl (E_iload_n C dX11_aloud_19 2 rfl (E_callVI C dX11_aloud_20 mv_X11_321 0 _ (m_aloudBy hA hML hlt (by omega)) rfl rfl rfl (by decide) (Nat.le_of_ble_eq_true rfl) ?_)))
      rintro _ _ ⟨rfl, v2, rfl, hv2⟩
      refine E_goto C 27 dX11_aloud_23 (by decide) (E_iretI C hr hlk dX11_aloud_27 ?_)
      exact ⟨ha.symm, ⟨g, h, el, _, _, sf, rfl, M⟩⟩
theorem MLw.le {g : Nat → Int32} {h : Nat → Nat → Int32} {L : Nat → Nat → Nat → Nat → Nat → Nat} (m : MLw g h L) : ∀ n p k w s, L n p k w s ≤ 60 := by
  intro n p k w s
  rcases m with ⟨-, rfl⟩ | ⟨-, ls, -, -, -, -, -, rfl⟩
  · exact (held_nat _).2.2
  · exact (held_nat _).2.2
set_option maxRecDepth 100000 in
set_option maxHeartbeats 4000000 in
theorem q_who {l : Launch} {D : va_G} {tc tt ad : Nat → Nat} {S : STT} {w0 : va_W} (hM : MR ad tc S w0) (told : Int32) : Ct l yX11_who cX11_who 4 (some .int) 8 D tc tt [.ref (ad 0), .int told] (w0) (PI fun r w => r = aWho S told ∧ MR ad tc S w) := by
  obtain ⟨g, h, el, u, v, sf, rfl, M⟩ := hM
  have hA := M.1
  have hn := M.1.1
  have hn8 := M.1.2.1
  have hML := M.2.2.2.2.2.2.2
  have hB := hA.2.2.2.2.1
  refine Ct.of (by decide +kernel) (Nat.le_of_ble_eq_true rfl) ?_
  intro p e R s m args below meth c A C hr hlk
  refine E_aload_n C dX11_who_0 0 rfl (E_iload_n C dX11_who_1 1 rfl (E_callVI C dX11_who_2 mv_X11_284 0 _ (m_isTold hn hn8 told) rfl rfl rfl (by decide) (Nat.le_of_ble_eq_true rfl) ?_))
  rintro _ _ ⟨rfl, rfl⟩
  refine E_if_ne C 10 dX11_who_5 (by decide) (fun c5 => ?_) (fun c5 => ?_)
  ·
    have hkn := ite_1 c5
    obtain ⟨t, hlt, hcl, rfl⟩ := knB_ex hn8 hkn
    have hp256 := p256 hn8
    refine E_iconst (v := 0) C dX11_who_10 ic_0 (E_istore_n C dX11_who_11 (by decide) (E_iconst (v := 1) C dX11_who_12 ic_1 (E_istore_n C dX11_who_13 (by decide) ?_)))
    have hLe : ∀ n p k w s, S.1.2.2 n p k w s ≤ 60 := MLw.le hML
    have K : ∀ (mm i : Nat) (v1 : Nat → Nat → Int32), i ≤ 5 → 5 < i + mm → Ev p l e R s m args below meth c 0 0 (EQ below (PI fun r w => r = aWho S (nI t) ∧ MR ad tc S w) args s D A) D A 4 (hm ad tc g h el u v1 sf) 14 [(3, .int (nI (i + 1))), (2, .int (nI (whoF (aloudN S.1.2.1 S.1.2.2 t) i))), (0, .ref (ad 0)), (1, .int (nI t))] [] := by
      intro mm
      induction mm with
      | zero => intro i v1 h1 h2; exfalso; omega
      | succ mm ih =>
        intro i v1 h1 h2
        refine E_iload_n C dX11_who_14 0 rfl (E_bipush (v := 6) C dX11_who_15 bp_6 (E_icmp_ge C 43 dX11_who_17 (by decide) (fun c17 => ?_) (fun c17 => ?_)))
        ·
          have hi : i = 5 := by
            rcases Nat.lt_or_ge i 5 with q | q
            · exact absurd (show nI 6 ≤ nI (i + 1) from c17) (nI_ge (by omega) (by decide))
            · omega
          subst hi
          refine E_iload_n C dX11_who_43 1 rfl (E_iretI C hr hlk dX11_who_44 ?_)
          refine ⟨?_, ⟨g, h, el, _, _, sf, rfl, M⟩⟩
          refine Eq.trans ?_ (if_pos hkn : aWho S (nI t) = _).symm
          rw [hcl]
        ·
          have hi : i < 5 := by
            rcases Nat.lt_or_ge i 5 with q | q
            · exact q
            · exact absurd (show nI 6 ≤ nI (i + 1) from nI_le (by omega) (by omega)) c17
          have hwl := whoF_le (aloudN S.1.2.1 S.1.2.2 t) i
          refine E_aload_n C dX11_who_20 2 rfl (E_iload_n C dX11_who_21 3 rfl (E_iload_n C dX11_who_22 0 rfl (E_callVI C dX11_who_23 mv_X11_321 0 _ (m_aloudBy hA hML hlt (pp := i + 1) (by omega)) rfl rfl rfl (by decide) (Nat.le_of_ble_eq_true rfl) ?_)))
          rintro _ _ ⟨rfl, v2, rfl, hv2⟩
          refine E_aload_n C dX11_who_26 2 rfl (E_iload_n C dX11_who_27 3 rfl (E_iload_n C dX11_who_28 1 rfl (E_callVI C dX11_who_29 mv_X11_321 0 _ (m_aloudBy hA hML hlt (pp := (whoF (aloudN S.1.2.1 S.1.2.2 t) i)) (by omega)) rfl rfl rfl (by decide) (Nat.le_of_ble_eq_true rfl) ?_)))
          rintro _ _ ⟨rfl, v3, rfl, hv3⟩
          refine E_icmp_ge C 37 dX11_who_32 (by decide) (fun c32 => ?_) (fun c32 => ?_)
          ·
            have hs : (whoF (aloudN S.1.2.1 S.1.2.2 t) (i + 1)) = (whoF (aloudN S.1.2.1 S.1.2.2 t) i) := by
              show (if (aloudN S.1.2.1 S.1.2.2 t (i + 1)) < (aloudN S.1.2.1 S.1.2.2 t (whoF (aloudN S.1.2.1 S.1.2.2 t) i)) then i + 1 else (whoF (aloudN S.1.2.1 S.1.2.2 t) i)) = _
              exact if_neg (fun q => nI_ge q (aloud_lt hB hLe _ _) c32)
            rw [← hs]
            refine E_iinc C dX11_who_37 0 rfl (nI_1 (i + 1)) (by decide) (E_goto C 14 dX11_who_40 (by decide) ?_)
            exact ih (i + 1) _ (by omega) (by omega)
          ·
            have hs : (whoF (aloudN S.1.2.1 S.1.2.2 t) (i + 1)) = i + 1 := by
              show (if (aloudN S.1.2.1 S.1.2.2 t (i + 1)) < (aloudN S.1.2.1 S.1.2.2 t (whoF (aloudN S.1.2.1 S.1.2.2 t) i)) then i + 1 else (whoF (aloudN S.1.2.1 S.1.2.2 t) i)) = _
              refine if_pos (Classical.byContradiction fun q => c32 (nI_le (Nat.not_lt.mp q) (aloud_lt hB hLe _ _)))
            refine E_iload_n C dX11_who_35 0 rfl ?_
            refine Ev.seti (congrArg nI hs).symm ?_
            refine E_istore_n C dX11_who_36 (by decide) (E_iinc C dX11_who_37 1 rfl (nI_1 (i + 1)) (by decide) (E_goto C 14 dX11_who_40 (by decide) ?_))
            exact ih (i + 1) _ (by omega) (by omega)
    exact Ev.sub [0, 1, 2, 3] rfl (K 6 0 v (by decide) (by decide))
  ·
    have hkn := ite_0 c5
    refine E_iconst (v := -1) C dX11_who_8 ic_m1 (E_iretI C hr hlk dX11_who_9 ?_)
    exact ⟨(if_neg hkn).symm, ⟨g, h, el, u, v, sf, rfl, M⟩⟩
set_option maxRecDepth 100000 in
set_option maxHeartbeats 4000000 in
theorem m_drawSet {l : Launch} {D : va_G} {tc tt ad : Nat → Nat} {g : Nat → Int32} {h : Nat → Nat → Int32} {el : Nat → Int64} {u : Nat → Int32} {v : Nat → Nat → Int32} {sf : Nat → Int64} {n : Nat} {N : Nat → Nat → Nat} (hA : MA n N g h) {z0 : Int32} (hz : u 41 = z0) : Ct l yX11_drawSet cX11_drawSet 3 (some .int) 1 D tc tt [.ref (ad 0)] (hm ad tc g h el u v sf) (PI fun r w => r = nI (drw N z0 n) ∧ ∃ u', w = hm ad tc g h el u' v sf ∧ u' 41 = drwZ z0 n ∧ ∀ k, k ≠ 41 → u' k = u k) := by
  refine Ct.of (by decide +kernel) (Nat.le_of_ble_eq_true rfl) ?_
  intro p e R s m args below meth c A C hr hlk
  have hn := hA.1
  have hn8 := hA.2.1
  have hp := p256 hn8
  have K : ∀ (mm i : Nat) (u1 : Nat → Int32), i ≤ n → n < i + mm → u1 41 = drwZ z0 i → (∀ k, k ≠ 41 → u1 k = u k) → Ev p l e R s m args below meth c 0 0 (EQ below (PI fun r w => r = nI (drw N z0 n) ∧ ∃ u', w = hm ad tc g h el u' v sf ∧ u' 41 = drwZ z0 n ∧ ∀ k, k ≠ 41 → u' k = u k) args s D A) D A 3 (hm ad tc g h el u1 v sf) 4 [(2, .int (nI i)), (1, .int (nI (drw N z0 i))), (0, .ref (ad 0))] [] := by
    intro mm
    induction mm with
    | zero =>
      intro i u1 hi1 hi2 hu1 hu2
      exfalso; omega
    | succ mm ih =>
      intro i u1 hi1 hi2 hu1 hu2
      refine E_iload_n C dX11_drawSet_4 0 rfl (E_aload_n C dX11_drawSet_5 2 rfl (mg_11_1 C dX11_drawSet_6 f_X11_115 ?_))
      refine Ev.seti hn ?_
      refine E_icmp_ge C 59 dX11_drawSet_9 (by decide) (fun c9 => ?_) (fun c9 => ?_)
      ·
        have hi : i = n := by
          rcases Nat.lt_or_ge i n with q | q
          · exact absurd (show nI n ≤ nI i from c9) (nI_ge q (by omega))
          · omega
        subst hi
        refine E_iload_n C dX11_drawSet_59 1 rfl (E_iretI C hr hlk dX11_drawSet_60 ?_)
        exact ⟨rfl, _, rfl, hu1, hu2⟩
      ·
        have hi : i < n := by
          rcases Nat.lt_or_ge i n with q | q
          · exact q
          · exact absurd (show nI n ≤ nI i from nI_le q (by omega)) c9
        refine E_aload_n C dX11_drawSet_12 2 rfl (E_aload_n C dX11_drawSet_13 2 rfl (mg_11_41 C dX11_drawSet_14 f_X11_335 ?_))
        refine Ev.seti hu1 ?_
        refine E_ldcw C k_X11_338 dX11_drawSet_17 (E_imul C dX11_drawSet_20 (E_sipush (v := 12345) C dX11_drawSet_21 sp_12345 (E_iadd C dX11_drawSet_24 (mp_11_41 C dX11_drawSet_25 fw_X11_335 (E_aload_n C dX11_drawSet_28 2 rfl ?_)))))
        refine mg_11_41 C dX11_drawSet_29 f_X11_335 ?_
        refine Ev.seti (show _ = drwZ z0 (i + 1) from rfl) ?_
        refine E_bipush (v := 8) C dX11_drawSet_32 bp_8 (E_iushr C dX11_drawSet_34 (E_bipush (v := 12) C dX11_drawSet_35 bp_12 (E_irem C dX11_drawSet_37 (by decide) (E_aload_n C dX11_drawSet_38 2 rfl (mg_11_3 C dX11_drawSet_39 f_X11_15 ?_)))))
        refine E_iload_n C dX11_drawSet_42 0 rfl (ma_2 C dX11_drawSet_43 (vinN (by omega)) ?_)
        rw [nI_clamp (show i < 2 ^ 31 by omega)]
        refine Ev.seti (show h 3 i = nI (N 1 i) from hA.2.2.1 1 i (by decide) hi) ?_
        refine E_icmp_ge C 53 dX11_drawSet_44 (by decide) (fun c44 => ?_) (fun c44 => ?_)
        ·
          have hs : drw N z0 (i + 1) = drw N z0 i := by
            show drw N z0 i ||| (if drwR (drwZ z0 (i + 1)) < nI (N 1 i) then 2 ^ i else 0) = _
            rw [if_neg (show ¬ drwR (drwZ z0 (i + 1)) < nI (N 1 i) from Int32.not_lt.mpr c44), Nat.or_zero]
          rw [← hs]
          refine E_iinc C dX11_drawSet_53 0 rfl (nI_1 i) (by decide) (E_goto C 4 dX11_drawSet_56 (by decide) ?_)
          exact ih (i + 1) _ (by omega) (by omega) rfl (fun k q => (vun q).trans (hu2 k q))
        ·
          have hs : drw N z0 (i + 1) = drw N z0 i ||| 2 ^ i := by
            show drw N z0 i ||| (if drwR (drwZ z0 (i + 1)) < nI (N 1 i) then 2 ^ i else 0) = _
            rw [if_pos (show drwR (drwZ z0 (i + 1)) < nI (N 1 i) from Int32.not_le.mp c44)]
          refine E_iload_n C dX11_drawSet_47 1 rfl (E_iconst (v := 1) C dX11_drawSet_48 ic_1 (E_iload_n C dX11_drawSet_49 0 rfl (E_ishl C dX11_drawSet_50 ?_)))
          refine Ev.seti (nx_one i (by omega)) ?_
          refine E_ior C dX11_drawSet_51 ?_
          refine Ev.seti ((nx_or _ _).trans (congrArg nI hs.symm)) ?_
          refine E_istore_n C dX11_drawSet_52 (by decide) (E_iinc C dX11_drawSet_53 1 rfl (nI_1 i) (by decide) (E_goto C 4 dX11_drawSet_56 (by decide) ?_))
          exact ih (i + 1) _ (by omega) (by omega) rfl (fun k q => (vun q).trans (hu2 k q))
  refine E_iconst (v := 0) C dX11_drawSet_0 ic_0 (E_istore_n C dX11_drawSet_1 (by decide) (E_iconst (v := 0) C dX11_drawSet_2 ic_0 (E_istore_n C dX11_drawSet_3 (by decide) ?_)))
  exact K (n + 1) 0 u (by omega) (by omega) hz (fun _ _ => rfl)
set_option maxRecDepth 100000 in
set_option maxHeartbeats 4000000 in
theorem q_drawn {l : Launch} {D : va_G} {tc tt ad : Nat → Nat} {S : STT} {w0 : va_W} (hM : MR ad tc S w0) (seed n0 what : Int32) : Ct l yX11_drawn cX11_drawn 7 (some .int) 9 D tc tt [.ref (ad 0), .int seed, .int n0, .int what] (w0) (PI fun r w => r = aDrawn S seed n0 what ∧ MR ad tc S w) := by
  obtain ⟨g, h, el, u, v, sf, rfl, M⟩ := hM
  have hA := M.1
  have hn := M.1.1
  have hn8 := M.1.2.1
  have hML := M.2.2.2.2.2.2.2
  have hB := hA.2.2.2.2.1
  have hp256 := p256 hn8
  refine Ct.of (by decide +kernel) (Nat.le_of_ble_eq_true rfl) ?_
  intro p e R s m args below meth c A C hr hlk
  refine E_iload_n C dX11_drawn_0 2 rfl (E_iconst (v := 1) C dX11_drawn_1 ic_1 (E_bipush (v := 30) C dX11_drawn_2 bp_30 (E_callSI C dX11_drawn_4 ms_X11_118 _ (m_in n0 1 30) rfl rfl (by decide) (Nat.le_of_ble_eq_true rfl) ?_)))
  rintro _ _ ⟨rfl, rfl⟩
  refine E_if_eq C 19 dX11_drawn_7 (by decide) (fun c7 => ?_) (fun c7 => ?_)
  ·
    have n1 := ite_0 c7
    refine E_iconst (v := -1) C dX11_drawn_19 ic_m1 (E_iretI C hr hlk dX11_drawn_20 ?_)
    exact ⟨(if_neg fun q => n1 (bet_eq.mpr ⟨q.1, q.2.1⟩)).symm, ⟨g, h, el, u, v, sf, rfl, M⟩⟩
  ·
    have n1 := ite_1 c7
    refine E_iload_n C dX11_drawn_10 3 rfl (E_iconst (v := 0) C dX11_drawn_11 ic_0 (E_iconst (v := 1) C dX11_drawn_12 ic_1 (E_callSI C dX11_drawn_13 ms_X11_118 _ (m_in what 0 1) rfl rfl (by decide) (Nat.le_of_ble_eq_true rfl) ?_)))
    rintro _ _ ⟨rfl, rfl⟩
    refine E_if_ne C 21 dX11_drawn_16 (by decide) (fun c16 => ?_) (fun c16 => ?_)
    ·
      have n2 := ite_1 c16
      have n3 := bet_eq.mp n1
      have n4 := bet_eq.mp n2
      obtain ⟨nn, hnn, hnc, rfl⟩ := n_of (k := 30) (m := 30) (x := n0) rfl (fun q => absurd (Int32.lt_of_le_of_lt n3.1 q) (by decide)) n3.2
      have ha : aDrawn S seed (nI nn) what = _ := if_pos ⟨n3.1, n3.2, n4⟩
      rw [hnc] at ha
      refine E_aload_n C dX11_drawn_21 0 rfl (E_iload_n C dX11_drawn_22 1 rfl (mp_11_41 C dX11_drawn_23 fw_X11_335 (E_iconst (v := 0) C dX11_drawn_26 ic_0 (E_istore C dX11_drawn_27 (by decide) (E_iconst (v := 0) C dX11_drawn_29 ic_0 ?_)))))
      refine E_istore C dX11_drawn_30 (by decide) (E_iconst (v := 0) C dX11_drawn_32 ic_0 (E_istore C dX11_drawn_33 (by decide) ?_))
      have K : ∀ (mm i : Nat) (u1 : Nat → Int32) (v1 : Nat → Nat → Int32), i ≤ nn → nn < i + mm → u1 41 = (dwS S seed i).1 → Ev p l e R s m args below meth c 0 0 (EQ below (PI fun r w => r = aDrawn S seed (nI nn) what ∧ MR ad tc S w) args s D A) D A 7 (hm ad tc g h el u1 v1 sf) 35 [(6, .int (nI i)), (5, .int (dwS S seed i).2.2), (4, .int (dwS S seed i).2.1), (0, .ref (ad 0)), (1, .int seed), (2, .int (nI nn)), (3, .int what)] [] := by
        intro mm
        induction mm with
        | zero => intro i u1 v1 h1 h2; exfalso; omega
        | succ mm ih =>
          intro i u1 v1 h1 h2 hu1
          refine E_iload C dX11_drawn_35 0 rfl (E_iload_n C dX11_drawn_37 5 rfl (E_icmp_ge C 74 dX11_drawn_38 (by decide) (fun c38 => ?_) (fun c38 => ?_)))
          ·
            have hi : i = nn := by
              rcases Nat.lt_or_ge i nn with q | q
              · exact absurd (show nI nn ≤ nI i from c38) (nI_ge q (by omega))
              · omega
            subst hi
            refine E_iload_n C dX11_drawn_74 6 rfl (E_if_ne C 83 dX11_drawn_75 (by decide) (fun c75 => ?_) (fun c75 => ?_))
            ·
              have ha2 := ha.trans (if_neg c75)
              refine E_iload C dX11_drawn_83 1 rfl (E_iretI C hr hlk dX11_drawn_85 ?_)
              exact ⟨ha2.symm, ⟨g, h, el, _, _, sf, rfl, M⟩⟩
            ·
              have ha2 := ha.trans (if_pos c75)
              refine E_iload C dX11_drawn_78 2 rfl (E_goto C 85 dX11_drawn_80 (by decide) (E_iretI C hr hlk dX11_drawn_85 ?_))
              exact ⟨ha2.symm, ⟨g, h, el, _, _, sf, rfl, M⟩⟩
          ·
            have hi : i < nn := by
              rcases Nat.lt_or_ge i nn with q | q
              · exact q
              · exact absurd (show nI nn ≤ nI i from nI_le q (by omega)) c38
            refine E_aload_n C dX11_drawn_41 3 rfl (E_aload_n C dX11_drawn_42 3 rfl (E_callVI C dX11_drawn_43 mv_X11_339 0 _ (m_drawSet hA hu1) rfl rfl rfl (by decide) (Nat.le_of_ble_eq_true rfl) ?_))
            rintro _ _ ⟨rfl, u2, rfl, hz2, hu2⟩
            have hdn : (drw S.1.2.1 (dwS S seed i).1 S.1.1) < 2 ^ S.1.1 := drw_lt _ hn8
            refine E_callVV C dX11_drawn_46 mv_X11_287 0 _ (m_goDrive hA hML hdn) rfl rfl rfl (by decide) (Nat.le_of_ble_eq_true rfl) ?_
            rintro _ ⟨u3, v3, rfl, hq, ku, kv⟩
            have hwi := whole_inv hB (L := S.1.2.2) (fo := (drw S.1.2.1 (dwS S seed i).1 S.1.1)) (by omega)
            have hgl8 : (whole S.1.2.1 S.1.2.2 (drw S.1.2.1 (dwS S seed i).1 S.1.1)).2.2.2.1.length ≤ 8 := by rw [hwi.2.2]; exact pop_le _
            refine E_iload C dX11_drawn_49 2 rfl (E_aload_n C dX11_drawn_51 3 rfl (E_callVI C dX11_drawn_52 mv_X11_290 0 _ (m_costNow hA hq (goStops_le hdn 7)) rfl rfl rfl (by decide) (Nat.le_of_ble_eq_true rfl) ?_))
            rintro _ _ ⟨rfl, rfl⟩
            refine E_iadd C dX11_drawn_55 (E_istore C dX11_drawn_56 (by decide) (E_aload_n C dX11_drawn_58 3 rfl (mg_11_34 C dX11_drawn_59 f_X11_249 ?_)))
            refine Ev.seti hq.2.2.2.2.1 ?_
            refine E_if_ne C 68 dX11_drawn_62 (by decide) (fun c62 => ?_) (fun c62 => ?_)
            ·
              have hgo : (if (whole S.1.2.1 S.1.2.2 (drw S.1.2.1 (dwS S seed i).1 S.1.1)).2.2.2.1.length = 0 then (1 : Int32) else 0) = 0 := if_neg (fun q => c62 (by rw [q]; rfl))
              have hs : (dwS S seed (i + 1)).2.2 = (dwS S seed i).2.2 := by
                show (dwS S seed i).2.2 + _ = _
                rw [hgo]
                exact Int32.add_zero _
              rw [← hs]
              refine E_iinc C dX11_drawn_68 1 rfl (nI_1 i) (by decide) (E_goto C 35 dX11_drawn_71 (by decide) ?_)
              exact Ev.sub [0, 2, 1, 3, 4, 5, 6] rfl (ih (i + 1) _ _ (by omega) (by omega) ((ku 41 (by omega)).trans hz2))
            ·
              have hgo : (if (whole S.1.2.1 S.1.2.2 (drw S.1.2.1 (dwS S seed i).1 S.1.1)).2.2.2.1.length = 0 then (1 : Int32) else 0) = 1 := if_pos ((nI_eq (b := 0) (by omega) (by decide)).mp c62)
              have hs : (dwS S seed (i + 1)).2.2 = (dwS S seed i).2.2 + 1 := by
                show (dwS S seed i).2.2 + _ = _
                rw [hgo]
              refine E_iinc C dX11_drawn_65 2 rfl hs.symm (by decide) (E_iinc C dX11_drawn_68 2 rfl (nI_1 i) (by decide) (E_goto C 35 dX11_drawn_71 (by decide) ?_))
              exact ih (i + 1) _ _ (by omega) (by omega) ((ku 41 (by omega)).trans hz2)
      exact Ev.sub [0, 1, 2, 3, 4, 5, 6] rfl (K (nn + 1) 0 _ v (by omega) (by omega) rfl)
    ·
      have n2 := ite_0 c16
      refine E_iconst (v := -1) C dX11_drawn_19 ic_m1 (E_iretI C hr hlk dX11_drawn_20 ?_)
      exact ⟨(if_neg fun q => n2 (bet_eq.mpr q.2.2)).symm, ⟨g, h, el, u, v, sf, rfl, M⟩⟩
