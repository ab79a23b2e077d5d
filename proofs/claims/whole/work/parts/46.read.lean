/-! the class's Reader -/
set_option maxRecDepth 100000 in
set_option maxHeartbeats 4000000 in
theorem s_letter {l : Launch} {D : va_G} {tc tt ad : Nat → Nat} {W : Nat → Nat → Int32} {g : Nat → Int32} {h : Nat → Nat → Int32} {Dv : DV} {Sh : SV} {z : Int64} {y : Nat → Int64} {t : List Nat} (hT : XT t g h) {u0 : Nat → Int32} {v0 : Nat → Nat → Int32} {s0 : PS} {u : Nat → Int32} {v : Nat → Nat → Int32} (h0 : RR t u0 v0 s0 u v) : Ct l yX6_letter cX6_letter 1 (some .int) 1 D tc tt [.ref (ad 21)] (hx ad tc W g h Dv Sh u v z y) (PI fun r w => r = lI (ltr t s0) ∧ w = hx ad tc W g h Dv Sh u v z y) := by
  have htl := hT.2.1
  have htx : ∀ (j x : Nat), t[j]? = some x → x < 256 := fun j x q => (hT.2.2 j x q).2
  have hat := h0.2.1
  by_cases hf : s0.2.1 = none
  ·
    refine Ct.of (by decide +kernel) (Nat.le_of_ble_eq_true rfl) ?_
    intro p e R s m args below meth c A C hr hlk
    refine E_aload_n C dX6_letter_0 0 rfl (xg_6_6 C dX6_letter_1 f_X6_30 ?_)
    refine Ev.seti (show u 2 = -1 by rw [h0.2.2.1, hf]; rfl) ?_
    refine E_if_ge C 46 dX6_letter_4 (by decide) (fun c4 => ?_) (fun c4 => ?_)
    ·
      exact absurd c4 (by decide)
    ·
      refine E_aload_n C dX6_letter_7 0 rfl (xg_6_5 C dX6_letter_8 f_X6_27 ?_)
      refine Ev.seti h0.1 ?_
      refine E_if_lt C 46 dX6_letter_11 (by decide) (fun c11 => ?_) (fun c11 => ?_)
      ·
        exact absurd c11 (nI_pos (by omega))
      ·
        refine E_aload_n C dX6_letter_14 0 rfl (xg_6_5 C dX6_letter_15 f_X6_27 ?_)
        refine Ev.seti h0.1 ?_
        refine E_aload_n C dX6_letter_18 0 rfl (xg_6_3 C dX6_letter_19 f_X6_23 ?_)
        refine Ev.seti hT.1 ?_
        refine E_icmp_ge C 46 dX6_letter_22 (by decide) (fun c22 => ?_) (fun c22 => ?_)
        ·
          have hge : t.length ≤ s0.1 := Classical.byContradiction fun q => nI_ge (show s0.1 < t.length by omega) (by omega) c22
          refine E_iconst (v := -1) C dX6_letter_46 ic_m1 (E_iretI C hr hlk dX6_letter_47 ?_)
          have e3 : ltr t s0 = 300 := by
            rcases ltr_le htx s0 with q | q
            · exact absurd (ltr_in q).2.1 (by omega)
            · exact q
          have ee : lI (ltr t s0) = -1 := by rw [e3]; rfl
          exact ⟨ee.symm, rfl⟩
        ·
          have hlt : s0.1 < t.length := Classical.byContradiction fun q => c22 (nI_le (by omega) (by omega))
          refine E_aload_n C dX6_letter_25 0 rfl (xg_6_5 C dX6_letter_26 f_X6_27 ?_)
          refine Ev.seti h0.1 ?_
          refine E_bipush (v := 120) C dX6_letter_29 bp_120 (E_icmp_ge C 46 dX6_letter_31 (by decide) (fun c31 => ?_) (fun c31 => ?_))
          ·
            exact absurd (show nI 120 ≤ nI s0.1 from c31) (nI_ge (by omega) (by decide))
          ·
            refine E_aload_n C dX6_letter_34 0 rfl (xg_6_0 C dX6_letter_35 f_X6_11 (E_aload_n C dX6_letter_38 0 rfl (xg_6_5 C dX6_letter_39 f_X6_27 ?_)))
            refine Ev.seti h0.1 ?_
            refine xa_22 C dX6_letter_42 (vinN (by omega)) ?_
            rw [nI_clamp (show s0.1 < 2 ^ 31 by omega)]
            refine E_goto C 47 dX6_letter_43 (by decide) (E_iretI C hr hlk dX6_letter_47 ?_)
            have hge : t[s0.1]? = some (t[s0.1]) := List.getElem?_eq_getElem hlt
            have e3 : ltr t s0 = t[s0.1] := by unfold ltr; rw [hf]; show t.getD s0.1 300 = _; rw [List.getD_eq_getElem?_getD, hge]; rfl
            obtain ⟨k1, k2⟩ := hT.2.2 _ _ hge
            refine ⟨k1.trans ?_, rfl⟩
            rw [e3]
            exact (if_neg (by omega)).symm
  ·
    obtain ⟨ff, hff⟩ := Option.ne_none_iff_exists'.mp hf
    have hfl := h0.2.2.2.1 ff hff
    refine Ct.of (by decide +kernel) (Nat.le_of_ble_eq_true rfl) ?_
    intro p e R s m args below meth c A C hr hlk
    refine E_aload_n C dX6_letter_0 0 rfl (xg_6_6 C dX6_letter_1 f_X6_30 ?_)
    refine Ev.seti (show u 2 = nI ff by rw [h0.2.2.1, hff]; rfl) ?_
    refine E_if_ge C 46 dX6_letter_4 (by decide) (fun c4 => ?_) (fun c4 => ?_)
    ·
      refine E_iconst (v := -1) C dX6_letter_46 ic_m1 (E_iretI C hr hlk dX6_letter_47 ?_)
      have ee : lI (ltr t s0) = -1 := by unfold ltr; rw [hff]; rfl
      exact ⟨ee.symm, rfl⟩
    ·
      exact absurd (nI_le (a := 0) (Nat.zero_le ff) (by omega)) c4
set_option maxRecDepth 100000 in
set_option maxHeartbeats 4000000 in
theorem s_accepts {l : Launch} {D : va_G} {tc tt ad : Nat → Nat} {W : Nat → Nat → Int32} {g : Nat → Int32} {h : Nat → Nat → Int32} {Dv : DV} {Sh : SV} {z : Int64} {y : Nat → Int64} {t : List Nat} (hT : XT t g h) {u0 : Nat → Int32} {v0 : Nat → Nat → Int32} {s0 : PS} {u : Nat → Int32} {v : Nat → Nat → Int32} (h0 : RR t u0 v0 s0 u v) {cN : Nat} (hc256 : cN < 256) : Ct l yX6_accepts cX6_accepts 2 (some .boolean) 2 D tc tt [.ref (ad 21), .int (nI cN)] (hx ad tc W g h Dv Sh u v z y) (PI fun r w => (ltr t s0 = cN ∧ r = 1 ∧ ∃ u', w = hx ad tc W g h Dv Sh u' v z y ∧ RR t u0 v0 (adv s0) u' v) ∨ (¬ ltr t s0 = cN ∧ r = 0 ∧ w = hx ad tc W g h Dv Sh u v z y)) := by
  refine Ct.of (by decide +kernel) (Nat.le_of_ble_eq_true rfl) ?_
  intro p e R s m args below meth c A C hr hlk
  have htl := hT.2.1
  have htx : ∀ (j x : Nat), t[j]? = some x → x < 256 := fun j x q => (hT.2.2 j x q).2
  have hat := h0.2.1
  have hxx := ltr_le htx s0
  refine E_aload_n C dX6_accepts_0 0 rfl (E_callVI C dX6_accepts_1 mv_X6_63 21 _ (s_letter hT h0) rfl rfl rfl (by decide) (Nat.le_of_ble_eq_true rfl) ?_)
  rintro _ _ ⟨rfl, rfl⟩
  refine E_iload_n C dX6_accepts_4 1 rfl (E_icmp_eq C 10 dX6_accepts_5 (by decide) (fun c5 => ?_) (fun c5 => ?_))
  ·
    have hx1 : ltr t s0 = cN := (lI_eq hxx hc256).mp c5
    refine E_aload_n C dX6_accepts_10 0 rfl (E_dup C dX6_accepts_11 rfl (xg_6_5 C dX6_accepts_12 f_X6_27 (E_iconst (v := 1) C dX6_accepts_15 ic_1 (E_iadd C dX6_accepts_16 ?_))))
    refine Ev.seti (show u 1 + 1 = nI (s0.1 + 1) by rw [h0.1, nI_1]) ?_
    refine xp_6_5 C dX6_accepts_17 fw_X6_27 (E_iconst (v := 1) C dX6_accepts_20 ic_1 (E_zretI C hr hlk dX6_accepts_21 rfl ?_))
    exact Or.inl ⟨hx1, rfl, _, rfl, h0.advd (by omega)⟩
  ·
    have hx1 : ¬ ltr t s0 = cN := fun q => c5 ((lI_eq hxx hc256).mpr q)
    refine E_iconst (v := 0) C dX6_accepts_8 ic_0 (E_zretI C hr hlk dX6_accepts_9 rfl ?_)
    exact Or.inr ⟨hx1, rfl, rfl⟩
set_option maxRecDepth 100000 in
set_option maxHeartbeats 4000000 in
theorem s_isDigit {l : Launch} {D : va_G} {tc tt : Nat → Nat} {ws : va_W} {x : Nat} (hxx : x < 256 ∨ x = 300) : Ct l yX6_isDigit cX6_isDigit 1 (some .boolean) 1 D tc tt [.int (lI x)] (ws) (PI fun r w => r = (if isD x = true then 1 else 0) ∧ w = ws) := by
  refine Ct.of (by decide +kernel) (Nat.le_of_ble_eq_true rfl) ?_
  intro p e R s m args below meth c A C hr hlk
  refine E_iload_n C dX6_isDigit_0 0 rfl (E_bipush (v := 48) C dX6_isDigit_1 bp_48 (E_icmp_lt C 16 dX6_isDigit_3 (by decide) (fun c3 => ?_) (fun c3 => ?_)))
  ·
    refine E_iconst (v := 0) C dX6_isDigit_16 ic_0 (E_zretI C hr hlk dX6_isDigit_17 rfl ?_)
    refine ⟨(if_neg fun q => ?_).symm, rfl⟩
    exact absurd c3 (Int32.not_lt.mpr ((isD_lI hxx).mpr q).1)
  ·
    refine E_iload_n C dX6_isDigit_6 0 rfl (E_bipush (v := 57) C dX6_isDigit_7 bp_57 (E_icmp_gt C 16 dX6_isDigit_9 (by decide) (fun c9 => ?_) (fun c9 => ?_)))
    ·
      refine E_iconst (v := 0) C dX6_isDigit_16 ic_0 (E_zretI C hr hlk dX6_isDigit_17 rfl ?_)
      refine ⟨(if_neg fun q => ?_).symm, rfl⟩
      exact absurd c9 (Int32.not_lt.mpr ((isD_lI hxx).mpr q).2)
    ·
      refine E_iconst (v := 1) C dX6_isDigit_12 ic_1 (E_goto C 17 dX6_isDigit_13 (by decide) (E_zretI C hr hlk dX6_isDigit_17 rfl ?_))
      exact ⟨(if_pos ((isD_lI hxx).mp ⟨Int32.not_lt.mp c3, Int32.not_lt.mp c9⟩)).symm, rfl⟩
set_option maxRecDepth 100000 in
set_option maxHeartbeats 4000000 in
theorem s_nameOf {l : Launch} {D : va_G} {tc tt : Nat → Nat} {ws : va_W} (x : Int32) : Ct l yX6_nameOf cX6_nameOf 1 (some .int) 1 D tc tt [.int x] (ws) (PI fun r w => r = nameI x ∧ w = ws) := by
  refine Ct.of (by decide +kernel) (Nat.le_of_ble_eq_true rfl) ?_
  intro p e R s m args below meth c A C hr hlk
  refine E_iload_n C dX6_nameOf_0 0 rfl ?_
  by_cases e1 : x = 107
  ·
    subst e1
    refine E_tableIn C 72 dX6_nameOf_1 (by decide) (by decide) rfl (by decide) (E_iconst (v := 2) C dX6_nameOf_72 ic_2 (E_iretI C hr hlk dX6_nameOf_73 ?_))
    exact ⟨rfl, rfl⟩
  by_cases e1_2 : x = 108
  ·
    subst e1_2
    refine E_tableIn C 78 dX6_nameOf_1 (by decide) (by decide) rfl (by decide) (E_iconst (v := -1) C dX6_nameOf_78 ic_m1 (E_iretI C hr hlk dX6_nameOf_79 ?_))
    refine ⟨Eq.symm ?_, rfl⟩
    first
      | rfl
      | exact (if_neg e1).trans ((if_neg e1_4).trans ((if_neg e1_6).trans ((if_neg e1_9).trans (if_neg e1_13))))
  by_cases e1_3 : x = 109
  ·
    subst e1_3
    refine E_tableIn C 78 dX6_nameOf_1 (by decide) (by decide) rfl (by decide) (E_iconst (v := -1) C dX6_nameOf_78 ic_m1 (E_iretI C hr hlk dX6_nameOf_79 ?_))
    refine ⟨Eq.symm ?_, rfl⟩
    first
      | rfl
      | exact (if_neg e1).trans ((if_neg e1_4).trans ((if_neg e1_6).trans ((if_neg e1_9).trans (if_neg e1_13))))
  by_cases e1_4 : x = 110
  ·
    subst e1_4
    refine E_tableIn C 68 dX6_nameOf_1 (by decide) (by decide) rfl (by decide) (E_iconst (v := 0) C dX6_nameOf_68 ic_0 (E_iretI C hr hlk dX6_nameOf_69 ?_))
    exact ⟨rfl, rfl⟩
  by_cases e1_5 : x = 111
  ·
    subst e1_5
    refine E_tableIn C 78 dX6_nameOf_1 (by decide) (by decide) rfl (by decide) (E_iconst (v := -1) C dX6_nameOf_78 ic_m1 (E_iretI C hr hlk dX6_nameOf_79 ?_))
    refine ⟨Eq.symm ?_, rfl⟩
    first
      | rfl
      | exact (if_neg e1).trans ((if_neg e1_4).trans ((if_neg e1_6).trans ((if_neg e1_9).trans (if_neg e1_13))))
  by_cases e1_6 : x = 112
  ·
    subst e1_6
    refine E_tableIn C 70 dX6_nameOf_1 (by decide) (by decide) rfl (by decide) (E_iconst (v := 1) C dX6_nameOf_70 ic_1 (E_iretI C hr hlk dX6_nameOf_71 ?_))
    exact ⟨rfl, rfl⟩
  by_cases e1_7 : x = 113
  ·
    subst e1_7
    refine E_tableIn C 78 dX6_nameOf_1 (by decide) (by decide) rfl (by decide) (E_iconst (v := -1) C dX6_nameOf_78 ic_m1 (E_iretI C hr hlk dX6_nameOf_79 ?_))
    refine ⟨Eq.symm ?_, rfl⟩
    first
      | rfl
      | exact (if_neg e1).trans ((if_neg e1_4).trans ((if_neg e1_6).trans ((if_neg e1_9).trans (if_neg e1_13))))
  by_cases e1_8 : x = 114
  ·
    subst e1_8
    refine E_tableIn C 78 dX6_nameOf_1 (by decide) (by decide) rfl (by decide) (E_iconst (v := -1) C dX6_nameOf_78 ic_m1 (E_iretI C hr hlk dX6_nameOf_79 ?_))
    refine ⟨Eq.symm ?_, rfl⟩
    first
      | rfl
      | exact (if_neg e1).trans ((if_neg e1_4).trans ((if_neg e1_6).trans ((if_neg e1_9).trans (if_neg e1_13))))
  by_cases e1_9 : x = 115
  ·
    subst e1_9
    refine E_tableIn C 76 dX6_nameOf_1 (by decide) (by decide) rfl (by decide) (E_iconst (v := 4) C dX6_nameOf_76 ic_4 (E_iretI C hr hlk dX6_nameOf_77 ?_))
    exact ⟨rfl, rfl⟩
  by_cases e1_10 : x = 116
  ·
    subst e1_10
    refine E_tableIn C 78 dX6_nameOf_1 (by decide) (by decide) rfl (by decide) (E_iconst (v := -1) C dX6_nameOf_78 ic_m1 (E_iretI C hr hlk dX6_nameOf_79 ?_))
    refine ⟨Eq.symm ?_, rfl⟩
    first
      | rfl
      | exact (if_neg e1).trans ((if_neg e1_4).trans ((if_neg e1_6).trans ((if_neg e1_9).trans (if_neg e1_13))))
  by_cases e1_11 : x = 117
  ·
    subst e1_11
    refine E_tableIn C 78 dX6_nameOf_1 (by decide) (by decide) rfl (by decide) (E_iconst (v := -1) C dX6_nameOf_78 ic_m1 (E_iretI C hr hlk dX6_nameOf_79 ?_))
    refine ⟨Eq.symm ?_, rfl⟩
    first
      | rfl
      | exact (if_neg e1).trans ((if_neg e1_4).trans ((if_neg e1_6).trans ((if_neg e1_9).trans (if_neg e1_13))))
  by_cases e1_12 : x = 118
  ·
    subst e1_12
    refine E_tableIn C 78 dX6_nameOf_1 (by decide) (by decide) rfl (by decide) (E_iconst (v := -1) C dX6_nameOf_78 ic_m1 (E_iretI C hr hlk dX6_nameOf_79 ?_))
    refine ⟨Eq.symm ?_, rfl⟩
    first
      | rfl
      | exact (if_neg e1).trans ((if_neg e1_4).trans ((if_neg e1_6).trans ((if_neg e1_9).trans (if_neg e1_13))))
  by_cases e1_13 : x = 119
  ·
    subst e1_13
    refine E_tableIn C 74 dX6_nameOf_1 (by decide) (by decide) rfl (by decide) (E_iconst (v := 3) C dX6_nameOf_74 ic_3 (E_iretI C hr hlk dX6_nameOf_75 ?_))
    exact ⟨rfl, rfl⟩
  have oe1 := ntoi (n := 107) rfl e1
  have oe1_2 := ntoi (n := 108) rfl e1_2
  have oe1_3 := ntoi (n := 109) rfl e1_3
  have oe1_4 := ntoi (n := 110) rfl e1_4
  have oe1_5 := ntoi (n := 111) rfl e1_5
  have oe1_6 := ntoi (n := 112) rfl e1_6
  have oe1_7 := ntoi (n := 113) rfl e1_7
  have oe1_8 := ntoi (n := 114) rfl e1_8
  have oe1_9 := ntoi (n := 115) rfl e1_9
  have oe1_10 := ntoi (n := 116) rfl e1_10
  have oe1_11 := ntoi (n := 117) rfl e1_11
  have oe1_12 := ntoi (n := 118) rfl e1_12
  have oe1_13 := ntoi (n := 119) rfl e1_13
  refine E_tableOut C 78 dX6_nameOf_1 (by omega) (by decide) (E_iconst (v := -1) C dX6_nameOf_78 ic_m1 (E_iretI C hr hlk dX6_nameOf_79 ?_))
  refine ⟨Eq.symm ?_, rfl⟩
  first
    | rfl
    | exact (if_neg e1).trans ((if_neg e1_4).trans ((if_neg e1_6).trans ((if_neg e1_9).trans (if_neg e1_13))))
set_option maxRecDepth 100000 in
set_option maxHeartbeats 4000000 in
theorem s_refuse {l : Launch} {D : va_G} {tc tt ad : Nat → Nat} {W : Nat → Nat → Int32} {g : Nat → Int32} {h : Nat → Nat → Int32} {Dv : DV} {Sh : SV} {z : Int64} {y : Nat → Int64} {t : List Nat} (hT : XT t g h) {u0 : Nat → Int32} {v0 : Nat → Nat → Int32} {s0 : PS} {u : Nat → Int32} {v : Nat → Nat → Int32} (h0 : RR t u0 v0 s0 u v) : Ct l yX6_refuse cX6_refuse 1 none 1 D tc tt [.ref (ad 21)] (hx ad tc W g h Dv Sh u v z y) (PV fun w => ∃ u' v', w = hx ad tc W g h Dv Sh u' v' z y ∧ RR t u0 v0 (rfs s0) u' v') := by
  by_cases hf : s0.2.1 = none
  ·
    refine Ct.of (by decide +kernel) (Nat.le_of_ble_eq_true rfl) ?_
    intro p e R s m args below meth c A C hr hlk
    refine E_aload_n C dX6_refuse_0 0 rfl (xg_6_6 C dX6_refuse_1 f_X6_30 ?_)
    refine Ev.seti (show u 2 = -1 by rw [h0.2.2.1, hf]; rfl) ?_
    refine E_if_ge C 15 dX6_refuse_4 (by decide) (fun c4 => ?_) (fun c4 => ?_)
    ·
      exact absurd c4 (by decide)
    ·
      refine E_aload_n C dX6_refuse_7 0 rfl (E_aload_n C dX6_refuse_8 0 rfl (xg_6_5 C dX6_refuse_9 f_X6_27 ?_))
      refine Ev.seti h0.1 ?_
      refine xp_6_6 C dX6_refuse_12 fw_X6_30 (E_vretV C hr hlk dX6_refuse_15 ?_)
      exact ⟨_, _, rfl, h0.refu hf⟩
  ·
    obtain ⟨ff, hff⟩ := Option.ne_none_iff_exists'.mp hf
    have hfl := h0.2.2.2.1 ff hff
    have htl := hT.2.1
    refine Ct.of (by decide +kernel) (Nat.le_of_ble_eq_true rfl) ?_
    intro p e R s m args below meth c A C hr hlk
    refine E_aload_n C dX6_refuse_0 0 rfl (xg_6_6 C dX6_refuse_1 f_X6_30 ?_)
    refine Ev.seti (show u 2 = nI ff by rw [h0.2.2.1, hff]; rfl) ?_
    refine E_if_ge C 15 dX6_refuse_4 (by decide) (fun c4 => ?_) (fun c4 => ?_)
    ·
      refine E_vretV C hr hlk dX6_refuse_15 ?_
      have ee : rfs s0 = s0 := by unfold rfs; rw [hff]
      rw [ee]
      exact ⟨_, _, rfl, h0⟩
    ·
      exact absurd (nI_le (a := 0) (Nat.zero_le ff) (by omega)) c4
set_option maxRecDepth 100000 in
set_option maxHeartbeats 4000000 in
theorem s_emit {l : Launch} {D : va_G} {tc tt ad : Nat → Nat} {W : Nat → Nat → Int32} {g : Nat → Int32} {h : Nat → Nat → Int32} {Dv : DV} {Sh : SV} {z : Int64} {y : Nat → Int64} {t : List Nat}  {u0 : Nat → Int32} {v0 : Nat → Nat → Int32} {s0 : PS} {u : Nat → Int32} {v : Nat → Nat → Int32} (h0 : RR t u0 v0 s0 u v) (aa bb : Nat) : Ct l yX6_emit cX6_emit 3 none 1 D tc tt [.ref (ad 21), .int (nI aa), .int (nI bb)] (hx ad tc W g h Dv Sh u v z y) (PV fun w => ∃ u' v', w = hx ad tc W g h Dv Sh u' v' z y ∧ RR t u0 v0 (emt s0 aa bb) u' v') := by
  by_cases hl : s0.2.2.length < 128
  ·
    have hz : u 0 = nI s0.2.2.length := by rw [h0.2.2.2.2.1.1, Nat.min_eq_left (by omega)]
    refine Ct.of (by decide +kernel) (Nat.le_of_ble_eq_true rfl) ?_
    intro p e R s m args below meth c A C hr hlk
    refine E_aload_n C dX6_emit_0 0 rfl (xg_6_4 C dX6_emit_1 f_X6_33 ?_)
    refine Ev.seti hz ?_
    refine E_if_lt C 47 dX6_emit_4 (by decide) (fun c4 => ?_) (fun c4 => ?_)
    ·
      exact absurd c4 (nI_pos (by omega))
    ·
      refine E_aload_n C dX6_emit_7 0 rfl (xg_6_4 C dX6_emit_8 f_X6_33 ?_)
      refine Ev.seti hz ?_
      refine E_sipush (v := 128) C dX6_emit_11 sp_128 (E_icmp_ge C 47 dX6_emit_14 (by decide) (fun c14 => ?_) (fun c14 => ?_))
      ·
        exact absurd (show nI 128 ≤ nI s0.2.2.length from c14) (nI_ge hl (by decide))
      ·
        refine E_aload_n C dX6_emit_17 0 rfl (xg_6_1 C dX6_emit_18 f_X6_17 (E_aload_n C dX6_emit_21 0 rfl (xg_6_4 C dX6_emit_22 f_X6_33 ?_)))
        refine Ev.seti hz ?_
        refine E_iload_n C dX6_emit_25 1 rfl (xs_23 C dX6_emit_26 (vinN (by omega)) ?_)
        rw [nI_clamp (show s0.2.2.length < 2 ^ 31 by omega)]
        refine E_aload_n C dX6_emit_27 0 rfl (xg_6_2 C dX6_emit_28 f_X6_20 (E_aload_n C dX6_emit_31 0 rfl (xg_6_4 C dX6_emit_32 f_X6_33 ?_)))
        refine Ev.seti hz ?_
        refine E_iload_n C dX6_emit_35 2 rfl (xs_24 C dX6_emit_36 (vinN (by omega)) ?_)
        rw [nI_clamp (show s0.2.2.length < 2 ^ 31 by omega)]
        refine E_aload_n C dX6_emit_37 0 rfl (E_dup C dX6_emit_38 rfl (xg_6_4 C dX6_emit_39 f_X6_33 ?_))
        refine Ev.seti hz ?_
        refine E_iconst (v := 1) C dX6_emit_42 ic_1 (E_iadd C dX6_emit_43 ?_)
        refine Ev.seti (nI_1 _) ?_
        refine xp_6_4 C dX6_emit_44 fw_X6_33 (E_vretV C hr hlk dX6_emit_47 ?_)
        obtain ⟨k1, k2, k3, k4, k5, k6, k7, k8⟩ := h0
        exact ⟨_, _, rfl, k1, k2, k3, k4, k5.put hl aa bb, k6, k7, fun k q2 q3 => (vun q3).trans ((vun q2).trans (k8 k q2 q3))⟩
  ·
    have hz : u 0 = nI 128 := by rw [h0.2.2.2.2.1.1, Nat.min_eq_right (by omega)]
    refine Ct.of (by decide +kernel) (Nat.le_of_ble_eq_true rfl) ?_
    intro p e R s m args below meth c A C hr hlk
    refine E_aload_n C dX6_emit_0 0 rfl (xg_6_4 C dX6_emit_1 f_X6_33 ?_)
    refine Ev.seti hz ?_
    refine E_if_lt C 47 dX6_emit_4 (by decide) (fun c4 => ?_) (fun c4 => ?_)
    ·
      exact absurd c4 (nI_pos (by decide))
    ·
      refine E_aload_n C dX6_emit_7 0 rfl (xg_6_4 C dX6_emit_8 f_X6_33 ?_)
      refine Ev.seti hz ?_
      refine E_sipush (v := 128) C dX6_emit_11 sp_128 (E_icmp_ge C 47 dX6_emit_14 (by decide) (fun c14 => ?_) (fun c14 => ?_))
      ·
        refine E_vretV C hr hlk dX6_emit_47 ?_
        obtain ⟨k1, k2, k3, k4, k5, k6, k7, k8⟩ := h0
        exact ⟨_, _, rfl, k1, k2, k3, k4, k5.full (by omega) aa bb, k6, k7, k8⟩
      ·
        exact absurd (Int32.le_refl _) c14
set_option maxRecDepth 100000 in
set_option maxHeartbeats 4000000 in
theorem s_number {l : Launch} {D : va_G} {tc tt ad : Nat → Nat} {W : Nat → Nat → Int32} {g : Nat → Int32} {h : Nat → Nat → Int32} {Dv : DV} {Sh : SV} {z : Int64} {y : Nat → Int64} {t : List Nat} (hT : XT t g h) {u0 : Nat → Int32} {v0 : Nat → Nat → Int32} {s0 : PS} {u : Nat → Int32} {v : Nat → Nat → Int32} (h0 : RR t u0 v0 s0 u v) : Ct l yX6_number cX6_number 3 none 2 D tc tt [.ref (ad 21)] (hx ad tc W g h Dv Sh u v z y) (PV fun w => ∃ u' v', w = hx ad tc W g h Dv Sh u' v' z y ∧ RR t u0 v0 (numC t s0) u' v') := by
  refine Ct.of (by decide +kernel) (Nat.le_of_ble_eq_true rfl) ?_
  intro p e R s m args below meth c A C hr hlk
  have htl := hT.2.1
  have htx : ∀ (j x : Nat), t[j]? = some x → x < 256 := fun j x q => (hT.2.2 j x q).2
  have K : ∀ (n i vv : Nat) (s1 : PS) (u1 : Nat → Int32) (v1 : Nat → Nat → Int32), i ≤ 4 → 4 < i + n → RR t u0 v0 s1 u1 v1 → numL t 4 0 s0 = numL t (4 - i) vv s1 → Ev p l e R s m args below meth c 0 0 (EQ below (PV fun w => ∃ u' v', w = hx ad tc W g h Dv Sh u' v' z y ∧ RR t u0 v0 (numC t s0) u' v') args s D A) D A 3 (hx ad tc W g h Dv Sh u1 v1 z y) 4 [(2, .int (nI i)), (1, .int (nI vv)), (0, .ref (ad 21))] [] := by
    intro n
    induction n with
    | zero =>
      intro i vv s1 u1 v1 hi1 hi2 h1 hres
      exfalso; omega
    | succ n ih =>
      intro i vv s1 u1 v1 hi1 hi2 h1 hres
      refine E_iload_n C dX6_number_4 0 rfl (E_iconst (v := 4) C dX6_number_5 ic_4 (E_icmp_ge C 48 dX6_number_6 (by decide) (fun c6 => ?_) (fun c6 => ?_)))
      ·
        have hi : i = 4 := by
          rcases Nat.lt_or_ge i 4 with q | q
          · exact absurd (show nI 4 ≤ nI i from c6) (nI_ge q (by decide))
          · omega
        rw [hi] at hres
        refine E_aload_n C dX6_number_48 2 rfl (E_bipush (v := 48) C dX6_number_49 bp_48 (E_iload_n C dX6_number_51 1 rfl (E_callVV C dX6_number_52 mv_X6_50 21 _ (s_emit h1 48 vv) rfl rfl rfl (by decide) (Nat.le_of_ble_eq_true rfl) ?_)))
        rintro _ ⟨u2, v2, rfl, h2⟩
        refine E_vretV C hr hlk dX6_number_55 ?_
        refine ⟨_, _, rfl, ?_⟩
        have e : numC t s0 = emt s1 48 vv := by unfold numC; rw [hres]; try rfl
        rw [e]
        exact h2
      ·
        have hi : i < 4 := by
          rcases Nat.lt_or_ge i 4 with q | q
          · exact q
          · exact absurd (show nI 4 ≤ nI i from nI_le q (by omega)) c6
        rw [show 4 - i = (4 - (i + 1)) + 1 by omega] at hres
        have hxx := ltr_le htx s1
        refine E_aload_n C dX6_number_9 2 rfl (E_callVI C dX6_number_10 mv_X6_63 21 _ (s_letter hT h1) rfl rfl rfl (by decide) (Nat.le_of_ble_eq_true rfl) ?_)
        rintro _ _ ⟨rfl, rfl⟩
        refine E_callSI C dX6_number_13 ms_X6_73 _ (s_isDigit hxx) rfl rfl (by decide) (Nat.le_of_ble_eq_true rfl) ?_
        rintro _ _ ⟨rfl, rfl⟩
        refine E_if_eq C 48 dX6_number_16 (by decide) (fun c16 => ?_) (fun c16 => ?_)
        ·
          have hd : ¬ isD (ltr t s1) = true := fun q => by rw [if_pos q] at c16; cases c16
          rw [numL_f hd] at hres
          refine E_aload_n C dX6_number_48 2 rfl (E_bipush (v := 48) C dX6_number_49 bp_48 (E_iload_n C dX6_number_51 1 rfl (E_callVV C dX6_number_52 mv_X6_50 21 _ (s_emit h1 48 vv) rfl rfl rfl (by decide) (Nat.le_of_ble_eq_true rfl) ?_)))
          rintro _ ⟨u2, v2, rfl, h2⟩
          refine E_vretV C hr hlk dX6_number_55 ?_
          refine ⟨_, _, rfl, ?_⟩
          have e : numC t s0 = emt s1 48 vv := by unfold numC; rw [hres]; try rfl
          rw [e]
          exact h2
        ·
          have hd : isD (ltr t s1) = true := Classical.byContradiction fun q => c16 (if_neg q)
          rw [numL_t hd] at hres
          have hd2 := of_decide_eq_true hd
          refine E_iload_n C dX6_number_19 1 rfl (E_bipush (v := 10) C dX6_number_20 bp_10 (E_imul C dX6_number_22 ?_))
          refine Ev.seti (show nI vv * 10 = nI (vv * 10) from pk_mul vv 10) ?_
          refine E_aload_n C dX6_number_23 2 rfl (E_callVI C dX6_number_24 mv_X6_63 21 _ (s_letter hT h1) rfl rfl rfl (by decide) (Nat.le_of_ble_eq_true rfl) ?_)
          rintro _ _ ⟨rfl, rfl⟩
          refine Ev.seti (show lI (ltr t s1) = nI (ltr t s1) from if_neg (by omega)) ?_
          refine E_iadd C dX6_number_27 ?_
          refine Ev.seti (nI_add _ _) ?_
          refine E_bipush (v := 48) C dX6_number_28 bp_48 (E_isub C dX6_number_30 ?_)
          refine Ev.seti (show nI (vv * 10 + ltr t s1) - 48 = nI (vv * 10 + ltr t s1 - 48) from pk_sub (b := 48) (by omega)) ?_
          refine E_istore_n C dX6_number_31 (by decide) (E_aload_n C dX6_number_32 2 rfl (E_dup C dX6_number_33 rfl (xg_6_5 C dX6_number_34 f_X6_27 (E_iconst (v := 1) C dX6_number_37 ic_1 (E_iadd C dX6_number_38 ?_)))))
          refine Ev.seti (show u1 1 + 1 = nI (s1.1 + 1) by rw [h1.1, nI_1]) ?_
          refine xp_6_5 C dX6_number_39 fw_X6_27 (E_iinc C dX6_number_42 1 rfl (nI_1 i) (by decide) (E_goto C 4 dX6_number_45 (by decide) ?_))
          exact Ev.sub [0, 1, 2] rfl (ih (i + 1) _ _ _ _ (by omega) (by omega) (h1.advd (by omega)) hres)
  refine E_iconst (v := 0) C dX6_number_0 ic_0 (E_istore_n C dX6_number_1 (by decide) (E_iconst (v := 0) C dX6_number_2 ic_0 (E_istore_n C dX6_number_3 (by decide) ?_)))
  exact K 5 0 0 s0 u v (by omega) (by omega) h0 rfl
