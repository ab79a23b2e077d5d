/-! the class's own methods: things out of rows, drives told back -/
set_option maxRecDepth 100000 in
set_option maxHeartbeats 4000000 in
theorem s_thingCame {l : Launch} {D : va_G} {tc tt ad : Nat → Nat} {W : Nat → Nat → Int32} {g : Nat → Int32} {h : Nat → Nat → Int32} {Dv : DV} {Sh : SV} {u : Nat → Int32} {v : Nat → Nat → Int32} {z : Int64} {y : Nat → Int64} {b : Nat} (hb_b : b < 6) {S : STT} {kk0 j0 : Nat} (X : XJ S kk0 j0 W g h Dv Sh u v) {q0 : SHT} (r3 : (Sh b).1 3 = nI q0.2.2.2.1) (r4 : q0.2.2.2.1 ≤ 60) (r5 : ∀ j, j < q0.2.2.2.1 → (Sh b).2 j = q0.2.2.2.2 j) (aN : Nat) (haN : aN < 2 ^ 20) : Ct l yX10_thingCame cX10_thingCame 7 (some .boolean) 3 D tc tt [.ref (ad 0), .ref (ad (52 + 2 * b)), .int (nI aN)] (hx ad tc W g h Dv Sh u v z y) (PI fun r w => (tcB q0 S.1.1 aN = true ∧ r = 1 ∧ ∃ W2 g2, w = hx ad tc W2 g2 h Dv Sh u v z y ∧ XJ (tcS q0 S aN) kk0 (j0 + 1) W2 g2 h Dv Sh u v) ∨ (¬ tcB q0 S.1.1 aN = true ∧ r = 0 ∧ w = hx ad tc W g h Dv Sh u v z y)) := by
  have hn8 := X.1.2.1
  by_cases hcase : S.1.1 < 8
  ·
    refine Ct.of (by decide +kernel) (Nat.le_of_ble_eq_true rfl) ?_
    intro p e R s m args below meth c A C hr hlk
    refine E_aload_n C dX10_thingCame_0 1 rfl (E_iload_n C dX10_thingCame_1 2 rfl (E_iconst (v := 4) C dX10_thingCame_2 ic_4 (E_callVI C dX10_thingCame_3 mv_X10_308 _ _ (s_hasPlaces hb_b (nI aN) 4) (xat_sh0 (b := b) hb_b) rfl rfl (by decide) (Nat.le_of_ble_eq_true rfl) ?_)))
    rintro _ _ ⟨rfl, rfl⟩
    refine Ev.seti (show _ = (if hpB (nI q0.2.2.2.1) (nI aN) (nI 4) = true then 1 else 0) by rw [r3]; rfl) ?_
    refine E_if_ne C 11 dX10_thingCame_6 (by decide) (fun c6 => ?_) (fun c6 => ?_)
    ·
      have hpl : aN + 4 ≤ q0.2.2.2.1 := Classical.byContradiction fun q => c6 (if_neg (hpB_not r4 (by omega) (by decide) q))
      refine E_aload_n C dX10_thingCame_11 1 rfl (E_iload_n C dX10_thingCame_12 2 rfl ?_)
      refine E_callVL C dX10_thingCame_13 mv_X10_302 _ _ (s_elementAt hb_b r3 r4 (j := aN) (by omega)) (xat_sh0 (b := b) hb_b) rfl rfl (by decide) (Nat.le_of_ble_eq_true rfl) ?_
      rintro _ _ ⟨rfl, rfl⟩
      refine Ev.setl (r5 aN (by omega)) ?_
      refine E_l2i C dX10_thingCame_16 (E_istore_n C dX10_thingCame_17 (by decide) (E_aload_n C dX10_thingCame_18 2 rfl (E_iload_n C dX10_thingCame_19 3 rfl (E_iconst (v := 1) C dX10_thingCame_20 ic_1 (E_iadd C dX10_thingCame_21 ?_)))))
      refine Ev.seti (nI_add aN 1) ?_
      refine E_callVL C dX10_thingCame_22 mv_X10_302 _ _ (s_elementAt hb_b r3 r4 (j := (aN + 1)) (by omega)) (xat_sh0 (b := b) hb_b) rfl rfl (by decide) (Nat.le_of_ble_eq_true rfl) ?_
      rintro _ _ ⟨rfl, rfl⟩
      refine Ev.setl (r5 (aN + 1) (by omega)) ?_
      refine E_l2i C dX10_thingCame_25 (E_istore C dX10_thingCame_26 (by decide) (E_aload_n C dX10_thingCame_28 3 rfl (E_iload_n C dX10_thingCame_29 4 rfl (E_iconst (v := 2) C dX10_thingCame_30 ic_2 (E_iadd C dX10_thingCame_31 ?_)))))
      refine Ev.seti (nI_add aN 2) ?_
      refine E_callVL C dX10_thingCame_32 mv_X10_302 _ _ (s_elementAt hb_b r3 r4 (j := (aN + 2)) (by omega)) (xat_sh0 (b := b) hb_b) rfl rfl (by decide) (Nat.le_of_ble_eq_true rfl) ?_
      rintro _ _ ⟨rfl, rfl⟩
      refine Ev.setl (r5 (aN + 2) (by omega)) ?_
      refine E_l2i C dX10_thingCame_35 (E_istore C dX10_thingCame_36 (by decide) (E_aload_n C dX10_thingCame_38 4 rfl (E_iload_n C dX10_thingCame_39 5 rfl (E_iconst (v := 3) C dX10_thingCame_40 ic_3 (E_iadd C dX10_thingCame_41 ?_)))))
      refine Ev.seti (nI_add aN 3) ?_
      refine E_callVL C dX10_thingCame_42 mv_X10_302 _ _ (s_elementAt hb_b r3 r4 (j := (aN + 3)) (by omega)) (xat_sh0 (b := b) hb_b) rfl rfl (by decide) (Nat.le_of_ble_eq_true rfl) ?_
      rintro _ _ ⟨rfl, rfl⟩
      refine Ev.setl (r5 (aN + 3) (by omega)) ?_
      refine E_l2i C dX10_thingCame_45 (E_istore C dX10_thingCame_46 (by decide) (E_iconst (v := 0) C dX10_thingCame_48 ic_0 (E_iload_n C dX10_thingCame_49 3 rfl (E_callSI C dX10_thingCame_50 ms_X10_74 _ (s_may 0 (tcE q0 aN)) rfl rfl (by decide) (Nat.le_of_ble_eq_true rfl) ?_))))
      rintro _ _ ⟨rfl, rfl⟩
      refine E_if_eq C 83 dX10_thingCame_53 (by decide) (fun c53 => ?_) (fun c53 => ?_)
      ·
        have m0 : ¬ mayB 0 (tcE q0 aN) = true := fun q => by rw [if_pos q] at c53; cases c53
        refine E_iconst (v := 0) C dX10_thingCame_83 ic_0 (E_zretI C hr hlk dX10_thingCame_84 rfl ?_)
        exact Or.inr ⟨fun q => by have q2 := of_decide_eq_true q; exact m0 q2.2.1, rfl, rfl⟩
      ·
        have m0 : mayB 0 (tcE q0 aN) = true := Classical.byContradiction fun q => c53 (if_neg q)
        refine E_iconst (v := 1) C dX10_thingCame_56 ic_1 (E_iload C dX10_thingCame_57 2 rfl (E_callSI C dX10_thingCame_59 ms_X10_74 _ (s_may 1 (tcE q0 (aN + 1))) rfl rfl (by decide) (Nat.le_of_ble_eq_true rfl) ?_))
        rintro _ _ ⟨rfl, rfl⟩
        refine E_if_eq C 83 dX10_thingCame_62 (by decide) (fun c62 => ?_) (fun c62 => ?_)
        ·
          have m1 : ¬ mayB 1 (tcE q0 (aN + 1)) = true := fun q => by rw [if_pos q] at c62; cases c62
          refine E_iconst (v := 0) C dX10_thingCame_83 ic_0 (E_zretI C hr hlk dX10_thingCame_84 rfl ?_)
          exact Or.inr ⟨fun q => by have q2 := of_decide_eq_true q; exact m1 q2.2.2.1, rfl, rfl⟩
        ·
          have m1 : mayB 1 (tcE q0 (aN + 1)) = true := Classical.byContradiction fun q => c62 (if_neg q)
          refine E_iconst (v := 2) C dX10_thingCame_65 ic_2 (E_iload C dX10_thingCame_66 1 rfl (E_callSI C dX10_thingCame_68 ms_X10_74 _ (s_may 2 (tcE q0 (aN + 2))) rfl rfl (by decide) (Nat.le_of_ble_eq_true rfl) ?_))
          rintro _ _ ⟨rfl, rfl⟩
          refine E_if_eq C 83 dX10_thingCame_71 (by decide) (fun c71 => ?_) (fun c71 => ?_)
          ·
            have m2 : ¬ mayB 2 (tcE q0 (aN + 2)) = true := fun q => by rw [if_pos q] at c71; cases c71
            refine E_iconst (v := 0) C dX10_thingCame_83 ic_0 (E_zretI C hr hlk dX10_thingCame_84 rfl ?_)
            exact Or.inr ⟨fun q => by have q2 := of_decide_eq_true q; exact m2 q2.2.2.2.1, rfl, rfl⟩
          ·
            have m2 : mayB 2 (tcE q0 (aN + 2)) = true := Classical.byContradiction fun q => c71 (if_neg q)
            refine E_iconst (v := 3) C dX10_thingCame_74 ic_3 (E_iload C dX10_thingCame_75 0 rfl (E_callSI C dX10_thingCame_77 ms_X10_74 _ (s_may 3 (tcE q0 (aN + 3))) rfl rfl (by decide) (Nat.le_of_ble_eq_true rfl) ?_))
            rintro _ _ ⟨rfl, rfl⟩
            refine E_if_ne C 85 dX10_thingCame_80 (by decide) (fun c80 => ?_) (fun c80 => ?_)
            ·
              have m3 : mayB 3 (tcE q0 (aN + 3)) = true := Classical.byContradiction fun q => c80 (if_neg q)
              refine E_aload_n C dX10_thingCame_85 4 rfl (xg_10_0 C dX10_thingCame_86 f_X10_10 (E_iload_n C dX10_thingCame_89 3 rfl (E_iload C dX10_thingCame_90 2 rfl (E_iload C dX10_thingCame_92 1 rfl (E_iload C dX10_thingCame_94 0 rfl ?_)))))
              refine E_callVI C dX10_thingCame_96 mv_X10_78 1 _ (s_add X.1.1 hcase (tcE q0 aN) (tcE q0 (aN + 1)) (tcE q0 (aN + 2)) (tcE q0 (aN + 3))) rfl rfl rfl (by decide) (Nat.le_of_ble_eq_true rfl) ?_
              rintro _ _ ⟨rfl, rfl⟩
              refine E_if_lt C 106 dX10_thingCame_99 (by decide) (fun c99 => ?_) (fun c99 => ?_)
              ·
                exact absurd c99 (nI_pos (by omega))
              ·
                refine E_iconst (v := 1) C dX10_thingCame_102 ic_1 (E_goto C 107 dX10_thingCame_103 (by decide) (E_zretI C hr hlk dX10_thingCame_107 rfl ?_))
                obtain ⟨xa, b1, f1, e1⟩ := may_ex (k := 0) (by decide) m0
                obtain ⟨xb, b2, f2, e2⟩ := may_ex (k := 1) (by decide) m1
                obtain ⟨xc, b3, f3, e3⟩ := may_ex (k := 2) (by decide) m2
                obtain ⟨xd, b4, f4, e4⟩ := may_ex (k := 3) (by decide) m3
                have hfin := X.add hcase b1 b2 b3 b4
                have hts : tcS q0 S aN = addS S xa xb xc xd := by unfold tcS; rw [e1, e2, e3, e4, nI_clamp f1, nI_clamp f2, nI_clamp f3, nI_clamp f4]
                rw [← e1, ← e2, ← e3, ← e4, ← hts] at hfin
                exact Or.inl ⟨decide_eq_true ⟨hpl, m0, m1, m2, m3, hcase⟩, rfl, _, _, rfl, hfin⟩
            ·
              have m3 : ¬ mayB 3 (tcE q0 (aN + 3)) = true := fun q => by rw [if_pos q] at c80; cases c80
              refine E_iconst (v := 0) C dX10_thingCame_83 ic_0 (E_zretI C hr hlk dX10_thingCame_84 rfl ?_)
              exact Or.inr ⟨fun q => by have q2 := of_decide_eq_true q; exact m3 q2.2.2.2.2.1, rfl, rfl⟩
    ·
      have hpl : ¬ aN + 4 ≤ q0.2.2.2.1 := fun q => by rw [if_pos (hpB_of r4 q)] at c6; cases c6
      refine E_iconst (v := 0) C dX10_thingCame_9 ic_0 (E_zretI C hr hlk dX10_thingCame_10 rfl ?_)
      exact Or.inr ⟨fun q => by have q2 := of_decide_eq_true q; exact hpl q2.1, rfl, rfl⟩
  ·
    refine Ct.of (by decide +kernel) (Nat.le_of_ble_eq_true rfl) ?_
    intro p e R s m args below meth c A C hr hlk
    refine E_aload_n C dX10_thingCame_0 1 rfl (E_iload_n C dX10_thingCame_1 2 rfl (E_iconst (v := 4) C dX10_thingCame_2 ic_4 (E_callVI C dX10_thingCame_3 mv_X10_308 _ _ (s_hasPlaces hb_b (nI aN) 4) (xat_sh0 (b := b) hb_b) rfl rfl (by decide) (Nat.le_of_ble_eq_true rfl) ?_)))
    rintro _ _ ⟨rfl, rfl⟩
    refine Ev.seti (show _ = (if hpB (nI q0.2.2.2.1) (nI aN) (nI 4) = true then 1 else 0) by rw [r3]; rfl) ?_
    refine E_if_ne C 11 dX10_thingCame_6 (by decide) (fun c6 => ?_) (fun c6 => ?_)
    ·
      have hpl : aN + 4 ≤ q0.2.2.2.1 := Classical.byContradiction fun q => c6 (if_neg (hpB_not r4 (by omega) (by decide) q))
      refine E_aload_n C dX10_thingCame_11 1 rfl (E_iload_n C dX10_thingCame_12 2 rfl ?_)
      refine E_callVL C dX10_thingCame_13 mv_X10_302 _ _ (s_elementAt hb_b r3 r4 (j := aN) (by omega)) (xat_sh0 (b := b) hb_b) rfl rfl (by decide) (Nat.le_of_ble_eq_true rfl) ?_
      rintro _ _ ⟨rfl, rfl⟩
      refine Ev.setl (r5 aN (by omega)) ?_
      refine E_l2i C dX10_thingCame_16 (E_istore_n C dX10_thingCame_17 (by decide) (E_aload_n C dX10_thingCame_18 2 rfl (E_iload_n C dX10_thingCame_19 3 rfl (E_iconst (v := 1) C dX10_thingCame_20 ic_1 (E_iadd C dX10_thingCame_21 ?_)))))
      refine Ev.seti (nI_add aN 1) ?_
      refine E_callVL C dX10_thingCame_22 mv_X10_302 _ _ (s_elementAt hb_b r3 r4 (j := (aN + 1)) (by omega)) (xat_sh0 (b := b) hb_b) rfl rfl (by decide) (Nat.le_of_ble_eq_true rfl) ?_
      rintro _ _ ⟨rfl, rfl⟩
      refine Ev.setl (r5 (aN + 1) (by omega)) ?_
      refine E_l2i C dX10_thingCame_25 (E_istore C dX10_thingCame_26 (by decide) (E_aload_n C dX10_thingCame_28 3 rfl (E_iload_n C dX10_thingCame_29 4 rfl (E_iconst (v := 2) C dX10_thingCame_30 ic_2 (E_iadd C dX10_thingCame_31 ?_)))))
      refine Ev.seti (nI_add aN 2) ?_
      refine E_callVL C dX10_thingCame_32 mv_X10_302 _ _ (s_elementAt hb_b r3 r4 (j := (aN + 2)) (by omega)) (xat_sh0 (b := b) hb_b) rfl rfl (by decide) (Nat.le_of_ble_eq_true rfl) ?_
      rintro _ _ ⟨rfl, rfl⟩
      refine Ev.setl (r5 (aN + 2) (by omega)) ?_
      refine E_l2i C dX10_thingCame_35 (E_istore C dX10_thingCame_36 (by decide) (E_aload_n C dX10_thingCame_38 4 rfl (E_iload_n C dX10_thingCame_39 5 rfl (E_iconst (v := 3) C dX10_thingCame_40 ic_3 (E_iadd C dX10_thingCame_41 ?_)))))
      refine Ev.seti (nI_add aN 3) ?_
      refine E_callVL C dX10_thingCame_42 mv_X10_302 _ _ (s_elementAt hb_b r3 r4 (j := (aN + 3)) (by omega)) (xat_sh0 (b := b) hb_b) rfl rfl (by decide) (Nat.le_of_ble_eq_true rfl) ?_
      rintro _ _ ⟨rfl, rfl⟩
      refine Ev.setl (r5 (aN + 3) (by omega)) ?_
      refine E_l2i C dX10_thingCame_45 (E_istore C dX10_thingCame_46 (by decide) (E_iconst (v := 0) C dX10_thingCame_48 ic_0 (E_iload_n C dX10_thingCame_49 3 rfl (E_callSI C dX10_thingCame_50 ms_X10_74 _ (s_may 0 (tcE q0 aN)) rfl rfl (by decide) (Nat.le_of_ble_eq_true rfl) ?_))))
      rintro _ _ ⟨rfl, rfl⟩
      refine E_if_eq C 83 dX10_thingCame_53 (by decide) (fun c53 => ?_) (fun c53 => ?_)
      ·
        have m0 : ¬ mayB 0 (tcE q0 aN) = true := fun q => by rw [if_pos q] at c53; cases c53
        refine E_iconst (v := 0) C dX10_thingCame_83 ic_0 (E_zretI C hr hlk dX10_thingCame_84 rfl ?_)
        exact Or.inr ⟨fun q => by have q2 := of_decide_eq_true q; exact m0 q2.2.1, rfl, rfl⟩
      ·
        have m0 : mayB 0 (tcE q0 aN) = true := Classical.byContradiction fun q => c53 (if_neg q)
        refine E_iconst (v := 1) C dX10_thingCame_56 ic_1 (E_iload C dX10_thingCame_57 2 rfl (E_callSI C dX10_thingCame_59 ms_X10_74 _ (s_may 1 (tcE q0 (aN + 1))) rfl rfl (by decide) (Nat.le_of_ble_eq_true rfl) ?_))
        rintro _ _ ⟨rfl, rfl⟩
        refine E_if_eq C 83 dX10_thingCame_62 (by decide) (fun c62 => ?_) (fun c62 => ?_)
        ·
          have m1 : ¬ mayB 1 (tcE q0 (aN + 1)) = true := fun q => by rw [if_pos q] at c62; cases c62
          refine E_iconst (v := 0) C dX10_thingCame_83 ic_0 (E_zretI C hr hlk dX10_thingCame_84 rfl ?_)
          exact Or.inr ⟨fun q => by have q2 := of_decide_eq_true q; exact m1 q2.2.2.1, rfl, rfl⟩
        ·
          have m1 : mayB 1 (tcE q0 (aN + 1)) = true := Classical.byContradiction fun q => c62 (if_neg q)
          refine E_iconst (v := 2) C dX10_thingCame_65 ic_2 (E_iload C dX10_thingCame_66 1 rfl (E_callSI C dX10_thingCame_68 ms_X10_74 _ (s_may 2 (tcE q0 (aN + 2))) rfl rfl (by decide) (Nat.le_of_ble_eq_true rfl) ?_))
          rintro _ _ ⟨rfl, rfl⟩
          refine E_if_eq C 83 dX10_thingCame_71 (by decide) (fun c71 => ?_) (fun c71 => ?_)
          ·
            have m2 : ¬ mayB 2 (tcE q0 (aN + 2)) = true := fun q => by rw [if_pos q] at c71; cases c71
            refine E_iconst (v := 0) C dX10_thingCame_83 ic_0 (E_zretI C hr hlk dX10_thingCame_84 rfl ?_)
            exact Or.inr ⟨fun q => by have q2 := of_decide_eq_true q; exact m2 q2.2.2.2.1, rfl, rfl⟩
          ·
            have m2 : mayB 2 (tcE q0 (aN + 2)) = true := Classical.byContradiction fun q => c71 (if_neg q)
            refine E_iconst (v := 3) C dX10_thingCame_74 ic_3 (E_iload C dX10_thingCame_75 0 rfl (E_callSI C dX10_thingCame_77 ms_X10_74 _ (s_may 3 (tcE q0 (aN + 3))) rfl rfl (by decide) (Nat.le_of_ble_eq_true rfl) ?_))
            rintro _ _ ⟨rfl, rfl⟩
            refine E_if_ne C 85 dX10_thingCame_80 (by decide) (fun c80 => ?_) (fun c80 => ?_)
            ·
              have m3 : mayB 3 (tcE q0 (aN + 3)) = true := Classical.byContradiction fun q => c80 (if_neg q)
              refine E_aload_n C dX10_thingCame_85 4 rfl (xg_10_0 C dX10_thingCame_86 f_X10_10 (E_iload_n C dX10_thingCame_89 3 rfl (E_iload C dX10_thingCame_90 2 rfl (E_iload C dX10_thingCame_92 1 rfl (E_iload C dX10_thingCame_94 0 rfl ?_)))))
              refine E_callVI C dX10_thingCame_96 mv_X10_78 1 _ (s_addF (show g 0 = nI 8 by rw [X.1.1]; congr 1; omega) (tcE q0 aN) (tcE q0 (aN + 1)) (tcE q0 (aN + 2)) (tcE q0 (aN + 3))) rfl rfl rfl (by decide) (Nat.le_of_ble_eq_true rfl) ?_
              rintro _ _ ⟨rfl, rfl⟩
              refine E_if_lt C 106 dX10_thingCame_99 (by decide) (fun c99 => ?_) (fun c99 => ?_)
              ·
                refine E_iconst (v := 0) C dX10_thingCame_106 ic_0 (E_zretI C hr hlk dX10_thingCame_107 rfl ?_)
                exact Or.inr ⟨fun q => by have q2 := of_decide_eq_true q; exact hcase q2.2.2.2.2.2, rfl, rfl⟩
              ·
                exact absurd (by decide) c99
            ·
              have m3 : ¬ mayB 3 (tcE q0 (aN + 3)) = true := fun q => by rw [if_pos q] at c80; cases c80
              refine E_iconst (v := 0) C dX10_thingCame_83 ic_0 (E_zretI C hr hlk dX10_thingCame_84 rfl ?_)
              exact Or.inr ⟨fun q => by have q2 := of_decide_eq_true q; exact m3 q2.2.2.2.2.1, rfl, rfl⟩
    ·
      have hpl : ¬ aN + 4 ≤ q0.2.2.2.1 := fun q => by rw [if_pos (hpB_of r4 q)] at c6; cases c6
      refine E_iconst (v := 0) C dX10_thingCame_9 ic_0 (E_zretI C hr hlk dX10_thingCame_10 rfl ?_)
      exact Or.inr ⟨fun q => by have q2 := of_decide_eq_true q; exact hpl q2.1, rfl, rfl⟩
theorem byB_0 {nb : Nat} {q : SHT} {d : (Nat → Int32) × (Nat → Int64)} (h : SF nb q d) (hb : byB d.1 = true) : q.1 = 2 ∧ q.2.2.1 = 0 := by
  have hb' := of_decide_eq_true hb
  rw [h.1] at hb'
  have e2 : q.1 = 2 := (nI_eq (b := 2) (by have := h.2.1; omega) (by decide)).mp hb'.1
  have h4 := h.2.2.2 e2
  have z2 := hb'.2
  rw [h4.1] at z2
  have h5 := h4.2.1
  exact ⟨e2, (nI_eq (b := 0) (by omega) (by decide)).mp z2⟩
theorem byB_1 {nb : Nat} {q : SHT} {d : (Nat → Int32) × (Nat → Int64)} (h : SF nb q d) (hq : q.1 = 2 ∧ q.2.2.1 = 0) : byB d.1 = true := by
  obtain ⟨e2, e3⟩ := hq
  have h5 := (h.2.2.2 e2).1
  refine decide_eq_true ⟨?_, ?_⟩
  · rw [h.1, e2]; rfl
  · rw [h5, e3]; rfl
set_option maxRecDepth 100000 in
set_option maxHeartbeats 4000000 in
theorem p_things {l : Launch} {D : va_G} {tc tt ad : Nat → Nat} {S : STT} {kk0 : Nat} {w0 : va_W} (hX : XR ad tc S kk0 w0) (hk600 : kk0 ≤ 600) (x0 i0 n0 : Int32) : Ct l yX10_things cX10_things 7 (some .int) 4 D tc tt [.ref (ad 0), .int x0, .int i0, .int n0] w0 (PI fun r w => r = aThings S x0 i0 n0 ∧ XR ad tc (nThings S x0 i0 n0) (kk0 + 1) w) := by
  obtain ⟨W, g, h, Dv, Sh, u, v, z, y, rfl, X⟩ := hX
  have hn := X.1.1
  have hn8 := X.1.2.1
  have hN := X.1.2.2.1
  have hB := X.1.2.2.2.1
  have hL := X.1.2.2.2.2.2
  by_cases hcase : inS x0 = true
  ·
    obtain ⟨b, hb_b, hbc, rfl⟩ := inS_ex hcase
    have hs := X.sf hb_b
    refine Ct.of (by decide +kernel) (Nat.le_of_ble_eq_true rfl) ?_
    intro p e R s m args below meth c A C hr hlk
    refine E_aload_n C dX10_things_0 0 rfl (E_iload_n C dX10_things_1 1 rfl (E_callVR C dX10_things_2 mv_X10_82 0 _ (s_shelfAt hb_b) rfl rfl rfl (by decide) (Nat.le_of_ble_eq_true rfl) ?_))
    rintro _ _ ⟨rfl, rfl⟩
    refine E_astore C dX10_things_5 (by decide) (E_aload C dX10_things_7 0 rfl (E_ifnull C dX10_things_9 (E_iload_n C dX10_things_12 4 rfl (E_iconst (v := 1) C dX10_things_13 ic_1 (E_icmp_lt C 23 dX10_things_14 (by decide) (fun c14 => ?_) (fun c14 => ?_))))))
    ·
      refine E_iconst (v := -1) C dX10_things_23 ic_m1 (E_iretI C hr hlk dX10_things_24 ?_)
      have hno : ¬ thB (nI b) n0 = true := fun q => by have q2 := of_decide_eq_true q; exact absurd c14 (Int32.not_lt.mpr q2.2.1)
      have hnx : nThings S (nI b) i0 n0 = S := if_neg (fun q => hno q.1)
      rw [hnx]
      exact ⟨(if_neg hno).symm, ⟨W, g, h, Dv, Sh, u, v, z, y, rfl, X.same⟩⟩
    ·
      refine E_iload_n C dX10_things_17 4 rfl (E_bipush (v := 8) C dX10_things_18 bp_8 (E_icmp_le C 25 dX10_things_20 (by decide) (fun c20 => ?_) (fun c20 => ?_)))
      ·
        have hok : thB (nI b) n0 = true := decide_eq_true ⟨hcase, Int32.not_lt.mp c14, c20⟩
        obtain ⟨nn, hn8n, hnc, rfl⟩ := n_of (k := 8) (m := 8) (x := n0) rfl (fun q => c14 (Int32.lt_trans q (by decide))) c20
        have ha0 : aThings S (nI b) i0 (nI nn) = _ := if_pos hok
        rw [hbc] at ha0
        refine E_aload C dX10_things_25 0 rfl (xg_7_1 C (b := b) hb_b dX10_things_27 f_X10_86 ?_)
        refine Ev.seti hs.1 ?_
        refine E_if_ne C 35 dX10_things_30 (by decide) (fun c30 => ?_) (fun c30 => ?_)
        ·
          have tn : ¬ (S.2.2.2.2.2.2 b).1 = 0 := fun q => c30 (by rw [q]; rfl)
          refine E_aload C dX10_things_35 0 rfl (E_callVI C dX10_things_37 mv_X10_90 _ _ (s_holdsBytes hb_b) (xat_sh0 (b := b) hb_b) rfl rfl (by decide) (Nat.le_of_ble_eq_true rfl) ?_)
          rintro _ _ ⟨rfl, rfl⟩
          refine E_if_ne C 46 dX10_things_40 (by decide) (fun c40 => ?_) (fun c40 => ?_)
          ·
            have hbb : (S.2.2.2.2.2.2 b).1 = 2 ∧ (S.2.2.2.2.2.2 b).2.2.1 = 0 := byB_0 hs (Classical.byContradiction fun q => c40 (if_neg q))
            have ha : aThings S (nI b) i0 (nI nn) = _ := ha0.trans ((if_neg tn).trans (if_pos hbb))
            obtain ⟨t2, tz⟩ := hbb
            obtain ⟨r1, r2, r3, r4, r5⟩ := hs.2.2.2 t2
            refine E_iload_n C dX10_things_46 3 rfl (E_if_lt C 56 dX10_things_47 (by decide) (fun c47 => ?_) (fun c47 => ?_))
            ·
              refine E_iconst (v := 0) C dX10_things_56 ic_0 (E_iretI C hr hlk dX10_things_57 ?_)
              have hnx : nThings S (nI b) i0 (nI nn) = S := if_neg (fun q => absurd c47 (Int32.not_lt.mpr q.2.2.1))
              rw [hnx]
              exact ⟨(ha.trans (if_neg fun q => absurd c47 (Int32.not_lt.mpr q.1))).symm, ⟨W, g, h, Dv, Sh, u, v, z, y, rfl, X.same⟩⟩
            ·
              refine E_iload_n C dX10_things_50 3 rfl (E_bipush (v := 60) C dX10_things_51 bp_60 (E_icmp_lt C 58 dX10_things_53 (by decide) (fun c53 => ?_) (fun c53 => ?_)))
              ·
                have h0 : 0 ≤ i0 := Int32.not_lt.mp c47
                obtain ⟨iN, hi31, rfl⟩ := nI_of c47
                have hi60 : iN < 60 := (nI_ltI (b := 60) hi31 (by decide)).mp c53
                have hlt60 : nI iN < 60 := c53
                refine E_iconst (v := 0) C dX10_things_58 ic_0 (E_istore C dX10_things_59 (by decide) (E_iconst (v := 0) C dX10_things_61 ic_0 (E_istore C dX10_things_62 (by decide) ?_)))
                have K : ∀ (f k : Nat) (S1 : STT) (W1 : Nat → Nat → Int32) (g1 : Nat → Int32), k ≤ nn → nn < k + f → S1.2 = S.2 → XJ S1 kk0 k W1 g1 h Dv Sh u v → thR (S.2.2.2.2.2.2 b) nn iN S = ((thR (S.2.2.2.2.2.2 b) (nn - k) (iN + 4 * k) S1).1 + k, (thR (S.2.2.2.2.2.2 b) (nn - k) (iN + 4 * k) S1).2) → Ev p l e R s m args below meth c 0 0 (EQ below (PI fun r w => r = aThings S (nI b) (nI iN) (nI nn) ∧ XR ad tc (nThings S (nI b) (nI iN) (nI nn)) (kk0 + 1) w) args s D A) D A 7 (hx ad tc W1 g1 h Dv Sh u v z y) 64 [(6, .int (nI k)), (5, .int (nI k)), (4, .ref (ad (52 + 2 * b))), (0, .ref (ad 0)), (1, .int (nI b)), (2, .int (nI iN)), (3, .int (nI nn))] [] := by
                  intro f
                  induction f with
                  | zero => intro k S1 W1 g1 h1 h2; exfalso; omega
                  | succ f ih =>
                    intro k S1 W1 g1 h1 h2 h2S X1 hres
                    refine E_iload C dX10_things_64 0 rfl (E_iload_n C dX10_things_66 6 rfl (E_icmp_ge C 97 dX10_things_67 (by decide) (fun c67 => ?_) (fun c67 => ?_)))
                    ·
                      refine E_iload C dX10_things_97 1 rfl (E_iretI C hr hlk dX10_things_99 ?_)
                      have hk : k = nn := by
                        rcases Nat.lt_or_ge k nn with q | q
                        · exact absurd (show nI nn ≤ nI k from c67) (nI_ge q (by omega))
                        · omega
                      have hend : thR (S.2.2.2.2.2.2 b) (nn - k) (iN + 4 * k) S1 = (0, S1) := by rw [hk, Nat.sub_self]; rfl
                      have ha2 := ha.trans (if_pos ⟨h0, hlt60⟩)
                      rw [nI_clamp (show iN < 2 ^ 31 by omega), hnc, hres] at ha2
                      have hnx : nThings S (nI b) (nI iN) (nI nn) = _ := if_pos ⟨hok, by rw [hbc]; exact ⟨t2, tz⟩, h0, hlt60⟩
                      rw [hbc, nI_clamp (show iN < 2 ^ 31 by omega), hnc, hres] at hnx
                      rw [hnx]
                      refine ⟨Eq.trans ?_ ha2.symm, ⟨W1, g1, h, Dv, Sh, u, v, z, y, rfl, ?_⟩⟩
                      · show _ = nI ((thR (S.2.2.2.2.2.2 b) (nn - k) (iN + 4 * k) S1).1 + k)
                        rw [hend]
                        exact congrArg nI (Nat.zero_add k).symm
                      · show XAll ((thR (S.2.2.2.2.2.2 b) (nn - k) (iN + 4 * k) S1).2) _ _ _ _ _ _ _ _
                        rw [hend]
                        exact X1.all (by omega)
                    ·
                      have hk : k < nn := by
                        rcases Nat.lt_or_ge k nn with q | q
                        · exact q
                        · exact absurd (show nI nn ≤ nI k from nI_le q (by omega)) c67
                      refine E_aload_n C dX10_things_70 3 rfl (E_aload C dX10_things_71 2 rfl (E_iload_n C dX10_things_73 5 rfl (E_iconst (v := 4) C dX10_things_74 ic_4 (E_iload C dX10_things_75 0 rfl (E_imul C dX10_things_77 ?_)))))
                      refine Ev.seti (show (4 : Int32) * nI k = nI (4 * k) from pk_mul 4 k) ?_
                      refine E_iadd C dX10_things_78 ?_
                      refine Ev.seti (nI_add iN (4 * k)) ?_
                      refine E_callVI C dX10_things_79 mv_X10_94 0 _ (s_thingCame hb_b X1 r3 r4 r5 (iN + 4 * k) (by omega)) rfl rfl rfl (by decide) (Nat.le_of_ble_eq_true rfl) ?_
                      rintro _ _ (⟨htb, rfl, W2, g2, rfl, X2⟩ | ⟨htb, rfl, rfl⟩)
                      ·
                        refine E_if_ne C 88 dX10_things_82 (by decide) (fun c82 => ?_) (fun c82 => ?_)
                        ·
                          refine E_iinc C dX10_things_88 1 rfl (nI_1 k) (by decide) (E_iinc C dX10_things_91 1 rfl (nI_1 k) (by decide) (E_goto C 64 dX10_things_94 (by decide) ?_))
                          refine Ev.sub [0, 1, 2, 3, 4, 5, 6] rfl (ih (k + 1) (tcS (S.2.2.2.2.2.2 b) S1 (iN + 4 * k)) W2 g2 (by omega) (by omega) h2S X2 ?_)
                          rw [hres, show nn - k = (nn - (k + 1)) + 1 by omega]
                          have e : thR (S.2.2.2.2.2.2 b) (nn - (k + 1) + 1) (iN + 4 * k) S1 = _ := if_pos htb
                          rw [e, show iN + 4 * (k + 1) = iN + 4 * k + 4 by omega]
                          exact Prod.ext (by show _ + 1 + k = _ + (k + 1); omega) rfl
                        ·
                          exact absurd c82 (by decide)
                      ·
                        refine E_if_ne C 88 dX10_things_82 (by decide) (fun c82 => ?_) (fun c82 => ?_)
                        ·
                          exact absurd rfl c82
                        ·
                          refine E_goto C 97 dX10_things_85 (by decide) (E_iload C dX10_things_97 1 rfl (E_iretI C hr hlk dX10_things_99 ?_))
                          have hend : thR (S.2.2.2.2.2.2 b) (nn - k) (iN + 4 * k) S1 = (0, S1) := by
                            rw [show nn - k = (nn - (k + 1)) + 1 by omega]
                            exact if_neg htb
                          have ha2 := ha.trans (if_pos ⟨h0, hlt60⟩)
                          rw [nI_clamp (show iN < 2 ^ 31 by omega), hnc, hres] at ha2
                          have hnx : nThings S (nI b) (nI iN) (nI nn) = _ := if_pos ⟨hok, by rw [hbc]; exact ⟨t2, tz⟩, h0, hlt60⟩
                          rw [hbc, nI_clamp (show iN < 2 ^ 31 by omega), hnc, hres] at hnx
                          rw [hnx]
                          refine ⟨Eq.trans ?_ ha2.symm, ⟨W1, g1, h, Dv, Sh, u, v, z, y, rfl, ?_⟩⟩
                          · show _ = nI ((thR (S.2.2.2.2.2.2 b) (nn - k) (iN + 4 * k) S1).1 + k)
                            rw [hend]
                            exact congrArg nI (Nat.zero_add k).symm
                          · show XAll ((thR (S.2.2.2.2.2.2 b) (nn - k) (iN + 4 * k) S1).2) _ _ _ _ _ _ _ _
                            rw [hend]
                            exact X1.all (by omega)
                exact Ev.sub [0, 1, 2, 3, 4, 5, 6] rfl (K (nn + 1) 0 S W g (by omega) (by omega) rfl X.j rfl)
              ·
                refine E_iconst (v := 0) C dX10_things_56 ic_0 (E_iretI C hr hlk dX10_things_57 ?_)
                have hnx : nThings S (nI b) i0 (nI nn) = S := if_neg (fun q => c53 q.2.2.2)
                rw [hnx]
                exact ⟨(ha.trans (if_neg fun q => c53 q.2)).symm, ⟨W, g, h, Dv, Sh, u, v, z, y, rfl, X.same⟩⟩
          ·
            have hbb : ¬ ((S.2.2.2.2.2.2 b).1 = 2 ∧ (S.2.2.2.2.2.2 b).2.2.1 = 0) := fun q => by rw [if_pos (byB_1 hs q)] at c40; cases c40
            refine E_bipush (v := -12) C dX10_things_43 bp_m12 (E_iretI C hr hlk dX10_things_45 ?_)
            have hnx : nThings S (nI b) i0 (nI nn) = S := if_neg (fun q => by have q2 := q.2.1; rw [hbc] at q2; exact hbb q2)
            rw [hnx]
            exact ⟨(ha0.trans ((if_neg tn).trans (if_neg hbb))).symm, ⟨W, g, h, Dv, Sh, u, v, z, y, rfl, X.same⟩⟩
        ·
          have tn : (S.2.2.2.2.2.2 b).1 = 0 := (nI_eq (b := 0) (by have := hs.2.1; omega) (by decide)).mp c30
          refine E_iconst (v := 0) C dX10_things_33 ic_0 (E_iretI C hr hlk dX10_things_34 ?_)
          have hnx : nThings S (nI b) i0 (nI nn) = S := if_neg (fun q => by have q2 := q.2.1.1; rw [hbc] at q2; exact absurd (tn.symm.trans q2) (by decide))
          rw [hnx]
          exact ⟨(ha0.trans (if_pos tn)).symm, ⟨W, g, h, Dv, Sh, u, v, z, y, rfl, X.same⟩⟩
      ·
        refine E_iconst (v := -1) C dX10_things_23 ic_m1 (E_iretI C hr hlk dX10_things_24 ?_)
        have hno : ¬ thB (nI b) n0 = true := fun q => by have q2 := of_decide_eq_true q; exact c20 q2.2.2
        have hnx : nThings S (nI b) i0 n0 = S := if_neg (fun q => hno q.1)
        rw [hnx]
        exact ⟨(if_neg hno).symm, ⟨W, g, h, Dv, Sh, u, v, z, y, rfl, X.same⟩⟩
  ·
    refine Ct.of (by decide +kernel) (Nat.le_of_ble_eq_true rfl) ?_
    intro p e R s m args below meth c A C hr hlk
    refine E_aload_n C dX10_things_0 0 rfl (E_iload_n C dX10_things_1 1 rfl (E_callVR C dX10_things_2 mv_X10_82 0 _ (s_shelfAtN x0 hcase) rfl rfl rfl (by decide) (Nat.le_of_ble_eq_true rfl) ?_))
    rintro _ _ ⟨rfl, rfl⟩
    refine E_astoreN C dX10_things_5 (by decide) (E_aloadN C dX10_things_7 0 rfl (E_ifnullN C 23 dX10_things_9 (by decide) (E_iconst (v := -1) C dX10_things_23 ic_m1 (E_iretI C hr hlk dX10_things_24 ?_))))
    have hno : ¬ thB x0 n0 = true := fun q => hcase (of_decide_eq_true q).1
    have hnx : nThings S x0 i0 n0 = S := if_neg (fun q => hno q.1)
    rw [hnx]
    exact ⟨(if_neg hno).symm, ⟨W, g, h, Dv, Sh, u, v, z, y, rfl, X.same⟩⟩
set_option maxRecDepth 100000 in
set_option maxHeartbeats 4000000 in
theorem s_firstUntrue {l : Launch} {D : va_G} {tc tt ad : Nat → Nat} {W : Nat → Nat → Int32} {g : Nat → Int32} {h : Nat → Nat → Int32} {Dv : Nat → (Nat → Int32) × (Nat → Nat → Int32)} {Sh : Nat → (Nat → Int32) × (Nat → Int64)} {u : Nat → Int32} {v : Nat → Nat → Int32} {z : Int64} {y : Nat → Int64} {b : Nat} (hb_b : b < 6) {q0 : SHT} (r3 : (Sh b).1 3 = nI q0.2.2.2.1) (r4 : q0.2.2.2.1 ≤ 60) (r5 : ∀ j, j < q0.2.2.2.1 → (Sh b).2 j = q0.2.2.2.2 j) {on st fo : Nat} {dt : DT} (hq : DRel True (Dv 0) on st fo dt) (hgl : dt.2.2.2.1.length ≤ 8) : Ct l yX10_firstUntrue cX10_firstUntrue 4 (some .int) 2 D tc tt [.ref (ad (52 + 2 * b)), .ref (ad 36)] (hx ad tc W g h Dv Sh u v z y) (PI fun r w => r = fuR q0 dt.2.2.2.1 61 0 ∧ w = hx ad tc W g h Dv Sh u v z y) := by
  refine Ct.of (by decide +kernel) (Nat.le_of_ble_eq_true rfl) ?_
  intro p e R s m args below meth c A C hr hlk
  have K : ∀ (n t : Nat), t ≤ 61 → 61 < t + n → fuR q0 dt.2.2.2.1 61 0 = fuR q0 dt.2.2.2.1 (61 - t) t → Ev p l e R s m args below meth c 0 0 (EQ below (PI fun r w => r = fuR q0 dt.2.2.2.1 61 0 ∧ w = hx ad tc W g h Dv Sh u v z y) args s D A) D A 4 (hx ad tc W g h Dv Sh u v z y) 2 [(2, .int (nI t)), (0, .ref (ad (52 + 2 * b))), (1, .ref (ad 36))] [] := by
    intro n
    induction n with
    | zero =>
      intro t h1 h2 hres
      exfalso; omega
    | succ n ih =>
      intro t h1 h2 hres
      refine E_iload_n C dX10_firstUntrue_2 0 rfl (E_bipush (v := 60) C dX10_firstUntrue_3 bp_60 (E_icmp_gt C 106 dX10_firstUntrue_5 (by decide) (fun c5 => ?_) (fun c5 => ?_)))
      ·
        have ht : t = 61 := by
          rcases Nat.lt_or_ge t 61 with q | q
          · exact absurd (show nI 60 < nI t from c5) (nI_nlt (by omega) (by decide))
          · omega
        refine E_bipush (v := -2) C dX10_firstUntrue_106 bp_m2 (E_iretI C hr hlk dX10_firstUntrue_108 ?_)
        rw [ht] at hres
        exact ⟨hres.symm, rfl⟩
      ·
        have ht : t < 61 := by
          rcases Nat.lt_or_ge t 61 with q | q
          · exact q
          · exact absurd (show nI 60 < nI t from nI_lt (by omega) (by omega)) c5
        have e61 : 61 - t = (61 - (t + 1)) + 1 := by omega
        rw [e61] at hres
        refine E_iload_n C dX10_firstUntrue_8 0 rfl (E_aload_n C dX10_firstUntrue_9 2 rfl (xg_3_10 C (b := 0) (by decide) dX10_firstUntrue_10 f_X10_136 ?_))
        refine Ev.seti hq.2.2.2.2.2.2.1 ?_
        refine E_icmp_ge C 26 dX10_firstUntrue_13 (by decide) (fun c13 => ?_) (fun c13 => ?_)
        ·
          have hge : dt.2.2.2.1.length ≤ t := Classical.byContradiction fun q => nI_ge (show t < dt.2.2.2.1.length by omega) (by omega) c13
          rw [fuR_n hge] at hres
          refine E_iconst (v := 0) C dX10_firstUntrue_26 ic_0 (E_istore_n C dX10_firstUntrue_27 (by decide) (E_iload_n C dX10_firstUntrue_28 0 rfl (E_if_ne C 49 dX10_firstUntrue_29 (by decide) (fun c29 => ?_) (fun c29 => ?_))))
          ·
            exact absurd rfl c29
          ·
            refine E_iconst (v := 2) C dX10_firstUntrue_32 ic_2 (E_iload_n C dX10_firstUntrue_33 1 rfl (E_imul C dX10_firstUntrue_34 ?_))
            refine Ev.seti (show (2 : Int32) * nI t = nI (2 * t) from pk_mul 2 t) ?_
            refine E_aload_n C dX10_firstUntrue_35 2 rfl (xg_7_4 C (b := b) hb_b dX10_firstUntrue_36 f_X10_333 ?_)
            refine Ev.seti r3 ?_
            refine E_icmp_lt C 47 dX10_firstUntrue_39 (by decide) (fun c39 => ?_) (fun c39 => ?_)
            ·
              rw [if_neg (show ¬ q0.2.2.2.1 ≤ 2 * t from fun q => nI_nlt q (by omega) c39)] at hres
              refine E_iload_n C dX10_firstUntrue_47 1 rfl (E_iretI C hr hlk dX10_firstUntrue_48 ?_)
              exact ⟨hres.symm, rfl⟩
            ·
              rw [if_pos (show q0.2.2.2.1 ≤ 2 * t from Classical.byContradiction fun q => c39 (nI_lt (by omega) (by omega)))] at hres
              refine E_bipush (v := -2) C dX10_firstUntrue_42 bp_m2 (E_goto C 48 dX10_firstUntrue_44 (by decide) (E_iretI C hr hlk dX10_firstUntrue_48 ?_))
              exact ⟨hres.symm, rfl⟩
        ·
          have hlt : t < dt.2.2.2.1.length := Classical.byContradiction fun q => c13 (nI_le (by omega) (by omega))
          have hge : dt.2.2.2.1[t]? = some (dt.2.2.2.1[t]) := List.getElem?_eq_getElem hlt
          obtain ⟨⟨w1, w2, w3⟩, hw⟩ : ∃ w, dt.2.2.2.1[t]? = some w := ⟨_, hge⟩
          rw [fuR_s hw] at hres
          obtain ⟨k1, k2, k3⟩ := hq.2.2.2.2.2.2.2.2.2 trivial t _ _ _ hw
          refine E_iload_n C dX10_firstUntrue_16 0 rfl (E_bipush (v := 8) C dX10_firstUntrue_17 bp_8 (E_icmp_ge C 26 dX10_firstUntrue_19 (by decide) (fun c19 => ?_) (fun c19 => ?_)))
          ·
            exact absurd (show nI 8 ≤ nI t from c19) (nI_ge (by omega) (by decide))
          ·
            refine E_iconst (v := 1) C dX10_firstUntrue_22 ic_1 (E_goto C 27 dX10_firstUntrue_23 (by decide) (E_istore_n C dX10_firstUntrue_27 (by decide) (E_iload_n C dX10_firstUntrue_28 0 rfl (E_if_ne C 49 dX10_firstUntrue_29 (by decide) (fun c29_2 => ?_) (fun c29_2 => ?_)))))
            ·
              refine E_aload_n C dX10_firstUntrue_49 2 rfl (E_iconst (v := 2) C dX10_firstUntrue_50 ic_2 (E_iload_n C dX10_firstUntrue_51 1 rfl (E_imul C dX10_firstUntrue_52 ?_)))
              refine Ev.seti (show (2 : Int32) * nI t = nI (2 * t) from pk_mul 2 t) ?_
              refine E_iconst (v := 2) C dX10_firstUntrue_53 ic_2 (E_callVI C dX10_firstUntrue_54 mv_X10_308 _ _ (s_hasPlaces hb_b (nI (2 * t)) 2) (xat_sh0 (b := b) hb_b) rfl rfl (by decide) (Nat.le_of_ble_eq_true rfl) ?_)
              rintro _ _ ⟨rfl, rfl⟩
              refine Ev.seti (show _ = (if hpB (nI q0.2.2.2.1) (nI (2 * t)) (nI 2) = true then 1 else 0) by rw [r3]; rfl) ?_
              refine E_if_eq C 98 dX10_firstUntrue_57 (by decide) (fun c57 => ?_) (fun c57 => ?_)
              ·
                have hpl : ¬ 2 * t + 2 ≤ q0.2.2.2.1 := fun q => by rw [if_pos (hpB_of r4 q)] at c57; cases c57
                rw [if_neg (fun q => hpl q.1)] at hres
                refine E_iload_n C dX10_firstUntrue_98 1 rfl (E_iretI C hr hlk dX10_firstUntrue_99 ?_)
                exact ⟨hres.symm, rfl⟩
              ·
                have hpl : 2 * t + 2 ≤ q0.2.2.2.1 := Classical.byContradiction fun q => c57 (if_neg (hpB_not r4 (by omega) (by decide) q))
                refine E_aload_n C dX10_firstUntrue_60 2 rfl (E_iconst (v := 2) C dX10_firstUntrue_61 ic_2 (E_iload_n C dX10_firstUntrue_62 1 rfl (E_imul C dX10_firstUntrue_63 ?_)))
                refine Ev.seti (show (2 : Int32) * nI t = nI (2 * t) from pk_mul 2 t) ?_
                refine E_callVL C dX10_firstUntrue_64 mv_X10_302 _ _ (s_elementAt hb_b r3 r4 (j := 2 * t) (by omega)) (xat_sh0 (b := b) hb_b) rfl rfl (by decide) (Nat.le_of_ble_eq_true rfl) ?_
                rintro _ _ ⟨rfl, rfl⟩
                refine Ev.setl (r5 (2 * t) (by omega)) ?_
                refine E_aload_n C dX10_firstUntrue_67 3 rfl (xg_3_1 C (b := 0) (by decide) dX10_firstUntrue_68 f_X10_148 (E_iload_n C dX10_firstUntrue_71 1 rfl (xa_dr1 C (b := 0) (by decide) dX10_firstUntrue_72 (vinN (by omega)) ?_)))
                rw [nI_clamp (show t < 2 ^ 31 by omega)]
                refine Ev.seti k1 ?_
                refine E_i2l C dX10_firstUntrue_73 (E_lcmp C dX10_firstUntrue_74 (E_if_ne C 98 dX10_firstUntrue_75 (by decide) (fun c75 => ?_) (fun c75 => ?_)))
                ·
                  have n1 : ¬ q0.2.2.2.2 (2 * t) = (nI w1).toInt64 := fun q => c75 (lg_cmp0.mpr q)
                  rw [if_neg (fun q => n1 q.2.1)] at hres
                  refine E_iload_n C dX10_firstUntrue_98 1 rfl (E_iretI C hr hlk dX10_firstUntrue_99 ?_)
                  exact ⟨hres.symm, rfl⟩
                ·
                  have n1 : q0.2.2.2.2 (2 * t) = (nI w1).toInt64 := lg_cmp0.mp c75
                  refine E_aload_n C dX10_firstUntrue_78 2 rfl (E_iconst (v := 2) C dX10_firstUntrue_79 ic_2 (E_iload_n C dX10_firstUntrue_80 1 rfl (E_imul C dX10_firstUntrue_81 ?_)))
                  refine Ev.seti (show (2 : Int32) * nI t = nI (2 * t) from pk_mul 2 t) ?_
                  refine E_iconst (v := 1) C dX10_firstUntrue_82 ic_1 (E_iadd C dX10_firstUntrue_83 ?_)
                  refine Ev.seti (nI_1 (2 * t)) ?_
                  refine E_callVL C dX10_firstUntrue_84 mv_X10_302 _ _ (s_elementAt hb_b r3 r4 (j := 2 * t + 1) (by omega)) (xat_sh0 (b := b) hb_b) rfl rfl (by decide) (Nat.le_of_ble_eq_true rfl) ?_
                  rintro _ _ ⟨rfl, rfl⟩
                  refine Ev.setl (r5 (2 * t + 1) (by omega)) ?_
                  refine E_aload_n C dX10_firstUntrue_87 3 rfl (xg_3_3 C (b := 0) (by decide) dX10_firstUntrue_88 f_X10_155 (E_iload_n C dX10_firstUntrue_91 1 rfl (xa_dr3 C (b := 0) (by decide) dX10_firstUntrue_92 (vinN (by omega)) ?_)))
                  rw [nI_clamp (show t < 2 ^ 31 by omega)]
                  refine Ev.seti k3 ?_
                  refine E_i2l C dX10_firstUntrue_93 (E_lcmp C dX10_firstUntrue_94 (E_if_eq C 100 dX10_firstUntrue_95 (by decide) (fun c95 => ?_) (fun c95 => ?_)))
                  ·
                    have n3 : q0.2.2.2.2 (2 * t + 1) = (nI w3).toInt64 := lg_cmp0.mp c95
                    rw [if_pos ⟨hpl, n1, n3⟩] at hres
                    refine E_iinc C dX10_firstUntrue_100 1 rfl (nI_1 t) (by decide) (E_goto C 2 dX10_firstUntrue_103 (by decide) ?_)
                    exact Ev.sub [0, 2, 3] rfl (ih (t + 1) (by omega) (by omega) hres)
                  ·
                    have n3 : ¬ q0.2.2.2.2 (2 * t + 1) = (nI w3).toInt64 := fun q => c95 (lg_cmp0.mpr q)
                    rw [if_neg (fun q => n3 q.2.2)] at hres
                    refine E_iload_n C dX10_firstUntrue_98 1 rfl (E_iretI C hr hlk dX10_firstUntrue_99 ?_)
                    exact ⟨hres.symm, rfl⟩
            ·
              exact absurd c29_2 (by decide)
  refine E_iconst (v := 0) C dX10_firstUntrue_0 ic_0 (E_istore_n C dX10_firstUntrue_1 (by decide) ?_)
  exact K 62 0 (by omega) (by omega) rfl
set_option maxRecDepth 100000 in
set_option maxHeartbeats 4000000 in
theorem p_judge {l : Launch} {D : va_G} {tc tt ad : Nat → Nat} {S : STT} {kk0 : Nat} {w0 : va_W} (hX : XR ad tc S kk0 w0) (hk600 : kk0 ≤ 600) (x0 told : Int32) : Ct l yX10_judge cX10_judge 5 (some .int) 8 D tc tt [.ref (ad 0), .int x0, .int told] w0 (PI fun r w => r = aJudge S x0 told ∧ XR ad tc S (kk0 + 1) w) := by
  obtain ⟨W, g, h, Dv, Sh, u, v, z, y, rfl, X⟩ := hX
  have hn := X.1.1
  have hn8 := X.1.2.1
  have hN := X.1.2.2.1
  have hB := X.1.2.2.2.1
  have hL := X.1.2.2.2.2.2
  by_cases hcase : inS x0 = true
  ·
    obtain ⟨b, hb_b, hbc, rfl⟩ := inS_ex hcase
    have hs := X.sf hb_b
    refine Ct.of (by decide +kernel) (Nat.le_of_ble_eq_true rfl) ?_
    intro p e R s m args below meth c A C hr hlk
    refine E_aload_n C dX10_judge_0 0 rfl (E_iload_n C dX10_judge_1 1 rfl (E_callVR C dX10_judge_2 mv_X10_82 0 _ (s_shelfAt hb_b) rfl rfl rfl (by decide) (Nat.le_of_ble_eq_true rfl) ?_))
    rintro _ _ ⟨rfl, rfl⟩
    refine E_astore_n C dX10_judge_5 (by decide) (E_aload_n C dX10_judge_6 0 rfl (E_ifnull C dX10_judge_7 (E_aload_n C dX10_judge_10 1 rfl (xg_10_0 C dX10_judge_11 f_X10_10 (E_iload_n C dX10_judge_14 3 rfl ?_)))))
    refine E_callVI C dX10_judge_15 mv_X10_125 1 _ (s_knows hn hn8 told) rfl rfl rfl (by decide) (Nat.le_of_ble_eq_true rfl) ?_
    rintro _ _ ⟨rfl, rfl⟩
    refine E_if_ne C 23 dX10_judge_18 (by decide) (fun c18 => ?_) (fun c18 => ?_)
    ·
      have hkn : knB S.1.1 told = true := Classical.byContradiction fun q => c18 (if_neg q)
      obtain ⟨t, hlt, hcl, rfl⟩ := knB_ex hn8 hkn
      have hp256 := p256 hn8
      have ha : aJudge S (nI b) (nI t) = _ := if_pos ⟨hcase, hkn⟩
      rw [hbc, hcl] at ha
      refine E_aload_n C dX10_judge_23 0 rfl (E_callVI C dX10_judge_24 mv_X10_201 _ _ (s_refusalOfBytes hb_b) (xat_sh0 (b := b) hb_b) rfl rfl (by decide) (Nat.le_of_ble_eq_true rfl) ?_)
      rintro _ _ ⟨rfl, rfl⟩
      refine Ev.seti hs.rb ?_
      refine E_istore C dX10_judge_27 (by decide) (E_iload C dX10_judge_29 0 rfl (E_if_eq C 37 dX10_judge_31 (by decide) (fun c31 => ?_) (fun c31 => ?_)))
      ·
        obtain ⟨t2, tz⟩ := rfBn_0 c31
        obtain ⟨r1, r2, r3, r4, r5⟩ := hs.2.2.2 t2
        refine E_aload_n C dX10_judge_37 2 rfl (xg_10_3 C dX10_judge_38 f_X10_35 (E_iload_n C dX10_judge_41 4 rfl (E_callVV C dX10_judge_42 mv_X10_129 _ _ (s_wholeWith_0 hN hB hL t (by omega)) (xat_dr0 (b := 0) (by decide)) rfl rfl (by decide) (Nat.le_of_ble_eq_true rfl) ?_)))
        rintro _ ⟨Dv2, v2, rfl, hf2, hv2, hq2⟩
        have hwi := whole_inv hB (L := S.1.2.2) (show t < 256 by omega)
        have hgl8 : (whole S.1.2.1 S.1.2.2 t).2.2.2.1.length ≤ 8 := by rw [hwi.2.2]; exact pop_le _
        refine E_aload_n C dX10_judge_45 1 rfl (E_aload_n C dX10_judge_46 2 rfl (xg_10_3 C dX10_judge_47 f_X10_35 (E_callSI C dX10_judge_50 ms_X10_204 _ (s_firstUntrue hb_b r3 r4 r5 hq2 hgl8) rfl rfl (by decide) (Nat.le_of_ble_eq_true rfl) ?_)))
        rintro _ _ ⟨rfl, rfl⟩
        refine E_iretI C hr hlk dX10_judge_53 ?_
        exact ⟨(ha.trans (if_pos c31)).symm, ⟨W, g, h, Dv2, Sh, u, v2, z, y, rfl, X.thought (hf2 2 (by decide)) (hf2 3 (by decide)) rfl (hv2 4 (by decide) (by decide)) (hv2 5 (by decide) (by decide)) (hv2 6 (by decide) (by decide))⟩⟩
      ·
        refine E_iload C dX10_judge_34 0 rfl (E_iretI C hr hlk dX10_judge_36 ?_)
        exact ⟨(ha.trans (if_neg c31)).symm, ⟨W, g, h, Dv, Sh, u, v, z, y, rfl, X.same⟩⟩
    ·
      have hkn : ¬ knB S.1.1 told = true := fun q => by rw [if_pos q] at c18; cases c18
      refine E_iconst (v := -1) C dX10_judge_21 ic_m1 (E_iretI C hr hlk dX10_judge_22 ?_)
      exact ⟨(if_neg fun q => hkn q.2).symm, ⟨W, g, h, Dv, Sh, u, v, z, y, rfl, X.same⟩⟩
  ·
    refine Ct.of (by decide +kernel) (Nat.le_of_ble_eq_true rfl) ?_
    intro p e R s m args below meth c A C hr hlk
    refine E_aload_n C dX10_judge_0 0 rfl (E_iload_n C dX10_judge_1 1 rfl (E_callVR C dX10_judge_2 mv_X10_82 0 _ (s_shelfAtN x0 hcase) rfl rfl rfl (by decide) (Nat.le_of_ble_eq_true rfl) ?_))
    rintro _ _ ⟨rfl, rfl⟩
    refine E_astore_nN C dX10_judge_5 (by decide) (E_aload_nN C dX10_judge_6 0 rfl (E_ifnullN C 21 dX10_judge_7 (by decide) (E_iconst (v := -1) C dX10_judge_21 ic_m1 (E_iretI C hr hlk dX10_judge_22 ?_))))
    exact ⟨(if_neg (fun q => hcase q.1)).symm, ⟨W, g, h, Dv, Sh, u, v, z, y, rfl, X.same⟩⟩
set_option maxRecDepth 100000 in
set_option maxHeartbeats 4000000 in
theorem p_which {l : Launch} {D : va_G} {tc tt ad : Nat → Nat} {S : STT} {kk0 : Nat} {w0 : va_W} (hX : XR ad tc S kk0 w0) (hk600 : kk0 ≤ 600) (x0 what : Int32) : Ct l yX10_which cX10_which 9 (some .int) 8 D tc tt [.ref (ad 0), .int x0, .int what] w0 (PI fun r w => r = aWhich S x0 what ∧ XR ad tc S (kk0 + 1) w) := by
  obtain ⟨W, g, h, Dv, Sh, u, v, z, y, rfl, X⟩ := hX
  have hn := X.1.1
  have hn8 := X.1.2.1
  have hN := X.1.2.2.1
  have hB := X.1.2.2.2.1
  have hL := X.1.2.2.2.2.2
  by_cases hcase : inS x0 = true
  ·
    obtain ⟨b, hb_b, hbc, rfl⟩ := inS_ex hcase
    have hs := X.sf hb_b
    refine Ct.of (by decide +kernel) (Nat.le_of_ble_eq_true rfl) ?_
    intro p e R s m args below meth c A C hr hlk
    refine E_aload_n C dX10_which_0 0 rfl (E_iload_n C dX10_which_1 1 rfl (E_callVR C dX10_which_2 mv_X10_82 0 _ (s_shelfAt hb_b) rfl rfl rfl (by decide) (Nat.le_of_ble_eq_true rfl) ?_))
    rintro _ _ ⟨rfl, rfl⟩
    refine E_astore_n C dX10_which_5 (by decide) (E_aload_n C dX10_which_6 0 rfl (E_ifnull C dX10_which_7 (E_iload_n C dX10_which_10 3 rfl (E_if_lt C 19 dX10_which_11 (by decide) (fun c11 => ?_) (fun c11 => ?_)))))
    ·
      refine E_iconst (v := -1) C dX10_which_19 ic_m1 (E_iretI C hr hlk dX10_which_20 ?_)
      exact ⟨(if_neg fun q => absurd c11 (Int32.not_lt.mpr q.2.1)).symm, ⟨W, g, h, Dv, Sh, u, v, z, y, rfl, X.same⟩⟩
    ·
      refine E_iload_n C dX10_which_14 3 rfl (E_iconst (v := 2) C dX10_which_15 ic_2 (E_icmp_le C 21 dX10_which_16 (by decide) (fun c16 => ?_) (fun c16 => ?_)))
      ·
        have ha0 : aWhich S (nI b) what = _ := if_pos ⟨hcase, Int32.not_lt.mp c11, c16⟩
        rw [hbc] at ha0
        refine E_aload_n C dX10_which_21 0 rfl (E_callVI C dX10_which_22 mv_X10_201 _ _ (s_refusalOfBytes hb_b) (xat_sh0 (b := b) hb_b) rfl rfl (by decide) (Nat.le_of_ble_eq_true rfl) ?_)
        rintro _ _ ⟨rfl, rfl⟩
        refine Ev.seti hs.rb ?_
        refine E_istore C dX10_which_25 (by decide) (E_iload C dX10_which_27 0 rfl (E_if_eq C 35 dX10_which_29 (by decide) (fun c29 => ?_) (fun c29 => ?_)))
        ·
          have ha : aWhich S (nI b) what = whK _ what := ha0.trans (if_pos c29)
          obtain ⟨t2, tz⟩ := rfBn_0 c29
          obtain ⟨r1, r2, r3, r4, r5⟩ := hs.2.2.2 t2
          have hp256 := p256 hn8
          refine E_iconst (v := 0) C dX10_which_35 ic_0 (E_istore C dX10_which_36 (by decide) (E_bipush (v := -2) C dX10_which_38 bp_m2 (E_istore C dX10_which_40 (by decide) (E_iconst (v := 0) C dX10_which_42 ic_0 (E_istore C dX10_which_43 (by decide) ?_)))))
          refine E_iconst (v := 0) C dX10_which_45 ic_0 (E_istore C dX10_which_46 (by decide) ?_)
          have K : ∀ (f i : Nat) (Dv1 : DV) (v1 : Nat → Nat → Int32), i ≤ 2 ^ S.1.1 → 2 ^ S.1.1 < i + f → (∀ k, k ≠ 0 → Dv1 k = Dv k) → (∀ k, k ≠ 0 → k ≠ 1 → v1 k = v k) → Ev p l e R s m args below meth c 0 0 (EQ below (PI fun r w => r = aWhich S (nI b) what ∧ XR ad tc S (kk0 + 1) w) args s D A) D A 9 (hx ad tc W g h Dv1 Sh u v1 z y) 48 [(8, .int (nI i)), (7, .int (nI (whF (judF S (S.2.2.2.2.2.2 b)) i).2.2)), (6, .int (whF (judF S (S.2.2.2.2.2.2 b)) i).2.1), (5, .int (nI (whF (judF S (S.2.2.2.2.2.2 b)) i).1)), (3, .ref (ad (52 + 2 * b))), (0, .ref (ad 0)), (1, .int (nI b)), (2, .int what)] [] := by
            intro f
            induction f with
            | zero => intro i Dv1 v1 h1 h2; exfalso; omega
            | succ f ih =>
              intro i Dv1 v1 h1 h2 hf1 hv1
              refine E_iload C dX10_which_48 0 rfl (E_aload_n C dX10_which_50 5 rfl (xg_10_0 C dX10_which_51 f_X10_10 (E_callVI C dX10_which_54 mv_X10_208 1 _ (s_sets hn hn8) rfl rfl rfl (by decide) (Nat.le_of_ble_eq_true rfl) ?_)))
              rintro _ _ ⟨rfl, rfl⟩
              refine E_icmp_ge C 122 dX10_which_57 (by decide) (fun c57 => ?_) (fun c57 => ?_)
              ·
                obtain rfl : i = 2 ^ S.1.1 := by
                  rcases Nat.lt_or_ge i (2 ^ S.1.1) with q | q
                  · exact absurd (show nI (2 ^ S.1.1) ≤ nI i from c57) (nI_ge q (by omega))
                  · omega
                refine E_iload_n C dX10_which_122 7 rfl ?_
                by_cases e123 : what = 0
                ·
                  subst e123
                  refine E_lookup C 148 dX10_which_123 (by decide) rfl (by decide) (E_iload C dX10_which_148 3 rfl (E_iretI C hr hlk dX10_which_150 ?_))
                  exact ⟨(ha.trans (if_pos rfl)).symm, ⟨W, g, h, Dv1, Sh, u, v1, z, y, rfl, X.thought (hf1 2 (by decide)) (hf1 3 (by decide)) rfl (hv1 4 (by decide) (by decide)) (hv1 5 (by decide) (by decide)) (hv1 6 (by decide) (by decide))⟩⟩
                by_cases e123_2 : what = 1
                ·
                  subst e123_2
                  refine E_lookup C 151 dX10_which_123 (by decide) rfl (by decide) (E_iload C dX10_which_151 2 rfl (E_iretI C hr hlk dX10_which_153 ?_))
                  exact ⟨(ha.trans ((if_neg (by decide)).trans (if_pos rfl))).symm, ⟨W, g, h, Dv1, Sh, u, v1, z, y, rfl, X.thought (hf1 2 (by decide)) (hf1 3 (by decide)) rfl (hv1 4 (by decide) (by decide)) (hv1 5 (by decide) (by decide)) (hv1 6 (by decide) (by decide))⟩⟩
                refine E_lookup (off := 31) C 154 dX10_which_123 (by decide) ((lv_osw e123 rfl).trans ((lv_osw e123_2 rfl).trans rfl)) (by decide) (E_iload C dX10_which_154 1 rfl (E_iretI C hr hlk dX10_which_156 ?_))
                exact ⟨(ha.trans ((if_neg e123).trans (if_neg e123_2))).symm, ⟨W, g, h, Dv1, Sh, u, v1, z, y, rfl, X.thought (hf1 2 (by decide)) (hf1 3 (by decide)) rfl (hv1 4 (by decide) (by decide)) (hv1 5 (by decide) (by decide)) (hv1 6 (by decide) (by decide))⟩⟩
              ·
                have hi : i < 2 ^ S.1.1 := by
                  rcases Nat.lt_or_ge i (2 ^ S.1.1) with q | q
                  · exact q
                  · exact absurd (show nI (2 ^ S.1.1) ≤ nI i from nI_le q (by omega)) c57
                have hwl := whF_le (judF S (S.2.2.2.2.2.2 b)) i
                refine E_aload_n C dX10_which_60 5 rfl (xg_10_3 C dX10_which_61 f_X10_35 (E_iload C dX10_which_64 0 rfl (E_callVV C dX10_which_66 mv_X10_129 _ _ (s_wholeWith_0 hN hB hL i (by omega)) (xat_dr0 (b := 0) (by decide)) rfl rfl (by decide) (Nat.le_of_ble_eq_true rfl) ?_)))
                rintro _ ⟨Dv2, v2, rfl, hf2, hv2, hq2⟩
                have hwi := whole_inv hB (L := S.1.2.2) (show i < 256 by omega)
                have hgl8 : (whole S.1.2.1 S.1.2.2 i).2.2.2.1.length ≤ 8 := by rw [hwi.2.2]; exact pop_le _
                refine E_aload_n C dX10_which_69 4 rfl (E_aload_n C dX10_which_70 5 rfl (xg_10_3 C dX10_which_71 f_X10_35 (E_callSI C dX10_which_74 ms_X10_204 _ (s_firstUntrue hb_b r3 r4 r5 hq2 hgl8) rfl rfl (by decide) (Nat.le_of_ble_eq_true rfl) ?_)))
                rintro _ _ ⟨rfl, rfl⟩
                refine Ev.seti (show _ = (judF S (S.2.2.2.2.2.2 b)) i from rfl) ?_
                refine E_bipush (v := -2) C dX10_which_77 bp_m2 (E_icmp_ne C 116 dX10_which_79 (by decide) (fun c79 => ?_) (fun c79 => ?_))
                ·
                  have hst : whF (judF S (S.2.2.2.2.2.2 b)) (i + 1) = whF (judF S (S.2.2.2.2.2.2 b)) i := if_neg c79
                  refine E_iinc C dX10_which_116 0 rfl (nI_1 i) (by decide) (E_goto C 48 dX10_which_119 (by decide) ?_)
                  refine Ev.sub [0, 1, 2, 3, 4, 5, 6, 7] rfl ?_
                  have hgo := ih (i + 1) Dv2 v2 (by omega) (by omega) (fun k a => (hf2 k a).trans (hf1 k a)) (fun k a b => (hv2 k a b).trans (hv1 k a b))
                  rw [hst] at hgo
                  exact hgo
                ·
                  refine E_iload C dX10_which_82 3 rfl (E_if_ne C 92 dX10_which_84 (by decide) (fun c84 => ?_) (fun c84 => ?_))
                  ·
                    have hm0 : ¬ (whF (judF S (S.2.2.2.2.2.2 b)) i).1 = 0 := fun q => c84 (by rw [q]; rfl)
                    refine E_iload C dX10_which_92 2 rfl (E_istore C dX10_which_94 (by decide) (E_iload C dX10_which_96 3 rfl (E_if_ne C 106 dX10_which_98 (by decide) (fun c98 => ?_) (fun c98 => ?_))))
                    ·
                      have hst : whF (judF S (S.2.2.2.2.2.2 b)) (i + 1) = ((whF (judF S (S.2.2.2.2.2.2 b)) i).1 + 1, (whF (judF S (S.2.2.2.2.2.2 b)) i).2.1, (whF (judF S (S.2.2.2.2.2.2 b)) i).2.2 &&& i) := (if_pos c79).trans (by rw [if_neg hm0, if_neg hm0])
                      refine E_iload C dX10_which_106 2 rfl (E_iload C dX10_which_108 1 rfl (E_iand C dX10_which_110 ?_))
                      refine Ev.seti (nx_and _ _) ?_
                      refine E_istore C dX10_which_111 (by decide) (E_iinc C dX10_which_113 3 rfl (nI_1 (whF (judF S (S.2.2.2.2.2.2 b)) i).1) (by decide) (E_iinc C dX10_which_116 3 rfl (nI_1 i) (by decide) (E_goto C 48 dX10_which_119 (by decide) ?_)))
                      refine Ev.sub [0, 2, 3, 1, 4, 5, 6, 7] rfl ?_
                      have hgo := ih (i + 1) Dv2 v2 (by omega) (by omega) (fun k a => (hf2 k a).trans (hf1 k a)) (fun k a b => (hv2 k a b).trans (hv1 k a b))
                      rw [hst] at hgo
                      exact hgo
                    ·
                      exact absurd c98 c84
                  ·
                    have hm0 : (whF (judF S (S.2.2.2.2.2.2 b)) i).1 = 0 := (nI_eq (b := 0) (by omega) (by decide)).mp c84
                    refine E_iload C dX10_which_87 0 rfl (E_goto C 94 dX10_which_89 (by decide) (E_istore C dX10_which_94 (by decide) (E_iload C dX10_which_96 3 rfl (E_if_ne C 106 dX10_which_98 (by decide) (fun c98_2 => ?_) (fun c98_2 => ?_)))))
                    ·
                      exact absurd c84 c98_2
                    ·
                      have hst : whF (judF S (S.2.2.2.2.2.2 b)) (i + 1) = ((whF (judF S (S.2.2.2.2.2.2 b)) i).1 + 1, nI i, i) := (if_pos c79).trans (by rw [if_pos hm0, if_pos hm0])
                      refine E_iload C dX10_which_101 1 rfl (E_goto C 111 dX10_which_103 (by decide) (E_istore C dX10_which_111 (by decide) (E_iinc C dX10_which_113 3 rfl (nI_1 (whF (judF S (S.2.2.2.2.2.2 b)) i).1) (by decide) (E_iinc C dX10_which_116 3 rfl (nI_1 i) (by decide) (E_goto C 48 dX10_which_119 (by decide) ?_)))))
                      refine Ev.sub [0, 2, 3, 1, 4, 5, 6, 7] rfl ?_
                      have hgo := ih (i + 1) Dv2 v2 (by omega) (by omega) (fun k a => (hf2 k a).trans (hf1 k a)) (fun k a b => (hv2 k a b).trans (hv1 k a b))
                      rw [hst] at hgo
                      exact hgo
          exact Ev.sub [0, 1, 2, 3, 5, 6, 7, 8] rfl (K (2 ^ S.1.1 + 1) 0 Dv v (Nat.zero_le _) (by omega) (fun _ _ => rfl) (fun _ _ _ => rfl))
        ·
          refine E_iload C dX10_which_32 0 rfl (E_iretI C hr hlk dX10_which_34 ?_)
          exact ⟨(ha0.trans (if_neg c29)).symm, ⟨W, g, h, Dv, Sh, u, v, z, y, rfl, X.same⟩⟩
      ·
        refine E_iconst (v := -1) C dX10_which_19 ic_m1 (E_iretI C hr hlk dX10_which_20 ?_)
        exact ⟨(if_neg fun q => c16 q.2.2).symm, ⟨W, g, h, Dv, Sh, u, v, z, y, rfl, X.same⟩⟩
  ·
    refine Ct.of (by decide +kernel) (Nat.le_of_ble_eq_true rfl) ?_
    intro p e R s m args below meth c A C hr hlk
    refine E_aload_n C dX10_which_0 0 rfl (E_iload_n C dX10_which_1 1 rfl (E_callVR C dX10_which_2 mv_X10_82 0 _ (s_shelfAtN x0 hcase) rfl rfl rfl (by decide) (Nat.le_of_ble_eq_true rfl) ?_))
    rintro _ _ ⟨rfl, rfl⟩
    refine E_astore_nN C dX10_which_5 (by decide) (E_aload_nN C dX10_which_6 0 rfl (E_ifnullN C 19 dX10_which_7 (by decide) (E_iconst (v := -1) C dX10_which_19 ic_m1 (E_iretI C hr hlk dX10_which_20 ?_))))
    exact ⟨(if_neg (fun q => hcase q.1)).symm, ⟨W, g, h, Dv, Sh, u, v, z, y, rfl, X.same⟩⟩
