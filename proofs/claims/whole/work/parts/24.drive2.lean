/-! the class's Drive: goFor, driveOn, wholeWith, cost -/
set_option maxRecDepth 100000 in
set_option maxHeartbeats 4000000 in
theorem s_goFor_0 {l : Launch} {D : va_G} {tc tt ad : Nat → Nat} {W : Nat → Nat → Int32} {g : Nat → Int32} {h : Nat → Nat → Int32} {Dv : Nat → (Nat → Int32) × (Nat → Nat → Int32)} {Sh : Nat → (Nat → Int32) × (Nat → Int64)} {u : Nat → Int32} {v : Nat → Nat → Int32} {z : Int64} {y : Nat → Int64} {N : Nat → Nat → Nat} (hN : NW W N) (hB : Bd N) {L : Nat → Nat → Nat → Nat → Nat → Nat} (hL : LawX g h L) {P : Prop} {on st fo hd0 le mi0 : Nat} {gl0 : GL} {tu lt : Nat} (hq0 : DRel P (Dv 0) on st fo (hd0, le, mi0, gl0, tu, lt)) (hfo : fo < 256) (hhd0 : hd0 < 256) (hgl0 : gl0.length = pop hd0) (m0 : Nat) (hm01 : m0 < 256) (hm02 : ∀ t, m0.testBit t = true → hd0.testBit t = false) : Ct l yX3_goFor cX3_goFor 7 none 4 D tc tt [.ref (ad 36), .int (nI m0)] (hx ad tc W g h Dv Sh u v z y) (PV fun w => ∃ Dv' v', w = hx ad tc W g h Dv' Sh u v' z y ∧ (∀ k, k ≠ 0 → Dv' k = Dv k) ∧ (∀ k, k ≠ 0 → k ≠ 1 → v' k = v k) ∧ DRel P (Dv' 0) on st fo ((gof N L st fo le 8 hd0 mi0 gl0 m0).1, le, (gof N L st fo le 8 hd0 mi0 gl0 m0).2.1, (gof N L st fo le 8 hd0 mi0 gl0 m0).2.2, tu, lt)) := by
  refine Ct.of (by decide +kernel) (Nat.le_of_ble_eq_true rfl) ?_
  intro p e R s m args below meth c A C hr hlk
  have K : ∀ (n i hd mi : Nat) (gl : GL) (md : Nat) (Dv1 : Nat → (Nat → Int32) × (Nat → Nat → Int32)) (v1 : Nat → Nat → Int32), i ≤ 8 → 8 < i + n → hd < 256 → gl.length = pop hd → md < 256 → (∀ t, md.testBit t = true → hd.testBit t = false) → (∀ k, k ≠ 0 → Dv1 k = Dv k) → (∀ k, k ≠ 0 → k ≠ 1 → v1 k = v k) → DRel P (Dv1 0) on st fo (hd, le, mi, gl, tu, lt) → gof N L st fo le (8 - i) hd mi gl md = gof N L st fo le 8 hd0 mi0 gl0 m0 → Ev p l e R s m args below meth c 0 0 (EQ below (PV fun w => ∃ Dv' v', w = hx ad tc W g h Dv' Sh u v' z y ∧ (∀ k, k ≠ 0 → Dv' k = Dv k) ∧ (∀ k, k ≠ 0 → k ≠ 1 → v' k = v k) ∧ DRel P (Dv' 0) on st fo ((gof N L st fo le 8 hd0 mi0 gl0 m0).1, le, (gof N L st fo le 8 hd0 mi0 gl0 m0).2.1, (gof N L st fo le 8 hd0 mi0 gl0 m0).2.2, tu, lt)) args s D A) D A 7 (hx ad tc W g h Dv1 Sh u v1 z y) 4 [(3, .int (nI i)), (2, .int (nI md)), (0, .ref (ad 36)), (1, .int (nI m0))] [] := by
    intro n
    induction n with
    | zero =>
      intro i hd mi gl md Dv1 v1 h1 h2 hhd hgl hm1 hm2 hfD hfv hq hres
      exfalso; omega
    | succ n ih =>
      intro i hd mi gl md Dv1 v1 h1 h2 hhd hgl hm1 hm2 hfD hfv hq hres
      refine E_iload_n C dX3_goFor_4 0 rfl (E_bipush (v := 8) C dX3_goFor_5 bp_8 (E_icmp_ge C 120 dX3_goFor_7 (by decide) (fun c7 => ?_) (fun c7 => ?_)))
      ·
        have hi8 : 8 - i = 0 := by
          rcases Nat.lt_or_ge i 8 with q | q
          · exact absurd (show nI 8 ≤ nI i from c7) (nI_ge q (by decide))
          · omega
        have hz : gof N L st fo le (8 - i) hd mi gl md = (hd, mi, gl) := by
          rw [hi8]
          rfl
        refine E_vretV C hr hlk dX3_goFor_120 ?_
        refine ⟨Dv1, v1, rfl, hfD, hfv, ?_⟩
        rw [← hres]
        rw [hz]
        exact hq
      ·
        refine E_iload_n C dX3_goFor_10 1 rfl (E_if_eq C 120 dX3_goFor_11 (by decide) (fun c11 => ?_) (fun c11 => ?_))
        ·
          have hmd : md = 0 := (nI_eq (b := 0) (by omega) (by decide)).mp c11
          have hz : gof N L st fo le (8 - i) hd mi gl md = (hd, mi, gl) := by
            rw [hmd]
            exact gof_z
          refine E_vretV C hr hlk dX3_goFor_120 ?_
          refine ⟨Dv1, v1, rfl, hfD, hfv, ?_⟩
          rw [← hres]
          rw [hz]
          exact hq
        ·
          have hm0 : ¬ md = 0 := fun q => c11 (by rw [q]; rfl)
          have hi : i < 8 := by
            rcases Nat.lt_or_ge i 8 with q | q
            · exact q
            · exact absurd (show nI 8 ≤ nI i from nI_le q (by omega)) c7
          have hl := lst_ok md hm1 hm0
          have hp := pop_set hd hhd (lst md) hl.1 (hm2 _ hl.2)
          have hg8 : gl.length < 8 := by
            have := pop_le (hd ||| 2 ^ lst md)
            omega
          have hw0 : N 0 (lst md) ≤ 5 := hB 0 (lst md) (by decide) hl.1
          have hw4 : N 4 (lst md) ≤ 255 := hB 4 (lst md) (by decide) hl.1
          have h1 : (Dv1 0).1 1 = nI st := hq.2.1
          have h6 : (Dv1 0).1 6 = nI gl.length := hq.2.2.2.2.2.2.1
          refine E_iload_n C dX3_goFor_14 1 rfl (E_callSI C dX3_goFor_15 ms_X3_84 _ (s_leastOf md hm1) rfl rfl (by decide) (Nat.le_of_ble_eq_true rfl) ?_)
          rintro _ _ ⟨rfl, rfl⟩
          refine E_istore C dX3_goFor_18 (by decide) (E_aload_n C dX3_goFor_20 3 rfl (xg_3_0 C (b := 0) (by decide) dX3_goFor_21 f_X3_21 (E_iconst (v := 0) C dX3_goFor_24 ic_0 (E_iload C dX3_goFor_25 0 rfl (E_callVI C dX3_goFor_27 mv_X3_77 1 _ (s_value 0 (lst md) (by decide) hl.1) rfl rfl rfl (by decide) (Nat.le_of_ble_eq_true rfl) ?_)))))
          rintro _ _ ⟨rfl, rfl⟩
          refine Ev.seti (hN 0 (lst md) (by decide) hl.1) ?_
          refine E_istore C dX3_goFor_30 (by decide) (E_aload_n C dX3_goFor_32 4 rfl (xg_3_0 C (b := 0) (by decide) dX3_goFor_33 f_X3_21 (E_iconst (v := 5) C dX3_goFor_36 ic_5 (E_iload C dX3_goFor_37 0 rfl (E_callVI C dX3_goFor_39 mv_X3_77 1 _ (s_value 5 (N 0 (lst md)) (by decide) (by omega)) rfl rfl rfl (by decide) (Nat.le_of_ble_eq_true rfl) ?_)))))
          rintro _ _ ⟨rfl, rfl⟩
          refine Ev.seti (hN 5 (N 0 (lst md)) (by decide) (by omega)) ?_
          refine E_istore C dX3_goFor_42 (by decide) (E_aload_n C dX3_goFor_44 5 rfl (E_iload C dX3_goFor_45 1 rfl (E_iload C dX3_goFor_47 2 rfl (E_aload_n C dX3_goFor_49 5 rfl (xg_3_0 C (b := 0) (by decide) dX3_goFor_50 f_X3_21 ?_)))))
          refine xg_9_1 C dX3_goFor_53 f_X3_87 (E_iconst (v := 1) C dX3_goFor_56 ic_1 (E_iload C dX3_goFor_57 0 rfl (E_aload_n C dX3_goFor_59 5 rfl (xg_3_10 C (b := 0) (by decide) dX3_goFor_60 f_X3_52 ?_))))
          refine Ev.seti h6 ?_
          refine E_aload_n C dX3_goFor_63 5 rfl (xg_3_0 C (b := 0) (by decide) dX3_goFor_64 f_X3_21 (E_iconst (v := 3) C dX3_goFor_67 ic_3 (E_iload C dX3_goFor_68 2 rfl (E_callVI C dX3_goFor_70 mv_X3_77 1 _ (s_value 3 (lst md) (by decide) hl.1) rfl rfl rfl (by decide) (Nat.le_of_ble_eq_true rfl) ?_))))
          rintro _ _ ⟨rfl, rfl⟩
          refine Ev.seti (hN 3 (lst md) (by decide) hl.1) ?_
          refine E_aload_n C dX3_goFor_73 5 rfl (xg_3_5 C (b := 0) (by decide) dX3_goFor_74 f_X3_36 ?_)
          refine Ev.seti h1 ?_
          refine E_callVI C dX3_goFor_77 mv_X3_91 11 _ (s_minutesL hL 1 (N 5 (N 0 (lst md))) gl.length (N 3 (lst md)) st) rfl rfl rfl (by decide) (Nat.le_of_ble_eq_true rfl) ?_
          rintro _ _ ⟨rfl, v2, rfl, hv2⟩
          refine E_callVV C dX3_goFor_80 mv_X3_96 _ _ (s_noteGoing_0 hq hg8 (N 0 (lst md)) (lst md) (L 1 (N 5 (N 0 (lst md))) gl.length (N 3 (lst md)) st)) (xat_dr0 (b := 0) (by decide)) rfl rfl (by decide) (Nat.le_of_ble_eq_true rfl) ?_
          rintro _ ⟨Dv2, rfl, hf2, hq2⟩
          obtain ⟨k0, k1, k2, k3, k4, k5, k6, k7, k8, k9⟩ := hq2
          have k3 : (Dv2 0).1 3 = nI hd := k3
          refine E_aload_n C dX3_goFor_83 5 rfl (E_dup C dX3_goFor_84 rfl (xg_3_7 C (b := 0) (by decide) dX3_goFor_85 f_X3_43 ?_))
          refine Ev.seti k3 ?_
          refine E_iconst (v := 1) C dX3_goFor_88 ic_1 (E_iload C dX3_goFor_89 2 rfl (E_ishl C dX3_goFor_91 ?_))
          refine Ev.seti (nx_one (lst md) (by omega)) ?_
          refine E_ior C dX3_goFor_92 ?_
          refine Ev.seti (nx_or _ _) ?_
          refine xp_3_7 C (b := 0) (by decide) dX3_goFor_93 fw_X3_43 ?_
          obtain ⟨Dv3, hD3⟩ : ∃ dd, dd = va_up Dv2 0 (va_up (Dv2 0).1 3 (nI (hd ||| 2 ^ lst md)), (Dv2 0).2) := ⟨_, rfl⟩
          rw [← hD3]
          have hf3 : ∀ k, k ≠ 0 → Dv3 k = Dv k := fun k hk => by
            rw [hD3]
            exact (if_neg hk).trans ((hf2 k hk).trans (hfD k hk))
          have hq3 : DRel P (Dv3 0) on st fo (hd ||| 2 ^ lst md, le, mi + (L 1 (N 5 (N 0 (lst md))) gl.length (N 3 (lst md)) st), gl ++ [(N 0 (lst md), lst md, (L 1 (N 5 (N 0 (lst md))) gl.length (N 3 (lst md)) st))], tu, lt) := by
            rw [hD3]
            exact ⟨k0, k1, k2, rfl, k4, k5, k6, k7, k8, k9⟩
          refine E_iload_n C dX3_goFor_96 4 rfl (E_aload_n C dX3_goFor_97 5 rfl (xg_3_0 C (b := 0) (by decide) dX3_goFor_98 f_X3_21 (E_iconst (v := 4) C dX3_goFor_101 ic_4 (E_iload C dX3_goFor_102 2 rfl (E_callVI C dX3_goFor_104 mv_X3_77 1 _ (s_value 4 (lst md) (by decide) hl.1) rfl rfl rfl (by decide) (Nat.le_of_ble_eq_true rfl) ?_)))))
          rintro _ _ ⟨rfl, rfl⟩
          refine Ev.seti (hN 4 (lst md) (by decide) hl.1) ?_
          refine E_ior C dX3_goFor_107 ?_
          refine Ev.seti (nx_or _ _) ?_
          refine E_aload_n C dX3_goFor_108 5 rfl (E_callVI C dX3_goFor_109 mv_X3_81 _ _ (s_open_0 hq3.2.2.1 hq3.2.2.2.1 hq3.2.2.2.2.1 hfo) (xat_dr0 (b := 0) (by decide)) rfl rfl (by decide) (Nat.le_of_ble_eq_true rfl) ?_)
          rintro _ _ ⟨rfl, rfl⟩
          refine E_iand C dX3_goFor_112 ?_
          refine Ev.seti (nx_and _ _) ?_
          refine E_istore_n C dX3_goFor_113 (by decide) (E_iinc C dX3_goFor_114 4 rfl (nI_1 i) (by decide) (E_goto C 4 dX3_goFor_117 (by decide) ?_))
          refine Ev.sub [0, 1, 5, 6] rfl (ih (i + 1) _ _ _ _ Dv3 v2 (by omega) (by omega) (or_lt hhd (two_lt hl.1)) ?_ (Nat.lt_of_le_of_lt Nat.and_le_right (opn_lt hfo _ _)) ?_ hf3 (fun k a b => (hv2 k a b).trans (hfv k a b)) hq3 ?_)
          · rw [List.length_append, hgl, hp]
            rfl
          · intro t ht
            rw [Nat.testBit_and, Bool.and_eq_true] at ht
            exact opn_hd (tb_lt (opn_lt hfo _ _) ht.2) ht.2
          · rw [show 8 - i = (8 - (i + 1)) + 1 by omega] at hres
            exact (gof_s hm0).symm.trans hres
  refine E_iload_n C dX3_goFor_0 1 rfl (E_istore_n C dX3_goFor_1 (by decide) (E_iconst (v := 0) C dX3_goFor_2 ic_0 (E_istore_n C dX3_goFor_3 (by decide) ?_)))
  exact K 9 0 hd0 mi0 gl0 m0 Dv v (by omega) (by omega) hhd0 hgl0 hm01 hm02 (fun _ _ => rfl) (fun _ _ _ => rfl) hq0 rfl
set_option maxRecDepth 100000 in
set_option maxHeartbeats 4000000 in
theorem s_driveOn_0 {l : Launch} {D : va_G} {tc tt ad : Nat → Nat} {W : Nat → Nat → Int32} {g : Nat → Int32} {h : Nat → Nat → Int32} {Dv : Nat → (Nat → Int32) × (Nat → Nat → Int32)} {Sh : Nat → (Nat → Int32) × (Nat → Int64)} {u : Nat → Int32} {v : Nat → Nat → Int32} {z : Int64} {y : Nat → Int64} {N : Nat → Nat → Nat} (hN : NW W N) (hB : Bd N) {L : Nat → Nat → Nat → Nat → Nat → Nat} (hL : LawX g h L) {P : Prop} {st fo : Nat} {q : DT} (hq : DRel P (Dv 0) 1 st fo q) (hi : DI q) (hfo : fo < 256) (hst : st ≤ 6) : Ct l yX3_driveOn cX3_driveOn 3 none 5 D tc tt [.ref (ad 36)] (hx ad tc W g h Dv Sh u v z y) (PV fun w => ∃ Dv' v', w = hx ad tc W g h Dv' Sh u v' z y ∧ (∀ k, k ≠ 0 → Dv' k = Dv k) ∧ (∀ k, k ≠ 0 → k ≠ 1 → v' k = v k) ∧ DRel P (Dv' 0) (if st < 6 then 1 else 0) (if st < 6 then st + 1 else st) fo (onStop N L st fo q)) := by
  refine Ct.of (by decide +kernel) (Nat.le_of_ble_eq_true rfl) ?_
  intro p e R s m args below meth c A C hr hlk
  have T : ∀ (q1 : DT) (x1 x2 : Int32) (Dv1 : Nat → (Nat → Int32) × (Nat → Nat → Int32)) (v1 : Nat → Nat → Int32), (∀ k, k ≠ 0 → Dv1 k = Dv k) → (∀ k, k ≠ 0 → k ≠ 1 → v1 k = v k) → DRel P (Dv1 0) 1 st fo q1 → stopAt N L st fo q = q1 → Ev p l e R s m args below meth c 0 0 (EQ below (PV fun w => ∃ Dv' v', w = hx ad tc W g h Dv' Sh u v' z y ∧ (∀ k, k ≠ 0 → Dv' k = Dv k) ∧ (∀ k, k ≠ 0 → k ≠ 1 → v' k = v k) ∧ DRel P (Dv' 0) (if st < 6 then 1 else 0) (if st < 6 then st + 1 else st) fo (onStop N L st fo q)) args s D A) D A 3 (hx ad tc W g h Dv1 Sh u v1 z y) 103 [(2, .int x2), (1, .int x1), (0, .ref (ad 36))] [] := by
    intro q1 x1 x2 Dv1 v1 hf hv hq1 hs
    obtain ⟨h0, h1, h2, h3, h4, h5, h6, h7, h8, h9⟩ := hq1
    refine E_aload_n C dX3_driveOn_103 2 rfl (xg_3_5 C (b := 0) (by decide) dX3_driveOn_104 f_X3_36 ?_)
    refine Ev.seti h1 ?_
    refine E_bipush (v := 6) C dX3_driveOn_107 bp_6 (E_icmp_lt C 120 dX3_driveOn_109 (by decide) (fun c109 => ?_) (fun c109 => ?_))
    ·
      refine E_aload_n C dX3_driveOn_120 2 rfl (E_dup C dX3_driveOn_121 rfl (xg_3_9 C (b := 0) (by decide) dX3_driveOn_122 f_X3_49 ?_))
      refine Ev.seti h5 ?_
      refine E_aload_n C dX3_driveOn_125 2 rfl (xg_3_0 C (b := 0) (by decide) dX3_driveOn_126 f_X3_21 (E_bipush (v := 6) C dX3_driveOn_129 bp_6 (E_aload_n C dX3_driveOn_131 2 rfl (xg_3_5 C (b := 0) (by decide) dX3_driveOn_132 f_X3_36 ?_))))
      have hs6 : st < 6 := (nI_ltI (b := 6) (by omega) (by decide)).mp c109
      refine Ev.seti h1 ?_
      refine E_callVI C dX3_driveOn_135 mv_X3_77 1 _ (s_value 6 st (by decide) (by omega)) rfl rfl rfl (by decide) (Nat.le_of_ble_eq_true rfl) ?_
      rintro _ _ ⟨rfl, rfl⟩
      refine Ev.seti (hN 6 st (by decide) (by omega)) ?_
      refine E_iadd C dX3_driveOn_138 ?_
      refine Ev.seti (nI_add _ _) ?_
      refine xp_3_9 C (b := 0) (by decide) dX3_driveOn_139 fw_X3_49 (E_aload_n C dX3_driveOn_142 2 rfl (E_dup C dX3_driveOn_143 rfl (xg_3_5 C (b := 0) (by decide) dX3_driveOn_144 f_X3_36 ?_)))
      refine Ev.seti h1 ?_
      refine E_iconst (v := 1) C dX3_driveOn_147 ic_1 (E_iadd C dX3_driveOn_148 ?_)
      refine Ev.seti (nI_1 st) ?_
      refine xp_3_5 C (b := 0) (by decide) dX3_driveOn_149 fw_X3_36 (E_vretV C hr hlk dX3_driveOn_152 ?_)
      first
        | (have hs6 : ¬ st < 6 := fun z => c109 (nI_lt z (by decide))
           refine ⟨_, v1, rfl, fun k hk0 => (if_neg hk0).trans (hf k hk0), hv, ?_⟩
           rw [if_neg hs6, if_neg hs6]
           show DRel P _ 0 st fo (addWay N st (stopAt N L st fo q))
           rw [hs, addWay, if_neg hs6]
           exact ⟨rfl, h1, h2, h3, h4, h5, h6, h7, h8, h9⟩)
        | (have hs6 : st < 6 := (nI_ltI (b := 6) (by omega) (by decide)).mp c109
           refine ⟨_, v1, rfl, fun k hk0 => (if_neg hk0).trans ((if_neg hk0).trans (hf k hk0)), hv, ?_⟩
           rw [if_pos hs6, if_pos hs6]
           show DRel P _ 1 (st + 1) fo (addWay N st (stopAt N L st fo q))
           rw [hs, addWay, if_pos hs6]
           exact ⟨h0, rfl, h2, h3, h4, rfl, h6, h7, h8, h9⟩)
    ·
      refine E_aload_n C dX3_driveOn_112 2 rfl (E_iconst (v := 0) C dX3_driveOn_113 ic_0 (xp_3_4 C (b := 0) (by decide) dX3_driveOn_114 fw_X3_32 rfl rfl (E_goto C 152 dX3_driveOn_117 (by decide) (E_vretV C hr hlk dX3_driveOn_152 ?_))))
      first
        | (have hs6 : ¬ st < 6 := fun z => c109 (nI_lt z (by decide))
           refine ⟨_, v1, rfl, fun k hk0 => (if_neg hk0).trans (hf k hk0), hv, ?_⟩
           rw [if_neg hs6, if_neg hs6]
           show DRel P _ 0 st fo (addWay N st (stopAt N L st fo q))
           rw [hs, addWay, if_neg hs6]
           exact ⟨rfl, h1, h2, h3, h4, h5, h6, h7, h8, h9⟩)
        | (have hs6 : st < 6 := (nI_ltI (b := 6) (by omega) (by decide)).mp c109
           refine ⟨_, v1, rfl, fun k hk0 => (if_neg hk0).trans ((if_neg hk0).trans (hf k hk0)), hv, ?_⟩
           rw [if_pos hs6, if_pos hs6]
           show DRel P _ 1 (st + 1) fo (addWay N st (stopAt N L st fo q))
           rw [hs, addWay, if_pos hs6]
           exact ⟨h0, rfl, h2, h3, h4, rfl, h6, h7, h8, h9⟩)
  obtain ⟨hd, le, mi, gl, tu, lt⟩ := q
  obtain ⟨h0, h1, h2, h3, h4, h5, h6, h7, h8, h9⟩ := id hq
  obtain ⟨i1, i2, i3⟩ := hi
  have h1 : (Dv 0).1 1 = nI st := h1
  have h2 : (Dv 0).1 2 = nI fo := h2
  have h3 : (Dv 0).1 3 = nI hd := h3
  have h4 : (Dv 0).1 4 = nI le := h4
  have h5 : (Dv 0).1 5 = nI mi := h5
  have h7 : (Dv 0).1 7 = nI tu := h7
  have hm1 : minded N st fo hd le < 256 := minded_lt hfo
  have hw := wsum_le hB (minded N st fo hd le) 8 (by decide)
  have ht := tsum_le hB st (by omega)
  have hp : N 7 0 ≤ 9 := hB 7 0 (by decide) (by decide)
  have hpt : N 7 0 * (2 * tsum N st) ≤ 9 * 320 := Nat.mul_le_mul hp (by omega)
  refine E_aload_n C dX3_driveOn_0 0 rfl (E_callVI C dX3_driveOn_1 mv_X3_61 _ _ (s_minded_0 hN hB h1 h2 h3 h4 hfo hst) (xat_dr0 (b := 0) (by decide)) rfl rfl (by decide) (Nat.le_of_ble_eq_true rfl) ?_)
  rintro _ _ ⟨rfl, rfl⟩
  refine E_istore_n C dX3_driveOn_4 (by decide) (E_iconst (v := 2) C dX3_driveOn_5 ic_2 (E_aload_n C dX3_driveOn_6 1 rfl (xg_3_0 C (b := 0) (by decide) dX3_driveOn_7 f_X3_21 (E_aload_n C dX3_driveOn_10 1 rfl (xg_3_5 C (b := 0) (by decide) dX3_driveOn_11 f_X3_36 ?_)))))
  refine Ev.seti h1 ?_
  refine E_callVI C dX3_driveOn_14 mv_X3_65 1 _ (s_minutesTo hN st hst) rfl rfl rfl (by decide) (Nat.le_of_ble_eq_true rfl) ?_
  rintro _ _ ⟨rfl, rfl⟩
  refine E_imul C dX3_driveOn_17 ?_
  refine Ev.seti (show (2 : Int32) * nI (tsum N st) = nI (2 * tsum N st) from pk_mul 2 _) ?_
  refine E_istore_n C dX3_driveOn_18 (by decide) (E_aload_n C dX3_driveOn_19 2 rfl (xg_3_5 C (b := 0) (by decide) dX3_driveOn_20 f_X3_36 ?_))
  refine Ev.seti h1 ?_
  refine E_if_ne C 34 dX3_driveOn_23 (by decide) (fun c23 => ?_) (fun c23 => ?_)
  ·
    refine E_aload_n C dX3_driveOn_34 2 rfl (xg_3_0 C (b := 0) (by decide) dX3_driveOn_35 f_X3_21 (E_iload_n C dX3_driveOn_38 1 rfl (E_callVI C dX3_driveOn_39 mv_X3_74 1 _ (s_worthOf hN (minded N st fo hd le) hm1) rfl rfl rfl (by decide) (Nat.le_of_ble_eq_true rfl) ?_)))
    rintro _ _ ⟨rfl, rfl⟩
    refine E_aload_n C dX3_driveOn_42 2 rfl (xg_3_0 C (b := 0) (by decide) dX3_driveOn_43 f_X3_21 (E_bipush (v := 7) C dX3_driveOn_46 bp_7 (E_iconst (v := 0) C dX3_driveOn_48 ic_0 (E_callVI C dX3_driveOn_49 mv_X3_77 1 _ (s_value 7 0 (by decide) (by decide)) rfl rfl rfl (by decide) (Nat.le_of_ble_eq_true rfl) ?_))))
    rintro _ _ ⟨rfl, rfl⟩
    refine Ev.seti (hN 7 0 (by decide) (by decide)) ?_
    refine E_iload_n C dX3_driveOn_52 0 rfl (E_imul C dX3_driveOn_53 ?_)
    refine Ev.seti (pk_mul _ _) ?_
    refine E_icmp_le C 93 dX3_driveOn_54 (by decide) (fun c54 => ?_) (fun c54 => ?_)
    ·
      have hle : ¬ N 7 0 * (2 * tsum N st) < wsum N (minded N st fo hd le) 8 := fun z => nI_ge z (by omega) c54
      have hs0 : ¬ st = 0 := fun z => c23 (by rw [z]; rfl)
      refine E_aload_n C dX3_driveOn_93 2 rfl (E_dup C dX3_driveOn_94 rfl (xg_3_8 C (b := 0) (by decide) dX3_driveOn_95 f_X3_46 ?_))
      refine Ev.seti h4 ?_
      refine E_iload_n C dX3_driveOn_98 1 rfl (E_ior C dX3_driveOn_99 ?_)
      refine Ev.seti (nx_or _ _) ?_
      refine xp_3_8 C (b := 0) (by decide) dX3_driveOn_100 fw_X3_46 ?_
      first
        | exact T _ _ _ _ _ hf2 hv2 hq2 (by rw [stopAt, if_pos rfl])
        | exact T _ _ _ _ _ (fun k hk0 => (hf2 k hk0).trans (hf1 k hk0)) hv2 hq2 (by rw [stopAt, if_neg hs0, if_pos hgt])
        | exact T (hd, le ||| minded N st fo hd le, mi, gl, tu, lt) _ _ _ _ (fun k hk0 => if_neg hk0) (fun _ _ _ => rfl) ⟨h0, h1, h2, h3, rfl, h5, h6, h7, h8, h9⟩ (by rw [stopAt, if_neg hs0, if_neg hle])
    ·
      have hgt : N 7 0 * (2 * tsum N st) < wsum N (minded N st fo hd le) 8 := Nat.not_le.mp fun z => c54 (nI_le z (by omega))
      have hs0 : ¬ st = 0 := fun z => c23 (by rw [z]; rfl)
      refine E_aload_n C dX3_driveOn_57 2 rfl (E_dup C dX3_driveOn_58 rfl (xg_3_9 C (b := 0) (by decide) dX3_driveOn_59 f_X3_49 ?_))
      refine Ev.seti h5 ?_
      refine E_iload_n C dX3_driveOn_62 0 rfl (E_iadd C dX3_driveOn_63 ?_)
      refine Ev.seti (nI_add _ _) ?_
      refine xp_3_9 C (b := 0) (by decide) dX3_driveOn_64 fw_X3_49 (E_aload_n C dX3_driveOn_67 2 rfl (E_dup C dX3_driveOn_68 rfl (xg_3_11 C (b := 0) (by decide) dX3_driveOn_69 f_X3_55 ?_)))
      refine Ev.seti h7 ?_
      refine E_iconst (v := 1) C dX3_driveOn_72 ic_1 (E_iadd C dX3_driveOn_73 ?_)
      refine Ev.seti (nI_1 tu) ?_
      refine xp_3_11 C (b := 0) (by decide) dX3_driveOn_74 fw_X3_55 (E_aload_n C dX3_driveOn_77 2 rfl (E_aload_n C dX3_driveOn_78 2 rfl (xg_3_5 C (b := 0) (by decide) dX3_driveOn_79 f_X3_36 ?_)))
      refine Ev.seti h1 ?_
      refine xp_3_12 C (b := 0) (by decide) dX3_driveOn_82 fw_X3_58 ?_
      obtain ⟨Dv1, hD1⟩ : ∃ dd, dd = va_up (va_up (va_up Dv 0 (va_up (Dv 0).1 5 (nI (mi + 2 * tsum N st)), (Dv 0).2)) 0 (va_up (va_up Dv 0 (va_up (Dv 0).1 5 (nI (mi + 2 * tsum N st)), (Dv 0).2) 0).1 7 (nI (tu + 1)), (va_up Dv 0 (va_up (Dv 0).1 5 (nI (mi + 2 * tsum N st)), (Dv 0).2) 0).2)) 0 (va_up (va_up (va_up Dv 0 (va_up (Dv 0).1 5 (nI (mi + 2 * tsum N st)), (Dv 0).2)) 0 (va_up (va_up Dv 0 (va_up (Dv 0).1 5 (nI (mi + 2 * tsum N st)), (Dv 0).2) 0).1 7 (nI (tu + 1)), (va_up Dv 0 (va_up (Dv 0).1 5 (nI (mi + 2 * tsum N st)), (Dv 0).2) 0).2) 0).1 8 (nI st), (va_up (va_up Dv 0 (va_up (Dv 0).1 5 (nI (mi + 2 * tsum N st)), (Dv 0).2)) 0 (va_up (va_up Dv 0 (va_up (Dv 0).1 5 (nI (mi + 2 * tsum N st)), (Dv 0).2) 0).1 7 (nI (tu + 1)), (va_up Dv 0 (va_up (Dv 0).1 5 (nI (mi + 2 * tsum N st)), (Dv 0).2) 0).2) 0).2) := ⟨_, rfl⟩
      rw [← hD1]
      have hf1 : ∀ k, k ≠ 0 → Dv1 k = Dv k := fun k hk0 => by
        rw [hD1]
        simp only [va_up, if_neg hk0]
      have hq1 : DRel P (Dv1 0) 1 st fo (hd, le, mi + 2 * tsum N st, gl, tu + 1, st) := by
        rw [hD1]
        exact ⟨h0, h1, h2, h3, h4, rfl, h6, rfl, fun _ => rfl, h9⟩
      refine E_aload_n C dX3_driveOn_85 2 rfl (E_iload_n C dX3_driveOn_86 1 rfl (E_callVV C dX3_driveOn_87 mv_X3_71 _ _ (s_goFor_0 hN hB hL hq1 hfo i1 i3 (minded N st fo hd le) hm1 (minded_hd hfo)) (xat_dr0 (b := 0) (by decide)) rfl rfl (by decide) (Nat.le_of_ble_eq_true rfl) ?_))
      rintro _ ⟨Dv2, v2, rfl, hf2, hv2, hq2⟩
      refine E_goto C 103 dX3_driveOn_90 (by decide) ?_
      first
        | exact T _ _ _ _ _ hf2 hv2 hq2 (by rw [stopAt, if_pos rfl])
        | exact T _ _ _ _ _ (fun k hk0 => (hf2 k hk0).trans (hf1 k hk0)) hv2 hq2 (by rw [stopAt, if_neg hs0, if_pos hgt])
        | exact T (hd, le ||| minded N st fo hd le, mi, gl, tu, lt) _ _ _ _ (fun k hk0 => if_neg hk0) (fun _ _ _ => rfl) ⟨h0, h1, h2, h3, rfl, h5, h6, h7, h8, h9⟩ (by rw [stopAt, if_neg hs0, if_neg hle])
  ·
    refine E_aload_n C dX3_driveOn_26 2 rfl (E_iload_n C dX3_driveOn_27 1 rfl ?_)
    obtain rfl : st = 0 := (nI_eq (b := 0) (by omega) (by decide)).mp c23
    refine E_callVV C dX3_driveOn_28 mv_X3_71 _ _ (s_goFor_0 hN hB hL hq hfo i1 i3 (minded N 0 fo hd le) hm1 (minded_hd hfo)) (xat_dr0 (b := 0) (by decide)) rfl rfl (by decide) (Nat.le_of_ble_eq_true rfl) ?_
    rintro _ ⟨Dv2, v2, rfl, hf2, hv2, hq2⟩
    refine E_goto C 103 dX3_driveOn_31 (by decide) ?_
    first
      | exact T _ _ _ _ _ hf2 hv2 hq2 (by rw [stopAt, if_pos rfl])
      | exact T _ _ _ _ _ (fun k hk0 => (hf2 k hk0).trans (hf1 k hk0)) hv2 hq2 (by rw [stopAt, if_neg hs0, if_pos hgt])
      | exact T (hd, le ||| minded N st fo hd le, mi, gl, tu, lt) _ _ _ _ (fun k hk0 => if_neg hk0) (fun _ _ _ => rfl) ⟨h0, h1, h2, h3, rfl, h5, h6, h7, h8, h9⟩ (by rw [stopAt, if_neg hs0, if_neg hle])
set_option maxRecDepth 100000 in
set_option maxHeartbeats 4000000 in
theorem s_wholeWith_0 {l : Launch} {D : va_G} {tc tt ad : Nat → Nat} {W : Nat → Nat → Int32} {g : Nat → Int32} {h : Nat → Nat → Int32} {Dv : Nat → (Nat → Int32) × (Nat → Nat → Int32)} {Sh : Nat → (Nat → Int32) × (Nat → Int64)} {u : Nat → Int32} {v : Nat → Nat → Int32} {z : Int64} {y : Nat → Int64} {N : Nat → Nat → Nat} (hN : NW W N) (hB : Bd N) {L : Nat → Nat → Nat → Nat → Nat → Nat} (hL : LawX g h L) (fo : Nat) (hfo : fo < 256) : Ct l yX3_wholeWith cX3_wholeWith 3 none 6 D tc tt [.ref (ad 36), .int (nI fo)] (hx ad tc W g h Dv Sh u v z y) (PV fun w => ∃ Dv' v', w = hx ad tc W g h Dv' Sh u v' z y ∧ (∀ k, k ≠ 0 → Dv' k = Dv k) ∧ (∀ k, k ≠ 0 → k ≠ 1 → v' k = v k) ∧ DRel True (Dv' 0) 0 6 fo (whole N L fo)) := by
  refine Ct.of (by decide +kernel) (Nat.le_of_ble_eq_true rfl) ?_
  intro p e R s m args below meth c A C hr hlk
  have K : ∀ (n i : Nat) (Dv1 : Nat → (Nat → Int32) × (Nat → Nat → Int32)) (v1 : Nat → Nat → Int32), i ≤ 7 → 7 < i + n → (∀ k, k ≠ 0 → Dv1 k = Dv k) → (∀ k, k ≠ 0 → k ≠ 1 → v1 k = v k) → DRel True (Dv1 0) (if i < 7 then 1 else 0) (min i 6) fo (goStops N L fo i) → Ev p l e R s m args below meth c 0 0 (EQ below (PV fun w => ∃ Dv' v', w = hx ad tc W g h Dv' Sh u v' z y ∧ (∀ k, k ≠ 0 → Dv' k = Dv k) ∧ (∀ k, k ≠ 0 → k ≠ 1 → v' k = v k) ∧ DRel True (Dv' 0) 0 6 fo (whole N L fo)) args s D A) D A 3 (hx ad tc W g h Dv1 Sh u v1 z y) 7 [(2, .int (nI i)), (0, .ref (ad 36)), (1, .int (nI fo))] [] := by
    intro n
    induction n with
    | zero =>
      intro i Dv1 v1 h1 h2 hfD hfv hq
      exfalso; omega
    | succ n ih =>
      intro i Dv1 v1 h1 h2 hfD hfv hq
      refine E_iload_n C dX3_wholeWith_7 0 rfl (E_bipush (v := 6) C dX3_wholeWith_8 bp_6 (E_icmp_gt C 23 dX3_wholeWith_10 (by decide) (fun c10 => ?_) (fun c10 => ?_)))
      ·
        obtain rfl : i = 7 := by
          rcases Nat.lt_or_ge i 7 with q | q
          · exact absurd (show nI 6 < nI i from c10) (nI_nlt (by omega) (by omega))
          · omega
        refine E_vretV C hr hlk dX3_wholeWith_23 ?_
        exact ⟨Dv1, v1, rfl, hfD, hfv, hq⟩
      ·
        have hi : i < 7 := by
          rcases Nat.lt_or_ge i 7 with q | q
          · exact q
          · exact absurd (show nI 6 < nI i from nI_lt (by omega) (by omega)) c10
        rw [if_pos hi, show min i 6 = i by omega] at hq
        refine E_aload_n C dX3_wholeWith_13 1 rfl (E_callVV C dX3_wholeWith_14 mv_X3_29 _ _ (s_driveOn_0 hN hB hL hq (goStops_inv hB hfo i) hfo (by omega)) (xat_dr0 (b := 0) (by decide)) rfl rfl (by decide) (Nat.le_of_ble_eq_true rfl) ?_)
        rintro _ ⟨Dv2, v2, rfl, hf2, hv2, hq2⟩
        refine E_iinc C dX3_wholeWith_17 0 rfl (nI_1 i) (by decide) (E_goto C 7 dX3_wholeWith_20 (by decide) ?_)
        refine Ev.sub [0, 1, 2] rfl (ih (i + 1) Dv2 v2 (by omega) (by omega) (fun k hk0 => (hf2 k hk0).trans (hfD k hk0)) (fun k a b => (hv2 k a b).trans (hfv k a b)) ?_)
        by_cases e : i < 6
        · rw [if_pos e, if_pos e] at hq2
          rw [if_pos (show i + 1 < 7 by omega), show min (i + 1) 6 = i + 1 by omega]
          exact hq2
        · rw [if_neg e, if_neg e] at hq2
          rw [if_neg (show ¬ i + 1 < 7 by omega), show min (i + 1) 6 = i by omega]
          exact hq2
  refine E_aload_n C dX3_wholeWith_0 0 rfl (E_iload_n C dX3_wholeWith_1 1 rfl (E_callVV C dX3_wholeWith_2 mv_X3_25 _ _ (s_beginWith_0 True fo) (xat_dr0 (b := 0) (by decide)) rfl rfl (by decide) (Nat.le_of_ble_eq_true rfl) ?_))
  rintro _ ⟨Dv0, rfl, hf0, hq0⟩
  refine E_iconst (v := 0) C dX3_wholeWith_5 ic_0 (E_istore_n C dX3_wholeWith_6 (by decide) ?_)
  exact K 8 0 Dv0 v (by omega) (by omega) hf0 (fun _ _ _ => rfl) hq0
set_option maxRecDepth 100000 in
set_option maxHeartbeats 4000000 in
theorem s_cost_0 {l : Launch} {D : va_G} {tc tt ad : Nat → Nat} {W : Nat → Nat → Int32} {g : Nat → Int32} {h : Nat → Nat → Int32} {Dv : Nat → (Nat → Int32) × (Nat → Nat → Int32)} {Sh : Nat → (Nat → Int32) × (Nat → Int64)} {u : Nat → Int32} {v : Nat → Nat → Int32} {z : Int64} {y : Nat → Int64} {N : Nat → Nat → Nat} (hN : NW W N) {mi le : Nat} (h5 : (Dv 0).1 5 = nI mi) (h4 : (Dv 0).1 4 = nI le) (hle : le < 256) : Ct l yX3_cost cX3_cost 1 (some .int) 3 D tc tt [.ref (ad 36)] (hx ad tc W g h Dv Sh u v z y) (PI fun r w => r = nI (N 7 0 * mi + wsum N le 8) ∧ w = hx ad tc W g h Dv Sh u v z y) := by
  refine Ct.of (by decide +kernel) (Nat.le_of_ble_eq_true rfl) ?_
  intro p e R s m args below meth c A C hr hlk
  refine E_aload_n C dX3_cost_0 0 rfl (xg_3_0 C (b := 0) (by decide) dX3_cost_1 f_X3_21 (E_bipush (v := 7) C dX3_cost_4 bp_7 (E_iconst (v := 0) C dX3_cost_6 ic_0 (E_callVI C dX3_cost_7 mv_X3_77 1 _ (s_value 7 0 (by decide) (by decide)) rfl rfl rfl (by decide) (Nat.le_of_ble_eq_true rfl) ?_))))
  rintro _ _ ⟨rfl, rfl⟩
  refine Ev.seti (hN 7 0 (by decide) (by decide)) ?_
  refine E_aload_n C dX3_cost_10 0 rfl (xg_3_9 C (b := 0) (by decide) dX3_cost_11 f_X3_49 ?_)
  refine Ev.seti h5 ?_
  refine E_imul C dX3_cost_14 ?_
  refine Ev.seti (pk_mul _ _) ?_
  refine E_aload_n C dX3_cost_15 0 rfl (xg_3_0 C (b := 0) (by decide) dX3_cost_16 f_X3_21 (E_aload_n C dX3_cost_19 0 rfl (xg_3_8 C (b := 0) (by decide) dX3_cost_20 f_X3_46 ?_)))
  refine Ev.seti h4 ?_
  refine E_callVI C dX3_cost_23 mv_X3_74 1 _ (s_worthOf hN le hle) rfl rfl rfl (by decide) (Nat.le_of_ble_eq_true rfl) ?_
  rintro _ _ ⟨rfl, rfl⟩
  refine E_iadd C dX3_cost_26 (E_iretI C hr hlk dX3_cost_27 ?_)
  exact ⟨nI_add _ _, rfl⟩
set_option maxRecDepth 100000 in
set_option maxHeartbeats 4000000 in
theorem s_goFor_1 {l : Launch} {D : va_G} {tc tt ad : Nat → Nat} {W : Nat → Nat → Int32} {g : Nat → Int32} {h : Nat → Nat → Int32} {Dv : Nat → (Nat → Int32) × (Nat → Nat → Int32)} {Sh : Nat → (Nat → Int32) × (Nat → Int64)} {u : Nat → Int32} {v : Nat → Nat → Int32} {z : Int64} {y : Nat → Int64} {N : Nat → Nat → Nat} (hN : NW W N) (hB : Bd N) {L : Nat → Nat → Nat → Nat → Nat → Nat} (hL : LawX g h L) {P : Prop} {on st fo hd0 le mi0 : Nat} {gl0 : GL} {tu lt : Nat} (hq0 : DRel P (Dv 1) on st fo (hd0, le, mi0, gl0, tu, lt)) (hfo : fo < 256) (hhd0 : hd0 < 256) (hgl0 : gl0.length = pop hd0) (m0 : Nat) (hm01 : m0 < 256) (hm02 : ∀ t, m0.testBit t = true → hd0.testBit t = false) : Ct l yX3_goFor cX3_goFor 7 none 4 D tc tt [.ref (ad 40), .int (nI m0)] (hx ad tc W g h Dv Sh u v z y) (PV fun w => ∃ Dv' v', w = hx ad tc W g h Dv' Sh u v' z y ∧ (∀ k, k ≠ 1 → Dv' k = Dv k) ∧ (∀ k, k ≠ 0 → k ≠ 1 → v' k = v k) ∧ DRel P (Dv' 1) on st fo ((gof N L st fo le 8 hd0 mi0 gl0 m0).1, le, (gof N L st fo le 8 hd0 mi0 gl0 m0).2.1, (gof N L st fo le 8 hd0 mi0 gl0 m0).2.2, tu, lt)) := by
  refine Ct.of (by decide +kernel) (Nat.le_of_ble_eq_true rfl) ?_
  intro p e R s m args below meth c A C hr hlk
  have K : ∀ (n i hd mi : Nat) (gl : GL) (md : Nat) (Dv1 : Nat → (Nat → Int32) × (Nat → Nat → Int32)) (v1 : Nat → Nat → Int32), i ≤ 8 → 8 < i + n → hd < 256 → gl.length = pop hd → md < 256 → (∀ t, md.testBit t = true → hd.testBit t = false) → (∀ k, k ≠ 1 → Dv1 k = Dv k) → (∀ k, k ≠ 0 → k ≠ 1 → v1 k = v k) → DRel P (Dv1 1) on st fo (hd, le, mi, gl, tu, lt) → gof N L st fo le (8 - i) hd mi gl md = gof N L st fo le 8 hd0 mi0 gl0 m0 → Ev p l e R s m args below meth c 0 0 (EQ below (PV fun w => ∃ Dv' v', w = hx ad tc W g h Dv' Sh u v' z y ∧ (∀ k, k ≠ 1 → Dv' k = Dv k) ∧ (∀ k, k ≠ 0 → k ≠ 1 → v' k = v k) ∧ DRel P (Dv' 1) on st fo ((gof N L st fo le 8 hd0 mi0 gl0 m0).1, le, (gof N L st fo le 8 hd0 mi0 gl0 m0).2.1, (gof N L st fo le 8 hd0 mi0 gl0 m0).2.2, tu, lt)) args s D A) D A 7 (hx ad tc W g h Dv1 Sh u v1 z y) 4 [(3, .int (nI i)), (2, .int (nI md)), (0, .ref (ad 40)), (1, .int (nI m0))] [] := by
    intro n
    induction n with
    | zero =>
      intro i hd mi gl md Dv1 v1 h1 h2 hhd hgl hm1 hm2 hfD hfv hq hres
      exfalso; omega
    | succ n ih =>
      intro i hd mi gl md Dv1 v1 h1 h2 hhd hgl hm1 hm2 hfD hfv hq hres
      refine E_iload_n C dX3_goFor_4 0 rfl (E_bipush (v := 8) C dX3_goFor_5 bp_8 (E_icmp_ge C 120 dX3_goFor_7 (by decide) (fun c7 => ?_) (fun c7 => ?_)))
      ·
        have hi8 : 8 - i = 0 := by
          rcases Nat.lt_or_ge i 8 with q | q
          · exact absurd (show nI 8 ≤ nI i from c7) (nI_ge q (by decide))
          · omega
        have hz : gof N L st fo le (8 - i) hd mi gl md = (hd, mi, gl) := by
          rw [hi8]
          rfl
        refine E_vretV C hr hlk dX3_goFor_120 ?_
        refine ⟨Dv1, v1, rfl, hfD, hfv, ?_⟩
        rw [← hres]
        rw [hz]
        exact hq
      ·
        refine E_iload_n C dX3_goFor_10 1 rfl (E_if_eq C 120 dX3_goFor_11 (by decide) (fun c11 => ?_) (fun c11 => ?_))
        ·
          have hmd : md = 0 := (nI_eq (b := 0) (by omega) (by decide)).mp c11
          have hz : gof N L st fo le (8 - i) hd mi gl md = (hd, mi, gl) := by
            rw [hmd]
            exact gof_z
          refine E_vretV C hr hlk dX3_goFor_120 ?_
          refine ⟨Dv1, v1, rfl, hfD, hfv, ?_⟩
          rw [← hres]
          rw [hz]
          exact hq
        ·
          have hm0 : ¬ md = 0 := fun q => c11 (by rw [q]; rfl)
          have hi : i < 8 := by
            rcases Nat.lt_or_ge i 8 with q | q
            · exact q
            · exact absurd (show nI 8 ≤ nI i from nI_le q (by omega)) c7
          have hl := lst_ok md hm1 hm0
          have hp := pop_set hd hhd (lst md) hl.1 (hm2 _ hl.2)
          have hg8 : gl.length < 8 := by
            have := pop_le (hd ||| 2 ^ lst md)
            omega
          have hw0 : N 0 (lst md) ≤ 5 := hB 0 (lst md) (by decide) hl.1
          have hw4 : N 4 (lst md) ≤ 255 := hB 4 (lst md) (by decide) hl.1
          have h1 : (Dv1 1).1 1 = nI st := hq.2.1
          have h6 : (Dv1 1).1 6 = nI gl.length := hq.2.2.2.2.2.2.1
          refine E_iload_n C dX3_goFor_14 1 rfl (E_callSI C dX3_goFor_15 ms_X3_84 _ (s_leastOf md hm1) rfl rfl (by decide) (Nat.le_of_ble_eq_true rfl) ?_)
          rintro _ _ ⟨rfl, rfl⟩
          refine E_istore C dX3_goFor_18 (by decide) (E_aload_n C dX3_goFor_20 3 rfl (xg_3_0 C (b := 1) (by decide) dX3_goFor_21 f_X3_21 (E_iconst (v := 0) C dX3_goFor_24 ic_0 (E_iload C dX3_goFor_25 0 rfl (E_callVI C dX3_goFor_27 mv_X3_77 1 _ (s_value 0 (lst md) (by decide) hl.1) rfl rfl rfl (by decide) (Nat.le_of_ble_eq_true rfl) ?_)))))
          rintro _ _ ⟨rfl, rfl⟩
          refine Ev.seti (hN 0 (lst md) (by decide) hl.1) ?_
          refine E_istore C dX3_goFor_30 (by decide) (E_aload_n C dX3_goFor_32 4 rfl (xg_3_0 C (b := 1) (by decide) dX3_goFor_33 f_X3_21 (E_iconst (v := 5) C dX3_goFor_36 ic_5 (E_iload C dX3_goFor_37 0 rfl (E_callVI C dX3_goFor_39 mv_X3_77 1 _ (s_value 5 (N 0 (lst md)) (by decide) (by omega)) rfl rfl rfl (by decide) (Nat.le_of_ble_eq_true rfl) ?_)))))
          rintro _ _ ⟨rfl, rfl⟩
          refine Ev.seti (hN 5 (N 0 (lst md)) (by decide) (by omega)) ?_
          refine E_istore C dX3_goFor_42 (by decide) (E_aload_n C dX3_goFor_44 5 rfl (E_iload C dX3_goFor_45 1 rfl (E_iload C dX3_goFor_47 2 rfl (E_aload_n C dX3_goFor_49 5 rfl (xg_3_0 C (b := 1) (by decide) dX3_goFor_50 f_X3_21 ?_)))))
          refine xg_9_1 C dX3_goFor_53 f_X3_87 (E_iconst (v := 1) C dX3_goFor_56 ic_1 (E_iload C dX3_goFor_57 0 rfl (E_aload_n C dX3_goFor_59 5 rfl (xg_3_10 C (b := 1) (by decide) dX3_goFor_60 f_X3_52 ?_))))
          refine Ev.seti h6 ?_
          refine E_aload_n C dX3_goFor_63 5 rfl (xg_3_0 C (b := 1) (by decide) dX3_goFor_64 f_X3_21 (E_iconst (v := 3) C dX3_goFor_67 ic_3 (E_iload C dX3_goFor_68 2 rfl (E_callVI C dX3_goFor_70 mv_X3_77 1 _ (s_value 3 (lst md) (by decide) hl.1) rfl rfl rfl (by decide) (Nat.le_of_ble_eq_true rfl) ?_))))
          rintro _ _ ⟨rfl, rfl⟩
          refine Ev.seti (hN 3 (lst md) (by decide) hl.1) ?_
          refine E_aload_n C dX3_goFor_73 5 rfl (xg_3_5 C (b := 1) (by decide) dX3_goFor_74 f_X3_36 ?_)
          refine Ev.seti h1 ?_
          refine E_callVI C dX3_goFor_77 mv_X3_91 11 _ (s_minutesL hL 1 (N 5 (N 0 (lst md))) gl.length (N 3 (lst md)) st) rfl rfl rfl (by decide) (Nat.le_of_ble_eq_true rfl) ?_
          rintro _ _ ⟨rfl, v2, rfl, hv2⟩
          refine E_callVV C dX3_goFor_80 mv_X3_96 _ _ (s_noteGoing_1 hq hg8 (N 0 (lst md)) (lst md) (L 1 (N 5 (N 0 (lst md))) gl.length (N 3 (lst md)) st)) (xat_dr0 (b := 1) (by decide)) rfl rfl (by decide) (Nat.le_of_ble_eq_true rfl) ?_
          rintro _ ⟨Dv2, rfl, hf2, hq2⟩
          obtain ⟨k0, k1, k2, k3, k4, k5, k6, k7, k8, k9⟩ := hq2
          have k3 : (Dv2 1).1 3 = nI hd := k3
          refine E_aload_n C dX3_goFor_83 5 rfl (E_dup C dX3_goFor_84 rfl (xg_3_7 C (b := 1) (by decide) dX3_goFor_85 f_X3_43 ?_))
          refine Ev.seti k3 ?_
          refine E_iconst (v := 1) C dX3_goFor_88 ic_1 (E_iload C dX3_goFor_89 2 rfl (E_ishl C dX3_goFor_91 ?_))
          refine Ev.seti (nx_one (lst md) (by omega)) ?_
          refine E_ior C dX3_goFor_92 ?_
          refine Ev.seti (nx_or _ _) ?_
          refine xp_3_7 C (b := 1) (by decide) dX3_goFor_93 fw_X3_43 ?_
          obtain ⟨Dv3, hD3⟩ : ∃ dd, dd = va_up Dv2 1 (va_up (Dv2 1).1 3 (nI (hd ||| 2 ^ lst md)), (Dv2 1).2) := ⟨_, rfl⟩
          rw [← hD3]
          have hf3 : ∀ k, k ≠ 1 → Dv3 k = Dv k := fun k hk => by
            rw [hD3]
            exact (if_neg hk).trans ((hf2 k hk).trans (hfD k hk))
          have hq3 : DRel P (Dv3 1) on st fo (hd ||| 2 ^ lst md, le, mi + (L 1 (N 5 (N 0 (lst md))) gl.length (N 3 (lst md)) st), gl ++ [(N 0 (lst md), lst md, (L 1 (N 5 (N 0 (lst md))) gl.length (N 3 (lst md)) st))], tu, lt) := by
            rw [hD3]
            exact ⟨k0, k1, k2, rfl, k4, k5, k6, k7, k8, k9⟩
          refine E_iload_n C dX3_goFor_96 4 rfl (E_aload_n C dX3_goFor_97 5 rfl (xg_3_0 C (b := 1) (by decide) dX3_goFor_98 f_X3_21 (E_iconst (v := 4) C dX3_goFor_101 ic_4 (E_iload C dX3_goFor_102 2 rfl (E_callVI C dX3_goFor_104 mv_X3_77 1 _ (s_value 4 (lst md) (by decide) hl.1) rfl rfl rfl (by decide) (Nat.le_of_ble_eq_true rfl) ?_)))))
          rintro _ _ ⟨rfl, rfl⟩
          refine Ev.seti (hN 4 (lst md) (by decide) hl.1) ?_
          refine E_ior C dX3_goFor_107 ?_
          refine Ev.seti (nx_or _ _) ?_
          refine E_aload_n C dX3_goFor_108 5 rfl (E_callVI C dX3_goFor_109 mv_X3_81 _ _ (s_open_1 hq3.2.2.1 hq3.2.2.2.1 hq3.2.2.2.2.1 hfo) (xat_dr0 (b := 1) (by decide)) rfl rfl (by decide) (Nat.le_of_ble_eq_true rfl) ?_)
          rintro _ _ ⟨rfl, rfl⟩
          refine E_iand C dX3_goFor_112 ?_
          refine Ev.seti (nx_and _ _) ?_
          refine E_istore_n C dX3_goFor_113 (by decide) (E_iinc C dX3_goFor_114 4 rfl (nI_1 i) (by decide) (E_goto C 4 dX3_goFor_117 (by decide) ?_))
          refine Ev.sub [0, 1, 5, 6] rfl (ih (i + 1) _ _ _ _ Dv3 v2 (by omega) (by omega) (or_lt hhd (two_lt hl.1)) ?_ (Nat.lt_of_le_of_lt Nat.and_le_right (opn_lt hfo _ _)) ?_ hf3 (fun k a b => (hv2 k a b).trans (hfv k a b)) hq3 ?_)
          · rw [List.length_append, hgl, hp]
            rfl
          · intro t ht
            rw [Nat.testBit_and, Bool.and_eq_true] at ht
            exact opn_hd (tb_lt (opn_lt hfo _ _) ht.2) ht.2
          · rw [show 8 - i = (8 - (i + 1)) + 1 by omega] at hres
            exact (gof_s hm0).symm.trans hres
  refine E_iload_n C dX3_goFor_0 1 rfl (E_istore_n C dX3_goFor_1 (by decide) (E_iconst (v := 0) C dX3_goFor_2 ic_0 (E_istore_n C dX3_goFor_3 (by decide) ?_)))
  exact K 9 0 hd0 mi0 gl0 m0 Dv v (by omega) (by omega) hhd0 hgl0 hm01 hm02 (fun _ _ => rfl) (fun _ _ _ => rfl) hq0 rfl
set_option maxRecDepth 100000 in
set_option maxHeartbeats 4000000 in
theorem s_driveOn_1 {l : Launch} {D : va_G} {tc tt ad : Nat → Nat} {W : Nat → Nat → Int32} {g : Nat → Int32} {h : Nat → Nat → Int32} {Dv : Nat → (Nat → Int32) × (Nat → Nat → Int32)} {Sh : Nat → (Nat → Int32) × (Nat → Int64)} {u : Nat → Int32} {v : Nat → Nat → Int32} {z : Int64} {y : Nat → Int64} {N : Nat → Nat → Nat} (hN : NW W N) (hB : Bd N) {L : Nat → Nat → Nat → Nat → Nat → Nat} (hL : LawX g h L) {P : Prop} {st fo : Nat} {q : DT} (hq : DRel P (Dv 1) 1 st fo q) (hi : DI q) (hfo : fo < 256) (hst : st ≤ 6) : Ct l yX3_driveOn cX3_driveOn 3 none 5 D tc tt [.ref (ad 40)] (hx ad tc W g h Dv Sh u v z y) (PV fun w => ∃ Dv' v', w = hx ad tc W g h Dv' Sh u v' z y ∧ (∀ k, k ≠ 1 → Dv' k = Dv k) ∧ (∀ k, k ≠ 0 → k ≠ 1 → v' k = v k) ∧ DRel P (Dv' 1) (if st < 6 then 1 else 0) (if st < 6 then st + 1 else st) fo (onStop N L st fo q)) := by
  refine Ct.of (by decide +kernel) (Nat.le_of_ble_eq_true rfl) ?_
  intro p e R s m args below meth c A C hr hlk
  have T : ∀ (q1 : DT) (x1 x2 : Int32) (Dv1 : Nat → (Nat → Int32) × (Nat → Nat → Int32)) (v1 : Nat → Nat → Int32), (∀ k, k ≠ 1 → Dv1 k = Dv k) → (∀ k, k ≠ 0 → k ≠ 1 → v1 k = v k) → DRel P (Dv1 1) 1 st fo q1 → stopAt N L st fo q = q1 → Ev p l e R s m args below meth c 0 0 (EQ below (PV fun w => ∃ Dv' v', w = hx ad tc W g h Dv' Sh u v' z y ∧ (∀ k, k ≠ 1 → Dv' k = Dv k) ∧ (∀ k, k ≠ 0 → k ≠ 1 → v' k = v k) ∧ DRel P (Dv' 1) (if st < 6 then 1 else 0) (if st < 6 then st + 1 else st) fo (onStop N L st fo q)) args s D A) D A 3 (hx ad tc W g h Dv1 Sh u v1 z y) 103 [(2, .int x2), (1, .int x1), (0, .ref (ad 40))] [] := by
    intro q1 x1 x2 Dv1 v1 hf hv hq1 hs
    obtain ⟨h0, h1, h2, h3, h4, h5, h6, h7, h8, h9⟩ := hq1
    refine E_aload_n C dX3_driveOn_103 2 rfl (xg_3_5 C (b := 1) (by decide) dX3_driveOn_104 f_X3_36 ?_)
    refine Ev.seti h1 ?_
    refine E_bipush (v := 6) C dX3_driveOn_107 bp_6 (E_icmp_lt C 120 dX3_driveOn_109 (by decide) (fun c109 => ?_) (fun c109 => ?_))
    ·
      refine E_aload_n C dX3_driveOn_120 2 rfl (E_dup C dX3_driveOn_121 rfl (xg_3_9 C (b := 1) (by decide) dX3_driveOn_122 f_X3_49 ?_))
      refine Ev.seti h5 ?_
      refine E_aload_n C dX3_driveOn_125 2 rfl (xg_3_0 C (b := 1) (by decide) dX3_driveOn_126 f_X3_21 (E_bipush (v := 6) C dX3_driveOn_129 bp_6 (E_aload_n C dX3_driveOn_131 2 rfl (xg_3_5 C (b := 1) (by decide) dX3_driveOn_132 f_X3_36 ?_))))
      have hs6 : st < 6 := (nI_ltI (b := 6) (by omega) (by decide)).mp c109
      refine Ev.seti h1 ?_
      refine E_callVI C dX3_driveOn_135 mv_X3_77 1 _ (s_value 6 st (by decide) (by omega)) rfl rfl rfl (by decide) (Nat.le_of_ble_eq_true rfl) ?_
      rintro _ _ ⟨rfl, rfl⟩
      refine Ev.seti (hN 6 st (by decide) (by omega)) ?_
      refine E_iadd C dX3_driveOn_138 ?_
      refine Ev.seti (nI_add _ _) ?_
      refine xp_3_9 C (b := 1) (by decide) dX3_driveOn_139 fw_X3_49 (E_aload_n C dX3_driveOn_142 2 rfl (E_dup C dX3_driveOn_143 rfl (xg_3_5 C (b := 1) (by decide) dX3_driveOn_144 f_X3_36 ?_)))
      refine Ev.seti h1 ?_
      refine E_iconst (v := 1) C dX3_driveOn_147 ic_1 (E_iadd C dX3_driveOn_148 ?_)
      refine Ev.seti (nI_1 st) ?_
      refine xp_3_5 C (b := 1) (by decide) dX3_driveOn_149 fw_X3_36 (E_vretV C hr hlk dX3_driveOn_152 ?_)
      first
        | (have hs6 : ¬ st < 6 := fun z => c109 (nI_lt z (by decide))
           refine ⟨_, v1, rfl, fun k hk0 => (if_neg hk0).trans (hf k hk0), hv, ?_⟩
           rw [if_neg hs6, if_neg hs6]
           show DRel P _ 0 st fo (addWay N st (stopAt N L st fo q))
           rw [hs, addWay, if_neg hs6]
           exact ⟨rfl, h1, h2, h3, h4, h5, h6, h7, h8, h9⟩)
        | (have hs6 : st < 6 := (nI_ltI (b := 6) (by omega) (by decide)).mp c109
           refine ⟨_, v1, rfl, fun k hk0 => (if_neg hk0).trans ((if_neg hk0).trans (hf k hk0)), hv, ?_⟩
           rw [if_pos hs6, if_pos hs6]
           show DRel P _ 1 (st + 1) fo (addWay N st (stopAt N L st fo q))
           rw [hs, addWay, if_pos hs6]
           exact ⟨h0, rfl, h2, h3, h4, rfl, h6, h7, h8, h9⟩)
    ·
      refine E_aload_n C dX3_driveOn_112 2 rfl (E_iconst (v := 0) C dX3_driveOn_113 ic_0 (xp_3_4 C (b := 1) (by decide) dX3_driveOn_114 fw_X3_32 rfl rfl (E_goto C 152 dX3_driveOn_117 (by decide) (E_vretV C hr hlk dX3_driveOn_152 ?_))))
      first
        | (have hs6 : ¬ st < 6 := fun z => c109 (nI_lt z (by decide))
           refine ⟨_, v1, rfl, fun k hk0 => (if_neg hk0).trans (hf k hk0), hv, ?_⟩
           rw [if_neg hs6, if_neg hs6]
           show DRel P _ 0 st fo (addWay N st (stopAt N L st fo q))
           rw [hs, addWay, if_neg hs6]
           exact ⟨rfl, h1, h2, h3, h4, h5, h6, h7, h8, h9⟩)
        | (have hs6 : st < 6 := (nI_ltI (b := 6) (by omega) (by decide)).mp c109
           refine ⟨_, v1, rfl, fun k hk0 => (if_neg hk0).trans ((if_neg hk0).trans (hf k hk0)), hv, ?_⟩
           rw [if_pos hs6, if_pos hs6]
           show DRel P _ 1 (st + 1) fo (addWay N st (stopAt N L st fo q))
           rw [hs, addWay, if_pos hs6]
           exact ⟨h0, rfl, h2, h3, h4, rfl, h6, h7, h8, h9⟩)
  obtain ⟨hd, le, mi, gl, tu, lt⟩ := q
  obtain ⟨h0, h1, h2, h3, h4, h5, h6, h7, h8, h9⟩ := id hq
  obtain ⟨i1, i2, i3⟩ := hi
  have h1 : (Dv 1).1 1 = nI st := h1
  have h2 : (Dv 1).1 2 = nI fo := h2
  have h3 : (Dv 1).1 3 = nI hd := h3
  have h4 : (Dv 1).1 4 = nI le := h4
  have h5 : (Dv 1).1 5 = nI mi := h5
  have h7 : (Dv 1).1 7 = nI tu := h7
  have hm1 : minded N st fo hd le < 256 := minded_lt hfo
  have hw := wsum_le hB (minded N st fo hd le) 8 (by decide)
  have ht := tsum_le hB st (by omega)
  have hp : N 7 0 ≤ 9 := hB 7 0 (by decide) (by decide)
  have hpt : N 7 0 * (2 * tsum N st) ≤ 9 * 320 := Nat.mul_le_mul hp (by omega)
  refine E_aload_n C dX3_driveOn_0 0 rfl (E_callVI C dX3_driveOn_1 mv_X3_61 _ _ (s_minded_1 hN hB h1 h2 h3 h4 hfo hst) (xat_dr0 (b := 1) (by decide)) rfl rfl (by decide) (Nat.le_of_ble_eq_true rfl) ?_)
  rintro _ _ ⟨rfl, rfl⟩
  refine E_istore_n C dX3_driveOn_4 (by decide) (E_iconst (v := 2) C dX3_driveOn_5 ic_2 (E_aload_n C dX3_driveOn_6 1 rfl (xg_3_0 C (b := 1) (by decide) dX3_driveOn_7 f_X3_21 (E_aload_n C dX3_driveOn_10 1 rfl (xg_3_5 C (b := 1) (by decide) dX3_driveOn_11 f_X3_36 ?_)))))
  refine Ev.seti h1 ?_
  refine E_callVI C dX3_driveOn_14 mv_X3_65 1 _ (s_minutesTo hN st hst) rfl rfl rfl (by decide) (Nat.le_of_ble_eq_true rfl) ?_
  rintro _ _ ⟨rfl, rfl⟩
  refine E_imul C dX3_driveOn_17 ?_
  refine Ev.seti (show (2 : Int32) * nI (tsum N st) = nI (2 * tsum N st) from pk_mul 2 _) ?_
  refine E_istore_n C dX3_driveOn_18 (by decide) (E_aload_n C dX3_driveOn_19 2 rfl (xg_3_5 C (b := 1) (by decide) dX3_driveOn_20 f_X3_36 ?_))
  refine Ev.seti h1 ?_
  refine E_if_ne C 34 dX3_driveOn_23 (by decide) (fun c23 => ?_) (fun c23 => ?_)
  ·
    refine E_aload_n C dX3_driveOn_34 2 rfl (xg_3_0 C (b := 1) (by decide) dX3_driveOn_35 f_X3_21 (E_iload_n C dX3_driveOn_38 1 rfl (E_callVI C dX3_driveOn_39 mv_X3_74 1 _ (s_worthOf hN (minded N st fo hd le) hm1) rfl rfl rfl (by decide) (Nat.le_of_ble_eq_true rfl) ?_)))
    rintro _ _ ⟨rfl, rfl⟩
    refine E_aload_n C dX3_driveOn_42 2 rfl (xg_3_0 C (b := 1) (by decide) dX3_driveOn_43 f_X3_21 (E_bipush (v := 7) C dX3_driveOn_46 bp_7 (E_iconst (v := 0) C dX3_driveOn_48 ic_0 (E_callVI C dX3_driveOn_49 mv_X3_77 1 _ (s_value 7 0 (by decide) (by decide)) rfl rfl rfl (by decide) (Nat.le_of_ble_eq_true rfl) ?_))))
    rintro _ _ ⟨rfl, rfl⟩
    refine Ev.seti (hN 7 0 (by decide) (by decide)) ?_
    refine E_iload_n C dX3_driveOn_52 0 rfl (E_imul C dX3_driveOn_53 ?_)
    refine Ev.seti (pk_mul _ _) ?_
    refine E_icmp_le C 93 dX3_driveOn_54 (by decide) (fun c54 => ?_) (fun c54 => ?_)
    ·
      have hle : ¬ N 7 0 * (2 * tsum N st) < wsum N (minded N st fo hd le) 8 := fun z => nI_ge z (by omega) c54
      have hs0 : ¬ st = 0 := fun z => c23 (by rw [z]; rfl)
      refine E_aload_n C dX3_driveOn_93 2 rfl (E_dup C dX3_driveOn_94 rfl (xg_3_8 C (b := 1) (by decide) dX3_driveOn_95 f_X3_46 ?_))
      refine Ev.seti h4 ?_
      refine E_iload_n C dX3_driveOn_98 1 rfl (E_ior C dX3_driveOn_99 ?_)
      refine Ev.seti (nx_or _ _) ?_
      refine xp_3_8 C (b := 1) (by decide) dX3_driveOn_100 fw_X3_46 ?_
      first
        | exact T _ _ _ _ _ hf2 hv2 hq2 (by rw [stopAt, if_pos rfl])
        | exact T _ _ _ _ _ (fun k hk0 => (hf2 k hk0).trans (hf1 k hk0)) hv2 hq2 (by rw [stopAt, if_neg hs0, if_pos hgt])
        | exact T (hd, le ||| minded N st fo hd le, mi, gl, tu, lt) _ _ _ _ (fun k hk0 => if_neg hk0) (fun _ _ _ => rfl) ⟨h0, h1, h2, h3, rfl, h5, h6, h7, h8, h9⟩ (by rw [stopAt, if_neg hs0, if_neg hle])
    ·
      have hgt : N 7 0 * (2 * tsum N st) < wsum N (minded N st fo hd le) 8 := Nat.not_le.mp fun z => c54 (nI_le z (by omega))
      have hs0 : ¬ st = 0 := fun z => c23 (by rw [z]; rfl)
      refine E_aload_n C dX3_driveOn_57 2 rfl (E_dup C dX3_driveOn_58 rfl (xg_3_9 C (b := 1) (by decide) dX3_driveOn_59 f_X3_49 ?_))
      refine Ev.seti h5 ?_
      refine E_iload_n C dX3_driveOn_62 0 rfl (E_iadd C dX3_driveOn_63 ?_)
      refine Ev.seti (nI_add _ _) ?_
      refine xp_3_9 C (b := 1) (by decide) dX3_driveOn_64 fw_X3_49 (E_aload_n C dX3_driveOn_67 2 rfl (E_dup C dX3_driveOn_68 rfl (xg_3_11 C (b := 1) (by decide) dX3_driveOn_69 f_X3_55 ?_)))
      refine Ev.seti h7 ?_
      refine E_iconst (v := 1) C dX3_driveOn_72 ic_1 (E_iadd C dX3_driveOn_73 ?_)
      refine Ev.seti (nI_1 tu) ?_
      refine xp_3_11 C (b := 1) (by decide) dX3_driveOn_74 fw_X3_55 (E_aload_n C dX3_driveOn_77 2 rfl (E_aload_n C dX3_driveOn_78 2 rfl (xg_3_5 C (b := 1) (by decide) dX3_driveOn_79 f_X3_36 ?_)))
      refine Ev.seti h1 ?_
      refine xp_3_12 C (b := 1) (by decide) dX3_driveOn_82 fw_X3_58 ?_
      obtain ⟨Dv1, hD1⟩ : ∃ dd, dd = va_up (va_up (va_up Dv 1 (va_up (Dv 1).1 5 (nI (mi + 2 * tsum N st)), (Dv 1).2)) 1 (va_up (va_up Dv 1 (va_up (Dv 1).1 5 (nI (mi + 2 * tsum N st)), (Dv 1).2) 1).1 7 (nI (tu + 1)), (va_up Dv 1 (va_up (Dv 1).1 5 (nI (mi + 2 * tsum N st)), (Dv 1).2) 1).2)) 1 (va_up (va_up (va_up Dv 1 (va_up (Dv 1).1 5 (nI (mi + 2 * tsum N st)), (Dv 1).2)) 1 (va_up (va_up Dv 1 (va_up (Dv 1).1 5 (nI (mi + 2 * tsum N st)), (Dv 1).2) 1).1 7 (nI (tu + 1)), (va_up Dv 1 (va_up (Dv 1).1 5 (nI (mi + 2 * tsum N st)), (Dv 1).2) 1).2) 1).1 8 (nI st), (va_up (va_up Dv 1 (va_up (Dv 1).1 5 (nI (mi + 2 * tsum N st)), (Dv 1).2)) 1 (va_up (va_up Dv 1 (va_up (Dv 1).1 5 (nI (mi + 2 * tsum N st)), (Dv 1).2) 1).1 7 (nI (tu + 1)), (va_up Dv 1 (va_up (Dv 1).1 5 (nI (mi + 2 * tsum N st)), (Dv 1).2) 1).2) 1).2) := ⟨_, rfl⟩
      rw [← hD1]
      have hf1 : ∀ k, k ≠ 1 → Dv1 k = Dv k := fun k hk0 => by
        rw [hD1]
        simp only [va_up, if_neg hk0]
      have hq1 : DRel P (Dv1 1) 1 st fo (hd, le, mi + 2 * tsum N st, gl, tu + 1, st) := by
        rw [hD1]
        exact ⟨h0, h1, h2, h3, h4, rfl, h6, rfl, fun _ => rfl, h9⟩
      refine E_aload_n C dX3_driveOn_85 2 rfl (E_iload_n C dX3_driveOn_86 1 rfl (E_callVV C dX3_driveOn_87 mv_X3_71 _ _ (s_goFor_1 hN hB hL hq1 hfo i1 i3 (minded N st fo hd le) hm1 (minded_hd hfo)) (xat_dr0 (b := 1) (by decide)) rfl rfl (by decide) (Nat.le_of_ble_eq_true rfl) ?_))
      rintro _ ⟨Dv2, v2, rfl, hf2, hv2, hq2⟩
      refine E_goto C 103 dX3_driveOn_90 (by decide) ?_
      first
        | exact T _ _ _ _ _ hf2 hv2 hq2 (by rw [stopAt, if_pos rfl])
        | exact T _ _ _ _ _ (fun k hk0 => (hf2 k hk0).trans (hf1 k hk0)) hv2 hq2 (by rw [stopAt, if_neg hs0, if_pos hgt])
        | exact T (hd, le ||| minded N st fo hd le, mi, gl, tu, lt) _ _ _ _ (fun k hk0 => if_neg hk0) (fun _ _ _ => rfl) ⟨h0, h1, h2, h3, rfl, h5, h6, h7, h8, h9⟩ (by rw [stopAt, if_neg hs0, if_neg hle])
  ·
    refine E_aload_n C dX3_driveOn_26 2 rfl (E_iload_n C dX3_driveOn_27 1 rfl ?_)
    obtain rfl : st = 0 := (nI_eq (b := 0) (by omega) (by decide)).mp c23
    refine E_callVV C dX3_driveOn_28 mv_X3_71 _ _ (s_goFor_1 hN hB hL hq hfo i1 i3 (minded N 0 fo hd le) hm1 (minded_hd hfo)) (xat_dr0 (b := 1) (by decide)) rfl rfl (by decide) (Nat.le_of_ble_eq_true rfl) ?_
    rintro _ ⟨Dv2, v2, rfl, hf2, hv2, hq2⟩
    refine E_goto C 103 dX3_driveOn_31 (by decide) ?_
    first
      | exact T _ _ _ _ _ hf2 hv2 hq2 (by rw [stopAt, if_pos rfl])
      | exact T _ _ _ _ _ (fun k hk0 => (hf2 k hk0).trans (hf1 k hk0)) hv2 hq2 (by rw [stopAt, if_neg hs0, if_pos hgt])
      | exact T (hd, le ||| minded N st fo hd le, mi, gl, tu, lt) _ _ _ _ (fun k hk0 => if_neg hk0) (fun _ _ _ => rfl) ⟨h0, h1, h2, h3, rfl, h5, h6, h7, h8, h9⟩ (by rw [stopAt, if_neg hs0, if_neg hle])
set_option maxRecDepth 100000 in
set_option maxHeartbeats 4000000 in
theorem s_wholeWith_1 {l : Launch} {D : va_G} {tc tt ad : Nat → Nat} {W : Nat → Nat → Int32} {g : Nat → Int32} {h : Nat → Nat → Int32} {Dv : Nat → (Nat → Int32) × (Nat → Nat → Int32)} {Sh : Nat → (Nat → Int32) × (Nat → Int64)} {u : Nat → Int32} {v : Nat → Nat → Int32} {z : Int64} {y : Nat → Int64} {N : Nat → Nat → Nat} (hN : NW W N) (hB : Bd N) {L : Nat → Nat → Nat → Nat → Nat → Nat} (hL : LawX g h L) (fo : Nat) (hfo : fo < 256) : Ct l yX3_wholeWith cX3_wholeWith 3 none 6 D tc tt [.ref (ad 40), .int (nI fo)] (hx ad tc W g h Dv Sh u v z y) (PV fun w => ∃ Dv' v', w = hx ad tc W g h Dv' Sh u v' z y ∧ (∀ k, k ≠ 1 → Dv' k = Dv k) ∧ (∀ k, k ≠ 0 → k ≠ 1 → v' k = v k) ∧ DRel True (Dv' 1) 0 6 fo (whole N L fo)) := by
  refine Ct.of (by decide +kernel) (Nat.le_of_ble_eq_true rfl) ?_
  intro p e R s m args below meth c A C hr hlk
  have K : ∀ (n i : Nat) (Dv1 : Nat → (Nat → Int32) × (Nat → Nat → Int32)) (v1 : Nat → Nat → Int32), i ≤ 7 → 7 < i + n → (∀ k, k ≠ 1 → Dv1 k = Dv k) → (∀ k, k ≠ 0 → k ≠ 1 → v1 k = v k) → DRel True (Dv1 1) (if i < 7 then 1 else 0) (min i 6) fo (goStops N L fo i) → Ev p l e R s m args below meth c 0 0 (EQ below (PV fun w => ∃ Dv' v', w = hx ad tc W g h Dv' Sh u v' z y ∧ (∀ k, k ≠ 1 → Dv' k = Dv k) ∧ (∀ k, k ≠ 0 → k ≠ 1 → v' k = v k) ∧ DRel True (Dv' 1) 0 6 fo (whole N L fo)) args s D A) D A 3 (hx ad tc W g h Dv1 Sh u v1 z y) 7 [(2, .int (nI i)), (0, .ref (ad 40)), (1, .int (nI fo))] [] := by
    intro n
    induction n with
    | zero =>
      intro i Dv1 v1 h1 h2 hfD hfv hq
      exfalso; omega
    | succ n ih =>
      intro i Dv1 v1 h1 h2 hfD hfv hq
      refine E_iload_n C dX3_wholeWith_7 0 rfl (E_bipush (v := 6) C dX3_wholeWith_8 bp_6 (E_icmp_gt C 23 dX3_wholeWith_10 (by decide) (fun c10 => ?_) (fun c10 => ?_)))
      ·
        obtain rfl : i = 7 := by
          rcases Nat.lt_or_ge i 7 with q | q
          · exact absurd (show nI 6 < nI i from c10) (nI_nlt (by omega) (by omega))
          · omega
        refine E_vretV C hr hlk dX3_wholeWith_23 ?_
        exact ⟨Dv1, v1, rfl, hfD, hfv, hq⟩
      ·
        have hi : i < 7 := by
          rcases Nat.lt_or_ge i 7 with q | q
          · exact q
          · exact absurd (show nI 6 < nI i from nI_lt (by omega) (by omega)) c10
        rw [if_pos hi, show min i 6 = i by omega] at hq
        refine E_aload_n C dX3_wholeWith_13 1 rfl (E_callVV C dX3_wholeWith_14 mv_X3_29 _ _ (s_driveOn_1 hN hB hL hq (goStops_inv hB hfo i) hfo (by omega)) (xat_dr0 (b := 1) (by decide)) rfl rfl (by decide) (Nat.le_of_ble_eq_true rfl) ?_)
        rintro _ ⟨Dv2, v2, rfl, hf2, hv2, hq2⟩
        refine E_iinc C dX3_wholeWith_17 0 rfl (nI_1 i) (by decide) (E_goto C 7 dX3_wholeWith_20 (by decide) ?_)
        refine Ev.sub [0, 1, 2] rfl (ih (i + 1) Dv2 v2 (by omega) (by omega) (fun k hk0 => (hf2 k hk0).trans (hfD k hk0)) (fun k a b => (hv2 k a b).trans (hfv k a b)) ?_)
        by_cases e : i < 6
        · rw [if_pos e, if_pos e] at hq2
          rw [if_pos (show i + 1 < 7 by omega), show min (i + 1) 6 = i + 1 by omega]
          exact hq2
        · rw [if_neg e, if_neg e] at hq2
          rw [if_neg (show ¬ i + 1 < 7 by omega), show min (i + 1) 6 = i by omega]
          exact hq2
  refine E_aload_n C dX3_wholeWith_0 0 rfl (E_iload_n C dX3_wholeWith_1 1 rfl (E_callVV C dX3_wholeWith_2 mv_X3_25 _ _ (s_beginWith_1 True fo) (xat_dr0 (b := 1) (by decide)) rfl rfl (by decide) (Nat.le_of_ble_eq_true rfl) ?_))
  rintro _ ⟨Dv0, rfl, hf0, hq0⟩
  refine E_iconst (v := 0) C dX3_wholeWith_5 ic_0 (E_istore_n C dX3_wholeWith_6 (by decide) ?_)
  exact K 8 0 Dv0 v (by omega) (by omega) hf0 (fun _ _ _ => rfl) hq0
set_option maxRecDepth 100000 in
set_option maxHeartbeats 4000000 in
theorem s_cost_1 {l : Launch} {D : va_G} {tc tt ad : Nat → Nat} {W : Nat → Nat → Int32} {g : Nat → Int32} {h : Nat → Nat → Int32} {Dv : Nat → (Nat → Int32) × (Nat → Nat → Int32)} {Sh : Nat → (Nat → Int32) × (Nat → Int64)} {u : Nat → Int32} {v : Nat → Nat → Int32} {z : Int64} {y : Nat → Int64} {N : Nat → Nat → Nat} (hN : NW W N) {mi le : Nat} (h5 : (Dv 1).1 5 = nI mi) (h4 : (Dv 1).1 4 = nI le) (hle : le < 256) : Ct l yX3_cost cX3_cost 1 (some .int) 3 D tc tt [.ref (ad 40)] (hx ad tc W g h Dv Sh u v z y) (PI fun r w => r = nI (N 7 0 * mi + wsum N le 8) ∧ w = hx ad tc W g h Dv Sh u v z y) := by
  refine Ct.of (by decide +kernel) (Nat.le_of_ble_eq_true rfl) ?_
  intro p e R s m args below meth c A C hr hlk
  refine E_aload_n C dX3_cost_0 0 rfl (xg_3_0 C (b := 1) (by decide) dX3_cost_1 f_X3_21 (E_bipush (v := 7) C dX3_cost_4 bp_7 (E_iconst (v := 0) C dX3_cost_6 ic_0 (E_callVI C dX3_cost_7 mv_X3_77 1 _ (s_value 7 0 (by decide) (by decide)) rfl rfl rfl (by decide) (Nat.le_of_ble_eq_true rfl) ?_))))
  rintro _ _ ⟨rfl, rfl⟩
  refine Ev.seti (hN 7 0 (by decide) (by decide)) ?_
  refine E_aload_n C dX3_cost_10 0 rfl (xg_3_9 C (b := 1) (by decide) dX3_cost_11 f_X3_49 ?_)
  refine Ev.seti h5 ?_
  refine E_imul C dX3_cost_14 ?_
  refine Ev.seti (pk_mul _ _) ?_
  refine E_aload_n C dX3_cost_15 0 rfl (xg_3_0 C (b := 1) (by decide) dX3_cost_16 f_X3_21 (E_aload_n C dX3_cost_19 0 rfl (xg_3_8 C (b := 1) (by decide) dX3_cost_20 f_X3_46 ?_)))
  refine Ev.seti h4 ?_
  refine E_callVI C dX3_cost_23 mv_X3_74 1 _ (s_worthOf hN le hle) rfl rfl rfl (by decide) (Nat.le_of_ble_eq_true rfl) ?_
  rintro _ _ ⟨rfl, rfl⟩
  refine E_iadd C dX3_cost_26 (E_iretI C hr hlk dX3_cost_27 ?_)
  exact ⟨nI_add _ _, rfl⟩
set_option maxRecDepth 100000 in
set_option maxHeartbeats 4000000 in
theorem s_goFor_2 {l : Launch} {D : va_G} {tc tt ad : Nat → Nat} {W : Nat → Nat → Int32} {g : Nat → Int32} {h : Nat → Nat → Int32} {Dv : Nat → (Nat → Int32) × (Nat → Nat → Int32)} {Sh : Nat → (Nat → Int32) × (Nat → Int64)} {u : Nat → Int32} {v : Nat → Nat → Int32} {z : Int64} {y : Nat → Int64} {N : Nat → Nat → Nat} (hN : NW W N) (hB : Bd N) {L : Nat → Nat → Nat → Nat → Nat → Nat} (hL : LawX g h L) {P : Prop} {on st fo hd0 le mi0 : Nat} {gl0 : GL} {tu lt : Nat} (hq0 : DRel P (Dv 2) on st fo (hd0, le, mi0, gl0, tu, lt)) (hfo : fo < 256) (hhd0 : hd0 < 256) (hgl0 : gl0.length = pop hd0) (m0 : Nat) (hm01 : m0 < 256) (hm02 : ∀ t, m0.testBit t = true → hd0.testBit t = false) : Ct l yX3_goFor cX3_goFor 7 none 4 D tc tt [.ref (ad 44), .int (nI m0)] (hx ad tc W g h Dv Sh u v z y) (PV fun w => ∃ Dv' v', w = hx ad tc W g h Dv' Sh u v' z y ∧ (∀ k, k ≠ 2 → Dv' k = Dv k) ∧ (∀ k, k ≠ 0 → k ≠ 1 → v' k = v k) ∧ DRel P (Dv' 2) on st fo ((gof N L st fo le 8 hd0 mi0 gl0 m0).1, le, (gof N L st fo le 8 hd0 mi0 gl0 m0).2.1, (gof N L st fo le 8 hd0 mi0 gl0 m0).2.2, tu, lt)) := by
  refine Ct.of (by decide +kernel) (Nat.le_of_ble_eq_true rfl) ?_
  intro p e R s m args below meth c A C hr hlk
  have K : ∀ (n i hd mi : Nat) (gl : GL) (md : Nat) (Dv1 : Nat → (Nat → Int32) × (Nat → Nat → Int32)) (v1 : Nat → Nat → Int32), i ≤ 8 → 8 < i + n → hd < 256 → gl.length = pop hd → md < 256 → (∀ t, md.testBit t = true → hd.testBit t = false) → (∀ k, k ≠ 2 → Dv1 k = Dv k) → (∀ k, k ≠ 0 → k ≠ 1 → v1 k = v k) → DRel P (Dv1 2) on st fo (hd, le, mi, gl, tu, lt) → gof N L st fo le (8 - i) hd mi gl md = gof N L st fo le 8 hd0 mi0 gl0 m0 → Ev p l e R s m args below meth c 0 0 (EQ below (PV fun w => ∃ Dv' v', w = hx ad tc W g h Dv' Sh u v' z y ∧ (∀ k, k ≠ 2 → Dv' k = Dv k) ∧ (∀ k, k ≠ 0 → k ≠ 1 → v' k = v k) ∧ DRel P (Dv' 2) on st fo ((gof N L st fo le 8 hd0 mi0 gl0 m0).1, le, (gof N L st fo le 8 hd0 mi0 gl0 m0).2.1, (gof N L st fo le 8 hd0 mi0 gl0 m0).2.2, tu, lt)) args s D A) D A 7 (hx ad tc W g h Dv1 Sh u v1 z y) 4 [(3, .int (nI i)), (2, .int (nI md)), (0, .ref (ad 44)), (1, .int (nI m0))] [] := by
    intro n
    induction n with
    | zero =>
      intro i hd mi gl md Dv1 v1 h1 h2 hhd hgl hm1 hm2 hfD hfv hq hres
      exfalso; omega
    | succ n ih =>
      intro i hd mi gl md Dv1 v1 h1 h2 hhd hgl hm1 hm2 hfD hfv hq hres
      refine E_iload_n C dX3_goFor_4 0 rfl (E_bipush (v := 8) C dX3_goFor_5 bp_8 (E_icmp_ge C 120 dX3_goFor_7 (by decide) (fun c7 => ?_) (fun c7 => ?_)))
      ·
        have hi8 : 8 - i = 0 := by
          rcases Nat.lt_or_ge i 8 with q | q
          · exact absurd (show nI 8 ≤ nI i from c7) (nI_ge q (by decide))
          · omega
        have hz : gof N L st fo le (8 - i) hd mi gl md = (hd, mi, gl) := by
          rw [hi8]
          rfl
        refine E_vretV C hr hlk dX3_goFor_120 ?_
        refine ⟨Dv1, v1, rfl, hfD, hfv, ?_⟩
        rw [← hres]
        rw [hz]
        exact hq
      ·
        refine E_iload_n C dX3_goFor_10 1 rfl (E_if_eq C 120 dX3_goFor_11 (by decide) (fun c11 => ?_) (fun c11 => ?_))
        ·
          have hmd : md = 0 := (nI_eq (b := 0) (by omega) (by decide)).mp c11
          have hz : gof N L st fo le (8 - i) hd mi gl md = (hd, mi, gl) := by
            rw [hmd]
            exact gof_z
          refine E_vretV C hr hlk dX3_goFor_120 ?_
          refine ⟨Dv1, v1, rfl, hfD, hfv, ?_⟩
          rw [← hres]
          rw [hz]
          exact hq
        ·
          have hm0 : ¬ md = 0 := fun q => c11 (by rw [q]; rfl)
          have hi : i < 8 := by
            rcases Nat.lt_or_ge i 8 with q | q
            · exact q
            · exact absurd (show nI 8 ≤ nI i from nI_le q (by omega)) c7
          have hl := lst_ok md hm1 hm0
          have hp := pop_set hd hhd (lst md) hl.1 (hm2 _ hl.2)
          have hg8 : gl.length < 8 := by
            have := pop_le (hd ||| 2 ^ lst md)
            omega
          have hw0 : N 0 (lst md) ≤ 5 := hB 0 (lst md) (by decide) hl.1
          have hw4 : N 4 (lst md) ≤ 255 := hB 4 (lst md) (by decide) hl.1
          have h1 : (Dv1 2).1 1 = nI st := hq.2.1
          have h6 : (Dv1 2).1 6 = nI gl.length := hq.2.2.2.2.2.2.1
          refine E_iload_n C dX3_goFor_14 1 rfl (E_callSI C dX3_goFor_15 ms_X3_84 _ (s_leastOf md hm1) rfl rfl (by decide) (Nat.le_of_ble_eq_true rfl) ?_)
          rintro _ _ ⟨rfl, rfl⟩
          refine E_istore C dX3_goFor_18 (by decide) (E_aload_n C dX3_goFor_20 3 rfl (xg_3_0 C (b := 2) (by decide) dX3_goFor_21 f_X3_21 (E_iconst (v := 0) C dX3_goFor_24 ic_0 (E_iload C dX3_goFor_25 0 rfl (E_callVI C dX3_goFor_27 mv_X3_77 1 _ (s_value 0 (lst md) (by decide) hl.1) rfl rfl rfl (by decide) (Nat.le_of_ble_eq_true rfl) ?_)))))
          rintro _ _ ⟨rfl, rfl⟩
          refine Ev.seti (hN 0 (lst md) (by decide) hl.1) ?_
          refine E_istore C dX3_goFor_30 (by decide) (E_aload_n C dX3_goFor_32 4 rfl (xg_3_0 C (b := 2) (by decide) dX3_goFor_33 f_X3_21 (E_iconst (v := 5) C dX3_goFor_36 ic_5 (E_iload C dX3_goFor_37 0 rfl (E_callVI C dX3_goFor_39 mv_X3_77 1 _ (s_value 5 (N 0 (lst md)) (by decide) (by omega)) rfl rfl rfl (by decide) (Nat.le_of_ble_eq_true rfl) ?_)))))
          rintro _ _ ⟨rfl, rfl⟩
          refine Ev.seti (hN 5 (N 0 (lst md)) (by decide) (by omega)) ?_
          refine E_istore C dX3_goFor_42 (by decide) (E_aload_n C dX3_goFor_44 5 rfl (E_iload C dX3_goFor_45 1 rfl (E_iload C dX3_goFor_47 2 rfl (E_aload_n C dX3_goFor_49 5 rfl (xg_3_0 C (b := 2) (by decide) dX3_goFor_50 f_X3_21 ?_)))))
          refine xg_9_1 C dX3_goFor_53 f_X3_87 (E_iconst (v := 1) C dX3_goFor_56 ic_1 (E_iload C dX3_goFor_57 0 rfl (E_aload_n C dX3_goFor_59 5 rfl (xg_3_10 C (b := 2) (by decide) dX3_goFor_60 f_X3_52 ?_))))
          refine Ev.seti h6 ?_
          refine E_aload_n C dX3_goFor_63 5 rfl (xg_3_0 C (b := 2) (by decide) dX3_goFor_64 f_X3_21 (E_iconst (v := 3) C dX3_goFor_67 ic_3 (E_iload C dX3_goFor_68 2 rfl (E_callVI C dX3_goFor_70 mv_X3_77 1 _ (s_value 3 (lst md) (by decide) hl.1) rfl rfl rfl (by decide) (Nat.le_of_ble_eq_true rfl) ?_))))
          rintro _ _ ⟨rfl, rfl⟩
          refine Ev.seti (hN 3 (lst md) (by decide) hl.1) ?_
          refine E_aload_n C dX3_goFor_73 5 rfl (xg_3_5 C (b := 2) (by decide) dX3_goFor_74 f_X3_36 ?_)
          refine Ev.seti h1 ?_
          refine E_callVI C dX3_goFor_77 mv_X3_91 11 _ (s_minutesL hL 1 (N 5 (N 0 (lst md))) gl.length (N 3 (lst md)) st) rfl rfl rfl (by decide) (Nat.le_of_ble_eq_true rfl) ?_
          rintro _ _ ⟨rfl, v2, rfl, hv2⟩
          refine E_callVV C dX3_goFor_80 mv_X3_96 _ _ (s_noteGoing_2 hq hg8 (N 0 (lst md)) (lst md) (L 1 (N 5 (N 0 (lst md))) gl.length (N 3 (lst md)) st)) (xat_dr0 (b := 2) (by decide)) rfl rfl (by decide) (Nat.le_of_ble_eq_true rfl) ?_
          rintro _ ⟨Dv2, rfl, hf2, hq2⟩
          obtain ⟨k0, k1, k2, k3, k4, k5, k6, k7, k8, k9⟩ := hq2
          have k3 : (Dv2 2).1 3 = nI hd := k3
          refine E_aload_n C dX3_goFor_83 5 rfl (E_dup C dX3_goFor_84 rfl (xg_3_7 C (b := 2) (by decide) dX3_goFor_85 f_X3_43 ?_))
          refine Ev.seti k3 ?_
          refine E_iconst (v := 1) C dX3_goFor_88 ic_1 (E_iload C dX3_goFor_89 2 rfl (E_ishl C dX3_goFor_91 ?_))
          refine Ev.seti (nx_one (lst md) (by omega)) ?_
          refine E_ior C dX3_goFor_92 ?_
          refine Ev.seti (nx_or _ _) ?_
          refine xp_3_7 C (b := 2) (by decide) dX3_goFor_93 fw_X3_43 ?_
          obtain ⟨Dv3, hD3⟩ : ∃ dd, dd = va_up Dv2 2 (va_up (Dv2 2).1 3 (nI (hd ||| 2 ^ lst md)), (Dv2 2).2) := ⟨_, rfl⟩
          rw [← hD3]
          have hf3 : ∀ k, k ≠ 2 → Dv3 k = Dv k := fun k hk => by
            rw [hD3]
            exact (if_neg hk).trans ((hf2 k hk).trans (hfD k hk))
          have hq3 : DRel P (Dv3 2) on st fo (hd ||| 2 ^ lst md, le, mi + (L 1 (N 5 (N 0 (lst md))) gl.length (N 3 (lst md)) st), gl ++ [(N 0 (lst md), lst md, (L 1 (N 5 (N 0 (lst md))) gl.length (N 3 (lst md)) st))], tu, lt) := by
            rw [hD3]
            exact ⟨k0, k1, k2, rfl, k4, k5, k6, k7, k8, k9⟩
          refine E_iload_n C dX3_goFor_96 4 rfl (E_aload_n C dX3_goFor_97 5 rfl (xg_3_0 C (b := 2) (by decide) dX3_goFor_98 f_X3_21 (E_iconst (v := 4) C dX3_goFor_101 ic_4 (E_iload C dX3_goFor_102 2 rfl (E_callVI C dX3_goFor_104 mv_X3_77 1 _ (s_value 4 (lst md) (by decide) hl.1) rfl rfl rfl (by decide) (Nat.le_of_ble_eq_true rfl) ?_)))))
          rintro _ _ ⟨rfl, rfl⟩
          refine Ev.seti (hN 4 (lst md) (by decide) hl.1) ?_
          refine E_ior C dX3_goFor_107 ?_
          refine Ev.seti (nx_or _ _) ?_
          refine E_aload_n C dX3_goFor_108 5 rfl (E_callVI C dX3_goFor_109 mv_X3_81 _ _ (s_open_2 hq3.2.2.1 hq3.2.2.2.1 hq3.2.2.2.2.1 hfo) (xat_dr0 (b := 2) (by decide)) rfl rfl (by decide) (Nat.le_of_ble_eq_true rfl) ?_)
          rintro _ _ ⟨rfl, rfl⟩
          refine E_iand C dX3_goFor_112 ?_
          refine Ev.seti (nx_and _ _) ?_
          refine E_istore_n C dX3_goFor_113 (by decide) (E_iinc C dX3_goFor_114 4 rfl (nI_1 i) (by decide) (E_goto C 4 dX3_goFor_117 (by decide) ?_))
          refine Ev.sub [0, 1, 5, 6] rfl (ih (i + 1) _ _ _ _ Dv3 v2 (by omega) (by omega) (or_lt hhd (two_lt hl.1)) ?_ (Nat.lt_of_le_of_lt Nat.and_le_right (opn_lt hfo _ _)) ?_ hf3 (fun k a b => (hv2 k a b).trans (hfv k a b)) hq3 ?_)
          · rw [List.length_append, hgl, hp]
            rfl
          · intro t ht
            rw [Nat.testBit_and, Bool.and_eq_true] at ht
            exact opn_hd (tb_lt (opn_lt hfo _ _) ht.2) ht.2
          · rw [show 8 - i = (8 - (i + 1)) + 1 by omega] at hres
            exact (gof_s hm0).symm.trans hres
  refine E_iload_n C dX3_goFor_0 1 rfl (E_istore_n C dX3_goFor_1 (by decide) (E_iconst (v := 0) C dX3_goFor_2 ic_0 (E_istore_n C dX3_goFor_3 (by decide) ?_)))
  exact K 9 0 hd0 mi0 gl0 m0 Dv v (by omega) (by omega) hhd0 hgl0 hm01 hm02 (fun _ _ => rfl) (fun _ _ _ => rfl) hq0 rfl
set_option maxRecDepth 100000 in
set_option maxHeartbeats 4000000 in
theorem s_driveOn_2 {l : Launch} {D : va_G} {tc tt ad : Nat → Nat} {W : Nat → Nat → Int32} {g : Nat → Int32} {h : Nat → Nat → Int32} {Dv : Nat → (Nat → Int32) × (Nat → Nat → Int32)} {Sh : Nat → (Nat → Int32) × (Nat → Int64)} {u : Nat → Int32} {v : Nat → Nat → Int32} {z : Int64} {y : Nat → Int64} {N : Nat → Nat → Nat} (hN : NW W N) (hB : Bd N) {L : Nat → Nat → Nat → Nat → Nat → Nat} (hL : LawX g h L) {P : Prop} {st fo : Nat} {q : DT} (hq : DRel P (Dv 2) 1 st fo q) (hi : DI q) (hfo : fo < 256) (hst : st ≤ 6) : Ct l yX3_driveOn cX3_driveOn 3 none 5 D tc tt [.ref (ad 44)] (hx ad tc W g h Dv Sh u v z y) (PV fun w => ∃ Dv' v', w = hx ad tc W g h Dv' Sh u v' z y ∧ (∀ k, k ≠ 2 → Dv' k = Dv k) ∧ (∀ k, k ≠ 0 → k ≠ 1 → v' k = v k) ∧ DRel P (Dv' 2) (if st < 6 then 1 else 0) (if st < 6 then st + 1 else st) fo (onStop N L st fo q)) := by
  refine Ct.of (by decide +kernel) (Nat.le_of_ble_eq_true rfl) ?_
  intro p e R s m args below meth c A C hr hlk
  have T : ∀ (q1 : DT) (x1 x2 : Int32) (Dv1 : Nat → (Nat → Int32) × (Nat → Nat → Int32)) (v1 : Nat → Nat → Int32), (∀ k, k ≠ 2 → Dv1 k = Dv k) → (∀ k, k ≠ 0 → k ≠ 1 → v1 k = v k) → DRel P (Dv1 2) 1 st fo q1 → stopAt N L st fo q = q1 → Ev p l e R s m args below meth c 0 0 (EQ below (PV fun w => ∃ Dv' v', w = hx ad tc W g h Dv' Sh u v' z y ∧ (∀ k, k ≠ 2 → Dv' k = Dv k) ∧ (∀ k, k ≠ 0 → k ≠ 1 → v' k = v k) ∧ DRel P (Dv' 2) (if st < 6 then 1 else 0) (if st < 6 then st + 1 else st) fo (onStop N L st fo q)) args s D A) D A 3 (hx ad tc W g h Dv1 Sh u v1 z y) 103 [(2, .int x2), (1, .int x1), (0, .ref (ad 44))] [] := by
    intro q1 x1 x2 Dv1 v1 hf hv hq1 hs
    obtain ⟨h0, h1, h2, h3, h4, h5, h6, h7, h8, h9⟩ := hq1
    refine E_aload_n C dX3_driveOn_103 2 rfl (xg_3_5 C (b := 2) (by decide) dX3_driveOn_104 f_X3_36 ?_)
    refine Ev.seti h1 ?_
    refine E_bipush (v := 6) C dX3_driveOn_107 bp_6 (E_icmp_lt C 120 dX3_driveOn_109 (by decide) (fun c109 => ?_) (fun c109 => ?_))
    ·
      refine E_aload_n C dX3_driveOn_120 2 rfl (E_dup C dX3_driveOn_121 rfl (xg_3_9 C (b := 2) (by decide) dX3_driveOn_122 f_X3_49 ?_))
      refine Ev.seti h5 ?_
      refine E_aload_n C dX3_driveOn_125 2 rfl (xg_3_0 C (b := 2) (by decide) dX3_driveOn_126 f_X3_21 (E_bipush (v := 6) C dX3_driveOn_129 bp_6 (E_aload_n C dX3_driveOn_131 2 rfl (xg_3_5 C (b := 2) (by decide) dX3_driveOn_132 f_X3_36 ?_))))
      have hs6 : st < 6 := (nI_ltI (b := 6) (by omega) (by decide)).mp c109
      refine Ev.seti h1 ?_
      refine E_callVI C dX3_driveOn_135 mv_X3_77 1 _ (s_value 6 st (by decide) (by omega)) rfl rfl rfl (by decide) (Nat.le_of_ble_eq_true rfl) ?_
      rintro _ _ ⟨rfl, rfl⟩
      refine Ev.seti (hN 6 st (by decide) (by omega)) ?_
      refine E_iadd C dX3_driveOn_138 ?_
      refine Ev.seti (nI_add _ _) ?_
      refine xp_3_9 C (b := 2) (by decide) dX3_driveOn_139 fw_X3_49 (E_aload_n C dX3_driveOn_142 2 rfl (E_dup C dX3_driveOn_143 rfl (xg_3_5 C (b := 2) (by decide) dX3_driveOn_144 f_X3_36 ?_)))
      refine Ev.seti h1 ?_
      refine E_iconst (v := 1) C dX3_driveOn_147 ic_1 (E_iadd C dX3_driveOn_148 ?_)
      refine Ev.seti (nI_1 st) ?_
      refine xp_3_5 C (b := 2) (by decide) dX3_driveOn_149 fw_X3_36 (E_vretV C hr hlk dX3_driveOn_152 ?_)
      first
        | (have hs6 : ¬ st < 6 := fun z => c109 (nI_lt z (by decide))
           refine ⟨_, v1, rfl, fun k hk0 => (if_neg hk0).trans (hf k hk0), hv, ?_⟩
           rw [if_neg hs6, if_neg hs6]
           show DRel P _ 0 st fo (addWay N st (stopAt N L st fo q))
           rw [hs, addWay, if_neg hs6]
           exact ⟨rfl, h1, h2, h3, h4, h5, h6, h7, h8, h9⟩)
        | (have hs6 : st < 6 := (nI_ltI (b := 6) (by omega) (by decide)).mp c109
           refine ⟨_, v1, rfl, fun k hk0 => (if_neg hk0).trans ((if_neg hk0).trans (hf k hk0)), hv, ?_⟩
           rw [if_pos hs6, if_pos hs6]
           show DRel P _ 1 (st + 1) fo (addWay N st (stopAt N L st fo q))
           rw [hs, addWay, if_pos hs6]
           exact ⟨h0, rfl, h2, h3, h4, rfl, h6, h7, h8, h9⟩)
    ·
      refine E_aload_n C dX3_driveOn_112 2 rfl (E_iconst (v := 0) C dX3_driveOn_113 ic_0 (xp_3_4 C (b := 2) (by decide) dX3_driveOn_114 fw_X3_32 rfl rfl (E_goto C 152 dX3_driveOn_117 (by decide) (E_vretV C hr hlk dX3_driveOn_152 ?_))))
      first
        | (have hs6 : ¬ st < 6 := fun z => c109 (nI_lt z (by decide))
           refine ⟨_, v1, rfl, fun k hk0 => (if_neg hk0).trans (hf k hk0), hv, ?_⟩
           rw [if_neg hs6, if_neg hs6]
           show DRel P _ 0 st fo (addWay N st (stopAt N L st fo q))
           rw [hs, addWay, if_neg hs6]
           exact ⟨rfl, h1, h2, h3, h4, h5, h6, h7, h8, h9⟩)
        | (have hs6 : st < 6 := (nI_ltI (b := 6) (by omega) (by decide)).mp c109
           refine ⟨_, v1, rfl, fun k hk0 => (if_neg hk0).trans ((if_neg hk0).trans (hf k hk0)), hv, ?_⟩
           rw [if_pos hs6, if_pos hs6]
           show DRel P _ 1 (st + 1) fo (addWay N st (stopAt N L st fo q))
           rw [hs, addWay, if_pos hs6]
           exact ⟨h0, rfl, h2, h3, h4, rfl, h6, h7, h8, h9⟩)
  obtain ⟨hd, le, mi, gl, tu, lt⟩ := q
  obtain ⟨h0, h1, h2, h3, h4, h5, h6, h7, h8, h9⟩ := id hq
  obtain ⟨i1, i2, i3⟩ := hi
  have h1 : (Dv 2).1 1 = nI st := h1
  have h2 : (Dv 2).1 2 = nI fo := h2
  have h3 : (Dv 2).1 3 = nI hd := h3
  have h4 : (Dv 2).1 4 = nI le := h4
  have h5 : (Dv 2).1 5 = nI mi := h5
  have h7 : (Dv 2).1 7 = nI tu := h7
  have hm1 : minded N st fo hd le < 256 := minded_lt hfo
  have hw := wsum_le hB (minded N st fo hd le) 8 (by decide)
  have ht := tsum_le hB st (by omega)
  have hp : N 7 0 ≤ 9 := hB 7 0 (by decide) (by decide)
  have hpt : N 7 0 * (2 * tsum N st) ≤ 9 * 320 := Nat.mul_le_mul hp (by omega)
  refine E_aload_n C dX3_driveOn_0 0 rfl (E_callVI C dX3_driveOn_1 mv_X3_61 _ _ (s_minded_2 hN hB h1 h2 h3 h4 hfo hst) (xat_dr0 (b := 2) (by decide)) rfl rfl (by decide) (Nat.le_of_ble_eq_true rfl) ?_)
  rintro _ _ ⟨rfl, rfl⟩
  refine E_istore_n C dX3_driveOn_4 (by decide) (E_iconst (v := 2) C dX3_driveOn_5 ic_2 (E_aload_n C dX3_driveOn_6 1 rfl (xg_3_0 C (b := 2) (by decide) dX3_driveOn_7 f_X3_21 (E_aload_n C dX3_driveOn_10 1 rfl (xg_3_5 C (b := 2) (by decide) dX3_driveOn_11 f_X3_36 ?_)))))
  refine Ev.seti h1 ?_
  refine E_callVI C dX3_driveOn_14 mv_X3_65 1 _ (s_minutesTo hN st hst) rfl rfl rfl (by decide) (Nat.le_of_ble_eq_true rfl) ?_
  rintro _ _ ⟨rfl, rfl⟩
  refine E_imul C dX3_driveOn_17 ?_
  refine Ev.seti (show (2 : Int32) * nI (tsum N st) = nI (2 * tsum N st) from pk_mul 2 _) ?_
  refine E_istore_n C dX3_driveOn_18 (by decide) (E_aload_n C dX3_driveOn_19 2 rfl (xg_3_5 C (b := 2) (by decide) dX3_driveOn_20 f_X3_36 ?_))
  refine Ev.seti h1 ?_
  refine E_if_ne C 34 dX3_driveOn_23 (by decide) (fun c23 => ?_) (fun c23 => ?_)
  ·
    refine E_aload_n C dX3_driveOn_34 2 rfl (xg_3_0 C (b := 2) (by decide) dX3_driveOn_35 f_X3_21 (E_iload_n C dX3_driveOn_38 1 rfl (E_callVI C dX3_driveOn_39 mv_X3_74 1 _ (s_worthOf hN (minded N st fo hd le) hm1) rfl rfl rfl (by decide) (Nat.le_of_ble_eq_true rfl) ?_)))
    rintro _ _ ⟨rfl, rfl⟩
    refine E_aload_n C dX3_driveOn_42 2 rfl (xg_3_0 C (b := 2) (by decide) dX3_driveOn_43 f_X3_21 (E_bipush (v := 7) C dX3_driveOn_46 bp_7 (E_iconst (v := 0) C dX3_driveOn_48 ic_0 (E_callVI C dX3_driveOn_49 mv_X3_77 1 _ (s_value 7 0 (by decide) (by decide)) rfl rfl rfl (by decide) (Nat.le_of_ble_eq_true rfl) ?_))))
    rintro _ _ ⟨rfl, rfl⟩
    refine Ev.seti (hN 7 0 (by decide) (by decide)) ?_
    refine E_iload_n C dX3_driveOn_52 0 rfl (E_imul C dX3_driveOn_53 ?_)
    refine Ev.seti (pk_mul _ _) ?_
    refine E_icmp_le C 93 dX3_driveOn_54 (by decide) (fun c54 => ?_) (fun c54 => ?_)
    ·
      have hle : ¬ N 7 0 * (2 * tsum N st) < wsum N (minded N st fo hd le) 8 := fun z => nI_ge z (by omega) c54
      have hs0 : ¬ st = 0 := fun z => c23 (by rw [z]; rfl)
      refine E_aload_n C dX3_driveOn_93 2 rfl (E_dup C dX3_driveOn_94 rfl (xg_3_8 C (b := 2) (by decide) dX3_driveOn_95 f_X3_46 ?_))
      refine Ev.seti h4 ?_
      refine E_iload_n C dX3_driveOn_98 1 rfl (E_ior C dX3_driveOn_99 ?_)
      refine Ev.seti (nx_or _ _) ?_
      refine xp_3_8 C (b := 2) (by decide) dX3_driveOn_100 fw_X3_46 ?_
      first
        | exact T _ _ _ _ _ hf2 hv2 hq2 (by rw [stopAt, if_pos rfl])
        | exact T _ _ _ _ _ (fun k hk0 => (hf2 k hk0).trans (hf1 k hk0)) hv2 hq2 (by rw [stopAt, if_neg hs0, if_pos hgt])
        | exact T (hd, le ||| minded N st fo hd le, mi, gl, tu, lt) _ _ _ _ (fun k hk0 => if_neg hk0) (fun _ _ _ => rfl) ⟨h0, h1, h2, h3, rfl, h5, h6, h7, h8, h9⟩ (by rw [stopAt, if_neg hs0, if_neg hle])
    ·
      have hgt : N 7 0 * (2 * tsum N st) < wsum N (minded N st fo hd le) 8 := Nat.not_le.mp fun z => c54 (nI_le z (by omega))
      have hs0 : ¬ st = 0 := fun z => c23 (by rw [z]; rfl)
      refine E_aload_n C dX3_driveOn_57 2 rfl (E_dup C dX3_driveOn_58 rfl (xg_3_9 C (b := 2) (by decide) dX3_driveOn_59 f_X3_49 ?_))
      refine Ev.seti h5 ?_
      refine E_iload_n C dX3_driveOn_62 0 rfl (E_iadd C dX3_driveOn_63 ?_)
      refine Ev.seti (nI_add _ _) ?_
      refine xp_3_9 C (b := 2) (by decide) dX3_driveOn_64 fw_X3_49 (E_aload_n C dX3_driveOn_67 2 rfl (E_dup C dX3_driveOn_68 rfl (xg_3_11 C (b := 2) (by decide) dX3_driveOn_69 f_X3_55 ?_)))
      refine Ev.seti h7 ?_
      refine E_iconst (v := 1) C dX3_driveOn_72 ic_1 (E_iadd C dX3_driveOn_73 ?_)
      refine Ev.seti (nI_1 tu) ?_
      refine xp_3_11 C (b := 2) (by decide) dX3_driveOn_74 fw_X3_55 (E_aload_n C dX3_driveOn_77 2 rfl (E_aload_n C dX3_driveOn_78 2 rfl (xg_3_5 C (b := 2) (by decide) dX3_driveOn_79 f_X3_36 ?_)))
      refine Ev.seti h1 ?_
      refine xp_3_12 C (b := 2) (by decide) dX3_driveOn_82 fw_X3_58 ?_
      obtain ⟨Dv1, hD1⟩ : ∃ dd, dd = va_up (va_up (va_up Dv 2 (va_up (Dv 2).1 5 (nI (mi + 2 * tsum N st)), (Dv 2).2)) 2 (va_up (va_up Dv 2 (va_up (Dv 2).1 5 (nI (mi + 2 * tsum N st)), (Dv 2).2) 2).1 7 (nI (tu + 1)), (va_up Dv 2 (va_up (Dv 2).1 5 (nI (mi + 2 * tsum N st)), (Dv 2).2) 2).2)) 2 (va_up (va_up (va_up Dv 2 (va_up (Dv 2).1 5 (nI (mi + 2 * tsum N st)), (Dv 2).2)) 2 (va_up (va_up Dv 2 (va_up (Dv 2).1 5 (nI (mi + 2 * tsum N st)), (Dv 2).2) 2).1 7 (nI (tu + 1)), (va_up Dv 2 (va_up (Dv 2).1 5 (nI (mi + 2 * tsum N st)), (Dv 2).2) 2).2) 2).1 8 (nI st), (va_up (va_up Dv 2 (va_up (Dv 2).1 5 (nI (mi + 2 * tsum N st)), (Dv 2).2)) 2 (va_up (va_up Dv 2 (va_up (Dv 2).1 5 (nI (mi + 2 * tsum N st)), (Dv 2).2) 2).1 7 (nI (tu + 1)), (va_up Dv 2 (va_up (Dv 2).1 5 (nI (mi + 2 * tsum N st)), (Dv 2).2) 2).2) 2).2) := ⟨_, rfl⟩
      rw [← hD1]
      have hf1 : ∀ k, k ≠ 2 → Dv1 k = Dv k := fun k hk0 => by
        rw [hD1]
        simp only [va_up, if_neg hk0]
      have hq1 : DRel P (Dv1 2) 1 st fo (hd, le, mi + 2 * tsum N st, gl, tu + 1, st) := by
        rw [hD1]
        exact ⟨h0, h1, h2, h3, h4, rfl, h6, rfl, fun _ => rfl, h9⟩
      refine E_aload_n C dX3_driveOn_85 2 rfl (E_iload_n C dX3_driveOn_86 1 rfl (E_callVV C dX3_driveOn_87 mv_X3_71 _ _ (s_goFor_2 hN hB hL hq1 hfo i1 i3 (minded N st fo hd le) hm1 (minded_hd hfo)) (xat_dr0 (b := 2) (by decide)) rfl rfl (by decide) (Nat.le_of_ble_eq_true rfl) ?_))
      rintro _ ⟨Dv2, v2, rfl, hf2, hv2, hq2⟩
      refine E_goto C 103 dX3_driveOn_90 (by decide) ?_
      first
        | exact T _ _ _ _ _ hf2 hv2 hq2 (by rw [stopAt, if_pos rfl])
        | exact T _ _ _ _ _ (fun k hk0 => (hf2 k hk0).trans (hf1 k hk0)) hv2 hq2 (by rw [stopAt, if_neg hs0, if_pos hgt])
        | exact T (hd, le ||| minded N st fo hd le, mi, gl, tu, lt) _ _ _ _ (fun k hk0 => if_neg hk0) (fun _ _ _ => rfl) ⟨h0, h1, h2, h3, rfl, h5, h6, h7, h8, h9⟩ (by rw [stopAt, if_neg hs0, if_neg hle])
  ·
    refine E_aload_n C dX3_driveOn_26 2 rfl (E_iload_n C dX3_driveOn_27 1 rfl ?_)
    obtain rfl : st = 0 := (nI_eq (b := 0) (by omega) (by decide)).mp c23
    refine E_callVV C dX3_driveOn_28 mv_X3_71 _ _ (s_goFor_2 hN hB hL hq hfo i1 i3 (minded N 0 fo hd le) hm1 (minded_hd hfo)) (xat_dr0 (b := 2) (by decide)) rfl rfl (by decide) (Nat.le_of_ble_eq_true rfl) ?_
    rintro _ ⟨Dv2, v2, rfl, hf2, hv2, hq2⟩
    refine E_goto C 103 dX3_driveOn_31 (by decide) ?_
    first
      | exact T _ _ _ _ _ hf2 hv2 hq2 (by rw [stopAt, if_pos rfl])
      | exact T _ _ _ _ _ (fun k hk0 => (hf2 k hk0).trans (hf1 k hk0)) hv2 hq2 (by rw [stopAt, if_neg hs0, if_pos hgt])
      | exact T (hd, le ||| minded N st fo hd le, mi, gl, tu, lt) _ _ _ _ (fun k hk0 => if_neg hk0) (fun _ _ _ => rfl) ⟨h0, h1, h2, h3, rfl, h5, h6, h7, h8, h9⟩ (by rw [stopAt, if_neg hs0, if_neg hle])
set_option maxRecDepth 100000 in
set_option maxHeartbeats 4000000 in
theorem s_cost_2 {l : Launch} {D : va_G} {tc tt ad : Nat → Nat} {W : Nat → Nat → Int32} {g : Nat → Int32} {h : Nat → Nat → Int32} {Dv : Nat → (Nat → Int32) × (Nat → Nat → Int32)} {Sh : Nat → (Nat → Int32) × (Nat → Int64)} {u : Nat → Int32} {v : Nat → Nat → Int32} {z : Int64} {y : Nat → Int64} {N : Nat → Nat → Nat} (hN : NW W N) {mi le : Nat} (h5 : (Dv 2).1 5 = nI mi) (h4 : (Dv 2).1 4 = nI le) (hle : le < 256) : Ct l yX3_cost cX3_cost 1 (some .int) 3 D tc tt [.ref (ad 44)] (hx ad tc W g h Dv Sh u v z y) (PI fun r w => r = nI (N 7 0 * mi + wsum N le 8) ∧ w = hx ad tc W g h Dv Sh u v z y) := by
  refine Ct.of (by decide +kernel) (Nat.le_of_ble_eq_true rfl) ?_
  intro p e R s m args below meth c A C hr hlk
  refine E_aload_n C dX3_cost_0 0 rfl (xg_3_0 C (b := 2) (by decide) dX3_cost_1 f_X3_21 (E_bipush (v := 7) C dX3_cost_4 bp_7 (E_iconst (v := 0) C dX3_cost_6 ic_0 (E_callVI C dX3_cost_7 mv_X3_77 1 _ (s_value 7 0 (by decide) (by decide)) rfl rfl rfl (by decide) (Nat.le_of_ble_eq_true rfl) ?_))))
  rintro _ _ ⟨rfl, rfl⟩
  refine Ev.seti (hN 7 0 (by decide) (by decide)) ?_
  refine E_aload_n C dX3_cost_10 0 rfl (xg_3_9 C (b := 2) (by decide) dX3_cost_11 f_X3_49 ?_)
  refine Ev.seti h5 ?_
  refine E_imul C dX3_cost_14 ?_
  refine Ev.seti (pk_mul _ _) ?_
  refine E_aload_n C dX3_cost_15 0 rfl (xg_3_0 C (b := 2) (by decide) dX3_cost_16 f_X3_21 (E_aload_n C dX3_cost_19 0 rfl (xg_3_8 C (b := 2) (by decide) dX3_cost_20 f_X3_46 ?_)))
  refine Ev.seti h4 ?_
  refine E_callVI C dX3_cost_23 mv_X3_74 1 _ (s_worthOf hN le hle) rfl rfl rfl (by decide) (Nat.le_of_ble_eq_true rfl) ?_
  rintro _ _ ⟨rfl, rfl⟩
  refine E_iadd C dX3_cost_26 (E_iretI C hr hlk dX3_cost_27 ?_)
  exact ⟨nI_add _ _, rfl⟩
