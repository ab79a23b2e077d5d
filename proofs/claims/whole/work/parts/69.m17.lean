/-! the reference: an operand, an expression -/
theorem nm_nD {c : Nat} (h : nmF c < 5) : ¬ isD c = true := by
  intro q
  have q2 := of_decide_eq_true q
  unfold nmF at h
  rw [if_neg (by omega), if_neg (by omega), if_neg (by omega), if_neg (by omega), if_neg (by omega)] at h
  exact absurd h (by decide)
theorem ok_len {t : List Nat} (ht : t.length ≤ 120) {s : PS} (h : OkS t s) : s.2.2.length ≤ 121 := by
  have h1 := h.1
  cases hx : s.2.1 with
  | none => have := h.2.2 hx; omega
  | some x => have := (h.2.1 x hx).2; omega
theorem RM.any {t : List Nat} {h0 h : Nat → Nat → Int32} {u0 u : Nat → Int32} {op op' : Nat} {s : PS} (r : RM t h0 u0 op s h u) (hf : s.2.1 ≠ none) : RM t h0 u0 op' s h u := by
  obtain ⟨r1, r2, r3, r4, r5, r6, r7, r8⟩ := r
  exact ⟨r1, r2, fun q => absurd q hf, r4, r5, r6, r7, r8⟩
theorem rfs_f {s : PS} : (rfs s).2.1 ≠ none := by
  obtain ⟨a, f, c⟩ := s
  cases f with
  | none => exact fun q => by cases q
  | some x => exact fun q => by cases q
set_option maxRecDepth 100000 in
set_option maxHeartbeats 4000000 in
theorem m_operand {l : Launch} {D : va_G} {tc tt ad : Nat → Nat} {g : Nat → Int32} {h0 : Nat → Nat → Int32} {el : Nat → Int64} {u0 : Nat → Int32} {v : Nat → Nat → Int32} {sf : Nat → Int64} {t : List Nat} (hT : MT t g h0) : ∀ d, d ≤ 6 → ∀ (s0 : PS) (h : Nat → Nat → Int32) (u : Nat → Int32), s0.2.1 = none → OkS t s0 → RM t h0 u0 (6 - d) s0 h u → Ct l yX11_operand cX11_operand 2 none (6 * d + 3) D tc tt [.ref (ad 0)] (hm ad tc g h el u v sf) (PV fun w => ∃ h' u', w = hm ad tc g h' el u' v sf ∧ RM t h0 u0 (6 - d) (opF t (numM t) badM d s0) h' u') := by
  intro d
  induction d with
  | zero =>
    intro hd6 s0 h u hf0 ho0 hr0
    have htl := hT.2.1
    have htx : ∀ (j x : Nat), t[j]? = some x → x < 256 := fun j x q => (hT.2.2 j x q).2
    have o4 := ho0.2.2 hf0
    have o1 := ho0.1
    refine Ct.of (by decide +kernel) (Nat.le_of_ble_eq_true rfl) ?_
    intro p e R s m args below meth c A C hr hlk
    refine E_aload_n C dX11_operand_0 0 rfl (E_callVI C dX11_operand_1 mv_X11_181 0 _ (m_look hT hr0 ho0.1) rfl rfl rfl (by omega) (Nat.le_of_ble_eq_true rfl) ?_)
    rintro _ _ ⟨rfl, rfl⟩
    rw [ltr_n hf0]
    have hx1 := ltr_le htx s0
    refine E_istore_n C dX11_operand_4 (by decide) (E_iload_n C dX11_operand_5 0 rfl (E_callSI C dX11_operand_6 ms_X11_189 _ (m_nameOf _) rfl rfl (by omega) (Nat.le_of_ble_eq_true rfl) ?_))
    rintro _ _ ⟨rfl, rfl⟩
    rw [nameM hx1]
    refine E_if_lt C 34 dX11_operand_9 (by decide) (fun c9 => ?_) (fun c9 => ?_)
    ·
      have hnm : ¬ nmF (ltr t s0) < 5 := fun q => by rw [if_pos q] at c9; exact nI_pos (by omega) c9
      refine E_iload_n C dX11_operand_34 0 rfl (E_bipush (v := 33) C dX11_operand_35 bp_33 (E_icmp_eq C 46 dX11_operand_37 (by decide) (fun c37 => ?_) (fun c37 => ?_)))
      ·
        have hx33 := (mI_eq (k := 33) hx1 (by decide)).mp c37
        have hok : okU (ltr t s0) = true := decide_eq_true (Or.inl hx33)
        have hd : ¬ isD (ltr t s0) = true := fun q => by have q2 := of_decide_eq_true q; omega
        have n40 : ¬ ltr t s0 = 40 := by omega
        have hin := ltr_in (t := t) (s := s0) (by omega)
        refine E_aload_n C dX11_operand_46 1 rfl (E_callVI C dX11_operand_47 mv_X11_193 0 _ (m_opens6 hT hr0 hf0 ho0) rfl rfl rfl (by omega) (Nat.le_of_ble_eq_true rfl) ?_)
        rintro _ _ ⟨rfl, h1, u1, rfl, hr1⟩
        refine E_if_ne C 54 dX11_operand_50 (by decide) (fun c50 => ?_) (fun c50 => ?_)
        ·
          exact absurd rfl c50
        ·
          refine E_vretV C hr hlk dX11_operand_53 ?_
          rw [opF_U0 hd hnm n40 hok]
          exact ⟨_, _, rfl, hr1⟩
      ·
        have n33 : ¬ ltr t s0 = 33 := fun q => c37 ((mI_eq (k := 33) hx1 (by decide)).mpr q)
        refine E_iload_n C dX11_operand_40 0 rfl (E_bipush (v := 45) C dX11_operand_41 bp_45 (E_icmp_ne C 87 dX11_operand_43 (by decide) (fun c43 => ?_) (fun c43 => ?_)))
        ·
          have n45 : ¬ ltr t s0 = 45 := fun q => c43 ((mI_eq (k := 45) hx1 (by decide)).mpr q)
          have hno : ¬ okU (ltr t s0) = true := fun q => by have q2 := of_decide_eq_true q; omega
          refine E_iload_n C dX11_operand_87 0 rfl (E_bipush (v := 40) C dX11_operand_88 bp_40 (E_icmp_ne C 150 dX11_operand_90 (by decide) (fun c90 => ?_) (fun c90 => ?_)))
          ·
            have n40 : ¬ ltr t s0 = 40 := fun q => c90 ((mI_eq (k := 40) hx1 (by decide)).mpr q)
            by_cases hdg : isD (ltr t s0) = true
            ·
              refine E_aload_n C dX11_operand_150 1 rfl (E_callVV C dX11_operand_151 mv_X11_203 0 _ (m_figureD hT hr0 hf0 ho0 hdg) rfl rfl rfl (by omega) (Nat.le_of_ble_eq_true rfl) ?_)
              rintro _ ⟨h1, u1, rfl, hr1⟩
              refine E_vretV C hr hlk dX11_operand_154 ?_
              rw [opF_D hdg]
              exact ⟨_, _, rfl, hr1⟩
            ·
              refine E_aload_n C dX11_operand_150 1 rfl (E_callVV C dX11_operand_151 mv_X11_203 0 _ (m_figureB hT hr0 hf0 ho0 hdg) rfl rfl rfl (by omega) (Nat.le_of_ble_eq_true rfl) ?_)
              rintro _ ⟨h1, u1, rfl, hr1⟩
              refine E_vretV C hr hlk dX11_operand_154 ?_
              rw [opF_B hdg hnm n40 hno]
              exact ⟨_, _, rfl, hr1⟩
          ·
            have h40 : ltr t s0 = 40 := (mI_eq (k := 40) hx1 (by decide)).mp c90
            have hd : ¬ isD (ltr t s0) = true := fun q => by have q2 := of_decide_eq_true q; omega
            have hin := ltr_in (t := t) (s := s0) (by omega)
            refine E_aload_n C dX11_operand_93 1 rfl (E_callVI C dX11_operand_94 mv_X11_193 0 _ (m_opens6 hT hr0 hf0 ho0) rfl rfl rfl (by omega) (Nat.le_of_ble_eq_true rfl) ?_)
            rintro _ _ ⟨rfl, h1, u1, rfl, hr1⟩
            refine E_if_ne C 101 dX11_operand_97 (by decide) (fun c97 => ?_) (fun c97 => ?_)
            ·
              exact absurd rfl c97
            ·
              refine E_vretV C hr hlk dX11_operand_100 ?_
              rw [opF_P0 hd hnm h40]
              exact ⟨_, _, rfl, hr1⟩
        ·
          have hx45 := (mI_eq (k := 45) hx1 (by decide)).mp c43
          have hok : okU (ltr t s0) = true := decide_eq_true (Or.inr hx45)
          have hd : ¬ isD (ltr t s0) = true := fun q => by have q2 := of_decide_eq_true q; omega
          have n40 : ¬ ltr t s0 = 40 := by omega
          have hin := ltr_in (t := t) (s := s0) (by omega)
          refine E_aload_n C dX11_operand_46 1 rfl (E_callVI C dX11_operand_47 mv_X11_193 0 _ (m_opens6 hT hr0 hf0 ho0) rfl rfl rfl (by omega) (Nat.le_of_ble_eq_true rfl) ?_)
          rintro _ _ ⟨rfl, h1, u1, rfl, hr1⟩
          refine E_if_ne C 54 dX11_operand_50 (by decide) (fun c50 => ?_) (fun c50 => ?_)
          ·
            exact absurd rfl c50
          ·
            refine E_vretV C hr hlk dX11_operand_53 ?_
            rw [opF_U0 hd hnm n40 hok]
            exact ⟨_, _, rfl, hr1⟩
    ·
      have hnm : nmF (ltr t s0) < 5 := Classical.byContradiction fun q => c9 (by rw [if_neg q]; decide)
      have hd := nm_nD hnm
      have hin := ltr_in (t := t) (s := s0) (nm_256 hnm)
      refine E_aload_n C dX11_operand_12 1 rfl (E_iconst (v := 2) C dX11_operand_13 ic_2 ?_)
      refine Ev.seti (show (2 : Int32) = mop 110 from rfl) ?_
      refine E_iload_n C dX11_operand_14 0 rfl (E_callSI C dX11_operand_15 ms_X11_189 _ (m_nameOf _) rfl rfl (by omega) (Nat.le_of_ble_eq_true rfl) ?_)
      rintro _ _ ⟨rfl, rfl⟩
      rw [nameM hx1, if_pos hnm]
      refine E_callVV C dX11_operand_18 mv_X11_185 0 _ (m_addStep (aa := 110) (bb := nmF (ltr t s0)) hr0 (by omega) (Or.inr (Or.inl rfl))) rfl rfl rfl (by omega) (Nat.le_of_ble_eq_true rfl) ?_
      rintro _ ⟨h1, u1, rfl, hr1⟩
      refine E_aload_n C dX11_operand_21 1 rfl (E_dup C dX11_operand_22 rfl (mg_11_18 C dX11_operand_23 f_X11_166 ?_))
      refine Ev.seti (show _ = nI s0.1 from hr1.1) ?_
      refine E_iconst (v := 1) C dX11_operand_26 ic_1 (E_iadd C dX11_operand_27 ?_)
      refine Ev.seti (nI_1 _) ?_
      refine mp_11_18 C dX11_operand_28 fw_X11_166 (E_goto C 154 dX11_operand_31 (by decide) (E_vretV C hr hlk dX11_operand_154 ?_))
      rw [opF_N hd hnm]
      exact ⟨_, _, rfl, hr1.adv⟩
  | succ d ih0 =>
    intro hd6 s0 h u hf0 ho0 hr0
    have ih := ih0 (by omega)
    have htl := hT.2.1
    have htx : ∀ (j x : Nat), t[j]? = some x → x < 256 := fun j x q => (hT.2.2 j x q).2
    have o4 := ho0.2.2 hf0
    have o1 := ho0.1
    refine Ct.of (by decide +kernel) (Nat.le_of_ble_eq_true rfl) ?_
    intro p e R s m args below meth c A C hr hlk
    refine E_aload_n C dX11_operand_0 0 rfl (E_callVI C dX11_operand_1 mv_X11_181 0 _ (m_look hT hr0 ho0.1) rfl rfl rfl (by omega) (Nat.le_of_ble_eq_true rfl) ?_)
    rintro _ _ ⟨rfl, rfl⟩
    rw [ltr_n hf0]
    have hx1 := ltr_le htx s0
    refine E_istore_n C dX11_operand_4 (by decide) (E_iload_n C dX11_operand_5 0 rfl (E_callSI C dX11_operand_6 ms_X11_189 _ (m_nameOf _) rfl rfl (by omega) (Nat.le_of_ble_eq_true rfl) ?_))
    rintro _ _ ⟨rfl, rfl⟩
    rw [nameM hx1]
    refine E_if_lt C 34 dX11_operand_9 (by decide) (fun c9 => ?_) (fun c9 => ?_)
    ·
      have hnm : ¬ nmF (ltr t s0) < 5 := fun q => by rw [if_pos q] at c9; exact nI_pos (by omega) c9
      refine E_iload_n C dX11_operand_34 0 rfl (E_bipush (v := 33) C dX11_operand_35 bp_33 (E_icmp_eq C 46 dX11_operand_37 (by decide) (fun c37 => ?_) (fun c37 => ?_)))
      ·
        have hx33 := (mI_eq (k := 33) hx1 (by decide)).mp c37
        have hok : okU (ltr t s0) = true := decide_eq_true (Or.inl hx33)
        have hd : ¬ isD (ltr t s0) = true := fun q => by have q2 := of_decide_eq_true q; omega
        have n40 : ¬ ltr t s0 = 40 := by omega
        have hin := ltr_in (t := t) (s := s0) (by omega)
        refine E_aload_n C dX11_operand_46 1 rfl (E_callVI C dX11_operand_47 mv_X11_193 0 _ (m_opens hr0 hf0 (by omega)) rfl rfl rfl (by omega) (Nat.le_of_ble_eq_true rfl) ?_)
        rintro _ _ ⟨rfl, h1, u1, rfl, hr1⟩
        rw [show 6 - (d + 1) + 1 = 6 - d by omega] at hr1
        refine E_if_ne C 54 dX11_operand_50 (by decide) (fun c50 => ?_) (fun c50 => ?_)
        ·
          refine E_aload_n C dX11_operand_54 1 rfl (E_callVV C dX11_operand_55 mv_X11_197 0 _ (ih _ _ _ (show (adv s0).2.1 = none from hf0) (ok_adv ho0 hf0 hin.2.1) hr1) rfl rfl rfl (by omega) (Nat.le_of_ble_eq_true rfl) ?_)
          rintro _ ⟨h2, u2, rfl, hr2⟩
          have ho2 := wf_ok (wf_opF (hnum_M t) (hbad_M t) d) (show (adv s0).2.1 = none from hf0) (ok_adv ho0 hf0 hin.2.1)
          have hl2 := ok_len htl ho2
          refine E_aload_n C dX11_operand_58 1 rfl (E_dup C dX11_operand_59 rfl (mg_11_20 C dX11_operand_60 f_X11_175 (E_iconst (v := 1) C dX11_operand_63 ic_1 (E_isub C dX11_operand_64 ?_))))
          have hr3 := hr2.op (op' := 6 - (d + 1)) (x := u2 20 - 1) (fun z => by rw [hr2.2.2.1 z]; exact (pk_sub (b := 1) (by omega)).trans (congrArg nI (by omega)))
          refine mp_11_20 C dX11_operand_65 fw_X11_175 (E_aload_n C dX11_operand_68 1 rfl (E_iload_n C dX11_operand_69 0 rfl (E_bipush (v := 33) C dX11_operand_70 bp_33 (E_icmp_ne C 79 dX11_operand_72 (by decide) (fun c72 => ?_) (fun c72 => ?_)))))
          ·
            exact absurd c37 c72
          ·
            refine E_iconst (v := 3) C dX11_operand_75 ic_3 (E_goto C 80 dX11_operand_76 (by decide) ?_)
            refine Ev.seti (show (3 : Int32) = mop 33 from rfl) ?_
            refine E_iconst (v := 0) C dX11_operand_80 ic_0 (E_callVV C dX11_operand_81 mv_X11_185 0 _ (m_addStep (aa := 33) (bb := 0) hr3 (by omega) (Or.inr (Or.inr (Or.inl rfl)))) rfl rfl rfl (by omega) (Nat.le_of_ble_eq_true rfl) ?_)
            rintro _ ⟨h4, u4, rfl, hr4⟩
            refine E_goto C 154 dX11_operand_84 (by decide) (E_vretV C hr hlk dX11_operand_154 ?_)
            rw [opF_U hd hnm n40 hok]
            have e : unaF t (opF t (numM t) badM d) s0 = emt ((opF t (numM t) badM d) (adv s0)) 33 0 := by unfold unaF; rw [if_pos hx33]
            rw [e]
            exact ⟨_, _, rfl, hr4⟩
        ·
          exact absurd c50 (by decide)
      ·
        have n33 : ¬ ltr t s0 = 33 := fun q => c37 ((mI_eq (k := 33) hx1 (by decide)).mpr q)
        refine E_iload_n C dX11_operand_40 0 rfl (E_bipush (v := 45) C dX11_operand_41 bp_45 (E_icmp_ne C 87 dX11_operand_43 (by decide) (fun c43 => ?_) (fun c43 => ?_)))
        ·
          have n45 : ¬ ltr t s0 = 45 := fun q => c43 ((mI_eq (k := 45) hx1 (by decide)).mpr q)
          have hno : ¬ okU (ltr t s0) = true := fun q => by have q2 := of_decide_eq_true q; omega
          refine E_iload_n C dX11_operand_87 0 rfl (E_bipush (v := 40) C dX11_operand_88 bp_40 (E_icmp_ne C 150 dX11_operand_90 (by decide) (fun c90 => ?_) (fun c90 => ?_)))
          ·
            have n40 : ¬ ltr t s0 = 40 := fun q => c90 ((mI_eq (k := 40) hx1 (by decide)).mpr q)
            by_cases hdg : isD (ltr t s0) = true
            ·
              refine E_aload_n C dX11_operand_150 1 rfl (E_callVV C dX11_operand_151 mv_X11_203 0 _ (m_figureD hT hr0 hf0 ho0 hdg) rfl rfl rfl (by omega) (Nat.le_of_ble_eq_true rfl) ?_)
              rintro _ ⟨h1, u1, rfl, hr1⟩
              refine E_vretV C hr hlk dX11_operand_154 ?_
              rw [opF_D hdg]
              exact ⟨_, _, rfl, hr1⟩
            ·
              refine E_aload_n C dX11_operand_150 1 rfl (E_callVV C dX11_operand_151 mv_X11_203 0 _ (m_figureB hT hr0 hf0 ho0 hdg) rfl rfl rfl (by omega) (Nat.le_of_ble_eq_true rfl) ?_)
              rintro _ ⟨h1, u1, rfl, hr1⟩
              refine E_vretV C hr hlk dX11_operand_154 ?_
              rw [opF_B hdg hnm n40 hno]
              exact ⟨_, _, rfl, hr1⟩
          ·
            have h40 : ltr t s0 = 40 := (mI_eq (k := 40) hx1 (by decide)).mp c90
            have hd : ¬ isD (ltr t s0) = true := fun q => by have q2 := of_decide_eq_true q; omega
            have hin := ltr_in (t := t) (s := s0) (by omega)
            refine E_aload_n C dX11_operand_93 1 rfl (E_callVI C dX11_operand_94 mv_X11_193 0 _ (m_opens hr0 hf0 (by omega)) rfl rfl rfl (by omega) (Nat.le_of_ble_eq_true rfl) ?_)
            rintro _ _ ⟨rfl, h1, u1, rfl, hr1⟩
            rw [show 6 - (d + 1) + 1 = 6 - d by omega] at hr1
            refine E_if_ne C 101 dX11_operand_97 (by decide) (fun c97 => ?_) (fun c97 => ?_)
            ·
              refine E_aload_n C dX11_operand_101 1 rfl (E_callVV C dX11_operand_102 mv_X11_200 0 _ (m_eitOf hT (wf_opF (hnum_M t) (hbad_M t) d) (by omega) ih _ _ _ (show (adv s0).2.1 = none from hf0) (ok_adv ho0 hf0 hin.2.1) hr1) rfl rfl rfl (by omega) (Nat.le_of_ble_eq_true rfl) ?_)
              rintro _ ⟨h2, u2, rfl, hr2⟩
              have ho2 := wf_ok (wf_eitF (wf_opF (hnum_M t) (hbad_M t) d)) (show (adv s0).2.1 = none from hf0) (ok_adv ho0 hf0 hin.2.1)
              rw [opF_P hd hnm h40]
              by_cases hf2 : (eitF t (opF t (numM t) badM d) (adv s0)).2.1 = none
              ·
                refine E_aload_n C dX11_operand_105 1 rfl (mg_11_19 C dX11_operand_106 f_X11_169 ?_)
                refine Ev.seti (hr2.2.1.trans (fI_neg hf2)) ?_
                refine E_if_lt C 113 dX11_operand_109 (by decide) (fun c109 => ?_) (fun c109 => ?_)
                ·
                  refine E_aload_n C dX11_operand_113 1 rfl (E_callVI C dX11_operand_114 mv_X11_181 0 _ (m_look hT hr2 ho2.1) rfl rfl rfl (by omega) (Nat.le_of_ble_eq_true rfl) ?_)
                  rintro _ _ ⟨rfl, rfl⟩
                  rw [ltr_n hf2]
                  have hx2 := ltr_le htx (eitF t (opF t (numM t) badM d) (adv s0))
                  refine E_bipush (v := 41) C dX11_operand_117 bp_41 (E_icmp_eq C 127 dX11_operand_119 (by decide) (fun c119 => ?_) (fun c119 => ?_))
                  ·
                    have h41 := (mI_eq (k := 41) hx2 (by decide)).mp c119
                    have hin2 := ltr_in (t := t) (s := (eitF t (opF t (numM t) badM d) (adv s0))) (by omega)
                    have e : parF t (eitF t (opF t (numM t) badM d)) s0 = adv (eitF t (opF t (numM t) badM d) (adv s0)) := if_pos h41
                    refine E_aload_n C dX11_operand_127 1 rfl (E_dup C dX11_operand_128 rfl (mg_11_18 C dX11_operand_129 f_X11_166 ?_))
                    refine Ev.seti hr2.1 ?_
                    refine E_iconst (v := 1) C dX11_operand_132 ic_1 (E_iadd C dX11_operand_133 ?_)
                    refine Ev.seti (nI_1 _) ?_
                    refine mp_11_18 C dX11_operand_134 fw_X11_166 (E_aload_n C dX11_operand_137 1 rfl (E_dup C dX11_operand_138 rfl (mg_11_20 C dX11_operand_139 f_X11_175 ?_)))
                    refine Ev.seti (show _ = nI (6 - d) from hr2.2.2.1 hf2) ?_
                    refine E_iconst (v := 1) C dX11_operand_142 ic_1 (E_isub C dX11_operand_143 ?_)
                    refine Ev.seti (show nI (6 - d) - 1 = nI (6 - (d + 1)) from (pk_sub (b := 1) (by omega)).trans (congrArg nI (by omega))) ?_
                    refine mp_11_20 C dX11_operand_144 fw_X11_175 (E_goto C 154 dX11_operand_147 (by decide) (E_vretV C hr hlk dX11_operand_154 ?_))
                    rw [e]
                    exact ⟨_, _, rfl, hr2.adv.op (op' := 6 - (d + 1)) (fun _ => rfl)⟩
                  ·
                    have h41 : ¬ ltr t (eitF t (opF t (numM t) badM d) (adv s0)) = 41 := fun q => c119 ((mI_eq (k := 41) hx2 (by decide)).mpr q)
                    have e : parF t (eitF t (opF t (numM t) badM d)) s0 = rfs (eitF t (opF t (numM t) badM d) (adv s0)) := if_neg h41
                    refine E_aload_n C dX11_operand_122 1 rfl (E_callVV C dX11_operand_123 mv_X11_178 0 _ (m_faulty hT hr2 ho2) rfl rfl rfl (by omega) (Nat.le_of_ble_eq_true rfl) ?_)
                    rintro _ ⟨h3, u3, rfl, hr3⟩
                    refine E_vretV C hr hlk dX11_operand_126 ?_
                    rw [e]
                    exact ⟨_, _, rfl, hr3.any rfs_f⟩
                ·
                  exact absurd (by decide) c109
              ·
                obtain ⟨ff, hff⟩ := Option.ne_none_iff_exists'.mp hf2
                refine E_aload_n C dX11_operand_105 1 rfl (mg_11_19 C dX11_operand_106 f_X11_169 ?_)
                refine Ev.seti (show u2 19 = nI ff by rw [hr2.2.1, hff]; rfl) ?_
                refine E_if_lt C 113 dX11_operand_109 (by decide) (fun c109 => ?_) (fun c109 => ?_)
                ·
                  exact absurd c109 (nI_pos (by have := (ho2.2.1 ff hff).1; omega))
                ·
                  refine E_vretV C hr hlk dX11_operand_112 ?_
                  have e : parF t (eitF t (opF t (numM t) badM d)) s0 = (eitF t (opF t (numM t) badM d) (adv s0)) := by
                    unfold parF
                    rw [if_neg (by rw [ltr_some hff]; decide)]
                    unfold rfs
                    rw [hff]
                  rw [e]
                  exact ⟨_, _, rfl, hr2.any hf2⟩
            ·
              exact absurd c97 (by decide)
        ·
          have hx45 := (mI_eq (k := 45) hx1 (by decide)).mp c43
          have hok : okU (ltr t s0) = true := decide_eq_true (Or.inr hx45)
          have hd : ¬ isD (ltr t s0) = true := fun q => by have q2 := of_decide_eq_true q; omega
          have n40 : ¬ ltr t s0 = 40 := by omega
          have hin := ltr_in (t := t) (s := s0) (by omega)
          refine E_aload_n C dX11_operand_46 1 rfl (E_callVI C dX11_operand_47 mv_X11_193 0 _ (m_opens hr0 hf0 (by omega)) rfl rfl rfl (by omega) (Nat.le_of_ble_eq_true rfl) ?_)
          rintro _ _ ⟨rfl, h1, u1, rfl, hr1⟩
          rw [show 6 - (d + 1) + 1 = 6 - d by omega] at hr1
          refine E_if_ne C 54 dX11_operand_50 (by decide) (fun c50 => ?_) (fun c50 => ?_)
          ·
            refine E_aload_n C dX11_operand_54 1 rfl (E_callVV C dX11_operand_55 mv_X11_197 0 _ (ih _ _ _ (show (adv s0).2.1 = none from hf0) (ok_adv ho0 hf0 hin.2.1) hr1) rfl rfl rfl (by omega) (Nat.le_of_ble_eq_true rfl) ?_)
            rintro _ ⟨h2, u2, rfl, hr2⟩
            have ho2 := wf_ok (wf_opF (hnum_M t) (hbad_M t) d) (show (adv s0).2.1 = none from hf0) (ok_adv ho0 hf0 hin.2.1)
            have hl2 := ok_len htl ho2
            refine E_aload_n C dX11_operand_58 1 rfl (E_dup C dX11_operand_59 rfl (mg_11_20 C dX11_operand_60 f_X11_175 (E_iconst (v := 1) C dX11_operand_63 ic_1 (E_isub C dX11_operand_64 ?_))))
            have hr3 := hr2.op (op' := 6 - (d + 1)) (x := u2 20 - 1) (fun z => by rw [hr2.2.2.1 z]; exact (pk_sub (b := 1) (by omega)).trans (congrArg nI (by omega)))
            refine mp_11_20 C dX11_operand_65 fw_X11_175 (E_aload_n C dX11_operand_68 1 rfl (E_iload_n C dX11_operand_69 0 rfl (E_bipush (v := 33) C dX11_operand_70 bp_33 (E_icmp_ne C 79 dX11_operand_72 (by decide) (fun c72 => ?_) (fun c72 => ?_)))))
            ·
              refine E_iconst (v := 4) C dX11_operand_79 ic_4 ?_
              refine Ev.seti (show (4 : Int32) = mop 126 from rfl) ?_
              refine E_iconst (v := 0) C dX11_operand_80 ic_0 (E_callVV C dX11_operand_81 mv_X11_185 0 _ (m_addStep (aa := 126) (bb := 0) hr3 (by omega) (Or.inr (Or.inr (Or.inr (Or.inl rfl))))) rfl rfl rfl (by omega) (Nat.le_of_ble_eq_true rfl) ?_)
              rintro _ ⟨h4, u4, rfl, hr4⟩
              refine E_goto C 154 dX11_operand_84 (by decide) (E_vretV C hr hlk dX11_operand_154 ?_)
              rw [opF_U hd hnm n40 hok]
              have e : unaF t (opF t (numM t) badM d) s0 = emt ((opF t (numM t) badM d) (adv s0)) 126 0 := by unfold unaF; rw [if_neg n33]
              rw [e]
              exact ⟨_, _, rfl, hr4⟩
            ·
              exact absurd (c43.symm.trans c72) (by decide)
          ·
            exact absurd c50 (by decide)
    ·
      have hnm : nmF (ltr t s0) < 5 := Classical.byContradiction fun q => c9 (by rw [if_neg q]; decide)
      have hd := nm_nD hnm
      have hin := ltr_in (t := t) (s := s0) (nm_256 hnm)
      refine E_aload_n C dX11_operand_12 1 rfl (E_iconst (v := 2) C dX11_operand_13 ic_2 ?_)
      refine Ev.seti (show (2 : Int32) = mop 110 from rfl) ?_
      refine E_iload_n C dX11_operand_14 0 rfl (E_callSI C dX11_operand_15 ms_X11_189 _ (m_nameOf _) rfl rfl (by omega) (Nat.le_of_ble_eq_true rfl) ?_)
      rintro _ _ ⟨rfl, rfl⟩
      rw [nameM hx1, if_pos hnm]
      refine E_callVV C dX11_operand_18 mv_X11_185 0 _ (m_addStep (aa := 110) (bb := nmF (ltr t s0)) hr0 (by omega) (Or.inr (Or.inl rfl))) rfl rfl rfl (by omega) (Nat.le_of_ble_eq_true rfl) ?_
      rintro _ ⟨h1, u1, rfl, hr1⟩
      refine E_aload_n C dX11_operand_21 1 rfl (E_dup C dX11_operand_22 rfl (mg_11_18 C dX11_operand_23 f_X11_166 ?_))
      refine Ev.seti (show _ = nI s0.1 from hr1.1) ?_
      refine E_iconst (v := 1) C dX11_operand_26 ic_1 (E_iadd C dX11_operand_27 ?_)
      refine Ev.seti (nI_1 _) ?_
      refine mp_11_18 C dX11_operand_28 fw_X11_166 (E_goto C 154 dX11_operand_31 (by decide) (E_vretV C hr hlk dX11_operand_154 ?_))
      rw [opF_N hd hnm]
      exact ⟨_, _, rfl, hr1.adv⟩
theorem m_exM {l : Launch} {D : va_G} {tc tt ad : Nat → Nat} {g : Nat → Int32} {h0 : Nat → Nat → Int32} {el : Nat → Int64} {u0 : Nat → Int32} {v : Nat → Nat → Int32} {sf : Nat → Int64} {t : List Nat} (hT : MT t g h0) {s0 : PS} {h : Nat → Nat → Int32} {u : Nat → Int32} (hr0 : RM t h0 u0 0 s0 h u)  (hf0 : s0.2.1 = none) (ho0 : OkS t s0) : Ct l yX11_either cX11_either 1 none 44 D tc tt [.ref (ad 0)] (hm ad tc g h el u v sf) (PV fun w => ∃ h' u', w = hm ad tc g h' el u' v sf ∧ RM t h0 u0 0 (exM t s0) h' u') := m_eitOf hT (wf_opF (hnum_M t) (hbad_M t) 6) (dd := 39) (by decide) (m_operand hT 6 (Nat.le_refl 6)) _ _ _ hf0 ho0 hr0
