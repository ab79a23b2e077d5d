/-! the class's Reader: the grammar -/
theorem nm_256 {c : Nat} (h : nmF c < 5) : c < 256 := by
  unfold nmF at h
  split at h
  · omega
  · split at h
    · omega
    · split at h
      · omega
      · split at h
        · omega
        · split at h
          · omega
          · exact absurd h (by decide)
theorem opF_0r {t : List Nat} {num : PS → PS} {s : PS} (h1 : ¬ isD (ltr t s) = true) (h2 : ¬ nmF (ltr t s) < 5) : opF t num rfs 0 s = rfs s := by
  by_cases h3 : ltr t s = 40
  · exact opF_P0 h1 h2 h3
  · by_cases h4 : okU (ltr t s) = true
    · exact opF_U0 h1 h2 h3 h4
    · exact opF_B h1 h2 h3 h4 0
set_option maxRecDepth 100000 in
set_option maxHeartbeats 4000000 in
theorem s_product {l : Launch} {D : va_G} {tc tt ad : Nat → Nat} {W : Nat → Nat → Int32} {g : Nat → Int32} {h : Nat → Nat → Int32} {Dv : DV} {Sh : SV} {z : Int64} {y : Nat → Int64} {t : List Nat} (hT : XT t g h) {u0 : Nat → Int32} {v0 : Nat → Nat → Int32} {s0 : PS} {u : Nat → Int32} {v : Nat → Nat → Int32} (h0 : RR t u0 v0 s0 u v) {op : PS → PS} {oo : Int32} {dd : Nat} (hdd : 2 ≤ dd) (ho : ∀ (s1 : PS) (u1 : Nat → Int32) (v1 : Nat → Nat → Int32), RR t u0 v0 s1 u1 v1 → Ct l yX6_operand cX6_operand 3 none (dd) D tc tt [.ref (ad 21), .int oo] (hx ad tc W g h Dv Sh u1 v1 z y) (PV fun w => ∃ u' v', w = hx ad tc W g h Dv Sh u' v' z y ∧ RR t u0 v0 (op s1) u' v')) : Ct l yX6_product cX6_product 4 none (dd + 1) D tc tt [.ref (ad 21), .int oo] (hx ad tc W g h Dv Sh u v z y) (PV fun w => ∃ u' v', w = hx ad tc W g h Dv Sh u' v' z y ∧ RR t u0 v0 (prdF t op s0) u' v') := by
  refine Ct.of (by decide +kernel) (Nat.le_of_ble_eq_true rfl) ?_
  intro p e R s m args below meth c A C hr hlk
  have htl := hT.2.1
  have htx : ∀ (j x : Nat), t[j]? = some x → x < 256 := fun j x q => (hT.2.2 j x q).2
  have K : ∀ (n i : Nat) (s1 : PS) (u1 : Nat → Int32) (v1 : Nat → Nat → Int32), i ≤ 120 → 120 < i + n → RR t u0 v0 s1 u1 v1 → prdF t op s0 = binL t okP op (120 - i) s1 → Ev p l e R s m args below meth c 0 0 (EQ below (PV fun w => ∃ u' v', w = hx ad tc W g h Dv Sh u' v' z y ∧ RR t u0 v0 (prdF t op s0) u' v') args s D A) D A 4 (hx ad tc W g h Dv Sh u1 v1 z y) 7 [(2, .int (nI i)), (0, .ref (ad 21)), (1, .int oo)] [] := by
    intro n
    induction n with
    | zero =>
      intro i s1 u1 v1 hi1 hi2 h1 hres
      exfalso; omega
    | succ n ih =>
      intro i s1 u1 v1 hi1 hi2 h1 hres
      refine E_iload_n C dX6_product_7 0 rfl (E_bipush (v := 120) C dX6_product_8 bp_120 (E_icmp_ge C 72 dX6_product_10 (by decide) (fun c10 => ?_) (fun c10 => ?_)))
      ·
        have hi : i = 120 := by
          rcases Nat.lt_or_ge i 120 with q | q
          · exact absurd (show nI 120 ≤ nI i from c10) (nI_ge q (by decide))
          · omega
        rw [hi] at hres
        refine E_vretV C hr hlk dX6_product_72 ?_
        have e : prdF t op s0 = s1 := hres
        rw [e]
        exact ⟨_, _, rfl, h1⟩
      ·
        have hi : i < 120 := by
          rcases Nat.lt_or_ge i 120 with q | q
          · exact q
          · exact absurd (show nI 120 ≤ nI i from nI_le q (by omega)) c10
        rw [show 120 - i = (120 - (i + 1)) + 1 by omega] at hres
        have hxx := ltr_le htx s1
        refine E_aload_n C dX6_product_13 1 rfl (E_callVI C dX6_product_14 mv_X6_63 21 _ (s_letter hT h1) rfl rfl rfl (by omega) (Nat.le_of_ble_eq_true rfl) ?_)
        rintro _ _ ⟨rfl, rfl⟩
        refine E_bipush (v := 42) C dX6_product_17 bp_42 (E_icmp_eq C 40 dX6_product_19 (by decide) (fun c19 => ?_) (fun c19 => ?_))
        ·
          have hok : okP (ltr t s1) = true := decide_eq_true (Or.inl ((lI_eq (c := 42) hxx (by decide)).mp c19))
          rw [binL_t hok] at hres
          have hl := (bnO_ne (okP_bn _ hok)).2.2.2.2.1
          refine E_aload_n C dX6_product_40 1 rfl (E_callVI C dX6_product_41 mv_X6_63 21 _ (s_letter hT h1) rfl rfl rfl (by omega) (Nat.le_of_ble_eq_true rfl) ?_)
          rintro _ _ ⟨rfl, rfl⟩
          refine E_istore_n C dX6_product_44 (by decide) (E_aload_n C dX6_product_45 2 rfl (E_dup C dX6_product_46 rfl (xg_6_5 C dX6_product_47 f_X6_27 (E_iconst (v := 1) C dX6_product_50 ic_1 (E_iadd C dX6_product_51 ?_)))))
          refine Ev.seti (show u1 1 + 1 = nI (s1.1 + 1) by rw [h1.1, nI_1]) ?_
          refine xp_6_5 C dX6_product_52 fw_X6_27 (E_aload_n C dX6_product_55 2 rfl (E_iload_n C dX6_product_56 3 rfl (E_callVV C dX6_product_57 mv_X6_70 21 _ (ho _ _ _ (h1.advd hl)) rfl rfl rfl (by omega) (Nat.le_of_ble_eq_true rfl) ?_)))
          rintro _ ⟨u2, v2, rfl, h2⟩
          refine E_aload_n C dX6_product_60 2 rfl (E_iload_n C dX6_product_61 0 rfl ?_)
          refine Ev.seti (show lI (ltr t s1) = nI (ltr t s1) from if_neg (by omega)) ?_
          refine E_iconst (v := 0) C dX6_product_62 ic_0 (E_callVV C dX6_product_63 mv_X6_50 21 _ (s_emit h2 (ltr t s1) 0) rfl rfl rfl (by omega) (Nat.le_of_ble_eq_true rfl) ?_)
          rintro _ ⟨u3, v3, rfl, h3⟩
          refine E_iinc C dX6_product_66 1 rfl (nI_1 i) (by decide) (E_goto C 7 dX6_product_69 (by decide) ?_)
          exact Ev.sub [0, 2, 3] rfl (ih (i + 1) _ _ _ (by omega) (by omega) h3 hres)
        ·
          have n1 : ¬ ltr t s1 = 42 := fun q => c19 ((lI_eq (c := 42) hxx (by decide)).mpr q)
          refine E_aload_n C dX6_product_22 1 rfl (E_callVI C dX6_product_23 mv_X6_63 21 _ (s_letter hT h1) rfl rfl rfl (by omega) (Nat.le_of_ble_eq_true rfl) ?_)
          rintro _ _ ⟨rfl, rfl⟩
          refine E_bipush (v := 47) C dX6_product_26 bp_47 (E_icmp_eq C 40 dX6_product_28 (by decide) (fun c28 => ?_) (fun c28 => ?_))
          ·
            have hok : okP (ltr t s1) = true := decide_eq_true (Or.inr (Or.inl ((lI_eq (c := 47) hxx (by decide)).mp c28)))
            rw [binL_t hok] at hres
            have hl := (bnO_ne (okP_bn _ hok)).2.2.2.2.1
            refine E_aload_n C dX6_product_40 1 rfl (E_callVI C dX6_product_41 mv_X6_63 21 _ (s_letter hT h1) rfl rfl rfl (by omega) (Nat.le_of_ble_eq_true rfl) ?_)
            rintro _ _ ⟨rfl, rfl⟩
            refine E_istore_n C dX6_product_44 (by decide) (E_aload_n C dX6_product_45 2 rfl (E_dup C dX6_product_46 rfl (xg_6_5 C dX6_product_47 f_X6_27 (E_iconst (v := 1) C dX6_product_50 ic_1 (E_iadd C dX6_product_51 ?_)))))
            refine Ev.seti (show u1 1 + 1 = nI (s1.1 + 1) by rw [h1.1, nI_1]) ?_
            refine xp_6_5 C dX6_product_52 fw_X6_27 (E_aload_n C dX6_product_55 2 rfl (E_iload_n C dX6_product_56 3 rfl (E_callVV C dX6_product_57 mv_X6_70 21 _ (ho _ _ _ (h1.advd hl)) rfl rfl rfl (by omega) (Nat.le_of_ble_eq_true rfl) ?_)))
            rintro _ ⟨u2, v2, rfl, h2⟩
            refine E_aload_n C dX6_product_60 2 rfl (E_iload_n C dX6_product_61 0 rfl ?_)
            refine Ev.seti (show lI (ltr t s1) = nI (ltr t s1) from if_neg (by omega)) ?_
            refine E_iconst (v := 0) C dX6_product_62 ic_0 (E_callVV C dX6_product_63 mv_X6_50 21 _ (s_emit h2 (ltr t s1) 0) rfl rfl rfl (by omega) (Nat.le_of_ble_eq_true rfl) ?_)
            rintro _ ⟨u3, v3, rfl, h3⟩
            refine E_iinc C dX6_product_66 1 rfl (nI_1 i) (by decide) (E_goto C 7 dX6_product_69 (by decide) ?_)
            exact Ev.sub [0, 2, 3] rfl (ih (i + 1) _ _ _ (by omega) (by omega) h3 hres)
          ·
            have n2 : ¬ ltr t s1 = 47 := fun q => c28 ((lI_eq (c := 47) hxx (by decide)).mpr q)
            refine E_aload_n C dX6_product_31 1 rfl (E_callVI C dX6_product_32 mv_X6_63 21 _ (s_letter hT h1) rfl rfl rfl (by omega) (Nat.le_of_ble_eq_true rfl) ?_)
            rintro _ _ ⟨rfl, rfl⟩
            refine E_bipush (v := 37) C dX6_product_35 bp_37 (E_icmp_ne C 72 dX6_product_37 (by decide) (fun c37 => ?_) (fun c37 => ?_))
            ·
              have n3 : ¬ ltr t s1 = 37 := fun q => c37 ((lI_eq (c := 37) hxx (by decide)).mpr q)
              have hno : ¬ okP (ltr t s1) = true := fun q => by have q2 := of_decide_eq_true q; omega
              rw [binL_f hno] at hres
              refine E_vretV C hr hlk dX6_product_72 ?_
              have e : prdF t op s0 = s1 := hres
              rw [e]
              exact ⟨_, _, rfl, h1⟩
            ·
              have hok : okP (ltr t s1) = true := decide_eq_true (Or.inr (Or.inr ((lI_eq (c := 37) hxx (by decide)).mp c37)))
              rw [binL_t hok] at hres
              have hl := (bnO_ne (okP_bn _ hok)).2.2.2.2.1
              refine E_aload_n C dX6_product_40 1 rfl (E_callVI C dX6_product_41 mv_X6_63 21 _ (s_letter hT h1) rfl rfl rfl (by omega) (Nat.le_of_ble_eq_true rfl) ?_)
              rintro _ _ ⟨rfl, rfl⟩
              refine E_istore_n C dX6_product_44 (by decide) (E_aload_n C dX6_product_45 2 rfl (E_dup C dX6_product_46 rfl (xg_6_5 C dX6_product_47 f_X6_27 (E_iconst (v := 1) C dX6_product_50 ic_1 (E_iadd C dX6_product_51 ?_)))))
              refine Ev.seti (show u1 1 + 1 = nI (s1.1 + 1) by rw [h1.1, nI_1]) ?_
              refine xp_6_5 C dX6_product_52 fw_X6_27 (E_aload_n C dX6_product_55 2 rfl (E_iload_n C dX6_product_56 3 rfl (E_callVV C dX6_product_57 mv_X6_70 21 _ (ho _ _ _ (h1.advd hl)) rfl rfl rfl (by omega) (Nat.le_of_ble_eq_true rfl) ?_)))
              rintro _ ⟨u2, v2, rfl, h2⟩
              refine E_aload_n C dX6_product_60 2 rfl (E_iload_n C dX6_product_61 0 rfl ?_)
              refine Ev.seti (show lI (ltr t s1) = nI (ltr t s1) from if_neg (by omega)) ?_
              refine E_iconst (v := 0) C dX6_product_62 ic_0 (E_callVV C dX6_product_63 mv_X6_50 21 _ (s_emit h2 (ltr t s1) 0) rfl rfl rfl (by omega) (Nat.le_of_ble_eq_true rfl) ?_)
              rintro _ ⟨u3, v3, rfl, h3⟩
              refine E_iinc C dX6_product_66 1 rfl (nI_1 i) (by decide) (E_goto C 7 dX6_product_69 (by decide) ?_)
              exact Ev.sub [0, 2, 3] rfl (ih (i + 1) _ _ _ (by omega) (by omega) h3 hres)
  refine E_aload_n C dX6_product_0 0 rfl (E_iload_n C dX6_product_1 1 rfl (E_callVV C dX6_product_2 mv_X6_70 21 _ (ho _ _ _ h0) rfl rfl rfl (by omega) (Nat.le_of_ble_eq_true rfl) ?_))
  rintro _ ⟨u1, v1, rfl, h1⟩
  refine E_iconst (v := 0) C dX6_product_5 ic_0 (E_istore_n C dX6_product_6 (by decide) ?_)
  exact K 121 0 _ _ _ (by omega) (by omega) h1 rfl
set_option maxRecDepth 100000 in
set_option maxHeartbeats 4000000 in
theorem s_sum {l : Launch} {D : va_G} {tc tt ad : Nat → Nat} {W : Nat → Nat → Int32} {g : Nat → Int32} {h : Nat → Nat → Int32} {Dv : DV} {Sh : SV} {z : Int64} {y : Nat → Int64} {t : List Nat} (hT : XT t g h) {u0 : Nat → Int32} {v0 : Nat → Nat → Int32} {s0 : PS} {u : Nat → Int32} {v : Nat → Nat → Int32} (h0 : RR t u0 v0 s0 u v) {op : PS → PS} {oo : Int32} {dd : Nat} (hdd : 2 ≤ dd) (hp : ∀ (s1 : PS) (u1 : Nat → Int32) (v1 : Nat → Nat → Int32), RR t u0 v0 s1 u1 v1 → Ct l yX6_product cX6_product 4 none (dd) D tc tt [.ref (ad 21), .int oo] (hx ad tc W g h Dv Sh u1 v1 z y) (PV fun w => ∃ u' v', w = hx ad tc W g h Dv Sh u' v' z y ∧ RR t u0 v0 (op s1) u' v')) : Ct l yX6_sum cX6_sum 4 none (dd + 1) D tc tt [.ref (ad 21), .int oo] (hx ad tc W g h Dv Sh u v z y) (PV fun w => ∃ u' v', w = hx ad tc W g h Dv Sh u' v' z y ∧ RR t u0 v0 (binF t okS op s0) u' v') := by
  refine Ct.of (by decide +kernel) (Nat.le_of_ble_eq_true rfl) ?_
  intro p e R s m args below meth c A C hr hlk
  have htl := hT.2.1
  have htx : ∀ (j x : Nat), t[j]? = some x → x < 256 := fun j x q => (hT.2.2 j x q).2
  have K : ∀ (n i : Nat) (s1 : PS) (u1 : Nat → Int32) (v1 : Nat → Nat → Int32), i ≤ 120 → 120 < i + n → RR t u0 v0 s1 u1 v1 → binF t okS op s0 = binL t okS op (120 - i) s1 → Ev p l e R s m args below meth c 0 0 (EQ below (PV fun w => ∃ u' v', w = hx ad tc W g h Dv Sh u' v' z y ∧ RR t u0 v0 (binF t okS op s0) u' v') args s D A) D A 4 (hx ad tc W g h Dv Sh u1 v1 z y) 7 [(2, .int (nI i)), (0, .ref (ad 21)), (1, .int oo)] [] := by
    intro n
    induction n with
    | zero =>
      intro i s1 u1 v1 hi1 hi2 h1 hres
      exfalso; omega
    | succ n ih =>
      intro i s1 u1 v1 hi1 hi2 h1 hres
      refine E_iload_n C dX6_sum_7 0 rfl (E_bipush (v := 120) C dX6_sum_8 bp_120 (E_icmp_ge C 63 dX6_sum_10 (by decide) (fun c10 => ?_) (fun c10 => ?_)))
      ·
        have hi : i = 120 := by
          rcases Nat.lt_or_ge i 120 with q | q
          · exact absurd (show nI 120 ≤ nI i from c10) (nI_ge q (by decide))
          · omega
        rw [hi] at hres
        refine E_vretV C hr hlk dX6_sum_63 ?_
        have e : binF t okS op s0 = s1 := hres
        rw [e]
        exact ⟨_, _, rfl, h1⟩
      ·
        have hi : i < 120 := by
          rcases Nat.lt_or_ge i 120 with q | q
          · exact q
          · exact absurd (show nI 120 ≤ nI i from nI_le q (by omega)) c10
        rw [show 120 - i = (120 - (i + 1)) + 1 by omega] at hres
        have hxx := ltr_le htx s1
        refine E_aload_n C dX6_sum_13 1 rfl (E_callVI C dX6_sum_14 mv_X6_63 21 _ (s_letter hT h1) rfl rfl rfl (by omega) (Nat.le_of_ble_eq_true rfl) ?_)
        rintro _ _ ⟨rfl, rfl⟩
        refine E_bipush (v := 43) C dX6_sum_17 bp_43 (E_icmp_eq C 31 dX6_sum_19 (by decide) (fun c19 => ?_) (fun c19 => ?_))
        ·
          have hok : okS (ltr t s1) = true := decide_eq_true (Or.inl ((lI_eq (c := 43) hxx (by decide)).mp c19))
          rw [binL_t hok] at hres
          have hl := (bnO_ne (okS_bn _ hok)).2.2.2.2.1
          refine E_aload_n C dX6_sum_31 1 rfl (E_callVI C dX6_sum_32 mv_X6_63 21 _ (s_letter hT h1) rfl rfl rfl (by omega) (Nat.le_of_ble_eq_true rfl) ?_)
          rintro _ _ ⟨rfl, rfl⟩
          refine E_istore_n C dX6_sum_35 (by decide) (E_aload_n C dX6_sum_36 2 rfl (E_dup C dX6_sum_37 rfl (xg_6_5 C dX6_sum_38 f_X6_27 (E_iconst (v := 1) C dX6_sum_41 ic_1 (E_iadd C dX6_sum_42 ?_)))))
          refine Ev.seti (show u1 1 + 1 = nI (s1.1 + 1) by rw [h1.1, nI_1]) ?_
          refine xp_6_5 C dX6_sum_43 fw_X6_27 (E_aload_n C dX6_sum_46 2 rfl (E_iload_n C dX6_sum_47 3 rfl (E_callVV C dX6_sum_48 mv_X6_67 21 _ (hp _ _ _ (h1.advd hl)) rfl rfl rfl (by omega) (Nat.le_of_ble_eq_true rfl) ?_)))
          rintro _ ⟨u2, v2, rfl, h2⟩
          refine E_aload_n C dX6_sum_51 2 rfl (E_iload_n C dX6_sum_52 0 rfl ?_)
          refine Ev.seti (show lI (ltr t s1) = nI (ltr t s1) from if_neg (by omega)) ?_
          refine E_iconst (v := 0) C dX6_sum_53 ic_0 (E_callVV C dX6_sum_54 mv_X6_50 21 _ (s_emit h2 (ltr t s1) 0) rfl rfl rfl (by omega) (Nat.le_of_ble_eq_true rfl) ?_)
          rintro _ ⟨u3, v3, rfl, h3⟩
          refine E_iinc C dX6_sum_57 1 rfl (nI_1 i) (by decide) (E_goto C 7 dX6_sum_60 (by decide) ?_)
          exact Ev.sub [0, 2, 3] rfl (ih (i + 1) _ _ _ (by omega) (by omega) h3 hres)
        ·
          have n1 : ¬ ltr t s1 = 43 := fun q => c19 ((lI_eq (c := 43) hxx (by decide)).mpr q)
          refine E_aload_n C dX6_sum_22 1 rfl (E_callVI C dX6_sum_23 mv_X6_63 21 _ (s_letter hT h1) rfl rfl rfl (by omega) (Nat.le_of_ble_eq_true rfl) ?_)
          rintro _ _ ⟨rfl, rfl⟩
          refine E_bipush (v := 45) C dX6_sum_26 bp_45 (E_icmp_ne C 63 dX6_sum_28 (by decide) (fun c28 => ?_) (fun c28 => ?_))
          ·
            have n2 : ¬ ltr t s1 = 45 := fun q => c28 ((lI_eq (c := 45) hxx (by decide)).mpr q)
            have hno : ¬ okS (ltr t s1) = true := fun q => by have q2 := of_decide_eq_true q; omega
            rw [binL_f hno] at hres
            refine E_vretV C hr hlk dX6_sum_63 ?_
            have e : binF t okS op s0 = s1 := hres
            rw [e]
            exact ⟨_, _, rfl, h1⟩
          ·
            have hok : okS (ltr t s1) = true := decide_eq_true (Or.inr ((lI_eq (c := 45) hxx (by decide)).mp c28))
            rw [binL_t hok] at hres
            have hl := (bnO_ne (okS_bn _ hok)).2.2.2.2.1
            refine E_aload_n C dX6_sum_31 1 rfl (E_callVI C dX6_sum_32 mv_X6_63 21 _ (s_letter hT h1) rfl rfl rfl (by omega) (Nat.le_of_ble_eq_true rfl) ?_)
            rintro _ _ ⟨rfl, rfl⟩
            refine E_istore_n C dX6_sum_35 (by decide) (E_aload_n C dX6_sum_36 2 rfl (E_dup C dX6_sum_37 rfl (xg_6_5 C dX6_sum_38 f_X6_27 (E_iconst (v := 1) C dX6_sum_41 ic_1 (E_iadd C dX6_sum_42 ?_)))))
            refine Ev.seti (show u1 1 + 1 = nI (s1.1 + 1) by rw [h1.1, nI_1]) ?_
            refine xp_6_5 C dX6_sum_43 fw_X6_27 (E_aload_n C dX6_sum_46 2 rfl (E_iload_n C dX6_sum_47 3 rfl (E_callVV C dX6_sum_48 mv_X6_67 21 _ (hp _ _ _ (h1.advd hl)) rfl rfl rfl (by omega) (Nat.le_of_ble_eq_true rfl) ?_)))
            rintro _ ⟨u2, v2, rfl, h2⟩
            refine E_aload_n C dX6_sum_51 2 rfl (E_iload_n C dX6_sum_52 0 rfl ?_)
            refine Ev.seti (show lI (ltr t s1) = nI (ltr t s1) from if_neg (by omega)) ?_
            refine E_iconst (v := 0) C dX6_sum_53 ic_0 (E_callVV C dX6_sum_54 mv_X6_50 21 _ (s_emit h2 (ltr t s1) 0) rfl rfl rfl (by omega) (Nat.le_of_ble_eq_true rfl) ?_)
            rintro _ ⟨u3, v3, rfl, h3⟩
            refine E_iinc C dX6_sum_57 1 rfl (nI_1 i) (by decide) (E_goto C 7 dX6_sum_60 (by decide) ?_)
            exact Ev.sub [0, 2, 3] rfl (ih (i + 1) _ _ _ (by omega) (by omega) h3 hres)
  refine E_aload_n C dX6_sum_0 0 rfl (E_iload_n C dX6_sum_1 1 rfl (E_callVV C dX6_sum_2 mv_X6_67 21 _ (hp _ _ _ h0) rfl rfl rfl (by omega) (Nat.le_of_ble_eq_true rfl) ?_))
  rintro _ ⟨u1, v1, rfl, h1⟩
  refine E_iconst (v := 0) C dX6_sum_5 ic_0 (E_istore_n C dX6_sum_6 (by decide) ?_)
  exact K 121 0 _ _ _ (by omega) (by omega) h1 rfl
set_option maxRecDepth 100000 in
set_option maxHeartbeats 4000000 in
theorem s_compared {l : Launch} {D : va_G} {tc tt ad : Nat → Nat} {W : Nat → Nat → Int32} {g : Nat → Int32} {h : Nat → Nat → Int32} {Dv : DV} {Sh : SV} {z : Int64} {y : Nat → Int64} {t : List Nat} (hT : XT t g h) {u0 : Nat → Int32} {v0 : Nat → Nat → Int32} {s0 : PS} {u : Nat → Int32} {v : Nat → Nat → Int32} (h0 : RR t u0 v0 s0 u v) {op : PS → PS} {oo : Int32} {dd : Nat} (hdd : 2 ≤ dd) (hs : ∀ (s1 : PS) (u1 : Nat → Int32) (v1 : Nat → Nat → Int32), RR t u0 v0 s1 u1 v1 → Ct l yX6_sum cX6_sum 4 none (dd) D tc tt [.ref (ad 21), .int oo] (hx ad tc W g h Dv Sh u1 v1 z y) (PV fun w => ∃ u' v', w = hx ad tc W g h Dv Sh u' v' z y ∧ RR t u0 v0 (op s1) u' v')) : Ct l yX6_compared cX6_compared 3 none (dd + 1) D tc tt [.ref (ad 21), .int oo] (hx ad tc W g h Dv Sh u v z y) (PV fun w => ∃ u' v', w = hx ad tc W g h Dv Sh u' v' z y ∧ RR t u0 v0 (cmpF t op s0) u' v') := by
  refine Ct.of (by decide +kernel) (Nat.le_of_ble_eq_true rfl) ?_
  intro p e R s m args below meth c A C hr hlk
  have htl := hT.2.1
  have htx : ∀ (j x : Nat), t[j]? = some x → x < 256 := fun j x q => (hT.2.2 j x q).2
  refine E_aload_n C dX6_compared_0 0 rfl (E_iload_n C dX6_compared_1 1 rfl (E_callVV C dX6_compared_2 mv_X6_60 21 _ (hs _ _ _ h0) rfl rfl rfl (by omega) (Nat.le_of_ble_eq_true rfl) ?_))
  rintro _ ⟨u1, v1, rfl, h1⟩
  have hxx := ltr_le htx (op s0)
  refine E_aload_n C dX6_compared_5 0 rfl (E_callVI C dX6_compared_6 mv_X6_63 21 _ (s_letter hT h1) rfl rfl rfl (by omega) (Nat.le_of_ble_eq_true rfl) ?_)
  rintro _ _ ⟨rfl, rfl⟩
  refine E_istore_n C dX6_compared_9 (by decide) (E_iload_n C dX6_compared_10 0 rfl (E_bipush (v := 60) C dX6_compared_11 bp_60 (E_icmp_eq C 28 dX6_compared_13 (by decide) (fun c13 => ?_) (fun c13 => ?_))))
  ·
    have hok : okC (ltr t (op s0)) = true := decide_eq_true (Or.inl ((lI_eq (c := 60) hxx (by decide)).mp c13))
    have hl := (bnO_ne (okC_bn _ hok)).2.2.2.2.1
    refine E_aload_n C dX6_compared_28 1 rfl (E_dup C dX6_compared_29 rfl (xg_6_5 C dX6_compared_30 f_X6_27 (E_iconst (v := 1) C dX6_compared_33 ic_1 (E_iadd C dX6_compared_34 ?_))))
    refine Ev.seti (show u1 1 + 1 = nI ((op s0).1 + 1) by rw [h1.1, nI_1]) ?_
    refine xp_6_5 C dX6_compared_35 fw_X6_27 (E_aload_n C dX6_compared_38 1 rfl (E_iload_n C dX6_compared_39 2 rfl (E_callVV C dX6_compared_40 mv_X6_60 21 _ (hs _ _ _ (h1.advd hl)) rfl rfl rfl (by omega) (Nat.le_of_ble_eq_true rfl) ?_)))
    rintro _ ⟨u2, v2, rfl, h2⟩
    refine E_aload_n C dX6_compared_43 1 rfl (E_iload_n C dX6_compared_44 0 rfl ?_)
    refine Ev.seti (show lI (ltr t (op s0)) = nI (ltr t (op s0)) from if_neg (by omega)) ?_
    refine E_iconst (v := 0) C dX6_compared_45 ic_0 (E_callVV C dX6_compared_46 mv_X6_50 21 _ (s_emit h2 (ltr t (op s0)) 0) rfl rfl rfl (by omega) (Nat.le_of_ble_eq_true rfl) ?_)
    rintro _ ⟨u3, v3, rfl, h3⟩
    refine E_vretV C hr hlk dX6_compared_49 ?_
    have e : cmpF t op s0 = _ := if_pos hok
    rw [e]
    exact ⟨_, _, rfl, h3⟩
  ·
    have n1 : ¬ ltr t (op s0) = 60 := fun q => c13 ((lI_eq (c := 60) hxx (by decide)).mpr q)
    refine E_iload_n C dX6_compared_16 0 rfl (E_bipush (v := 61) C dX6_compared_17 bp_61 (E_icmp_eq C 28 dX6_compared_19 (by decide) (fun c19 => ?_) (fun c19 => ?_)))
    ·
      have hok : okC (ltr t (op s0)) = true := decide_eq_true (Or.inr (Or.inl ((lI_eq (c := 61) hxx (by decide)).mp c19)))
      have hl := (bnO_ne (okC_bn _ hok)).2.2.2.2.1
      refine E_aload_n C dX6_compared_28 1 rfl (E_dup C dX6_compared_29 rfl (xg_6_5 C dX6_compared_30 f_X6_27 (E_iconst (v := 1) C dX6_compared_33 ic_1 (E_iadd C dX6_compared_34 ?_))))
      refine Ev.seti (show u1 1 + 1 = nI ((op s0).1 + 1) by rw [h1.1, nI_1]) ?_
      refine xp_6_5 C dX6_compared_35 fw_X6_27 (E_aload_n C dX6_compared_38 1 rfl (E_iload_n C dX6_compared_39 2 rfl (E_callVV C dX6_compared_40 mv_X6_60 21 _ (hs _ _ _ (h1.advd hl)) rfl rfl rfl (by omega) (Nat.le_of_ble_eq_true rfl) ?_)))
      rintro _ ⟨u2, v2, rfl, h2⟩
      refine E_aload_n C dX6_compared_43 1 rfl (E_iload_n C dX6_compared_44 0 rfl ?_)
      refine Ev.seti (show lI (ltr t (op s0)) = nI (ltr t (op s0)) from if_neg (by omega)) ?_
      refine E_iconst (v := 0) C dX6_compared_45 ic_0 (E_callVV C dX6_compared_46 mv_X6_50 21 _ (s_emit h2 (ltr t (op s0)) 0) rfl rfl rfl (by omega) (Nat.le_of_ble_eq_true rfl) ?_)
      rintro _ ⟨u3, v3, rfl, h3⟩
      refine E_vretV C hr hlk dX6_compared_49 ?_
      have e : cmpF t op s0 = _ := if_pos hok
      rw [e]
      exact ⟨_, _, rfl, h3⟩
    ·
      have n2 : ¬ ltr t (op s0) = 61 := fun q => c19 ((lI_eq (c := 61) hxx (by decide)).mpr q)
      refine E_iload_n C dX6_compared_22 0 rfl (E_bipush (v := 62) C dX6_compared_23 bp_62 (E_icmp_ne C 49 dX6_compared_25 (by decide) (fun c25 => ?_) (fun c25 => ?_)))
      ·
        have n3 : ¬ ltr t (op s0) = 62 := fun q => c25 ((lI_eq (c := 62) hxx (by decide)).mpr q)
        have hno : ¬ okC (ltr t (op s0)) = true := fun q => by have q2 := of_decide_eq_true q; omega
        refine E_vretV C hr hlk dX6_compared_49 ?_
        have e : cmpF t op s0 = _ := if_neg hno
        rw [e]
        exact ⟨_, _, rfl, h1⟩
      ·
        have hok : okC (ltr t (op s0)) = true := decide_eq_true (Or.inr (Or.inr ((lI_eq (c := 62) hxx (by decide)).mp c25)))
        have hl := (bnO_ne (okC_bn _ hok)).2.2.2.2.1
        refine E_aload_n C dX6_compared_28 1 rfl (E_dup C dX6_compared_29 rfl (xg_6_5 C dX6_compared_30 f_X6_27 (E_iconst (v := 1) C dX6_compared_33 ic_1 (E_iadd C dX6_compared_34 ?_))))
        refine Ev.seti (show u1 1 + 1 = nI ((op s0).1 + 1) by rw [h1.1, nI_1]) ?_
        refine xp_6_5 C dX6_compared_35 fw_X6_27 (E_aload_n C dX6_compared_38 1 rfl (E_iload_n C dX6_compared_39 2 rfl (E_callVV C dX6_compared_40 mv_X6_60 21 _ (hs _ _ _ (h1.advd hl)) rfl rfl rfl (by omega) (Nat.le_of_ble_eq_true rfl) ?_)))
        rintro _ ⟨u2, v2, rfl, h2⟩
        refine E_aload_n C dX6_compared_43 1 rfl (E_iload_n C dX6_compared_44 0 rfl ?_)
        refine Ev.seti (show lI (ltr t (op s0)) = nI (ltr t (op s0)) from if_neg (by omega)) ?_
        refine E_iconst (v := 0) C dX6_compared_45 ic_0 (E_callVV C dX6_compared_46 mv_X6_50 21 _ (s_emit h2 (ltr t (op s0)) 0) rfl rfl rfl (by omega) (Nat.le_of_ble_eq_true rfl) ?_)
        rintro _ ⟨u3, v3, rfl, h3⟩
        refine E_vretV C hr hlk dX6_compared_49 ?_
        have e : cmpF t op s0 = _ := if_pos hok
        rw [e]
        exact ⟨_, _, rfl, h3⟩
set_option maxRecDepth 100000 in
set_option maxHeartbeats 4000000 in
theorem s_both {l : Launch} {D : va_G} {tc tt ad : Nat → Nat} {W : Nat → Nat → Int32} {g : Nat → Int32} {h : Nat → Nat → Int32} {Dv : DV} {Sh : SV} {z : Int64} {y : Nat → Int64} {t : List Nat} (hT : XT t g h) {u0 : Nat → Int32} {v0 : Nat → Nat → Int32} {s0 : PS} {u : Nat → Int32} {v : Nat → Nat → Int32} (h0 : RR t u0 v0 s0 u v) {op : PS → PS} {oo : Int32} {dd : Nat} (hdd : 2 ≤ dd) (hc : ∀ (s1 : PS) (u1 : Nat → Int32) (v1 : Nat → Nat → Int32), RR t u0 v0 s1 u1 v1 → Ct l yX6_compared cX6_compared 3 none (dd) D tc tt [.ref (ad 21), .int oo] (hx ad tc W g h Dv Sh u1 v1 z y) (PV fun w => ∃ u' v', w = hx ad tc W g h Dv Sh u' v' z y ∧ RR t u0 v0 (op s1) u' v')) : Ct l yX6_both cX6_both 3 none (dd + 1) D tc tt [.ref (ad 21), .int oo] (hx ad tc W g h Dv Sh u v z y) (PV fun w => ∃ u' v', w = hx ad tc W g h Dv Sh u' v' z y ∧ RR t u0 v0 (binF t okA op s0) u' v') := by
  refine Ct.of (by decide +kernel) (Nat.le_of_ble_eq_true rfl) ?_
  intro p e R s m args below meth c A C hr hlk
  have htl := hT.2.1
  have htx : ∀ (j x : Nat), t[j]? = some x → x < 256 := fun j x q => (hT.2.2 j x q).2
  have K : ∀ (n i : Nat) (s1 : PS) (u1 : Nat → Int32) (v1 : Nat → Nat → Int32), i ≤ 120 → 120 < i + n → RR t u0 v0 s1 u1 v1 → binF t okA op s0 = binL t okA op (120 - i) s1 → Ev p l e R s m args below meth c 0 0 (EQ below (PV fun w => ∃ u' v', w = hx ad tc W g h Dv Sh u' v' z y ∧ RR t u0 v0 (binF t okA op s0) u' v') args s D A) D A 3 (hx ad tc W g h Dv Sh u1 v1 z y) 7 [(2, .int (nI i)), (0, .ref (ad 21)), (1, .int oo)] [] := by
    intro n
    induction n with
    | zero =>
      intro i s1 u1 v1 hi1 hi2 h1 hres
      exfalso; omega
    | succ n ih =>
      intro i s1 u1 v1 hi1 hi2 h1 hres
      refine E_iload_n C dX6_both_7 0 rfl (E_bipush (v := 120) C dX6_both_8 bp_120 (E_icmp_ge C 40 dX6_both_10 (by decide) (fun c10 => ?_) (fun c10 => ?_)))
      ·
        have hi : i = 120 := by
          rcases Nat.lt_or_ge i 120 with q | q
          · exact absurd (show nI 120 ≤ nI i from c10) (nI_ge q (by decide))
          · omega
        rw [hi] at hres
        refine E_vretV C hr hlk dX6_both_40 ?_
        have e : binF t okA op s0 = s1 := hres
        rw [e]
        exact ⟨_, _, rfl, h1⟩
      ·
        have hi : i < 120 := by
          rcases Nat.lt_or_ge i 120 with q | q
          · exact q
          · exact absurd (show nI 120 ≤ nI i from nI_le q (by omega)) c10
        rw [show 120 - i = (120 - (i + 1)) + 1 by omega] at hres
        have hxx := ltr_le htx s1
        refine E_aload_n C dX6_both_13 1 rfl (E_bipush (v := 38) C dX6_both_14 bp_38 (E_callVI C dX6_both_16 mv_X6_39 21 _ (s_accepts hT h1 (cN := 38) (by decide)) rfl rfl rfl (by omega) (Nat.le_of_ble_eq_true rfl) ?_))
        rintro _ _ (⟨hq, rfl, u2, rfl, h2⟩ | ⟨hq, rfl, rfl⟩)
        ·
          refine E_if_eq C 40 dX6_both_19 (by decide) (fun c19 => ?_) (fun c19 => ?_)
          ·
            exact absurd c19 (by decide)
          ·
            have hok : okA (ltr t s1) = true := decide_eq_true hq
            rw [binL_t hok, hq] at hres
            refine E_aload_n C dX6_both_22 1 rfl (E_iload_n C dX6_both_23 2 rfl (E_callVV C dX6_both_24 mv_X6_57 21 _ (hc _ _ _ h2) rfl rfl rfl (by omega) (Nat.le_of_ble_eq_true rfl) ?_))
            rintro _ ⟨u4, v4, rfl, h4⟩
            refine E_aload_n C dX6_both_27 1 rfl (E_bipush (v := 38) C dX6_both_28 bp_38 (E_iconst (v := 0) C dX6_both_30 ic_0 (E_callVV C dX6_both_31 mv_X6_50 21 _ (s_emit h4 38 0) rfl rfl rfl (by omega) (Nat.le_of_ble_eq_true rfl) ?_)))
            rintro _ ⟨u3, v3, rfl, h3⟩
            refine E_iinc C dX6_both_34 0 rfl (nI_1 i) (by decide) (E_goto C 7 dX6_both_37 (by decide) ?_)
            exact Ev.sub [0, 1, 2] rfl (ih (i + 1) _ _ _ (by omega) (by omega) h3 hres)
        ·
          refine E_if_eq C 40 dX6_both_19 (by decide) (fun c19 => ?_) (fun c19 => ?_)
          ·
            have hno : ¬ okA (ltr t s1) = true := fun q => hq (of_decide_eq_true q)
            rw [binL_f hno] at hres
            refine E_vretV C hr hlk dX6_both_40 ?_
            have e : binF t okA op s0 = s1 := hres
            rw [e]
            exact ⟨_, _, rfl, h1⟩
          ·
            exact absurd rfl c19
  refine E_aload_n C dX6_both_0 0 rfl (E_iload_n C dX6_both_1 1 rfl (E_callVV C dX6_both_2 mv_X6_57 21 _ (hc _ _ _ h0) rfl rfl rfl (by omega) (Nat.le_of_ble_eq_true rfl) ?_))
  rintro _ ⟨u1, v1, rfl, h1⟩
  refine E_iconst (v := 0) C dX6_both_5 ic_0 (E_istore_n C dX6_both_6 (by decide) ?_)
  exact K 121 0 _ _ _ (by omega) (by omega) h1 rfl
set_option maxRecDepth 100000 in
set_option maxHeartbeats 4000000 in
theorem s_either {l : Launch} {D : va_G} {tc tt ad : Nat → Nat} {W : Nat → Nat → Int32} {g : Nat → Int32} {h : Nat → Nat → Int32} {Dv : DV} {Sh : SV} {z : Int64} {y : Nat → Int64} {t : List Nat} (hT : XT t g h) {u0 : Nat → Int32} {v0 : Nat → Nat → Int32} {s0 : PS} {u : Nat → Int32} {v : Nat → Nat → Int32} (h0 : RR t u0 v0 s0 u v) {op : PS → PS} {oo : Int32} {dd : Nat} (hdd : 2 ≤ dd) (hb : ∀ (s1 : PS) (u1 : Nat → Int32) (v1 : Nat → Nat → Int32), RR t u0 v0 s1 u1 v1 → Ct l yX6_both cX6_both 3 none (dd) D tc tt [.ref (ad 21), .int oo] (hx ad tc W g h Dv Sh u1 v1 z y) (PV fun w => ∃ u' v', w = hx ad tc W g h Dv Sh u' v' z y ∧ RR t u0 v0 (op s1) u' v')) : Ct l yX6_either cX6_either 3 none (dd + 1) D tc tt [.ref (ad 21), .int oo] (hx ad tc W g h Dv Sh u v z y) (PV fun w => ∃ u' v', w = hx ad tc W g h Dv Sh u' v' z y ∧ RR t u0 v0 (binF t okO op s0) u' v') := by
  refine Ct.of (by decide +kernel) (Nat.le_of_ble_eq_true rfl) ?_
  intro p e R s m args below meth c A C hr hlk
  have htl := hT.2.1
  have htx : ∀ (j x : Nat), t[j]? = some x → x < 256 := fun j x q => (hT.2.2 j x q).2
  have K : ∀ (n i : Nat) (s1 : PS) (u1 : Nat → Int32) (v1 : Nat → Nat → Int32), i ≤ 120 → 120 < i + n → RR t u0 v0 s1 u1 v1 → binF t okO op s0 = binL t okO op (120 - i) s1 → Ev p l e R s m args below meth c 0 0 (EQ below (PV fun w => ∃ u' v', w = hx ad tc W g h Dv Sh u' v' z y ∧ RR t u0 v0 (binF t okO op s0) u' v') args s D A) D A 3 (hx ad tc W g h Dv Sh u1 v1 z y) 7 [(2, .int (nI i)), (0, .ref (ad 21)), (1, .int oo)] [] := by
    intro n
    induction n with
    | zero =>
      intro i s1 u1 v1 hi1 hi2 h1 hres
      exfalso; omega
    | succ n ih =>
      intro i s1 u1 v1 hi1 hi2 h1 hres
      refine E_iload_n C dX6_either_7 0 rfl (E_bipush (v := 120) C dX6_either_8 bp_120 (E_icmp_ge C 40 dX6_either_10 (by decide) (fun c10 => ?_) (fun c10 => ?_)))
      ·
        have hi : i = 120 := by
          rcases Nat.lt_or_ge i 120 with q | q
          · exact absurd (show nI 120 ≤ nI i from c10) (nI_ge q (by decide))
          · omega
        rw [hi] at hres
        refine E_vretV C hr hlk dX6_either_40 ?_
        have e : binF t okO op s0 = s1 := hres
        rw [e]
        exact ⟨_, _, rfl, h1⟩
      ·
        have hi : i < 120 := by
          rcases Nat.lt_or_ge i 120 with q | q
          · exact q
          · exact absurd (show nI 120 ≤ nI i from nI_le q (by omega)) c10
        rw [show 120 - i = (120 - (i + 1)) + 1 by omega] at hres
        have hxx := ltr_le htx s1
        refine E_aload_n C dX6_either_13 1 rfl (E_bipush (v := 124) C dX6_either_14 bp_124 (E_callVI C dX6_either_16 mv_X6_39 21 _ (s_accepts hT h1 (cN := 124) (by decide)) rfl rfl rfl (by omega) (Nat.le_of_ble_eq_true rfl) ?_))
        rintro _ _ (⟨hq, rfl, u2, rfl, h2⟩ | ⟨hq, rfl, rfl⟩)
        ·
          refine E_if_eq C 40 dX6_either_19 (by decide) (fun c19 => ?_) (fun c19 => ?_)
          ·
            exact absurd c19 (by decide)
          ·
            have hok : okO (ltr t s1) = true := decide_eq_true hq
            rw [binL_t hok, hq] at hres
            refine E_aload_n C dX6_either_22 1 rfl (E_iload_n C dX6_either_23 2 rfl (E_callVV C dX6_either_24 mv_X6_54 21 _ (hb _ _ _ h2) rfl rfl rfl (by omega) (Nat.le_of_ble_eq_true rfl) ?_))
            rintro _ ⟨u4, v4, rfl, h4⟩
            refine E_aload_n C dX6_either_27 1 rfl (E_bipush (v := 124) C dX6_either_28 bp_124 (E_iconst (v := 0) C dX6_either_30 ic_0 (E_callVV C dX6_either_31 mv_X6_50 21 _ (s_emit h4 124 0) rfl rfl rfl (by omega) (Nat.le_of_ble_eq_true rfl) ?_)))
            rintro _ ⟨u3, v3, rfl, h3⟩
            refine E_iinc C dX6_either_34 0 rfl (nI_1 i) (by decide) (E_goto C 7 dX6_either_37 (by decide) ?_)
            exact Ev.sub [0, 1, 2] rfl (ih (i + 1) _ _ _ (by omega) (by omega) h3 hres)
        ·
          refine E_if_eq C 40 dX6_either_19 (by decide) (fun c19 => ?_) (fun c19 => ?_)
          ·
            have hno : ¬ okO (ltr t s1) = true := fun q => hq (of_decide_eq_true q)
            rw [binL_f hno] at hres
            refine E_vretV C hr hlk dX6_either_40 ?_
            have e : binF t okO op s0 = s1 := hres
            rw [e]
            exact ⟨_, _, rfl, h1⟩
          ·
            exact absurd rfl c19
  refine E_aload_n C dX6_either_0 0 rfl (E_iload_n C dX6_either_1 1 rfl (E_callVV C dX6_either_2 mv_X6_54 21 _ (hb _ _ _ h0) rfl rfl rfl (by omega) (Nat.le_of_ble_eq_true rfl) ?_))
  rintro _ ⟨u1, v1, rfl, h1⟩
  refine E_iconst (v := 0) C dX6_either_5 ic_0 (E_istore_n C dX6_either_6 (by decide) ?_)
  exact K 121 0 _ _ _ (by omega) (by omega) h1 rfl
theorem s_eitOf {l : Launch} {D : va_G} {tc tt ad : Nat → Nat} {W : Nat → Nat → Int32} {g : Nat → Int32} {h : Nat → Nat → Int32} {Dv : DV} {Sh : SV} {z : Int64} {y : Nat → Int64} {t : List Nat} (hT : XT t g h) {u0 : Nat → Int32} {v0 : Nat → Nat → Int32} {op : PS → PS} {oo : Int32} {dd : Nat} (hdd : 2 ≤ dd) (ho : ∀ (s1 : PS) (u1 : Nat → Int32) (v1 : Nat → Nat → Int32), RR t u0 v0 s1 u1 v1 → Ct l yX6_operand cX6_operand 3 none (dd) D tc tt [.ref (ad 21), .int oo] (hx ad tc W g h Dv Sh u1 v1 z y) (PV fun w => ∃ u' v', w = hx ad tc W g h Dv Sh u' v' z y ∧ RR t u0 v0 (op s1) u' v')) : ∀ (s1 : PS) (u1 : Nat → Int32) (v1 : Nat → Nat → Int32), RR t u0 v0 s1 u1 v1 → Ct l yX6_either cX6_either 3 none (dd + 1 + 1 + 1 + 1 + 1) D tc tt [.ref (ad 21), .int oo] (hx ad tc W g h Dv Sh u1 v1 z y) (PV fun w => ∃ u' v', w = hx ad tc W g h Dv Sh u' v' z y ∧ RR t u0 v0 (eitF t op s1) u' v') :=
  fun _ _ _ h5 => s_either hT h5 (by omega) (fun _ _ _ h4 => s_both hT h4 (by omega) (fun _ _ _ h3 => s_compared hT h3 (by omega) (fun _ _ _ h2 => s_sum hT h2 (by omega) (fun _ _ _ h1 => s_product hT h1 hdd ho))))
set_option maxRecDepth 100000 in
set_option maxHeartbeats 4000000 in
theorem s_operand {l : Launch} {D : va_G} {tc tt ad : Nat → Nat} {W : Nat → Nat → Int32} {g : Nat → Int32} {h : Nat → Nat → Int32} {Dv : DV} {Sh : SV} {z : Int64} {y : Nat → Int64} {t : List Nat} (hT : XT t g h) {u0 : Nat → Int32} {v0 : Nat → Nat → Int32} : ∀ d, d ≤ 6 → ∀ (s0 : PS) (u : Nat → Int32) (v : Nat → Nat → Int32), RR t u0 v0 s0 u v → Ct l yX6_operand cX6_operand 3 none (6 * d + 3) D tc tt [.ref (ad 21), .int (nI (6 - d))] (hx ad tc W g h Dv Sh u v z y) (PV fun w => ∃ u' v', w = hx ad tc W g h Dv Sh u' v' z y ∧ RR t u0 v0 (opF t (numC t) rfs d s0) u' v') := by
  intro d
  induction d with
  | zero =>
    intro hd6 s0 u v h0
    have htl := hT.2.1
    have htx : ∀ (j x : Nat), t[j]? = some x → x < 256 := fun j x q => (hT.2.2 j x q).2
    have hxx := ltr_le htx s0
    refine Ct.of (by decide +kernel) (Nat.le_of_ble_eq_true rfl) ?_
    intro p e R s m args below meth c A C hr hlk
    refine E_aload_n C dX6_operand_0 0 rfl (E_callVI C dX6_operand_1 mv_X6_63 21 _ (s_letter hT h0) rfl rfl rfl (by omega) (Nat.le_of_ble_eq_true rfl) ?_)
    rintro _ _ ⟨rfl, rfl⟩
    refine E_istore_n C dX6_operand_4 (by decide) (E_iload_n C dX6_operand_5 0 rfl (E_callSI C dX6_operand_6 ms_X6_73 _ (s_isDigit hxx) rfl rfl (by omega) (Nat.le_of_ble_eq_true rfl) ?_))
    rintro _ _ ⟨rfl, rfl⟩
    refine E_if_eq C 19 dX6_operand_9 (by decide) (fun c9 => ?_) (fun c9 => ?_)
    ·
      have hd : ¬ isD (ltr t s0) = true := fun q => by rw [if_pos q] at c9; cases c9
      refine E_iload_n C dX6_operand_19 0 rfl (E_callSI C dX6_operand_20 ms_X6_79 _ (s_nameOf _) rfl rfl (by omega) (Nat.le_of_ble_eq_true rfl) ?_)
      rintro _ _ ⟨rfl, rfl⟩
      refine Ev.seti (nameI_lI hxx) ?_
      refine E_if_lt C 49 dX6_operand_23 (by decide) (fun c23 => ?_) (fun c23 => ?_)
      ·
        have hnm : ¬ nmF (ltr t s0) < 5 := fun q => by rw [if_pos q] at c23; exact nI_pos (by omega) c23
        refine E_iload_n C dX6_operand_49 2 rfl (E_bipush (v := 6) C dX6_operand_50 bp_6 (E_icmp_ge C 94 dX6_operand_52 (by decide) (fun c52 => ?_) (fun c52 => ?_)))
        ·
          refine E_iload_n C dX6_operand_94 2 rfl (E_bipush (v := 6) C dX6_operand_95 bp_6 (E_icmp_ge C 150 dX6_operand_97 (by decide) (fun c97 => ?_) (fun c97 => ?_)))
          ·
            refine E_aload_n C dX6_operand_150 1 rfl (E_callVV C dX6_operand_151 mv_X6_43 21 _ (s_refuse hT h0) rfl rfl rfl (by omega) (Nat.le_of_ble_eq_true rfl) ?_)
            rintro _ ⟨u1, v1, rfl, h1⟩
            refine E_vretV C hr hlk dX6_operand_154 ?_
            rw [opF_0r hd hnm]
            exact ⟨_, _, rfl, h1⟩
          ·
            exact absurd (Int32.le_refl 6) c97
        ·
          exact absurd (Int32.le_refl 6) c52
      ·
        have hnm : nmF (ltr t s0) < 5 := Classical.byContradiction fun q => c23 (by rw [if_neg q]; decide)
        have hl := nm_256 hnm
        refine E_aload_n C dX6_operand_26 1 rfl (E_dup C dX6_operand_27 rfl (xg_6_5 C dX6_operand_28 f_X6_27 (E_iconst (v := 1) C dX6_operand_31 ic_1 (E_iadd C dX6_operand_32 ?_))))
        refine Ev.seti (show u 1 + 1 = nI (s0.1 + 1) by rw [h0.1, nI_1]) ?_
        refine xp_6_5 C dX6_operand_33 fw_X6_27 (E_aload_n C dX6_operand_36 1 rfl (E_bipush (v := 110) C dX6_operand_37 bp_110 (E_iload_n C dX6_operand_39 0 rfl (E_callSI C dX6_operand_40 ms_X6_79 _ (s_nameOf _) rfl rfl (by omega) (Nat.le_of_ble_eq_true rfl) ?_))))
        rintro _ _ ⟨rfl, rfl⟩
        refine Ev.seti ((nameI_lI hxx).trans (if_pos hnm)) ?_
        refine E_callVV C dX6_operand_43 mv_X6_50 21 _ (s_emit (h0.advd hl) 110 (nmF (ltr t s0))) rfl rfl rfl (by omega) (Nat.le_of_ble_eq_true rfl) ?_
        rintro _ ⟨u1, v1, rfl, h1⟩
        refine E_goto C 154 dX6_operand_46 (by decide) (E_vretV C hr hlk dX6_operand_154 ?_)
        rw [opF_N hd hnm]
        exact ⟨_, _, rfl, h1⟩
    ·
      have hd : isD (ltr t s0) = true := Classical.byContradiction fun q => c9 (if_neg q)
      refine E_aload_n C dX6_operand_12 1 rfl (E_callVV C dX6_operand_13 mv_X6_76 21 _ (s_number hT h0) rfl rfl rfl (by omega) (Nat.le_of_ble_eq_true rfl) ?_)
      rintro _ ⟨u1, v1, rfl, h1⟩
      refine E_goto C 154 dX6_operand_16 (by decide) (E_vretV C hr hlk dX6_operand_154 ?_)
      rw [opF_D hd]
      exact ⟨_, _, rfl, h1⟩
  | succ d ih0 =>
    intro hd6 s0 u v h0
    have ih := ih0 (by omega)
    have htl := hT.2.1
    have htx : ∀ (j x : Nat), t[j]? = some x → x < 256 := fun j x q => (hT.2.2 j x q).2
    have hxx := ltr_le htx s0
    refine Ct.of (by decide +kernel) (Nat.le_of_ble_eq_true rfl) ?_
    intro p e R s m args below meth c A C hr hlk
    refine E_aload_n C dX6_operand_0 0 rfl (E_callVI C dX6_operand_1 mv_X6_63 21 _ (s_letter hT h0) rfl rfl rfl (by omega) (Nat.le_of_ble_eq_true rfl) ?_)
    rintro _ _ ⟨rfl, rfl⟩
    refine E_istore_n C dX6_operand_4 (by decide) (E_iload_n C dX6_operand_5 0 rfl (E_callSI C dX6_operand_6 ms_X6_73 _ (s_isDigit hxx) rfl rfl (by omega) (Nat.le_of_ble_eq_true rfl) ?_))
    rintro _ _ ⟨rfl, rfl⟩
    refine E_if_eq C 19 dX6_operand_9 (by decide) (fun c9 => ?_) (fun c9 => ?_)
    ·
      have hd : ¬ isD (ltr t s0) = true := fun q => by rw [if_pos q] at c9; cases c9
      refine E_iload_n C dX6_operand_19 0 rfl (E_callSI C dX6_operand_20 ms_X6_79 _ (s_nameOf _) rfl rfl (by omega) (Nat.le_of_ble_eq_true rfl) ?_)
      rintro _ _ ⟨rfl, rfl⟩
      refine Ev.seti (nameI_lI hxx) ?_
      refine E_if_lt C 49 dX6_operand_23 (by decide) (fun c23 => ?_) (fun c23 => ?_)
      ·
        have hnm : ¬ nmF (ltr t s0) < 5 := fun q => by rw [if_pos q] at c23; exact nI_pos (by omega) c23
        refine E_iload_n C dX6_operand_49 2 rfl (E_bipush (v := 6) C dX6_operand_50 bp_6 (E_icmp_ge C 94 dX6_operand_52 (by decide) (fun c52 => ?_) (fun c52 => ?_)))
        ·
          exact absurd (show nI 6 ≤ nI (6 - (d + 1)) from c52) (nI_ge (by omega) (by decide))
        ·
          refine E_iload_n C dX6_operand_55 0 rfl (E_bipush (v := 40) C dX6_operand_56 bp_40 (E_icmp_ne C 94 dX6_operand_58 (by decide) (fun c58 => ?_) (fun c58 => ?_)))
          ·
            have n40 : ¬ ltr t s0 = 40 := fun q => c58 ((lI_eq (c := 40) hxx (by decide)).mpr q)
            refine E_iload_n C dX6_operand_94 2 rfl (E_bipush (v := 6) C dX6_operand_95 bp_6 (E_icmp_ge C 150 dX6_operand_97 (by decide) (fun c97 => ?_) (fun c97 => ?_)))
            ·
              exact absurd (show nI 6 ≤ nI (6 - (d + 1)) from c97) (nI_ge (by omega) (by decide))
            ·
              refine E_iload_n C dX6_operand_100 0 rfl (E_bipush (v := 33) C dX6_operand_101 bp_33 (E_icmp_eq C 112 dX6_operand_103 (by decide) (fun c103 => ?_) (fun c103 => ?_)))
              ·
                have hx33 := (lI_eq (c := 33) hxx (by decide)).mp c103
                have hok : okU (ltr t s0) = true := decide_eq_true (Or.inl hx33)
                have hl : ltr t s0 < 256 := by have q2 := of_decide_eq_true hok; omega
                refine E_aload_n C dX6_operand_112 1 rfl (E_dup C dX6_operand_113 rfl (xg_6_5 C dX6_operand_114 f_X6_27 (E_iconst (v := 1) C dX6_operand_117 ic_1 (E_iadd C dX6_operand_118 ?_))))
                refine Ev.seti (show u 1 + 1 = nI (s0.1 + 1) by rw [h0.1, nI_1]) ?_
                refine xp_6_5 C dX6_operand_119 fw_X6_27 (E_aload_n C dX6_operand_122 1 rfl (E_iload_n C dX6_operand_123 2 rfl (E_iconst (v := 1) C dX6_operand_124 ic_1 (E_iadd C dX6_operand_125 ?_))))
                refine Ev.seti (show nI (6 - (d + 1)) + 1 = nI (6 - d) from (nI_1 _).trans (congrArg nI (by omega))) ?_
                refine E_callVV C dX6_operand_126 mv_X6_70 21 _ (ih _ _ _ (h0.advd hl)) rfl rfl rfl (by omega) (Nat.le_of_ble_eq_true rfl) ?_
                rintro _ ⟨u2, v2, rfl, h2⟩
                refine E_aload_n C dX6_operand_129 1 rfl (E_iload_n C dX6_operand_130 0 rfl (E_bipush (v := 33) C dX6_operand_131 bp_33 (E_icmp_ne C 141 dX6_operand_133 (by decide) (fun c133 => ?_) (fun c133 => ?_))))
                ·
                  exact absurd c103 c133
                ·
                  refine E_bipush (v := 33) C dX6_operand_136 bp_33 (E_goto C 143 dX6_operand_138 (by decide) (E_iconst (v := 0) C dX6_operand_143 ic_0 (E_callVV C dX6_operand_144 mv_X6_50 21 _ (s_emit h2 33 0) rfl rfl rfl (by omega) (Nat.le_of_ble_eq_true rfl) ?_)))
                  rintro _ ⟨u3, v3, rfl, h3⟩
                  refine E_goto C 154 dX6_operand_147 (by decide) (E_vretV C hr hlk dX6_operand_154 ?_)
                  rw [opF_U hd hnm n40 hok]
                  have e : unaF t (opF t (numC t) rfs d) s0 = emt (opF t (numC t) rfs d (adv s0)) 33 0 := by unfold unaF; rw [if_pos hx33]
                  rw [e]
                  exact ⟨_, _, rfl, h3⟩
              ·
                have n33 : ¬ ltr t s0 = 33 := fun q => c103 ((lI_eq (c := 33) hxx (by decide)).mpr q)
                refine E_iload_n C dX6_operand_106 0 rfl (E_bipush (v := 45) C dX6_operand_107 bp_45 (E_icmp_ne C 150 dX6_operand_109 (by decide) (fun c109 => ?_) (fun c109 => ?_)))
                ·
                  have n45 : ¬ ltr t s0 = 45 := fun q => c109 ((lI_eq (c := 45) hxx (by decide)).mpr q)
                  have hno : ¬ okU (ltr t s0) = true := fun q => by have q2 := of_decide_eq_true q; omega
                  refine E_aload_n C dX6_operand_150 1 rfl (E_callVV C dX6_operand_151 mv_X6_43 21 _ (s_refuse hT h0) rfl rfl rfl (by omega) (Nat.le_of_ble_eq_true rfl) ?_)
                  rintro _ ⟨u1, v1, rfl, h1⟩
                  refine E_vretV C hr hlk dX6_operand_154 ?_
                  rw [opF_B hd hnm n40 hno]
                  exact ⟨_, _, rfl, h1⟩
                ·
                  have hx45 := (lI_eq (c := 45) hxx (by decide)).mp c109
                  have hok : okU (ltr t s0) = true := decide_eq_true (Or.inr hx45)
                  have hl : ltr t s0 < 256 := by have q2 := of_decide_eq_true hok; omega
                  refine E_aload_n C dX6_operand_112 1 rfl (E_dup C dX6_operand_113 rfl (xg_6_5 C dX6_operand_114 f_X6_27 (E_iconst (v := 1) C dX6_operand_117 ic_1 (E_iadd C dX6_operand_118 ?_))))
                  refine Ev.seti (show u 1 + 1 = nI (s0.1 + 1) by rw [h0.1, nI_1]) ?_
                  refine xp_6_5 C dX6_operand_119 fw_X6_27 (E_aload_n C dX6_operand_122 1 rfl (E_iload_n C dX6_operand_123 2 rfl (E_iconst (v := 1) C dX6_operand_124 ic_1 (E_iadd C dX6_operand_125 ?_))))
                  refine Ev.seti (show nI (6 - (d + 1)) + 1 = nI (6 - d) from (nI_1 _).trans (congrArg nI (by omega))) ?_
                  refine E_callVV C dX6_operand_126 mv_X6_70 21 _ (ih _ _ _ (h0.advd hl)) rfl rfl rfl (by omega) (Nat.le_of_ble_eq_true rfl) ?_
                  rintro _ ⟨u2, v2, rfl, h2⟩
                  refine E_aload_n C dX6_operand_129 1 rfl (E_iload_n C dX6_operand_130 0 rfl (E_bipush (v := 33) C dX6_operand_131 bp_33 (E_icmp_ne C 141 dX6_operand_133 (by decide) (fun c133 => ?_) (fun c133 => ?_))))
                  ·
                    refine E_bipush (v := 126) C dX6_operand_141 bp_126 (E_iconst (v := 0) C dX6_operand_143 ic_0 (E_callVV C dX6_operand_144 mv_X6_50 21 _ (s_emit h2 126 0) rfl rfl rfl (by omega) (Nat.le_of_ble_eq_true rfl) ?_))
                    rintro _ ⟨u3, v3, rfl, h3⟩
                    refine E_goto C 154 dX6_operand_147 (by decide) (E_vretV C hr hlk dX6_operand_154 ?_)
                    rw [opF_U hd hnm n40 hok]
                    have e : unaF t (opF t (numC t) rfs d) s0 = emt (opF t (numC t) rfs d (adv s0)) 126 0 := by unfold unaF; rw [if_neg n33]
                    rw [e]
                    exact ⟨_, _, rfl, h3⟩
                  ·
                    exact absurd (c109.symm.trans c133) (by decide)
          ·
            have h40 : ltr t s0 = 40 := (lI_eq (c := 40) hxx (by decide)).mp c58
            have hl : ltr t s0 < 256 := by omega
            refine E_aload_n C dX6_operand_61 1 rfl (E_dup C dX6_operand_62 rfl (xg_6_5 C dX6_operand_63 f_X6_27 (E_iconst (v := 1) C dX6_operand_66 ic_1 (E_iadd C dX6_operand_67 ?_))))
            refine Ev.seti (show u 1 + 1 = nI (s0.1 + 1) by rw [h0.1, nI_1]) ?_
            refine xp_6_5 C dX6_operand_68 fw_X6_27 (E_aload_n C dX6_operand_71 1 rfl (E_iload_n C dX6_operand_72 2 rfl (E_iconst (v := 1) C dX6_operand_73 ic_1 (E_iadd C dX6_operand_74 ?_))))
            refine Ev.seti (show nI (6 - (d + 1)) + 1 = nI (6 - d) from (nI_1 _).trans (congrArg nI (by omega))) ?_
            refine E_callVV C dX6_operand_75 mv_X6_46 21 _ (s_eitOf hT (by omega) ih _ _ _ (h0.advd hl)) rfl rfl rfl (by omega) (Nat.le_of_ble_eq_true rfl) ?_
            rintro _ ⟨u1, v1, rfl, h1⟩
            refine E_aload_n C dX6_operand_78 1 rfl (E_bipush (v := 41) C dX6_operand_79 bp_41 (E_callVI C dX6_operand_81 mv_X6_39 21 _ (s_accepts hT h1 (cN := 41) (by decide)) rfl rfl rfl (by omega) (Nat.le_of_ble_eq_true rfl) ?_))
            rintro _ _ (⟨hq, rfl, u2, rfl, h2⟩ | ⟨hq, rfl, rfl⟩)
            ·
              refine E_if_ne C 154 dX6_operand_84 (by decide) (fun c84 => ?_) (fun c84 => ?_)
              ·
                refine E_vretV C hr hlk dX6_operand_154 ?_
                rw [opF_P hd hnm h40]
                have e : parF t (eitF t (opF t (numC t) rfs d)) s0 = _ := if_pos hq
                rw [e]
                exact ⟨_, _, rfl, h2⟩
              ·
                exact absurd c84 (by decide)
            ·
              refine E_if_ne C 154 dX6_operand_84 (by decide) (fun c84 => ?_) (fun c84 => ?_)
              ·
                exact absurd rfl c84
              ·
                refine E_aload_n C dX6_operand_87 1 rfl (E_callVV C dX6_operand_88 mv_X6_43 21 _ (s_refuse hT h1) rfl rfl rfl (by omega) (Nat.le_of_ble_eq_true rfl) ?_)
                rintro _ ⟨u3, v3, rfl, h3⟩
                refine E_goto C 154 dX6_operand_91 (by decide) (E_vretV C hr hlk dX6_operand_154 ?_)
                rw [opF_P hd hnm h40]
                have e : parF t (eitF t (opF t (numC t) rfs d)) s0 = _ := if_neg hq
                rw [e]
                exact ⟨_, _, rfl, h3⟩
      ·
        have hnm : nmF (ltr t s0) < 5 := Classical.byContradiction fun q => c23 (by rw [if_neg q]; decide)
        have hl := nm_256 hnm
        refine E_aload_n C dX6_operand_26 1 rfl (E_dup C dX6_operand_27 rfl (xg_6_5 C dX6_operand_28 f_X6_27 (E_iconst (v := 1) C dX6_operand_31 ic_1 (E_iadd C dX6_operand_32 ?_))))
        refine Ev.seti (show u 1 + 1 = nI (s0.1 + 1) by rw [h0.1, nI_1]) ?_
        refine xp_6_5 C dX6_operand_33 fw_X6_27 (E_aload_n C dX6_operand_36 1 rfl (E_bipush (v := 110) C dX6_operand_37 bp_110 (E_iload_n C dX6_operand_39 0 rfl (E_callSI C dX6_operand_40 ms_X6_79 _ (s_nameOf _) rfl rfl (by omega) (Nat.le_of_ble_eq_true rfl) ?_))))
        rintro _ _ ⟨rfl, rfl⟩
        refine Ev.seti ((nameI_lI hxx).trans (if_pos hnm)) ?_
        refine E_callVV C dX6_operand_43 mv_X6_50 21 _ (s_emit (h0.advd hl) 110 (nmF (ltr t s0))) rfl rfl rfl (by omega) (Nat.le_of_ble_eq_true rfl) ?_
        rintro _ ⟨u1, v1, rfl, h1⟩
        refine E_goto C 154 dX6_operand_46 (by decide) (E_vretV C hr hlk dX6_operand_154 ?_)
        rw [opF_N hd hnm]
        exact ⟨_, _, rfl, h1⟩
    ·
      have hd : isD (ltr t s0) = true := Classical.byContradiction fun q => c9 (if_neg q)
      refine E_aload_n C dX6_operand_12 1 rfl (E_callVV C dX6_operand_13 mv_X6_76 21 _ (s_number hT h0) rfl rfl rfl (by omega) (Nat.le_of_ble_eq_true rfl) ?_)
      rintro _ ⟨u1, v1, rfl, h1⟩
      refine E_goto C 154 dX6_operand_16 (by decide) (E_vretV C hr hlk dX6_operand_154 ?_)
      rw [opF_D hd]
      exact ⟨_, _, rfl, h1⟩
theorem s_exC {l : Launch} {D : va_G} {tc tt ad : Nat → Nat} {W : Nat → Nat → Int32} {g : Nat → Int32} {h : Nat → Nat → Int32} {Dv : DV} {Sh : SV} {z : Int64} {y : Nat → Int64} {t : List Nat} (hT : XT t g h) {u0 : Nat → Int32} {v0 : Nat → Nat → Int32} {s0 : PS} {u : Nat → Int32} {v : Nat → Nat → Int32} (h0 : RR t u0 v0 s0 u v) : Ct l yX6_either cX6_either 3 none 44 D tc tt [.ref (ad 21), .int 0] (hx ad tc W g h Dv Sh u v z y) (PV fun w => ∃ u' v', w = hx ad tc W g h Dv Sh u' v' z y ∧ RR t u0 v0 (exC t s0) u' v') := s_eitOf hT (dd := 39) (by decide) (s_operand hT 6 (Nat.le_refl 6)) _ _ _ h0
set_option maxRecDepth 100000 in
set_option maxHeartbeats 4000000 in
theorem s_line {l : Launch} {D : va_G} {tc tt ad : Nat → Nat} {W : Nat → Nat → Int32} {g : Nat → Int32} {h : Nat → Nat → Int32} {Dv : DV} {Sh : SV} {z : Int64} {y : Nat → Int64} {t : List Nat} (hT : XT t g h) {u0 : Nat → Int32} {v0 : Nat → Nat → Int32} {s0 : PS} {u : Nat → Int32} {v : Nat → Nat → Int32} (h0 : RR t u0 v0 s0 u v) : Ct l yX6_line cX6_line 1 none 45 D tc tt [.ref (ad 21)] (hx ad tc W g h Dv Sh u v z y) (PV fun w => ∃ u' v', w = hx ad tc W g h Dv Sh u' v' z y ∧ RR t u0 v0 (linC t s0) u' v') := by
  refine Ct.of (by decide +kernel) (Nat.le_of_ble_eq_true rfl) ?_
  intro p e R s m args below meth c A C hr hlk
  refine E_aload_n C dX6_line_0 0 rfl (E_iconst (v := 0) C dX6_line_1 ic_0 (E_callVV C dX6_line_2 mv_X6_46 21 _ (s_exC hT h0) rfl rfl rfl (by decide) (Nat.le_of_ble_eq_true rfl) ?_))
  rintro _ ⟨u1, v1, rfl, h1⟩
  refine E_aload_n C dX6_line_5 0 rfl (E_bipush (v := 63) C dX6_line_6 bp_63 (E_callVI C dX6_line_8 mv_X6_39 21 _ (s_accepts hT h1 (cN := 63) (by decide)) rfl rfl rfl (by decide) (Nat.le_of_ble_eq_true rfl) ?_))
  rintro _ _ (⟨hq, rfl, u2, rfl, h2⟩ | ⟨hq, rfl, rfl⟩)
  ·
    refine E_if_eq C 26 dX6_line_11 (by decide) (fun c11 => ?_) (fun c11 => ?_)
    ·
      exact absurd c11 (by decide)
    ·
      refine E_aload_n C dX6_line_14 0 rfl (E_bipush (v := 63) C dX6_line_15 bp_63 (E_iconst (v := 0) C dX6_line_17 ic_0 (E_callVV C dX6_line_18 mv_X6_50 21 _ (s_emit h2 63 0) rfl rfl rfl (by decide) (Nat.le_of_ble_eq_true rfl) ?_)))
      rintro _ ⟨u3, v3, rfl, h3⟩
      refine E_aload_n C dX6_line_21 0 rfl (E_iconst (v := 0) C dX6_line_22 ic_0 (E_callVV C dX6_line_23 mv_X6_46 21 _ (s_exC hT h3) rfl rfl rfl (by decide) (Nat.le_of_ble_eq_true rfl) ?_))
      rintro _ ⟨u4, v4, rfl, h4⟩
      refine E_aload_n C dX6_line_26 0 rfl (E_bipush (v := 59) C dX6_line_27 bp_59 (E_iconst (v := 0) C dX6_line_29 ic_0 (E_callVV C dX6_line_30 mv_X6_50 21 _ (s_emit h4 59 0) rfl rfl rfl (by decide) (Nat.le_of_ble_eq_true rfl) ?_)))
      rintro _ ⟨u5, v5, rfl, h5⟩
      refine E_vretV C hr hlk dX6_line_33 ?_
      have e : linC t s0 = _ := if_pos hq
      rw [e]
      exact ⟨_, _, rfl, h5⟩
  ·
    refine E_if_eq C 26 dX6_line_11 (by decide) (fun c11 => ?_) (fun c11 => ?_)
    ·
      refine E_aload_n C dX6_line_26 0 rfl (E_bipush (v := 59) C dX6_line_27 bp_59 (E_iconst (v := 0) C dX6_line_29 ic_0 (E_callVV C dX6_line_30 mv_X6_50 21 _ (s_emit h1 59 0) rfl rfl rfl (by decide) (Nat.le_of_ble_eq_true rfl) ?_)))
      rintro _ ⟨u5, v5, rfl, h5⟩
      refine E_vretV C hr hlk dX6_line_33 ?_
      have e : linC t s0 = _ := if_neg hq
      rw [e]
      exact ⟨_, _, rfl, h5⟩
    ·
      exact absurd rfl c11
set_option maxRecDepth 100000 in
set_option maxHeartbeats 4000000 in
theorem s_read {l : Launch} {D : va_G} {tc tt ad : Nat → Nat} {W : Nat → Nat → Int32} {g : Nat → Int32} {h : Nat → Nat → Int32} {Dv : DV} {Sh : SV} {z : Int64} {y : Nat → Int64} {t : List Nat} (hT : XT t g h)  {u0 : Nat → Int32} {v0 : Nat → Nat → Int32} : Ct l yX6_read cX6_read 2 (some .int) 46 D tc tt [.ref (ad 21)] (hx ad tc W g h Dv Sh u0 v0 z y) (PI fun r w => r = fI (endC t).2.1 ∧ ∃ u' v', w = hx ad tc W (va_up g 5 0) h Dv Sh u' v' z y ∧ RR t u0 v0 (endC t) u' v') := by
  refine Ct.of (by decide +kernel) (Nat.le_of_ble_eq_true rfl) ?_
  intro p e R s m args below meth c A C hr hlk
  have htl := hT.2.1
  have hb0 : RR t u0 v0 (0, none, []) (va_up (va_up (va_up u0 1 0) 2 (-1)) 0 0) v0 := ⟨rfl, Nat.zero_le _, rfl, fun f q => (by cases q), ⟨rfl, fun j a b hj q => by cases q⟩, rfl, rfl, fun k _ _ => rfl⟩
  have K : ∀ (n i : Nat) (s1 : PS) (u1 : Nat → Int32) (v1 : Nat → Nat → Int32), i ≤ 120 → 120 < i + n → RR t u0 v0 s1 u1 v1 → txtC t = linL t (120 - i) s1 → Ev p l e R s m args below meth c 0 0 (EQ below (PI fun r w => r = fI (endC t).2.1 ∧ ∃ u' v', w = hx ad tc W (va_up g 5 0) h Dv Sh u' v' z y ∧ RR t u0 v0 (endC t) u' v') args s D A) D A 2 (hx ad tc W g h Dv Sh u1 v1 z y) 21 [(1, .int (nI i)), (0, .ref (ad 21))] [] := by
    intro n
    induction n with
    | zero =>
      intro i s1 u1 v1 hi1 hi2 h1 hres
      exfalso; omega
    | succ n ih =>
      intro i s1 u1 v1 hi1 hi2 h1 hres
      refine E_iload_n C dX6_read_21 0 rfl (E_bipush (v := 120) C dX6_read_22 bp_120 (E_icmp_ge C 46 dX6_read_24 (by decide) (fun c24 => ?_) (fun c24 => ?_)))
      ·
        have hi : i = 120 := by
          rcases Nat.lt_or_ge i 120 with q | q
          · exact absurd (show nI 120 ≤ nI i from c24) (nI_ge q (by decide))
          · omega
        rw [hi] at hres
        have he : txtC t = s1 := hres
        refine E_aload_n C dX6_read_46 1 rfl (xg_6_5 C dX6_read_47 f_X6_27 ?_)
        refine Ev.seti h1.1 ?_
        refine E_aload_n C dX6_read_50 1 rfl (xg_6_3 C dX6_read_51 f_X6_23 ?_)
        refine Ev.seti hT.1 ?_
        refine E_icmp_ge C 61 dX6_read_54 (by decide) (fun c54 => ?_) (fun c54 => ?_)
        ·
          have hge : ¬ s1.1 < t.length := fun q => nI_ge q (by omega) c54
          have hend : endC t = s1 := by unfold endC; rw [he, if_neg hge]
          have h9 : RR t u0 v0 (endC t) u1 v1 := by rw [hend]; exact h1
          refine E_aload_n C dX6_read_61 1 rfl (E_iconst (v := 0) C dX6_read_62 ic_0 (xp_6_3 C dX6_read_63 fw_X6_23 (E_aload_n C dX6_read_66 1 rfl (xg_6_6 C dX6_read_67 f_X6_30 ?_))))
          refine Ev.seti h9.2.2.1 ?_
          refine E_iretI C hr hlk dX6_read_70 ?_
          exact ⟨rfl, _, _, rfl, h9⟩
        ·
          have hlt : s1.1 < t.length := Classical.byContradiction fun q => c54 (nI_le (by omega) (by have := h1.2.1; omega))
          refine E_aload_n C dX6_read_57 1 rfl (E_callVV C dX6_read_58 mv_X6_43 21 _ (s_refuse hT h1) rfl rfl rfl (by decide) (Nat.le_of_ble_eq_true rfl) ?_)
          rintro _ ⟨u4, v4, rfl, h4⟩
          have hend : endC t = rfs s1 := by unfold endC; rw [he, if_pos hlt]
          have h9 : RR t u0 v0 (endC t) u4 v4 := by rw [hend]; exact h4
          refine E_aload_n C dX6_read_61 1 rfl (E_iconst (v := 0) C dX6_read_62 ic_0 (xp_6_3 C dX6_read_63 fw_X6_23 (E_aload_n C dX6_read_66 1 rfl (xg_6_6 C dX6_read_67 f_X6_30 ?_))))
          refine Ev.seti h9.2.2.1 ?_
          refine E_iretI C hr hlk dX6_read_70 ?_
          exact ⟨rfl, _, _, rfl, h9⟩
      ·
        have hi : i < 120 := by
          rcases Nat.lt_or_ge i 120 with q | q
          · exact q
          · exact absurd (show nI 120 ≤ nI i from nI_le q (by omega)) c24
        rw [show 120 - i = (120 - (i + 1)) + 1 by omega] at hres
        refine E_aload_n C dX6_read_27 1 rfl (E_bipush (v := 59) C dX6_read_28 bp_59 (E_callVI C dX6_read_30 mv_X6_39 21 _ (s_accepts hT h1 (cN := 59) (by decide)) rfl rfl rfl (by decide) (Nat.le_of_ble_eq_true rfl) ?_))
        rintro _ _ (⟨hq, rfl, u2, rfl, h2⟩ | ⟨hq, rfl, rfl⟩)
        ·
          refine E_if_eq C 46 dX6_read_33 (by decide) (fun c33 => ?_) (fun c33 => ?_)
          ·
            exact absurd c33 (by decide)
          ·
            rw [linL_t hq] at hres
            refine E_aload_n C dX6_read_36 1 rfl (E_callVV C dX6_read_37 mv_X6_36 21 _ (s_line hT h2) rfl rfl rfl (by decide) (Nat.le_of_ble_eq_true rfl) ?_)
            rintro _ ⟨u3, v3, rfl, h3⟩
            refine E_iinc C dX6_read_40 0 rfl (nI_1 i) (by decide) (E_goto C 21 dX6_read_43 (by decide) ?_)
            exact Ev.sub [0, 1] rfl (ih (i + 1) _ _ _ (by omega) (by omega) h3 hres)
        ·
          refine E_if_eq C 46 dX6_read_33 (by decide) (fun c33 => ?_) (fun c33 => ?_)
          ·
            rw [linL_f hq] at hres
            have he : txtC t = s1 := hres
            refine E_aload_n C dX6_read_46 1 rfl (xg_6_5 C dX6_read_47 f_X6_27 ?_)
            refine Ev.seti h1.1 ?_
            refine E_aload_n C dX6_read_50 1 rfl (xg_6_3 C dX6_read_51 f_X6_23 ?_)
            refine Ev.seti hT.1 ?_
            refine E_icmp_ge C 61 dX6_read_54 (by decide) (fun c54 => ?_) (fun c54 => ?_)
            ·
              have hge : ¬ s1.1 < t.length := fun q => nI_ge q (by omega) c54
              have hend : endC t = s1 := by unfold endC; rw [he, if_neg hge]
              have h9 : RR t u0 v0 (endC t) u1 v1 := by rw [hend]; exact h1
              refine E_aload_n C dX6_read_61 1 rfl (E_iconst (v := 0) C dX6_read_62 ic_0 (xp_6_3 C dX6_read_63 fw_X6_23 (E_aload_n C dX6_read_66 1 rfl (xg_6_6 C dX6_read_67 f_X6_30 ?_))))
              refine Ev.seti h9.2.2.1 ?_
              refine E_iretI C hr hlk dX6_read_70 ?_
              exact ⟨rfl, _, _, rfl, h9⟩
            ·
              have hlt : s1.1 < t.length := Classical.byContradiction fun q => c54 (nI_le (by omega) (by have := h1.2.1; omega))
              refine E_aload_n C dX6_read_57 1 rfl (E_callVV C dX6_read_58 mv_X6_43 21 _ (s_refuse hT h1) rfl rfl rfl (by decide) (Nat.le_of_ble_eq_true rfl) ?_)
              rintro _ ⟨u4, v4, rfl, h4⟩
              have hend : endC t = rfs s1 := by unfold endC; rw [he, if_pos hlt]
              have h9 : RR t u0 v0 (endC t) u4 v4 := by rw [hend]; exact h4
              refine E_aload_n C dX6_read_61 1 rfl (E_iconst (v := 0) C dX6_read_62 ic_0 (xp_6_3 C dX6_read_63 fw_X6_23 (E_aload_n C dX6_read_66 1 rfl (xg_6_6 C dX6_read_67 f_X6_30 ?_))))
              refine Ev.seti h9.2.2.1 ?_
              refine E_iretI C hr hlk dX6_read_70 ?_
              exact ⟨rfl, _, _, rfl, h9⟩
          ·
            exact absurd rfl c33
  refine E_aload_n C dX6_read_0 0 rfl (E_iconst (v := 0) C dX6_read_1 ic_0 (xp_6_5 C dX6_read_2 fw_X6_27 (E_aload_n C dX6_read_5 0 rfl (E_iconst (v := -1) C dX6_read_6 ic_m1 (xp_6_6 C dX6_read_7 fw_X6_30 ?_)))))
  refine E_aload_n C dX6_read_10 0 rfl (E_iconst (v := 0) C dX6_read_11 ic_0 (xp_6_4 C dX6_read_12 fw_X6_33 (E_aload_n C dX6_read_15 0 rfl (E_callVV C dX6_read_16 mv_X6_36 21 _ (s_line hT hb0) rfl rfl rfl (by decide) (Nat.le_of_ble_eq_true rfl) ?_))))
  rintro _ ⟨u1, v1, rfl, h1⟩
  refine E_iconst (v := 0) C dX6_read_19 ic_0 (E_istore_n C dX6_read_20 (by decide) ?_)
  exact K 121 0 _ _ _ (by omega) (by omega) h1 rfl
