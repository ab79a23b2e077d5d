/-! the class's Table: sums and weights -/
set_option maxRecDepth 100000 in
set_option maxHeartbeats 4000000 in
theorem s_part {l : Launch} {D : va_G} {tc tt ad : Nat → Nat} {W : Nat → Nat → Int32} {g : Nat → Int32} {h : Nat → Nat → Int32} {Dv : Nat → (Nat → Int32) × (Nat → Nat → Int32)} {Sh : Nat → (Nat → Int32) × (Nat → Int64)} {u : Nat → Int32} {v : Nat → Nat → Int32} {z : Int64} {y : Nat → Int64} (t : Nat) (ht : t < 8) (a b : Int64) : Ct l yX8_part cX8_part 8 none 1 D tc tt [.ref (ad 25), .int (nI t), .long a, .long b] (hx ad tc W g h Dv Sh u v z y) (PV fun w => ∃ y', w = hx ad tc W g h Dv Sh u v z y' ∧ ∀ q, q < 2 ^ t → y' q = y q * b ∧ y' (2 ^ t + q) = y q * a) := by
  refine Ct.of (by decide +kernel) (Nat.le_of_ble_eq_true rfl) ?_
  intro p e R s m args below meth c A C hr hlk
  have h256 : 2 ^ t ≤ 128 := Nat.pow_le_pow_right (by decide) (by omega : t ≤ 7)
  have K : ∀ (n i : Nat) (y1 : (Nat → Int64)), i ≤ 2 ^ t → 2 ^ t < i + n → (∀ q, q < i → y1 q = y q * b ∧ y1 (2 ^ t + q) = y q * a) → (∀ q, i ≤ q → q < 2 ^ t → y1 q = y q) → Ev p l e R s m args below meth c 0 0 (EQ below (PV fun w => ∃ y', w = hx ad tc W g h Dv Sh u v z y' ∧ ∀ q, q < 2 ^ t → y' q = y q * b ∧ y' (2 ^ t + q) = y q * a) args s D A) D A 8 (hx ad tc W g h Dv Sh u v z y1) 8 [(7, .int (nI i)), (6, .int (nI (2 ^ t))), (0, .ref (ad 25)), (1, .int (nI t)), (2, .long a), (4, .long b)] [] := by
    intro n
    induction n with
    | zero =>
      intro i y1 h1 h2 hy hy2
      exfalso; omega
    | succ n ih =>
      intro i y1 h1 h2 hy hy2
      refine E_iload C dX8_part_8 0 rfl (E_iload C dX8_part_10 1 rfl (E_icmp_ge C 63 dX8_part_12 (by decide) (fun c12 => ?_) (fun c12 => ?_)))
      ·
        obtain rfl : i = 2 ^ t := by
          rcases Nat.lt_or_ge i (2 ^ t) with q | q
          · exact absurd (show nI (2 ^ t) ≤ nI i from c12) (nI_ge q (by omega))
          · omega
        refine E_vretV C hr hlk dX8_part_63 ?_
        exact ⟨y1, rfl, hy⟩
      ·
        have hi : i < 2 ^ t := by
          rcases Nat.lt_or_ge i (2 ^ t) with q | q
          · exact q
          · exact absurd (show nI (2 ^ t) ≤ nI i from nI_le q (by omega)) c12
        refine E_iload C dX8_part_15 1 rfl (E_iload C dX8_part_17 0 rfl (E_iadd C dX8_part_19 ?_))
        refine Ev.seti (nI_add _ _) ?_
        refine E_sipush (v := 256) C dX8_part_20 sp_256 (E_icmp_ge C 63 dX8_part_23 (by decide) (fun c23 => ?_) (fun c23 => ?_))
        ·
          exact absurd (show nI 256 ≤ nI (2 ^ t + i) from c23) (nI_ge (by omega) (by decide))
        ·
          refine E_aload_n C dX8_part_26 2 rfl (xg_8_5 C dX8_part_27 f_X8_21 (E_iload C dX8_part_30 1 rfl (E_iload C dX8_part_32 0 rfl (E_iadd C dX8_part_34 ?_))))
          refine Ev.seti (nI_add _ _) ?_
          refine E_aload_n C dX8_part_35 2 rfl (xg_8_5 C dX8_part_36 f_X8_21 (E_iload C dX8_part_39 0 rfl (xa_29 C dX8_part_41 (vinN (by omega)) ?_)))
          rw [nI_clamp (show i < 2 ^ 31 by omega)]
          refine E_lload_n C dX8_part_42 4 rfl (E_lmul C dX8_part_43 (xs_29 C dX8_part_44 (vinN (by omega)) ?_))
          rw [nI_clamp (show 2 ^ t + i < 2 ^ 31 by omega)]
          refine E_aload_n C dX8_part_45 2 rfl (xg_8_5 C dX8_part_46 f_X8_21 (E_iload C dX8_part_49 0 rfl (E_dup2 C dX8_part_51 rfl rfl (xa_29 C dX8_part_52 (vinN (by omega)) ?_))))
          rw [nI_clamp (show i < 2 ^ 31 by omega)]
          refine E_lload C dX8_part_53 5 rfl (E_lmul C dX8_part_55 (xs_29 C dX8_part_56 (vinN (by omega)) ?_))
          rw [nI_clamp (show i < 2 ^ 31 by omega)]
          refine E_iinc C dX8_part_57 0 rfl (nI_1 i) (by decide) (E_goto C 8 dX8_part_60 (by decide) ?_)
          refine Ev.sub [0, 1, 2, 3, 4, 5] rfl (ih (i + 1) _ (by omega) (by omega) ?_ ?_)
          · intro q hq
            have e1 : ¬ 2 ^ t + i = i := by omega
            by_cases e : q = i
            · subst e
              have k : y1 q = y q := hy2 q (by omega) (by omega)
              refine ⟨?_, ?_⟩
              · refine (if_pos rfl).trans ?_
                rw [show vp_updL y1 (2 ^ t + q) (y1 q * a) q = y1 q from if_neg (by omega), k]
              · refine (if_neg (by omega)).trans ((if_pos rfl).trans ?_)
                rw [k]
            · have k := hy q (by omega)
              refine ⟨(if_neg e).trans ((if_neg (by omega)).trans k.1), (if_neg (by omega)).trans ((if_neg (by omega)).trans k.2)⟩
          · intro q h3 h4
            exact (if_neg (by omega)).trans ((if_neg (by omega)).trans (hy2 q (by omega) h4))
  refine E_iconst (v := 1) C dX8_part_0 ic_1 (E_iload_n C dX8_part_1 1 rfl (E_ishl C dX8_part_2 ?_))
  refine Ev.seti (nx_one t (by omega)) ?_
  refine E_istore C dX8_part_3 (by decide) (E_iconst (v := 0) C dX8_part_5 ic_0 (E_istore C dX8_part_6 (by decide) ?_))
  exact K (2 ^ t + 1) 0 y (Nat.zero_le _) (by have := Nat.two_pow_pos t; omega) (fun q hq => absurd hq (Nat.not_lt_zero _)) (fun _ _ _ => rfl)
set_option maxRecDepth 100000 in
set_option maxHeartbeats 4000000 in
theorem s_costs {l : Launch} {D : va_G} {tc tt ad : Nat → Nat} {W : Nat → Nat → Int32} {g : Nat → Int32} {h : Nat → Nat → Int32} {Dv : Nat → (Nat → Int32) × (Nat → Nat → Int32)} {Sh : Nat → (Nat → Int32) × (Nat → Int64)} {u : Nat → Int32} {v : Nat → Nat → Int32} {z : Int64} {y : Nat → Int64} {n : Nat} (hn : g 0 = nI n) (hn8 : n ≤ 8) {wg co : Nat → Nat} (hw : ∀ q, q < 2 ^ n → y q = lN (wg q)) (hco : ∀ q, q < 2 ^ n → v 4 q = nI (co q) ∧ co q < 2 ^ 31) : Ct l yX8_costs cX8_costs 4 (some .long) 2 D tc tt [.ref (ad 25)] (hx ad tc W g h Dv Sh u v z y) (PL fun r w => r = lN (ssum (fun q => wg q * co q) (2 ^ n)) ∧ w = hx ad tc W g h Dv Sh u v z y) := by
  refine Ct.of (by decide +kernel) (Nat.le_of_ble_eq_true rfl) ?_
  intro p e R s m args below meth c A C hr hlk
  have h256 : 2 ^ n ≤ 256 := p256 hn8
  have K : ∀ (k i : Nat), i ≤ 2 ^ n → 2 ^ n < i + k → Ev p l e R s m args below meth c 0 0 (EQ below (PL fun r w => r = lN (ssum (fun q => wg q * co q) (2 ^ n)) ∧ w = hx ad tc W g h Dv Sh u v z y) args s D A) D A 4 (hx ad tc W g h Dv Sh u v z y) 4 [(3, .int (nI i)), (1, .long (lN (ssum (fun q => wg q * co q) i))), (0, .ref (ad 25))] [] := by
    intro k
    induction k with
    | zero =>
      intro i h1 h2
      exfalso; omega
    | succ k ih =>
      intro i h1 h2
      refine E_iload_n C dX8_costs_4 0 rfl (E_aload_n C dX8_costs_5 2 rfl (xg_8_0 C dX8_costs_6 f_X8_29 (E_callVI C dX8_costs_9 mv_X8_49 1 _ (s_sets hn hn8) rfl rfl rfl (by decide) (Nat.le_of_ble_eq_true rfl) ?_)))
      rintro _ _ ⟨rfl, rfl⟩
      refine E_icmp_ge C 45 dX8_costs_12 (by decide) (fun c12 => ?_) (fun c12 => ?_)
      ·
        obtain rfl : i = 2 ^ n := by
          rcases Nat.lt_or_ge i (2 ^ n) with q | q
          · exact absurd (show nI (2 ^ n) ≤ nI i from c12) (nI_ge q (by omega))
          · omega
        refine E_lload_n C dX8_costs_45 1 rfl (E_lretL C hr hlk dX8_costs_46 ?_)
        exact ⟨rfl, rfl⟩
      ·
        have hi : i < 2 ^ n := by
          rcases Nat.lt_or_ge i (2 ^ n) with q | q
          · exact q
          · exact absurd (show nI (2 ^ n) ≤ nI i from nI_le q (by omega)) c12
        refine E_iload_n C dX8_costs_15 0 rfl (E_sipush (v := 256) C dX8_costs_16 sp_256 (E_icmp_ge C 45 dX8_costs_19 (by decide) (fun c19 => ?_) (fun c19 => ?_)))
        ·
          exact absurd (show nI 256 ≤ nI i from c19) (nI_ge (by omega) (by decide))
        ·
          refine E_lload_n C dX8_costs_22 1 rfl (E_aload_n C dX8_costs_23 2 rfl (xg_8_5 C dX8_costs_24 f_X8_21 (E_iload_n C dX8_costs_27 0 rfl (xa_29 C dX8_costs_28 (vinN (by omega)) ?_))))
          rw [nI_clamp (show i < 2 ^ 31 by omega)]
          refine Ev.setl (hw i hi) ?_
          refine E_aload_n C dX8_costs_29 2 rfl (xg_8_2 C dX8_costs_30 f_X8_11 (E_iload_n C dX8_costs_33 0 rfl (xa_26 C dX8_costs_34 (vinN (by omega)) ?_)))
          rw [nI_clamp (show i < 2 ^ 31 by omega)]
          refine Ev.seti (hco i hi).1 ?_
          refine E_i2l C dX8_costs_35 ?_
          refine Ev.setl (nI_l (hco i hi).2) ?_
          refine E_lmul C dX8_costs_36 ?_
          refine Ev.setl (lN_mul _ _) ?_
          refine E_ladd C dX8_costs_37 ?_
          refine Ev.setl (lN_add _ _) ?_
          refine E_lstore_n C dX8_costs_38 (by decide) (E_iinc C dX8_costs_39 1 rfl (nI_1 i) (by decide) (E_goto C 4 dX8_costs_42 (by decide) ?_))
          exact ih (i + 1) (by omega) (by omega)
  refine E_lconst (v := 0) C dX8_costs_0 rfl (E_lstore_n C dX8_costs_1 (by decide) (E_iconst (v := 0) C dX8_costs_2 ic_0 (E_istore_n C dX8_costs_3 (by decide) ?_)))
  exact K (2 ^ n + 1) 0 (Nat.zero_le _) (by have := Nat.two_pow_pos n; omega)
set_option maxRecDepth 100000 in
set_option maxHeartbeats 4000000 in
theorem s_without {l : Launch} {D : va_G} {tc tt ad : Nat → Nat} {W : Nat → Nat → Int32} {g : Nat → Int32} {h : Nat → Nat → Int32} {Dv : Nat → (Nat → Int32) × (Nat → Nat → Int32)} {Sh : Nat → (Nat → Int32) × (Nat → Int64)} {u : Nat → Int32} {v : Nat → Nat → Int32} {z : Int64} {y : Nat → Int64} {n : Nat} (hn : g 0 = nI n) (hn8 : n ≤ 8) {wg go : Nat → Nat} (hw : ∀ q, q < 2 ^ n → y q = lN (wg q)) (hgo : ∀ q, q < 2 ^ n → v 6 q = nI (go q) ∧ go q < 2 ^ 31) : Ct l yX8_waysWithoutGoing cX8_waysWithoutGoing 4 (some .long) 2 D tc tt [.ref (ad 25)] (hx ad tc W g h Dv Sh u v z y) (PL fun r w => r = lN (ssum (fun q => if go q = 0 then wg q else 0) (2 ^ n)) ∧ w = hx ad tc W g h Dv Sh u v z y) := by
  refine Ct.of (by decide +kernel) (Nat.le_of_ble_eq_true rfl) ?_
  intro p e R s m args below meth c A C hr hlk
  have h256 : 2 ^ n ≤ 256 := p256 hn8
  have K : ∀ (k i : Nat), i ≤ 2 ^ n → 2 ^ n < i + k → Ev p l e R s m args below meth c 0 0 (EQ below (PL fun r w => r = lN (ssum (fun q => if go q = 0 then wg q else 0) (2 ^ n)) ∧ w = hx ad tc W g h Dv Sh u v z y) args s D A) D A 4 (hx ad tc W g h Dv Sh u v z y) 4 [(3, .int (nI i)), (1, .long (lN (ssum (fun q => if go q = 0 then wg q else 0) i))), (0, .ref (ad 25))] [] := by
    intro k
    induction k with
    | zero =>
      intro i h1 h2
      exfalso; omega
    | succ k ih =>
      intro i h1 h2
      refine E_iload_n C dX8_waysWithoutGoing_4 0 rfl (E_aload_n C dX8_waysWithoutGoing_5 2 rfl (xg_8_0 C dX8_waysWithoutGoing_6 f_X8_29 (E_callVI C dX8_waysWithoutGoing_9 mv_X8_49 1 _ (s_sets hn hn8) rfl rfl rfl (by decide) (Nat.le_of_ble_eq_true rfl) ?_)))
      rintro _ _ ⟨rfl, rfl⟩
      refine E_icmp_ge C 50 dX8_waysWithoutGoing_12 (by decide) (fun c12 => ?_) (fun c12 => ?_)
      ·
        obtain rfl : i = 2 ^ n := by
          rcases Nat.lt_or_ge i (2 ^ n) with q | q
          · exact absurd (show nI (2 ^ n) ≤ nI i from c12) (nI_ge q (by omega))
          · omega
        refine E_lload_n C dX8_waysWithoutGoing_50 1 rfl (E_lretL C hr hlk dX8_waysWithoutGoing_51 ?_)
        exact ⟨rfl, rfl⟩
      ·
        have hi : i < 2 ^ n := by
          rcases Nat.lt_or_ge i (2 ^ n) with q | q
          · exact q
          · exact absurd (show nI (2 ^ n) ≤ nI i from nI_le q (by omega)) c12
        refine E_iload_n C dX8_waysWithoutGoing_15 0 rfl (E_sipush (v := 256) C dX8_waysWithoutGoing_16 sp_256 (E_icmp_ge C 50 dX8_waysWithoutGoing_19 (by decide) (fun c19 => ?_) (fun c19 => ?_)))
        ·
          exact absurd (show nI 256 ≤ nI i from c19) (nI_ge (by omega) (by decide))
        ·
          refine E_lload_n C dX8_waysWithoutGoing_22 1 rfl (E_aload_n C dX8_waysWithoutGoing_23 2 rfl (xg_8_4 C dX8_waysWithoutGoing_24 f_X8_18 (E_iload_n C dX8_waysWithoutGoing_27 0 rfl (xa_28 C dX8_waysWithoutGoing_28 (vinN (by omega)) ?_))))
          rw [nI_clamp (show i < 2 ^ 31 by omega)]
          refine Ev.seti (hgo i hi).1 ?_
          refine E_if_ne C 41 dX8_waysWithoutGoing_29 (by decide) (fun c29 => ?_) (fun c29 => ?_)
          ·
            have hz : ¬ go i = 0 := fun q => c29 (by rw [q]; rfl)
            have hst : ssum (fun q => if go q = 0 then wg q else 0) (i + 1) = ssum (fun q => if go q = 0 then wg q else 0) i + 0 := congrArg (ssum (fun q => if go q = 0 then wg q else 0) i + ·) (if_neg hz)
            refine E_lconst (v := 0) C dX8_waysWithoutGoing_41 rfl (E_ladd C dX8_waysWithoutGoing_42 ?_)
            refine Ev.setl (lN_add (ssum (fun q => if go q = 0 then wg q else 0) i) _) ?_
            rw [← hst]
            refine E_lstore_n C dX8_waysWithoutGoing_43 (by decide) (E_iinc C dX8_waysWithoutGoing_44 1 rfl (nI_1 i) (by decide) (E_goto C 4 dX8_waysWithoutGoing_47 (by decide) ?_))
            exact ih (i + 1) (by omega) (by omega)
          ·
            have hz : go i = 0 := (nI_eq (b := 0) (hgo i hi).2 (by decide)).mp c29
            have hst : ssum (fun q => if go q = 0 then wg q else 0) (i + 1) = ssum (fun q => if go q = 0 then wg q else 0) i + wg i := congrArg (ssum (fun q => if go q = 0 then wg q else 0) i + ·) (if_pos hz)
            refine E_aload_n C dX8_waysWithoutGoing_32 2 rfl (xg_8_5 C dX8_waysWithoutGoing_33 f_X8_21 (E_iload_n C dX8_waysWithoutGoing_36 0 rfl (xa_29 C dX8_waysWithoutGoing_37 (vinN (by omega)) ?_)))
            rw [nI_clamp (show i < 2 ^ 31 by omega)]
            refine Ev.setl (hw i hi) ?_
            refine E_goto C 42 dX8_waysWithoutGoing_38 (by decide) (E_ladd C dX8_waysWithoutGoing_42 ?_)
            refine Ev.setl (lN_add (ssum (fun q => if go q = 0 then wg q else 0) i) _) ?_
            rw [← hst]
            refine E_lstore_n C dX8_waysWithoutGoing_43 (by decide) (E_iinc C dX8_waysWithoutGoing_44 1 rfl (nI_1 i) (by decide) (E_goto C 4 dX8_waysWithoutGoing_47 (by decide) ?_))
            exact ih (i + 1) (by omega) (by omega)
  refine E_lconst (v := 0) C dX8_waysWithoutGoing_0 rfl (E_lstore_n C dX8_waysWithoutGoing_1 (by decide) (E_iconst (v := 0) C dX8_waysWithoutGoing_2 ic_0 (E_istore_n C dX8_waysWithoutGoing_3 (by decide) ?_)))
  exact K (2 ^ n + 1) 0 (Nat.zero_le _) (by have := Nat.two_pow_pos n; omega)
set_option maxRecDepth 100000 in
set_option maxHeartbeats 4000000 in
theorem s_withLeft {l : Launch} {D : va_G} {tc tt ad : Nat → Nat} {W : Nat → Nat → Int32} {g : Nat → Int32} {h : Nat → Nat → Int32} {Dv : Nat → (Nat → Int32) × (Nat → Nat → Int32)} {Sh : Nat → (Nat → Int32) × (Nat → Int64)} {u : Nat → Int32} {v : Nat → Nat → Int32} {z : Int64} {y : Nat → Int64} {n : Nat} (hn : g 0 = nI n) (hn8 : n ≤ 8) {wg le : Nat → Nat} (hw : ∀ q, q < 2 ^ n → y q = lN (wg q)) (hle : ∀ q, q < 2 ^ n → v 5 q = nI (le q) ∧ le q < 256) (t : Nat) : Ct l yX8_waysWithLeft cX8_waysWithLeft 5 (some .long) 2 D tc tt [.ref (ad 25), .int (nI (2 ^ t))] (hx ad tc W g h Dv Sh u v z y) (PL fun r w => r = lN (ssum (fun q => if (le q).testBit t then wg q else 0) (2 ^ n)) ∧ w = hx ad tc W g h Dv Sh u v z y) := by
  refine Ct.of (by decide +kernel) (Nat.le_of_ble_eq_true rfl) ?_
  intro p e R s m args below meth c A C hr hlk
  have h256 : 2 ^ n ≤ 256 := p256 hn8
  have K : ∀ (k i : Nat), i ≤ 2 ^ n → 2 ^ n < i + k → Ev p l e R s m args below meth c 0 0 (EQ below (PL fun r w => r = lN (ssum (fun q => if (le q).testBit t then wg q else 0) (2 ^ n)) ∧ w = hx ad tc W g h Dv Sh u v z y) args s D A) D A 5 (hx ad tc W g h Dv Sh u v z y) 5 [(4, .int (nI i)), (2, .long (lN (ssum (fun q => if (le q).testBit t then wg q else 0) i))), (0, .ref (ad 25)), (1, .int (nI (2 ^ t)))] [] := by
    intro k
    induction k with
    | zero =>
      intro i h1 h2
      exfalso; omega
    | succ k ih =>
      intro i h1 h2
      refine E_iload C dX8_waysWithLeft_5 0 rfl (E_aload_n C dX8_waysWithLeft_7 2 rfl (xg_8_0 C dX8_waysWithLeft_8 f_X8_29 (E_callVI C dX8_waysWithLeft_11 mv_X8_49 1 _ (s_sets hn hn8) rfl rfl rfl (by decide) (Nat.le_of_ble_eq_true rfl) ?_)))
      rintro _ _ ⟨rfl, rfl⟩
      refine E_icmp_ge C 57 dX8_waysWithLeft_14 (by decide) (fun c14 => ?_) (fun c14 => ?_)
      ·
        obtain rfl : i = 2 ^ n := by
          rcases Nat.lt_or_ge i (2 ^ n) with q | q
          · exact absurd (show nI (2 ^ n) ≤ nI i from c14) (nI_ge q (by omega))
          · omega
        refine E_lload_n C dX8_waysWithLeft_57 1 rfl (E_lretL C hr hlk dX8_waysWithLeft_58 ?_)
        exact ⟨rfl, rfl⟩
      ·
        have hi : i < 2 ^ n := by
          rcases Nat.lt_or_ge i (2 ^ n) with q | q
          · exact q
          · exact absurd (show nI (2 ^ n) ≤ nI i from nI_le q (by omega)) c14
        refine E_iload C dX8_waysWithLeft_17 0 rfl (E_sipush (v := 256) C dX8_waysWithLeft_19 sp_256 (E_icmp_ge C 57 dX8_waysWithLeft_22 (by decide) (fun c22 => ?_) (fun c22 => ?_)))
        ·
          exact absurd (show nI 256 ≤ nI i from c22) (nI_ge (by omega) (by decide))
        ·
          refine E_lload_n C dX8_waysWithLeft_25 1 rfl (E_aload_n C dX8_waysWithLeft_26 2 rfl (xg_8_3 C dX8_waysWithLeft_27 f_X8_15 (E_iload C dX8_waysWithLeft_30 0 rfl (xa_27 C dX8_waysWithLeft_32 (vinN (by omega)) ?_))))
          rw [nI_clamp (show i < 2 ^ 31 by omega)]
          refine Ev.seti (hle i hi).1 ?_
          refine E_iload_n C dX8_waysWithLeft_33 3 rfl (E_iand C dX8_waysWithLeft_34 ?_)
          refine Ev.seti (nx_and _ _) ?_
          refine E_if_eq C 48 dX8_waysWithLeft_35 (by decide) (fun c35 => ?_) (fun c35 => ?_)
          ·
            have hz : ¬ (le i).testBit t = true := fun q => by
              have k := (nI_eq (b := 0) (Nat.lt_of_le_of_lt Nat.and_le_left (Nat.lt_trans (hle i hi).2 (by decide))) (by decide)).mp c35
              have k2 := congrArg (fun x => Nat.testBit x t) k
              simp only [Nat.testBit_and, q, Nat.testBit_two_pow_self, Bool.and_self, Nat.zero_testBit] at k2
              cases k2
            have hst : ssum (fun q => if (le q).testBit t then wg q else 0) (i + 1) = ssum (fun q => if (le q).testBit t then wg q else 0) i + 0 := congrArg (ssum (fun q => if (le q).testBit t then wg q else 0) i + ·) (if_neg hz)
            refine E_lconst (v := 0) C dX8_waysWithLeft_48 rfl (E_ladd C dX8_waysWithLeft_49 ?_)
            refine Ev.setl (lN_add (ssum (fun q => if (le q).testBit t then wg q else 0) i) _) ?_
            rw [← hst]
            refine E_lstore_n C dX8_waysWithLeft_50 (by decide) (E_iinc C dX8_waysWithLeft_51 1 rfl (nI_1 i) (by decide) (E_goto C 5 dX8_waysWithLeft_54 (by decide) ?_))
            exact ih (i + 1) (by omega) (by omega)
          ·
            have hz : (le i).testBit t = true := Classical.byContradiction fun q => c35 (by
              have k : le i &&& 2 ^ t = 0 := by
                refine Nat.eq_of_testBit_eq fun j => ?_
                rw [Nat.testBit_and, Nat.zero_testBit, Nat.testBit_two_pow]
                by_cases e : t = j
                · subst e
                  rw [Bool.eq_false_iff.mpr q, Bool.false_and]
                · rw [decide_eq_false e, Bool.and_false]
              rw [k]
              rfl)
            have hst : ssum (fun q => if (le q).testBit t then wg q else 0) (i + 1) = ssum (fun q => if (le q).testBit t then wg q else 0) i + wg i := congrArg (ssum (fun q => if (le q).testBit t then wg q else 0) i + ·) (if_pos hz)
            refine E_aload_n C dX8_waysWithLeft_38 2 rfl (xg_8_5 C dX8_waysWithLeft_39 f_X8_21 (E_iload C dX8_waysWithLeft_42 0 rfl (xa_29 C dX8_waysWithLeft_44 (vinN (by omega)) ?_)))
            rw [nI_clamp (show i < 2 ^ 31 by omega)]
            refine Ev.setl (hw i hi) ?_
            refine E_goto C 49 dX8_waysWithLeft_45 (by decide) (E_ladd C dX8_waysWithLeft_49 ?_)
            refine Ev.setl (lN_add (ssum (fun q => if (le q).testBit t then wg q else 0) i) _) ?_
            rw [← hst]
            refine E_lstore_n C dX8_waysWithLeft_50 (by decide) (E_iinc C dX8_waysWithLeft_51 1 rfl (nI_1 i) (by decide) (E_goto C 5 dX8_waysWithLeft_54 (by decide) ?_))
            exact ih (i + 1) (by omega) (by omega)
  refine E_lconst (v := 0) C dX8_waysWithLeft_0 rfl (E_lstore_n C dX8_waysWithLeft_1 (by decide) (E_iconst (v := 0) C dX8_waysWithLeft_2 ic_0 (E_istore C dX8_waysWithLeft_3 (by decide) ?_)))
  exact K (2 ^ n + 1) 0 (Nat.zero_le _) (by have := Nat.two_pow_pos n; omega)
set_option maxRecDepth 100000 in
set_option maxHeartbeats 4000000 in
theorem s_costOf {l : Launch} {D : va_G} {tc tt ad : Nat → Nat} {W : Nat → Nat → Int32} {g : Nat → Int32} {h : Nat → Nat → Int32} {Dv : Nat → (Nat → Int32) × (Nat → Nat → Int32)} {Sh : Nat → (Nat → Int32) × (Nat → Int64)} {u : Nat → Int32} {v : Nat → Nat → Int32} {z : Int64} {y : Nat → Int64} (q : Nat) (hq : q < 256) : Ct l yX8_costOf cX8_costOf 2 (some .int) 1 D tc tt [.ref (ad 25), .int (nI q)] (hx ad tc W g h Dv Sh u v z y) (PI fun r w => r = v 4 q ∧ w = hx ad tc W g h Dv Sh u v z y) := by
  refine Ct.of (by decide +kernel) (Nat.le_of_ble_eq_true rfl) ?_
  intro p e R s m args below meth c A C hr hlk
  refine E_iload_n C dX8_costOf_0 1 rfl (E_if_lt C 20 dX8_costOf_1 (by decide) (fun c1 => ?_) (fun c1 => ?_))
  ·
    exact absurd c1 (nI_pos (by omega))
  ·
    refine E_iload_n C dX8_costOf_4 1 rfl (E_sipush (v := 256) C dX8_costOf_5 sp_256 (E_icmp_ge C 20 dX8_costOf_8 (by decide) (fun c8 => ?_) (fun c8 => ?_)))
    ·
      exact absurd (show nI 256 ≤ nI q from c8) (nI_ge hq (by decide))
    ·
      refine E_aload_n C dX8_costOf_11 0 rfl (xg_8_2 C dX8_costOf_12 f_X8_11 (E_iload_n C dX8_costOf_15 1 rfl (xa_26 C dX8_costOf_16 (vinN hq) ?_)))
      rw [nI_clamp (show q < 2 ^ 31 by omega)]
      refine E_goto C 21 dX8_costOf_17 (by decide) (E_iretI C hr hlk dX8_costOf_21 ?_)
      exact ⟨rfl, rfl⟩
set_option maxRecDepth 100000 in
set_option maxHeartbeats 4000000 in
theorem s_lowest {l : Launch} {D : va_G} {tc tt ad : Nat → Nat} {W : Nat → Nat → Int32} {g : Nat → Int32} {h : Nat → Nat → Int32} {Dv : Nat → (Nat → Int32) × (Nat → Nat → Int32)} {Sh : Nat → (Nat → Int32) × (Nat → Int64)} {u : Nat → Int32} {v : Nat → Nat → Int32} {z : Int64} {y : Nat → Int64} (ab be part : Nat) (hz : z = lN be) (hb0 : 0 < be) (hb : be < 2 ^ 63) (ha : ab < 2 ^ 63) (hp : part < 2) : Ct l yX8_inLowestTerms cX8_inLowestTerms 11 (some .long) 1 D tc tt [.ref (ad 25), .long (lN ab), .int (nI part)] (hx ad tc W g h Dv Sh u v z y) (PL fun r w => r = lN (lowT ab be part) ∧ w = hx ad tc W g h Dv Sh u v z y) := by
  refine Ct.of (by decide +kernel) (Nat.le_of_ble_eq_true rfl) ?_
  intro p e R s m args below meth c A C hr hlk
  have K : ∀ (n i x0 q0 mm : Nat), i ≤ 200 → 200 < i + n → 0 < x0 → x0 < 2 ^ 63 → q0 < 2 ^ 63 → Nat.gcd x0 q0 = Nat.gcd be ab → ((q0 ≤ x0 ∧ x0 * q0 < 2 ^ mm ∧ mm + i ≤ 198) ∨ (i = 0 ∧ x0 * q0 < 2 ^ mm ∧ mm ≤ 197)) → Ev p l e R s m args below meth c 0 0 (EQ below (PL fun r w => r = lN (lowT ab be part) ∧ w = hx ad tc W g h Dv Sh u v z y) args s D A) D A 11 (hx ad tc W g h Dv Sh u v z y) 12 [(8, .int (nI i)), (6, .long (lN q0)), (4, .long (lN x0)), (0, .ref (ad 25)), (1, .long (lN ab)), (3, .int (nI part))] [] := by
    intro n
    induction n with
    | zero =>
      intro i x0 q0 mm h1 h2 hx0 hx63 hq63 hG hm
      rcases hm with q | q <;> omega
    | succ n ih =>
      intro i x0 q0 mm h1 h2 hx0 hx63 hq63 hG hm
      refine E_iload C dX8_inLowestTerms_12 0 rfl (E_sipush (v := 200) C dX8_inLowestTerms_14 sp_200 (E_icmp_ge C 48 dX8_inLowestTerms_17 (by decide) (fun c17 => ?_) (fun c17 => ?_)))
      ·
        exact absurd (show nI 200 ≤ nI i from c17) (nI_ge (by rcases hm with q | q <;> omega) (by decide))
      ·
        refine E_lload C dX8_inLowestTerms_20 1 rfl (E_lconst (v := 0) C dX8_inLowestTerms_22 rfl (E_lcmp C dX8_inLowestTerms_23 (E_if_eq C 48 dX8_inLowestTerms_24 (by decide) (fun c24 => ?_) (fun c24 => ?_))))
        ·
          have hr0 : q0 = 0 := by
            have k := (pk_lEQ (b := 0) hq63 (by decide)).mp (lg_cmp0.mp c24)
            exact k
          subst hr0
          rw [Nat.gcd_zero_right] at hG
          subst hG
          refine E_lload C dX8_inLowestTerms_48 2 rfl (E_lconst (v := 0) C dX8_inLowestTerms_50 rfl (E_lcmp C dX8_inLowestTerms_51 (E_if_ne C 57 dX8_inLowestTerms_52 (by decide) (fun c52 => ?_) (fun c52 => ?_))))
          ·
            refine E_iload_n C dX8_inLowestTerms_57 5 rfl (E_if_ne C 68 dX8_inLowestTerms_58 (by decide) (fun c58 => ?_) (fun c58 => ?_))
            ·
              have hp0 : ¬ part = 0 := fun q => c58 (by rw [q]; rfl)
              have hlow : lowT ab be part = be / Nat.gcd be ab := if_neg hp0
              rw [hlow]
              refine E_aload_n C dX8_inLowestTerms_68 3 rfl (xg_8_6 C dX8_inLowestTerms_69 f_X8_25 ?_)
              refine Ev.setl hz ?_
              refine E_lload C dX8_inLowestTerms_72 2 rfl ?_
              
              refine E_ldiv C dX8_inLowestTerms_74 (fun q => absurd ((pk_lEQ (b := 0) hx63 (by decide)).mp q) (by omega)) (E_lretL C hr hlk dX8_inLowestTerms_75 ?_)
              first
                | exact ⟨pk_lDiv ha (by omega) hx63, rfl⟩
                | exact ⟨pk_lDiv hb (by omega) hx63, rfl⟩
            ·
              have hp0 : part = 0 := (nI_eq (b := 0) (by omega) (by decide)).mp c58
              have hlow : lowT ab be part = ab / Nat.gcd be ab := if_pos hp0
              rw [hlow]
              refine E_lload_n C dX8_inLowestTerms_61 4 rfl (E_lload C dX8_inLowestTerms_62 2 rfl (E_ldiv C dX8_inLowestTerms_64 (fun q => absurd ((pk_lEQ (b := 0) hx63 (by decide)).mp q) (by omega)) (E_goto C 75 dX8_inLowestTerms_65 (by decide) (E_lretL C hr hlk dX8_inLowestTerms_75 ?_))))
              first
                | exact ⟨pk_lDiv ha (by omega) hx63, rfl⟩
                | exact ⟨pk_lDiv hb (by omega) hx63, rfl⟩
          ·
            exact absurd ((pk_lEQ (b := 0) hx63 (by decide)).mp (lg_cmp0.mp c52)) (by omega)
        ·
          have hr0 : 0 < q0 := Nat.pos_of_ne_zero fun q => c24 (lg_cmp0.mpr (by rw [q]; rfl))
          refine E_lload C dX8_inLowestTerms_27 2 rfl (E_lload C dX8_inLowestTerms_29 1 rfl (E_lrem C dX8_inLowestTerms_31 (fun q => absurd ((pk_lEQ (b := 0) hq63 (by decide)).mp q) (by omega)) ?_))
          refine Ev.setl (pk_lRem hx63 hr0 hq63) ?_
          refine E_lstore C dX8_inLowestTerms_32 (by decide) (E_lload C dX8_inLowestTerms_34 2 rfl (E_lstore C dX8_inLowestTerms_36 (by decide) (E_lload C dX8_inLowestTerms_38 1 rfl (E_lstore C dX8_inLowestTerms_40 (by decide) (E_iinc C dX8_inLowestTerms_42 3 rfl (nI_1 i) (by decide) ?_)))))
          refine E_goto C 12 dX8_inLowestTerms_45 (by decide) ?_
          refine Ev.sub [0, 1, 2, 4, 5, 6] rfl (ih (i + 1) q0 (x0 % q0) (mm - (if q0 ≤ x0 then 1 else 0)) (by omega) (by omega) hr0 hq63 (Nat.lt_trans (Nat.mod_lt _ hr0) hq63) ?_ ?_)
          · rw [← hG, Nat.gcd_comm x0 q0, Nat.gcd_rec q0 x0, Nat.gcd_comm]
          · have h1 : x0 % q0 < q0 := Nat.mod_lt _ hr0
            rcases hm with ⟨m1, m2, m3⟩ | ⟨m1, m2, m3⟩
            · rw [if_pos m1]
              have hmm : 0 < mm := by
                rcases Nat.eq_zero_or_pos mm with q | q
                · subst q
                  have := Nat.mul_pos hx0 hr0
                  omega
                · exact q
              refine Or.inl ⟨Nat.le_of_lt h1, euc_half hr0 m1 (by rw [show mm - 1 + 1 = mm by omega]; exact m2), by omega⟩
            · by_cases e : q0 ≤ x0
              · rw [if_pos e]
                have hmm : 0 < mm := by
                  rcases Nat.eq_zero_or_pos mm with q | q
                  · subst q
                    have := Nat.mul_pos hx0 hr0
                    omega
                  · exact q
                exact Or.inl ⟨Nat.le_of_lt h1, euc_half hr0 e (by rw [show mm - 1 + 1 = mm by omega]; exact m2), by omega⟩
              · rw [if_neg e, Nat.mod_eq_of_lt (by omega)]
                exact Or.inl ⟨by omega, by rw [Nat.mul_comm]; exact m2, by omega⟩
  refine E_aload_n C dX8_inLowestTerms_0 0 rfl (xg_8_6 C dX8_inLowestTerms_1 f_X8_25 ?_)
  refine Ev.setl hz ?_
  refine E_lstore C dX8_inLowestTerms_4 (by decide) (E_lload_n C dX8_inLowestTerms_6 2 rfl (E_lstore C dX8_inLowestTerms_7 (by decide) (E_iconst (v := 0) C dX8_inLowestTerms_9 ic_0 (E_istore C dX8_inLowestTerms_10 (by decide) ?_))))
  exact K 201 0 be ab 126 (by omega) (by omega) hb0 hb ha rfl (Or.inr ⟨rfl, Nat.lt_of_lt_of_le (Nat.mul_lt_mul_of_lt_of_le hb (Nat.le_of_lt ha) (by omega)) (by decide), by decide⟩)
