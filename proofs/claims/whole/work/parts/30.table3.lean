/-! the class's Table: the best doorstep, the best list -/
theorem bdF_lt {f : Nat → Nat} {n : Nat} (h : ∀ t, t < n → f t < 2 ^ 63) : ∀ k, k ≤ n → (bdF f k).2 < 2 ^ 63
  | 0, _ => (by decide : 9223372036854775807 < 2 ^ 63)
  | k + 1, hk => by
    have := bdF_lt h k (by omega)
    unfold bdF
    split
    · exact h k (by omega)
    · exact this
theorem blI_lt {F : Nat → Nat} {s n : Nat} (h : ∀ q, q < n → pop q = s → F q < 2 ^ 63) {st : Nat × Nat} (hs : st.2 < 2 ^ 63) : ∀ i, i ≤ n → (blI F s st i).2 < 2 ^ 63
  | 0, _ => hs
  | i + 1, hi => by
    have k := blI_lt h hs (s := s) i (by omega)
    unfold blI
    split
    · rename_i e
      split
      · exact h i (by omega) e
      · exact k
    · exact k
theorem blO_lt {F : Nat → Nat} {n : Nat} (h : ∀ s q, s ≤ 3 → q < 2 ^ n → pop q = s → F q * sclN s < 2 ^ 63) : ∀ s, s ≤ 4 → (blO F n s).2 < 2 ^ 63
  | 0, _ => (by decide : 9223372036854775807 < 2 ^ 63)
  | s + 1, hs => blI_lt (fun q hq hp => h s q (by omega) hq hp) (blO_lt h s (by omega)) _ (Nat.le_refl _)
set_option maxRecDepth 100000 in
set_option maxHeartbeats 4000000 in
theorem s_bestDoorstep {l : Launch} {D : va_G} {tc tt ad : Nat → Nat} {W : Nat → Nat → Int32} {g : Nat → Int32} {h : Nat → Nat → Int32} {Dv : Nat → (Nat → Int32) × (Nat → Nat → Int32)} {Sh : Nat → (Nat → Int32) × (Nat → Int64)} {u : Nat → Int32} {v : Nat → Nat → Int32} {z : Int64} {y : Nat → Int64} {n : Nat} (hn : g 0 = nI n) (hn8 : n ≤ 8) {N : Nat → Nat → Nat} (hN : NW W N) (hB : Bd N) {co : Nat → Nat} (hco : ∀ q, q < 2 ^ n → v 4 q = nI (co q) ∧ co q < 2 ^ 31) (hF : ∀ t, t < n → (fun t => ssum (fun q => wgt N (2 ^ t) 0 n q * co q) (2 ^ n)) t < 2 ^ 63) : Ct l yX8_bestDoorstep cX8_bestDoorstep 7 (some .int) 3 D tc tt [.ref (ad 25)] (hx ad tc W g h Dv Sh u v z y) (PI fun r w => r = nI ((bdF (fun t => ssum (fun q => wgt N (2 ^ t) 0 n q * co q) (2 ^ n)) n).1) ∧ ∃ z' y', w = hx ad tc W g h Dv Sh u v z' y') := by
  refine Ct.of (by decide +kernel) (Nat.le_of_ble_eq_true rfl) ?_
  intro p e R s m args below meth c A C hr hlk
  have K : ∀ (k i : Nat) (z1 : Int64) (y1 : (Nat → Int64)), i ≤ n → n < i + k → Ev p l e R s m args below meth c 0 0 (EQ below (PI fun r w => r = nI ((bdF (fun t => ssum (fun q => wgt N (2 ^ t) 0 n q * co q) (2 ^ n)) n).1) ∧ ∃ z' y', w = hx ad tc W g h Dv Sh u v z' y') args s D A) D A 7 (hx ad tc W g h Dv Sh u v z1 y1) 9 [(4, .int (nI i)), (2, .long (lN (bdF (fun t => ssum (fun q => wgt N (2 ^ t) 0 n q * co q) (2 ^ n)) i).2)), (1, .int (nI (bdF (fun t => ssum (fun q => wgt N (2 ^ t) 0 n q * co q) (2 ^ n)) i).1)), (0, .ref (ad 25))] [] := by
    intro k
    induction k with
    | zero =>
      intro i z1 y1 h1 h2
      exfalso; omega
    | succ k ih =>
      intro i z1 y1 h1 h2
      refine E_iload C dX8_bestDoorstep_9 0 rfl (E_aload_n C dX8_bestDoorstep_11 3 rfl (xg_8_0 C dX8_bestDoorstep_12 f_X8_29 (xg_9_2 C dX8_bestDoorstep_15 f_X8_63 ?_)))
      refine Ev.seti hn ?_
      refine E_icmp_ge C 62 dX8_bestDoorstep_18 (by decide) (fun c18 => ?_) (fun c18 => ?_)
      ·
        obtain rfl : i = n := by
          rcases Nat.lt_or_ge i n with q | q
          · exact absurd (show nI n ≤ nI i from c18) (nI_ge q (by omega))
          · omega
        refine E_iload_n C dX8_bestDoorstep_62 2 rfl (E_iretI C hr hlk dX8_bestDoorstep_63 ?_)
        exact ⟨rfl, z1, y1, rfl⟩
      ·
        have hi : i < n := by
          rcases Nat.lt_or_ge i n with q | q
          · exact q
          · exact absurd (show nI n ≤ nI i from nI_le q (by omega)) c18
        refine E_iload C dX8_bestDoorstep_21 0 rfl (E_bipush (v := 8) C dX8_bestDoorstep_23 bp_8 (E_icmp_ge C 62 dX8_bestDoorstep_25 (by decide) (fun c25 => ?_) (fun c25 => ?_)))
        ·
          exact absurd (show nI 8 ≤ nI i from c25) (nI_ge (by omega) (by decide))
        ·
          refine E_aload_n C dX8_bestDoorstep_28 3 rfl (E_iconst (v := 1) C dX8_bestDoorstep_29 ic_1 (E_iload C dX8_bestDoorstep_30 0 rfl (E_ishl C dX8_bestDoorstep_32 ?_)))
          refine Ev.seti (nx_one i (by omega)) ?_
          refine E_iconst (v := 0) C dX8_bestDoorstep_33 ic_0 (E_callVV C dX8_bestDoorstep_34 mv_X8_88 25 _ (s_weigh hn hn8 hN hB (2 ^ i) 0 (two_lt (by omega)) (by decide)) rfl rfl rfl (by decide) (Nat.le_of_ble_eq_true rfl) ?_)
          rintro _ ⟨y2, rfl, hy2⟩
          refine E_aload_n C dX8_bestDoorstep_37 3 rfl (E_callVL C dX8_bestDoorstep_38 mv_X8_92 25 _ (s_costs hn hn8 hy2 hco) rfl rfl rfl (by decide) (Nat.le_of_ble_eq_true rfl) ?_)
          rintro _ _ ⟨rfl, rfl⟩
          refine E_lstore C dX8_bestDoorstep_41 (by decide) (E_lload C dX8_bestDoorstep_43 0 rfl (E_lload_n C dX8_bestDoorstep_45 2 rfl (E_lcmp C dX8_bestDoorstep_46 ?_)))
          have hfi := hF i hi
          refine E_if_ge C 56 dX8_bestDoorstep_47 (by decide) (fun c47 => ?_) (fun c47 => ?_)
          ·
            have hst : bdF (fun t => ssum (fun q => wgt N (2 ^ t) 0 n q * co q) (2 ^ n)) (i + 1) = bdF (fun t => ssum (fun q => wgt N (2 ^ t) 0 n q * co q) (2 ^ n)) i := if_neg (fun q => absurd ((lg_lt hfi (bdF_lt hF i (by omega))).mp c47) (Nat.not_le.mpr q))
            refine E_iinc C dX8_bestDoorstep_56 1 rfl (nI_1 i) (by decide) (E_goto C 9 dX8_bestDoorstep_59 (by decide) ?_)
            refine Ev.sub [0, 2, 3, 4] rfl ?_
            have hgo := ih (i + 1) (lN (belN 0 n)) y2 (by omega) (by omega)
            rw [hst] at hgo
            exact hgo
          ·
            have hlt : (fun t => ssum (fun q => wgt N (2 ^ t) 0 n q * co q) (2 ^ n)) i < (bdF (fun t => ssum (fun q => wgt N (2 ^ t) 0 n q * co q) (2 ^ n)) i).2 := Nat.not_le.mp fun q => c47 ((lg_lt hfi (bdF_lt hF i (by omega))).mpr q)
            have hst : bdF (fun t => ssum (fun q => wgt N (2 ^ t) 0 n q * co q) (2 ^ n)) (i + 1) = (i, (fun t => ssum (fun q => wgt N (2 ^ t) 0 n q * co q) (2 ^ n)) i) := if_pos hlt
            refine E_lload C dX8_bestDoorstep_50 0 rfl (E_lstore_n C dX8_bestDoorstep_52 (by decide) (E_iload C dX8_bestDoorstep_53 2 rfl (E_istore_n C dX8_bestDoorstep_55 (by decide) (E_iinc C dX8_bestDoorstep_56 3 rfl (nI_1 i) (by decide) (E_goto C 9 dX8_bestDoorstep_59 (by decide) ?_)))))
            refine Ev.sub [0, 2, 1, 4] rfl ?_
            have hgo := ih (i + 1) (lN (belN 0 n)) y2 (by omega) (by omega)
            rw [hst] at hgo
            exact hgo
  refine E_iconst (v := 0) C dX8_bestDoorstep_0 ic_0 (E_istore_n C dX8_bestDoorstep_1 (by decide) (E_ldc2 C k_X8_86 dX8_bestDoorstep_2 ?_))
  refine Ev.setl (show (9223372036854775807 : Int64) = lN 9223372036854775807 from rfl) ?_
  refine E_lstore_n C dX8_bestDoorstep_5 (by decide) (E_iconst (v := 0) C dX8_bestDoorstep_6 ic_0 (E_istore C dX8_bestDoorstep_7 (by decide) ?_))
  exact K (n + 1) 0 z y (Nat.zero_le _) (by omega)
set_option maxRecDepth 100000 in
set_option maxHeartbeats 4000000 in
theorem s_bestList {l : Launch} {D : va_G} {tc tt ad : Nat → Nat} {W : Nat → Nat → Int32} {g : Nat → Int32} {h : Nat → Nat → Int32} {Dv : Nat → (Nat → Int32) × (Nat → Nat → Int32)} {Sh : Nat → (Nat → Int32) × (Nat → Int64)} {u : Nat → Int32} {v : Nat → Nat → Int32} {z : Int64} {y : Nat → Int64} {n : Nat} (hn : g 0 = nI n) (hn8 : n ≤ 8) {N : Nat → Nat → Nat} (hN : NW W N) (hB : Bd N) {co : Nat → Nat} (hco : ∀ q, q < 2 ^ n → v 4 q = nI (co q) ∧ co q < 2 ^ 31) (mo : Nat) (hmo : mo ≤ 3) (hF : ∀ s q, s ≤ 3 → q < 2 ^ n → pop q = s → (fun li => ssum (fun q => wgt N 0 li n q * co q) (2 ^ n)) q * sclN s < 2 ^ 63) : Ct l yX8_bestList cX8_bestList 11 (some .int) 3 D tc tt [.ref (ad 25), .int (nI mo)] (hx ad tc W g h Dv Sh u v z y) (PI fun r w => r = nI ((blO (fun li => ssum (fun q => wgt N 0 li n q * co q) (2 ^ n)) n (mo + 1)).1) ∧ ∃ z' y', w = hx ad tc W g h Dv Sh u v z' y') := by
  refine Ct.of (by decide +kernel) (Nat.le_of_ble_eq_true rfl) ?_
  intro p e R s m args below meth c A C hr hlk
  have h256 : 2 ^ n ≤ 256 := p256 hn8
  have J : ∀ (s0 : Nat), s0 ≤ 3 → (∀ (z1 : Int64) (y1 : (Nat → Int64)), Ev p l e R s m args below meth c 0 0 (EQ below (PI fun r w => r = nI ((blO (fun li => ssum (fun q => wgt N 0 li n q * co q) (2 ^ n)) n (mo + 1)).1) ∧ ∃ z' y', w = hx ad tc W g h Dv Sh u v z' y') args s D A) D A 11 (hx ad tc W g h Dv Sh u v z1 y1) 102 [(8, .int (nI (2 ^ n))), (7, .int (nI s0)), (5, .long (lN (sclN s0))), (3, .long (lN (blI (fun q => (fun li => ssum (fun q => wgt N 0 li n q * co q) (2 ^ n)) q * sclN s0) s0 (blO (fun li => ssum (fun q => wgt N 0 li n q * co q) (2 ^ n)) n s0  ) (2 ^ n)).2)), (2, .int (nI (blI (fun q => (fun li => ssum (fun q => wgt N 0 li n q * co q) (2 ^ n)) q * sclN s0) s0 (blO (fun li => ssum (fun q => wgt N 0 li n q * co q) (2 ^ n)) n s0  ) (2 ^ n)).1)), (0, .ref (ad 25)), (1, .int (nI mo))] []) → ∀ (k i : Nat) (z1 : Int64) (y1 : (Nat → Int64)), i ≤ 2 ^ n → 2 ^ n < i + k → Ev p l e R s m args below meth c 0 0 (EQ below (PI fun r w => r = nI ((blO (fun li => ssum (fun q => wgt N 0 li n q * co q) (2 ^ n)) n (mo + 1)).1) ∧ ∃ z' y', w = hx ad tc W g h Dv Sh u v z' y') args s D A) D A 11 (hx ad tc W g h Dv Sh u v z1 y1) 29 [(8, .int (nI i)), (7, .int (nI s0)), (5, .long (lN (sclN s0))), (3, .long (lN (blI (fun q => (fun li => ssum (fun q => wgt N 0 li n q * co q) (2 ^ n)) q * sclN s0) s0 (blO (fun li => ssum (fun q => wgt N 0 li n q * co q) (2 ^ n)) n s0) i).2)), (2, .int (nI (blI (fun q => (fun li => ssum (fun q => wgt N 0 li n q * co q) (2 ^ n)) q * sclN s0) s0 (blO (fun li => ssum (fun q => wgt N 0 li n q * co q) (2 ^ n)) n s0) i).1)), (0, .ref (ad 25)), (1, .int (nI mo))] [] := by
    intro s0 hs3 hk k
    induction k with
    | zero => intro i z1 y1 h1 h2; exfalso; omega
    | succ k ih =>
      intro i z1 y1 h1 h2
      refine E_iload C dX8_bestList_29 0 rfl (E_aload_n C dX8_bestList_31 5 rfl (xg_8_0 C dX8_bestList_32 f_X8_29 (E_callVI C dX8_bestList_35 mv_X8_49 1 _ (s_sets hn hn8) rfl rfl rfl (by decide) (Nat.le_of_ble_eq_true rfl) ?_)))
      rintro _ _ ⟨rfl, rfl⟩
      refine E_icmp_ge C 102 dX8_bestList_38 (by decide) (fun c38 => ?_) (fun c38 => ?_)
      ·
        obtain rfl : i = 2 ^ n := by
          rcases Nat.lt_or_ge i (2 ^ n) with q | q
          · exact absurd (show nI (2 ^ n) ≤ nI i from c38) (nI_ge q (by omega))
          · omega
        exact hk z1 y1
      ·
        have hi : i < 2 ^ n := by
          rcases Nat.lt_or_ge i (2 ^ n) with q | q
          · exact q
          · exact absurd (show nI (2 ^ n) ≤ nI i from nI_le q (by omega)) c38
        refine E_iload C dX8_bestList_41 0 rfl (E_sipush (v := 256) C dX8_bestList_43 sp_256 (E_icmp_ge C 102 dX8_bestList_46 (by decide) (fun c46 => ?_) (fun c46 => ?_)))
        ·
          exact absurd (show nI 256 ≤ nI i from c46) (nI_ge (by omega) (by decide))
        ·
          refine E_iload C dX8_bestList_49 0 rfl (E_callSI C dX8_bestList_51 ms_X8_74 _ (s_bitCount i (by omega)) rfl rfl (by decide) (Nat.le_of_ble_eq_true rfl) ?_)
          rintro _ _ ⟨rfl, rfl⟩
          refine E_iload C dX8_bestList_54 1 rfl (E_icmp_ne C 96 dX8_bestList_56 (by decide) (fun c56 => ?_) (fun c56 => ?_))
          ·
            have hpp : ¬ pop i = s0 := fun q => c56 (by rw [q])
            have hst : blI (fun q => (fun li => ssum (fun q => wgt N 0 li n q * co q) (2 ^ n)) q * sclN s0) s0 (blO (fun li => ssum (fun q => wgt N 0 li n q * co q) (2 ^ n)) n s0) (i + 1) = blI (fun q => (fun li => ssum (fun q => wgt N 0 li n q * co q) (2 ^ n)) q * sclN s0) s0 (blO (fun li => ssum (fun q => wgt N 0 li n q * co q) (2 ^ n)) n s0) i := if_neg hpp
            refine E_iinc C dX8_bestList_96 0 rfl (nI_1 i) (by decide) (E_goto C 29 dX8_bestList_99 (by decide) ?_)
            refine Ev.sub [0, 1, 2, 3, 4, 5, 6] rfl ?_
            have hgo := ih (i + 1) z1 y1 (by omega) (by omega)
            rw [hst] at hgo
            exact hgo
          ·
            have hpp : pop i = s0 := (nI_eq (by have := pop_le i; omega) (by omega)).mp c56
            refine E_aload_n C dX8_bestList_59 5 rfl (E_iconst (v := 0) C dX8_bestList_60 ic_0 (E_iload C dX8_bestList_61 0 rfl (E_callVV C dX8_bestList_63 mv_X8_88 25 _ (s_weigh hn hn8 hN hB 0 i (by decide) (by omega)) rfl rfl rfl (by decide) (Nat.le_of_ble_eq_true rfl) ?_)))
            rintro _ ⟨y2, rfl, hy2⟩
            refine E_aload_n C dX8_bestList_66 5 rfl (E_callVL C dX8_bestList_67 mv_X8_92 25 _ (s_costs hn hn8 hy2 hco) rfl rfl rfl (by decide) (Nat.le_of_ble_eq_true rfl) ?_)
            rintro _ _ ⟨rfl, rfl⟩
            refine E_lload C dX8_bestList_70 2 rfl (E_lmul C dX8_bestList_72 ?_)
            refine Ev.setl (lN_mul _ _) ?_
            have hfi := hF s0 i hs3 hi hpp
            have hbl := blI_lt (F := fun q => (fun li => ssum (fun q => wgt N 0 li n q * co q) (2 ^ n)) q * sclN s0) (s := s0) (fun q hq hp => hF s0 q hs3 hq hp) (blO_lt hF s0 (by omega)) i (by omega)
            refine E_lstore C dX8_bestList_73 (by decide) (E_lload C dX8_bestList_75 0 rfl (E_lload_n C dX8_bestList_77 4 rfl (E_lcmp C dX8_bestList_78 (E_if_ge C 87 dX8_bestList_79 (by decide) (fun c79 => ?_) (fun c79 => ?_)))))
            ·
              have hge : ¬ (fun q => (fun li => ssum (fun q => wgt N 0 li n q * co q) (2 ^ n)) q * sclN s0) i < (blI (fun q => (fun li => ssum (fun q => wgt N 0 li n q * co q) (2 ^ n)) q * sclN s0) s0 (blO (fun li => ssum (fun q => wgt N 0 li n q * co q) (2 ^ n)) n s0) i).2 := fun q => absurd ((lg_lt hfi hbl).mp c79) (Nat.not_le.mpr q)
              have hst : blI (fun q => (fun li => ssum (fun q => wgt N 0 li n q * co q) (2 ^ n)) q * sclN s0) s0 (blO (fun li => ssum (fun q => wgt N 0 li n q * co q) (2 ^ n)) n s0) (i + 1) = blI (fun q => (fun li => ssum (fun q => wgt N 0 li n q * co q) (2 ^ n)) q * sclN s0) s0 (blO (fun li => ssum (fun q => wgt N 0 li n q * co q) (2 ^ n)) n s0) i := (if_pos hpp).trans (if_neg hge)
              have hmn : (if lN (blI (fun q => (fun li => ssum (fun q => wgt N 0 li n q * co q) (2 ^ n)) q * sclN s0) s0 (blO (fun li => ssum (fun q => wgt N 0 li n q * co q) (2 ^ n)) n s0) i).2 < lN ((fun q => (fun li => ssum (fun q => wgt N 0 li n q * co q) (2 ^ n)) q * sclN s0) i) then lN (blI (fun q => (fun li => ssum (fun q => wgt N 0 li n q * co q) (2 ^ n)) q * sclN s0) s0 (blO (fun li => ssum (fun q => wgt N 0 li n q * co q) (2 ^ n)) n s0) i).2 else lN ((fun q => (fun li => ssum (fun q => wgt N 0 li n q * co q) (2 ^ n)) q * sclN s0) i)) = lN (blI (fun q => (fun li => ssum (fun q => wgt N 0 li n q * co q) (2 ^ n)) q * sclN s0) s0 (blO (fun li => ssum (fun q => wgt N 0 li n q * co q) (2 ^ n)) n s0) (i + 1)).2 := by
                rw [hst]
                by_cases q : (blI (fun q => (fun li => ssum (fun q => wgt N 0 li n q * co q) (2 ^ n)) q * sclN s0) s0 (blO (fun li => ssum (fun q => wgt N 0 li n q * co q) (2 ^ n)) n s0) i).2 < (fun q => (fun li => ssum (fun q => wgt N 0 li n q * co q) (2 ^ n)) q * sclN s0) i
                · exact if_pos ((pk_lLT hbl hfi).mpr q)
                · exact (if_neg (fun z => q ((pk_lLT hbl hfi).mp z))).trans (congrArg lN (by omega))
              refine E_iload_n C dX8_bestList_87 5 rfl (E_istore_n C dX8_bestList_88 (by decide) (E_lload C dX8_bestList_89 1 rfl (E_lload_n C dX8_bestList_91 5 rfl (E_mminL C dX8_bestList_92 ms_X8_98 (by decide) (Nat.le_of_ble_eq_true rfl) ?_))))
              refine Ev.setl hmn ?_
              refine E_lstore_n C dX8_bestList_95 (by decide) (E_iinc C dX8_bestList_96 3 rfl (nI_1 i) (by decide) (E_goto C 29 dX8_bestList_99 (by decide) ?_))
              refine Ev.sub [0, 4, 5, 1, 2, 6, 7] rfl ?_
              have hgo := ih (i + 1) (lN (belN i n)) y2 (by omega) (by omega)
              rw [hst] at hgo ⊢
              exact hgo
            ·
              have hlt : (fun q => (fun li => ssum (fun q => wgt N 0 li n q * co q) (2 ^ n)) q * sclN s0) i < (blI (fun q => (fun li => ssum (fun q => wgt N 0 li n q * co q) (2 ^ n)) q * sclN s0) s0 (blO (fun li => ssum (fun q => wgt N 0 li n q * co q) (2 ^ n)) n s0) i).2 := Nat.not_le.mp fun q => c79 ((lg_lt hfi hbl).mpr q)
              have hst : blI (fun q => (fun li => ssum (fun q => wgt N 0 li n q * co q) (2 ^ n)) q * sclN s0) s0 (blO (fun li => ssum (fun q => wgt N 0 li n q * co q) (2 ^ n)) n s0) (i + 1) = (i, (fun q => (fun li => ssum (fun q => wgt N 0 li n q * co q) (2 ^ n)) q * sclN s0) i) := (if_pos hpp).trans (if_pos hlt)
              have hmn : (if lN (blI (fun q => (fun li => ssum (fun q => wgt N 0 li n q * co q) (2 ^ n)) q * sclN s0) s0 (blO (fun li => ssum (fun q => wgt N 0 li n q * co q) (2 ^ n)) n s0) i).2 < lN ((fun q => (fun li => ssum (fun q => wgt N 0 li n q * co q) (2 ^ n)) q * sclN s0) i) then lN (blI (fun q => (fun li => ssum (fun q => wgt N 0 li n q * co q) (2 ^ n)) q * sclN s0) s0 (blO (fun li => ssum (fun q => wgt N 0 li n q * co q) (2 ^ n)) n s0) i).2 else lN ((fun q => (fun li => ssum (fun q => wgt N 0 li n q * co q) (2 ^ n)) q * sclN s0) i)) = lN (blI (fun q => (fun li => ssum (fun q => wgt N 0 li n q * co q) (2 ^ n)) q * sclN s0) s0 (blO (fun li => ssum (fun q => wgt N 0 li n q * co q) (2 ^ n)) n s0) (i + 1)).2 := by
                rw [hst]
                exact if_neg (fun z => Nat.lt_asymm hlt ((pk_lLT hbl hfi).mp z))
              refine E_iload C dX8_bestList_82 1 rfl (E_goto C 88 dX8_bestList_84 (by decide) (E_istore_n C dX8_bestList_88 (by decide) (E_lload C dX8_bestList_89 1 rfl (E_lload_n C dX8_bestList_91 5 rfl (E_mminL C dX8_bestList_92 ms_X8_98 (by decide) (Nat.le_of_ble_eq_true rfl) ?_)))))
              refine Ev.setl hmn ?_
              refine E_lstore_n C dX8_bestList_95 (by decide) (E_iinc C dX8_bestList_96 3 rfl (nI_1 i) (by decide) (E_goto C 29 dX8_bestList_99 (by decide) ?_))
              refine Ev.sub [0, 4, 5, 1, 2, 6, 7] rfl ?_
              have hgo := ih (i + 1) (lN (belN i n)) y2 (by omega) (by omega)
              rw [hst] at hgo ⊢
              exact hgo
  have K : ∀ (k s0 : Nat) (z1 : Int64) (y1 : (Nat → Int64)), s0 ≤ mo + 1 → mo + 1 < s0 + k → Ev p l e R s m args below meth c 0 0 (EQ below (PI fun r w => r = nI ((blO (fun li => ssum (fun q => wgt N 0 li n q * co q) (2 ^ n)) n (mo + 1)).1) ∧ ∃ z' y', w = hx ad tc W g h Dv Sh u v z' y') args s D A) D A 11 (hx ad tc W g h Dv Sh u v z1 y1) 14 [(7, .int (nI s0)), (5, .long (lN (sclN s0))), (3, .long (lN (blO (fun li => ssum (fun q => wgt N 0 li n q * co q) (2 ^ n)) n s0).2)), (2, .int (nI (blO (fun li => ssum (fun q => wgt N 0 li n q * co q) (2 ^ n)) n s0).1)), (0, .ref (ad 25)), (1, .int (nI mo))] [] := by
    intro k
    induction k with
    | zero => intro s0 z1 y1 h1 h2; exfalso; omega
    | succ k ih =>
      intro s0 z1 y1 h1 h2
      refine E_iload C dX8_bestList_14 0 rfl (E_iload_n C dX8_bestList_16 5 rfl (E_icmp_gt C 116 dX8_bestList_17 (by decide) (fun c17 => ?_) (fun c17 => ?_)))
      ·
        obtain rfl : s0 = mo + 1 := by
          have := (nI_ltI (by omega) (by omega)).mp c17
          omega
        refine E_iload_n C dX8_bestList_116 3 rfl (E_iretI C hr hlk dX8_bestList_117 ?_)
        exact ⟨rfl, z1, y1, rfl⟩
      ·
        have hsm : s0 ≤ mo := Nat.not_lt.mp fun q => c17 (nI_lt q (by omega))
        refine E_iload C dX8_bestList_20 0 rfl (E_iconst (v := 3) C dX8_bestList_22 ic_3 (E_icmp_gt C 116 dX8_bestList_23 (by decide) (fun c23 => ?_) (fun c23 => ?_)))
        ·
          exact absurd (show nI 3 < nI s0 from c23) (nI_nlt (by omega) (by decide))
        ·
          refine E_iconst (v := 0) C dX8_bestList_26 ic_0 (E_istore C dX8_bestList_27 (by decide) ?_)
          refine Ev.sub [0, 1, 2, 3, 4, 5, 6] rfl (J s0 (by omega) ?_ (2 ^ n + 1) 0 z1 y1 (Nat.zero_le _) (by have := Nat.two_pow_pos n; omega))
          intro z1 y1
          refine E_lload C dX8_bestList_102 2 rfl (E_ldc2 C k_X8_68 dX8_bestList_104 (E_ldiv C dX8_bestList_107 (by decide) ?_))
          refine Ev.setl (show lN (sclN s0) / 12 = lN (sclN (s0 + 1)) from (pk_lDiv (a := sclN s0) (b := 12) (Nat.lt_of_le_of_lt (Nat.div_le_self _ _) (by decide)) (by decide) (by decide)).trans (congrArg lN (by unfold sclN; rw [Nat.div_div_eq_div_mul, Nat.pow_succ]))) ?_
          refine E_lstore C dX8_bestList_108 (by decide) (E_iinc C dX8_bestList_110 2 rfl (nI_1 s0) (by decide) (E_goto C 14 dX8_bestList_113 (by decide) ?_))
          exact Ev.sub [0, 1, 3, 4, 5, 6] rfl (ih (s0 + 1) z1 y1 (by omega) (by omega))
  refine E_iconst (v := 0) C dX8_bestList_0 ic_0 (E_istore_n C dX8_bestList_1 (by decide) (E_ldc2 C k_X8_86 dX8_bestList_2 ?_))
  refine Ev.setl (show (9223372036854775807 : Int64) = lN 9223372036854775807 from rfl) ?_
  refine E_lstore_n C dX8_bestList_5 (by decide) (E_ldc2 C k_X8_96 dX8_bestList_6 ?_)
  refine Ev.setl (show (1728 : Int64) = lN (sclN 0) from rfl) ?_
  refine E_lstore C dX8_bestList_9 (by decide) (E_iconst (v := 0) C dX8_bestList_11 ic_0 (E_istore C dX8_bestList_12 (by decide) ?_))
  exact Ev.sub [0, 1, 2, 3, 4, 5] rfl (K (mo + 2) 0 z y (by omega) (by omega))
