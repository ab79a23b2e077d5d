/-! the class's Table: weigh, refresh, dearest, the best -/
set_option maxRecDepth 100000 in
set_option maxHeartbeats 4000000 in
theorem s_weigh {l : Launch} {D : va_G} {tc tt ad : Nat → Nat} {W : Nat → Nat → Int32} {g : Nat → Int32} {h : Nat → Nat → Int32} {Dv : Nat → (Nat → Int32) × (Nat → Nat → Int32)} {Sh : Nat → (Nat → Int32) × (Nat → Int64)} {u : Nat → Int32} {v : Nat → Nat → Int32} {z : Int64} {y : Nat → Int64} {n : Nat} (hn : g 0 = nI n) (hn8 : n ≤ 8) {N : Nat → Nat → Nat} (hN : NW W N) (hB : Bd N) (nv li : Nat) (hnv : nv < 256) (hli : li < 256) : Ct l yX8_weigh cX8_weigh 9 none 2 D tc tt [.ref (ad 25), .int (nI nv), .int (nI li)] (hx ad tc W g h Dv Sh u v z y) (PV fun w => ∃ y', w = hx ad tc W g h Dv Sh u v (lN (belN li n)) y' ∧ ∀ q, q < 2 ^ n → y' q = lN (wgt N nv li n q)) := by
  refine Ct.of (by decide +kernel) (Nat.le_of_ble_eq_true rfl) ?_
  intro p e R s m args below meth c A C hr hlk
  have K : ∀ (k i : Nat) (y1 : (Nat → Int64)), i ≤ n → n < i + k → (∀ q, q < 2 ^ i → y1 q = lN (wgt N nv li i q)) → Ev p l e R s m args below meth c 0 0 (EQ below (PV fun w => ∃ y', w = hx ad tc W g h Dv Sh u v (lN (belN li n)) y' ∧ ∀ q, q < 2 ^ n → y' q = lN (wgt N nv li n q)) args s D A) D A 9 (hx ad tc W g h Dv Sh u v (lN (belN li i)) y1) 14 [(3, .int (nI i)), (0, .ref (ad 25)), (1, .int (nI nv)), (2, .int (nI li))] [] := by
    intro k
    induction k with
    | zero => intro i y1 h1 h2; exfalso; omega
    | succ k ih =>
      intro i y1 h1 h2 hy
      refine E_iload_n C dX8_weigh_14 0 rfl (E_aload_n C dX8_weigh_15 1 rfl (xg_8_0 C dX8_weigh_16 f_X8_29 (xg_9_2 C dX8_weigh_19 f_X8_63 ?_)))
      refine Ev.seti hn ?_
      refine E_icmp_ge C 136 dX8_weigh_22 (by decide) (fun c22 => ?_) (fun c22 => ?_)
      ·
        obtain rfl : i = n := by
          rcases Nat.lt_or_ge i n with q | q
          · exact absurd (show nI n ≤ nI i from c22) (nI_ge q (by omega))
          · omega
        refine E_vretV C hr hlk dX8_weigh_136 ?_
        exact ⟨y1, rfl, hy⟩
      ·
        have hi : i < n := by
          rcases Nat.lt_or_ge i n with q | q
          · exact q
          · exact absurd (show nI n ≤ nI i from nI_le q (by omega)) c22
        refine E_iload_n C dX8_weigh_25 0 rfl (E_bipush (v := 8) C dX8_weigh_26 bp_8 (E_icmp_ge C 136 dX8_weigh_28 (by decide) (fun c28 => ?_) (fun c28 => ?_)))
        ·
          exact absurd (show nI 8 ≤ nI i from c28) (nI_ge (by omega) (by decide))
        ·
          have hpl := pop_le li
          by_cases hl : li.testBit i = true
          · by_cases hv : nv.testBit i = true
            · refine E_iload_n C dX8_weigh_31 3 rfl (E_iload_n C dX8_weigh_32 0 rfl (E_ishr C dX8_weigh_33 (E_iconst (v := 1) C dX8_weigh_34 ic_1 (E_iand C dX8_weigh_35 (E_iconst (v := 1) C dX8_weigh_36 ic_1 ?_)))))
              refine E_icmp_ne C 44 dX8_weigh_37 (by decide) (fun c37 => ?_) (fun c37 => ?_)
              ·
                exact absurd ((nx_bitE li i (by omega) (by omega)).mpr hl) c37
              ·
                refine E_iconst (v := 1) C dX8_weigh_40 ic_1 (E_goto C 45 dX8_weigh_41 (by decide) (E_istore C dX8_weigh_45 (by decide) (E_iload C dX8_weigh_47 0 rfl (E_if_eq C 58 dX8_weigh_49 (by decide) (fun c49 => ?_) (fun c49 => ?_)))))
                ·
                  exact absurd c49 (by decide)
                ·
                  refine E_ldc2 C k_X8_66 dX8_weigh_52 (E_goto C 61 dX8_weigh_55 (by decide) ?_)
                  refine Ev.setl (show _ = lN (allN li i) from (show _ = lN 144 from rfl).trans (congrArg lN (by unfold allN; rw [if_pos hl]))) ?_
                  refine E_lstore C dX8_weigh_61 (by decide) (E_iload_n C dX8_weigh_63 4 rfl (E_iload_n C dX8_weigh_64 2 rfl (E_ishr C dX8_weigh_65 (E_iconst (v := 1) C dX8_weigh_66 ic_1 (E_iand C dX8_weigh_67 ?_)))))
                  refine E_iconst (v := 1) C dX8_weigh_68 ic_1 (E_icmp_ne C 76 dX8_weigh_69 (by decide) (fun c69 => ?_) (fun c69 => ?_))
                  ·
                    exact absurd ((nx_bitE nv i (by omega) (by omega)).mpr hv) c69
                  ·
                    refine E_lconst (v := 0) C dX8_weigh_72 rfl (E_goto C 86 dX8_weigh_73 (by decide) (E_lstore C dX8_weigh_86 (by decide) (E_lload C dX8_weigh_88 0 rfl (E_iload C dX8_weigh_90 2 rfl (E_if_eq C 103 dX8_weigh_92 (by decide) (fun c92 => ?_) (fun c92 => ?_))))))
                    ·
                      exact absurd c92 (by decide)
                    ·
                      refine E_iload_n C dX8_weigh_95 6 rfl (E_callSI C dX8_weigh_96 ms_X8_74 _ (s_bitCount li hli) rfl rfl (by decide) (Nat.le_of_ble_eq_true rfl) ?_)
                      rintro _ _ ⟨rfl, rfl⟩
                      refine E_i2l C dX8_weigh_99 ?_
                      refine Ev.setl (nI_l (by omega)) ?_
                      refine E_goto C 104 dX8_weigh_100 (by decide) (E_lmul C dX8_weigh_104 ?_)
                      refine Ev.setl (show _ = lN (lostN N nv li i) from (lN_mul 0 (pop li)).trans (congrArg lN (by unfold lostN; rw [if_pos hv, if_pos hl]))) ?_
                      refine E_lstore C dX8_weigh_105 (by decide) (E_aload_n C dX8_weigh_107 4 rfl (E_iload_n C dX8_weigh_108 3 rfl (E_lload C dX8_weigh_109 0 rfl (E_lload C dX8_weigh_111 1 rfl (E_lload C dX8_weigh_113 0 rfl ?_)))))
                      refine E_lsub C dX8_weigh_115 ?_
                      refine Ev.setl (lN_sub (lost_le hB (by omega) (pop_le li))) ?_
                      refine E_callVV C dX8_weigh_116 mv_X8_80 25 _ (s_part i (by omega) (lN (lostN N nv li i)) (lN (allN li i - lostN N nv li i))) rfl rfl rfl (by decide) (Nat.le_of_ble_eq_true rfl) ?_
                      rintro _ ⟨y2, rfl, hy2⟩
                      refine E_aload_n C dX8_weigh_119 4 rfl (E_dup C dX8_weigh_120 rfl (xg_8_6 C dX8_weigh_121 f_X8_25 (E_lload C dX8_weigh_124 1 rfl (E_lmul C dX8_weigh_126 ?_))))
                      refine Ev.setl (show _ = lN (belN li (i + 1)) from lN_mul _ _) ?_
                      refine xp_8_6 C dX8_weigh_127 fw_X8_25 (E_iinc C dX8_weigh_130 3 rfl (nI_1 i) (by decide) (E_goto C 14 dX8_weigh_133 (by decide) ?_))
                      refine Ev.sub [0, 4, 5, 6] rfl (ih (i + 1) y2 (by omega) (by omega) ?_)
                      intro q hq
                      rcases Nat.lt_or_ge q (2 ^ i) with r | r
                      · rw [(hy2 q r).1, hy q r, lN_mul, wgt_old r]
                      · obtain ⟨q', rfl⟩ : ∃ q', q = 2 ^ i + q' := ⟨q - 2 ^ i, by omega⟩
                        have r2 : q' < 2 ^ i := by rw [Nat.pow_succ] at hq; omega
                        rw [(hy2 q' r2).2, hy q' r2, lN_mul, wgt_new r2]
            · refine E_iload_n C dX8_weigh_31 3 rfl (E_iload_n C dX8_weigh_32 0 rfl (E_ishr C dX8_weigh_33 (E_iconst (v := 1) C dX8_weigh_34 ic_1 (E_iand C dX8_weigh_35 (E_iconst (v := 1) C dX8_weigh_36 ic_1 ?_)))))
              refine E_icmp_ne C 44 dX8_weigh_37 (by decide) (fun c37 => ?_) (fun c37 => ?_)
              ·
                exact absurd ((nx_bitE li i (by omega) (by omega)).mpr hl) c37
              ·
                refine E_iconst (v := 1) C dX8_weigh_40 ic_1 (E_goto C 45 dX8_weigh_41 (by decide) (E_istore C dX8_weigh_45 (by decide) (E_iload C dX8_weigh_47 0 rfl (E_if_eq C 58 dX8_weigh_49 (by decide) (fun c49 => ?_) (fun c49 => ?_)))))
                ·
                  exact absurd c49 (by decide)
                ·
                  refine E_ldc2 C k_X8_66 dX8_weigh_52 (E_goto C 61 dX8_weigh_55 (by decide) ?_)
                  refine Ev.setl (show _ = lN (allN li i) from (show _ = lN 144 from rfl).trans (congrArg lN (by unfold allN; rw [if_pos hl]))) ?_
                  refine E_lstore C dX8_weigh_61 (by decide) (E_iload_n C dX8_weigh_63 4 rfl (E_iload_n C dX8_weigh_64 2 rfl (E_ishr C dX8_weigh_65 (E_iconst (v := 1) C dX8_weigh_66 ic_1 (E_iand C dX8_weigh_67 ?_)))))
                  refine E_iconst (v := 1) C dX8_weigh_68 ic_1 (E_icmp_ne C 76 dX8_weigh_69 (by decide) (fun c69 => ?_) (fun c69 => ?_))
                  ·
                    refine E_aload_n C dX8_weigh_76 3 rfl (xg_8_0 C dX8_weigh_77 f_X8_29 (E_iconst (v := 1) C dX8_weigh_80 ic_1 (E_iload_n C dX8_weigh_81 2 rfl (E_callVI C dX8_weigh_82 mv_X8_70 1 _ (s_value 1 i (by decide) (by omega)) rfl rfl rfl (by decide) (Nat.le_of_ble_eq_true rfl) ?_))))
                    rintro _ _ ⟨rfl, rfl⟩
                    have hc1 : N 1 i ≤ 12 := hB 1 i (by decide) (by omega)
                    refine Ev.seti (hN 1 i (by decide) (by omega)) ?_
                    refine E_i2l C dX8_weigh_85 ?_
                    refine Ev.setl (nI_l (by omega)) ?_
                    refine E_lstore C dX8_weigh_86 (by decide) (E_lload C dX8_weigh_88 0 rfl (E_iload C dX8_weigh_90 2 rfl (E_if_eq C 103 dX8_weigh_92 (by decide) (fun c92 => ?_) (fun c92 => ?_))))
                    ·
                      exact absurd c92 (by decide)
                    ·
                      refine E_iload_n C dX8_weigh_95 6 rfl (E_callSI C dX8_weigh_96 ms_X8_74 _ (s_bitCount li hli) rfl rfl (by decide) (Nat.le_of_ble_eq_true rfl) ?_)
                      rintro _ _ ⟨rfl, rfl⟩
                      refine E_i2l C dX8_weigh_99 ?_
                      refine Ev.setl (nI_l (by omega)) ?_
                      refine E_goto C 104 dX8_weigh_100 (by decide) (E_lmul C dX8_weigh_104 ?_)
                      refine Ev.setl (show _ = lN (lostN N nv li i) from (lN_mul (N 1 i) (pop li)).trans (congrArg lN (by unfold lostN; rw [if_neg hv, if_pos hl]))) ?_
                      refine E_lstore C dX8_weigh_105 (by decide) (E_aload_n C dX8_weigh_107 4 rfl (E_iload_n C dX8_weigh_108 3 rfl (E_lload C dX8_weigh_109 0 rfl (E_lload C dX8_weigh_111 1 rfl (E_lload C dX8_weigh_113 0 rfl ?_)))))
                      refine E_lsub C dX8_weigh_115 ?_
                      refine Ev.setl (lN_sub (lost_le hB (by omega) (pop_le li))) ?_
                      refine E_callVV C dX8_weigh_116 mv_X8_80 25 _ (s_part i (by omega) (lN (lostN N nv li i)) (lN (allN li i - lostN N nv li i))) rfl rfl rfl (by decide) (Nat.le_of_ble_eq_true rfl) ?_
                      rintro _ ⟨y2, rfl, hy2⟩
                      refine E_aload_n C dX8_weigh_119 4 rfl (E_dup C dX8_weigh_120 rfl (xg_8_6 C dX8_weigh_121 f_X8_25 (E_lload C dX8_weigh_124 1 rfl (E_lmul C dX8_weigh_126 ?_))))
                      refine Ev.setl (show _ = lN (belN li (i + 1)) from lN_mul _ _) ?_
                      refine xp_8_6 C dX8_weigh_127 fw_X8_25 (E_iinc C dX8_weigh_130 3 rfl (nI_1 i) (by decide) (E_goto C 14 dX8_weigh_133 (by decide) ?_))
                      refine Ev.sub [0, 4, 5, 6] rfl (ih (i + 1) y2 (by omega) (by omega) ?_)
                      intro q hq
                      rcases Nat.lt_or_ge q (2 ^ i) with r | r
                      · rw [(hy2 q r).1, hy q r, lN_mul, wgt_old r]
                      · obtain ⟨q', rfl⟩ : ∃ q', q = 2 ^ i + q' := ⟨q - 2 ^ i, by omega⟩
                        have r2 : q' < 2 ^ i := by rw [Nat.pow_succ] at hq; omega
                        rw [(hy2 q' r2).2, hy q' r2, lN_mul, wgt_new r2]
                  ·
                    exact absurd ((nx_bitE nv i (by omega) (by omega)).mp c69) hv
          · by_cases hv : nv.testBit i = true
            · refine E_iload_n C dX8_weigh_31 3 rfl (E_iload_n C dX8_weigh_32 0 rfl (E_ishr C dX8_weigh_33 (E_iconst (v := 1) C dX8_weigh_34 ic_1 (E_iand C dX8_weigh_35 (E_iconst (v := 1) C dX8_weigh_36 ic_1 ?_)))))
              refine E_icmp_ne C 44 dX8_weigh_37 (by decide) (fun c37 => ?_) (fun c37 => ?_)
              ·
                refine E_iconst (v := 0) C dX8_weigh_44 ic_0 (E_istore C dX8_weigh_45 (by decide) (E_iload C dX8_weigh_47 0 rfl (E_if_eq C 58 dX8_weigh_49 (by decide) (fun c49 => ?_) (fun c49 => ?_))))
                ·
                  refine E_ldc2 C k_X8_68 dX8_weigh_58 ?_
                  refine Ev.setl (show _ = lN (allN li i) from (show _ = lN 12 from rfl).trans (congrArg lN (by unfold allN; rw [if_neg hl]))) ?_
                  refine E_lstore C dX8_weigh_61 (by decide) (E_iload_n C dX8_weigh_63 4 rfl (E_iload_n C dX8_weigh_64 2 rfl (E_ishr C dX8_weigh_65 (E_iconst (v := 1) C dX8_weigh_66 ic_1 (E_iand C dX8_weigh_67 ?_)))))
                  refine E_iconst (v := 1) C dX8_weigh_68 ic_1 (E_icmp_ne C 76 dX8_weigh_69 (by decide) (fun c69 => ?_) (fun c69 => ?_))
                  ·
                    exact absurd ((nx_bitE nv i (by omega) (by omega)).mpr hv) c69
                  ·
                    refine E_lconst (v := 0) C dX8_weigh_72 rfl (E_goto C 86 dX8_weigh_73 (by decide) (E_lstore C dX8_weigh_86 (by decide) (E_lload C dX8_weigh_88 0 rfl (E_iload C dX8_weigh_90 2 rfl (E_if_eq C 103 dX8_weigh_92 (by decide) (fun c92 => ?_) (fun c92 => ?_))))))
                    ·
                      refine E_lconst (v := 1) C dX8_weigh_103 rfl (E_lmul C dX8_weigh_104 ?_)
                      refine Ev.setl (show _ = lN (lostN N nv li i) from (lN_mul 0 1).trans (congrArg lN (by unfold lostN; rw [if_pos hv, if_neg hl]))) ?_
                      refine E_lstore C dX8_weigh_105 (by decide) (E_aload_n C dX8_weigh_107 4 rfl (E_iload_n C dX8_weigh_108 3 rfl (E_lload C dX8_weigh_109 0 rfl (E_lload C dX8_weigh_111 1 rfl (E_lload C dX8_weigh_113 0 rfl ?_)))))
                      refine E_lsub C dX8_weigh_115 ?_
                      refine Ev.setl (lN_sub (lost_le hB (by omega) (pop_le li))) ?_
                      refine E_callVV C dX8_weigh_116 mv_X8_80 25 _ (s_part i (by omega) (lN (lostN N nv li i)) (lN (allN li i - lostN N nv li i))) rfl rfl rfl (by decide) (Nat.le_of_ble_eq_true rfl) ?_
                      rintro _ ⟨y2, rfl, hy2⟩
                      refine E_aload_n C dX8_weigh_119 4 rfl (E_dup C dX8_weigh_120 rfl (xg_8_6 C dX8_weigh_121 f_X8_25 (E_lload C dX8_weigh_124 1 rfl (E_lmul C dX8_weigh_126 ?_))))
                      refine Ev.setl (show _ = lN (belN li (i + 1)) from lN_mul _ _) ?_
                      refine xp_8_6 C dX8_weigh_127 fw_X8_25 (E_iinc C dX8_weigh_130 3 rfl (nI_1 i) (by decide) (E_goto C 14 dX8_weigh_133 (by decide) ?_))
                      refine Ev.sub [0, 4, 5, 6] rfl (ih (i + 1) y2 (by omega) (by omega) ?_)
                      intro q hq
                      rcases Nat.lt_or_ge q (2 ^ i) with r | r
                      · rw [(hy2 q r).1, hy q r, lN_mul, wgt_old r]
                      · obtain ⟨q', rfl⟩ : ∃ q', q = 2 ^ i + q' := ⟨q - 2 ^ i, by omega⟩
                        have r2 : q' < 2 ^ i := by rw [Nat.pow_succ] at hq; omega
                        rw [(hy2 q' r2).2, hy q' r2, lN_mul, wgt_new r2]
                    ·
                      exact absurd rfl c92
                ·
                  exact absurd rfl c49
              ·
                exact absurd ((nx_bitE li i (by omega) (by omega)).mp c37) hl
            · refine E_iload_n C dX8_weigh_31 3 rfl (E_iload_n C dX8_weigh_32 0 rfl (E_ishr C dX8_weigh_33 (E_iconst (v := 1) C dX8_weigh_34 ic_1 (E_iand C dX8_weigh_35 (E_iconst (v := 1) C dX8_weigh_36 ic_1 ?_)))))
              refine E_icmp_ne C 44 dX8_weigh_37 (by decide) (fun c37 => ?_) (fun c37 => ?_)
              ·
                refine E_iconst (v := 0) C dX8_weigh_44 ic_0 (E_istore C dX8_weigh_45 (by decide) (E_iload C dX8_weigh_47 0 rfl (E_if_eq C 58 dX8_weigh_49 (by decide) (fun c49 => ?_) (fun c49 => ?_))))
                ·
                  refine E_ldc2 C k_X8_68 dX8_weigh_58 ?_
                  refine Ev.setl (show _ = lN (allN li i) from (show _ = lN 12 from rfl).trans (congrArg lN (by unfold allN; rw [if_neg hl]))) ?_
                  refine E_lstore C dX8_weigh_61 (by decide) (E_iload_n C dX8_weigh_63 4 rfl (E_iload_n C dX8_weigh_64 2 rfl (E_ishr C dX8_weigh_65 (E_iconst (v := 1) C dX8_weigh_66 ic_1 (E_iand C dX8_weigh_67 ?_)))))
                  refine E_iconst (v := 1) C dX8_weigh_68 ic_1 (E_icmp_ne C 76 dX8_weigh_69 (by decide) (fun c69 => ?_) (fun c69 => ?_))
                  ·
                    refine E_aload_n C dX8_weigh_76 3 rfl (xg_8_0 C dX8_weigh_77 f_X8_29 (E_iconst (v := 1) C dX8_weigh_80 ic_1 (E_iload_n C dX8_weigh_81 2 rfl (E_callVI C dX8_weigh_82 mv_X8_70 1 _ (s_value 1 i (by decide) (by omega)) rfl rfl rfl (by decide) (Nat.le_of_ble_eq_true rfl) ?_))))
                    rintro _ _ ⟨rfl, rfl⟩
                    have hc1 : N 1 i ≤ 12 := hB 1 i (by decide) (by omega)
                    refine Ev.seti (hN 1 i (by decide) (by omega)) ?_
                    refine E_i2l C dX8_weigh_85 ?_
                    refine Ev.setl (nI_l (by omega)) ?_
                    refine E_lstore C dX8_weigh_86 (by decide) (E_lload C dX8_weigh_88 0 rfl (E_iload C dX8_weigh_90 2 rfl (E_if_eq C 103 dX8_weigh_92 (by decide) (fun c92 => ?_) (fun c92 => ?_))))
                    ·
                      refine E_lconst (v := 1) C dX8_weigh_103 rfl (E_lmul C dX8_weigh_104 ?_)
                      refine Ev.setl (show _ = lN (lostN N nv li i) from (lN_mul (N 1 i) 1).trans (congrArg lN (by unfold lostN; rw [if_neg hv, if_neg hl]))) ?_
                      refine E_lstore C dX8_weigh_105 (by decide) (E_aload_n C dX8_weigh_107 4 rfl (E_iload_n C dX8_weigh_108 3 rfl (E_lload C dX8_weigh_109 0 rfl (E_lload C dX8_weigh_111 1 rfl (E_lload C dX8_weigh_113 0 rfl ?_)))))
                      refine E_lsub C dX8_weigh_115 ?_
                      refine Ev.setl (lN_sub (lost_le hB (by omega) (pop_le li))) ?_
                      refine E_callVV C dX8_weigh_116 mv_X8_80 25 _ (s_part i (by omega) (lN (lostN N nv li i)) (lN (allN li i - lostN N nv li i))) rfl rfl rfl (by decide) (Nat.le_of_ble_eq_true rfl) ?_
                      rintro _ ⟨y2, rfl, hy2⟩
                      refine E_aload_n C dX8_weigh_119 4 rfl (E_dup C dX8_weigh_120 rfl (xg_8_6 C dX8_weigh_121 f_X8_25 (E_lload C dX8_weigh_124 1 rfl (E_lmul C dX8_weigh_126 ?_))))
                      refine Ev.setl (show _ = lN (belN li (i + 1)) from lN_mul _ _) ?_
                      refine xp_8_6 C dX8_weigh_127 fw_X8_25 (E_iinc C dX8_weigh_130 3 rfl (nI_1 i) (by decide) (E_goto C 14 dX8_weigh_133 (by decide) ?_))
                      refine Ev.sub [0, 4, 5, 6] rfl (ih (i + 1) y2 (by omega) (by omega) ?_)
                      intro q hq
                      rcases Nat.lt_or_ge q (2 ^ i) with r | r
                      · rw [(hy2 q r).1, hy q r, lN_mul, wgt_old r]
                      · obtain ⟨q', rfl⟩ : ∃ q', q = 2 ^ i + q' := ⟨q - 2 ^ i, by omega⟩
                        have r2 : q' < 2 ^ i := by rw [Nat.pow_succ] at hq; omega
                        rw [(hy2 q' r2).2, hy q' r2, lN_mul, wgt_new r2]
                    ·
                      exact absurd rfl c92
                  ·
                    exact absurd ((nx_bitE nv i (by omega) (by omega)).mp c69) hv
                ·
                  exact absurd rfl c49
              ·
                exact absurd ((nx_bitE li i (by omega) (by omega)).mp c37) hl
  refine E_aload_n C dX8_weigh_0 0 rfl (E_lconst (v := 1) C dX8_weigh_1 rfl (xp_8_6 C dX8_weigh_2 fw_X8_25 (E_aload_n C dX8_weigh_5 0 rfl (xg_8_5 C dX8_weigh_6 f_X8_21 (E_iconst (v := 0) C dX8_weigh_9 ic_0 ?_)))))
  refine E_lconst (v := 1) C dX8_weigh_10 rfl (xs_29 C dX8_weigh_11 (vinN (k := 0) (by decide)) (E_iconst (v := 0) C dX8_weigh_12 ic_0 (E_istore_n C dX8_weigh_13 (by decide) ?_)))
  exact Ev.sub [0, 1, 2, 3] rfl (K (n + 1) 0 _ (by omega) (by omega) (fun q hq => by
    obtain rfl : q = 0 := by have : q < 1 := hq; omega
    exact if_pos rfl))
set_option maxRecDepth 100000 in
set_option maxHeartbeats 4000000 in
theorem s_refresh {l : Launch} {D : va_G} {tc tt ad : Nat → Nat} {W : Nat → Nat → Int32} {g : Nat → Int32} {h : Nat → Nat → Int32} {Dv : Nat → (Nat → Int32) × (Nat → Nat → Int32)} {Sh : Nat → (Nat → Int32) × (Nat → Int64)} {u : Nat → Int32} {v : Nat → Nat → Int32} {z : Int64} {y : Nat → Int64} {n : Nat} (hn : g 0 = nI n) (hn8 : n ≤ 8) {N : Nat → Nat → Nat} (hN : NW W N) (hB : Bd N) {L : Nat → Nat → Nat → Nat → Nat → Nat} (hL : LawX g h L) (hc : u 3 = g 1 → TV N L (2 ^ n) v) : Ct l yX8_refresh cX8_refresh 2 none 7 D tc tt [.ref (ad 25)] (hx ad tc W g h Dv Sh u v z y) (PV fun w => ∃ Dv' v', w = hx ad tc W g h Dv' Sh (va_up u 3 (g 1)) v' z y ∧ (∀ k, k ≠ 1 → Dv' k = Dv k) ∧ (∀ k, k ≠ 0 → k ≠ 1 → k ≠ 4 → k ≠ 5 → k ≠ 6 → v' k = v k) ∧ TV N L (2 ^ n) v') := by
  refine Ct.of (by decide +kernel) (Nat.le_of_ble_eq_true rfl) ?_
  intro p e R s m args below meth c A C hr hlk
  have h256 : 2 ^ n ≤ 256 := p256 hn8
  have K : ∀ (k i : Nat) (Dv1 : Nat → (Nat → Int32) × (Nat → Nat → Int32)) (v1 : Nat → Nat → Int32), i ≤ 2 ^ n → 2 ^ n < i + k → (∀ k, k ≠ 1 → Dv1 k = Dv k) → (∀ k, k ≠ 0 → k ≠ 1 → k ≠ 4 → k ≠ 5 → k ≠ 6 → v1 k = v k) → TV N L i v1 → Ev p l e R s m args below meth c 0 0 (EQ below (PV fun w => ∃ Dv' v', w = hx ad tc W g h Dv' Sh (va_up u 3 (g 1)) v' z y ∧ (∀ k, k ≠ 1 → Dv' k = Dv k) ∧ (∀ k, k ≠ 0 → k ≠ 1 → k ≠ 4 → k ≠ 5 → k ≠ 6 → v' k = v k) ∧ TV N L (2 ^ n) v') args s D A) D A 2 (hx ad tc W g h Dv1 Sh (va_up u 3 (g 1)) v1 z y) 28 [(1, .int (nI i)), (0, .ref (ad 25))] [] := by
    intro k
    induction k with
    | zero => intro i Dv1 v1 h1 h2; exfalso; omega
    | succ k ih =>
      intro i Dv1 v1 h1 h2 hf hv ht
      refine E_iload_n C dX8_refresh_28 0 rfl (E_aload_n C dX8_refresh_29 1 rfl (xg_8_0 C dX8_refresh_30 f_X8_29 (E_callVI C dX8_refresh_33 mv_X8_49 1 _ (s_sets hn hn8) rfl rfl rfl (by decide) (Nat.le_of_ble_eq_true rfl) ?_)))
      rintro _ _ ⟨rfl, rfl⟩
      refine E_icmp_ge C 99 dX8_refresh_36 (by decide) (fun c36 => ?_) (fun c36 => ?_)
      ·
        obtain rfl : i = 2 ^ n := by
          rcases Nat.lt_or_ge i (2 ^ n) with q | q
          · exact absurd (show nI (2 ^ n) ≤ nI i from c36) (nI_ge q (by omega))
          · omega
        refine E_vretV C hr hlk dX8_refresh_99 ?_
        exact ⟨Dv1, v1, rfl, hf, hv, ht⟩
      ·
        have hi : i < 2 ^ n := by
          rcases Nat.lt_or_ge i (2 ^ n) with q | q
          · exact q
          · exact absurd (show nI (2 ^ n) ≤ nI i from nI_le q (by omega)) c36
        refine E_iload_n C dX8_refresh_39 0 rfl (E_sipush (v := 256) C dX8_refresh_40 sp_256 (E_icmp_ge C 99 dX8_refresh_43 (by decide) (fun c43 => ?_) (fun c43 => ?_)))
        ·
          exact absurd (show nI 256 ≤ nI i from c43) (nI_ge (by omega) (by decide))
        ·
          refine E_aload_n C dX8_refresh_46 1 rfl (xg_8_1 C dX8_refresh_47 f_X8_38 (E_iload_n C dX8_refresh_50 0 rfl (E_callVV C dX8_refresh_51 mv_X8_53 _ _ (s_wholeWith_1 hN hB hL i (by omega)) (xat_dr0 (b := 1) (by decide)) rfl rfl (by decide) (Nat.le_of_ble_eq_true rfl) ?_)))
          rintro _ ⟨Dv2, v2, rfl, hf2, hv2, hq2⟩
          obtain ⟨k0, k1, k2, k3, k4, k5, k6, k7, k8, k9⟩ := hq2
          have hwi := whole_inv hB (L := L) (show i < 256 by omega)
          refine E_aload_n C dX8_refresh_54 1 rfl (xg_8_2 C dX8_refresh_55 f_X8_11 (E_iload_n C dX8_refresh_58 0 rfl (E_aload_n C dX8_refresh_59 1 rfl (xg_8_1 C dX8_refresh_60 f_X8_38 (E_callVI C dX8_refresh_63 mv_X8_57 _ _ (s_cost_1 hN k5 k4 hwi.2.1) (xat_dr0 (b := 1) (by decide)) rfl rfl (by decide) (Nat.le_of_ble_eq_true rfl) ?_)))))
          rintro _ _ ⟨rfl, rfl⟩
          refine xs_26 C dX8_refresh_66 (vinN (by omega)) ?_
          rw [nI_clamp (show i < 2 ^ 31 by omega)]
          refine E_aload_n C dX8_refresh_67 1 rfl (xg_8_3 C dX8_refresh_68 f_X8_15 (E_iload_n C dX8_refresh_71 0 rfl (E_aload_n C dX8_refresh_72 1 rfl (xg_8_1 C dX8_refresh_73 f_X8_38 (xg_3_8 C (b := 1) (by decide) dX8_refresh_76 f_X8_59 ?_)))))
          refine Ev.seti k4 ?_
          refine xs_27 C dX8_refresh_79 (vinN (by omega)) ?_
          rw [nI_clamp (show i < 2 ^ 31 by omega)]
          refine E_aload_n C dX8_refresh_80 1 rfl (xg_8_4 C dX8_refresh_81 f_X8_18 (E_iload_n C dX8_refresh_84 0 rfl (E_aload_n C dX8_refresh_85 1 rfl (xg_8_1 C dX8_refresh_86 f_X8_38 (xg_3_10 C (b := 1) (by decide) dX8_refresh_89 f_X8_61 ?_)))))
          refine Ev.seti k6 ?_
          refine xs_28 C dX8_refresh_92 (vinN (by omega)) ?_
          rw [nI_clamp (show i < 2 ^ 31 by omega)]
          refine E_iinc C dX8_refresh_93 0 rfl (nI_1 i) (by decide) (E_goto C 28 dX8_refresh_96 (by decide) ?_)
          refine Ev.sub [0, 1] rfl (ih (i + 1) Dv2 _ (by omega) (by omega) (fun k hk => (hf2 k hk).trans (hf k hk)) ?_ ?_)
          · intro k a b c' d' e'
            exact (if_neg e').trans ((if_neg d').trans ((if_neg c').trans ((hv2 k a b).trans (hv k a b c' d' e'))))
          · intro q hq
            by_cases e' : q = i
            · subst e'
              exact ⟨if_pos rfl, if_pos rfl, if_pos rfl⟩
            · have hk := ht q (by omega)
              rw [← hv2 4 (by decide) (by decide), ← hv2 5 (by decide) (by decide), ← hv2 6 (by decide) (by decide)] at hk
              exact ⟨(if_neg e').trans hk.1, (if_neg e').trans hk.2.1, (if_neg e').trans hk.2.2⟩
  refine E_aload_n C dX8_refresh_0 0 rfl (xg_8_7 C dX8_refresh_1 f_X8_42 (E_aload_n C dX8_refresh_4 0 rfl (xg_8_0 C dX8_refresh_5 f_X8_29 (xg_9_3 C dX8_refresh_8 f_X8_46 (E_icmp_ne C 15 dX8_refresh_11 (by decide) (fun c11 => ?_) (fun c11 => ?_))))))
  ·
    refine E_aload_n C dX8_refresh_15 0 rfl (E_aload_n C dX8_refresh_16 0 rfl (xg_8_0 C dX8_refresh_17 f_X8_29 (xg_9_3 C dX8_refresh_20 f_X8_46 (xp_8_7 C dX8_refresh_23 fw_X8_42 (E_iconst (v := 0) C dX8_refresh_26 ic_0 ?_)))))
    refine E_istore_n C dX8_refresh_27 (by decide) ?_
    exact Ev.sub [0, 1] rfl (K (2 ^ n + 1) 0 Dv v (Nat.zero_le _) (by have := Nat.two_pow_pos n; omega) (fun _ _ => rfl) (fun _ _ _ _ _ _ => rfl) (fun q hq => absurd hq (Nat.not_lt_zero _)))
  ·
    refine E_vretV C hr hlk dX8_refresh_14 ?_
    refine ⟨Dv, v, ?_, fun _ _ => rfl, fun _ _ _ _ _ _ => rfl, hc c11⟩
    rw [← c11, up_self]
set_option maxRecDepth 100000 in
set_option maxHeartbeats 4000000 in
theorem s_dearest {l : Launch} {D : va_G} {tc tt ad : Nat → Nat} {W : Nat → Nat → Int32} {g : Nat → Int32} {h : Nat → Nat → Int32} {Dv : Nat → (Nat → Int32) × (Nat → Nat → Int32)} {Sh : Nat → (Nat → Int32) × (Nat → Int64)} {u : Nat → Int32} {v : Nat → Nat → Int32} {z : Int64} {y : Nat → Int64} {n : Nat} (hn : g 0 = nI n) (hn8 : n ≤ 8) (hn1 : 1 ≤ n) {co : Nat → Nat} (hco : ∀ q, q < 2 ^ n → v 4 q = nI (co q) ∧ co q < 2 ^ 31) : Ct l yX8_dearest cX8_dearest 3 (some .int) 2 D tc tt [.ref (ad 25)] (hx ad tc W g h Dv Sh u v z y) (PI fun r w => r = nI (deaF co (2 ^ n - 2)) ∧ w = hx ad tc W g h Dv Sh u v z y) := by
  refine Ct.of (by decide +kernel) (Nat.le_of_ble_eq_true rfl) ?_
  intro p e R s m args below meth c A C hr hlk
  have h256 : 2 ^ n ≤ 256 := p256 hn8
  have h2n : 2 ^ 1 ≤ 2 ^ n := Nat.pow_le_pow_right (by decide) hn1
  have K : ∀ (k i : Nat), i + 2 ≤ 2 ^ n → 2 ^ n < i + 2 + k → Ev p l e R s m args below meth c 0 0 (EQ below (PI fun r w => r = nI (deaF co (2 ^ n - 2)) ∧ w = hx ad tc W g h Dv Sh u v z y) args s D A) D A 3 (hx ad tc W g h Dv Sh u v z y) 4 [(2, .int (nI (i + 2))), (1, .int (nI (deaF co i))), (0, .ref (ad 25))] [] := by
    intro k
    induction k with
    | zero =>
      intro i h1 h2
      exfalso; omega
    | succ k ih =>
      intro i h1 h2
      refine E_iload_n C dX8_dearest_4 0 rfl (E_aload_n C dX8_dearest_5 2 rfl (xg_8_0 C dX8_dearest_6 f_X8_29 (E_callVI C dX8_dearest_9 mv_X8_49 1 _ (s_sets hn hn8) rfl rfl rfl (by decide) (Nat.le_of_ble_eq_true rfl) ?_)))
      rintro _ _ ⟨rfl, rfl⟩
      refine E_icmp_ge C 45 dX8_dearest_12 (by decide) (fun c12 => ?_) (fun c12 => ?_)
      ·
        obtain rfl : i = 2 ^ n - 2 := by
          rcases Nat.lt_or_ge (i + 2) (2 ^ n) with q | q
          · exact absurd (show nI (2 ^ n) ≤ nI (i + 2) from c12) (nI_ge q (by omega))
          · omega
        refine E_iload_n C dX8_dearest_45 1 rfl (E_iretI C hr hlk dX8_dearest_46 ?_)
        exact ⟨rfl, rfl⟩
      ·
        have hi : i + 2 < 2 ^ n := by
          rcases Nat.lt_or_ge (i + 2) (2 ^ n) with q | q
          · exact q
          · exact absurd (show nI (2 ^ n) ≤ nI (i + 2) from nI_le q (by omega)) c12
        have hd := deaF_lt co i
        refine E_iload_n C dX8_dearest_15 0 rfl (E_sipush (v := 256) C dX8_dearest_16 sp_256 (E_icmp_ge C 45 dX8_dearest_19 (by decide) (fun c19 => ?_) (fun c19 => ?_)))
        ·
          exact absurd (show nI 256 ≤ nI (i + 2) from c19) (nI_ge (by omega) (by decide))
        ·
          refine E_aload_n C dX8_dearest_22 2 rfl (xg_8_2 C dX8_dearest_23 f_X8_11 (E_iload_n C dX8_dearest_26 0 rfl (xa_26 C dX8_dearest_27 (vinN (by omega)) ?_)))
          rw [nI_clamp (show i + 2 < 2 ^ 31 by omega)]
          refine Ev.seti (hco (i + 2) hi).1 ?_
          refine E_aload_n C dX8_dearest_28 2 rfl (xg_8_2 C dX8_dearest_29 f_X8_11 (E_iload_n C dX8_dearest_32 1 rfl (xa_26 C dX8_dearest_33 (vinN (by omega)) ?_)))
          rw [nI_clamp (show deaF co i < 2 ^ 31 by omega)]
          refine Ev.seti (hco (deaF co i) (by omega)).1 ?_
          refine E_icmp_le C 39 dX8_dearest_34 (by decide) (fun c34 => ?_) (fun c34 => ?_)
          ·
            have hst : deaF co (i + 1) = deaF co i := if_neg (fun q => nI_ge q (hco (i + 2) hi).2 c34)
            refine E_iinc C dX8_dearest_39 0 rfl (nI_1 (i + 2)) (by decide) (E_goto C 4 dX8_dearest_42 (by decide) ?_)
            refine Ev.sub [0, 1, 2] rfl ?_
            have hgo := ih (i + 1) (by omega) (by omega)
            rw [hst] at hgo
            exact hgo
          ·
            have hst : deaF co (i + 1) = i + 2 := if_pos (Nat.not_le.mp fun q => c34 (nI_le q (hco (deaF co i) (by omega)).2))
            refine E_iload_n C dX8_dearest_37 0 rfl (E_istore_n C dX8_dearest_38 (by decide) (E_iinc C dX8_dearest_39 1 rfl (nI_1 (i + 2)) (by decide) (E_goto C 4 dX8_dearest_42 (by decide) ?_)))
            refine Ev.sub [0, 1, 2] rfl ?_
            have hgo := ih (i + 1) (by omega) (by omega)
            rw [hst] at hgo
            exact hgo
  refine E_iconst (v := 1) C dX8_dearest_0 ic_1 (E_istore_n C dX8_dearest_1 (by decide) (E_iconst (v := 2) C dX8_dearest_2 ic_2 (E_istore_n C dX8_dearest_3 (by decide) ?_)))
  exact K (2 ^ n + 1) 0 (by omega) (by omega)
