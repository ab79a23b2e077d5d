/-! the reference: stretches of rows moved, drives told back, things out of rows -/
set_option maxRecDepth 100000 in
set_option maxHeartbeats 4000000 in
theorem q_shift {l : Launch} {D : va_G} {tc tt ad : Nat → Nat} {S : STT} {w0 : va_W} (hM : MR ad tc S w0) (x0 i0 x2 j0 n0 : Int32) : Ct l yX11_shift cX11_shift 7 (some .int) 3 D tc tt [.ref (ad 0), .int x0, .int i0, .int x2, .int j0, .int n0] (w0) (PI fun r w => r = aShift S x0 i0 x2 j0 n0 ∧ MR ad tc (nShift S x0 i0 x2 j0 n0) w) := by
  obtain ⟨g, h, el, u, v, sf, rfl, M⟩ := hM
  have hA := M.1
  have hn := M.1.1
  have hn8 := M.1.2.1
  have m6 := M.2.2.2.2.2.1
  have hnb := m6.2.1
  by_cases hx : inS x0 = true
  ·
    obtain ⟨b, hb6, hbc, rfl⟩ := inS_ex hx
    have hs := M.2.2.2.2.2.2.1 b hb6
    by_cases hx2 : inS x2 = true
    ·
      obtain ⟨b2, hb62, hbc2, rfl⟩ := inS_ex hx2
      have hs2 := M.2.2.2.2.2.2.1 b2 hb62
      have ha : aShift S (nI b) i0 (nI b2) j0 n0 = _ := if_pos ⟨hx, hx2⟩
      rw [hbc, hbc2] at ha
      unfold shfK at ha
      refine Ct.of (by decide +kernel) (Nat.le_of_ble_eq_true rfl) ?_
      intro p e R s m args below meth c A C hr hlk
      refine E_iload_n C dX11_shift_0 1 rfl (E_callSI C dX11_shift_1 ms_X11_129 _ (m_isShelf (nI b)) rfl rfl (by decide) (Nat.le_of_ble_eq_true rfl) ?_)
      rintro _ _ ⟨rfl, rfl⟩
      refine E_if_eq C 14 dX11_shift_4 (by decide) (fun c4 => ?_) (fun c4 => ?_)
      ·
        exact absurd hx (ite_0 c4)
      ·
        refine E_iload_n C dX11_shift_7 3 rfl (E_callSI C dX11_shift_8 ms_X11_129 _ (m_isShelf (nI b2)) rfl rfl (by decide) (Nat.le_of_ble_eq_true rfl) ?_)
        rintro _ _ ⟨rfl, rfl⟩
        refine E_if_ne C 16 dX11_shift_11 (by decide) (fun c11 => ?_) (fun c11 => ?_)
        ·
          refine E_aload_n C dX11_shift_16 0 rfl (mg_11_49 C dX11_shift_17 f_X11_99 (E_iload_n C dX11_shift_20 1 rfl (ma_28 C dX11_shift_21 (vinN (by omega)) ?_)))
          rw [nI_clamp (show b < 2 ^ 31 by omega)]
          refine E_iconst (v := -1) C dX11_shift_22 ic_m1 (E_icmp_eq C 36 dX11_shift_23 (by decide) (fun c23 => ?_) (fun c23 => ?_))
          ·
            have z1 := (hs.e0 hnb).mp c23
            refine E_bipush (v := -11) C dX11_shift_36 bp_m11 (E_iretI C hr hlk dX11_shift_38 ?_)
            have hnx : nShift S (nI b) i0 (nI b2) j0 n0 = S := if_neg (fun q => by rw [hbc, hbc2] at q; have q3 := of_decide_eq_true q.2.2; exact absurd (z1.symm.trans q3.1) (by decide))
            rw [hnx]
            exact ⟨(ha.trans (if_pos (Or.inl z1))).symm, ⟨g, h, el, u, v, sf, rfl, M⟩⟩
          ·
            have z1 : ¬ (S.2.2.2.2.2.2 b).1 = 0 := fun z => c23 ((hs.e0 hnb).mpr z)
            refine E_aload_n C dX11_shift_26 0 rfl (mg_11_49 C dX11_shift_27 f_X11_99 (E_iload_n C dX11_shift_30 3 rfl (ma_28 C dX11_shift_31 (vinN (by omega)) ?_)))
            rw [nI_clamp (show b2 < 2 ^ 31 by omega)]
            refine E_iconst (v := -1) C dX11_shift_32 ic_m1 (E_icmp_ne C 39 dX11_shift_33 (by decide) (fun c33 => ?_) (fun c33 => ?_))
            ·
              have z2 : ¬ (S.2.2.2.2.2.2 b2).1 = 0 := fun z => c33 ((hs2.e0 hnb).mpr z)
              have ha2 := ha.trans (if_neg fun q => q.elim z1 z2)
              refine E_aload_n C dX11_shift_39 0 rfl (mg_11_49 C dX11_shift_40 f_X11_99 (E_iload_n C dX11_shift_43 1 rfl (ma_28 C dX11_shift_44 (vinN (by omega)) ?_)))
              rw [nI_clamp (show b < 2 ^ 31 by omega)]
              refine E_if_ge C 63 dX11_shift_45 (by decide) (fun c45 => ?_) (fun c45 => ?_)
              ·
                have t1 : ¬ (S.2.2.2.2.2.2 b).1 = 2 := fun z => by
                  have k : (S.2.2.2.2.2.2 b).1 = 1 := (hs.e1 hnb).mp (Int32.not_lt.mpr c45)
                  omega
                refine E_bipush (v := -12) C dX11_shift_63 bp_m12 (E_iretI C hr hlk dX11_shift_65 ?_)
                have hnx : nShift S (nI b) i0 (nI b2) j0 n0 = S := if_neg (fun q => by rw [hbc, hbc2] at q; have q3 := of_decide_eq_true q.2.2; exact t1 q3.1)
                rw [hnx]
                exact ⟨(ha2.trans (if_neg fun q => t1 q.1)).symm, ⟨g, h, el, u, v, sf, rfl, M⟩⟩
              ·
                have t1 : (S.2.2.2.2.2.2 b).1 = 2 := by
                  have k : ¬ (S.2.2.2.2.2.2 b).1 = 1 := fun z => (hs.e1 hnb).mpr z (Int32.not_le.mp c45)
                  have := hs.1
                  omega
                obtain ⟨r1, r2, r3, r4, r5⟩ := hs.2.2.2 t1
                refine E_aload_n C dX11_shift_48 0 rfl (mg_11_49 C dX11_shift_49 f_X11_99 (E_iload_n C dX11_shift_52 1 rfl (ma_28 C dX11_shift_53 (vinN (by omega)) ?_)))
                rw [nI_clamp (show b < 2 ^ 31 by omega)]
                refine Ev.seti r1 ?_
                refine E_aload_n C dX11_shift_54 0 rfl (mg_11_49 C dX11_shift_55 f_X11_99 (E_iload_n C dX11_shift_58 3 rfl (ma_28 C dX11_shift_59 (vinN (by omega)) ?_)))
                rw [nI_clamp (show b2 < 2 ^ 31 by omega)]
                refine E_icmp_eq C 66 dX11_shift_60 (by decide) (fun c60 => ?_) (fun c60 => ?_)
                ·
                  have t2 : (S.2.2.2.2.2.2 b2).1 = 2 := by
                    have k : ¬ (S.2.2.2.2.2.2 b2).1 = 1 := fun z => absurd (by rw [← c60]; exact (so5 r2).1) ((hs2.e1 hnb).mpr z)
                    have := hs2.1
                    omega
                  obtain ⟨y1, y2, y3, y4, y5⟩ := hs2.2.2.2 t2
                  have so : (S.2.2.2.2.2.2 b).2.2.1 = (S.2.2.2.2.2.2 b2).2.2.1 := so5_inj r2 y2 (c60.trans y1)
                  have ha3 := ha2.trans (if_pos ⟨t1, t2, so⟩)
                  refine E_iload C dX11_shift_66 5 rfl (E_if_lt C 107 dX11_shift_68 (by decide) (fun c68 => ?_) (fun c68 => ?_))
                  ·
                    have hno : ¬ (hpB (nI (S.2.2.2.2.2.2 b).2.2.2.1) i0 n0 = true ∧ hpB (nI (S.2.2.2.2.2.2 b2).2.2.2.1) j0 n0 = true) := fun q => by
                      obtain ⟨x1, x2, hx12, -, rfl⟩ := hpB_ex r4 q.1
                      exact nI_pos (by omega) c68
                    refine E_bipush (v := -13) C dX11_shift_107 bp_m13 (E_iretI C hr hlk dX11_shift_109 ?_)
                    have hnx : nShift S (nI b) i0 (nI b2) j0 n0 = S := if_neg (fun q => by rw [hbc, hbc2] at q; have q3 := of_decide_eq_true q.2.2; exact hno ⟨q3.2.2.2.1, q3.2.2.2.2⟩)
                    rw [hnx]
                    exact ⟨(ha3.trans (if_neg hno)).symm, ⟨g, h, el, u, v, sf, rfl, M⟩⟩
                  ·
                    obtain ⟨nn, hnn, rfl⟩ := nI_of c68
                    refine E_iload_n C dX11_shift_71 2 rfl (E_if_lt C 107 dX11_shift_72 (by decide) (fun c72 => ?_) (fun c72 => ?_))
                    ·
                      have hno : ¬ (hpB (nI (S.2.2.2.2.2.2 b).2.2.2.1) i0 (nI nn) = true ∧ hpB (nI (S.2.2.2.2.2.2 b2).2.2.2.1) j0 (nI nn) = true) := fun q => by
                        obtain ⟨x1, x2, hx12, rfl, -⟩ := hpB_ex r4 q.1
                        exact nI_pos (by omega) c72
                      refine E_bipush (v := -13) C dX11_shift_107 bp_m13 (E_iretI C hr hlk dX11_shift_109 ?_)
                      have hnx : nShift S (nI b) i0 (nI b2) j0 (nI nn) = S := if_neg (fun q => by rw [hbc, hbc2] at q; have q3 := of_decide_eq_true q.2.2; exact hno ⟨q3.2.2.2.1, q3.2.2.2.2⟩)
                      rw [hnx]
                      exact ⟨(ha3.trans (if_neg hno)).symm, ⟨g, h, el, u, v, sf, rfl, M⟩⟩
                    ·
                      obtain ⟨in1, hin, rfl⟩ := nI_of c72
                      refine E_iload C dX11_shift_75 4 rfl (E_if_lt C 107 dX11_shift_77 (by decide) (fun c77 => ?_) (fun c77 => ?_))
                      ·
                        have hno : ¬ (hpB (nI (S.2.2.2.2.2.2 b).2.2.2.1) (nI in1) (nI nn) = true ∧ hpB (nI (S.2.2.2.2.2.2 b2).2.2.2.1) j0 (nI nn) = true) := fun q => by
                          obtain ⟨x1, x2, hx12, rfl, -⟩ := hpB_ex y4 q.2
                          exact nI_pos (by omega) c77
                        refine E_bipush (v := -13) C dX11_shift_107 bp_m13 (E_iretI C hr hlk dX11_shift_109 ?_)
                        have hnx : nShift S (nI b) (nI in1) (nI b2) j0 (nI nn) = S := if_neg (fun q => by rw [hbc, hbc2] at q; have q3 := of_decide_eq_true q.2.2; exact hno ⟨q3.2.2.2.1, q3.2.2.2.2⟩)
                        rw [hnx]
                        exact ⟨(ha3.trans (if_neg hno)).symm, ⟨g, h, el, u, v, sf, rfl, M⟩⟩
                      ·
                        obtain ⟨jn1, hjn, rfl⟩ := nI_of c77
                        refine E_iload_n C dX11_shift_80 2 rfl (E_aload_n C dX11_shift_81 0 rfl (mg_11_50 C dX11_shift_82 f_X11_102 (E_iload_n C dX11_shift_85 1 rfl (ma_29 C dX11_shift_86 (vinN (by omega)) ?_))))
                        rw [nI_clamp (show b < 2 ^ 31 by omega)]
                        refine Ev.seti r3 ?_
                        refine E_iload C dX11_shift_87 5 rfl (E_isub C dX11_shift_89 (E_icmp_gt C 107 dX11_shift_90 (by decide) (fun c90 => ?_) (fun c90 => ?_)))
                        ·
                          have hno : ¬ (hpB (nI (S.2.2.2.2.2.2 b).2.2.2.1) (nI in1) (nI nn) = true ∧ hpB (nI (S.2.2.2.2.2.2 b2).2.2.2.1) (nI jn1) (nI nn) = true) := fun q => hpB_not r4 hin hnn (by have := (shf_gt r4 hin hnn).mp c90; omega) q.1
                          refine E_bipush (v := -13) C dX11_shift_107 bp_m13 (E_iretI C hr hlk dX11_shift_109 ?_)
                          have hnx : nShift S (nI b) (nI in1) (nI b2) (nI jn1) (nI nn) = S := if_neg (fun q => by rw [hbc, hbc2] at q; have q3 := of_decide_eq_true q.2.2; exact hno ⟨q3.2.2.2.1, q3.2.2.2.2⟩)
                          rw [hnx]
                          exact ⟨(ha3.trans (if_neg hno)).symm, ⟨g, h, el, u, v, sf, rfl, M⟩⟩
                        ·
                          have hle1 : in1 + nn ≤ (S.2.2.2.2.2.2 b).2.2.2.1 := Nat.not_lt.mp fun q => c90 ((shf_gt r4 hin hnn).mpr q)
                          refine E_iload C dX11_shift_93 4 rfl (E_aload_n C dX11_shift_95 0 rfl (mg_11_50 C dX11_shift_96 f_X11_102 (E_iload_n C dX11_shift_99 3 rfl (ma_29 C dX11_shift_100 (vinN (by omega)) ?_))))
                          rw [nI_clamp (show b2 < 2 ^ 31 by omega)]
                          refine Ev.seti y3 ?_
                          refine E_iload C dX11_shift_101 5 rfl (E_isub C dX11_shift_103 (E_icmp_le C 110 dX11_shift_104 (by decide) (fun c104 => ?_) (fun c104 => ?_)))
                          ·
                            have hle2 : jn1 + nn ≤ (S.2.2.2.2.2.2 b2).2.2.2.1 := Nat.not_lt.mp fun q => absurd ((shf_gt y4 hjn hnn).mpr q) (Int32.not_lt.mpr c104)
                            have p1 := hpB_of r4 hle1
                            have p2 := hpB_of y4 hle2
                            refine E_iconst (v := 0) C dX11_shift_110 ic_0 (E_istore C dX11_shift_111 (by decide) ?_)
                            have K : ∀ (mm i : Nat) (sf1 : Nat → Int64), i ≤ nn → nn < i + mm → (∀ j, j < i → sf1 j = el (60 * b + in1 + j)) → Ev p l e R s m args below meth c 0 0 (EQ below (PI fun r w => r = aShift S (nI b) (nI in1) (nI b2) (nI jn1) (nI nn) ∧ MR ad tc (nShift S (nI b) (nI in1) (nI b2) (nI jn1) (nI nn)) w) args s D A) D A 7 (hm ad tc g h el u v sf1) 113 [(6, .int (nI i)), (0, .ref (ad 0)), (1, .int (nI b)), (2, .int (nI in1)), (3, .int (nI b2)), (4, .int (nI jn1)), (5, .int (nI nn))] [] := by
                              intro mm
                              induction mm with
                              | zero => intro i sf1 h1 h2; exfalso; omega
                              | succ mm ih =>
                                intro i sf1 hi1 hi2 hc
                                refine E_iload C dX11_shift_113 0 rfl (E_iload C dX11_shift_115 6 rfl (E_icmp_ge C 147 dX11_shift_117 (by decide) (fun c117 => ?_) (fun c117 => ?_)))
                                ·
                                  have hi : i = nn := by
                                    rcases Nat.lt_or_ge i nn with q | q
                                    · exact absurd (show nI nn ≤ nI i from c117) (nI_ge q (by omega))
                                    · omega
                                  refine E_iconst (v := 0) C dX11_shift_147 ic_0 (E_istore C dX11_shift_148 (by decide) ?_)
                                  rw [hi] at hc
                                  have K2 : ∀ (mm i : Nat) (el1 : Nat → Int64), i ≤ nn → nn < i + mm → (∀ t, (t < 60 * b2 + jn1 ∨ 60 * b2 + jn1 + i ≤ t) → el1 t = el t) → (∀ t, t < i → el1 (60 * b2 + jn1 + t) = el (60 * b + in1 + t)) → Ev p l e R s m args below meth c 0 0 (EQ below (PI fun r w => r = aShift S (nI b) (nI in1) (nI b2) (nI jn1) (nI nn) ∧ MR ad tc (nShift S (nI b) (nI in1) (nI b2) (nI jn1) (nI nn)) w) args s D A) D A 7 (hm ad tc g h el1 u v sf1) 150 [(6, .int (nI i)), (0, .ref (ad 0)), (1, .int (nI b)), (2, .int (nI in1)), (3, .int (nI b2)), (4, .int (nI jn1)), (5, .int (nI nn))] [] := by
                                    intro mm
                                    induction mm with
                                    | zero => intro i el1 h1 h2; exfalso; omega
                                    | succ mm ih2 =>
                                      intro i el1 hi1 hi2 ho hz
                                      refine E_iload C dX11_shift_150 0 rfl (E_iload C dX11_shift_152 6 rfl (E_icmp_ge C 185 dX11_shift_154 (by decide) (fun c154 => ?_) (fun c154 => ?_)))
                                      ·
                                        have hi : i = nn := by
                                          rcases Nat.lt_or_ge i nn with q | q
                                          · exact absurd (show nI nn ≤ nI i from c154) (nI_ge q (by omega))
                                          · omega
                                        subst hi
                                        refine E_iload C dX11_shift_185 6 rfl (E_iretI C hr hlk dX11_shift_187 ?_)
                                        have hok : inS (nI b) = true ∧ inS (nI b2) = true ∧ shfB (S.2.2.2.2.2.2 (nI b).toNatClampNeg) (S.2.2.2.2.2.2 (nI b2).toNatClampNeg) (nI in1) (nI jn1) (nI i) = true := ⟨hx, hx2, by rw [hbc, hbc2]; exact decide_eq_true ⟨t1, t2, so, p1, p2⟩⟩
                                        have hnx : nShift S (nI b) (nI in1) (nI b2) (nI jn1) (nI i) = _ := if_pos hok
                                        rw [hbc, hbc2, nI_clamp (show in1 < 2 ^ 31 by omega), nI_clamp (show jn1 < 2 ^ 31 by omega), nI_clamp (show i < 2 ^ 31 by omega)] at hnx
                                        rw [hnx]
                                        refine ⟨(ha3.trans (if_pos ⟨p1, p2⟩)).symm, ⟨_, _, _, _, _, _, rfl, M.shelf (fun _ _ _ => rfl) (fun _ _ => rfl) (fun _ _ => rfl) (fun j hj k hk => ho _ (by omega)) ?_⟩⟩
                                        refine ⟨hs2.1, hs2.2.1, hs2.2.2.1, fun _ => ⟨y1, y2, y3, y4, fun j hj => ?_⟩⟩
                                        have hj' : j < (S.2.2.2.2.2.2 b2).2.2.2.1 := hj
                                        show _ = (if jn1 ≤ j ∧ j < jn1 + i then (S.2.2.2.2.2.2 b).2.2.2.2 (in1 + (j - jn1)) else (S.2.2.2.2.2.2 b2).2.2.2.2 j)
                                        by_cases e : jn1 ≤ j ∧ j < jn1 + i
                                        · rw [if_pos e, show 60 * b2 + j = 60 * b2 + jn1 + (j - jn1) by omega, hz (j - jn1) (by omega), show 60 * b + in1 + (j - jn1) = 60 * b + (in1 + (j - jn1)) by omega]
                                          exact r5 _ (by omega)
                                        · rw [if_neg e, ho _ (by omega)]
                                          exact y5 j hj'
                                      ·
                                        have hi : i < nn := by
                                          rcases Nat.lt_or_ge i nn with q | q
                                          · exact q
                                          · exact absurd (show nI nn ≤ nI i from nI_le q (by omega)) c154
                                        refine E_aload_n C dX11_shift_157 1 rfl (mg_11_51 C dX11_shift_158 f_X11_105 (E_bipush (v := 60) C dX11_shift_161 bp_60 (E_iload_n C dX11_shift_163 4 rfl (E_imul C dX11_shift_164 ?_))))
                                        refine Ev.seti (show (60 : Int32) * nI b2 = nI (60 * b2) from pk_mul 60 b2) ?_
                                        refine E_iload C dX11_shift_165 5 rfl (E_iadd C dX11_shift_167 ?_)
                                        refine Ev.seti (nI_add _ _) ?_
                                        refine E_iload C dX11_shift_168 0 rfl (E_iadd C dX11_shift_170 ?_)
                                        refine Ev.seti (nI_add _ _) ?_
                                        refine E_aload_n C dX11_shift_171 1 rfl (mg_11_52 C dX11_shift_172 f_X11_109 (E_iload C dX11_shift_175 0 rfl (ma_31 C dX11_shift_177 (vinN (by omega)) ?_)))
                                        rw [nI_clamp (show i < 2 ^ 31 by omega)]
                                        refine Ev.setl (hc i hi) ?_
                                        refine ms_30 C dX11_shift_178 (vinN (by omega)) ?_
                                        rw [nI_clamp (show (60 * b2 + jn1 + i) < 2 ^ 31 by omega)]
                                        refine E_iinc C dX11_shift_179 0 rfl (nI_1 i) (by decide) (E_goto C 150 dX11_shift_182 (by decide) ?_)
                                        exact ih2 (i + 1) _ (by omega) (by omega) (fun t ht => (updL_ne (by omega)).trans (ho t (by omega))) (fun t ht => by
                                          by_cases e : t = i
                                          · rw [e]; exact updL_at
                                          · exact (updL_ne (by omega)).trans (hz t (by omega)))
                                  exact Ev.sub [0, 1, 2, 3, 4, 5, 6] rfl (K2 (nn + 1) 0 el (by omega) (by omega) (fun _ _ => rfl) (fun t ht => by omega))
                                ·
                                  have hi : i < nn := by
                                    rcases Nat.lt_or_ge i nn with q | q
                                    · exact q
                                    · exact absurd (show nI nn ≤ nI i from nI_le q (by omega)) c117
                                  refine E_aload_n C dX11_shift_120 1 rfl (mg_11_52 C dX11_shift_121 f_X11_109 (E_iload C dX11_shift_124 0 rfl (E_aload_n C dX11_shift_126 1 rfl (mg_11_51 C dX11_shift_127 f_X11_105 (E_bipush (v := 60) C dX11_shift_130 bp_60 ?_)))))
                                  refine E_iload_n C dX11_shift_132 2 rfl (E_imul C dX11_shift_133 ?_)
                                  refine Ev.seti (show (60 : Int32) * nI b = nI (60 * b) from pk_mul 60 b) ?_
                                  refine E_iload_n C dX11_shift_134 3 rfl (E_iadd C dX11_shift_135 ?_)
                                  refine Ev.seti (nI_add _ _) ?_
                                  refine E_iload C dX11_shift_136 0 rfl (E_iadd C dX11_shift_138 ?_)
                                  refine Ev.seti (nI_add _ _) ?_
                                  refine ma_30 C dX11_shift_139 (vinN (by omega)) ?_
                                  rw [nI_clamp (show (60 * b + in1 + i) < 2 ^ 31 by omega)]
                                  refine ms_31 C dX11_shift_140 (vinN (by omega)) ?_
                                  rw [nI_clamp (show i < 2 ^ 31 by omega)]
                                  refine E_iinc C dX11_shift_141 0 rfl (nI_1 i) (by decide) (E_goto C 113 dX11_shift_144 (by decide) ?_)
                                  exact ih (i + 1) _ (by omega) (by omega) (fun j hj => by
                                    by_cases e : j = i
                                    · rw [e]; exact updL_at
                                    · exact (updL_ne e).trans (hc j (by omega)))
                            exact Ev.sub [0, 1, 2, 3, 4, 5, 6] rfl (K (nn + 1) 0 sf (by omega) (by omega) (fun j hj => by omega))
                          ·
                            have hno : ¬ (hpB (nI (S.2.2.2.2.2.2 b).2.2.2.1) (nI in1) (nI nn) = true ∧ hpB (nI (S.2.2.2.2.2.2 b2).2.2.2.1) (nI jn1) (nI nn) = true) := fun q => hpB_not y4 hjn hnn (by have := (shf_gt y4 hjn hnn).mp (Int32.not_le.mp c104); omega) q.2
                            refine E_bipush (v := -13) C dX11_shift_107 bp_m13 (E_iretI C hr hlk dX11_shift_109 ?_)
                            have hnx : nShift S (nI b) (nI in1) (nI b2) (nI jn1) (nI nn) = S := if_neg (fun q => by rw [hbc, hbc2] at q; have q3 := of_decide_eq_true q.2.2; exact hno ⟨q3.2.2.2.1, q3.2.2.2.2⟩)
                            rw [hnx]
                            exact ⟨(ha3.trans (if_neg hno)).symm, ⟨g, h, el, u, v, sf, rfl, M⟩⟩
                ·
                  have so : ¬ ((S.2.2.2.2.2.2 b).1 = 2 ∧ (S.2.2.2.2.2.2 b2).1 = 2 ∧ (S.2.2.2.2.2.2 b).2.2.1 = (S.2.2.2.2.2.2 b2).2.2.1) := fun z => c60 (by rw [(hs2.2.2.2 z.2.1).1, z.2.2])
                  refine E_bipush (v := -12) C dX11_shift_63 bp_m12 (E_iretI C hr hlk dX11_shift_65 ?_)
                  have hnx : nShift S (nI b) i0 (nI b2) j0 n0 = S := if_neg (fun q => by rw [hbc, hbc2] at q; have q3 := of_decide_eq_true q.2.2; exact so ⟨q3.1, q3.2.1, q3.2.2.1⟩)
                  rw [hnx]
                  exact ⟨(ha2.trans (if_neg so)).symm, ⟨g, h, el, u, v, sf, rfl, M⟩⟩
            ·
              have z2 := (hs2.e0 hnb).mp c33
              refine E_bipush (v := -11) C dX11_shift_36 bp_m11 (E_iretI C hr hlk dX11_shift_38 ?_)
              have hnx : nShift S (nI b) i0 (nI b2) j0 n0 = S := if_neg (fun q => by rw [hbc, hbc2] at q; have q3 := of_decide_eq_true q.2.2; exact absurd (z2.symm.trans q3.2.1) (by decide))
              rw [hnx]
              exact ⟨(ha.trans (if_pos (Or.inr z2))).symm, ⟨g, h, el, u, v, sf, rfl, M⟩⟩
        ·
          exact absurd hx2 (ite_0 c11)
    ·
      refine Ct.of (by decide +kernel) (Nat.le_of_ble_eq_true rfl) ?_
      intro p e R s m args below meth c A C hr hlk
      refine E_iload_n C dX11_shift_0 1 rfl (E_callSI C dX11_shift_1 ms_X11_129 _ (m_isShelf (nI b)) rfl rfl (by decide) (Nat.le_of_ble_eq_true rfl) ?_)
      rintro _ _ ⟨rfl, rfl⟩
      refine E_if_eq C 14 dX11_shift_4 (by decide) (fun c4 => ?_) (fun c4 => ?_)
      ·
        exact absurd hx (ite_0 c4)
      ·
        refine E_iload_n C dX11_shift_7 3 rfl (E_callSI C dX11_shift_8 ms_X11_129 _ (m_isShelf x2) rfl rfl (by decide) (Nat.le_of_ble_eq_true rfl) ?_)
        rintro _ _ ⟨rfl, rfl⟩
        refine E_if_ne C 16 dX11_shift_11 (by decide) (fun c11 => ?_) (fun c11 => ?_)
        ·
          exact absurd (ite_1 c11) hx2
        ·
          refine E_iconst (v := -1) C dX11_shift_14 ic_m1 (E_iretI C hr hlk dX11_shift_15 ?_)
          have hnx : nShift S (nI b) i0 x2 j0 n0 = S := if_neg (fun q => hx2 q.2.1)
          rw [hnx]
          exact ⟨(if_neg (fun q => hx2 q.2)).symm, ⟨g, h, el, u, v, sf, rfl, M⟩⟩
  ·
    refine Ct.of (by decide +kernel) (Nat.le_of_ble_eq_true rfl) ?_
    intro p e R s m args below meth c A C hr hlk
    refine E_iload_n C dX11_shift_0 1 rfl (E_callSI C dX11_shift_1 ms_X11_129 _ (m_isShelf x0) rfl rfl (by decide) (Nat.le_of_ble_eq_true rfl) ?_)
    rintro _ _ ⟨rfl, rfl⟩
    refine E_if_eq C 14 dX11_shift_4 (by decide) (fun c4 => ?_) (fun c4 => ?_)
    ·
      refine E_iconst (v := -1) C dX11_shift_14 ic_m1 (E_iretI C hr hlk dX11_shift_15 ?_)
      have hnx : nShift S x0 i0 x2 j0 n0 = S := if_neg (fun q => hx q.1)
      rw [hnx]
      exact ⟨(if_neg (fun q => hx q.1)).symm, ⟨g, h, el, u, v, sf, rfl, M⟩⟩
    ·
      exact absurd (ite_1 c4) hx
set_option maxRecDepth 100000 in
set_option maxHeartbeats 4000000 in
theorem m_wrongIn {l : Launch} {D : va_G} {tc tt ad : Nat → Nat} {g : Nat → Int32} {h : Nat → Nat → Int32} {el : Nat → Int64} {u : Nat → Int32} {v : Nat → Nat → Int32} {sf : Nat → Int64} {n : Nat} {N : Nat → Nat → Nat} (hA : MA n N g h) {L : Nat → Nat → Nat → Nat → Nat → Nat} (hL : MLw g h L) {nb b : Nat} {q : SHT} (hs : MSh nb q b h el) (hb6 : b < 6) (hnb : nb ≤ 50) (hz : q.1 = 2 ∧ q.2.2.1 = 0) {t : Nat} (ht : t < 2 ^ n) : Ct l yX11_wrongIn cX11_wrongIn 4 (some .int) 8 D tc tt [.ref (ad 0), .int (nI b), .int (nI t)] (hm ad tc g h el u v sf) (PI fun r w => r = fuR q (whole N L t).2.2.2.1 61 0 ∧ ∃ u' v', w = hm ad tc g h el u' v' sf) := by
  have hn := hA.1
  have hn8 := hA.2.1
  have hp := p256 hn8
  have hB := hA.2.2.2.2.1
  have hwi := whole_inv hB (L := L) (show t < 256 by omega)
  have hgl8 : (whole N L t).2.2.2.1.length ≤ 8 := by rw [hwi.2.2]; exact pop_le _
  obtain ⟨r1, r2, r3, r4, r5⟩ := hs.2.2.2 hz.1
  refine Ct.of (by decide +kernel) (Nat.le_of_ble_eq_true rfl) ?_
  intro p e R s m args below meth c A C hr hlk
  refine E_aload_n C dX11_wrongIn_0 0 rfl (E_iload_n C dX11_wrongIn_1 2 rfl (E_callVV C dX11_wrongIn_2 mv_X11_287 0 _ (m_goDrive hA hL ht) rfl rfl rfl (by decide) (Nat.le_of_ble_eq_true rfl) ?_))
  rintro _ ⟨u2, v2, rfl, hq, ku, kv⟩
  refine E_iconst (v := 0) C dX11_wrongIn_5 ic_0 (E_istore_n C dX11_wrongIn_6 (by decide) ?_)
  have K : ∀ (mm k : Nat), k ≤ 8 → 8 < k + mm → k ≤ (whole N L t).2.2.2.1.length → fuR q (whole N L t).2.2.2.1 61 0 = fuR q (whole N L t).2.2.2.1 (61 - k) k → Ev p l e R s m args below meth c 0 0 (EQ below (PI fun r w => r = fuR q (whole N L t).2.2.2.1 61 0 ∧ ∃ u' v', w = hm ad tc g h el u' v' sf) args s D A) D A 4 (hm ad tc g h el u2 v2 sf) 7 [(3, .int (nI k)), (0, .ref (ad 0)), (1, .int (nI b)), (2, .int (nI t))] [] := by
    intro mm
    induction mm with
    | zero => intro k h1 h2; exfalso; omega
    | succ mm ih =>
      intro k hk8 hkm hkg hres
      refine E_iconst (v := 2) C dX11_wrongIn_7 ic_2 (E_iload_n C dX11_wrongIn_8 0 rfl (E_imul C dX11_wrongIn_9 ?_))
      refine Ev.seti (show (2 : Int32) * nI k = nI (2 * k) from pk_mul 2 k) ?_
      refine E_aload_n C dX11_wrongIn_10 1 rfl (mg_11_50 C dX11_wrongIn_11 f_X11_102 (E_iload_n C dX11_wrongIn_14 2 rfl (ma_29 C dX11_wrongIn_15 (vinN (by omega)) ?_)))
      rw [nI_clamp (show b < 2 ^ 31 by omega)]
      refine Ev.seti r3 ?_
      refine E_icmp_lt C 27 dX11_wrongIn_16 (by decide) (fun c16 => ?_) (fun c16 => ?_)
      ·
        have hsz : 2 * k < q.2.2.2.1 := (nI_ltI (by omega) (by omega)).mp c16
        refine E_iconst (v := 2) C dX11_wrongIn_27 ic_2 (E_iload_n C dX11_wrongIn_28 0 rfl (E_imul C dX11_wrongIn_29 ?_))
        refine Ev.seti (show (2 : Int32) * nI k = nI (2 * k) from pk_mul 2 k) ?_
        refine E_iconst (v := 1) C dX11_wrongIn_30 ic_1 (E_iadd C dX11_wrongIn_31 ?_)
        refine Ev.seti (nI_1 (2 * k)) ?_
        refine E_aload_n C dX11_wrongIn_32 1 rfl (mg_11_50 C dX11_wrongIn_33 f_X11_102 (E_iload_n C dX11_wrongIn_36 2 rfl (ma_29 C dX11_wrongIn_37 (vinN (by omega)) ?_)))
        rw [nI_clamp (show b < 2 ^ 31 by omega)]
        refine Ev.seti r3 ?_
        refine E_icmp_ge C 49 dX11_wrongIn_38 (by decide) (fun c38 => ?_) (fun c38 => ?_)
        ·
          have hs2 : ¬ 2 * k + 1 < q.2.2.2.1 := fun z => nI_ge z (by omega) c38
          refine E_iload_n C dX11_wrongIn_49 0 rfl (E_iretI C hr hlk dX11_wrongIn_50 ?_)
          by_cases hk2 : k < (whole N L t).2.2.2.1.length
          · have hkl := hk2
            have hge : (whole N L t).2.2.2.1[k]? = some ((whole N L t).2.2.2.1[k]) := List.getElem?_eq_getElem hkl
            have hk9 := (hq.2.2.2.2.2.2 trivial).2 k _ _ _ hge
            have e61 : 61 - k = (60 - k) + 1 := by omega
            have hfu := hres
            rw [e61, fuR_s hge] at hfu
            have e := hfu.trans (if_neg (fun z => by omega))
            exact ⟨e.symm, _, _, rfl⟩
          · have hkl := hk2
            have hgl0 : (whole N L t).2.2.2.1.length ≤ k := Nat.not_lt.mp hkl
            have e61 : 61 - k = (60 - k) + 1 := by omega
            have hfu := hres
            rw [e61, fuR_n hgl0] at hfu
            have e := hfu.trans (if_neg (by omega))
            exact ⟨e.symm, _, _, rfl⟩
        ·
          have hs2 : 2 * k + 1 < q.2.2.2.1 := Classical.byContradiction fun z => c38 (nI_le (Nat.not_lt.mp z) (by omega))
          refine E_iload_n C dX11_wrongIn_41 0 rfl (E_aload_n C dX11_wrongIn_42 1 rfl (mg_11_34 C dX11_wrongIn_43 f_X11_249 ?_))
          refine Ev.seti hq.2.2.2.2.1 ?_
          refine E_icmp_lt C 51 dX11_wrongIn_46 (by decide) (fun c46 => ?_) (fun c46 => ?_)
          ·
            have hkl : k < (whole N L t).2.2.2.1.length := (nI_ltI (by omega) (by omega)).mp c46
            have hge : (whole N L t).2.2.2.1[k]? = some ((whole N L t).2.2.2.1[k]) := List.getElem?_eq_getElem hkl
            have hk9 := (hq.2.2.2.2.2.2 trivial).2 k _ _ _ hge
            have e61 : 61 - k = (60 - k) + 1 := by omega
            have hfu := hres
            rw [e61, fuR_s hge] at hfu
            refine E_aload_n C dX11_wrongIn_51 1 rfl (mg_11_51 C dX11_wrongIn_52 f_X11_105 (E_bipush (v := 60) C dX11_wrongIn_55 bp_60 (E_iload_n C dX11_wrongIn_57 2 rfl (E_imul C dX11_wrongIn_58 ?_))))
            refine Ev.seti (show (60 : Int32) * nI b = nI (60 * b) from pk_mul 60 b) ?_
            refine E_iconst (v := 2) C dX11_wrongIn_59 ic_2 (E_iload_n C dX11_wrongIn_60 0 rfl (E_imul C dX11_wrongIn_61 ?_))
            refine Ev.seti (show (2 : Int32) * nI k = nI (2 * k) from pk_mul 2 k) ?_
            refine E_iadd C dX11_wrongIn_62 ?_
            refine Ev.seti (nI_add _ _) ?_
            refine ma_30 C dX11_wrongIn_63 (vinN (by omega)) ?_
            rw [nI_clamp (show (60 * b + 2 * k) < 2 ^ 31 by omega)]
            refine Ev.setl (r5 _ (by omega)) ?_
            refine E_aload_n C dX11_wrongIn_64 1 rfl (mg_11_37 C dX11_wrongIn_65 f_X11_75 (E_iload_n C dX11_wrongIn_68 0 rfl (ma_20 C dX11_wrongIn_69 (vinN (by omega)) ?_)))
            rw [nI_clamp (show k < 2 ^ 31 by omega)]
            refine Ev.seti hk9.1 ?_
            refine E_i2l C dX11_wrongIn_70 (E_lcmp C dX11_wrongIn_71 (E_if_ne C 101 dX11_wrongIn_72 (by decide) (fun c72 => ?_) (fun c72 => ?_)))
            ·
              have hno := fun z => c72 (lg_cmp0.mpr z)
              refine E_iload_n C dX11_wrongIn_101 0 rfl (E_iretI C hr hlk dX11_wrongIn_102 ?_)
              have e := hfu.trans (if_neg (fun z => hno z.2.1))
              exact ⟨e.symm, _, _, rfl⟩
            ·
              have he1 := lg_cmp0.mp c72
              refine E_aload_n C dX11_wrongIn_75 1 rfl (mg_11_51 C dX11_wrongIn_76 f_X11_105 (E_bipush (v := 60) C dX11_wrongIn_79 bp_60 (E_iload_n C dX11_wrongIn_81 2 rfl (E_imul C dX11_wrongIn_82 ?_))))
              refine Ev.seti (show (60 : Int32) * nI b = nI (60 * b) from pk_mul 60 b) ?_
              refine E_iconst (v := 2) C dX11_wrongIn_83 ic_2 (E_iload_n C dX11_wrongIn_84 0 rfl (E_imul C dX11_wrongIn_85 ?_))
              refine Ev.seti (show (2 : Int32) * nI k = nI (2 * k) from pk_mul 2 k) ?_
              refine E_iadd C dX11_wrongIn_86 ?_
              refine Ev.seti (nI_add _ _) ?_
              refine E_iconst (v := 1) C dX11_wrongIn_87 ic_1 (E_iadd C dX11_wrongIn_88 ?_)
              refine Ev.seti (nI_1 _) ?_
              refine ma_30 C dX11_wrongIn_89 (vinN (by omega)) ?_
              rw [nI_clamp (show (60 * b + 2 * k + 1) < 2 ^ 31 by omega)]
              refine Ev.setl (show el (60 * b + (2 * k + 1)) = _ from r5 _ (by omega)) ?_
              refine E_aload_n C dX11_wrongIn_90 1 rfl (mg_11_39 C dX11_wrongIn_91 f_X11_81 (E_iload_n C dX11_wrongIn_94 0 rfl (ma_22 C dX11_wrongIn_95 (vinN (by omega)) ?_)))
              rw [nI_clamp (show k < 2 ^ 31 by omega)]
              refine Ev.seti hk9.2.2 ?_
              refine E_i2l C dX11_wrongIn_96 (E_lcmp C dX11_wrongIn_97 (E_if_eq C 103 dX11_wrongIn_98 (by decide) (fun c98 => ?_) (fun c98 => ?_)))
              ·
                have he2 := lg_cmp0.mp c98
                have hnext := hfu.trans (if_pos ⟨by omega, he1, he2⟩)
                refine E_iinc C dX11_wrongIn_103 0 rfl (nI_1 k) (by decide) (E_goto C 7 dX11_wrongIn_106 (by decide) ?_)
                exact ih (k + 1) (by omega) (by omega) (by omega) (by rw [hnext, show 61 - (k + 1) = 60 - k by omega])
              ·
                have hno := fun z => c98 (lg_cmp0.mpr z)
                refine E_iload_n C dX11_wrongIn_101 0 rfl (E_iretI C hr hlk dX11_wrongIn_102 ?_)
                have e := hfu.trans (if_neg (fun z => hno z.2.2))
                exact ⟨e.symm, _, _, rfl⟩
          ·
            have hkl : ¬ k < (whole N L t).2.2.2.1.length := fun z => c46 (nI_lt z (by omega))
            refine E_iload_n C dX11_wrongIn_49 0 rfl (E_iretI C hr hlk dX11_wrongIn_50 ?_)
            by_cases hk2 : k < (whole N L t).2.2.2.1.length
            · have hkl := hk2
              have hge : (whole N L t).2.2.2.1[k]? = some ((whole N L t).2.2.2.1[k]) := List.getElem?_eq_getElem hkl
              have hk9 := (hq.2.2.2.2.2.2 trivial).2 k _ _ _ hge
              have e61 : 61 - k = (60 - k) + 1 := by omega
              have hfu := hres
              rw [e61, fuR_s hge] at hfu
              have e := hfu.trans (if_neg (fun z => by omega))
              exact ⟨e.symm, _, _, rfl⟩
            · have hkl := hk2
              have hgl0 : (whole N L t).2.2.2.1.length ≤ k := Nat.not_lt.mp hkl
              have e61 : 61 - k = (60 - k) + 1 := by omega
              have hfu := hres
              rw [e61, fuR_n hgl0] at hfu
              have e := hfu.trans (if_neg (by omega))
              exact ⟨e.symm, _, _, rfl⟩
      ·
        have hsz : ¬ 2 * k < q.2.2.2.1 := fun z => c16 (nI_lt z (by omega))
        refine E_iload_n C dX11_wrongIn_19 0 rfl (E_aload_n C dX11_wrongIn_20 1 rfl (mg_11_34 C dX11_wrongIn_21 f_X11_249 ?_))
        refine Ev.seti hq.2.2.2.2.1 ?_
        refine E_icmp_ge C 109 dX11_wrongIn_24 (by decide) (fun c24 => ?_) (fun c24 => ?_)
        ·
          have hkl : ¬ k < (whole N L t).2.2.2.1.length := fun z => nI_ge z (by omega) c24
          have hgl0 : (whole N L t).2.2.2.1.length ≤ k := Nat.not_lt.mp hkl
          have e61 : 61 - k = (60 - k) + 1 := by omega
          have hfu := hres
          rw [e61, fuR_n hgl0] at hfu
          refine E_bipush (v := -2) C dX11_wrongIn_109 bp_m2 (E_iretI C hr hlk dX11_wrongIn_111 ?_)
          have e := hfu.trans (if_pos (Nat.not_lt.mp hsz))
          exact ⟨e.symm, _, _, rfl⟩
        ·
          have hkl : k < (whole N L t).2.2.2.1.length := Classical.byContradiction fun z => c24 (nI_le (Nat.not_lt.mp z) (by omega))
          refine E_iconst (v := 2) C dX11_wrongIn_27 ic_2 (E_iload_n C dX11_wrongIn_28 0 rfl (E_imul C dX11_wrongIn_29 ?_))
          refine Ev.seti (show (2 : Int32) * nI k = nI (2 * k) from pk_mul 2 k) ?_
          refine E_iconst (v := 1) C dX11_wrongIn_30 ic_1 (E_iadd C dX11_wrongIn_31 ?_)
          refine Ev.seti (nI_1 (2 * k)) ?_
          refine E_aload_n C dX11_wrongIn_32 1 rfl (mg_11_50 C dX11_wrongIn_33 f_X11_102 (E_iload_n C dX11_wrongIn_36 2 rfl (ma_29 C dX11_wrongIn_37 (vinN (by omega)) ?_)))
          rw [nI_clamp (show b < 2 ^ 31 by omega)]
          refine Ev.seti r3 ?_
          refine E_icmp_ge C 49 dX11_wrongIn_38 (by decide) (fun c38 => ?_) (fun c38 => ?_)
          ·
            have hs2 : ¬ 2 * k + 1 < q.2.2.2.1 := fun z => nI_ge z (by omega) c38
            refine E_iload_n C dX11_wrongIn_49 0 rfl (E_iretI C hr hlk dX11_wrongIn_50 ?_)
            by_cases hk2 : k < (whole N L t).2.2.2.1.length
            · have hkl := hk2
              have hge : (whole N L t).2.2.2.1[k]? = some ((whole N L t).2.2.2.1[k]) := List.getElem?_eq_getElem hkl
              have hk9 := (hq.2.2.2.2.2.2 trivial).2 k _ _ _ hge
              have e61 : 61 - k = (60 - k) + 1 := by omega
              have hfu := hres
              rw [e61, fuR_s hge] at hfu
              have e := hfu.trans (if_neg (fun z => by omega))
              exact ⟨e.symm, _, _, rfl⟩
            · have hkl := hk2
              have hgl0 : (whole N L t).2.2.2.1.length ≤ k := Nat.not_lt.mp hkl
              have e61 : 61 - k = (60 - k) + 1 := by omega
              have hfu := hres
              rw [e61, fuR_n hgl0] at hfu
              have e := hfu.trans (if_neg (by omega))
              exact ⟨e.symm, _, _, rfl⟩
          ·
            have hs2 : 2 * k + 1 < q.2.2.2.1 := Classical.byContradiction fun z => c38 (nI_le (Nat.not_lt.mp z) (by omega))
            refine E_iload_n C dX11_wrongIn_41 0 rfl (E_aload_n C dX11_wrongIn_42 1 rfl (mg_11_34 C dX11_wrongIn_43 f_X11_249 ?_))
            refine Ev.seti hq.2.2.2.2.1 ?_
            refine E_icmp_lt C 51 dX11_wrongIn_46 (by decide) (fun c46 => ?_) (fun c46 => ?_)
            ·
              have hkl : k < (whole N L t).2.2.2.1.length := (nI_ltI (by omega) (by omega)).mp c46
              have hge : (whole N L t).2.2.2.1[k]? = some ((whole N L t).2.2.2.1[k]) := List.getElem?_eq_getElem hkl
              have hk9 := (hq.2.2.2.2.2.2 trivial).2 k _ _ _ hge
              have e61 : 61 - k = (60 - k) + 1 := by omega
              have hfu := hres
              rw [e61, fuR_s hge] at hfu
              refine E_aload_n C dX11_wrongIn_51 1 rfl (mg_11_51 C dX11_wrongIn_52 f_X11_105 (E_bipush (v := 60) C dX11_wrongIn_55 bp_60 (E_iload_n C dX11_wrongIn_57 2 rfl (E_imul C dX11_wrongIn_58 ?_))))
              refine Ev.seti (show (60 : Int32) * nI b = nI (60 * b) from pk_mul 60 b) ?_
              refine E_iconst (v := 2) C dX11_wrongIn_59 ic_2 (E_iload_n C dX11_wrongIn_60 0 rfl (E_imul C dX11_wrongIn_61 ?_))
              refine Ev.seti (show (2 : Int32) * nI k = nI (2 * k) from pk_mul 2 k) ?_
              refine E_iadd C dX11_wrongIn_62 ?_
              refine Ev.seti (nI_add _ _) ?_
              refine ma_30 C dX11_wrongIn_63 (vinN (by omega)) ?_
              rw [nI_clamp (show (60 * b + 2 * k) < 2 ^ 31 by omega)]
              refine Ev.setl (r5 _ (by omega)) ?_
              refine E_aload_n C dX11_wrongIn_64 1 rfl (mg_11_37 C dX11_wrongIn_65 f_X11_75 (E_iload_n C dX11_wrongIn_68 0 rfl (ma_20 C dX11_wrongIn_69 (vinN (by omega)) ?_)))
              rw [nI_clamp (show k < 2 ^ 31 by omega)]
              refine Ev.seti hk9.1 ?_
              refine E_i2l C dX11_wrongIn_70 (E_lcmp C dX11_wrongIn_71 (E_if_ne C 101 dX11_wrongIn_72 (by decide) (fun c72 => ?_) (fun c72 => ?_)))
              ·
                have hno := fun z => c72 (lg_cmp0.mpr z)
                refine E_iload_n C dX11_wrongIn_101 0 rfl (E_iretI C hr hlk dX11_wrongIn_102 ?_)
                have e := hfu.trans (if_neg (fun z => hno z.2.1))
                exact ⟨e.symm, _, _, rfl⟩
              ·
                have he1 := lg_cmp0.mp c72
                refine E_aload_n C dX11_wrongIn_75 1 rfl (mg_11_51 C dX11_wrongIn_76 f_X11_105 (E_bipush (v := 60) C dX11_wrongIn_79 bp_60 (E_iload_n C dX11_wrongIn_81 2 rfl (E_imul C dX11_wrongIn_82 ?_))))
                refine Ev.seti (show (60 : Int32) * nI b = nI (60 * b) from pk_mul 60 b) ?_
                refine E_iconst (v := 2) C dX11_wrongIn_83 ic_2 (E_iload_n C dX11_wrongIn_84 0 rfl (E_imul C dX11_wrongIn_85 ?_))
                refine Ev.seti (show (2 : Int32) * nI k = nI (2 * k) from pk_mul 2 k) ?_
                refine E_iadd C dX11_wrongIn_86 ?_
                refine Ev.seti (nI_add _ _) ?_
                refine E_iconst (v := 1) C dX11_wrongIn_87 ic_1 (E_iadd C dX11_wrongIn_88 ?_)
                refine Ev.seti (nI_1 _) ?_
                refine ma_30 C dX11_wrongIn_89 (vinN (by omega)) ?_
                rw [nI_clamp (show (60 * b + 2 * k + 1) < 2 ^ 31 by omega)]
                refine Ev.setl (show el (60 * b + (2 * k + 1)) = _ from r5 _ (by omega)) ?_
                refine E_aload_n C dX11_wrongIn_90 1 rfl (mg_11_39 C dX11_wrongIn_91 f_X11_81 (E_iload_n C dX11_wrongIn_94 0 rfl (ma_22 C dX11_wrongIn_95 (vinN (by omega)) ?_)))
                rw [nI_clamp (show k < 2 ^ 31 by omega)]
                refine Ev.seti hk9.2.2 ?_
                refine E_i2l C dX11_wrongIn_96 (E_lcmp C dX11_wrongIn_97 (E_if_eq C 103 dX11_wrongIn_98 (by decide) (fun c98 => ?_) (fun c98 => ?_)))
                ·
                  have he2 := lg_cmp0.mp c98
                  have hnext := hfu.trans (if_pos ⟨by omega, he1, he2⟩)
                  refine E_iinc C dX11_wrongIn_103 0 rfl (nI_1 k) (by decide) (E_goto C 7 dX11_wrongIn_106 (by decide) ?_)
                  exact ih (k + 1) (by omega) (by omega) (by omega) (by rw [hnext, show 61 - (k + 1) = 60 - k by omega])
                ·
                  have hno := fun z => c98 (lg_cmp0.mpr z)
                  refine E_iload_n C dX11_wrongIn_101 0 rfl (E_iretI C hr hlk dX11_wrongIn_102 ?_)
                  have e := hfu.trans (if_neg (fun z => hno z.2.2))
                  exact ⟨e.symm, _, _, rfl⟩
            ·
              have hkl : ¬ k < (whole N L t).2.2.2.1.length := fun z => c46 (nI_lt z (by omega))
              refine E_iload_n C dX11_wrongIn_49 0 rfl (E_iretI C hr hlk dX11_wrongIn_50 ?_)
              by_cases hk2 : k < (whole N L t).2.2.2.1.length
              · have hkl := hk2
                have hge : (whole N L t).2.2.2.1[k]? = some ((whole N L t).2.2.2.1[k]) := List.getElem?_eq_getElem hkl
                have hk9 := (hq.2.2.2.2.2.2 trivial).2 k _ _ _ hge
                have e61 : 61 - k = (60 - k) + 1 := by omega
                have hfu := hres
                rw [e61, fuR_s hge] at hfu
                have e := hfu.trans (if_neg (fun z => by omega))
                exact ⟨e.symm, _, _, rfl⟩
              · have hkl := hk2
                have hgl0 : (whole N L t).2.2.2.1.length ≤ k := Nat.not_lt.mp hkl
                have e61 : 61 - k = (60 - k) + 1 := by omega
                have hfu := hres
                rw [e61, fuR_n hgl0] at hfu
                have e := hfu.trans (if_neg (by omega))
                exact ⟨e.symm, _, _, rfl⟩
  exact Ev.sub [0, 1, 2, 3] rfl (K 9 0 (by decide) (by decide) (Nat.zero_le _) rfl)
theorem rfBn_ge {q : SHT} (h : ¬ rfBn q < 0) : rfBn q = 0 := by
  unfold rfBn at h ⊢
  repeat' split at h
  all_goals first | exact absurd (by decide) h | skip
  next a b => rw [if_neg a, if_pos b]
set_option maxRecDepth 100000 in
set_option maxHeartbeats 4000000 in
theorem q_judge {l : Launch} {D : va_G} {tc tt ad : Nat → Nat} {S : STT} {w0 : va_W} (hM : MR ad tc S w0) (x0 told : Int32) : Ct l yX11_judge cX11_judge 3 (some .int) 9 D tc tt [.ref (ad 0), .int x0, .int told] (w0) (PI fun r w => r = aJudge S x0 told ∧ MR ad tc S w) := by
  obtain ⟨g, h, el, u, v, sf, rfl, M⟩ := hM
  have hA := M.1
  have hn := M.1.1
  have hn8 := M.1.2.1
  have hML := M.2.2.2.2.2.2.2
  have hB := hA.2.2.2.2.1
  have hp1 := Nat.two_pow_pos S.1.1
  have m6 := M.2.2.2.2.2.1
  have hnb := m6.2.1
  by_cases hx : inS x0 = true
  ·
    obtain ⟨b, hb6, hbc, rfl⟩ := inS_ex hx
    have hs := M.2.2.2.2.2.2.1 b hb6
    refine Ct.of (by decide +kernel) (Nat.le_of_ble_eq_true rfl) ?_
    intro p e R s m args below meth c A C hr hlk
    refine E_iload_n C dX11_judge_0 1 rfl (E_callSI C dX11_judge_1 ms_X11_129 _ (m_isShelf (nI b)) rfl rfl (by decide) (Nat.le_of_ble_eq_true rfl) ?_)
    rintro _ _ ⟨rfl, rfl⟩
    refine E_if_eq C 15 dX11_judge_4 (by decide) (fun c4 => ?_) (fun c4 => ?_)
    ·
      exact absurd hx (ite_0 c4)
    ·
      refine E_aload_n C dX11_judge_7 0 rfl (E_iload_n C dX11_judge_8 2 rfl (E_callVI C dX11_judge_9 mv_X11_284 0 _ (m_isTold hn hn8 told) rfl rfl rfl (by decide) (Nat.le_of_ble_eq_true rfl) ?_))
      rintro _ _ ⟨rfl, rfl⟩
      refine E_if_ne C 17 dX11_judge_12 (by decide) (fun c12 => ?_) (fun c12 => ?_)
      ·
        have hkn := ite_1 c12
        obtain ⟨t, hlt, hcl, rfl⟩ := knB_ex hn8 hkn
        have ha : aJudge S (nI b) (nI t) = _ := if_pos ⟨hx, hkn⟩
        rw [hbc, hcl] at ha
        refine E_aload_n C dX11_judge_17 0 rfl (E_iload_n C dX11_judge_18 1 rfl (E_callVI C dX11_judge_19 mv_X11_329 0 _ (m_rowFault hs hb6 hnb) rfl rfl rfl (by decide) (Nat.le_of_ble_eq_true rfl) ?_))
        rintro _ _ ⟨rfl, rfl⟩
        refine E_if_ge C 33 dX11_judge_22 (by decide) (fun c22 => ?_) (fun c22 => ?_)
        ·
          have hz0 : rfBn (S.2.2.2.2.2.2 b) = 0 := rfBn_ge (Int32.not_lt.mpr c22)
          refine E_aload_n C dX11_judge_33 0 rfl (E_iload_n C dX11_judge_34 1 rfl (E_iload_n C dX11_judge_35 2 rfl (E_callVI C dX11_judge_36 mv_X11_332 0 _ (m_wrongIn hA hML hs hb6 hnb (rfBn_0 hz0) hlt) rfl rfl rfl (by decide) (Nat.le_of_ble_eq_true rfl) ?_)))
          rintro _ _ ⟨rfl, u2, v2, rfl⟩
          refine E_iretI C hr hlk dX11_judge_39 ?_
          exact ⟨(ha.trans (if_pos hz0)).symm, ⟨g, h, el, u2, v2, sf, rfl, M⟩⟩
        ·
          have hz0 : ¬ rfBn (S.2.2.2.2.2.2 b) = 0 := fun q => c22 (by rw [q]; decide)
          refine E_aload_n C dX11_judge_25 0 rfl (E_iload_n C dX11_judge_26 1 rfl (E_callVI C dX11_judge_27 mv_X11_329 0 _ (m_rowFault hs hb6 hnb) rfl rfl rfl (by decide) (Nat.le_of_ble_eq_true rfl) ?_))
          rintro _ _ ⟨rfl, rfl⟩
          refine E_goto C 39 dX11_judge_30 (by decide) (E_iretI C hr hlk dX11_judge_39 ?_)
          exact ⟨(ha.trans (if_neg hz0)).symm, ⟨g, h, el, u, v, sf, rfl, M⟩⟩
      ·
        have hkn := ite_0 c12
        refine E_iconst (v := -1) C dX11_judge_15 ic_m1 (E_iretI C hr hlk dX11_judge_16 ?_)
        exact ⟨(if_neg fun q => hkn q.2).symm, ⟨g, h, el, u, v, sf, rfl, M⟩⟩
  ·
    refine Ct.of (by decide +kernel) (Nat.le_of_ble_eq_true rfl) ?_
    intro p e R s m args below meth c A C hr hlk
    refine E_iload_n C dX11_judge_0 1 rfl (E_callSI C dX11_judge_1 ms_X11_129 _ (m_isShelf x0) rfl rfl (by decide) (Nat.le_of_ble_eq_true rfl) ?_)
    rintro _ _ ⟨rfl, rfl⟩
    refine E_if_eq C 15 dX11_judge_4 (by decide) (fun c4 => ?_) (fun c4 => ?_)
    ·
      refine E_iconst (v := -1) C dX11_judge_15 ic_m1 (E_iretI C hr hlk dX11_judge_16 ?_)
      exact ⟨(if_neg fun q => hx q.1).symm, ⟨g, h, el, u, v, sf, rfl, M⟩⟩
    ·
      exact absurd (ite_1 c4) hx
def dnF (P : Nat → Int32) (N : Nat) : Nat → Nat × Int32 × Nat
  | 0 => (0, -2, N - 1)
  | j + 1 => if P (N - 1 - j) = -2 then ((dnF P N j).1 + 1, nI (N - 1 - j), (dnF P N j).2.2 &&& (N - 1 - j)) else dnF P N j
theorem whF_y {P : Nat → Int32} {k : Nat} (h : P k = -2) : whF P (k + 1) = ((whF P k).1 + 1, if (whF P k).1 = 0 then nI k else (whF P k).2.1, if (whF P k).1 = 0 then k else (whF P k).2.2 &&& k) := if_pos h
theorem whF_n {P : Nat → Int32} {k : Nat} (h : ¬ P k = -2) : whF P (k + 1) = whF P k := if_neg h
theorem dnF_y {P : Nat → Int32} {N j : Nat} (h : P (N - 1 - j) = -2) : dnF P N (j + 1) = ((dnF P N j).1 + 1, nI (N - 1 - j), (dnF P N j).2.2 &&& (N - 1 - j)) := if_pos h
theorem dnF_n {P : Nat → Int32} {N j : Nat} (h : ¬ P (N - 1 - j) = -2) : dnF P N (j + 1) = dnF P N j := if_neg h
/-- both ways over all sets, met at k -/
def met (a b : Nat × Int32 × Nat) : Nat × Int32 × Nat := (a.1 + b.1, if a.1 = 0 then b.2.1 else a.2.1, if a.1 = 0 then b.2.2 else a.2.2 &&& b.2.2)
theorem met_s {P : Nat → Int32} {N k : Nat} (hk : k < N) : met (whF P (k + 1)) (dnF P N (N - (k + 1))) = met (whF P k) (dnF P N (N - k)) := by
  have e1 : N - k = (N - (k + 1)) + 1 := by omega
  have e2 : N - 1 - (N - (k + 1)) = k := by omega
  rw [e1]
  by_cases h : P k = -2
  · rw [dnF_y (by rw [e2]; exact h), e2, whF_y h]
    generalize whF P k = a
    generalize dnF P N (N - (k + 1)) = c
    unfold met
    by_cases z : a.1 = 0
    · simp only [z, if_true, Nat.zero_add, if_neg (show ¬ (1 : Nat) = 0 by decide)]
      refine Prod.ext (by show 1 + c.1 = c.1 + 1; omega) (Prod.ext rfl ?_)
      exact Nat.and_comm _ _
    · simp only [if_neg z, if_neg (show ¬ a.1 + 1 = 0 by omega)]
      refine Prod.ext (by show a.1 + 1 + c.1 = a.1 + (c.1 + 1); omega) (Prod.ext rfl ?_)
      show a.2.2 &&& k &&& c.2.2 = a.2.2 &&& (c.2.2 &&& k)
      rw [Nat.and_assoc, Nat.and_comm k]
  · rw [dnF_n (by rw [e2]; exact h), whF_n h]
theorem met_all {P : Nat → Int32} {N : Nat} : ∀ k, k ≤ N → met (whF P k) (dnF P N (N - k)) = met (whF P 0) (dnF P N N)
  | 0, _ => rfl
  | k + 1, h => (met_s h).trans (met_all k (by omega))
theorem whF_and {P : Nat → Int32} {N : Nat} : ∀ k, k ≤ N → (whF P k).1 ≠ 0 → (whF P k).2.2 < N
  | 0, _, h => absurd rfl h
  | k + 1, hk, h => by
    by_cases e : P k = -2
    · rw [whF_y e]
      show (if (whF P k).1 = 0 then k else (whF P k).2.2 &&& k) < N
      split
      · exact hk
      · exact Nat.lt_of_le_of_lt Nat.and_le_right hk
    · rw [whF_n e] at h ⊢
      exact whF_and k (by omega) h
theorem dn_wh {P : Nat → Int32} {n : Nat} : (dnF P (2 ^ n) (2 ^ n)).1 = (whF P (2 ^ n)).1 ∧ (dnF P (2 ^ n) (2 ^ n)).2.1 = (whF P (2 ^ n)).2.1 ∧ (if (dnF P (2 ^ n) (2 ^ n)).1 = 0 then 0 else (dnF P (2 ^ n) (2 ^ n)).2.2) = (whF P (2 ^ n)).2.2 := by
  have k := met_all (P := P) (N := 2 ^ n) (2 ^ n) (Nat.le_refl _)
  rw [Nat.sub_self] at k
  have k0 : met (whF P 0) (dnF P (2 ^ n) (2 ^ n)) = (0 + (dnF P (2 ^ n) (2 ^ n)).1, (dnF P (2 ^ n) (2 ^ n)).2.1, (dnF P (2 ^ n) (2 ^ n)).2.2) := rfl
  rw [k0] at k
  have h1 : (whF P (2 ^ n)).1 + 0 = 0 + (dnF P (2 ^ n) (2 ^ n)).1 := congrArg Prod.fst k
  have h2 : (if (whF P (2 ^ n)).1 = 0 then (-2 : Int32) else (whF P (2 ^ n)).2.1) = (dnF P (2 ^ n) (2 ^ n)).2.1 := congrArg (fun z => z.2.1) k
  have h3 : (if (whF P (2 ^ n)).1 = 0 then 2 ^ n - 1 else (whF P (2 ^ n)).2.2 &&& (2 ^ n - 1)) = (dnF P (2 ^ n) (2 ^ n)).2.2 := congrArg (fun z => z.2.2) k
  have hz : ∀ m, (whF P m).1 = 0 → (whF P m).2.1 = -2 ∧ (whF P m).2.2 = 0 := by
    intro m
    induction m with
    | zero => exact fun _ => ⟨rfl, rfl⟩
    | succ m ih =>
      intro h
      by_cases e : P m = -2
      · rw [whF_y e] at h
        have h' : (whF P m).1 + 1 = 0 := h
        omega
      · rw [whF_n e] at h ⊢
        exact ih h
  have e1 : (dnF P (2 ^ n) (2 ^ n)).1 = (whF P (2 ^ n)).1 := by omega
  refine ⟨e1, ?_, ?_⟩
  · rw [← h2]
    by_cases z : (whF P (2 ^ n)).1 = 0
    · rw [if_pos z, (hz _ z).1]
    · rw [if_neg z]
  · rw [e1, ← h3]
    by_cases z : (whF P (2 ^ n)).1 = 0
    · rw [if_pos z, (hz _ z).2]
    · rw [if_neg z, if_neg z]
      have hl := whF_and (P := P) (N := 2 ^ n) (2 ^ n) (Nat.le_refl _) z
      rw [Nat.and_two_pow_sub_one_eq_mod, Nat.mod_eq_of_lt hl]
theorem dnF_lt {P : Nat → Int32} {N : Nat} (hN : 0 < N) : ∀ j, (dnF P N j).2.2 < N ∧ (dnF P N j).1 ≤ j
  | 0 => ⟨by show N - 1 < N; omega, Nat.le_refl _⟩
  | j + 1 => by
    have k := dnF_lt (P := P) hN j
    by_cases e : P (N - 1 - j) = -2
    · rw [dnF_y e]
      exact ⟨Nat.lt_of_le_of_lt Nat.and_le_left k.1, Nat.succ_le_succ k.2⟩
    · rw [dnF_n e]
      exact ⟨k.1, by omega⟩
theorem dec1 {a j : Nat} (h : j < a) : nI (a - j) - 1 + (-1) = nI (a - (j + 1)) - 1 := by
  have e : nI (a - j) - 1 = nI (a - (j + 1)) := (pk_sub (b := 1) (by omega)).trans (congrArg nI (by omega))
  rw [e, Int32.sub_eq_add_neg]
set_option maxRecDepth 100000 in
set_option maxHeartbeats 4000000 in
theorem q_which {l : Launch} {D : va_G} {tc tt ad : Nat → Nat} {S : STT} {w0 : va_W} (hM : MR ad tc S w0) (x0 what : Int32) : Ct l yX11_which cX11_which 7 (some .int) 9 D tc tt [.ref (ad 0), .int x0, .int what] (w0) (PI fun r w => r = aWhich S x0 what ∧ MR ad tc S w) := by
  obtain ⟨g, h, el, u, v, sf, rfl, M⟩ := hM
  have hA := M.1
  have hn := M.1.1
  have hn8 := M.1.2.1
  have hML := M.2.2.2.2.2.2.2
  have hB := hA.2.2.2.2.1
  have hp1 := Nat.two_pow_pos S.1.1
  have m6 := M.2.2.2.2.2.1
  have hnb := m6.2.1
  have hp256 := p256 hn8
  by_cases hx : inS x0 = true
  ·
    obtain ⟨b, hb6, hbc, rfl⟩ := inS_ex hx
    have hs := M.2.2.2.2.2.2.1 b hb6
    refine Ct.of (by decide +kernel) (Nat.le_of_ble_eq_true rfl) ?_
    intro p e R s m args below meth c A C hr hlk
    refine E_iload_n C dX11_which_0 1 rfl (E_callSI C dX11_which_1 ms_X11_129 _ (m_isShelf (nI b)) rfl rfl (by decide) (Nat.le_of_ble_eq_true rfl) ?_)
    rintro _ _ ⟨rfl, rfl⟩
    refine E_if_eq C 16 dX11_which_4 (by decide) (fun c4 => ?_) (fun c4 => ?_)
    ·
      exact absurd hx (ite_0 c4)
    ·
      refine E_iload_n C dX11_which_7 2 rfl (E_iconst (v := 0) C dX11_which_8 ic_0 (E_iconst (v := 2) C dX11_which_9 ic_2 (E_callSI C dX11_which_10 ms_X11_118 _ (m_in what 0 2) rfl rfl (by decide) (Nat.le_of_ble_eq_true rfl) ?_)))
      rintro _ _ ⟨rfl, rfl⟩
      refine E_if_ne C 18 dX11_which_13 (by decide) (fun c13 => ?_) (fun c13 => ?_)
      ·
        have n1 := ite_1 c13
        have n2 := bet_eq.mp n1
        have ha0 : aWhich S (nI b) what = _ := if_pos ⟨hx, n2⟩
        rw [hbc] at ha0
        refine E_aload_n C dX11_which_18 0 rfl (E_iload_n C dX11_which_19 1 rfl (E_callVI C dX11_which_20 mv_X11_329 0 _ (m_rowFault hs hb6 hnb) rfl rfl rfl (by decide) (Nat.le_of_ble_eq_true rfl) ?_))
        rintro _ _ ⟨rfl, rfl⟩
        refine E_if_ge C 32 dX11_which_23 (by decide) (fun c23 => ?_) (fun c23 => ?_)
        ·
          have hz0 : rfBn (S.2.2.2.2.2.2 b) = 0 := rfBn_ge (Int32.not_lt.mpr c23)
          have ha := ha0.trans (if_pos hz0)
          unfold whK at ha
          refine E_iconst (v := 0) C dX11_which_32 ic_0 (E_istore_n C dX11_which_33 (by decide) (E_bipush (v := -2) C dX11_which_34 bp_m2 (E_istore C dX11_which_36 (by decide) (E_aload_n C dX11_which_38 2 rfl (E_callVI C dX11_which_39 mv_X11_262 0 _ (m_allThings hn hn8) rfl rfl rfl (by decide) (Nat.le_of_ble_eq_true rfl) ?_)))))
          rintro _ _ ⟨rfl, rfl⟩
          refine E_istore C dX11_which_42 (by decide) (E_aload_n C dX11_which_44 3 rfl (E_callVI C dX11_which_45 mv_X11_262 0 _ (m_allThings hn hn8) rfl rfl rfl (by decide) (Nat.le_of_ble_eq_true rfl) ?_))
          rintro _ _ ⟨rfl, rfl⟩
          refine Ev.seti (show nI (2 ^ S.1.1 - 1) = nI (2 ^ S.1.1 - 0) - 1 from (pk_sub (a := 2 ^ S.1.1 - 0) (b := 1) (by omega)).symm) ?_
          refine E_istore C dX11_which_48 (by decide) ?_
          have K : ∀ (mm j : Nat) (u1 : Nat → Int32) (v1 : Nat → Nat → Int32), j ≤ 2 ^ S.1.1 → 2 ^ S.1.1 < j + mm → Ev p l e R s m args below meth c 0 0 (EQ below (PI fun r w => r = aWhich S (nI b) what ∧ MR ad tc S w) args s D A) D A 7 (hm ad tc g h el u1 v1 sf) 50 [(6, .int (nI (2 ^ S.1.1 - j) - 1)), (5, .int (nI (dnF (judF S (S.2.2.2.2.2.2 b)) (2 ^ S.1.1) j).2.2)), (4, .int (dnF (judF S (S.2.2.2.2.2.2 b)) (2 ^ S.1.1) j).2.1), (3, .int (nI (dnF (judF S (S.2.2.2.2.2.2 b)) (2 ^ S.1.1) j).1)), (0, .ref (ad 0)), (1, .int (nI b)), (2, .int what)] [] := by
            intro mm
            induction mm with
            | zero => intro j u1 v1 h1 h2; exfalso; omega
            | succ mm ih =>
              intro j u1 v1 hj1 hj2
              refine E_iload C dX11_which_50 0 rfl (E_if_lt C 90 dX11_which_52 (by decide) (fun c52 => ?_) (fun c52 => ?_))
              ·
                have hj : j = 2 ^ S.1.1 := by
                  rcases Nat.lt_or_ge j (2 ^ S.1.1) with q | q
                  · have e9 : nI (2 ^ S.1.1 - j) - 1 = nI (2 ^ S.1.1 - j - 1) := pk_sub (b := 1) (by omega)
                    rw [e9] at c52
                    exact absurd c52 (nI_pos (by omega))
                  · omega
                subst hj
                obtain ⟨f1, f2, f3⟩ := dn_wh (P := (judF S (S.2.2.2.2.2.2 b))) (n := S.1.1)
                refine E_iload_n C dX11_which_90 6 rfl (E_if_ne C 98 dX11_which_91 (by decide) (fun c91 => ?_) (fun c91 => ?_))
                ·
                  refine E_iload_n C dX11_which_98 6 rfl (E_iconst (v := 1) C dX11_which_99 ic_1 (E_icmp_ne C 108 dX11_which_100 (by decide) (fun c100 => ?_) (fun c100 => ?_)))
                  ·
                    refine E_iload_n C dX11_which_108 3 rfl (E_if_ne C 116 dX11_which_109 (by decide) (fun c109 => ?_) (fun c109 => ?_))
                    ·
                      have hcz : ¬ (dnF (judF S (S.2.2.2.2.2.2 b)) (2 ^ S.1.1) (2 ^ S.1.1)).1 = 0 := fun q => c109 (by rw [q]; rfl)
                      refine E_iload C dX11_which_116 1 rfl (E_iretI C hr hlk dX11_which_118 ?_)
                      exact ⟨(ha.trans ((if_neg c91).trans ((if_neg c100).trans (congrArg nI (f3.symm.trans (if_neg hcz)))))).symm, ⟨g, h, el, u1, v1, sf, rfl, M⟩⟩
                    ·
                      have hcz : (dnF (judF S (S.2.2.2.2.2.2 b)) (2 ^ S.1.1) (2 ^ S.1.1)).1 = 0 := (nI_eq (b := 0) (by have := (dnF_lt (P := (judF S (S.2.2.2.2.2.2 b))) hp1 (2 ^ S.1.1)).2; omega) (by decide)).mp c109
                      refine E_iconst (v := 0) C dX11_which_112 ic_0 (E_goto C 118 dX11_which_113 (by decide) (E_iretI C hr hlk dX11_which_118 ?_))
                      exact ⟨(ha.trans ((if_neg c91).trans ((if_neg c100).trans (congrArg nI (f3.symm.trans (if_pos hcz)))))).symm, ⟨g, h, el, u1, v1, sf, rfl, M⟩⟩
                  ·
                    refine E_iload C dX11_which_103 2 rfl (E_goto C 118 dX11_which_105 (by decide) (E_iretI C hr hlk dX11_which_118 ?_))
                    exact ⟨(ha.trans ((if_neg c91).trans ((if_pos c100).trans f2.symm))).symm, ⟨g, h, el, u1, v1, sf, rfl, M⟩⟩
                ·
                  refine E_iload_n C dX11_which_94 3 rfl (E_goto C 118 dX11_which_95 (by decide) (E_iretI C hr hlk dX11_which_118 ?_))
                  exact ⟨(ha.trans ((if_pos c91).trans (congrArg nI f1.symm))).symm, ⟨g, h, el, u1, v1, sf, rfl, M⟩⟩
              ·
                have hj : j < 2 ^ S.1.1 := by
                  rcases Nat.lt_or_ge j (2 ^ S.1.1) with q | q
                  · exact q
                  · have e8 : j = 2 ^ S.1.1 := by omega
                    rw [e8, Nat.sub_self] at c52
                    exact absurd (by decide) c52
                have hdl := dnF_lt (P := (judF S (S.2.2.2.2.2.2 b))) (N := 2 ^ S.1.1) hp1 j
                refine E_aload_n C dX11_which_55 4 rfl (E_iload_n C dX11_which_56 5 rfl (E_iload C dX11_which_57 0 rfl ?_))
                refine Ev.seti (show nI (2 ^ S.1.1 - j) - 1 = nI (2 ^ S.1.1 - 1 - j) from (pk_sub (b := 1) (by omega)).trans (congrArg nI (by omega))) ?_
                refine E_callVI C dX11_which_59 mv_X11_332 0 _ (m_wrongIn hA hML hs hb6 hnb (rfBn_0 hz0) (t := (2 ^ S.1.1 - 1 - j)) (by omega)) rfl rfl rfl (by decide) (Nat.le_of_ble_eq_true rfl) ?_
                rintro _ _ ⟨rfl, u2, v2, rfl⟩
                refine Ev.seti (show _ = (judF S (S.2.2.2.2.2.2 b)) (2 ^ S.1.1 - 1 - j) from rfl) ?_
                refine E_bipush (v := -2) C dX11_which_62 bp_m2 (E_icmp_eq C 70 dX11_which_64 (by decide) (fun c64 => ?_) (fun c64 => ?_))
                ·
                  have hs9 := dnF_y (P := (judF S (S.2.2.2.2.2.2 b))) c64
                  refine E_iinc C dX11_which_70 3 rfl (nI_1 _) (by decide) (E_iload C dX11_which_73 1 rfl ?_)
                  refine Ev.seti (show nI (2 ^ S.1.1 - j) - 1 = nI (2 ^ S.1.1 - 1 - j) from (pk_sub (b := 1) (by omega)).trans (congrArg nI (by omega))) ?_
                  refine E_istore C dX11_which_75 (by decide) (E_iload C dX11_which_77 3 rfl (E_iload C dX11_which_79 2 rfl ?_))
                  refine Ev.seti (show nI (2 ^ S.1.1 - j) - 1 = nI (2 ^ S.1.1 - 1 - j) from (pk_sub (b := 1) (by omega)).trans (congrArg nI (by omega))) ?_
                  refine E_iand C dX11_which_81 ?_
                  refine Ev.seti ((nx_and _ _).trans (show _ = nI (dnF (judF S (S.2.2.2.2.2.2 b)) (2 ^ S.1.1) (j + 1)).2.2 by rw [hs9])) ?_
                  refine E_istore C dX11_which_82 (by decide) ?_
                  rw [show nI ((dnF (judF S (S.2.2.2.2.2.2 b)) (2 ^ S.1.1) j).1 + 1) = nI (dnF (judF S (S.2.2.2.2.2.2 b)) (2 ^ S.1.1) (j + 1)).1 by rw [hs9], show nI (2 ^ S.1.1 - 1 - j) = (dnF (judF S (S.2.2.2.2.2.2 b)) (2 ^ S.1.1) (j + 1)).2.1 by rw [hs9]]
                  refine E_iinc C dX11_which_84 3 rfl (show _ = nI (2 ^ S.1.1 - (j + 1)) - 1 from dec1 (by omega)) (by decide) (E_goto C 50 dX11_which_87 (by decide) ?_)
                  exact ih (j + 1) _ _ (by omega) (by omega)
                ·
                  have hs9 := dnF_n (P := (judF S (S.2.2.2.2.2.2 b))) c64
                  refine E_goto C 84 dX11_which_67 (by decide) ?_
                  rw [← hs9]
                  refine E_iinc C dX11_which_84 0 rfl (show _ = nI (2 ^ S.1.1 - (j + 1)) - 1 from dec1 (by omega)) (by decide) (E_goto C 50 dX11_which_87 (by decide) ?_)
                  exact ih (j + 1) _ _ (by omega) (by omega)
          exact Ev.sub [0, 1, 2, 3, 4, 5, 6] rfl (K (2 ^ S.1.1 + 1) 0 u v (by omega) (by omega))
        ·
          have hz0 : ¬ rfBn (S.2.2.2.2.2.2 b) = 0 := fun q => c23 (by rw [q]; decide)
          refine E_aload_n C dX11_which_26 0 rfl (E_iload_n C dX11_which_27 1 rfl (E_callVI C dX11_which_28 mv_X11_329 0 _ (m_rowFault hs hb6 hnb) rfl rfl rfl (by decide) (Nat.le_of_ble_eq_true rfl) ?_))
          rintro _ _ ⟨rfl, rfl⟩
          refine E_iretI C hr hlk dX11_which_31 ?_
          exact ⟨(ha0.trans (if_neg hz0)).symm, ⟨g, h, el, u, v, sf, rfl, M⟩⟩
      ·
        have n1 := ite_0 c13
        refine E_iconst (v := -1) C dX11_which_16 ic_m1 (E_iretI C hr hlk dX11_which_17 ?_)
        exact ⟨(if_neg fun q => n1 (bet_eq.mpr q.2)).symm, ⟨g, h, el, u, v, sf, rfl, M⟩⟩
  ·
    refine Ct.of (by decide +kernel) (Nat.le_of_ble_eq_true rfl) ?_
    intro p e R s m args below meth c A C hr hlk
    refine E_iload_n C dX11_which_0 1 rfl (E_callSI C dX11_which_1 ms_X11_129 _ (m_isShelf x0) rfl rfl (by decide) (Nat.le_of_ble_eq_true rfl) ?_)
    rintro _ _ ⟨rfl, rfl⟩
    refine E_if_eq C 16 dX11_which_4 (by decide) (fun c4 => ?_) (fun c4 => ?_)
    ·
      refine E_iconst (v := -1) C dX11_which_16 ic_m1 (E_iretI C hr hlk dX11_which_17 ?_)
      exact ⟨(if_neg fun q => hx q.1).symm, ⟨g, h, el, u, v, sf, rfl, M⟩⟩
    ·
      exact absurd (ite_1 c4) hx
