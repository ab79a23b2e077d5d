/-! the reference: things out of rows -/
theorem thR_y {q : SHT} {k a : Nat} {S : STT} (h : tcB q S.1.1 a = true) : thR q (k + 1) a S = ((thR q k (a + 4) (tcS q S a)).1 + 1, (thR q k (a + 4) (tcS q S a)).2) := if_pos h
theorem thR_n {q : SHT} {k a : Nat} {S : STT} (h : ¬ tcB q S.1.1 a = true) : thR q (k + 1) a S = (0, S) := if_neg h
theorem thR_out {q : SHT} (hs : q.2.2.2.1 ≤ 60) {a : Nat} (h : ¬ a < 60) {S : STT} : ∀ k, thR q k a S = (0, S)
  | 0 => rfl
  | k + 1 => thR_n (fun z => by have := (of_decide_eq_true z).1; omega)
theorem lg_neg0 {x : Int64} : lg_cmp x 0 < 0 ↔ x < 0 := by
  unfold lg_cmp
  by_cases a : x > 0
  · rw [if_pos a]
    exact ⟨fun q => absurd q (by decide), fun q => absurd (Int64.lt_trans a q) Int64.lt_irrefl⟩
  · rw [if_neg a]
    by_cases b : x = 0
    · rw [if_pos b]
      exact ⟨fun q => absurd q (by decide), fun q => absurd (b ▸ q) Int64.lt_irrefl⟩
    · rw [if_neg b]
      refine ⟨fun _ => ?_, fun _ => by decide⟩
      rcases Int64.lt_or_lt_of_ne b with q | q
      · exact q
      · exact absurd q a
set_option maxRecDepth 100000 in
set_option maxHeartbeats 4000000 in
theorem q_things {l : Launch} {D : va_G} {tc tt ad : Nat → Nat} {S : STT} {w0 : va_W} (hM : MR ad tc S w0) (x0 i0 n0 : Int32) : Ct l yX11_things cX11_things 8 (some .int) 4 D tc tt [.ref (ad 0), .int x0, .int i0, .int n0] (w0) (PI fun r w => r = aThings S x0 i0 n0 ∧ MR ad tc (nThings S x0 i0 n0) w) := by
  obtain ⟨g, h, el, u, v, sf, rfl, M⟩ := hM
  have hA := M.1
  have hn := M.1.1
  have hn8 := M.1.2.1
  have m6 := M.2.2.2.2.2.1
  have hnb := m6.2.1
  by_cases hx : inS x0 = true
  ·
    obtain ⟨b, hb6, hbc, rfl⟩ := inS_ex hx
    have hs := M.2.2.2.2.2.2.1 b hb6
    refine Ct.of (by decide +kernel) (Nat.le_of_ble_eq_true rfl) ?_
    intro p e R s m args below meth c A C hr hlk
    refine E_iload_n C dX11_things_0 1 rfl (E_callSI C dX11_things_1 ms_X11_129 _ (m_isShelf (nI b)) rfl rfl (by decide) (Nat.le_of_ble_eq_true rfl) ?_)
    rintro _ _ ⟨rfl, rfl⟩
    refine E_if_eq C 17 dX11_things_4 (by decide) (fun c4 => ?_) (fun c4 => ?_)
    ·
      exact absurd hx (ite_0 c4)
    ·
      refine E_iload_n C dX11_things_7 3 rfl (E_iconst (v := 1) C dX11_things_8 ic_1 (E_bipush (v := 8) C dX11_things_9 bp_8 (E_callSI C dX11_things_11 ms_X11_118 _ (m_in n0 1 8) rfl rfl (by decide) (Nat.le_of_ble_eq_true rfl) ?_)))
      rintro _ _ ⟨rfl, rfl⟩
      refine E_if_ne C 19 dX11_things_14 (by decide) (fun c14 => ?_) (fun c14 => ?_)
      ·
        have n1 := ite_1 c14
        have n2 := bet_eq.mp n1
        obtain ⟨nn, hnn, hnc, rfl⟩ := n_of (k := 8) (m := 8) (x := n0) rfl (fun q => absurd (Int32.lt_of_le_of_lt n2.1 q) (by decide)) n2.2
        have hok : thB (nI b) (nI nn) = true := decide_eq_true ⟨hx, n2⟩
        have ha0 : aThings S (nI b) i0 (nI nn) = _ := if_pos hok
        rw [hbc] at ha0
        refine E_aload_n C dX11_things_19 0 rfl (mg_11_49 C dX11_things_20 f_X11_99 (E_iload_n C dX11_things_23 1 rfl (ma_28 C dX11_things_24 (vinN (by omega)) ?_)))
        rw [nI_clamp (show b < 2 ^ 31 by omega)]
        refine E_iconst (v := -1) C dX11_things_25 ic_m1 (E_icmp_eq C 43 dX11_things_26 (by decide) (fun c26 => ?_) (fun c26 => ?_))
        ·
          have z0 := (hs.e0 hnb).mp c26
          refine E_aload_n C dX11_things_43 0 rfl (mg_11_49 C dX11_things_44 f_X11_99 (E_iload_n C dX11_things_47 1 rfl (ma_28 C dX11_things_48 (vinN (by omega)) ?_)))
          rw [nI_clamp (show b < 2 ^ 31 by omega)]
          refine E_iconst (v := -1) C dX11_things_49 ic_m1 (E_icmp_ne C 55 dX11_things_50 (by decide) (fun c50 => ?_) (fun c50 => ?_))
          ·
            exact absurd ((hs.e0 hnb).mpr z0) c50
          ·
            refine E_iconst (v := 0) C dX11_things_53 ic_0 (E_iretI C hr hlk dX11_things_54 ?_)
            have hnx : nThings S (nI b) i0 (nI nn) = S := if_neg (fun q => by rw [hbc] at q; exact absurd (z0.symm.trans q.2.1.1) (by decide))
            rw [hnx]
            exact ⟨(ha0.trans (if_pos z0)).symm, ⟨g, h, el, u, v, sf, rfl, M⟩⟩
        ·
          have z0 : ¬ (S.2.2.2.2.2.2 b).1 = 0 := fun z => c26 ((hs.e0 hnb).mpr z)
          refine E_aload_n C dX11_things_29 0 rfl (mg_11_49 C dX11_things_30 f_X11_99 (E_iload_n C dX11_things_33 1 rfl (ma_28 C dX11_things_34 (vinN (by omega)) ?_)))
          rw [nI_clamp (show b < 2 ^ 31 by omega)]
          refine E_bipush (v := -2) C dX11_things_35 bp_m2 (E_icmp_eq C 43 dX11_things_37 (by decide) (fun c37 => ?_) (fun c37 => ?_))
          ·
            have z2 := (hs.e2 hnb).mp c37
            refine E_aload_n C dX11_things_43 0 rfl (mg_11_49 C dX11_things_44 f_X11_99 (E_iload_n C dX11_things_47 1 rfl (ma_28 C dX11_things_48 (vinN (by omega)) ?_)))
            rw [nI_clamp (show b < 2 ^ 31 by omega)]
            refine E_iconst (v := -1) C dX11_things_49 ic_m1 (E_icmp_ne C 55 dX11_things_50 (by decide) (fun c50 => ?_) (fun c50 => ?_))
            ·
              have ha1 := ha0.trans ((if_neg z0).trans (if_pos z2))
              obtain ⟨r1, r2, r3, r4, r5⟩ := hs.2.2.2 z2.1
              by_cases hi0 : i0 < 0
              ·
                refine E_iconst (v := 0) C dX11_things_55 ic_0 (E_istore C dX11_things_56 (by decide) (E_iload C dX11_things_58 0 rfl (E_iload_n C dX11_things_60 4 rfl (E_icmp_ge C 225 dX11_things_61 (by decide) (fun c61 => ?_) (fun c61 => ?_)))))
                ·
                  exact absurd (show nI nn ≤ nI 0 from c61) (nI_ge (by have := (nI_leI (a := 1) (by decide) (by omega)).mp n2.1; omega) (by omega))
                ·
                  refine E_iload_n C dX11_things_64 3 rfl (E_i2l C dX11_things_65 (E_iconst (v := 4) C dX11_things_66 ic_4 (E_iload C dX11_things_67 0 rfl (E_imul C dX11_things_69 ?_))))
                  refine Ev.seti (show (4 : Int32) * 0 = 0 from rfl) ?_
                  refine E_i2l C dX11_things_70 ?_
                  refine Ev.setl (show (0 : Int32).toInt64 = 0 from rfl) ?_
                  refine E_ladd C dX11_things_71 ?_
                  refine Ev.setl (show i0.toInt64 + 0 = i0.toInt64 from Int64.add_zero _) ?_
                  refine E_lstore C dX11_things_72 (by decide) (E_lload C dX11_things_74 0 rfl (E_lconst (v := 0) C dX11_things_76 rfl (E_lcmp C dX11_things_77 (E_if_lt C 107 dX11_things_78 (by decide) (fun c78 => ?_) (fun c78 => ?_)))))
                  ·
                    refine E_iload C dX11_things_107 1 rfl (E_iretI C hr hlk dX11_things_109 ?_)
                    have hnx : nThings S (nI b) i0 (nI nn) = S := if_neg (fun q => absurd q.2.2.1 (Int32.not_le.mpr hi0))
                    rw [hnx]
                    exact ⟨(ha1.trans (if_neg (fun q => absurd q.1 (Int32.not_le.mpr hi0)))).symm, ⟨g, h, el, u, v, sf, rfl, M⟩⟩
                  ·
                    exact absurd (lg_neg0.mpr (by rw [Int64.lt_iff_toInt_lt, Int32.toInt_toInt64]; rw [Int32.lt_iff_toInt_lt] at hi0; exact hi0)) c78
              ·
                obtain ⟨iN, hiN, rfl⟩ := nI_of hi0
                have ha : aThings S (nI b) (nI iN) (nI nn) = nI (thR (S.2.2.2.2.2.2 b) nn iN S).1 := by
                  rw [ha1]
                  by_cases h6 : iN < 60
                  · rw [if_pos ⟨nI_pos' hiN, nI_lt (b := 60) h6 (by decide)⟩, nI_clamp hiN, hnc]
                  · rw [if_neg (fun q => h6 ((nI_ltI (b := 60) hiN (by decide)).mp q.2)), thR_out r4 h6]
                    rfl
                have hnx : nThings S (nI b) (nI iN) (nI nn) = (thR (S.2.2.2.2.2.2 b) nn iN S).2 := by
                  by_cases h6 : iN < 60
                  · have k9 : nThings S (nI b) (nI iN) (nI nn) = _ := if_pos ⟨hok, by rw [hbc]; exact z2, nI_pos' hiN, nI_lt (b := 60) h6 (by decide)⟩
                    rw [hbc, nI_clamp hiN, hnc] at k9
                    exact k9
                  · have k9 : nThings S (nI b) (nI iN) (nI nn) = S := if_neg (fun q => h6 ((nI_ltI (b := 60) hiN (by decide)).mp q.2.2.2))
                    rw [k9, thR_out r4 h6]
                have K : ∀ (mm k : Nat) (S1 : STT) (g1 : Nat → Int32) (h1 : Nat → Nat → Int32), k ≤ nn → nn < k + mm → MAll S1 g1 h1 el → S1.2 = S.2 → thR (S.2.2.2.2.2.2 b) nn iN S = ((thR (S.2.2.2.2.2.2 b) (nn - k) (iN + 4 * k) S1).1 + k, (thR (S.2.2.2.2.2.2 b) (nn - k) (iN + 4 * k) S1).2) → Ev p l e R s m args below meth c 0 0 (EQ below (PI fun r w => r = aThings S (nI b) (nI iN) (nI nn) ∧ MR ad tc (nThings S (nI b) (nI iN) (nI nn)) w) args s D A) D A 8 (hm ad tc g1 h1 el u v sf) 58 [(4, .int (nI k)), (0, .ref (ad 0)), (1, .int (nI b)), (2, .int (nI iN)), (3, .int (nI nn))] [] := by
                  intro mm
                  induction mm with
                  | zero => intro k S1 g1 h1 hk1 hk2; exfalso; omega
                  | succ mm ih =>
                    intro k S1 g1 h1 hk1 hk2 M1 hS2 hres
                    have hn1 := M1.1.1
                    have hn18 := M1.1.2.1
                    have hs1 : MSh S1.2.2.2.2.2.1.1 (S.2.2.2.2.2.2 b) b h1 el := by
                      have q9 := M1.2.2.2.2.2.2.1 b hb6
                      rw [hS2] at q9 ⊢
                      exact q9
                    obtain ⟨r1, r2, r3, r4, r5⟩ := hs1.2.2.2 z2.1
                    refine E_iload C dX11_things_58 0 rfl (E_iload_n C dX11_things_60 4 rfl (E_icmp_ge C 225 dX11_things_61 (by decide) (fun c61 => ?_) (fun c61 => ?_)))
                    ·
                      have hi : k = nn := by
                        rcases Nat.lt_or_ge k nn with q | q
                        · exact absurd (show nI nn ≤ nI k from c61) (nI_ge q (by omega))
                        · omega
                      subst hi
                      refine E_iload_n C dX11_things_225 4 rfl (E_iretI C hr hlk dX11_things_226 ?_)
                      rw [show (thR (S.2.2.2.2.2.2 b) (k - k) (iN + 4 * k) S1) = (0, S1) by rw [show k - k = 0 by omega]; rfl] at hres
                      rw [hres] at ha hnx
                      rw [hnx]
                      refine ⟨?_, ⟨_, _, _, _, _, _, rfl, M1⟩⟩
                      rw [ha]
                      exact congrArg nI (Nat.zero_add k).symm
                    ·
                      have hi : k < nn := by
                        rcases Nat.lt_or_ge k nn with q | q
                        · exact q
                        · exact absurd (show nI nn ≤ nI k from nI_le q (by omega)) c61
                      refine E_iload_n C dX11_things_64 3 rfl (E_i2l C dX11_things_65 ?_)
                      refine Ev.setl (nI_l hiN) ?_
                      refine E_iconst (v := 4) C dX11_things_66 ic_4 (E_iload C dX11_things_67 0 rfl (E_imul C dX11_things_69 ?_))
                      refine Ev.seti (show (4 : Int32) * nI k = nI (4 * k) from pk_mul 4 k) ?_
                      refine E_i2l C dX11_things_70 ?_
                      refine Ev.setl (nI_l (by omega)) ?_
                      refine E_ladd C dX11_things_71 ?_
                      refine Ev.setl (lN_add _ _) ?_
                      refine E_lstore C dX11_things_72 (by decide) (E_lload C dX11_things_74 0 rfl (E_lconst (v := 0) C dX11_things_76 rfl (E_lcmp C dX11_things_77 (E_if_lt C 107 dX11_things_78 (by decide) (fun c78 => ?_) (fun c78 => ?_)))))
                      ·
                        exact absurd ((lg_neg (b := 0) (by omega) (by decide)).mp c78) (Nat.not_lt_zero _)
                      ·
                        refine E_lload C dX11_things_81 0 rfl (E_ldc2 C k_X11_133 dX11_things_83 (E_ladd C dX11_things_86 ?_))
                        refine Ev.setl (lN_add _ 3) ?_
                        refine E_aload_n C dX11_things_87 2 rfl (mg_11_50 C dX11_things_88 f_X11_102 (E_iload_n C dX11_things_91 3 rfl (ma_29 C dX11_things_92 (vinN (by omega)) ?_)))
                        rw [nI_clamp (show b < 2 ^ 31 by omega)]
                        refine Ev.seti r3 ?_
                        refine E_i2l C dX11_things_93 ?_
                        refine Ev.setl (nI_l (by omega)) ?_
                        refine E_lcmp C dX11_things_94 (E_if_ge C 107 dX11_things_95 (by decide) (fun c95 => ?_) (fun c95 => ?_))
                        ·
                          have hsz := (lg_lt (a := iN + 4 * k + 3) (b := (S.2.2.2.2.2.2 b).2.2.2.1) (by omega) (by omega)).mp c95
                          have hno : ¬ tcB (S.2.2.2.2.2.2 b) S1.1.1 (iN + 4 * k) = true := fun z => by have z2 := of_decide_eq_true z; exact absurd z2.1 (by omega)
                          refine E_iload C dX11_things_107 1 rfl (E_iretI C hr hlk dX11_things_109 ?_)
                          rw [show nn - k = (nn - k - 1) + 1 by omega, thR_n hno] at hres
                          rw [hres] at ha hnx
                          rw [hnx]
                          refine ⟨?_, ⟨_, _, _, _, _, _, rfl, M1⟩⟩
                          rw [ha]
                          exact congrArg nI (Nat.zero_add k).symm
                        ·
                          have hsz : iN + 4 * k + 4 ≤ (S.2.2.2.2.2.2 b).2.2.2.1 := by
                            have q9 : ¬ (S.2.2.2.2.2.2 b).2.2.2.1 ≤ iN + 4 * k + 3 := fun q => c95 ((lg_lt (a := iN + 4 * k + 3) (b := (S.2.2.2.2.2.2 b).2.2.2.1) (by omega) (by omega)).mpr q)
                            omega
                          refine E_aload_n C dX11_things_98 2 rfl (mg_11_1 C dX11_things_99 f_X11_115 ?_)
                          refine Ev.seti hn1 ?_
                          refine E_bipush (v := 8) C dX11_things_102 bp_8 (E_icmp_ne C 110 dX11_things_104 (by decide) (fun c104 => ?_) (fun c104 => ?_))
                          ·
                            have hlt8 : S1.1.1 < 8 := by
                              have q2 : S1.1.1 ≠ 8 := fun q => c104 (by rw [q]; rfl)
                              omega
                            refine E_bipush (v := 60) C dX11_things_110 bp_60 (E_iload_n C dX11_things_112 3 rfl (E_imul C dX11_things_113 ?_))
                            refine Ev.seti (show (60 : Int32) * nI b = nI (60 * b) from pk_mul 60 b) ?_
                            refine E_lload C dX11_things_114 0 rfl (E_l2i C dX11_things_116 ?_)
                            refine Ev.seti (lN_i _) ?_
                            refine E_iadd C dX11_things_117 ?_
                            refine Ev.seti (nI_add _ _) ?_
                            refine E_istore C dX11_things_118 (by decide) (E_aload_n C dX11_things_120 3 rfl (mg_11_51 C dX11_things_121 f_X11_105 (E_iload C dX11_things_124 0 rfl (ma_30 C dX11_things_126 (vinN (by omega)) ?_))))
                            rw [nI_clamp (show (60 * b + (iN + 4 * k)) < 2 ^ 31 by omega)]
                            refine Ev.setl (show el (60 * b + (iN + 4 * k)) = (S.2.2.2.2.2.2 b).2.2.2.2 (iN + 4 * k) from r5 _ (by omega)) ?_
                            refine E_l2i C dX11_things_127 ?_
                            refine Ev.seti (show _ = tcE (S.2.2.2.2.2.2 b) (iN + 4 * k) from rfl) ?_
                            refine E_aload_n C dX11_things_128 3 rfl (mg_11_51 C dX11_things_129 f_X11_105 (E_iload C dX11_things_132 0 rfl (E_iconst (v := 1) C dX11_things_134 ic_1 (E_iadd C dX11_things_135 ?_))))
                            refine Ev.seti (nI_add _ 1) ?_
                            refine ma_30 C dX11_things_136 (vinN (by omega)) ?_
                            rw [nI_clamp (show (60 * b + (iN + 4 * k) + 1) < 2 ^ 31 by omega)]
                            refine Ev.setl (show el (60 * b + ((iN + 4 * k) + 1)) = (S.2.2.2.2.2.2 b).2.2.2.2 ((iN + 4 * k) + 1) from r5 _ (by omega)) ?_
                            refine E_l2i C dX11_things_137 ?_
                            refine Ev.seti (show _ = tcE (S.2.2.2.2.2.2 b) ((iN + 4 * k) + 1) from rfl) ?_
                            refine E_aload_n C dX11_things_138 3 rfl (mg_11_51 C dX11_things_139 f_X11_105 (E_iload C dX11_things_142 0 rfl (E_iconst (v := 2) C dX11_things_144 ic_2 (E_iadd C dX11_things_145 ?_))))
                            refine Ev.seti (nI_add _ 2) ?_
                            refine ma_30 C dX11_things_146 (vinN (by omega)) ?_
                            rw [nI_clamp (show (60 * b + (iN + 4 * k) + 2) < 2 ^ 31 by omega)]
                            refine Ev.setl (show el (60 * b + ((iN + 4 * k) + 2)) = (S.2.2.2.2.2.2 b).2.2.2.2 ((iN + 4 * k) + 2) from r5 _ (by omega)) ?_
                            refine E_l2i C dX11_things_147 ?_
                            refine Ev.seti (show _ = tcE (S.2.2.2.2.2.2 b) ((iN + 4 * k) + 2) from rfl) ?_
                            refine E_callSI C dX11_things_148 ms_X11_122 _ (m_isThingSo (tcE (S.2.2.2.2.2.2 b) (iN + 4 * k)) (tcE (S.2.2.2.2.2.2 b) ((iN + 4 * k) + 1)) (tcE (S.2.2.2.2.2.2 b) ((iN + 4 * k) + 2))) rfl rfl (by decide) (Nat.le_of_ble_eq_true rfl) ?_
                            rintro _ _ ⟨rfl, rfl⟩
                            refine E_if_eq C 173 dX11_things_151 (by decide) (fun c151 => ?_) (fun c151 => ?_)
                            ·
                              have n3 := ite_0 c151
                              have hno : ¬ tcB (S.2.2.2.2.2.2 b) S1.1.1 (iN + 4 * k) = true := fun z => by have z2 := of_decide_eq_true z; exact n3 ⟨z2.2.1, z2.2.2.1, z2.2.2.2.1⟩
                              refine E_iload C dX11_things_173 2 rfl (E_iretI C hr hlk dX11_things_175 ?_)
                              rw [show nn - k = (nn - k - 1) + 1 by omega, thR_n hno] at hres
                              rw [hres] at ha hnx
                              rw [hnx]
                              refine ⟨?_, ⟨_, _, _, _, _, _, rfl, M1⟩⟩
                              rw [ha]
                              exact congrArg nI (Nat.zero_add k).symm
                            ·
                              have n3 := ite_1 c151
                              refine E_aload_n C dX11_things_154 3 rfl (mg_11_51 C dX11_things_155 f_X11_105 (E_iload C dX11_things_158 0 rfl (E_iconst (v := 3) C dX11_things_160 ic_3 (E_iadd C dX11_things_161 ?_))))
                              refine Ev.seti (nI_add _ 3) ?_
                              refine ma_30 C dX11_things_162 (vinN (by omega)) ?_
                              rw [nI_clamp (show (60 * b + (iN + 4 * k) + 3) < 2 ^ 31 by omega)]
                              refine Ev.setl (show el (60 * b + ((iN + 4 * k) + 3)) = (S.2.2.2.2.2.2 b).2.2.2.2 ((iN + 4 * k) + 3) from r5 _ (by omega)) ?_
                              refine E_l2i C dX11_things_163 ?_
                              refine Ev.seti (show _ = tcE (S.2.2.2.2.2.2 b) ((iN + 4 * k) + 3) from rfl) ?_
                              refine E_iconst (v := 0) C dX11_things_164 ic_0 (E_bipush (v := 99) C dX11_things_165 bp_99 (E_callSI C dX11_things_167 ms_X11_118 _ (m_in (tcE (S.2.2.2.2.2.2 b) ((iN + 4 * k) + 3)) 0 99) rfl rfl (by decide) (Nat.le_of_ble_eq_true rfl) ?_))
                              rintro _ _ ⟨rfl, rfl⟩
                              refine E_if_ne C 176 dX11_things_170 (by decide) (fun c170 => ?_) (fun c170 => ?_)
                              ·
                                have n4 := ite_1 c170
                                refine E_aload_n C dX11_things_176 3 rfl (E_aload_n C dX11_things_177 3 rfl (mg_11_51 C dX11_things_178 f_X11_105 (E_iload C dX11_things_181 0 rfl (ma_30 C dX11_things_183 (vinN (by omega)) ?_))))
                                rw [nI_clamp (show (60 * b + (iN + 4 * k)) < 2 ^ 31 by omega)]
                                refine Ev.setl (show el (60 * b + (iN + 4 * k)) = (S.2.2.2.2.2.2 b).2.2.2.2 (iN + 4 * k) from r5 _ (by omega)) ?_
                                refine E_l2i C dX11_things_184 ?_
                                refine Ev.seti (show _ = tcE (S.2.2.2.2.2.2 b) (iN + 4 * k) from rfl) ?_
                                refine E_aload_n C dX11_things_185 3 rfl (mg_11_51 C dX11_things_186 f_X11_105 (E_iload C dX11_things_189 0 rfl (E_iconst (v := 1) C dX11_things_191 ic_1 (E_iadd C dX11_things_192 ?_))))
                                refine Ev.seti (nI_add _ 1) ?_
                                refine ma_30 C dX11_things_193 (vinN (by omega)) ?_
                                rw [nI_clamp (show (60 * b + (iN + 4 * k) + 1) < 2 ^ 31 by omega)]
                                refine Ev.setl (show el (60 * b + ((iN + 4 * k) + 1)) = (S.2.2.2.2.2.2 b).2.2.2.2 ((iN + 4 * k) + 1) from r5 _ (by omega)) ?_
                                refine E_l2i C dX11_things_194 ?_
                                refine Ev.seti (show _ = tcE (S.2.2.2.2.2.2 b) ((iN + 4 * k) + 1) from rfl) ?_
                                refine E_aload_n C dX11_things_195 3 rfl (mg_11_51 C dX11_things_196 f_X11_105 (E_iload C dX11_things_199 0 rfl (E_iconst (v := 2) C dX11_things_201 ic_2 (E_iadd C dX11_things_202 ?_))))
                                refine Ev.seti (nI_add _ 2) ?_
                                refine ma_30 C dX11_things_203 (vinN (by omega)) ?_
                                rw [nI_clamp (show (60 * b + (iN + 4 * k) + 2) < 2 ^ 31 by omega)]
                                refine Ev.setl (show el (60 * b + ((iN + 4 * k) + 2)) = (S.2.2.2.2.2.2 b).2.2.2.2 ((iN + 4 * k) + 2) from r5 _ (by omega)) ?_
                                refine E_l2i C dX11_things_204 ?_
                                refine Ev.seti (show _ = tcE (S.2.2.2.2.2.2 b) ((iN + 4 * k) + 2) from rfl) ?_
                                refine E_aload_n C dX11_things_205 3 rfl (mg_11_51 C dX11_things_206 f_X11_105 (E_iload C dX11_things_209 0 rfl (E_iconst (v := 3) C dX11_things_211 ic_3 (E_iadd C dX11_things_212 ?_))))
                                refine Ev.seti (nI_add _ 3) ?_
                                refine ma_30 C dX11_things_213 (vinN (by omega)) ?_
                                rw [nI_clamp (show (60 * b + (iN + 4 * k) + 3) < 2 ^ 31 by omega)]
                                refine Ev.setl (show el (60 * b + ((iN + 4 * k) + 3)) = (S.2.2.2.2.2.2 b).2.2.2.2 ((iN + 4 * k) + 3) from r5 _ (by omega)) ?_
                                refine E_l2i C dX11_things_214 ?_
                                refine Ev.seti (show _ = tcE (S.2.2.2.2.2.2 b) ((iN + 4 * k) + 3) from rfl) ?_
                                refine E_callVI C dX11_things_215 mv_X11_125 0 _ (m_addThing hn1 hlt8 (tcE (S.2.2.2.2.2.2 b) (iN + 4 * k)) (tcE (S.2.2.2.2.2.2 b) ((iN + 4 * k) + 1)) (tcE (S.2.2.2.2.2.2 b) ((iN + 4 * k) + 2)) (tcE (S.2.2.2.2.2.2 b) ((iN + 4 * k) + 3))) rfl rfl rfl (by decide) (Nat.le_of_ble_eq_true rfl) ?_
                                rintro _ _ ⟨rfl, rfl⟩
                                refine E_pop C dX11_things_218 rfl (E_iinc C dX11_things_219 2 rfl (nI_1 k) (by decide) (E_goto C 58 dX11_things_222 (by decide) ?_))
                                have hy : tcB (S.2.2.2.2.2.2 b) S1.1.1 (iN + 4 * k) = true := decide_eq_true ⟨by omega, n3.1, n3.2.1, n3.2.2, (may_3 _).trans n4, hlt8⟩
                                obtain ⟨xa, b1, f1, e1⟩ := may_ex (k := 0) (by decide) n3.1
                                obtain ⟨xb, b2, f2, e2⟩ := may_ex (k := 1) (by decide) n3.2.1
                                obtain ⟨xc, b3, f3, e3⟩ := may_ex (k := 2) (by decide) n3.2.2
                                obtain ⟨xd, b4, f4, e4⟩ := may_ex (k := 3) (by decide) ((may_3 _).trans n4)
                                have hfin := M1.add hlt8 b1 b2 b3 b4
                                have hts : tcS (S.2.2.2.2.2.2 b) S1 (iN + 4 * k) = addS S1 xa xb xc xd := by unfold tcS; rw [e1, e2, e3, e4, nI_clamp f1, nI_clamp f2, nI_clamp f3, nI_clamp f4]
                                rw [← e1, ← e2, ← e3, ← e4, ← hts] at hfin
                                refine Ev.sub [0, 3, 4, 5, 6] rfl (ih (k + 1) _ _ _ (by omega) (by omega) hfin ?_ ?_)
                                · rw [hts]; exact hS2
                                · rw [hres, show nn - k = (nn - (k + 1)) + 1 by omega, thR_y hy, show iN + 4 * (k + 1) = iN + 4 * k + 4 by omega]
                                  exact Prod.ext (Nat.add_right_comm _ _ _) rfl
                              ·
                                have n4 := ite_0 c170
                                have hno : ¬ tcB (S.2.2.2.2.2.2 b) S1.1.1 (iN + 4 * k) = true := fun z => by have z2 := of_decide_eq_true z; exact n4 ((may_3 _).symm.trans z2.2.2.2.2.1)
                                refine E_iload C dX11_things_173 2 rfl (E_iretI C hr hlk dX11_things_175 ?_)
                                rw [show nn - k = (nn - k - 1) + 1 by omega, thR_n hno] at hres
                                rw [hres] at ha hnx
                                rw [hnx]
                                refine ⟨?_, ⟨_, _, _, _, _, _, rfl, M1⟩⟩
                                rw [ha]
                                exact congrArg nI (Nat.zero_add k).symm
                          ·
                            have h88 : S1.1.1 = 8 := (nI_eq (b := 8) (by omega) (by decide)).mp c104
                            have hno : ¬ tcB (S.2.2.2.2.2.2 b) S1.1.1 (iN + 4 * k) = true := fun z => by have z2 := of_decide_eq_true z; exact absurd z2.2.2.2.2.2 (by omega)
                            refine E_iload C dX11_things_107 1 rfl (E_iretI C hr hlk dX11_things_109 ?_)
                            rw [show nn - k = (nn - k - 1) + 1 by omega, thR_n hno] at hres
                            rw [hres] at ha hnx
                            rw [hnx]
                            refine ⟨?_, ⟨_, _, _, _, _, _, rfl, M1⟩⟩
                            rw [ha]
                            exact congrArg nI (Nat.zero_add k).symm
                refine E_iconst (v := 0) C dX11_things_55 ic_0 (E_istore C dX11_things_56 (by decide) ?_)
                exact Ev.sub [0, 1, 2, 3, 4] rfl (K (nn + 1) 0 S g h (by omega) (by omega) M rfl rfl)
            ·
              exact absurd ((hs.e0 hnb).mp c50) z0
          ·
            have z2 : ¬ ((S.2.2.2.2.2.2 b).1 = 2 ∧ (S.2.2.2.2.2.2 b).2.2.1 = 0) := fun z => c37 ((hs.e2 hnb).mpr z)
            refine E_bipush (v := -12) C dX11_things_40 bp_m12 (E_iretI C hr hlk dX11_things_42 ?_)
            have hnx : nThings S (nI b) i0 (nI nn) = S := if_neg (fun q => by rw [hbc] at q; exact z2 q.2.1)
            rw [hnx]
            exact ⟨(ha0.trans ((if_neg z0).trans (if_neg z2))).symm, ⟨g, h, el, u, v, sf, rfl, M⟩⟩
      ·
        have n1 := ite_0 c14
        refine E_iconst (v := -1) C dX11_things_17 ic_m1 (E_iretI C hr hlk dX11_things_18 ?_)
        have hno : ¬ thB (nI b) n0 = true := fun q => by have q2 := of_decide_eq_true q; exact n1 (bet_eq.mpr q2.2)
        have hnx : nThings S (nI b) i0 n0 = S := if_neg (fun q => hno q.1)
        rw [hnx]
        exact ⟨(if_neg hno).symm, ⟨g, h, el, u, v, sf, rfl, M⟩⟩
  ·
    refine Ct.of (by decide +kernel) (Nat.le_of_ble_eq_true rfl) ?_
    intro p e R s m args below meth c A C hr hlk
    refine E_iload_n C dX11_things_0 1 rfl (E_callSI C dX11_things_1 ms_X11_129 _ (m_isShelf x0) rfl rfl (by decide) (Nat.le_of_ble_eq_true rfl) ?_)
    rintro _ _ ⟨rfl, rfl⟩
    refine E_if_eq C 17 dX11_things_4 (by decide) (fun c4 => ?_) (fun c4 => ?_)
    ·
      refine E_iconst (v := -1) C dX11_things_17 ic_m1 (E_iretI C hr hlk dX11_things_18 ?_)
      have hno : ¬ thB x0 n0 = true := fun q => hx (of_decide_eq_true q).1
      have hnx : nThings S x0 i0 n0 = S := if_neg (fun q => hno q.1)
      rw [hnx]
      exact ⟨(if_neg hno).symm, ⟨g, h, el, u, v, sf, rfl, M⟩⟩
    ·
      exact absurd (ite_1 c4) hx
