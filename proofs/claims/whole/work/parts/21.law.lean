/-! small methods: the JDK's bitCount, min, max; the class's Law -/
set_option maxRecDepth 100000 in
set_option maxHeartbeats 4000000 in
theorem s_bitCount {l : Launch} {D : va_G} {tc tt : Nat → Nat} {ws : va_W} (σ : Nat) (hσ : σ < 256) : Ct l yJ6_bitCount_0f7a4 cJ6_bitCount_0f7a4 1 (some .int) 1 D tc tt [.int (nI σ)] (ws) (PI fun r w => r = nI (pop σ) ∧ w = ws) := by
  refine Ct.of (by decide +kernel) (Nat.le_of_ble_eq_true rfl) ?_
  intro p e R s m args below meth c A C hr hlk
  refine E_iload_n C dJ6_bitCount_0f7a4_0 0 rfl (E_iload_n C dJ6_bitCount_0f7a4_1 0 rfl (E_iconst (v := 1) C dJ6_bitCount_0f7a4_2 ic_1 (E_iushr C dJ6_bitCount_0f7a4_3 (E_ldcw C k_J6_265 dJ6_bitCount_0f7a4_4 (E_iand C dJ6_bitCount_0f7a4_7 ?_)))))
  refine E_isub C dJ6_bitCount_0f7a4_8 (E_istore_n C dJ6_bitCount_0f7a4_9 (by decide) (E_iload_n C dJ6_bitCount_0f7a4_10 0 rfl (E_ldcw C k_J6_266 dJ6_bitCount_0f7a4_11 (E_iand C dJ6_bitCount_0f7a4_14 (E_iload_n C dJ6_bitCount_0f7a4_15 0 rfl ?_)))))
  refine E_iconst (v := 2) C dJ6_bitCount_0f7a4_16 ic_2 (E_iushr C dJ6_bitCount_0f7a4_17 (E_ldcw C k_J6_266 dJ6_bitCount_0f7a4_18 (E_iand C dJ6_bitCount_0f7a4_21 (E_iadd C dJ6_bitCount_0f7a4_22 (E_istore_n C dJ6_bitCount_0f7a4_23 (by decide) ?_)))))
  refine E_iload_n C dJ6_bitCount_0f7a4_24 0 rfl (E_iload_n C dJ6_bitCount_0f7a4_25 0 rfl (E_iconst (v := 4) C dJ6_bitCount_0f7a4_26 ic_4 (E_iushr C dJ6_bitCount_0f7a4_27 (E_iadd C dJ6_bitCount_0f7a4_28 (E_ldcw C k_J6_267 dJ6_bitCount_0f7a4_29 ?_)))))
  refine E_iand C dJ6_bitCount_0f7a4_32 (E_istore_n C dJ6_bitCount_0f7a4_33 (by decide) (E_iload_n C dJ6_bitCount_0f7a4_34 0 rfl (E_iload_n C dJ6_bitCount_0f7a4_35 0 rfl (E_bipush (v := 8) C dJ6_bitCount_0f7a4_36 bp_8 (E_iushr C dJ6_bitCount_0f7a4_38 ?_)))))
  refine E_iadd C dJ6_bitCount_0f7a4_39 (E_istore_n C dJ6_bitCount_0f7a4_40 (by decide) (E_iload_n C dJ6_bitCount_0f7a4_41 0 rfl (E_iload_n C dJ6_bitCount_0f7a4_42 0 rfl (E_bipush (v := 16) C dJ6_bitCount_0f7a4_43 bp_16 (E_iushr C dJ6_bitCount_0f7a4_45 ?_)))))
  refine E_iadd C dJ6_bitCount_0f7a4_46 (E_istore_n C dJ6_bitCount_0f7a4_47 (by decide) (E_iload_n C dJ6_bitCount_0f7a4_48 0 rfl (E_bipush (v := 63) C dJ6_bitCount_0f7a4_49 bp_63 (E_iand C dJ6_bitCount_0f7a4_51 (E_iretI C hr hlk dJ6_bitCount_0f7a4_52 ?_)))))
  refine ⟨?_, rfl⟩
  clear C hr hlk
  revert hσ
  revert σ
  decide +kernel
set_option maxRecDepth 100000 in
set_option maxHeartbeats 4000000 in
theorem s_held {l : Launch} {D : va_G} {tc tt : Nat → Nat} {ws : va_W} (x : Int32) : Ct l yX5_held cX5_held 1 (some .int) 2 D tc tt [.int x] (ws) (PI fun r w => r = heldF x ∧ w = ws) := by
  refine Ct.of (by decide +kernel) (Nat.le_of_ble_eq_true rfl) ?_
  intro p e R s m args below meth c A C hr hlk
  refine E_iconst (v := 1) C dX5_held_0 ic_1 (E_bipush (v := 60) C dX5_held_1 bp_60 (E_iload_n C dX5_held_3 0 rfl (E_mmin C dX5_held_4 ms_X5_41 (by decide) (Nat.le_of_ble_eq_true rfl) (E_mmax C dX5_held_7 ms_X5_47 (by decide) (Nat.le_of_ble_eq_true rfl) (E_iretI C hr hlk dX5_held_10 ?_)))))
  refine ⟨?_, rfl⟩
  unfold heldF
  generalize (if x < 60 then x else 60) = q
  by_cases a : q < 1
  · rw [if_pos a, if_neg (fun b => Int32.lt_irrefl (Int32.lt_trans a b))]
  · rw [if_neg a]
    by_cases b : 1 < q
    · rw [if_pos b]
    · rw [if_neg b]
      exact (Int32.le_antisymm (Int32.not_lt.mp b) (Int32.not_lt.mp a)).symm
set_option maxRecDepth 100000 in
set_option maxHeartbeats 4000000 in
theorem s_named {l : Launch} {D : va_G} {tc tt ad : Nat → Nat} {W : Nat → Nat → Int32} {g : Nat → Int32} {h : Nat → Nat → Int32} {Dv : Nat → (Nat → Int32) × (Nat → Nat → Int32)} {Sh : Nat → (Nat → Int32) × (Nat → Int64)} {u : Nat → Int32} {v : Nat → Nat → Int32} {z : Int64} {y : Nat → Int64} (x : Int32) : Ct l yX5_named cX5_named 2 (some .int) 1 D tc tt [.ref (ad 11), .int x] (hx ad tc W g h Dv Sh u v z y) (PI fun r w => r = namedF (v 1) x ∧ w = hx ad tc W g h Dv Sh u v z y) := by
  refine Ct.of (by decide +kernel) (Nat.le_of_ble_eq_true rfl) ?_
  intro p e R s m args below meth c A C hr hlk
  refine E_iload_n C dX5_named_0 1 rfl (E_if_lt C 22 dX5_named_1 (by decide) (fun c1 => ?_) (fun c1 => ?_))
  ·
    refine E_iconst (v := 0) C dX5_named_22 ic_0 (E_iretI C hr hlk dX5_named_23 ?_)
    refine ⟨?_, rfl⟩
    unfold namedF
    first | exact (if_pos c1).symm | exact ((if_neg c1).trans (if_pos (Int32.not_le.mp c10))).symm | exact ((if_neg c1).trans (if_neg (Int32.not_lt.mpr c10))).symm
  ·
    refine E_iload_n C dX5_named_4 1 rfl (E_aload_n C dX5_named_5 0 rfl (xg_5_3 C dX5_named_6 f_X5_19 (xn_15 C dX5_named_9 (E_icmp_ge C 22 dX5_named_10 (by decide) (fun c10 => ?_) (fun c10 => ?_)))))
    ·
      refine E_iconst (v := 0) C dX5_named_22 ic_0 (E_iretI C hr hlk dX5_named_23 ?_)
      refine ⟨?_, rfl⟩
      unfold namedF
      first | exact (if_pos c1).symm | exact ((if_neg c1).trans (if_pos (Int32.not_le.mp c10))).symm | exact ((if_neg c1).trans (if_neg (Int32.not_lt.mpr c10))).symm
    ·
      refine E_aload_n C dX5_named_13 0 rfl (xg_5_3 C dX5_named_14 f_X5_19 (E_iload_n C dX5_named_17 1 rfl (xa_15 C dX5_named_18 (by rw [vp_in_iff]; simp only [Int32.lt_iff_toInt_lt, Int32.le_iff_toInt_le, tl_m100, tl_m14, tl_m13, tl_m12, tl_m11, tl_m5, tl_m3, tl_m2, tl_m1, tl_0, tl_1, tl_2, tl_3, tl_4, tl_5, tl_6, tl_7, tl_8, tl_9, tl_10, tl_11, tl_12, tl_13, tl_14, tl_15, tl_16, tl_17, tl_18, tl_19, tl_20, tl_21, tl_22, tl_23, tl_24, tl_25, tl_26, tl_27, tl_28, tl_29, tl_30, tl_31, tl_32, tl_33, tl_34, tl_35, tl_36, tl_37, tl_38, tl_39, tl_40, tl_41, tl_42, tl_43, tl_44, tl_45, tl_46, tl_47, tl_48, tl_49, tl_50, tl_51, tl_52, tl_53, tl_54, tl_55, tl_56, tl_57, tl_58, tl_59, tl_60, tl_61, tl_62, tl_63, tl_64, tl_70, tl_80, tl_81, tl_99, tl_100, tl_110, tl_120, tl_122, tl_124, tl_126, tl_128, tl_130, tl_144, tl_200, tl_255, tl_256, tl_260, tl_360, tl_12345] at *; omega) (E_goto C 23 dX5_named_19 (by decide) (E_iretI C hr hlk dX5_named_23 ?_)))))
      refine ⟨?_, rfl⟩
      unfold namedF
      first | exact (if_pos c1).symm | exact ((if_neg c1).trans (if_pos (Int32.not_le.mp c10))).symm | exact ((if_neg c1).trans (if_neg (Int32.not_lt.mpr c10))).symm
set_option maxRecDepth 100000 in
set_option maxHeartbeats 4000000 in
theorem s_together {l : Launch} {D : va_G} {tc tt : Nat → Nat} {ws : va_W} (op a b : Int32) : Ct l yX5_together cX5_together 3 (some .int) 1 D tc tt [.int op, .int a, .int b] (ws) (PI fun r w => r = togF op a b ∧ w = ws) := by
  refine Ct.of (by decide +kernel) (Nat.le_of_ble_eq_true rfl) ?_
  intro p e R s m args below meth c A C hr hlk
  refine E_iload_n C dX5_together_0 0 rfl ?_
  by_cases e1 : op = 37
  ·
    subst e1
    refine E_lookup C 177 dX5_together_1 (by decide) rfl (by decide) (E_iload_n C dX5_together_177 2 rfl (E_if_ne C 185 dX5_together_178 (by decide) (fun c178 => ?_) (fun c178 => ?_)))
    ·
      refine E_iload_n C dX5_together_185 1 rfl (E_iload_n C dX5_together_186 2 rfl (E_irem C dX5_together_187 (by assumption) (E_iretI C hr hlk dX5_together_188 ?_)))
      refine ⟨?_, rfl⟩
      unfold togF
      first | (simp [*]; done) | (simp_all; done)
    ·
      refine E_iconst (v := 0) C dX5_together_181 ic_0 (E_goto C 188 dX5_together_182 (by decide) (E_iretI C hr hlk dX5_together_188 ?_))
      refine ⟨?_, rfl⟩
      unfold togF
      first | (simp [*]; done) | (simp_all; done)
  by_cases e1_2 : op = 38
  ·
    subst e1_2
    refine E_lookup C 106 dX5_together_1 (by decide) rfl (by decide) (E_iload_n C dX5_together_106 1 rfl (E_if_eq C 118 dX5_together_107 (by decide) (fun c107 => ?_) (fun c107 => ?_)))
    ·
      refine E_iconst (v := 0) C dX5_together_118 ic_0 (E_iretI C hr hlk dX5_together_119 ?_)
      refine ⟨?_, rfl⟩
      unfold togF
      first | (simp [*]; done) | (simp_all; done)
    ·
      refine E_iload_n C dX5_together_110 2 rfl (E_if_eq C 118 dX5_together_111 (by decide) (fun c111 => ?_) (fun c111 => ?_))
      ·
        refine E_iconst (v := 0) C dX5_together_118 ic_0 (E_iretI C hr hlk dX5_together_119 ?_)
        refine ⟨?_, rfl⟩
        unfold togF
        first | (simp [*]; done) | (simp_all; done)
      ·
        refine E_iconst (v := 1) C dX5_together_114 ic_1 (E_goto C 119 dX5_together_115 (by decide) (E_iretI C hr hlk dX5_together_119 ?_))
        refine ⟨?_, rfl⟩
        unfold togF
        first | (simp [*]; done) | (simp_all; done)
  by_cases e1_3 : op = 42
  ·
    subst e1_3
    refine E_lookup C 161 dX5_together_1 (by decide) rfl (by decide) (E_iload_n C dX5_together_161 1 rfl (E_iload_n C dX5_together_162 2 rfl (E_imul C dX5_together_163 (E_iretI C hr hlk dX5_together_164 ?_))))
    refine ⟨?_, rfl⟩
    unfold togF
    first | (simp [*]; done) | (simp_all; done)
  by_cases e1_4 : op = 43
  ·
    subst e1_4
    refine E_lookup C 153 dX5_together_1 (by decide) rfl (by decide) (E_iload_n C dX5_together_153 1 rfl (E_iload_n C dX5_together_154 2 rfl (E_iadd C dX5_together_155 (E_iretI C hr hlk dX5_together_156 ?_))))
    refine ⟨?_, rfl⟩
    unfold togF
    first | (simp [*]; done) | (simp_all; done)
  by_cases e1_5 : op = 45
  ·
    subst e1_5
    refine E_lookup C 157 dX5_together_1 (by decide) rfl (by decide) (E_iload_n C dX5_together_157 1 rfl (E_iload_n C dX5_together_158 2 rfl (E_isub C dX5_together_159 (E_iretI C hr hlk dX5_together_160 ?_))))
    refine ⟨?_, rfl⟩
    unfold togF
    first | (simp [*]; done) | (simp_all; done)
  by_cases e1_6 : op = 47
  ·
    subst e1_6
    refine E_lookup C 165 dX5_together_1 (by decide) rfl (by decide) (E_iload_n C dX5_together_165 2 rfl (E_if_ne C 173 dX5_together_166 (by decide) (fun c166 => ?_) (fun c166 => ?_)))
    ·
      refine E_iload_n C dX5_together_173 1 rfl (E_iload_n C dX5_together_174 2 rfl (E_idiv C dX5_together_175 (by assumption) (E_iretI C hr hlk dX5_together_176 ?_)))
      refine ⟨?_, rfl⟩
      unfold togF
      first | (simp [*]; done) | (simp_all; done)
    ·
      refine E_iconst (v := 0) C dX5_together_169 ic_0 (E_goto C 176 dX5_together_170 (by decide) (E_iretI C hr hlk dX5_together_176 ?_))
      refine ⟨?_, rfl⟩
      unfold togF
      first | (simp [*]; done) | (simp_all; done)
  by_cases e1_7 : op = 60
  ·
    subst e1_7
    refine E_lookup C 120 dX5_together_1 (by decide) rfl (by decide) (E_iload_n C dX5_together_120 1 rfl (E_iload_n C dX5_together_121 2 rfl (E_icmp_ge C 129 dX5_together_122 (by decide) (fun c122 => ?_) (fun c122 => ?_))))
    ·
      refine E_iconst (v := 0) C dX5_together_129 ic_0 (E_iretI C hr hlk dX5_together_130 ?_)
      refine ⟨?_, rfl⟩
      unfold togF
      first | (simp [*]; done) | (simp_all; done)
    ·
      refine E_iconst (v := 1) C dX5_together_125 ic_1 (E_goto C 130 dX5_together_126 (by decide) (E_iretI C hr hlk dX5_together_130 ?_))
      refine ⟨?_, rfl⟩
      unfold togF
      first | (simp [*]; done) | (simp_all; done)
  by_cases e1_8 : op = 61
  ·
    subst e1_8
    refine E_lookup C 131 dX5_together_1 (by decide) rfl (by decide) (E_iload_n C dX5_together_131 1 rfl (E_iload_n C dX5_together_132 2 rfl (E_icmp_ne C 140 dX5_together_133 (by decide) (fun c133 => ?_) (fun c133 => ?_))))
    ·
      refine E_iconst (v := 0) C dX5_together_140 ic_0 (E_iretI C hr hlk dX5_together_141 ?_)
      refine ⟨?_, rfl⟩
      unfold togF
      first | (simp [*]; done) | (simp_all; done)
    ·
      refine E_iconst (v := 1) C dX5_together_136 ic_1 (E_goto C 141 dX5_together_137 (by decide) (E_iretI C hr hlk dX5_together_141 ?_))
      refine ⟨?_, rfl⟩
      unfold togF
      first | (simp [*]; done) | (simp_all; done)
  by_cases e1_9 : op = 62
  ·
    subst e1_9
    refine E_lookup C 142 dX5_together_1 (by decide) rfl (by decide) (E_iload_n C dX5_together_142 1 rfl (E_iload_n C dX5_together_143 2 rfl (E_icmp_le C 151 dX5_together_144 (by decide) (fun c144 => ?_) (fun c144 => ?_))))
    ·
      refine E_iconst (v := 0) C dX5_together_151 ic_0 (E_iretI C hr hlk dX5_together_152 ?_)
      refine ⟨?_, rfl⟩
      unfold togF
      first | (simp [*]; done) | (simp_all; done)
    ·
      refine E_iconst (v := 1) C dX5_together_147 ic_1 (E_goto C 152 dX5_together_148 (by decide) (E_iretI C hr hlk dX5_together_152 ?_))
      refine ⟨?_, rfl⟩
      unfold togF
      first | (simp [*]; done) | (simp_all; done)
  by_cases e1_10 : op = 124
  ·
    subst e1_10
    refine E_lookup C 92 dX5_together_1 (by decide) rfl (by decide) (E_iload_n C dX5_together_92 1 rfl (E_if_ne C 100 dX5_together_93 (by decide) (fun c93 => ?_) (fun c93 => ?_)))
    ·
      refine E_iconst (v := 1) C dX5_together_100 ic_1 (E_goto C 105 dX5_together_101 (by decide) (E_iretI C hr hlk dX5_together_105 ?_))
      refine ⟨?_, rfl⟩
      unfold togF
      first | (simp [*]; done) | (simp_all; done)
    ·
      refine E_iload_n C dX5_together_96 2 rfl (E_if_eq C 104 dX5_together_97 (by decide) (fun c97 => ?_) (fun c97 => ?_))
      ·
        refine E_iconst (v := 0) C dX5_together_104 ic_0 (E_iretI C hr hlk dX5_together_105 ?_)
        refine ⟨?_, rfl⟩
        unfold togF
        first | (simp [*]; done) | (simp_all; done)
      ·
        refine E_iconst (v := 1) C dX5_together_100 ic_1 (E_goto C 105 dX5_together_101 (by decide) (E_iretI C hr hlk dX5_together_105 ?_))
        refine ⟨?_, rfl⟩
        unfold togF
        first | (simp [*]; done) | (simp_all; done)
  refine E_lookup (off := 188) C 189 dX5_together_1 (by decide) ((lv_osw e1 rfl).trans ((lv_osw e1_2 rfl).trans ((lv_osw e1_3 rfl).trans ((lv_osw e1_4 rfl).trans ((lv_osw e1_5 rfl).trans ((lv_osw e1_6 rfl).trans ((lv_osw e1_7 rfl).trans ((lv_osw e1_8 rfl).trans ((lv_osw e1_9 rfl).trans ((lv_osw e1_10 rfl).trans rfl)))))))))) (by decide) (E_iconst (v := 0) C dX5_together_189 ic_0 (E_iretI C hr hlk dX5_together_190 ?_))
  refine ⟨?_, rfl⟩
  unfold togF
  first | (simp [*]; done) | (simp_all; done)
set_option maxRecDepth 100000 in
set_option maxHeartbeats 4000000 in
theorem s_first {l : Launch} {D : va_G} {tc tt ad : Nat → Nat} {W : Nat → Nat → Int32} {g : Nat → Int32} {h : Nat → Nat → Int32} {Dv : Nat → (Nat → Int32) × (Nat → Nat → Int32)} {Sh : Nat → (Nat → Int32) × (Nat → Int64)} {u : Nat → Int32} {v : Nat → Nat → Int32} {z : Int64} {y : Nat → Int64} {sz : Nat} (hsz : g 2 = nI sz) (hs : sz ≤ 128) : Ct l yX5_firstThatCounts cX5_firstThatCounts 5 (some .int) 2 D tc tt [.ref (ad 11)] (hx ad tc W g h Dv Sh u v z y) (PI fun r w => r = lawR (h 0) (h 1) (v 1) sz 129 0 2 (v 0) 1 ∧ ∃ v', w = hx ad tc W g h Dv Sh u v' z y ∧ ∀ k, k ≠ 0 → v' k = v k) := by
  refine Ct.of (by decide +kernel) (Nat.le_of_ble_eq_true rfl) ?_
  intro p e R s m args below meth c A C hr hlk
  have K : ∀ (n i top : Nat) (cnt : Int32) (v1 : Nat → Nat → Int32), i ≤ 128 → 128 < i + n → top ≤ 131 → lawR (h 0) (h 1) (v 1) sz n i top (v1 0) cnt = lawR (h 0) (h 1) (v 1) sz 129 0 2 (v 0) 1 → (∀ k, k ≠ 0 → v1 k = v k) → Ev p l e R s m args below meth c 0 0 (EQ below (PI fun r w => r = lawR (h 0) (h 1) (v 1) sz 129 0 2 (v 0) 1 ∧ ∃ v', w = hx ad tc W g h Dv Sh u v' z y ∧ ∀ k, k ≠ 0 → v' k = v k) args s D A) D A 5 (hx ad tc W g h Dv Sh u v1 z y) 6 [(3, .int (nI i)), (2, .int cnt), (1, .int (nI top)), (0, .ref (ad 11))] [] := by
    intro n
    induction n with
    | zero =>
      intro i top cnt v1 h1 h2 htop hres hv
      exfalso; omega
    | succ n ih =>
      intro i top cnt v1 h1 h2 htop hres hv
      refine E_iload_n C dX5_firstThatCounts_6 0 rfl ?_
      
      refine E_aload_n C dX5_firstThatCounts_7 3 rfl (xg_5_4 C dX5_firstThatCounts_8 f_X5_22 ?_)
      rw [hsz]
      refine E_icmp_ge C 251 dX5_firstThatCounts_11 (by decide) (fun c11 => ?_) (fun c11 => ?_)
      ·
        refine E_iconst (v := 0) C dX5_firstThatCounts_251 ic_0 (E_iretI C hr hlk dX5_firstThatCounts_252 ?_)
        refine ⟨?_, v1, rfl, hv⟩
        rw [← hres]
        refine (lawR_out ?_).symm
        first
          | exact fun q => nI_ge q.1 (by omega) c11
          | exact fun q => nI_ge (b := 128) q.2.1 (by decide) c18
          | exact fun q => nI_nlt (b := 2) q.2.2.1 (by omega) c23
          | exact fun q => nI_ge (b := 130) q.2.2.2 (by decide) c32
      ·
        refine E_iload_n C dX5_firstThatCounts_14 0 rfl (E_sipush (v := 128) C dX5_firstThatCounts_15 sp_128 (E_icmp_ge C 251 dX5_firstThatCounts_18 (by decide) (fun c18 => ?_) (fun c18 => ?_)))
        ·
          refine E_iconst (v := 0) C dX5_firstThatCounts_251 ic_0 (E_iretI C hr hlk dX5_firstThatCounts_252 ?_)
          refine ⟨?_, v1, rfl, hv⟩
          rw [← hres]
          refine (lawR_out ?_).symm
          first
            | exact fun q => nI_ge q.1 (by omega) c11
            | exact fun q => nI_ge (b := 128) q.2.1 (by decide) c18
            | exact fun q => nI_nlt (b := 2) q.2.2.1 (by omega) c23
            | exact fun q => nI_ge (b := 130) q.2.2.2 (by decide) c32
        ·
          refine E_iload_n C dX5_firstThatCounts_21 2 rfl (E_iconst (v := 2) C dX5_firstThatCounts_22 ic_2 (E_icmp_lt C 251 dX5_firstThatCounts_23 (by decide) (fun c23 => ?_) (fun c23 => ?_)))
          ·
            refine E_iconst (v := 0) C dX5_firstThatCounts_251 ic_0 (E_iretI C hr hlk dX5_firstThatCounts_252 ?_)
            refine ⟨?_, v1, rfl, hv⟩
            rw [← hres]
            refine (lawR_out ?_).symm
            first
              | exact fun q => nI_ge q.1 (by omega) c11
              | exact fun q => nI_ge (b := 128) q.2.1 (by decide) c18
              | exact fun q => nI_nlt (b := 2) q.2.2.1 (by omega) c23
              | exact fun q => nI_ge (b := 130) q.2.2.2 (by decide) c32
          ·
            refine E_iload_n C dX5_firstThatCounts_26 2 rfl (E_aload_n C dX5_firstThatCounts_27 3 rfl (xg_5_2 C dX5_firstThatCounts_28 f_X5_16 (xn_14 C dX5_firstThatCounts_31 (E_icmp_ge C 251 dX5_firstThatCounts_32 (by decide) (fun c32 => ?_) (fun c32 => ?_)))))
            ·
              refine E_iconst (v := 0) C dX5_firstThatCounts_251 ic_0 (E_iretI C hr hlk dX5_firstThatCounts_252 ?_)
              refine ⟨?_, v1, rfl, hv⟩
              rw [← hres]
              refine (lawR_out ?_).symm
              first
                | exact fun q => nI_ge q.1 (by omega) c11
                | exact fun q => nI_ge (b := 128) q.2.1 (by decide) c18
                | exact fun q => nI_nlt (b := 2) q.2.2.1 (by omega) c23
                | exact fun q => nI_ge (b := 130) q.2.2.2 (by decide) c32
            ·
              have hc : i < sz ∧ i < 128 ∧ 2 ≤ top ∧ top < 130 := by
                refine ⟨?_, ?_, ?_, ?_⟩
                · rcases Nat.lt_or_ge i sz with q | q
                  · exact q
                  · exact absurd (show nI sz ≤ nI i from nI_le q (by omega)) c11
                · rcases Nat.lt_or_ge i 128 with q | q
                  · exact q
                  · exact absurd (show nI 128 ≤ nI i from nI_le q (by omega)) c18
                · rcases Nat.lt_or_ge top 2 with q | q
                  · exact absurd (show nI top < nI 2 from nI_lt q (by decide)) c23
                  · exact q
                · rcases Nat.lt_or_ge top 130 with q | q
                  · exact q
                  · exact absurd (show nI 130 ≤ nI top from nI_le q (by omega)) c32
              refine E_aload_n C dX5_firstThatCounts_35 3 rfl (xg_5_2 C dX5_firstThatCounts_36 f_X5_16 (E_iload_n C dX5_firstThatCounts_39 2 rfl (E_iconst (v := 1) C dX5_firstThatCounts_40 ic_1 (E_isub C dX5_firstThatCounts_41 ?_))))
              refine Ev.seti (show nI top - 1 = nI (top - 1) from pk_sub (a := top) (b := 1) (by omega)) ?_
              refine xa_14 C dX5_firstThatCounts_42 (vinN (by omega)) ?_
              rw [nI_clamp (show top - 1 < 2 ^ 31 by omega)]
              refine E_istore C dX5_firstThatCounts_43 (by decide) (E_aload_n C dX5_firstThatCounts_45 4 rfl (xg_5_0 C dX5_firstThatCounts_46 f_X5_9 (E_iload_n C dX5_firstThatCounts_49 1 rfl (xa_12 C dX5_firstThatCounts_50 (vinN (by omega)) ?_))))
              rw [nI_clamp (show i < 2 ^ 31 by omega)]
              by_cases e51 : h 0 i = 33
              ·
                rw [e51]
                refine E_lookup C 148 dX5_firstThatCounts_51 (by decide) rfl (by decide) (E_aload_n C dX5_firstThatCounts_148 4 rfl (xg_5_2 C dX5_firstThatCounts_149 f_X5_16 (E_iload_n C dX5_firstThatCounts_152 3 rfl (E_iconst (v := 1) C dX5_firstThatCounts_153 ic_1 (E_isub C dX5_firstThatCounts_154 ?_)))))
                refine Ev.seti (show nI top - 1 = nI (top - 1) from pk_sub (a := top) (b := 1) (by omega)) ?_
                refine E_iload C dX5_firstThatCounts_155 0 rfl (E_if_ne C 164 dX5_firstThatCounts_157 (by decide) (fun c157 => ?_) (fun c157 => ?_))
                ·
                  refine E_iconst (v := 0) C dX5_firstThatCounts_164 ic_0 (xs_14 C dX5_firstThatCounts_165 (vinN (by omega)) ?_)
                  rw [nI_clamp (show top - 1 < 2 ^ 31 by omega)]
                  refine E_goto C 245 dX5_firstThatCounts_166 (by decide) (E_iinc C dX5_firstThatCounts_245 1 rfl (nI_1 i) (by decide) (E_goto C 6 dX5_firstThatCounts_248 (by decide) ?_))
                  refine Ev.sub [0, 2, 3, 4] rfl (ih (i + 1) _ _ _ (by omega) (by omega) (by omega) ?_ ?_)
                  · rw [← hres]
                    first
                      | (refine Eq.symm ((lawR_33 hc e51).trans ?_); rw [if_neg c157] <;> rfl)
                      | (refine Eq.symm ((lawR_33 hc e51).trans ?_); rw [if_pos c157] <;> rfl)
                      | exact (lawR_48 hc e51_2).symm
                      | exact (lawR_59a hc e51_3 c201).symm
                      | (refine Eq.symm ((lawR_63 hc e51_4).trans ?_); rw [if_neg c185] <;> rfl)
                      | (refine Eq.symm ((lawR_63 hc e51_4).trans ?_); rw [if_pos c185] <;> rfl)
                      | (rw [hv 1 (by decide)]; exact (lawR_110 hc e51_5).symm)
                      | exact (lawR_126 hc e51_6).symm
                      | exact (lawR_def hc e51 e51_2 e51_3 e51_4 e51_5 e51_6).symm
                  · intro k hk0
                    first
                      | exact hv k hk0
                      | exact (if_neg hk0).trans (hv k hk0)
                ·
                  refine E_iconst (v := 1) C dX5_firstThatCounts_160 ic_1 (E_goto C 165 dX5_firstThatCounts_161 (by decide) (xs_14 C dX5_firstThatCounts_165 (vinN (by omega)) ?_))
                  rw [nI_clamp (show top - 1 < 2 ^ 31 by omega)]
                  refine E_goto C 245 dX5_firstThatCounts_166 (by decide) (E_iinc C dX5_firstThatCounts_245 1 rfl (nI_1 i) (by decide) (E_goto C 6 dX5_firstThatCounts_248 (by decide) ?_))
                  refine Ev.sub [0, 2, 3, 4] rfl (ih (i + 1) _ _ _ (by omega) (by omega) (by omega) ?_ ?_)
                  · rw [← hres]
                    first
                      | (refine Eq.symm ((lawR_33 hc e51).trans ?_); rw [if_neg c157] <;> rfl)
                      | (refine Eq.symm ((lawR_33 hc e51).trans ?_); rw [if_pos c157] <;> rfl)
                      | exact (lawR_48 hc e51_2).symm
                      | exact (lawR_59a hc e51_3 c201).symm
                      | (refine Eq.symm ((lawR_63 hc e51_4).trans ?_); rw [if_neg c185] <;> rfl)
                      | (refine Eq.symm ((lawR_63 hc e51_4).trans ?_); rw [if_pos c185] <;> rfl)
                      | (rw [hv 1 (by decide)]; exact (lawR_110 hc e51_5).symm)
                      | exact (lawR_126 hc e51_6).symm
                      | exact (lawR_def hc e51 e51_2 e51_3 e51_4 e51_5 e51_6).symm
                  · intro k hk0
                    first
                      | exact hv k hk0
                      | exact (if_neg hk0).trans (hv k hk0)
              by_cases e51_2 : h 0 i = 48
              ·
                rw [e51_2]
                refine E_lookup C 108 dX5_firstThatCounts_51 (by decide) rfl (by decide) (E_aload_n C dX5_firstThatCounts_108 4 rfl (xg_5_2 C dX5_firstThatCounts_109 f_X5_16 (E_iload_n C dX5_firstThatCounts_112 3 rfl (E_aload_n C dX5_firstThatCounts_113 4 rfl (xg_5_1 C dX5_firstThatCounts_114 f_X5_13 ?_)))))
                refine E_iload_n C dX5_firstThatCounts_117 1 rfl (xa_13 C dX5_firstThatCounts_118 (vinN (by omega)) ?_)
                rw [nI_clamp (show i < 2 ^ 31 by omega)]
                refine xs_14 C dX5_firstThatCounts_119 (vinN (by omega)) ?_
                rw [nI_clamp (show top < 2 ^ 31 by omega)]
                refine E_iinc C dX5_firstThatCounts_120 3 rfl (nI_1 top) (by decide) (E_goto C 245 dX5_firstThatCounts_123 (by decide) (E_iinc C dX5_firstThatCounts_245 2 rfl (nI_1 i) (by decide) (E_goto C 6 dX5_firstThatCounts_248 (by decide) ?_)))
                refine Ev.sub [0, 3, 1, 4] rfl (ih (i + 1) _ _ _ (by omega) (by omega) (by omega) ?_ ?_)
                · rw [← hres]
                  first
                    | (refine Eq.symm ((lawR_33 hc e51).trans ?_); rw [if_neg c157] <;> rfl)
                    | (refine Eq.symm ((lawR_33 hc e51).trans ?_); rw [if_pos c157] <;> rfl)
                    | exact (lawR_48 hc e51_2).symm
                    | exact (lawR_59a hc e51_3 c201).symm
                    | (refine Eq.symm ((lawR_63 hc e51_4).trans ?_); rw [if_neg c185] <;> rfl)
                    | (refine Eq.symm ((lawR_63 hc e51_4).trans ?_); rw [if_pos c185] <;> rfl)
                    | (rw [hv 1 (by decide)]; exact (lawR_110 hc e51_5).symm)
                    | exact (lawR_126 hc e51_6).symm
                    | exact (lawR_def hc e51 e51_2 e51_3 e51_4 e51_5 e51_6).symm
                · intro k hk0
                  first
                    | exact hv k hk0
                    | exact (if_neg hk0).trans (hv k hk0)
              by_cases e51_3 : h 0 i = 59
              ·
                rw [e51_3]
                refine E_lookup C 200 dX5_firstThatCounts_51 (by decide) rfl (by decide) (E_iload_n C dX5_firstThatCounts_200 2 rfl (E_if_eq C 207 dX5_firstThatCounts_201 (by decide) (fun c201 => ?_) (fun c201 => ?_)))
                ·
                  refine E_iconst (v := 1) C dX5_firstThatCounts_207 ic_1 (E_istore_n C dX5_firstThatCounts_208 (by decide) (E_iinc C dX5_firstThatCounts_209 3 rfl (show nI top + (-1) = nI (top - 1) by obtain ⟨q, rfl⟩ : ∃ q, top = q + 1 := ⟨top - 1, by omega⟩; exact pk_m1 q) (by decide) (E_goto C 245 dX5_firstThatCounts_212 (by decide) (E_iinc C dX5_firstThatCounts_245 3 rfl (nI_1 i) (by decide) (E_goto C 6 dX5_firstThatCounts_248 (by decide) ?_)))))
                  refine Ev.sub [0, 2, 1, 4] rfl (ih (i + 1) _ _ _ (by omega) (by omega) (by omega) ?_ ?_)
                  · rw [← hres]
                    first
                      | (refine Eq.symm ((lawR_33 hc e51).trans ?_); rw [if_neg c157] <;> rfl)
                      | (refine Eq.symm ((lawR_33 hc e51).trans ?_); rw [if_pos c157] <;> rfl)
                      | exact (lawR_48 hc e51_2).symm
                      | exact (lawR_59a hc e51_3 c201).symm
                      | (refine Eq.symm ((lawR_63 hc e51_4).trans ?_); rw [if_neg c185] <;> rfl)
                      | (refine Eq.symm ((lawR_63 hc e51_4).trans ?_); rw [if_pos c185] <;> rfl)
                      | (rw [hv 1 (by decide)]; exact (lawR_110 hc e51_5).symm)
                      | exact (lawR_126 hc e51_6).symm
                      | exact (lawR_def hc e51 e51_2 e51_3 e51_4 e51_5 e51_6).symm
                  · intro k hk0
                    first
                      | exact hv k hk0
                      | exact (if_neg hk0).trans (hv k hk0)
                ·
                  refine E_iload C dX5_firstThatCounts_204 0 rfl (E_iretI C hr hlk dX5_firstThatCounts_206 ?_)
                  refine ⟨?_, v1, rfl, hv⟩
                  rw [← hres]
                  exact (lawR_59b hc e51_3 c201).symm
              by_cases e51_4 : h 0 i = 63
              ·
                rw [e51_4]
                refine E_lookup C 183 dX5_firstThatCounts_51 (by decide) rfl (by decide) (E_iload C dX5_firstThatCounts_183 0 rfl (E_if_eq C 192 dX5_firstThatCounts_185 (by decide) (fun c185 => ?_) (fun c185 => ?_)))
                ·
                  refine E_iconst (v := 0) C dX5_firstThatCounts_192 ic_0 (E_istore_n C dX5_firstThatCounts_193 (by decide) (E_iinc C dX5_firstThatCounts_194 3 rfl (show nI top + (-1) = nI (top - 1) by obtain ⟨q, rfl⟩ : ∃ q, top = q + 1 := ⟨top - 1, by omega⟩; exact pk_m1 q) (by decide) (E_goto C 245 dX5_firstThatCounts_197 (by decide) (E_iinc C dX5_firstThatCounts_245 3 rfl (nI_1 i) (by decide) (E_goto C 6 dX5_firstThatCounts_248 (by decide) ?_)))))
                  refine Ev.sub [0, 2, 1, 4] rfl (ih (i + 1) _ _ _ (by omega) (by omega) (by omega) ?_ ?_)
                  · rw [← hres]
                    first
                      | (refine Eq.symm ((lawR_33 hc e51).trans ?_); rw [if_neg c157] <;> rfl)
                      | (refine Eq.symm ((lawR_33 hc e51).trans ?_); rw [if_pos c157] <;> rfl)
                      | exact (lawR_48 hc e51_2).symm
                      | exact (lawR_59a hc e51_3 c201).symm
                      | (refine Eq.symm ((lawR_63 hc e51_4).trans ?_); rw [if_neg c185] <;> rfl)
                      | (refine Eq.symm ((lawR_63 hc e51_4).trans ?_); rw [if_pos c185] <;> rfl)
                      | (rw [hv 1 (by decide)]; exact (lawR_110 hc e51_5).symm)
                      | exact (lawR_126 hc e51_6).symm
                      | exact (lawR_def hc e51 e51_2 e51_3 e51_4 e51_5 e51_6).symm
                  · intro k hk0
                    first
                      | exact hv k hk0
                      | exact (if_neg hk0).trans (hv k hk0)
                ·
                  refine E_iconst (v := 1) C dX5_firstThatCounts_188 ic_1 (E_goto C 193 dX5_firstThatCounts_189 (by decide) (E_istore_n C dX5_firstThatCounts_193 (by decide) (E_iinc C dX5_firstThatCounts_194 3 rfl (show nI top + (-1) = nI (top - 1) by obtain ⟨q, rfl⟩ : ∃ q, top = q + 1 := ⟨top - 1, by omega⟩; exact pk_m1 q) (by decide) (E_goto C 245 dX5_firstThatCounts_197 (by decide) (E_iinc C dX5_firstThatCounts_245 3 rfl (nI_1 i) (by decide) ?_)))))
                  refine E_goto C 6 dX5_firstThatCounts_248 (by decide) ?_
                  refine Ev.sub [0, 2, 1, 4] rfl (ih (i + 1) _ _ _ (by omega) (by omega) (by omega) ?_ ?_)
                  · rw [← hres]
                    first
                      | (refine Eq.symm ((lawR_33 hc e51).trans ?_); rw [if_neg c157] <;> rfl)
                      | (refine Eq.symm ((lawR_33 hc e51).trans ?_); rw [if_pos c157] <;> rfl)
                      | exact (lawR_48 hc e51_2).symm
                      | exact (lawR_59a hc e51_3 c201).symm
                      | (refine Eq.symm ((lawR_63 hc e51_4).trans ?_); rw [if_neg c185] <;> rfl)
                      | (refine Eq.symm ((lawR_63 hc e51_4).trans ?_); rw [if_pos c185] <;> rfl)
                      | (rw [hv 1 (by decide)]; exact (lawR_110 hc e51_5).symm)
                      | exact (lawR_126 hc e51_6).symm
                      | exact (lawR_def hc e51 e51_2 e51_3 e51_4 e51_5 e51_6).symm
                  · intro k hk0
                    first
                      | exact hv k hk0
                      | exact (if_neg hk0).trans (hv k hk0)
              by_cases e51_5 : h 0 i = 110
              ·
                rw [e51_5]
                refine E_lookup C 126 dX5_firstThatCounts_51 (by decide) rfl (by decide) (E_aload_n C dX5_firstThatCounts_126 4 rfl (xg_5_2 C dX5_firstThatCounts_127 f_X5_16 (E_iload_n C dX5_firstThatCounts_130 3 rfl (E_aload_n C dX5_firstThatCounts_131 4 rfl (E_aload_n C dX5_firstThatCounts_132 4 rfl ?_)))))
                refine xg_5_1 C dX5_firstThatCounts_133 f_X5_13 (E_iload_n C dX5_firstThatCounts_136 1 rfl (xa_13 C dX5_firstThatCounts_137 (vinN (by omega)) ?_))
                rw [nI_clamp (show i < 2 ^ 31 by omega)]
                refine E_callVI C dX5_firstThatCounts_138 mv_X5_34 11 _ (s_named _) rfl rfl rfl (by decide) (Nat.le_of_ble_eq_true rfl) ?_
                rintro _ _ ⟨rfl, rfl⟩
                refine xs_14 C dX5_firstThatCounts_141 (vinN (by omega)) ?_
                rw [nI_clamp (show top < 2 ^ 31 by omega)]
                refine E_iinc C dX5_firstThatCounts_142 3 rfl (nI_1 top) (by decide) (E_goto C 245 dX5_firstThatCounts_145 (by decide) (E_iinc C dX5_firstThatCounts_245 2 rfl (nI_1 i) (by decide) (E_goto C 6 dX5_firstThatCounts_248 (by decide) ?_)))
                refine Ev.sub [0, 3, 1, 4] rfl (ih (i + 1) _ _ _ (by omega) (by omega) (by omega) ?_ ?_)
                · rw [← hres]
                  first
                    | (refine Eq.symm ((lawR_33 hc e51).trans ?_); rw [if_neg c157] <;> rfl)
                    | (refine Eq.symm ((lawR_33 hc e51).trans ?_); rw [if_pos c157] <;> rfl)
                    | exact (lawR_48 hc e51_2).symm
                    | exact (lawR_59a hc e51_3 c201).symm
                    | (refine Eq.symm ((lawR_63 hc e51_4).trans ?_); rw [if_neg c185] <;> rfl)
                    | (refine Eq.symm ((lawR_63 hc e51_4).trans ?_); rw [if_pos c185] <;> rfl)
                    | (rw [hv 1 (by decide)]; exact (lawR_110 hc e51_5).symm)
                    | exact (lawR_126 hc e51_6).symm
                    | exact (lawR_def hc e51 e51_2 e51_3 e51_4 e51_5 e51_6).symm
                · intro k hk0
                  first
                    | exact hv k hk0
                    | exact (if_neg hk0).trans (hv k hk0)
              by_cases e51_6 : h 0 i = 126
              ·
                rw [e51_6]
                refine E_lookup C 169 dX5_firstThatCounts_51 (by decide) rfl (by decide) (E_aload_n C dX5_firstThatCounts_169 4 rfl (xg_5_2 C dX5_firstThatCounts_170 f_X5_16 (E_iload_n C dX5_firstThatCounts_173 3 rfl (E_iconst (v := 1) C dX5_firstThatCounts_174 ic_1 (E_isub C dX5_firstThatCounts_175 ?_)))))
                refine Ev.seti (show nI top - 1 = nI (top - 1) from pk_sub (a := top) (b := 1) (by omega)) ?_
                refine E_iload C dX5_firstThatCounts_176 0 rfl (E_ineg C dX5_firstThatCounts_178 (xs_14 C dX5_firstThatCounts_179 (vinN (by omega)) ?_))
                rw [nI_clamp (show top - 1 < 2 ^ 31 by omega)]
                refine E_goto C 245 dX5_firstThatCounts_180 (by decide) (E_iinc C dX5_firstThatCounts_245 1 rfl (nI_1 i) (by decide) (E_goto C 6 dX5_firstThatCounts_248 (by decide) ?_))
                refine Ev.sub [0, 2, 3, 4] rfl (ih (i + 1) _ _ _ (by omega) (by omega) (by omega) ?_ ?_)
                · rw [← hres]
                  first
                    | (refine Eq.symm ((lawR_33 hc e51).trans ?_); rw [if_neg c157] <;> rfl)
                    | (refine Eq.symm ((lawR_33 hc e51).trans ?_); rw [if_pos c157] <;> rfl)
                    | exact (lawR_48 hc e51_2).symm
                    | exact (lawR_59a hc e51_3 c201).symm
                    | (refine Eq.symm ((lawR_63 hc e51_4).trans ?_); rw [if_neg c185] <;> rfl)
                    | (refine Eq.symm ((lawR_63 hc e51_4).trans ?_); rw [if_pos c185] <;> rfl)
                    | (rw [hv 1 (by decide)]; exact (lawR_110 hc e51_5).symm)
                    | exact (lawR_126 hc e51_6).symm
                    | exact (lawR_def hc e51 e51_2 e51_3 e51_4 e51_5 e51_6).symm
                · intro k hk0
                  first
                    | exact hv k hk0
                    | exact (if_neg hk0).trans (hv k hk0)
              refine E_lookup (off := 164) C 215 dX5_firstThatCounts_51 (by decide) ((lv_osw e51 rfl).trans ((lv_osw e51_2 rfl).trans ((lv_osw e51_3 rfl).trans ((lv_osw e51_4 rfl).trans ((lv_osw e51_5 rfl).trans ((lv_osw e51_6 rfl).trans rfl)))))) (by decide) (E_aload_n C dX5_firstThatCounts_215 4 rfl (xg_5_2 C dX5_firstThatCounts_216 f_X5_16 (E_iload_n C dX5_firstThatCounts_219 3 rfl (E_iconst (v := 2) C dX5_firstThatCounts_220 ic_2 (E_isub C dX5_firstThatCounts_221 ?_)))))
              refine Ev.seti (show nI top - 2 = nI (top - 2) from pk_sub (a := top) (b := 2) (by omega)) ?_
              refine E_aload_n C dX5_firstThatCounts_222 4 rfl (xg_5_0 C dX5_firstThatCounts_223 f_X5_9 (E_iload_n C dX5_firstThatCounts_226 1 rfl (xa_12 C dX5_firstThatCounts_227 (vinN (by omega)) ?_)))
              rw [nI_clamp (show i < 2 ^ 31 by omega)]
              refine E_aload_n C dX5_firstThatCounts_228 4 rfl (xg_5_2 C dX5_firstThatCounts_229 f_X5_16 (E_iload_n C dX5_firstThatCounts_232 3 rfl (E_iconst (v := 2) C dX5_firstThatCounts_233 ic_2 (E_isub C dX5_firstThatCounts_234 ?_))))
              refine Ev.seti (show nI top - 2 = nI (top - 2) from pk_sub (a := top) (b := 2) (by omega)) ?_
              refine xa_14 C dX5_firstThatCounts_235 (vinN (by omega)) ?_
              rw [nI_clamp (show top - 2 < 2 ^ 31 by omega)]
              refine E_iload C dX5_firstThatCounts_236 0 rfl (E_callSI C dX5_firstThatCounts_238 ms_X5_37 _ (s_together _ _ _) rfl rfl (by decide) (Nat.le_of_ble_eq_true rfl) ?_)
              rintro _ _ ⟨rfl, rfl⟩
              refine xs_14 C dX5_firstThatCounts_241 (vinN (by omega)) ?_
              rw [nI_clamp (show top - 2 < 2 ^ 31 by omega)]
              refine E_iinc C dX5_firstThatCounts_242 3 rfl (show nI top + (-1) = nI (top - 1) by obtain ⟨q, rfl⟩ : ∃ q, top = q + 1 := ⟨top - 1, by omega⟩; exact pk_m1 q) (by decide) (E_iinc C dX5_firstThatCounts_245 2 rfl (nI_1 i) (by decide) (E_goto C 6 dX5_firstThatCounts_248 (by decide) ?_))
              refine Ev.sub [0, 3, 1, 4] rfl (ih (i + 1) _ _ _ (by omega) (by omega) (by omega) ?_ ?_)
              · rw [← hres]
                first
                  | (refine Eq.symm ((lawR_33 hc e51).trans ?_); rw [if_neg c157] <;> rfl)
                  | (refine Eq.symm ((lawR_33 hc e51).trans ?_); rw [if_pos c157] <;> rfl)
                  | exact (lawR_48 hc e51_2).symm
                  | exact (lawR_59a hc e51_3 c201).symm
                  | (refine Eq.symm ((lawR_63 hc e51_4).trans ?_); rw [if_neg c185] <;> rfl)
                  | (refine Eq.symm ((lawR_63 hc e51_4).trans ?_); rw [if_pos c185] <;> rfl)
                  | (rw [hv 1 (by decide)]; exact (lawR_110 hc e51_5).symm)
                  | exact (lawR_126 hc e51_6).symm
                  | exact (lawR_def hc e51 e51_2 e51_3 e51_4 e51_5 e51_6).symm
              · intro k hk0
                first
                  | exact hv k hk0
                  | exact (if_neg hk0).trans (hv k hk0)
  refine E_iconst (v := 2) C dX5_firstThatCounts_0 ic_2 (E_istore_n C dX5_firstThatCounts_1 (by decide) (E_iconst (v := 1) C dX5_firstThatCounts_2 ic_1 (E_istore_n C dX5_firstThatCounts_3 (by decide) (E_iconst (v := 0) C dX5_firstThatCounts_4 ic_0 (E_istore_n C dX5_firstThatCounts_5 (by decide) ?_)))))
  exact K 129 0 2 1 v (by omega) (by omega) (by omega) rfl (fun _ _ => rfl)
set_option maxRecDepth 100000 in
set_option maxHeartbeats 4000000 in
theorem s_minutes {l : Launch} {D : va_G} {tc tt ad : Nat → Nat} {W : Nat → Nat → Int32} {g : Nat → Int32} {h : Nat → Nat → Int32} {Dv : Nat → (Nat → Int32) × (Nat → Nat → Int32)} {Sh : Nat → (Nat → Int32) × (Nat → Int64)} {u : Nat → Int32} {v : Nat → Nat → Int32} {z : Int64} {y : Nat → Int64} {sz : Nat} (hsz : g 2 = nI sz) (hs : sz ≤ 128) (nn pp kk ww ss : Int32) : Ct l yX5_minutes cX5_minutes 6 (some .int) 3 D tc tt [.ref (ad 11), .int nn, .int pp, .int kk, .int ww, .int ss] (hx ad tc W g h Dv Sh u v z y) (PI fun r w => r = (if sz = 0 then heldF (pp + nn) else heldF (lawR (h 0) (h 1) (facts nn pp kk ww ss) sz 129 0 2 (v 0) 1)) ∧ ∃ v', w = hx ad tc W g h Dv Sh u v' z y ∧ ∀ k, k ≠ 0 → k ≠ 1 → v' k = v k) := by
  refine Ct.of (by decide +kernel) (Nat.le_of_ble_eq_true rfl) ?_
  intro p e R s m args below meth c A C hr hlk
  refine E_aload_n C dX5_minutes_0 0 rfl (xg_5_4 C dX5_minutes_1 f_X5_22 ?_)
  rw [hsz]
  refine E_if_ne C 14 dX5_minutes_4 (by decide) (fun c4 => ?_) (fun c4 => ?_)
  ·
    refine E_aload_n C dX5_minutes_14 0 rfl (xg_5_3 C dX5_minutes_15 f_X5_19 (E_iconst (v := 0) C dX5_minutes_18 ic_0 (E_iload_n C dX5_minutes_19 1 rfl (xs_15 C dX5_minutes_20 (vinN (k := 0) (by decide)) (E_aload_n C dX5_minutes_21 0 rfl ?_)))))
    refine xg_5_3 C dX5_minutes_22 f_X5_19 (E_iconst (v := 1) C dX5_minutes_25 ic_1 (E_iload_n C dX5_minutes_26 2 rfl (xs_15 C dX5_minutes_27 (vinN (k := 1) (by decide)) (E_aload_n C dX5_minutes_28 0 rfl (xg_5_3 C dX5_minutes_29 f_X5_19 ?_)))))
    refine E_iconst (v := 2) C dX5_minutes_32 ic_2 (E_iload_n C dX5_minutes_33 3 rfl (xs_15 C dX5_minutes_34 (vinN (k := 2) (by decide)) (E_aload_n C dX5_minutes_35 0 rfl (xg_5_3 C dX5_minutes_36 f_X5_19 (E_iconst (v := 3) C dX5_minutes_39 ic_3 ?_)))))
    refine E_iload C dX5_minutes_40 4 rfl (xs_15 C dX5_minutes_42 (vinN (k := 3) (by decide)) (E_aload_n C dX5_minutes_43 0 rfl (xg_5_3 C dX5_minutes_44 f_X5_19 (E_iconst (v := 4) C dX5_minutes_47 ic_4 (E_iload C dX5_minutes_48 5 rfl ?_)))))
    refine xs_15 C dX5_minutes_50 (vinN (k := 4) (by decide)) (E_aload_n C dX5_minutes_51 0 rfl (E_callVI C dX5_minutes_52 mv_X5_30 11 _ (s_first hsz hs) rfl rfl rfl (by decide) (Nat.le_of_ble_eq_true rfl) ?_))
    rintro _ _ ⟨rfl, v2, rfl, hv2⟩
    refine E_callSI C dX5_minutes_55 ms_X5_26 _ (s_held _) rfl rfl (by decide) (Nat.le_of_ble_eq_true rfl) ?_
    rintro _ _ ⟨rfl, rfl⟩
    refine E_iretI C hr hlk dX5_minutes_58 ?_
    first
      | exact ⟨(if_pos ((nI_eq (b := 0) (by omega) (by decide)).mp c4)).symm, v, rfl, fun _ _ _ => rfl⟩
      | (refine ⟨?_, v2, rfl, fun k h0 h1 => (hv2 k h0).trans (by simp only [va_up, if_neg h1])⟩
         rw [if_neg (fun q => c4 (by rw [q]; rfl))]
         refine congrArg heldF (lawR_nm fun j hj => ?_)
         rcases (show j = 0 ∨ j = 1 ∨ j = 2 ∨ j = 3 ∨ j = 4 by omega) with rfl | rfl | rfl | rfl | rfl <;> rfl)
  ·
    refine E_iload_n C dX5_minutes_7 2 rfl (E_iload_n C dX5_minutes_8 1 rfl (E_iadd C dX5_minutes_9 (E_callSI C dX5_minutes_10 ms_X5_26 _ (s_held _) rfl rfl (by decide) (Nat.le_of_ble_eq_true rfl) ?_)))
    rintro _ _ ⟨rfl, rfl⟩
    refine E_iretI C hr hlk dX5_minutes_13 ?_
    first
      | exact ⟨(if_pos ((nI_eq (b := 0) (by omega) (by decide)).mp c4)).symm, v, rfl, fun _ _ _ => rfl⟩
      | (refine ⟨?_, v2, rfl, fun k h0 h1 => (hv2 k h0).trans (by simp only [va_up, if_neg h1])⟩
         rw [if_neg (fun q => c4 (by rw [q]; rfl))]
         refine congrArg heldF (lawR_nm fun j hj => ?_)
         rcases (show j = 0 ∨ j = 1 ∨ j = 2 ∨ j = 3 ∨ j = 4 by omega) with rfl | rfl | rfl | rfl | rfl <;> rfl)
set_option maxRecDepth 100000 in
set_option maxHeartbeats 4000000 in
theorem s_adopt {l : Launch} {D : va_G} {tc tt ad : Nat → Nat} {W : Nat → Nat → Int32} {g : Nat → Int32} {h : Nat → Nat → Int32} {Dv : Nat → (Nat → Int32) × (Nat → Nat → Int32)} {Sh : Nat → (Nat → Int32) × (Nat → Int64)} {u : Nat → Int32} {v : Nat → Nat → Int32} {z : Int64} {y : Nat → Int64} (sz : Nat) (hs : sz ≤ 128) : Ct l yX5_adopt cX5_adopt 5 none 1 D tc tt [.ref (ad 11), .ref (ad 23), .ref (ad 24), .int (nI sz)] (hx ad tc W g h Dv Sh u v z y) (PV fun w => ∃ f0 f1 : Nat → Int32, w = hx ad tc W (va_up g 2 (nI sz)) (va_up (va_up h 0 f0) 1 f1) Dv Sh u v z y ∧ ∀ j, j < sz → f0 j = v 2 j ∧ f1 j = v 3 j) := by
  refine Ct.of (by decide +kernel) (Nat.le_of_ble_eq_true rfl) ?_
  intro p e R s m args below meth c A C hr hlk
  have K : ∀ (n i : Nat) (f0 f1 : Nat → Int32), i ≤ sz → sz < i + n → (∀ j, j < i → f0 j = v 2 j ∧ f1 j = v 3 j) → Ev p l e R s m args below meth c 0 0 (EQ below (PV fun w => ∃ f0 f1 : Nat → Int32, w = hx ad tc W (va_up g 2 (nI sz)) (va_up (va_up h 0 f0) 1 f1) Dv Sh u v z y ∧ ∀ j, j < sz → f0 j = v 2 j ∧ f1 j = v 3 j) args s D A) D A 5 (hx ad tc W (va_up g 2 (nI i)) (va_up (va_up h 0 f0) 1 f1) Dv Sh u v z y) 8 [(4, .int (nI i)), (0, .ref (ad 11)), (1, .ref (ad 23)), (2, .ref (ad 24)), (3, .int (nI sz))] [] := by
    intro n
    induction n with
    | zero =>
      intro i f0 f1 h1 h2 hf
      exfalso; omega
    | succ n ih =>
      intro i f0 f1 h1 h2 hf
      refine E_iload C dX5_adopt_8 0 rfl (E_iload_n C dX5_adopt_10 4 rfl (E_icmp_ge C 74 dX5_adopt_11 (by decide) (fun c11 => ?_) (fun c11 => ?_)))
      ·
        obtain rfl : i = sz := by
          rcases Nat.lt_or_ge i sz with q | q
          · exact absurd (show nI sz ≤ nI i from c11) (nI_ge q (by omega))
          · omega
        refine E_vretV C hr hlk dX5_adopt_74 ?_
        exact ⟨f0, f1, rfl, hf⟩
      ·
        have hi : i < sz := by
          rcases Nat.lt_or_ge i sz with q | q
          · exact q
          · exact absurd (show nI sz ≤ nI i from nI_le q (by omega)) c11
        refine E_iload C dX5_adopt_14 0 rfl (E_sipush (v := 128) C dX5_adopt_16 sp_128 (E_icmp_ge C 74 dX5_adopt_19 (by decide) (fun c19 => ?_) (fun c19 => ?_)))
        ·
          exact absurd (show nI 128 ≤ nI i from c19) (nI_ge (by omega) (by decide))
        ·
          refine E_iload C dX5_adopt_22 0 rfl (E_aload_n C dX5_adopt_24 2 rfl (xn_23 C dX5_adopt_25 (E_icmp_ge C 74 dX5_adopt_26 (by decide) (fun c26 => ?_) (fun c26 => ?_))))
          ·
            exact absurd (show nI 128 ≤ nI i from c26) (nI_ge (by omega) (by decide))
          ·
            refine E_iload C dX5_adopt_29 0 rfl (E_aload_n C dX5_adopt_31 3 rfl (xn_24 C dX5_adopt_32 (E_icmp_ge C 74 dX5_adopt_33 (by decide) (fun c33 => ?_) (fun c33 => ?_))))
            ·
              exact absurd (show nI 128 ≤ nI i from c33) (nI_ge (by omega) (by decide))
            ·
              refine E_aload_n C dX5_adopt_36 1 rfl (xg_5_0 C dX5_adopt_37 f_X5_9 (E_iload C dX5_adopt_40 0 rfl (E_aload_n C dX5_adopt_42 2 rfl (E_iload C dX5_adopt_43 0 rfl (xa_23 C dX5_adopt_45 (vinN (by omega)) ?_)))))
              rw [nI_clamp (show i < 2 ^ 31 by omega)]
              refine xs_12 C dX5_adopt_46 (vinN (by omega)) (E_aload_n C dX5_adopt_47 1 rfl (xg_5_1 C dX5_adopt_48 f_X5_13 (E_iload C dX5_adopt_51 0 rfl (E_aload_n C dX5_adopt_53 3 rfl (E_iload C dX5_adopt_54 0 rfl ?_)))))
              refine xa_24 C dX5_adopt_56 (vinN (by omega)) ?_
              rw [nI_clamp (show i < 2 ^ 31 by omega)]
              refine xs_13 C dX5_adopt_57 (vinN (by omega)) ?_
              rw [nI_clamp (show i < 2 ^ 31 by omega)]
              refine E_aload_n C dX5_adopt_58 1 rfl (E_dup C dX5_adopt_59 rfl (xg_5_4 C dX5_adopt_60 f_X5_22 (E_iconst (v := 1) C dX5_adopt_63 ic_1 (E_iadd C dX5_adopt_64 ?_))))
              refine Ev.seti (show va_up g 2 (nI i) 2 + 1 = nI (i + 1) from nI_1 i) ?_
              refine xp_5_4 C dX5_adopt_65 fw_X5_22 ?_
              refine Ev.setw (ws' := hx ad tc W (va_up g 2 (nI (i + 1))) (va_up (va_up h 0 (upd f0 i (v 2 i))) 1 (upd f1 i (v 3 i))) Dv Sh u v z y) ?_ ?_
              · congr 1
                · exact bx_uu g 2 _ _
                · funext q j
                  simp only [va_up]
                  by_cases e1 : q = 1
                  · subst e1; rfl
                  · simp only [if_neg e1]
                    by_cases e0 : q = 0
                    · subst e0; rfl
                    · simp only [if_neg e0]
              refine E_iinc C dX5_adopt_68 0 rfl (nI_1 i) (by decide) (E_goto C 8 dX5_adopt_71 (by decide) ?_)
              refine Ev.sub [0, 1, 2, 3, 4] rfl (ih (i + 1) (upd f0 i (v 2 i)) (upd f1 i (v 3 i)) (by omega) (by omega) ?_)
              intro j hj
              by_cases e : j = i
              · subst e
                exact ⟨if_pos rfl, if_pos rfl⟩
              · exact ⟨(if_neg e).trans (hf j (by omega)).1, (if_neg e).trans (hf j (by omega)).2⟩
  refine E_aload_n C dX5_adopt_0 0 rfl (E_iconst (v := 0) C dX5_adopt_1 ic_0 (xp_5_4 C dX5_adopt_2 fw_X5_22 (E_iconst (v := 0) C dX5_adopt_5 ic_0 (E_istore C dX5_adopt_6 (by decide) ?_))))
  refine Ev.setw (ws' := hx ad tc W (va_up g 2 (nI 0)) (va_up (va_up h 0 (h 0)) 1 (h 1)) Dv Sh u v z y) ?_ (K (sz + 1) 0 (h 0) (h 1) (by omega) (by omega) (fun j hj => absurd hj (Nat.not_lt_zero _)))
  congr 1
  funext q
  simp only [va_up]
  by_cases e1 : q = 1
  · subst e1; rfl
  · simp only [if_neg e1]
    by_cases e0 : q = 0
    · subst e0; rfl
    · simp only [if_neg e0]
