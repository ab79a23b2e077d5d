/-! the class's Changes, Draw, Journey, and what one going can bring -/
set_option maxRecDepth 100000 in
set_option maxHeartbeats 4000000 in
theorem s_forgetOldest {l : Launch} {D : va_G} {tc tt ad : Nat → Nat} {W : Nat → Nat → Int32} {g : Nat → Int32} {h : Nat → Nat → Int32} {Dv : Nat → (Nat → Int32) × (Nat → Nat → Int32)} {Sh : Nat → (Nat → Int32) × (Nat → Int64)} {u : Nat → Int32} {v : Nat → Nat → Int32} {z : Int64} {y : Nat → Int64} : Ct l yX1_forgetOldest cX1_forgetOldest 2 none 1 D tc tt [.ref (ad 16)] (hx ad tc W g h Dv Sh u v z y) (PV fun w => ∃ h', w = hx ad tc W (va_up g 3 (nI 39)) h' Dv Sh u v z y ∧ SH h h' 40) := by
  refine Ct.of (by decide +kernel) (Nat.le_of_ble_eq_true rfl) ?_
  intro p e R s m args below meth c A C hr hlk
  have K : ∀ (n i : Nat) (h1 : Nat → Nat → Int32), 0 < i → i ≤ 40 → 40 < i + n → SH h h1 i → Ev p l e R s m args below meth c 0 0 (EQ below (PV fun w => ∃ h', w = hx ad tc W (va_up g 3 (nI 39)) h' Dv Sh u v z y ∧ SH h h' 40) args s D A) D A 2 (hx ad tc W g h1 Dv Sh u v z y) 2 [(1, .int (nI i)), (0, .ref (ad 16))] [] := by
    intro n
    induction n with
    | zero =>
      intro i h1 h0 h2 h3 hs
      exfalso; omega
    | succ n ih =>
      intro i h1 h0 h2 h3 hs
      refine E_iload_n C dX1_forgetOldest_2 0 rfl (E_bipush (v := 40) C dX1_forgetOldest_3 bp_40 (E_icmp_ge C 70 dX1_forgetOldest_5 (by decide) (fun c5 => ?_) (fun c5 => ?_)))
      ·
        obtain rfl : i = 40 := by
          rcases Nat.lt_or_ge i 40 with q | q
          · exact absurd (show nI 40 ≤ nI i from c5) (nI_ge q (by decide))
          · omega
        refine E_aload_n C dX1_forgetOldest_70 1 rfl (E_bipush (v := 39) C dX1_forgetOldest_71 bp_39 (xp_1_4 C dX1_forgetOldest_73 fw_X1_22 (E_vretV C hr hlk dX1_forgetOldest_76 ?_)))
        exact ⟨h1, rfl, hs⟩
      ·
        have hi : i < 40 := by
          rcases Nat.lt_or_ge i 40 with q | q
          · exact q
          · exact absurd (show nI 40 ≤ nI i from nI_le q (by omega)) c5
        refine E_aload_n C dX1_forgetOldest_8 1 rfl (xg_1_0 C dX1_forgetOldest_9 f_X1_9 (E_iload_n C dX1_forgetOldest_12 0 rfl (E_iconst (v := 1) C dX1_forgetOldest_13 ic_1 (E_isub C dX1_forgetOldest_14 ?_))))
        refine Ev.seti (show nI i - 1 = nI (i - 1) from pk_sub (b := 1) (by omega)) ?_
        refine E_aload_n C dX1_forgetOldest_15 1 rfl (xg_1_0 C dX1_forgetOldest_16 f_X1_9 (E_iload_n C dX1_forgetOldest_19 0 rfl (xa_17 C dX1_forgetOldest_20 (vinN (by omega)) ?_)))
        rw [nI_clamp (show i < 2 ^ 31 by omega)]
        refine xs_17 C dX1_forgetOldest_21 (vinN (by omega)) ?_
        rw [nI_clamp (show i - 1 < 2 ^ 31 by omega)]
        refine E_aload_n C dX1_forgetOldest_22 1 rfl (xg_1_1 C dX1_forgetOldest_23 f_X1_13 (E_iload_n C dX1_forgetOldest_26 0 rfl (E_iconst (v := 1) C dX1_forgetOldest_27 ic_1 (E_isub C dX1_forgetOldest_28 ?_))))
        refine Ev.seti (show nI i - 1 = nI (i - 1) from pk_sub (b := 1) (by omega)) ?_
        refine E_aload_n C dX1_forgetOldest_29 1 rfl (xg_1_1 C dX1_forgetOldest_30 f_X1_13 (E_iload_n C dX1_forgetOldest_33 0 rfl (xa_18 C dX1_forgetOldest_34 (vinN (by omega)) ?_)))
        rw [nI_clamp (show i < 2 ^ 31 by omega)]
        refine xs_18 C dX1_forgetOldest_35 (vinN (by omega)) ?_
        rw [nI_clamp (show i - 1 < 2 ^ 31 by omega)]
        refine E_aload_n C dX1_forgetOldest_36 1 rfl (xg_1_2 C dX1_forgetOldest_37 f_X1_16 (E_iload_n C dX1_forgetOldest_40 0 rfl (E_iconst (v := 1) C dX1_forgetOldest_41 ic_1 (E_isub C dX1_forgetOldest_42 ?_))))
        refine Ev.seti (show nI i - 1 = nI (i - 1) from pk_sub (b := 1) (by omega)) ?_
        refine E_aload_n C dX1_forgetOldest_43 1 rfl (xg_1_2 C dX1_forgetOldest_44 f_X1_16 (E_iload_n C dX1_forgetOldest_47 0 rfl (xa_19 C dX1_forgetOldest_48 (vinN (by omega)) ?_)))
        rw [nI_clamp (show i < 2 ^ 31 by omega)]
        refine xs_19 C dX1_forgetOldest_49 (vinN (by omega)) ?_
        rw [nI_clamp (show i - 1 < 2 ^ 31 by omega)]
        refine E_aload_n C dX1_forgetOldest_50 1 rfl (xg_1_3 C dX1_forgetOldest_51 f_X1_19 (E_iload_n C dX1_forgetOldest_54 0 rfl (E_iconst (v := 1) C dX1_forgetOldest_55 ic_1 (E_isub C dX1_forgetOldest_56 ?_))))
        refine Ev.seti (show nI i - 1 = nI (i - 1) from pk_sub (b := 1) (by omega)) ?_
        refine E_aload_n C dX1_forgetOldest_57 1 rfl (xg_1_3 C dX1_forgetOldest_58 f_X1_19 (E_iload_n C dX1_forgetOldest_61 0 rfl (xa_20 C dX1_forgetOldest_62 (vinN (by omega)) ?_)))
        rw [nI_clamp (show i < 2 ^ 31 by omega)]
        refine xs_20 C dX1_forgetOldest_63 (vinN (by omega)) ?_
        rw [nI_clamp (show i - 1 < 2 ^ 31 by omega)]
        refine E_iinc C dX1_forgetOldest_64 0 rfl (nI_1 i) (by decide) (E_goto C 2 dX1_forgetOldest_67 (by decide) ?_)
        exact ih (i + 1) _ (by omega) (by omega) (by omega) (hs.step h0)
  refine E_iconst (v := 1) C dX1_forgetOldest_0 ic_1 (E_istore_n C dX1_forgetOldest_1 (by decide) ?_)
  exact K 40 1 h (by decide) (by decide) (by decide) ⟨fun _ _ => rfl, fun k _ => ⟨fun j hj => absurd hj (by omega), fun _ _ => rfl⟩⟩
set_option maxRecDepth 100000 in
set_option maxHeartbeats 4000000 in
theorem s_note {l : Launch} {D : va_G} {tc tt ad : Nat → Nat} {W : Nat → Nat → Int32} {g : Nat → Int32} {h : Nat → Nat → Int32} {Dv : Nat → (Nat → Int32) × (Nat → Nat → Int32)} {Sh : Nat → (Nat → Int32) × (Nat → Int64)} {u : Nat → Int32} {v : Nat → Nat → Int32} {z : Int64} {y : Nat → Int64} {cl : CL} {dn : Nat} (hg : g 3 = nI dn) (hdn : dn ≤ cl.length) (hcl : cl.length ≤ 40) (hcr : CRel h cl) (aa bb xx yy : Nat) : Ct l yX1_note cX1_note 5 none 2 D tc tt [.ref (ad 16), .int (nI aa), .int (nI bb), .int (nI xx), .int (nI yy)] (hx ad tc W g h Dv Sh u v z y) (PV fun w => ∃ h', w = hx ad tc W (va_up (va_up g 3 (nI (noteC cl dn (aa, bb, xx, yy)).length)) 4 (nI (noteC cl dn (aa, bb, xx, yy)).length)) h' Dv Sh u v z y ∧ (∀ k, ¬ isC k → h' k = h k) ∧ CRel h' (noteC cl dn (aa, bb, xx, yy))) := by
  refine Ct.of (by decide +kernel) (Nat.le_of_ble_eq_true rfl) ?_
  intro p e R s m args below meth c A C hr hlk
  have T : ∀ (k0 : Nat) (cl0 : CL) (g0 : Nat → Int32) (h0 : Nat → Nat → Int32), k0 < 40 → cl0.length = k0 → g0 3 = nI k0 → (∀ k, ¬ isC k → h0 k = h k) → CRel h0 cl0 → noteC cl dn (aa, bb, xx, yy) = cl0 ++ [(aa, bb, xx, yy)] → va_up g0 3 (nI (k0 + 1)) = va_up g 3 (nI (k0 + 1)) → Ev p l e R s m args below meth c 0 0 (EQ below (PV fun w => ∃ h', w = hx ad tc W (va_up (va_up g 3 (nI (noteC cl dn (aa, bb, xx, yy)).length)) 4 (nI (noteC cl dn (aa, bb, xx, yy)).length)) h' Dv Sh u v z y ∧ (∀ k, ¬ isC k → h' k = h k) ∧ CRel h' (noteC cl dn (aa, bb, xx, yy))) args s D A) D A 5 (hx ad tc W g0 h0 Dv Sh u v z y) 13 [(0, .ref (ad 16)), (1, .int (nI aa)), (2, .int (nI bb)), (3, .int (nI xx)), (4, .int (nI yy))] [] := by
    intro k0 cl0 g0 h0 hk0 hl0 hg0 hf0 hr0 hc0 hgg
    refine E_aload_n C dX1_note_13 0 rfl (xg_1_4 C dX1_note_14 f_X1_22 ?_)
    refine Ev.seti hg0 ?_
    refine E_if_lt C 79 dX1_note_17 (by decide) (fun c17 => ?_) (fun c17 => ?_)
    ·
      exact absurd c17 (nI_pos (by omega))
    ·
      refine E_aload_n C dX1_note_20 0 rfl (xg_1_0 C dX1_note_21 f_X1_9 (E_aload_n C dX1_note_24 0 rfl (xg_1_4 C dX1_note_25 f_X1_22 ?_)))
      refine Ev.seti hg0 ?_
      refine E_iload_n C dX1_note_28 1 rfl (xs_17 C dX1_note_29 (vinN hk0) ?_)
      rw [nI_clamp (show k0 < 2 ^ 31 by omega)]
      refine E_aload_n C dX1_note_30 0 rfl (xg_1_1 C dX1_note_31 f_X1_13 (E_aload_n C dX1_note_34 0 rfl (xg_1_4 C dX1_note_35 f_X1_22 ?_)))
      refine Ev.seti hg0 ?_
      refine E_iload_n C dX1_note_38 2 rfl (xs_18 C dX1_note_39 (vinN hk0) ?_)
      rw [nI_clamp (show k0 < 2 ^ 31 by omega)]
      refine E_aload_n C dX1_note_40 0 rfl (xg_1_2 C dX1_note_41 f_X1_16 (E_aload_n C dX1_note_44 0 rfl (xg_1_4 C dX1_note_45 f_X1_22 ?_)))
      refine Ev.seti hg0 ?_
      refine E_iload_n C dX1_note_48 3 rfl (xs_19 C dX1_note_49 (vinN hk0) ?_)
      rw [nI_clamp (show k0 < 2 ^ 31 by omega)]
      refine E_aload_n C dX1_note_50 0 rfl (xg_1_3 C dX1_note_51 f_X1_19 (E_aload_n C dX1_note_54 0 rfl (xg_1_4 C dX1_note_55 f_X1_22 ?_)))
      refine Ev.seti hg0 ?_
      refine E_iload C dX1_note_58 4 rfl (xs_20 C dX1_note_60 (vinN hk0) ?_)
      rw [nI_clamp (show k0 < 2 ^ 31 by omega)]
      refine E_aload_n C dX1_note_61 0 rfl (E_dup C dX1_note_62 rfl (xg_1_4 C dX1_note_63 f_X1_22 ?_))
      refine Ev.seti hg0 ?_
      refine E_iconst (v := 1) C dX1_note_66 ic_1 (E_iadd C dX1_note_67 ?_)
      refine Ev.seti (nI_1 k0) ?_
      refine xp_1_4 C dX1_note_68 fw_X1_22 (E_aload_n C dX1_note_71 0 rfl (E_aload_n C dX1_note_72 0 rfl (xg_1_4 C dX1_note_73 f_X1_22 ?_)))
      refine Ev.seti (show (va_up g0 3 (nI (k0 + 1))) 3 = nI (k0 + 1) from rfl) ?_
      refine xp_1_5 C dX1_note_76 fw_X1_29 (E_vretV C hr hlk dX1_note_79 ?_)
      rw [hgg]
      have e : (noteC cl dn (aa, bb, xx, yy)).length = k0 + 1 := by rw [hc0, List.length_append, hl0]; rfl
      rw [e]
      subst hl0
      refine ⟨_, rfl, fun k hk => ?_, by rw [hc0]; exact hr0.put⟩
      have hk' := hk
      unfold isC at hk'
      simp only [va_up, if_neg (fun q => hk' (Or.inr (Or.inr (Or.inr q))) : ¬ k = 5), if_neg (fun q => hk' (Or.inr (Or.inr (Or.inl q))) : ¬ k = 4), if_neg (fun q => hk' (Or.inr (Or.inl q)) : ¬ k = 3), if_neg (fun q => hk' (Or.inl q) : ¬ k = 2)]
      exact hf0 k hk
  refine E_aload_n C dX1_note_0 0 rfl (xg_1_4 C dX1_note_1 f_X1_22 ?_)
  refine Ev.seti hg ?_
  refine E_bipush (v := 40) C dX1_note_4 bp_40 (E_icmp_lt C 13 dX1_note_6 (by decide) (fun c6 => ?_) (fun c6 => ?_))
  ·
    have hd40 : dn < 40 := by
      rcases Nat.lt_or_ge dn 40 with q | q
      · exact q
      · exact absurd (show nI dn < nI 40 from c6) (nI_nlt q (by omega))
    exact T dn (cl.take dn) g h hd40 (by rw [List.length_take]; omega) hg (fun _ _ => rfl) (hcr.take dn) (by unfold noteC; rw [if_neg (by omega), List.drop_zero]) rfl
  ·
    obtain rfl : dn = 40 := by
      rcases Nat.lt_or_ge dn 40 with q | q
      · exact absurd (show nI dn < nI 40 from nI_lt q (by decide)) c6
      · omega
    refine E_aload_n C dX1_note_9 0 rfl (E_callVV C dX1_note_10 mv_X1_26 16 _ (s_forgetOldest) rfl rfl rfl (by decide) (Nat.le_of_ble_eq_true rfl) ?_)
    rintro _ ⟨h1, rfl, hs⟩
    exact T 39 ((cl.take 40).drop 1) _ h1 (by decide) (by rw [List.length_drop, List.length_take]; omega) rfl (fun k hk => hs.1 k hk) ((hcr.take 40).drop1 (by rw [List.length_take]; omega) hs) (by unfold noteC; rw [if_pos rfl]) (bx_uu g 3 _ _)
set_option maxRecDepth 100000 in
set_option maxHeartbeats 4000000 in
theorem s_undo0 {l : Launch} {D : va_G} {tc tt ad : Nat → Nat} {W : Nat → Nat → Int32} {g : Nat → Int32} {h : Nat → Nat → Int32} {Dv : Nat → (Nat → Int32) × (Nat → Nat → Int32)} {Sh : Nat → (Nat → Int32) × (Nat → Int64)} {u : Nat → Int32} {v : Nat → Nat → Int32} {z : Int64} {y : Nat → Int64} (hg : g 3 = nI 0) : Ct l yX1_undoIn cX1_undoIn 2 (some .boolean) 2 D tc tt [.ref (ad 16), .ref (ad 1)] (hx ad tc W g h Dv Sh u v z y) (PI fun r w => r = 0 ∧ w = hx ad tc W g h Dv Sh u v z y) := by
  refine Ct.of (by decide +kernel) (Nat.le_of_ble_eq_true rfl) ?_
  intro p e R s m args below meth c A C hr hlk
  refine E_aload_n C dX1_undoIn_0 0 rfl (xg_1_4 C dX1_undoIn_1 f_X1_22 ?_)
  refine Ev.seti hg ?_
  refine E_if_le C 16 dX1_undoIn_4 (by decide) (fun c4 => ?_) (fun c4 => ?_)
  ·
    refine E_iconst (v := 0) C dX1_undoIn_16 ic_0 (E_zretI C hr hlk dX1_undoIn_17 rfl ?_)
    exact ⟨rfl, rfl⟩
  ·
    exact absurd (show nI 0 ≤ nI 0 from Int32.le_refl _) c4
set_option maxRecDepth 100000 in
set_option maxHeartbeats 4000000 in
theorem s_undo1 {l : Launch} {D : va_G} {tc tt ad : Nat → Nat} {W : Nat → Nat → Int32} {g : Nat → Int32} {h : Nat → Nat → Int32} {Dv : Nat → (Nat → Int32) × (Nat → Nat → Int32)} {Sh : Nat → (Nat → Int32) × (Nat → Int64)} {u : Nat → Int32} {v : Nat → Nat → Int32} {z : Int64} {y : Nat → Int64} {cl : CL} {dn aa bb xx yy : Nat} (hg : g 3 = nI (dn + 1)) (hd : dn < 40) (hrr : CRel h cl) (hc : cl[dn]? = some (aa, bb, xx, yy)) (ha : aa < 8) (hb : bb < 8) : Ct l yX1_undoIn cX1_undoIn 2 (some .boolean) 2 D tc tt [.ref (ad 16), .ref (ad 1)] (hx ad tc W g h Dv Sh u v z y) (PI fun r w => r = 1 ∧ w = hx ad tc (bW W aa bb (nI xx)) (bG (va_up g 3 (nI dn))) h Dv Sh u v z y) := by
  refine Ct.of (by decide +kernel) (Nat.le_of_ble_eq_true rfl) ?_
  intro p e R s m args below meth c A C hr hlk
  have hrc := hrr dn aa bb xx yy hc
  refine E_aload_n C dX1_undoIn_0 0 rfl (xg_1_4 C dX1_undoIn_1 f_X1_22 ?_)
  refine Ev.seti hg ?_
  refine E_if_le C 16 dX1_undoIn_4 (by decide) (fun c4 => ?_) (fun c4 => ?_)
  ·
    exact absurd (show nI (dn + 1) ≤ nI 0 from c4) (nI_nle (by omega) (by omega))
  ·
    refine E_aload_n C dX1_undoIn_7 0 rfl (xg_1_4 C dX1_undoIn_8 f_X1_22 ?_)
    refine Ev.seti hg ?_
    refine E_bipush (v := 40) C dX1_undoIn_11 bp_40 (E_icmp_le C 18 dX1_undoIn_13 (by decide) (fun c13 => ?_) (fun c13 => ?_))
    ·
      refine E_aload_n C dX1_undoIn_18 0 rfl (E_dup C dX1_undoIn_19 rfl (xg_1_4 C dX1_undoIn_20 f_X1_22 ?_))
      refine Ev.seti hg ?_
      refine E_iconst (v := 1) C dX1_undoIn_23 ic_1 (E_isub C dX1_undoIn_24 ?_)
      refine Ev.seti (nI_pred dn) ?_
      refine xp_1_4 C dX1_undoIn_25 fw_X1_22 (E_aload_n C dX1_undoIn_28 1 rfl (E_aload_n C dX1_undoIn_29 0 rfl (xg_1_0 C dX1_undoIn_30 f_X1_9 (E_aload_n C dX1_undoIn_33 0 rfl (xg_1_4 C dX1_undoIn_34 f_X1_22 ?_)))))
      refine Ev.seti (show (va_up g 3 (nI dn)) 3 = nI dn from rfl) ?_
      refine xa_17 C dX1_undoIn_37 (vinN (by omega)) ?_
      rw [nI_clamp (show dn < 2 ^ 31 by omega)]
      refine E_aload_n C dX1_undoIn_38 0 rfl (xg_1_1 C dX1_undoIn_39 f_X1_13 (E_aload_n C dX1_undoIn_42 0 rfl (xg_1_4 C dX1_undoIn_43 f_X1_22 ?_)))
      refine Ev.seti (show (va_up g 3 (nI dn)) 3 = nI dn from rfl) ?_
      refine xa_18 C dX1_undoIn_46 (vinN (by omega)) ?_
      rw [nI_clamp (show dn < 2 ^ 31 by omega)]
      refine E_aload_n C dX1_undoIn_47 0 rfl (xg_1_2 C dX1_undoIn_48 f_X1_16 (E_aload_n C dX1_undoIn_51 0 rfl (xg_1_4 C dX1_undoIn_52 f_X1_22 ?_)))
      refine Ev.seti (show (va_up g 3 (nI dn)) 3 = nI dn from rfl) ?_
      refine xa_19 C dX1_undoIn_55 (vinN (by omega)) ?_
      rw [nI_clamp (show dn < 2 ^ 31 by omega)]
      rw [hrc.1, hrc.2.1, hrc.2.2.1]
      refine E_callVV C dX1_undoIn_56 mv_X1_32 1 _ (s_become aa bb (nI xx) ha hb) rfl rfl rfl (by decide) (Nat.le_of_ble_eq_true rfl) ?_
      rintro _ rfl
      refine E_iconst (v := 1) C dX1_undoIn_59 ic_1 (E_zretI C hr hlk dX1_undoIn_60 rfl ?_)
      exact ⟨rfl, rfl⟩
    ·
      exact absurd (show nI (dn + 1) ≤ nI 40 from nI_le (by omega) (by decide)) c13
set_option maxRecDepth 100000 in
set_option maxHeartbeats 4000000 in
theorem s_redo0 {l : Launch} {D : va_G} {tc tt ad : Nat → Nat} {W : Nat → Nat → Int32} {g : Nat → Int32} {h : Nat → Nat → Int32} {Dv : Nat → (Nat → Int32) × (Nat → Nat → Int32)} {Sh : Nat → (Nat → Int32) × (Nat → Int64)} {u : Nat → Int32} {v : Nat → Nat → Int32} {z : Int64} {y : Nat → Int64} {dn : Nat} (hg : g 3 = nI dn) (hk : g 4 = nI dn) (hd : dn ≤ 40) : Ct l yX1_redoIn cX1_redoIn 2 (some .boolean) 2 D tc tt [.ref (ad 16), .ref (ad 1)] (hx ad tc W g h Dv Sh u v z y) (PI fun r w => r = 0 ∧ w = hx ad tc W g h Dv Sh u v z y) := by
  refine Ct.of (by decide +kernel) (Nat.le_of_ble_eq_true rfl) ?_
  intro p e R s m args below meth c A C hr hlk
  refine E_aload_n C dX1_redoIn_0 0 rfl (xg_1_4 C dX1_redoIn_1 f_X1_22 ?_)
  refine Ev.seti hg ?_
  refine E_if_lt C 27 dX1_redoIn_4 (by decide) (fun c4 => ?_) (fun c4 => ?_)
  ·
    exact absurd c4 (nI_pos (by omega))
  ·
    refine E_aload_n C dX1_redoIn_7 0 rfl (xg_1_4 C dX1_redoIn_8 f_X1_22 ?_)
    refine Ev.seti hg ?_
    refine E_aload_n C dX1_redoIn_11 0 rfl (xg_1_5 C dX1_redoIn_12 f_X1_29 ?_)
    refine Ev.seti hk ?_
    refine E_icmp_ge C 27 dX1_redoIn_15 (by decide) (fun c15 => ?_) (fun c15 => ?_)
    ·
      refine E_iconst (v := 0) C dX1_redoIn_27 ic_0 (E_zretI C hr hlk dX1_redoIn_28 rfl ?_)
      exact ⟨rfl, rfl⟩
    ·
      exact absurd (Int32.le_refl _) c15
set_option maxRecDepth 100000 in
set_option maxHeartbeats 4000000 in
theorem s_redo1 {l : Launch} {D : va_G} {tc tt ad : Nat → Nat} {W : Nat → Nat → Int32} {g : Nat → Int32} {h : Nat → Nat → Int32} {Dv : Nat → (Nat → Int32) × (Nat → Nat → Int32)} {Sh : Nat → (Nat → Int32) × (Nat → Int64)} {u : Nat → Int32} {v : Nat → Nat → Int32} {z : Int64} {y : Nat → Int64} {cl : CL} {dn kt aa bb xx yy : Nat} (hg : g 3 = nI dn) (hk : g 4 = nI kt) (hlt : dn < kt) (hkt : kt ≤ 40) (hrr : CRel h cl) (hc : cl[dn]? = some (aa, bb, xx, yy)) (ha : aa < 8) (hb : bb < 8) : Ct l yX1_redoIn cX1_redoIn 2 (some .boolean) 2 D tc tt [.ref (ad 16), .ref (ad 1)] (hx ad tc W g h Dv Sh u v z y) (PI fun r w => r = 1 ∧ w = hx ad tc (bW W aa bb (nI yy)) (va_up (bG g) 3 (nI (dn + 1))) h Dv Sh u v z y) := by
  refine Ct.of (by decide +kernel) (Nat.le_of_ble_eq_true rfl) ?_
  intro p e R s m args below meth c A C hr hlk
  have hrc := hrr dn aa bb xx yy hc
  refine E_aload_n C dX1_redoIn_0 0 rfl (xg_1_4 C dX1_redoIn_1 f_X1_22 ?_)
  refine Ev.seti hg ?_
  refine E_if_lt C 27 dX1_redoIn_4 (by decide) (fun c4 => ?_) (fun c4 => ?_)
  ·
    exact absurd c4 (nI_pos (by omega))
  ·
    refine E_aload_n C dX1_redoIn_7 0 rfl (xg_1_4 C dX1_redoIn_8 f_X1_22 ?_)
    refine Ev.seti hg ?_
    refine E_aload_n C dX1_redoIn_11 0 rfl (xg_1_5 C dX1_redoIn_12 f_X1_29 ?_)
    refine Ev.seti hk ?_
    refine E_icmp_ge C 27 dX1_redoIn_15 (by decide) (fun c15 => ?_) (fun c15 => ?_)
    ·
      exact absurd c15 (nI_ge hlt (by omega))
    ·
      refine E_aload_n C dX1_redoIn_18 0 rfl (xg_1_4 C dX1_redoIn_19 f_X1_22 ?_)
      refine Ev.seti hg ?_
      refine E_bipush (v := 40) C dX1_redoIn_22 bp_40 (E_icmp_lt C 29 dX1_redoIn_24 (by decide) (fun c24 => ?_) (fun c24 => ?_))
      ·
        refine E_aload_n C dX1_redoIn_29 1 rfl (E_aload_n C dX1_redoIn_30 0 rfl (xg_1_0 C dX1_redoIn_31 f_X1_9 (E_aload_n C dX1_redoIn_34 0 rfl (xg_1_4 C dX1_redoIn_35 f_X1_22 ?_))))
        refine Ev.seti hg ?_
        refine xa_17 C dX1_redoIn_38 (vinN (by omega)) ?_
        rw [nI_clamp (show dn < 2 ^ 31 by omega)]
        refine E_aload_n C dX1_redoIn_39 0 rfl (xg_1_1 C dX1_redoIn_40 f_X1_13 (E_aload_n C dX1_redoIn_43 0 rfl (xg_1_4 C dX1_redoIn_44 f_X1_22 ?_)))
        refine Ev.seti hg ?_
        refine xa_18 C dX1_redoIn_47 (vinN (by omega)) ?_
        rw [nI_clamp (show dn < 2 ^ 31 by omega)]
        refine E_aload_n C dX1_redoIn_48 0 rfl (xg_1_3 C dX1_redoIn_49 f_X1_19 (E_aload_n C dX1_redoIn_52 0 rfl (xg_1_4 C dX1_redoIn_53 f_X1_22 ?_)))
        refine Ev.seti hg ?_
        refine xa_20 C dX1_redoIn_56 (vinN (by omega)) ?_
        rw [nI_clamp (show dn < 2 ^ 31 by omega)]
        rw [hrc.1, hrc.2.1, hrc.2.2.2]
        refine E_callVV C dX1_redoIn_57 mv_X1_32 1 _ (s_become aa bb (nI yy) ha hb) rfl rfl rfl (by decide) (Nat.le_of_ble_eq_true rfl) ?_
        rintro _ rfl
        refine E_aload_n C dX1_redoIn_60 0 rfl (E_dup C dX1_redoIn_61 rfl (xg_1_4 C dX1_redoIn_62 f_X1_22 ?_))
        refine Ev.seti (show (va_up g 1 (g 1 + 1)) 3 = nI dn from hg) ?_
        refine E_iconst (v := 1) C dX1_redoIn_65 ic_1 (E_iadd C dX1_redoIn_66 ?_)
        refine Ev.seti (nI_1 dn) ?_
        refine xp_1_4 C dX1_redoIn_67 fw_X1_22 (E_iconst (v := 1) C dX1_redoIn_70 ic_1 (E_zretI C hr hlk dX1_redoIn_71 rfl ?_))
        exact ⟨rfl, rfl⟩
      ·
        exact absurd (show nI dn < nI 40 from nI_lt (by omega) (by decide)) c24
set_option maxRecDepth 100000 in
set_option maxHeartbeats 4000000 in
theorem s_forgottenOf {l : Launch} {D : va_G} {tc tt ad : Nat → Nat} {W : Nat → Nat → Int32} {g : Nat → Int32} {h : Nat → Nat → Int32} {Dv : Nat → (Nat → Int32) × (Nat → Nat → Int32)} {Sh : Nat → (Nat → Int32) × (Nat → Int64)} {u : Nat → Int32} {v : Nat → Nat → Int32} {z : Int64} {y : Nat → Int64} {N : Nat → Nat → Nat} (hN : NW W N) {n : Nat} (hn : g 0 = nI n) (hn8 : n ≤ 8) : Ct l yX2_forgottenOf cX2_forgottenOf 4 (some .int) 2 D tc tt [.ref (ad 30), .ref (ad 1)] (hx ad tc W g h Dv Sh u v z y) (PI fun r w => r = nI (drw N (u 4) n) ∧ w = hx ad tc W g h Dv Sh (va_up u 4 (drwZ (u 4) n)) v z y) := by
  refine Ct.of (by decide +kernel) (Nat.le_of_ble_eq_true rfl) ?_
  intro p e R s m args below meth c A C hr hlk
  have K : ∀ (k i x : Nat), i ≤ n → n < i + k → x = drw N (u 4) i → Ev p l e R s m args below meth c 0 0 (EQ below (PI fun r w => r = nI (drw N (u 4) n) ∧ w = hx ad tc W g h Dv Sh (va_up u 4 (drwZ (u 4) n)) v z y) args s D A) D A 4 (hx ad tc W g h Dv Sh (va_up u 4 (drwZ (u 4) i)) v z y) 4 [(3, .int (nI i)), (2, .int (nI x)), (0, .ref (ad 30)), (1, .ref (ad 1))] [] := by
    intro k
    induction k with
    | zero =>
      intro i x h1 h2 hxx
      exfalso; omega
    | succ k ih =>
      intro i x h1 h2 hxx
      refine E_iload_n C dX2_forgottenOf_4 0 rfl (E_aload_n C dX2_forgottenOf_5 3 rfl (xg_9_2 C dX2_forgottenOf_6 f_X2_9 ?_))
      refine Ev.seti hn ?_
      refine E_icmp_ge C 64 dX2_forgottenOf_9 (by decide) (fun c9 => ?_) (fun c9 => ?_)
      ·
        obtain rfl : i = n := by
          rcases Nat.lt_or_ge i n with q | q
          · exact absurd (show nI n ≤ nI i from c9) (nI_ge q (by omega))
          · omega
        refine E_iload_n C dX2_forgottenOf_64 1 rfl (E_iretI C hr hlk dX2_forgottenOf_65 ?_)
        rw [hxx]
        exact ⟨rfl, rfl⟩
      ·
        have hi : i < n := by
          rcases Nat.lt_or_ge i n with q | q
          · exact q
          · exact absurd (show nI n ≤ nI i from nI_le q (by omega)) c9
        refine E_iload_n C dX2_forgottenOf_12 0 rfl (E_bipush (v := 8) C dX2_forgottenOf_13 bp_8 (E_icmp_ge C 64 dX2_forgottenOf_15 (by decide) (fun c15 => ?_) (fun c15 => ?_)))
        ·
          exact absurd (show nI 8 ≤ nI i from c15) (nI_ge (by omega) (by decide))
        ·
          refine E_aload_n C dX2_forgottenOf_18 2 rfl (E_aload_n C dX2_forgottenOf_19 2 rfl (xg_2_0 C dX2_forgottenOf_20 f_X2_15 (E_ldc C k_X2_20 dX2_forgottenOf_23 (E_imul C dX2_forgottenOf_25 (E_sipush (v := 12345) C dX2_forgottenOf_26 sp_12345 ?_)))))
          refine E_iadd C dX2_forgottenOf_29 (xp_2_0 C dX2_forgottenOf_30 fw_X2_15 ?_)
          refine Ev.setw (ws' := hx ad tc W g h Dv Sh (va_up u 4 (drwZ (u 4) (i + 1))) v z y) (congrArg (fun q => hx ad tc W g h Dv Sh q v z y) (bx_uu u 4 _ _)) ?_
          refine E_aload_n C dX2_forgottenOf_33 2 rfl (xg_2_0 C dX2_forgottenOf_34 f_X2_15 (E_bipush (v := 8) C dX2_forgottenOf_37 bp_8 (E_iushr C dX2_forgottenOf_39 (E_bipush (v := 12) C dX2_forgottenOf_40 bp_12 (E_irem C dX2_forgottenOf_42 (by decide) ?_)))))
          refine E_aload_n C dX2_forgottenOf_43 3 rfl (E_iconst (v := 1) C dX2_forgottenOf_44 ic_1 (E_iload_n C dX2_forgottenOf_45 0 rfl (E_callVI C dX2_forgottenOf_46 mv_X2_21 1 _ (s_value 1 i (by decide) (by omega)) rfl rfl rfl (by decide) (Nat.le_of_ble_eq_true rfl) ?_)))
          rintro _ _ ⟨rfl, rfl⟩
          refine Ev.seti (hN 1 i (by decide) (by omega)) ?_
          refine E_icmp_ge C 58 dX2_forgottenOf_49 (by decide) (fun c49 => ?_) (fun c49 => ?_)
          ·
            refine E_iinc C dX2_forgottenOf_58 0 rfl (nI_1 i) (by decide) (E_goto C 4 dX2_forgottenOf_61 (by decide) ?_)
            refine Ev.sub [0, 1, 2, 3] rfl (ih (i + 1) _ (by omega) (by omega) ?_)
            rw [hxx]
            show _ = drw N (u 4) i ||| (if drwR (drwZ (u 4) (i + 1)) < nI (N 1 i) then 2 ^ i else 0)
            first
              | exact (congrArg (drw N (u 4) i ||| ·) (if_pos (Int32.not_le.mp c49))).symm
              | exact ((congrArg (drw N (u 4) i ||| ·) (if_neg (Int32.not_lt.mpr c49))).trans (Nat.or_zero _)).symm
          ·
            refine E_iload_n C dX2_forgottenOf_52 1 rfl (E_iconst (v := 1) C dX2_forgottenOf_53 ic_1 (E_iload_n C dX2_forgottenOf_54 0 rfl (E_ishl C dX2_forgottenOf_55 ?_)))
            refine Ev.seti (nx_one i (by omega)) ?_
            refine E_ior C dX2_forgottenOf_56 ?_
            refine Ev.seti (nx_or _ _) ?_
            refine E_istore_n C dX2_forgottenOf_57 (by decide) (E_iinc C dX2_forgottenOf_58 1 rfl (nI_1 i) (by decide) (E_goto C 4 dX2_forgottenOf_61 (by decide) ?_))
            refine Ev.sub [0, 1, 2, 3] rfl (ih (i + 1) _ (by omega) (by omega) ?_)
            rw [hxx]
            show _ = drw N (u 4) i ||| (if drwR (drwZ (u 4) (i + 1)) < nI (N 1 i) then 2 ^ i else 0)
            first
              | exact (congrArg (drw N (u 4) i ||| ·) (if_pos (Int32.not_le.mp c49))).symm
              | exact ((congrArg (drw N (u 4) i ||| ·) (if_neg (Int32.not_lt.mpr c49))).trans (Nat.or_zero _)).symm
  refine E_iconst (v := 0) C dX2_forgottenOf_0 ic_0 (E_istore_n C dX2_forgottenOf_1 (by decide) (E_iconst (v := 0) C dX2_forgottenOf_2 ic_0 (E_istore_n C dX2_forgottenOf_3 (by decide) ?_)))
  exact Ev.setw (ws' := hx ad tc W g h Dv Sh (va_up u 4 (drwZ (u 4) 0)) v z y) (congrArg (fun q => hx ad tc W g h Dv Sh q v z y) (by funext q; by_cases e4 : q = 4 <;> simp [va_up, e4, drwZ])) (K (n + 1) 0 0 (by omega) (by omega) rfl)
