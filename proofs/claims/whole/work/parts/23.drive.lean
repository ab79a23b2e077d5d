/-! the class's Drive: small methods, for the drive in thought, the table's, the journey's -/
set_option maxRecDepth 100000 in
set_option maxHeartbeats 4000000 in
theorem s_leastOf {l : Launch} {D : va_G} {tc tt : Nat → Nat} {ws : va_W} (σ : Nat) (hσ : σ < 256) : Ct l yX3_leastOf cX3_leastOf 3 (some .int) 1 D tc tt [.int (nI σ)] (ws) (PI fun r w => r = nI (lst σ) ∧ w = ws) := by
  refine Ct.of (by decide +kernel) (Nat.le_of_ble_eq_true rfl) ?_
  intro p e R s m args below meth c A C hr hlk
  have K : ∀ (n i : Nat) (x : Int32), i ≤ 8 → i < n → x = nI (lsF σ (8 - i)) → Ev p l e R s m args below meth c 0 0 (EQ below (PI fun r w => r = nI (lst σ) ∧ w = ws) args s D A) D A 3 ws 5 [(2, .int (nI i - 1)), (1, .int x), (0, .int (nI σ))] [] := by
    intro n
    induction n with
    | zero =>
      intro i x h1 h2 hx
      exfalso; omega
    | succ n ih =>
      intro i x h1 h2 hx
      refine E_iload_n C dX3_leastOf_5 0 rfl (E_if_lt C 30 dX3_leastOf_6 (by decide) (fun c6 => ?_) (fun c6 => ?_))
      ·
        have h0 : i = 0 := by
          rcases Nat.eq_zero_or_pos i with q | q
          · exact q
          · obtain ⟨j, rfl⟩ : ∃ j, i = j + 1 := ⟨i - 1, by omega⟩
            exact absurd (show nI (j + 1) - 1 < 0 from c6) (by rw [nI_pred]; exact nI_pos (by omega))
        subst h0
        refine E_iload_n C dX3_leastOf_30 1 rfl (E_iretI C hr hlk dX3_leastOf_31 ?_)
        rw [hx]
        exact ⟨rfl, rfl⟩
      ·
        obtain ⟨j, rfl⟩ : ∃ j, i = j + 1 := by
          rcases Nat.eq_zero_or_pos i with q | q
          · subst q
            exact absurd (show (nI 0 - 1 : Int32) < 0 by decide) c6
          · exact ⟨i - 1, by omega⟩
        rw [show nI (j + 1) - 1 = nI j from nI_pred j]
        refine E_iload_n C dX3_leastOf_9 2 rfl (E_iload_n C dX3_leastOf_10 0 rfl (E_ishr C dX3_leastOf_11 (E_iconst (v := 1) C dX3_leastOf_12 ic_1 (E_iand C dX3_leastOf_13 (E_iconst (v := 1) C dX3_leastOf_14 ic_1 ?_)))))
        refine E_icmp_ne C 22 dX3_leastOf_15 (by decide) (fun c15 => ?_) (fun c15 => ?_)
        ·
          refine E_iload_n C dX3_leastOf_22 1 rfl (E_istore_n C dX3_leastOf_23 (by decide) (E_iinc C dX3_leastOf_24 1 rfl (show nI j + (-1) = nI j - 1 from by rw [Int32.sub_eq_add_neg]) (by decide) (E_goto C 5 dX3_leastOf_27 (by decide) ?_)))
          refine Ev.sub [0, 1, 2] rfl (ih j _ (by omega) (by omega) ?_)
          first
            | exact (by rw [show 8 - j = (8 - (j + 1)) + 1 by omega]; show nI j = nI (if σ.testBit (7 - (8 - (j + 1))) then 7 - (8 - (j + 1)) else lsF σ (8 - (j + 1))); rw [show 7 - (8 - (j + 1)) = j by omega, if_pos ((nx_bitE σ j (by omega) (by omega)).mp c15)])
            | exact (by rw [show 8 - j = (8 - (j + 1)) + 1 by omega]; show x = nI (if σ.testBit (7 - (8 - (j + 1))) then 7 - (8 - (j + 1)) else lsF σ (8 - (j + 1))); rw [show 7 - (8 - (j + 1)) = j by omega, if_neg (fun z => c15 ((nx_bitE σ j (by omega) (by omega)).mpr z))]; exact hx)
        ·
          refine E_iload_n C dX3_leastOf_18 0 rfl (E_goto C 23 dX3_leastOf_19 (by decide) (E_istore_n C dX3_leastOf_23 (by decide) (E_iinc C dX3_leastOf_24 1 rfl (show nI j + (-1) = nI j - 1 from by rw [Int32.sub_eq_add_neg]) (by decide) (E_goto C 5 dX3_leastOf_27 (by decide) ?_))))
          refine Ev.sub [0, 1, 2] rfl (ih j _ (by omega) (by omega) ?_)
          first
            | exact (by rw [show 8 - j = (8 - (j + 1)) + 1 by omega]; show nI j = nI (if σ.testBit (7 - (8 - (j + 1))) then 7 - (8 - (j + 1)) else lsF σ (8 - (j + 1))); rw [show 7 - (8 - (j + 1)) = j by omega, if_pos ((nx_bitE σ j (by omega) (by omega)).mp c15)])
            | exact (by rw [show 8 - j = (8 - (j + 1)) + 1 by omega]; show x = nI (if σ.testBit (7 - (8 - (j + 1))) then 7 - (8 - (j + 1)) else lsF σ (8 - (j + 1))); rw [show 7 - (8 - (j + 1)) = j by omega, if_neg (fun z => c15 ((nx_bitE σ j (by omega) (by omega)).mpr z))]; exact hx)
  refine E_iconst (v := 0) C dX3_leastOf_0 ic_0 (E_istore_n C dX3_leastOf_1 (by decide) (E_bipush (v := 7) C dX3_leastOf_2 bp_7 (E_istore_n C dX3_leastOf_4 (by decide) ?_)))
  exact K 9 8 0 (by omega) (by omega) rfl
set_option maxRecDepth 100000 in
set_option maxHeartbeats 4000000 in
theorem s_open_0 {l : Launch} {D : va_G} {tc tt ad : Nat → Nat} {W : Nat → Nat → Int32} {g : Nat → Int32} {h : Nat → Nat → Int32} {Dv : Nat → (Nat → Int32) × (Nat → Nat → Int32)} {Sh : Nat → (Nat → Int32) × (Nat → Int64)} {u : Nat → Int32} {v : Nat → Nat → Int32} {z : Int64} {y : Nat → Int64} {fo hd le : Nat} (h2 : (Dv 0).1 2 = nI fo) (h3 : (Dv 0).1 3 = nI hd) (h4 : (Dv 0).1 4 = nI le) (hfo : fo < 256) : Ct l yX3_open cX3_open 1 (some .int) 1 D tc tt [.ref (ad 36)] (hx ad tc W g h Dv Sh u v z y) (PI fun r w => r = nI (opn fo hd le) ∧ w = hx ad tc W g h Dv Sh u v z y) := by
  refine Ct.of (by decide +kernel) (Nat.le_of_ble_eq_true rfl) ?_
  intro p e R s m args below meth c A C hr hlk
  refine E_aload_n C dX3_open_0 0 rfl (xg_3_6 C (b := 0) (by decide) dX3_open_1 f_X3_40 ?_)
  refine Ev.seti h2 ?_
  refine E_aload_n C dX3_open_4 0 rfl (xg_3_7 C (b := 0) (by decide) dX3_open_5 f_X3_43 ?_)
  refine Ev.seti h3 ?_
  refine E_iconst (v := -1) C dX3_open_8 ic_m1 (E_ixor C dX3_open_9 (E_iand C dX3_open_10 (E_aload_n C dX3_open_11 0 rfl (xg_3_8 C (b := 0) (by decide) dX3_open_12 f_X3_46 ?_))))
  refine Ev.seti h4 ?_
  refine E_iconst (v := -1) C dX3_open_15 ic_m1 (E_ixor C dX3_open_16 (E_iand C dX3_open_17 (E_iretI C hr hlk dX3_open_18 ?_)))
  refine ⟨?_, rfl⟩
  rw [show (nI fo &&& (nI hd ^^^ -1)) = nI (fo &&& (255 ^^^ hd)) from nx_andn fo hd hfo]
  exact nx_andn _ le (Nat.lt_of_le_of_lt Nat.and_le_left hfo)
set_option maxRecDepth 100000 in
set_option maxHeartbeats 4000000 in
theorem s_beginWith_0 {l : Launch} {D : va_G} {tc tt ad : Nat → Nat} {W : Nat → Nat → Int32} {g : Nat → Int32} {h : Nat → Nat → Int32} {Dv : Nat → (Nat → Int32) × (Nat → Nat → Int32)} {Sh : Nat → (Nat → Int32) × (Nat → Int64)} {u : Nat → Int32} {v : Nat → Nat → Int32} {z : Int64} {y : Nat → Int64} (P : Prop) (fo : Nat) : Ct l yX3_beginWith cX3_beginWith 2 none 1 D tc tt [.ref (ad 36), .int (nI fo)] (hx ad tc W g h Dv Sh u v z y) (PV fun w => ∃ Dv', w = hx ad tc W g h Dv' Sh u v z y ∧ (∀ k, k ≠ 0 → Dv' k = Dv k) ∧ DRel P (Dv' 0) 1 0 fo (0, 0, 0, [], 0, 0)) := by
  refine Ct.of (by decide +kernel) (Nat.le_of_ble_eq_true rfl) ?_
  intro p e R s m args below meth c A C hr hlk
  refine E_aload_n C dX3_beginWith_0 0 rfl (E_iconst (v := 1) C dX3_beginWith_1 ic_1 (xp_3_4 C (b := 0) (by decide) dX3_beginWith_2 fw_X3_32 rfl rfl (E_aload_n C dX3_beginWith_5 0 rfl (E_iconst (v := 0) C dX3_beginWith_6 ic_0 (xp_3_5 C (b := 0) (by decide) dX3_beginWith_7 fw_X3_36 ?_)))))
  refine E_aload_n C dX3_beginWith_10 0 rfl (E_iload_n C dX3_beginWith_11 1 rfl (xp_3_6 C (b := 0) (by decide) dX3_beginWith_12 fw_X3_40 (E_aload_n C dX3_beginWith_15 0 rfl (E_iconst (v := 0) C dX3_beginWith_16 ic_0 (xp_3_7 C (b := 0) (by decide) dX3_beginWith_17 fw_X3_43 ?_)))))
  refine E_aload_n C dX3_beginWith_20 0 rfl (E_iconst (v := 0) C dX3_beginWith_21 ic_0 (xp_3_8 C (b := 0) (by decide) dX3_beginWith_22 fw_X3_46 (E_aload_n C dX3_beginWith_25 0 rfl (E_iconst (v := 0) C dX3_beginWith_26 ic_0 (xp_3_9 C (b := 0) (by decide) dX3_beginWith_27 fw_X3_49 ?_)))))
  refine E_aload_n C dX3_beginWith_30 0 rfl (E_iconst (v := 0) C dX3_beginWith_31 ic_0 (xp_3_10 C (b := 0) (by decide) dX3_beginWith_32 fw_X3_52 (E_aload_n C dX3_beginWith_35 0 rfl (E_iconst (v := 0) C dX3_beginWith_36 ic_0 (xp_3_11 C (b := 0) (by decide) dX3_beginWith_37 fw_X3_55 ?_)))))
  refine E_aload_n C dX3_beginWith_40 0 rfl (E_iconst (v := 0) C dX3_beginWith_41 ic_0 (xp_3_12 C (b := 0) (by decide) dX3_beginWith_42 fw_X3_58 (E_vretV C hr hlk dX3_beginWith_45 ?_)))
  refine ⟨_, rfl, fun k hk0 => ?_, rfl, rfl, rfl, rfl, rfl, rfl, rfl, rfl, fun _ => rfl, fun _ j a b c q => ?_⟩
  · simp only [va_up, if_neg hk0]
  · cases q
set_option maxRecDepth 100000 in
set_option maxHeartbeats 4000000 in
theorem s_noteGoing_0 {l : Launch} {D : va_G} {tc tt ad : Nat → Nat} {W : Nat → Nat → Int32} {g : Nat → Int32} {h : Nat → Nat → Int32} {Dv : Nat → (Nat → Int32) × (Nat → Nat → Int32)} {Sh : Nat → (Nat → Int32) × (Nat → Int64)} {u : Nat → Int32} {v : Nat → Nat → Int32} {z : Int64} {y : Nat → Int64} {P : Prop} {on st fo hd le mi : Nat} {gl : GL} {tu lt : Nat} (hq : DRel P (Dv 0) on st fo (hd, le, mi, gl, tu, lt)) (hg8 : gl.length < 8) (aa tt0 xx : Nat) : Ct l yX3_noteGoing cX3_noteGoing 4 none 1 D tc tt [.ref (ad 36), .int (nI aa), .int (nI tt0), .int (nI xx)] (hx ad tc W g h Dv Sh u v z y) (PV fun w => ∃ Dv', w = hx ad tc W g h Dv' Sh u v z y ∧ (∀ k, k ≠ 0 → Dv' k = Dv k) ∧ DRel P (Dv' 0) on st fo (hd, le, mi + xx, gl ++ [(aa, tt0, xx)], tu, lt)) := by
  refine Ct.of (by decide +kernel) (Nat.le_of_ble_eq_true rfl) ?_
  intro p e R s m args below meth c A C hr hlk
  obtain ⟨h0, h1, h2, h3, h4, h5, h6, h7, h8, h9⟩ := hq
  have h6 : (Dv 0).1 6 = nI gl.length := h6
  have h5 : (Dv 0).1 5 = nI mi := h5
  refine E_aload_n C dX3_noteGoing_0 0 rfl (xg_3_10 C (b := 0) (by decide) dX3_noteGoing_1 f_X3_52 ?_)
  refine Ev.seti h6 ?_
  refine E_if_lt C 46 dX3_noteGoing_4 (by decide) (fun c4 => ?_) (fun c4 => ?_)
  ·
    exact absurd c4 (nI_pos (by omega))
  ·
    refine E_aload_n C dX3_noteGoing_7 0 rfl (xg_3_10 C (b := 0) (by decide) dX3_noteGoing_8 f_X3_52 ?_)
    refine Ev.seti h6 ?_
    refine E_bipush (v := 8) C dX3_noteGoing_11 bp_8 (E_icmp_ge C 46 dX3_noteGoing_13 (by decide) (fun c13 => ?_) (fun c13 => ?_))
    ·
      exact absurd (show nI 8 ≤ nI gl.length from c13) (nI_ge hg8 (by decide))
    ·
      refine E_aload_n C dX3_noteGoing_16 0 rfl (xg_3_1 C (b := 0) (by decide) dX3_noteGoing_17 f_X3_9 (E_aload_n C dX3_noteGoing_20 0 rfl (xg_3_10 C (b := 0) (by decide) dX3_noteGoing_21 f_X3_52 ?_)))
      refine Ev.seti h6 ?_
      refine E_iload_n C dX3_noteGoing_24 1 rfl (xs_dr1 C (b := 0) (by decide) dX3_noteGoing_25 (vinN hg8) (E_aload_n C dX3_noteGoing_26 0 rfl (xg_3_2 C (b := 0) (by decide) dX3_noteGoing_27 f_X3_15 (E_aload_n C dX3_noteGoing_30 0 rfl (xg_3_10 C (b := 0) (by decide) dX3_noteGoing_31 f_X3_52 ?_)))))
      refine Ev.seti h6 ?_
      refine E_iload_n C dX3_noteGoing_34 2 rfl (xs_dr2 C (b := 0) (by decide) dX3_noteGoing_35 (vinN hg8) (E_aload_n C dX3_noteGoing_36 0 rfl (xg_3_3 C (b := 0) (by decide) dX3_noteGoing_37 f_X3_18 (E_aload_n C dX3_noteGoing_40 0 rfl (xg_3_10 C (b := 0) (by decide) dX3_noteGoing_41 f_X3_52 ?_)))))
      refine Ev.seti h6 ?_
      refine E_iload_n C dX3_noteGoing_44 3 rfl (xs_dr3 C (b := 0) (by decide) dX3_noteGoing_45 (vinN hg8) (E_aload_n C dX3_noteGoing_46 0 rfl (E_dup C dX3_noteGoing_47 rfl (xg_3_10 C (b := 0) (by decide) dX3_noteGoing_48 f_X3_52 ?_))))
      refine Ev.seti h6 ?_
      refine E_iconst (v := 1) C dX3_noteGoing_51 ic_1 (E_iadd C dX3_noteGoing_52 ?_)
      refine Ev.seti (show nI gl.length + 1 = nI (gl.length + 1) from nI_1 _) ?_
      refine xp_3_10 C (b := 0) (by decide) dX3_noteGoing_53 fw_X3_52 (E_aload_n C dX3_noteGoing_56 0 rfl (E_dup C dX3_noteGoing_57 rfl (xg_3_9 C (b := 0) (by decide) dX3_noteGoing_58 f_X3_49 ?_)))
      refine Ev.seti h5 ?_
      refine E_iload_n C dX3_noteGoing_61 3 rfl (E_iadd C dX3_noteGoing_62 ?_)
      refine Ev.seti (show nI mi + nI xx = nI (mi + xx) from nI_add _ _) ?_
      refine xp_3_9 C (b := 0) (by decide) dX3_noteGoing_63 fw_X3_49 (E_vretV C hr hlk dX3_noteGoing_66 ?_)
      refine ⟨_, rfl, fun k hk0 => ?_, h0, h1, h2, h3, h4, rfl, ?_, h7, h8, fun hp j a b c q => ?_⟩
      · simp only [va_up, if_neg hk0]
      · rw [List.length_append]; rfl
      · have hc : (nI gl.length).toNatClampNeg = gl.length := nI_clamp (by omega)
        rcases Nat.lt_or_ge j gl.length with r | r
        · rw [List.getElem?_append_left r] at q
          have k := h9 hp j a b c q
          have hne : ¬ j = (nI gl.length).toNatClampNeg := by rw [hc]; omega
          exact ⟨(if_neg hne).trans k.1, (if_neg hne).trans k.2.1, (if_neg hne).trans k.2.2⟩
        · rw [List.getElem?_append_right r] at q
          have hz : j - gl.length < 1 := (List.getElem?_eq_some_iff.mp q).1
          have hj : j = gl.length := by omega
          subst hj
          rw [Nat.sub_self] at q
          cases q
          exact ⟨if_pos hc.symm, if_pos hc.symm, if_pos hc.symm⟩
set_option maxRecDepth 100000 in
set_option maxHeartbeats 4000000 in
theorem s_minded_0 {l : Launch} {D : va_G} {tc tt ad : Nat → Nat} {W : Nat → Nat → Int32} {g : Nat → Int32} {h : Nat → Nat → Int32} {Dv : Nat → (Nat → Int32) × (Nat → Nat → Int32)} {Sh : Nat → (Nat → Int32) × (Nat → Int64)} {u : Nat → Int32} {v : Nat → Nat → Int32} {z : Int64} {y : Nat → Int64} {N : Nat → Nat → Nat} (hN : NW W N) (hB : Bd N) {st fo hd le : Nat} (h1 : (Dv 0).1 1 = nI st) (h2 : (Dv 0).1 2 = nI fo) (h3 : (Dv 0).1 3 = nI hd) (h4 : (Dv 0).1 4 = nI le) (hfo : fo < 256) (hst : st ≤ 6) : Ct l yX3_mindedHere cX3_mindedHere 3 (some .int) 2 D tc tt [.ref (ad 36)] (hx ad tc W g h Dv Sh u v z y) (PI fun r w => r = nI (minded N st fo hd le) ∧ w = hx ad tc W g h Dv Sh u v z y) := by
  refine Ct.of (by decide +kernel) (Nat.le_of_ble_eq_true rfl) ?_
  intro p e R s m args below meth c A C hr hlk
  have K : ∀ (n i x : Nat), i ≤ 8 → 8 < i + n → x = mndF N st i → Ev p l e R s m args below meth c 0 0 (EQ below (PI fun r w => r = nI (minded N st fo hd le) ∧ w = hx ad tc W g h Dv Sh u v z y) args s D A) D A 3 (hx ad tc W g h Dv Sh u v z y) 4 [(2, .int (nI i)), (1, .int (nI x)), (0, .ref (ad 36))] [] := by
    intro n
    induction n with
    | zero =>
      intro i x h5 h6 hx
      exfalso; omega
    | succ n ih =>
      intro i x h5 h6 hx
      refine E_iload_n C dX3_mindedHere_4 0 rfl (E_bipush (v := 8) C dX3_mindedHere_5 bp_8 (E_icmp_ge C 38 dX3_mindedHere_7 (by decide) (fun c7 => ?_) (fun c7 => ?_)))
      ·
        obtain rfl : i = 8 := by
          rcases Nat.lt_or_ge i 8 with q | q
          · exact absurd (show nI 8 ≤ nI i from c7) (nI_ge q (by decide))
          · omega
        refine E_iload_n C dX3_mindedHere_38 1 rfl (E_aload_n C dX3_mindedHere_39 2 rfl (E_callVI C dX3_mindedHere_40 mv_X3_81 _ _ (s_open_0 h2 h3 h4 hfo) (xat_dr0 (b := 0) (by decide)) rfl rfl (by decide) (Nat.le_of_ble_eq_true rfl) ?_))
        rintro _ _ ⟨rfl, rfl⟩
        refine E_iand C dX3_mindedHere_43 (E_iretI C hr hlk dX3_mindedHere_44 ?_)
        rw [hx]
        exact ⟨nx_and _ _, rfl⟩
      ·
        have hi : i < 8 := by
          rcases Nat.lt_or_ge i 8 with q | q
          · exact q
          · exact absurd (show nI 8 ≤ nI i from nI_le q (by omega)) c7
        refine E_aload_n C dX3_mindedHere_10 2 rfl (xg_3_0 C (b := 0) (by decide) dX3_mindedHere_11 f_X3_21 (E_iconst (v := 2) C dX3_mindedHere_14 ic_2 (E_iload_n C dX3_mindedHere_15 0 rfl (E_callVI C dX3_mindedHere_16 mv_X3_77 1 _ (s_value 2 i (by decide) hi) rfl rfl rfl (by decide) (Nat.le_of_ble_eq_true rfl) ?_))))
        rintro _ _ ⟨rfl, rfl⟩
        refine Ev.seti (hN 2 i (by decide) hi) ?_
        refine E_aload_n C dX3_mindedHere_19 2 rfl (xg_3_5 C (b := 0) (by decide) dX3_mindedHere_20 f_X3_36 ?_)
        have hs2 : N 2 i ≤ 6 := hB 2 i (by decide) hi
        refine Ev.seti h1 ?_
        refine E_icmp_ne C 32 dX3_mindedHere_23 (by decide) (fun c23 => ?_) (fun c23 => ?_)
        ·
          refine E_iinc C dX3_mindedHere_32 0 rfl (nI_1 i) (by decide) (E_goto C 4 dX3_mindedHere_35 (by decide) ?_)
          refine Ev.sub [0, 1, 2] rfl (ih (i + 1) _ (by omega) (by omega) ?_)
          rw [mnd_step]
          first
            | rw [if_neg (fun z => c23 (by rw [z])), Nat.or_zero, hx]
            | rw [if_pos ((nI_eq (by omega) (by omega)).mp c23), hx]
        ·
          refine E_iload_n C dX3_mindedHere_26 1 rfl (E_iconst (v := 1) C dX3_mindedHere_27 ic_1 (E_iload_n C dX3_mindedHere_28 0 rfl (E_ishl C dX3_mindedHere_29 ?_)))
          refine Ev.seti (nx_one i (by omega)) ?_
          refine E_ior C dX3_mindedHere_30 ?_
          refine Ev.seti (nx_or _ _) ?_
          refine E_istore_n C dX3_mindedHere_31 (by decide) (E_iinc C dX3_mindedHere_32 1 rfl (nI_1 i) (by decide) (E_goto C 4 dX3_mindedHere_35 (by decide) ?_))
          refine Ev.sub [0, 1, 2] rfl (ih (i + 1) _ (by omega) (by omega) ?_)
          rw [mnd_step]
          first
            | rw [if_neg (fun z => c23 (by rw [z])), Nat.or_zero, hx]
            | rw [if_pos ((nI_eq (by omega) (by omega)).mp c23), hx]
  refine E_iconst (v := 0) C dX3_mindedHere_0 ic_0 (E_istore_n C dX3_mindedHere_1 (by decide) (E_iconst (v := 0) C dX3_mindedHere_2 ic_0 (E_istore_n C dX3_mindedHere_3 (by decide) ?_)))
  exact K 9 0 0 (by omega) (by omega) rfl
set_option maxRecDepth 100000 in
set_option maxHeartbeats 4000000 in
theorem s_open_1 {l : Launch} {D : va_G} {tc tt ad : Nat → Nat} {W : Nat → Nat → Int32} {g : Nat → Int32} {h : Nat → Nat → Int32} {Dv : Nat → (Nat → Int32) × (Nat → Nat → Int32)} {Sh : Nat → (Nat → Int32) × (Nat → Int64)} {u : Nat → Int32} {v : Nat → Nat → Int32} {z : Int64} {y : Nat → Int64} {fo hd le : Nat} (h2 : (Dv 1).1 2 = nI fo) (h3 : (Dv 1).1 3 = nI hd) (h4 : (Dv 1).1 4 = nI le) (hfo : fo < 256) : Ct l yX3_open cX3_open 1 (some .int) 1 D tc tt [.ref (ad 40)] (hx ad tc W g h Dv Sh u v z y) (PI fun r w => r = nI (opn fo hd le) ∧ w = hx ad tc W g h Dv Sh u v z y) := by
  refine Ct.of (by decide +kernel) (Nat.le_of_ble_eq_true rfl) ?_
  intro p e R s m args below meth c A C hr hlk
  refine E_aload_n C dX3_open_0 0 rfl (xg_3_6 C (b := 1) (by decide) dX3_open_1 f_X3_40 ?_)
  refine Ev.seti h2 ?_
  refine E_aload_n C dX3_open_4 0 rfl (xg_3_7 C (b := 1) (by decide) dX3_open_5 f_X3_43 ?_)
  refine Ev.seti h3 ?_
  refine E_iconst (v := -1) C dX3_open_8 ic_m1 (E_ixor C dX3_open_9 (E_iand C dX3_open_10 (E_aload_n C dX3_open_11 0 rfl (xg_3_8 C (b := 1) (by decide) dX3_open_12 f_X3_46 ?_))))
  refine Ev.seti h4 ?_
  refine E_iconst (v := -1) C dX3_open_15 ic_m1 (E_ixor C dX3_open_16 (E_iand C dX3_open_17 (E_iretI C hr hlk dX3_open_18 ?_)))
  refine ⟨?_, rfl⟩
  rw [show (nI fo &&& (nI hd ^^^ -1)) = nI (fo &&& (255 ^^^ hd)) from nx_andn fo hd hfo]
  exact nx_andn _ le (Nat.lt_of_le_of_lt Nat.and_le_left hfo)
set_option maxRecDepth 100000 in
set_option maxHeartbeats 4000000 in
theorem s_beginWith_1 {l : Launch} {D : va_G} {tc tt ad : Nat → Nat} {W : Nat → Nat → Int32} {g : Nat → Int32} {h : Nat → Nat → Int32} {Dv : Nat → (Nat → Int32) × (Nat → Nat → Int32)} {Sh : Nat → (Nat → Int32) × (Nat → Int64)} {u : Nat → Int32} {v : Nat → Nat → Int32} {z : Int64} {y : Nat → Int64} (P : Prop) (fo : Nat) : Ct l yX3_beginWith cX3_beginWith 2 none 1 D tc tt [.ref (ad 40), .int (nI fo)] (hx ad tc W g h Dv Sh u v z y) (PV fun w => ∃ Dv', w = hx ad tc W g h Dv' Sh u v z y ∧ (∀ k, k ≠ 1 → Dv' k = Dv k) ∧ DRel P (Dv' 1) 1 0 fo (0, 0, 0, [], 0, 0)) := by
  refine Ct.of (by decide +kernel) (Nat.le_of_ble_eq_true rfl) ?_
  intro p e R s m args below meth c A C hr hlk
  refine E_aload_n C dX3_beginWith_0 0 rfl (E_iconst (v := 1) C dX3_beginWith_1 ic_1 (xp_3_4 C (b := 1) (by decide) dX3_beginWith_2 fw_X3_32 rfl rfl (E_aload_n C dX3_beginWith_5 0 rfl (E_iconst (v := 0) C dX3_beginWith_6 ic_0 (xp_3_5 C (b := 1) (by decide) dX3_beginWith_7 fw_X3_36 ?_)))))
  refine E_aload_n C dX3_beginWith_10 0 rfl (E_iload_n C dX3_beginWith_11 1 rfl (xp_3_6 C (b := 1) (by decide) dX3_beginWith_12 fw_X3_40 (E_aload_n C dX3_beginWith_15 0 rfl (E_iconst (v := 0) C dX3_beginWith_16 ic_0 (xp_3_7 C (b := 1) (by decide) dX3_beginWith_17 fw_X3_43 ?_)))))
  refine E_aload_n C dX3_beginWith_20 0 rfl (E_iconst (v := 0) C dX3_beginWith_21 ic_0 (xp_3_8 C (b := 1) (by decide) dX3_beginWith_22 fw_X3_46 (E_aload_n C dX3_beginWith_25 0 rfl (E_iconst (v := 0) C dX3_beginWith_26 ic_0 (xp_3_9 C (b := 1) (by decide) dX3_beginWith_27 fw_X3_49 ?_)))))
  refine E_aload_n C dX3_beginWith_30 0 rfl (E_iconst (v := 0) C dX3_beginWith_31 ic_0 (xp_3_10 C (b := 1) (by decide) dX3_beginWith_32 fw_X3_52 (E_aload_n C dX3_beginWith_35 0 rfl (E_iconst (v := 0) C dX3_beginWith_36 ic_0 (xp_3_11 C (b := 1) (by decide) dX3_beginWith_37 fw_X3_55 ?_)))))
  refine E_aload_n C dX3_beginWith_40 0 rfl (E_iconst (v := 0) C dX3_beginWith_41 ic_0 (xp_3_12 C (b := 1) (by decide) dX3_beginWith_42 fw_X3_58 (E_vretV C hr hlk dX3_beginWith_45 ?_)))
  refine ⟨_, rfl, fun k hk0 => ?_, rfl, rfl, rfl, rfl, rfl, rfl, rfl, rfl, fun _ => rfl, fun _ j a b c q => ?_⟩
  · simp only [va_up, if_neg hk0]
  · cases q
set_option maxRecDepth 100000 in
set_option maxHeartbeats 4000000 in
theorem s_noteGoing_1 {l : Launch} {D : va_G} {tc tt ad : Nat → Nat} {W : Nat → Nat → Int32} {g : Nat → Int32} {h : Nat → Nat → Int32} {Dv : Nat → (Nat → Int32) × (Nat → Nat → Int32)} {Sh : Nat → (Nat → Int32) × (Nat → Int64)} {u : Nat → Int32} {v : Nat → Nat → Int32} {z : Int64} {y : Nat → Int64} {P : Prop} {on st fo hd le mi : Nat} {gl : GL} {tu lt : Nat} (hq : DRel P (Dv 1) on st fo (hd, le, mi, gl, tu, lt)) (hg8 : gl.length < 8) (aa tt0 xx : Nat) : Ct l yX3_noteGoing cX3_noteGoing 4 none 1 D tc tt [.ref (ad 40), .int (nI aa), .int (nI tt0), .int (nI xx)] (hx ad tc W g h Dv Sh u v z y) (PV fun w => ∃ Dv', w = hx ad tc W g h Dv' Sh u v z y ∧ (∀ k, k ≠ 1 → Dv' k = Dv k) ∧ DRel P (Dv' 1) on st fo (hd, le, mi + xx, gl ++ [(aa, tt0, xx)], tu, lt)) := by
  refine Ct.of (by decide +kernel) (Nat.le_of_ble_eq_true rfl) ?_
  intro p e R s m args below meth c A C hr hlk
  obtain ⟨h0, h1, h2, h3, h4, h5, h6, h7, h8, h9⟩ := hq
  have h6 : (Dv 1).1 6 = nI gl.length := h6
  have h5 : (Dv 1).1 5 = nI mi := h5
  refine E_aload_n C dX3_noteGoing_0 0 rfl (xg_3_10 C (b := 1) (by decide) dX3_noteGoing_1 f_X3_52 ?_)
  refine Ev.seti h6 ?_
  refine E_if_lt C 46 dX3_noteGoing_4 (by decide) (fun c4 => ?_) (fun c4 => ?_)
  ·
    exact absurd c4 (nI_pos (by omega))
  ·
    refine E_aload_n C dX3_noteGoing_7 0 rfl (xg_3_10 C (b := 1) (by decide) dX3_noteGoing_8 f_X3_52 ?_)
    refine Ev.seti h6 ?_
    refine E_bipush (v := 8) C dX3_noteGoing_11 bp_8 (E_icmp_ge C 46 dX3_noteGoing_13 (by decide) (fun c13 => ?_) (fun c13 => ?_))
    ·
      exact absurd (show nI 8 ≤ nI gl.length from c13) (nI_ge hg8 (by decide))
    ·
      refine E_aload_n C dX3_noteGoing_16 0 rfl (xg_3_1 C (b := 1) (by decide) dX3_noteGoing_17 f_X3_9 (E_aload_n C dX3_noteGoing_20 0 rfl (xg_3_10 C (b := 1) (by decide) dX3_noteGoing_21 f_X3_52 ?_)))
      refine Ev.seti h6 ?_
      refine E_iload_n C dX3_noteGoing_24 1 rfl (xs_dr1 C (b := 1) (by decide) dX3_noteGoing_25 (vinN hg8) (E_aload_n C dX3_noteGoing_26 0 rfl (xg_3_2 C (b := 1) (by decide) dX3_noteGoing_27 f_X3_15 (E_aload_n C dX3_noteGoing_30 0 rfl (xg_3_10 C (b := 1) (by decide) dX3_noteGoing_31 f_X3_52 ?_)))))
      refine Ev.seti h6 ?_
      refine E_iload_n C dX3_noteGoing_34 2 rfl (xs_dr2 C (b := 1) (by decide) dX3_noteGoing_35 (vinN hg8) (E_aload_n C dX3_noteGoing_36 0 rfl (xg_3_3 C (b := 1) (by decide) dX3_noteGoing_37 f_X3_18 (E_aload_n C dX3_noteGoing_40 0 rfl (xg_3_10 C (b := 1) (by decide) dX3_noteGoing_41 f_X3_52 ?_)))))
      refine Ev.seti h6 ?_
      refine E_iload_n C dX3_noteGoing_44 3 rfl (xs_dr3 C (b := 1) (by decide) dX3_noteGoing_45 (vinN hg8) (E_aload_n C dX3_noteGoing_46 0 rfl (E_dup C dX3_noteGoing_47 rfl (xg_3_10 C (b := 1) (by decide) dX3_noteGoing_48 f_X3_52 ?_))))
      refine Ev.seti h6 ?_
      refine E_iconst (v := 1) C dX3_noteGoing_51 ic_1 (E_iadd C dX3_noteGoing_52 ?_)
      refine Ev.seti (show nI gl.length + 1 = nI (gl.length + 1) from nI_1 _) ?_
      refine xp_3_10 C (b := 1) (by decide) dX3_noteGoing_53 fw_X3_52 (E_aload_n C dX3_noteGoing_56 0 rfl (E_dup C dX3_noteGoing_57 rfl (xg_3_9 C (b := 1) (by decide) dX3_noteGoing_58 f_X3_49 ?_)))
      refine Ev.seti h5 ?_
      refine E_iload_n C dX3_noteGoing_61 3 rfl (E_iadd C dX3_noteGoing_62 ?_)
      refine Ev.seti (show nI mi + nI xx = nI (mi + xx) from nI_add _ _) ?_
      refine xp_3_9 C (b := 1) (by decide) dX3_noteGoing_63 fw_X3_49 (E_vretV C hr hlk dX3_noteGoing_66 ?_)
      refine ⟨_, rfl, fun k hk0 => ?_, h0, h1, h2, h3, h4, rfl, ?_, h7, h8, fun hp j a b c q => ?_⟩
      · simp only [va_up, if_neg hk0]
      · rw [List.length_append]; rfl
      · have hc : (nI gl.length).toNatClampNeg = gl.length := nI_clamp (by omega)
        rcases Nat.lt_or_ge j gl.length with r | r
        · rw [List.getElem?_append_left r] at q
          have k := h9 hp j a b c q
          have hne : ¬ j = (nI gl.length).toNatClampNeg := by rw [hc]; omega
          exact ⟨(if_neg hne).trans k.1, (if_neg hne).trans k.2.1, (if_neg hne).trans k.2.2⟩
        · rw [List.getElem?_append_right r] at q
          have hz : j - gl.length < 1 := (List.getElem?_eq_some_iff.mp q).1
          have hj : j = gl.length := by omega
          subst hj
          rw [Nat.sub_self] at q
          cases q
          exact ⟨if_pos hc.symm, if_pos hc.symm, if_pos hc.symm⟩
set_option maxRecDepth 100000 in
set_option maxHeartbeats 4000000 in
theorem s_minded_1 {l : Launch} {D : va_G} {tc tt ad : Nat → Nat} {W : Nat → Nat → Int32} {g : Nat → Int32} {h : Nat → Nat → Int32} {Dv : Nat → (Nat → Int32) × (Nat → Nat → Int32)} {Sh : Nat → (Nat → Int32) × (Nat → Int64)} {u : Nat → Int32} {v : Nat → Nat → Int32} {z : Int64} {y : Nat → Int64} {N : Nat → Nat → Nat} (hN : NW W N) (hB : Bd N) {st fo hd le : Nat} (h1 : (Dv 1).1 1 = nI st) (h2 : (Dv 1).1 2 = nI fo) (h3 : (Dv 1).1 3 = nI hd) (h4 : (Dv 1).1 4 = nI le) (hfo : fo < 256) (hst : st ≤ 6) : Ct l yX3_mindedHere cX3_mindedHere 3 (some .int) 2 D tc tt [.ref (ad 40)] (hx ad tc W g h Dv Sh u v z y) (PI fun r w => r = nI (minded N st fo hd le) ∧ w = hx ad tc W g h Dv Sh u v z y) := by
  refine Ct.of (by decide +kernel) (Nat.le_of_ble_eq_true rfl) ?_
  intro p e R s m args below meth c A C hr hlk
  have K : ∀ (n i x : Nat), i ≤ 8 → 8 < i + n → x = mndF N st i → Ev p l e R s m args below meth c 0 0 (EQ below (PI fun r w => r = nI (minded N st fo hd le) ∧ w = hx ad tc W g h Dv Sh u v z y) args s D A) D A 3 (hx ad tc W g h Dv Sh u v z y) 4 [(2, .int (nI i)), (1, .int (nI x)), (0, .ref (ad 40))] [] := by
    intro n
    induction n with
    | zero =>
      intro i x h5 h6 hx
      exfalso; omega
    | succ n ih =>
      intro i x h5 h6 hx
      refine E_iload_n C dX3_mindedHere_4 0 rfl (E_bipush (v := 8) C dX3_mindedHere_5 bp_8 (E_icmp_ge C 38 dX3_mindedHere_7 (by decide) (fun c7 => ?_) (fun c7 => ?_)))
      ·
        obtain rfl : i = 8 := by
          rcases Nat.lt_or_ge i 8 with q | q
          · exact absurd (show nI 8 ≤ nI i from c7) (nI_ge q (by decide))
          · omega
        refine E_iload_n C dX3_mindedHere_38 1 rfl (E_aload_n C dX3_mindedHere_39 2 rfl (E_callVI C dX3_mindedHere_40 mv_X3_81 _ _ (s_open_1 h2 h3 h4 hfo) (xat_dr0 (b := 1) (by decide)) rfl rfl (by decide) (Nat.le_of_ble_eq_true rfl) ?_))
        rintro _ _ ⟨rfl, rfl⟩
        refine E_iand C dX3_mindedHere_43 (E_iretI C hr hlk dX3_mindedHere_44 ?_)
        rw [hx]
        exact ⟨nx_and _ _, rfl⟩
      ·
        have hi : i < 8 := by
          rcases Nat.lt_or_ge i 8 with q | q
          · exact q
          · exact absurd (show nI 8 ≤ nI i from nI_le q (by omega)) c7
        refine E_aload_n C dX3_mindedHere_10 2 rfl (xg_3_0 C (b := 1) (by decide) dX3_mindedHere_11 f_X3_21 (E_iconst (v := 2) C dX3_mindedHere_14 ic_2 (E_iload_n C dX3_mindedHere_15 0 rfl (E_callVI C dX3_mindedHere_16 mv_X3_77 1 _ (s_value 2 i (by decide) hi) rfl rfl rfl (by decide) (Nat.le_of_ble_eq_true rfl) ?_))))
        rintro _ _ ⟨rfl, rfl⟩
        refine Ev.seti (hN 2 i (by decide) hi) ?_
        refine E_aload_n C dX3_mindedHere_19 2 rfl (xg_3_5 C (b := 1) (by decide) dX3_mindedHere_20 f_X3_36 ?_)
        have hs2 : N 2 i ≤ 6 := hB 2 i (by decide) hi
        refine Ev.seti h1 ?_
        refine E_icmp_ne C 32 dX3_mindedHere_23 (by decide) (fun c23 => ?_) (fun c23 => ?_)
        ·
          refine E_iinc C dX3_mindedHere_32 0 rfl (nI_1 i) (by decide) (E_goto C 4 dX3_mindedHere_35 (by decide) ?_)
          refine Ev.sub [0, 1, 2] rfl (ih (i + 1) _ (by omega) (by omega) ?_)
          rw [mnd_step]
          first
            | rw [if_neg (fun z => c23 (by rw [z])), Nat.or_zero, hx]
            | rw [if_pos ((nI_eq (by omega) (by omega)).mp c23), hx]
        ·
          refine E_iload_n C dX3_mindedHere_26 1 rfl (E_iconst (v := 1) C dX3_mindedHere_27 ic_1 (E_iload_n C dX3_mindedHere_28 0 rfl (E_ishl C dX3_mindedHere_29 ?_)))
          refine Ev.seti (nx_one i (by omega)) ?_
          refine E_ior C dX3_mindedHere_30 ?_
          refine Ev.seti (nx_or _ _) ?_
          refine E_istore_n C dX3_mindedHere_31 (by decide) (E_iinc C dX3_mindedHere_32 1 rfl (nI_1 i) (by decide) (E_goto C 4 dX3_mindedHere_35 (by decide) ?_))
          refine Ev.sub [0, 1, 2] rfl (ih (i + 1) _ (by omega) (by omega) ?_)
          rw [mnd_step]
          first
            | rw [if_neg (fun z => c23 (by rw [z])), Nat.or_zero, hx]
            | rw [if_pos ((nI_eq (by omega) (by omega)).mp c23), hx]
  refine E_iconst (v := 0) C dX3_mindedHere_0 ic_0 (E_istore_n C dX3_mindedHere_1 (by decide) (E_iconst (v := 0) C dX3_mindedHere_2 ic_0 (E_istore_n C dX3_mindedHere_3 (by decide) ?_)))
  exact K 9 0 0 (by omega) (by omega) rfl
set_option maxRecDepth 100000 in
set_option maxHeartbeats 4000000 in
theorem s_open_2 {l : Launch} {D : va_G} {tc tt ad : Nat → Nat} {W : Nat → Nat → Int32} {g : Nat → Int32} {h : Nat → Nat → Int32} {Dv : Nat → (Nat → Int32) × (Nat → Nat → Int32)} {Sh : Nat → (Nat → Int32) × (Nat → Int64)} {u : Nat → Int32} {v : Nat → Nat → Int32} {z : Int64} {y : Nat → Int64} {fo hd le : Nat} (h2 : (Dv 2).1 2 = nI fo) (h3 : (Dv 2).1 3 = nI hd) (h4 : (Dv 2).1 4 = nI le) (hfo : fo < 256) : Ct l yX3_open cX3_open 1 (some .int) 1 D tc tt [.ref (ad 44)] (hx ad tc W g h Dv Sh u v z y) (PI fun r w => r = nI (opn fo hd le) ∧ w = hx ad tc W g h Dv Sh u v z y) := by
  refine Ct.of (by decide +kernel) (Nat.le_of_ble_eq_true rfl) ?_
  intro p e R s m args below meth c A C hr hlk
  refine E_aload_n C dX3_open_0 0 rfl (xg_3_6 C (b := 2) (by decide) dX3_open_1 f_X3_40 ?_)
  refine Ev.seti h2 ?_
  refine E_aload_n C dX3_open_4 0 rfl (xg_3_7 C (b := 2) (by decide) dX3_open_5 f_X3_43 ?_)
  refine Ev.seti h3 ?_
  refine E_iconst (v := -1) C dX3_open_8 ic_m1 (E_ixor C dX3_open_9 (E_iand C dX3_open_10 (E_aload_n C dX3_open_11 0 rfl (xg_3_8 C (b := 2) (by decide) dX3_open_12 f_X3_46 ?_))))
  refine Ev.seti h4 ?_
  refine E_iconst (v := -1) C dX3_open_15 ic_m1 (E_ixor C dX3_open_16 (E_iand C dX3_open_17 (E_iretI C hr hlk dX3_open_18 ?_)))
  refine ⟨?_, rfl⟩
  rw [show (nI fo &&& (nI hd ^^^ -1)) = nI (fo &&& (255 ^^^ hd)) from nx_andn fo hd hfo]
  exact nx_andn _ le (Nat.lt_of_le_of_lt Nat.and_le_left hfo)
set_option maxRecDepth 100000 in
set_option maxHeartbeats 4000000 in
theorem s_beginWith_2 {l : Launch} {D : va_G} {tc tt ad : Nat → Nat} {W : Nat → Nat → Int32} {g : Nat → Int32} {h : Nat → Nat → Int32} {Dv : Nat → (Nat → Int32) × (Nat → Nat → Int32)} {Sh : Nat → (Nat → Int32) × (Nat → Int64)} {u : Nat → Int32} {v : Nat → Nat → Int32} {z : Int64} {y : Nat → Int64} (P : Prop) (fo : Nat) : Ct l yX3_beginWith cX3_beginWith 2 none 1 D tc tt [.ref (ad 44), .int (nI fo)] (hx ad tc W g h Dv Sh u v z y) (PV fun w => ∃ Dv', w = hx ad tc W g h Dv' Sh u v z y ∧ (∀ k, k ≠ 2 → Dv' k = Dv k) ∧ DRel P (Dv' 2) 1 0 fo (0, 0, 0, [], 0, 0)) := by
  refine Ct.of (by decide +kernel) (Nat.le_of_ble_eq_true rfl) ?_
  intro p e R s m args below meth c A C hr hlk
  refine E_aload_n C dX3_beginWith_0 0 rfl (E_iconst (v := 1) C dX3_beginWith_1 ic_1 (xp_3_4 C (b := 2) (by decide) dX3_beginWith_2 fw_X3_32 rfl rfl (E_aload_n C dX3_beginWith_5 0 rfl (E_iconst (v := 0) C dX3_beginWith_6 ic_0 (xp_3_5 C (b := 2) (by decide) dX3_beginWith_7 fw_X3_36 ?_)))))
  refine E_aload_n C dX3_beginWith_10 0 rfl (E_iload_n C dX3_beginWith_11 1 rfl (xp_3_6 C (b := 2) (by decide) dX3_beginWith_12 fw_X3_40 (E_aload_n C dX3_beginWith_15 0 rfl (E_iconst (v := 0) C dX3_beginWith_16 ic_0 (xp_3_7 C (b := 2) (by decide) dX3_beginWith_17 fw_X3_43 ?_)))))
  refine E_aload_n C dX3_beginWith_20 0 rfl (E_iconst (v := 0) C dX3_beginWith_21 ic_0 (xp_3_8 C (b := 2) (by decide) dX3_beginWith_22 fw_X3_46 (E_aload_n C dX3_beginWith_25 0 rfl (E_iconst (v := 0) C dX3_beginWith_26 ic_0 (xp_3_9 C (b := 2) (by decide) dX3_beginWith_27 fw_X3_49 ?_)))))
  refine E_aload_n C dX3_beginWith_30 0 rfl (E_iconst (v := 0) C dX3_beginWith_31 ic_0 (xp_3_10 C (b := 2) (by decide) dX3_beginWith_32 fw_X3_52 (E_aload_n C dX3_beginWith_35 0 rfl (E_iconst (v := 0) C dX3_beginWith_36 ic_0 (xp_3_11 C (b := 2) (by decide) dX3_beginWith_37 fw_X3_55 ?_)))))
  refine E_aload_n C dX3_beginWith_40 0 rfl (E_iconst (v := 0) C dX3_beginWith_41 ic_0 (xp_3_12 C (b := 2) (by decide) dX3_beginWith_42 fw_X3_58 (E_vretV C hr hlk dX3_beginWith_45 ?_)))
  refine ⟨_, rfl, fun k hk0 => ?_, rfl, rfl, rfl, rfl, rfl, rfl, rfl, rfl, fun _ => rfl, fun _ j a b c q => ?_⟩
  · simp only [va_up, if_neg hk0]
  · cases q
set_option maxRecDepth 100000 in
set_option maxHeartbeats 4000000 in
theorem s_noteGoing_2 {l : Launch} {D : va_G} {tc tt ad : Nat → Nat} {W : Nat → Nat → Int32} {g : Nat → Int32} {h : Nat → Nat → Int32} {Dv : Nat → (Nat → Int32) × (Nat → Nat → Int32)} {Sh : Nat → (Nat → Int32) × (Nat → Int64)} {u : Nat → Int32} {v : Nat → Nat → Int32} {z : Int64} {y : Nat → Int64} {P : Prop} {on st fo hd le mi : Nat} {gl : GL} {tu lt : Nat} (hq : DRel P (Dv 2) on st fo (hd, le, mi, gl, tu, lt)) (hg8 : gl.length < 8) (aa tt0 xx : Nat) : Ct l yX3_noteGoing cX3_noteGoing 4 none 1 D tc tt [.ref (ad 44), .int (nI aa), .int (nI tt0), .int (nI xx)] (hx ad tc W g h Dv Sh u v z y) (PV fun w => ∃ Dv', w = hx ad tc W g h Dv' Sh u v z y ∧ (∀ k, k ≠ 2 → Dv' k = Dv k) ∧ DRel P (Dv' 2) on st fo (hd, le, mi + xx, gl ++ [(aa, tt0, xx)], tu, lt)) := by
  refine Ct.of (by decide +kernel) (Nat.le_of_ble_eq_true rfl) ?_
  intro p e R s m args below meth c A C hr hlk
  obtain ⟨h0, h1, h2, h3, h4, h5, h6, h7, h8, h9⟩ := hq
  have h6 : (Dv 2).1 6 = nI gl.length := h6
  have h5 : (Dv 2).1 5 = nI mi := h5
  refine E_aload_n C dX3_noteGoing_0 0 rfl (xg_3_10 C (b := 2) (by decide) dX3_noteGoing_1 f_X3_52 ?_)
  refine Ev.seti h6 ?_
  refine E_if_lt C 46 dX3_noteGoing_4 (by decide) (fun c4 => ?_) (fun c4 => ?_)
  ·
    exact absurd c4 (nI_pos (by omega))
  ·
    refine E_aload_n C dX3_noteGoing_7 0 rfl (xg_3_10 C (b := 2) (by decide) dX3_noteGoing_8 f_X3_52 ?_)
    refine Ev.seti h6 ?_
    refine E_bipush (v := 8) C dX3_noteGoing_11 bp_8 (E_icmp_ge C 46 dX3_noteGoing_13 (by decide) (fun c13 => ?_) (fun c13 => ?_))
    ·
      exact absurd (show nI 8 ≤ nI gl.length from c13) (nI_ge hg8 (by decide))
    ·
      refine E_aload_n C dX3_noteGoing_16 0 rfl (xg_3_1 C (b := 2) (by decide) dX3_noteGoing_17 f_X3_9 (E_aload_n C dX3_noteGoing_20 0 rfl (xg_3_10 C (b := 2) (by decide) dX3_noteGoing_21 f_X3_52 ?_)))
      refine Ev.seti h6 ?_
      refine E_iload_n C dX3_noteGoing_24 1 rfl (xs_dr1 C (b := 2) (by decide) dX3_noteGoing_25 (vinN hg8) (E_aload_n C dX3_noteGoing_26 0 rfl (xg_3_2 C (b := 2) (by decide) dX3_noteGoing_27 f_X3_15 (E_aload_n C dX3_noteGoing_30 0 rfl (xg_3_10 C (b := 2) (by decide) dX3_noteGoing_31 f_X3_52 ?_)))))
      refine Ev.seti h6 ?_
      refine E_iload_n C dX3_noteGoing_34 2 rfl (xs_dr2 C (b := 2) (by decide) dX3_noteGoing_35 (vinN hg8) (E_aload_n C dX3_noteGoing_36 0 rfl (xg_3_3 C (b := 2) (by decide) dX3_noteGoing_37 f_X3_18 (E_aload_n C dX3_noteGoing_40 0 rfl (xg_3_10 C (b := 2) (by decide) dX3_noteGoing_41 f_X3_52 ?_)))))
      refine Ev.seti h6 ?_
      refine E_iload_n C dX3_noteGoing_44 3 rfl (xs_dr3 C (b := 2) (by decide) dX3_noteGoing_45 (vinN hg8) (E_aload_n C dX3_noteGoing_46 0 rfl (E_dup C dX3_noteGoing_47 rfl (xg_3_10 C (b := 2) (by decide) dX3_noteGoing_48 f_X3_52 ?_))))
      refine Ev.seti h6 ?_
      refine E_iconst (v := 1) C dX3_noteGoing_51 ic_1 (E_iadd C dX3_noteGoing_52 ?_)
      refine Ev.seti (show nI gl.length + 1 = nI (gl.length + 1) from nI_1 _) ?_
      refine xp_3_10 C (b := 2) (by decide) dX3_noteGoing_53 fw_X3_52 (E_aload_n C dX3_noteGoing_56 0 rfl (E_dup C dX3_noteGoing_57 rfl (xg_3_9 C (b := 2) (by decide) dX3_noteGoing_58 f_X3_49 ?_)))
      refine Ev.seti h5 ?_
      refine E_iload_n C dX3_noteGoing_61 3 rfl (E_iadd C dX3_noteGoing_62 ?_)
      refine Ev.seti (show nI mi + nI xx = nI (mi + xx) from nI_add _ _) ?_
      refine xp_3_9 C (b := 2) (by decide) dX3_noteGoing_63 fw_X3_49 (E_vretV C hr hlk dX3_noteGoing_66 ?_)
      refine ⟨_, rfl, fun k hk0 => ?_, h0, h1, h2, h3, h4, rfl, ?_, h7, h8, fun hp j a b c q => ?_⟩
      · simp only [va_up, if_neg hk0]
      · rw [List.length_append]; rfl
      · have hc : (nI gl.length).toNatClampNeg = gl.length := nI_clamp (by omega)
        rcases Nat.lt_or_ge j gl.length with r | r
        · rw [List.getElem?_append_left r] at q
          have k := h9 hp j a b c q
          have hne : ¬ j = (nI gl.length).toNatClampNeg := by rw [hc]; omega
          exact ⟨(if_neg hne).trans k.1, (if_neg hne).trans k.2.1, (if_neg hne).trans k.2.2⟩
        · rw [List.getElem?_append_right r] at q
          have hz : j - gl.length < 1 := (List.getElem?_eq_some_iff.mp q).1
          have hj : j = gl.length := by omega
          subst hj
          rw [Nat.sub_self] at q
          cases q
          exact ⟨if_pos hc.symm, if_pos hc.symm, if_pos hc.symm⟩
set_option maxRecDepth 100000 in
set_option maxHeartbeats 4000000 in
theorem s_minded_2 {l : Launch} {D : va_G} {tc tt ad : Nat → Nat} {W : Nat → Nat → Int32} {g : Nat → Int32} {h : Nat → Nat → Int32} {Dv : Nat → (Nat → Int32) × (Nat → Nat → Int32)} {Sh : Nat → (Nat → Int32) × (Nat → Int64)} {u : Nat → Int32} {v : Nat → Nat → Int32} {z : Int64} {y : Nat → Int64} {N : Nat → Nat → Nat} (hN : NW W N) (hB : Bd N) {st fo hd le : Nat} (h1 : (Dv 2).1 1 = nI st) (h2 : (Dv 2).1 2 = nI fo) (h3 : (Dv 2).1 3 = nI hd) (h4 : (Dv 2).1 4 = nI le) (hfo : fo < 256) (hst : st ≤ 6) : Ct l yX3_mindedHere cX3_mindedHere 3 (some .int) 2 D tc tt [.ref (ad 44)] (hx ad tc W g h Dv Sh u v z y) (PI fun r w => r = nI (minded N st fo hd le) ∧ w = hx ad tc W g h Dv Sh u v z y) := by
  refine Ct.of (by decide +kernel) (Nat.le_of_ble_eq_true rfl) ?_
  intro p e R s m args below meth c A C hr hlk
  have K : ∀ (n i x : Nat), i ≤ 8 → 8 < i + n → x = mndF N st i → Ev p l e R s m args below meth c 0 0 (EQ below (PI fun r w => r = nI (minded N st fo hd le) ∧ w = hx ad tc W g h Dv Sh u v z y) args s D A) D A 3 (hx ad tc W g h Dv Sh u v z y) 4 [(2, .int (nI i)), (1, .int (nI x)), (0, .ref (ad 44))] [] := by
    intro n
    induction n with
    | zero =>
      intro i x h5 h6 hx
      exfalso; omega
    | succ n ih =>
      intro i x h5 h6 hx
      refine E_iload_n C dX3_mindedHere_4 0 rfl (E_bipush (v := 8) C dX3_mindedHere_5 bp_8 (E_icmp_ge C 38 dX3_mindedHere_7 (by decide) (fun c7 => ?_) (fun c7 => ?_)))
      ·
        obtain rfl : i = 8 := by
          rcases Nat.lt_or_ge i 8 with q | q
          · exact absurd (show nI 8 ≤ nI i from c7) (nI_ge q (by decide))
          · omega
        refine E_iload_n C dX3_mindedHere_38 1 rfl (E_aload_n C dX3_mindedHere_39 2 rfl (E_callVI C dX3_mindedHere_40 mv_X3_81 _ _ (s_open_2 h2 h3 h4 hfo) (xat_dr0 (b := 2) (by decide)) rfl rfl (by decide) (Nat.le_of_ble_eq_true rfl) ?_))
        rintro _ _ ⟨rfl, rfl⟩
        refine E_iand C dX3_mindedHere_43 (E_iretI C hr hlk dX3_mindedHere_44 ?_)
        rw [hx]
        exact ⟨nx_and _ _, rfl⟩
      ·
        have hi : i < 8 := by
          rcases Nat.lt_or_ge i 8 with q | q
          · exact q
          · exact absurd (show nI 8 ≤ nI i from nI_le q (by omega)) c7
        refine E_aload_n C dX3_mindedHere_10 2 rfl (xg_3_0 C (b := 2) (by decide) dX3_mindedHere_11 f_X3_21 (E_iconst (v := 2) C dX3_mindedHere_14 ic_2 (E_iload_n C dX3_mindedHere_15 0 rfl (E_callVI C dX3_mindedHere_16 mv_X3_77 1 _ (s_value 2 i (by decide) hi) rfl rfl rfl (by decide) (Nat.le_of_ble_eq_true rfl) ?_))))
        rintro _ _ ⟨rfl, rfl⟩
        refine Ev.seti (hN 2 i (by decide) hi) ?_
        refine E_aload_n C dX3_mindedHere_19 2 rfl (xg_3_5 C (b := 2) (by decide) dX3_mindedHere_20 f_X3_36 ?_)
        have hs2 : N 2 i ≤ 6 := hB 2 i (by decide) hi
        refine Ev.seti h1 ?_
        refine E_icmp_ne C 32 dX3_mindedHere_23 (by decide) (fun c23 => ?_) (fun c23 => ?_)
        ·
          refine E_iinc C dX3_mindedHere_32 0 rfl (nI_1 i) (by decide) (E_goto C 4 dX3_mindedHere_35 (by decide) ?_)
          refine Ev.sub [0, 1, 2] rfl (ih (i + 1) _ (by omega) (by omega) ?_)
          rw [mnd_step]
          first
            | rw [if_neg (fun z => c23 (by rw [z])), Nat.or_zero, hx]
            | rw [if_pos ((nI_eq (by omega) (by omega)).mp c23), hx]
        ·
          refine E_iload_n C dX3_mindedHere_26 1 rfl (E_iconst (v := 1) C dX3_mindedHere_27 ic_1 (E_iload_n C dX3_mindedHere_28 0 rfl (E_ishl C dX3_mindedHere_29 ?_)))
          refine Ev.seti (nx_one i (by omega)) ?_
          refine E_ior C dX3_mindedHere_30 ?_
          refine Ev.seti (nx_or _ _) ?_
          refine E_istore_n C dX3_mindedHere_31 (by decide) (E_iinc C dX3_mindedHere_32 1 rfl (nI_1 i) (by decide) (E_goto C 4 dX3_mindedHere_35 (by decide) ?_))
          refine Ev.sub [0, 1, 2] rfl (ih (i + 1) _ (by omega) (by omega) ?_)
          rw [mnd_step]
          first
            | rw [if_neg (fun z => c23 (by rw [z])), Nat.or_zero, hx]
            | rw [if_pos ((nI_eq (by omega) (by omega)).mp c23), hx]
  refine E_iconst (v := 0) C dX3_mindedHere_0 ic_0 (E_istore_n C dX3_mindedHere_1 (by decide) (E_iconst (v := 0) C dX3_mindedHere_2 ic_0 (E_istore_n C dX3_mindedHere_3 (by decide) ?_)))
  exact K 9 0 0 (by omega) (by omega) rfl
