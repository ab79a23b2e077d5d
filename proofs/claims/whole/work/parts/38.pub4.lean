/-! the class's own methods: changes -/
set_option maxRecDepth 100000 in
set_option maxHeartbeats 4000000 in
theorem p_mend {l : Launch} {D : va_G} {tc tt ad : Nat → Nat} {S : STT} {kk0 : Nat} {w0 : va_W} (hX : XR ad tc S kk0 w0) (hk600 : kk0 ≤ 600) (number what x0 : Int32) : Ct l yX10_mend cX10_mend 5 (some .int) 5 D tc tt [.ref (ad 0), .int number, .int what, .int x0] w0 (PI fun r w => r = aMend S number what x0 ∧ XR ad tc (nMend S number what x0) (kk0 + 1) w) := by
  obtain ⟨W, g, h, Dv, Sh, u, v, z, y, rfl, X⟩ := hX
  have hn := X.1.1
  have hn8 := X.1.2.1
  have hN := X.1.2.2.1
  have hB := X.1.2.2.2.1
  have hL := X.1.2.2.2.2.2
  have hdn := X.2.1.1
  have hkt := X.2.1.2.1
  have hdk := X.2.1.2.2.1
  have hk40 := X.2.1.2.2.2.1
  have hcr := X.2.1.2.2.2.2.1
  have hcv := X.2.1.2.2.2.2.2
  have hz4 := X.1.2.2.2.2.1
  refine Ct.of (by decide +kernel) (Nat.le_of_ble_eq_true rfl) ?_
  intro p e R s m args below meth c A C hr hlk
  refine E_aload_n C dX10_mend_0 0 rfl (xg_10_0 C dX10_mend_1 f_X10_10 (E_iload_n C dX10_mend_4 2 rfl (E_iload_n C dX10_mend_5 1 rfl (E_callVI C dX10_mend_6 mv_X10_98 1 _ (s_has hn hn8 what number) rfl rfl rfl (by decide) (Nat.le_of_ble_eq_true rfl) ?_))))
  rintro _ _ ⟨rfl, rfl⟩
  refine E_if_eq C 20 dX10_mend_9 (by decide) (fun c9 => ?_) (fun c9 => ?_)
  ·
    have hhb : ¬ hasB S.1.1 what number = true := fun q => by rw [if_pos q] at c9; cases c9
    refine E_iconst (v := -1) C dX10_mend_20 ic_m1 (E_iretI C hr hlk dX10_mend_21 ?_)
    refine ⟨(if_neg fun q => hhb q.1).symm, ?_⟩
    have hnx : nMend S number what x0 = S := if_neg (fun q => hhb q.1)
    rw [hnx]
    exact ⟨W, g, h, Dv, Sh, u, v, z, y, rfl, X.same⟩
  ·
    have hhb : hasB S.1.1 what number = true := Classical.byContradiction fun q => c9 (if_neg q)
    refine E_iload_n C dX10_mend_12 2 rfl (E_iload_n C dX10_mend_13 3 rfl (E_callSI C dX10_mend_14 ms_X10_74 _ (s_may what x0) rfl rfl (by decide) (Nat.le_of_ble_eq_true rfl) ?_))
    rintro _ _ ⟨rfl, rfl⟩
    refine E_if_ne C 22 dX10_mend_17 (by decide) (fun c17 => ?_) (fun c17 => ?_)
    ·
      have hmb : mayB what x0 = true := Classical.byContradiction fun q => c17 (if_neg q)
      obtain ⟨kw, jw, hk8, hjl, hj8, hkc, hjc, rfl, rfl⟩ := hasB_ex hn8 hhb
      obtain ⟨xn, hxm, hx31, rfl⟩ := may_ex hk8 hmb
      have ha : aMend S (nI jw) (nI kw) (nI xn) = _ := if_pos ⟨hhb, hmb⟩
      rw [hkc, hjc] at ha
      have hNb : S.1.2.1 kw jw ≤ maxN kw := hB kw jw hk8 hj8
      have hN31 : S.1.2.1 kw jw < 2 ^ 31 := Nat.lt_of_le_of_lt hNb (by rcases (show kw = 0 ∨ kw = 1 ∨ kw = 2 ∨ kw = 3 ∨ kw = 4 ∨ kw = 5 ∨ kw = 6 ∨ kw = 7 by omega) with rfl | rfl | rfl | rfl | rfl | rfl | rfl | rfl <;> decide)
      refine E_aload_n C dX10_mend_22 0 rfl (xg_10_0 C dX10_mend_23 f_X10_10 (E_iload_n C dX10_mend_26 2 rfl (E_iload_n C dX10_mend_27 1 rfl (E_callVI C dX10_mend_28 mv_X10_101 1 _ (s_value kw jw hk8 hj8) rfl rfl rfl (by decide) (Nat.le_of_ble_eq_true rfl) ?_))))
      rintro _ _ ⟨rfl, rfl⟩
      refine Ev.seti (hN kw jw hk8 hj8) ?_
      refine E_istore C dX10_mend_31 (by decide) (E_iload C dX10_mend_33 0 rfl (E_iload_n C dX10_mend_35 4 rfl (E_icmp_eq C 61 dX10_mend_36 (by decide) (fun c36 => ?_) (fun c36 => ?_))))
      ·
        have hnx : nMend S (nI jw) (nI kw) (nI xn) = S := if_neg (fun q => q.2.2 (by rw [hkc, hjc]; exact c36))
        refine E_iload C dX10_mend_61 0 rfl (E_iretI C hr hlk dX10_mend_63 ?_)
        rw [hnx]
        exact ⟨ha.symm, ⟨W, g, h, Dv, Sh, u, v, z, y, rfl, X.same⟩⟩
      ·
        have hnx : nMend S (nI jw) (nI kw) (nI xn) = mendS S kw jw xn := (if_pos ⟨hhb, hmb, fun q => c36 (by rw [hkc, hjc] at q; exact q)⟩).trans (by rw [hkc, hjc, nI_clamp hx31])
        refine E_aload_n C dX10_mend_39 1 rfl (xg_10_1 C dX10_mend_40 f_X10_19 (E_iload_n C dX10_mend_43 3 rfl (E_iload_n C dX10_mend_44 2 rfl (E_iload C dX10_mend_45 0 rfl (E_iload_n C dX10_mend_47 4 rfl ?_)))))
        refine E_callVV C dX10_mend_48 mv_X10_105 16 _ (s_note hdn hdk hk40 hcr kw jw (S.1.2.1 kw jw) xn) rfl rfl rfl (by decide) (Nat.le_of_ble_eq_true rfl) ?_
        rintro _ ⟨h1, rfl, hf1, hcr1⟩
        refine E_aload_n C dX10_mend_51 1 rfl (xg_10_0 C dX10_mend_52 f_X10_10 (E_iload_n C dX10_mend_55 3 rfl (E_iload_n C dX10_mend_56 2 rfl (E_iload_n C dX10_mend_57 4 rfl (E_callVV C dX10_mend_58 mv_X10_109 1 _ (s_become kw jw (nI xn) hk8 hj8) rfl rfl rfl (by decide) (Nat.le_of_ble_eq_true rfl) ?_)))))
        rintro _ rfl
        refine E_iload C dX10_mend_61 0 rfl (E_iretI C hr hlk dX10_mend_63 ?_)
        rw [hnx]
        refine ⟨ha.symm, ⟨_, _, h1, Dv, Sh, u, v, z, y, rfl, ?_⟩⟩
        have ni : ∀ k, 5 < k → ¬ isC k := fun k hk q => by unfold isC at q; omega
        have ni0 : ∀ k, k < 2 → ¬ isC k := fun k hk q => by unfold isC at q; omega
        refine X.nums (fun q hq => ?_) (hf1 6 (ni 6 (by decide))) (hf1 7 (ni 7 (by decide))) (hf1 8 (ni 8 (by decide))) ⟨?_, hn8, hN.up kw jw xn, hB.up hxm, Z4.up hz4 hjl, hL.kept rfl (hf1 0 (ni0 0 (by decide))) (hf1 1 (ni0 1 (by decide)))⟩ ⟨rfl, rfl, Nat.le_refl _, noteC_len hdk hk40, hcr1, hcv.note hk8 hjl hNb hxm⟩ (XC.bump X.2.2.2.2.2.2.2 (m := 1) (by decide) (by decide) (fun ed he => ?_))
        · exact (if_neg (by omega)).trans ((if_neg (by omega)).trans (if_neg (by omega)))
        · exact hn
        · show g 1 + 1 = nI (ed + 1)
          rw [he]
          exact nI_1 ed
    ·
      have hmb : ¬ mayB what x0 = true := fun q => by rw [if_pos q] at c17; cases c17
      refine E_iconst (v := -1) C dX10_mend_20 ic_m1 (E_iretI C hr hlk dX10_mend_21 ?_)
      refine ⟨(if_neg fun q => hmb q.2).symm, ?_⟩
      have hnx : nMend S number what x0 = S := if_neg (fun q => hmb q.2.1)
      rw [hnx]
      exact ⟨W, g, h, Dv, Sh, u, v, z, y, rfl, X.same⟩
set_option maxRecDepth 100000 in
set_option maxHeartbeats 4000000 in
theorem p_undo {l : Launch} {D : va_G} {tc tt ad : Nat → Nat} {S : STT} {kk0 : Nat} {w0 : va_W} (hX : XR ad tc S kk0 w0) (hk600 : kk0 ≤ 600)  : Ct l yX10_undo cX10_undo 1 (some .int) 4 D tc tt [.ref (ad 0)] w0 (PI fun r w => r = aUndo S ∧ XR ad tc (nUndo S) (kk0 + 1) w) := by
  obtain ⟨W, g, h, Dv, Sh, u, v, z, y, rfl, X⟩ := hX
  have hn := X.1.1
  have hn8 := X.1.2.1
  have hN := X.1.2.2.1
  have hB := X.1.2.2.2.1
  have hL := X.1.2.2.2.2.2
  have hdn := X.2.1.1
  have hkt := X.2.1.2.1
  have hdk := X.2.1.2.2.1
  have hk40 := X.2.1.2.2.2.1
  have hcr := X.2.1.2.2.2.2.1
  have hcv := X.2.1.2.2.2.2.2
  have hz4 := X.1.2.2.2.2.1
  by_cases hz : S.2.1.2 = 0
  · have ha : aUndo S = -5 := if_pos hz
    refine Ct.of (by decide +kernel) (Nat.le_of_ble_eq_true rfl) ?_
    intro p e R s m args below meth c A C hr hlk
    refine E_aload_n C dX10_undo_0 0 rfl (xg_10_1 C dX10_undo_1 f_X10_19 (E_aload_n C dX10_undo_4 0 rfl (xg_10_0 C dX10_undo_5 f_X10_10 (E_callVI C dX10_undo_8 mv_X10_262 16 _ (s_undo0 (show g 3 = nI 0 by rw [hdn, hz])) rfl rfl rfl (by decide) (Nat.le_of_ble_eq_true rfl) ?_))))
    rintro _ _ ⟨rfl, rfl⟩
    refine E_if_eq C 24 dX10_undo_11 (by decide) (fun c11 => ?_) (fun c11 => ?_)
    ·
      refine E_bipush (v := -5) C dX10_undo_24 bp_m5 (E_iretI C hr hlk dX10_undo_26 ?_)
      have hnx : nUndo S = S := by
        unfold nUndo
        split
        · rw [if_pos hz]
        · rfl
      rw [hnx]
      exact ⟨ha.symm, ⟨W, g, h, Dv, Sh, u, v, z, y, rfl, X.same⟩⟩
    ·
      exact absurd rfl c11
  · have ha : aUndo S = nI (S.2.1.2 - 1) := if_neg hz
    have hcl : S.2.1.2 - 1 < S.2.1.1.length := by omega
    obtain ⟨⟨qa, qb, qx, qy⟩, hq⟩ : ∃ q, S.2.1.1[S.2.1.2 - 1]? = some q := ⟨_, List.getElem?_eq_getElem hcl⟩
    obtain ⟨v1, v2, v3, v4⟩ := hcv _ _ _ _ _ hq
    have hb8 : qb < 8 := by
      unfold lim at v2
      split at v2
      · omega
      · split at v2
        · omega
        · split at v2 <;> omega
    have hnx : nUndo S = ((S.1.1, upN S.1.2.1 qa qb qx, S.1.2.2), (S.2.1.1, S.2.1.2 - 1), S.2.2) := by
      unfold nUndo
      rw [hq]
      exact if_neg hz
    refine Ct.of (by decide +kernel) (Nat.le_of_ble_eq_true rfl) ?_
    intro p e R s m args below meth c A C hr hlk
    refine E_aload_n C dX10_undo_0 0 rfl (xg_10_1 C dX10_undo_1 f_X10_19 (E_aload_n C dX10_undo_4 0 rfl (xg_10_0 C dX10_undo_5 f_X10_10 (E_callVI C dX10_undo_8 mv_X10_262 16 _ (s_undo1 (dn := S.2.1.2 - 1) (show g 3 = nI (S.2.1.2 - 1 + 1) by rw [hdn, Nat.sub_add_cancel (Nat.pos_of_ne_zero hz)]) (by omega) hcr hq v1 hb8) rfl rfl rfl (by decide) (Nat.le_of_ble_eq_true rfl) ?_))))
    rintro _ _ ⟨rfl, rfl⟩
    refine E_if_eq C 24 dX10_undo_11 (by decide) (fun c11 => ?_) (fun c11 => ?_)
    ·
      exact absurd c11 (by decide)
    ·
      refine E_aload_n C dX10_undo_14 0 rfl (xg_10_1 C dX10_undo_15 f_X10_19 (xg_1_4 C dX10_undo_18 f_X10_266 (E_goto C 26 dX10_undo_21 (by decide) (E_iretI C hr hlk dX10_undo_26 ?_))))
      refine ⟨ha.symm, ⟨_, _, h, Dv, Sh, u, v, z, y, rfl, ?_⟩⟩
      rw [hnx]
      refine X.nums (fun q hq => ?_) rfl rfl rfl ⟨hn, hn8, hN.up qa qb qx, hB.up v3, Z4.up hz4 v2, hL.kept rfl rfl rfl⟩ ⟨rfl, hkt, (show S.2.1.2 - 1 ≤ S.2.1.1.length by omega), hk40, hcr, hcv⟩ (XC.bump X.2.2.2.2.2.2.2 (m := 1) (by decide) (by decide) (fun ed he => ?_))
      · exact (if_neg (by omega)).trans (if_neg (by omega))
      · show g 1 + 1 = nI (ed + 1)
        rw [he]
        exact nI_1 ed
set_option maxRecDepth 100000 in
set_option maxHeartbeats 4000000 in
theorem p_redo {l : Launch} {D : va_G} {tc tt ad : Nat → Nat} {S : STT} {kk0 : Nat} {w0 : va_W} (hX : XR ad tc S kk0 w0) (hk600 : kk0 ≤ 600)  : Ct l yX10_redo cX10_redo 1 (some .int) 4 D tc tt [.ref (ad 0)] w0 (PI fun r w => r = aRedo S ∧ XR ad tc (nRedo S) (kk0 + 1) w) := by
  obtain ⟨W, g, h, Dv, Sh, u, v, z, y, rfl, X⟩ := hX
  have hn := X.1.1
  have hn8 := X.1.2.1
  have hN := X.1.2.2.1
  have hB := X.1.2.2.2.1
  have hL := X.1.2.2.2.2.2
  have hdn := X.2.1.1
  have hkt := X.2.1.2.1
  have hdk := X.2.1.2.2.1
  have hk40 := X.2.1.2.2.2.1
  have hcr := X.2.1.2.2.2.2.1
  have hcv := X.2.1.2.2.2.2.2
  have hz4 := X.1.2.2.2.2.1
  by_cases hz : S.2.1.2 = S.2.1.1.length
  · have ha : aRedo S = -5 := if_pos hz
    refine Ct.of (by decide +kernel) (Nat.le_of_ble_eq_true rfl) ?_
    intro p e R s m args below meth c A C hr hlk
    refine E_aload_n C dX10_redo_0 0 rfl (xg_10_1 C dX10_redo_1 f_X10_19 (E_aload_n C dX10_redo_4 0 rfl (xg_10_0 C dX10_redo_5 f_X10_10 (E_callVI C dX10_redo_8 mv_X10_269 16 _ (s_redo0 hdn (show g 4 = nI S.2.1.2 by rw [hkt, hz]) (by omega)) rfl rfl rfl (by decide) (Nat.le_of_ble_eq_true rfl) ?_))))
    rintro _ _ ⟨rfl, rfl⟩
    refine E_if_eq C 32 dX10_redo_11 (by decide) (fun c11 => ?_) (fun c11 => ?_)
    ·
      refine E_bipush (v := -5) C dX10_redo_32 bp_m5 (E_iretI C hr hlk dX10_redo_34 ?_)
      have hnx : nRedo S = S := by
        unfold nRedo
        rw [List.getElem?_eq_none (by omega)]
      rw [hnx]
      exact ⟨ha.symm, ⟨W, g, h, Dv, Sh, u, v, z, y, rfl, X.same⟩⟩
    ·
      exact absurd rfl c11
  · have ha : aRedo S = nI (S.2.1.1.length - (S.2.1.2 + 1)) := if_neg hz
    have hlt : S.2.1.2 < S.2.1.1.length := by omega
    have hcl : S.2.1.2 < S.2.1.1.length := by omega
    obtain ⟨⟨qa, qb, qx, qy⟩, hq⟩ : ∃ q, S.2.1.1[S.2.1.2]? = some q := ⟨_, List.getElem?_eq_getElem hcl⟩
    obtain ⟨v1, v2, v3, v4⟩ := hcv _ _ _ _ _ hq
    have hb8 : qb < 8 := by
      unfold lim at v2
      split at v2
      · omega
      · split at v2
        · omega
        · split at v2 <;> omega
    have hnx : nRedo S = ((S.1.1, upN S.1.2.1 qa qb qy, S.1.2.2), (S.2.1.1, S.2.1.2 + 1), S.2.2) := by
      unfold nRedo
      rw [hq]
    refine Ct.of (by decide +kernel) (Nat.le_of_ble_eq_true rfl) ?_
    intro p e R s m args below meth c A C hr hlk
    refine E_aload_n C dX10_redo_0 0 rfl (xg_10_1 C dX10_redo_1 f_X10_19 (E_aload_n C dX10_redo_4 0 rfl (xg_10_0 C dX10_redo_5 f_X10_10 (E_callVI C dX10_redo_8 mv_X10_269 16 _ (s_redo1 hdn hkt hlt hk40 hcr hq v1 hb8) rfl rfl rfl (by decide) (Nat.le_of_ble_eq_true rfl) ?_))))
    rintro _ _ ⟨rfl, rfl⟩
    refine E_if_eq C 32 dX10_redo_11 (by decide) (fun c11 => ?_) (fun c11 => ?_)
    ·
      exact absurd c11 (by decide)
    ·
      refine E_aload_n C dX10_redo_14 0 rfl (xg_10_1 C dX10_redo_15 f_X10_19 (xg_1_5 C dX10_redo_18 f_X10_272 ?_))
      refine Ev.seti (show _ = nI S.2.1.1.length from hkt) ?_
      refine E_aload_n C dX10_redo_21 0 rfl (xg_10_1 C dX10_redo_22 f_X10_19 (xg_1_4 C dX10_redo_25 f_X10_266 (E_isub C dX10_redo_28 ?_)))
      refine Ev.seti (show nI S.2.1.1.length - nI (S.2.1.2 + 1) = nI (S.2.1.1.length - (S.2.1.2 + 1)) from pk_sub (by omega)) ?_
      refine E_goto C 34 dX10_redo_29 (by decide) (E_iretI C hr hlk dX10_redo_34 ?_)
      refine ⟨ha.symm, ⟨_, _, h, Dv, Sh, u, v, z, y, rfl, ?_⟩⟩
      rw [hnx]
      refine X.nums (fun q hq => ?_) rfl rfl rfl ⟨hn, hn8, hN.up qa qb qy, hB.up v4, Z4.up hz4 v2, hL.kept rfl rfl rfl⟩ ⟨rfl, hkt, (show S.2.1.2 + 1 ≤ S.2.1.1.length by omega), hk40, hcr, hcv⟩ (XC.bump X.2.2.2.2.2.2.2 (m := 1) (by decide) (by decide) (fun ed he => ?_))
      · exact (if_neg (by omega)).trans (if_neg (by omega))
      · show g 1 + 1 = nI (ed + 1)
        rw [he]
        exact nI_1 ed
