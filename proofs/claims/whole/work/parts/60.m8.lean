/-! the reference: the drive in deed, the image, counts -/
theorem MAll.deed {S : STT} {g : Nat → Int32} {h h' : Nat → Nat → Int32} {el : Nat → Int64} (M : MAll S g h el) {q : DQ} (hh : ∀ k, k ≠ 42 → h' k = h k) (md : MD S.1.1 q h') : MAll (S.1, S.2.1, S.2.2.1, q, S.2.2.2.2) g h' el := by
  obtain ⟨m1, m2, m3, m4, m5, m6, m7, m8⟩ := M
  exact ⟨m1.kept rfl rfl (fun q _ q2 => hh q (by omega)), m2.kept rfl rfl (fun q _ q2 => hh q (by omega)), m3.kept rfl (hh 16 (by decide)), md, m5.kept rfl (hh 43 (by decide)), m6.kept rfl rfl (hh 46 (by decide)) (hh 48 (by decide)), m7.kept (hh 49 (by decide)) (hh 50 (by decide)), m8.kept rfl (fun q _ q2 => hh q (by omega))⟩
theorem QR.put {P : Prop} {fo : Nat} {q : DT} {u : Nat → Int32} {v : Nat → Nat → Int32} (h : QR P fo q u v) {on st : Nat} {ov co : Int32} {f : Nat → Int32} (f0 : f 0 = u 30) (f1 : f 1 = u 31) (f2 : f 2 = u 32) (f3 : f 3 = u 33) (f4 : f 4 = u 34) (f5 : f 5 = u 35) (f6 : f 6 = if on = 0 then -2 else nI st) (f7 : f 7 = ov) (f8 : f 8 = co) : deedV (on, st, fo, q, ov, co) f := by
  obtain ⟨q0, q1, q2, q3, q4, q5, -⟩ := h
  exact ⟨f0.trans q0, f1.trans q1, f2.trans q2, f3.trans q3, f4.trans q4, f5.trans q5, f6, f7, f8⟩
set_option maxRecDepth 100000 in
set_option maxHeartbeats 4000000 in
theorem m_layDeed {l : Launch} {D : va_G} {tc tt ad : Nat → Nat} {g : Nat → Int32} {h : Nat → Nat → Int32} {el : Nat → Int64} {u : Nat → Int32} {v : Nat → Nat → Int32} {sf : Nat → Int64} {q : DQ} (hd : deedV q (h 42)) : Ct l yX11_layDeed cX11_layDeed 1 none 1 D tc tt [.ref (ad 0)] (hm ad tc g h el u v sf) (PV fun w => ∃ u', w = hm ad tc g h el u' v sf ∧ QR False q.2.2.1 q.2.2.2.1 u' v ∧ KU u u') := by
  refine Ct.of (by decide +kernel) (Nat.le_of_ble_eq_true rfl) ?_
  intro p e R s m args below meth c A C hr hlk
  refine E_aload_n C dX11_layDeed_0 0 rfl (E_aload_n C dX11_layDeed_1 0 rfl (mg_11_42 C dX11_layDeed_2 f_X11_87 (E_iconst (v := 0) C dX11_layDeed_5 ic_0 (ma_24 C dX11_layDeed_6 (vinN (k := 0) (by decide)) (mp_11_30 C dX11_layDeed_7 fw_X11_237 ?_)))))
  refine E_aload_n C dX11_layDeed_10 0 rfl (E_aload_n C dX11_layDeed_11 0 rfl (mg_11_42 C dX11_layDeed_12 f_X11_87 (E_iconst (v := 1) C dX11_layDeed_15 ic_1 (ma_24 C dX11_layDeed_16 (vinN (k := 1) (by decide)) (mp_11_31 C dX11_layDeed_17 fw_X11_240 ?_)))))
  refine E_aload_n C dX11_layDeed_20 0 rfl (E_aload_n C dX11_layDeed_21 0 rfl (mg_11_42 C dX11_layDeed_22 f_X11_87 (E_iconst (v := 2) C dX11_layDeed_25 ic_2 (ma_24 C dX11_layDeed_26 (vinN (k := 2) (by decide)) (mp_11_32 C dX11_layDeed_27 fw_X11_243 ?_)))))
  refine E_aload_n C dX11_layDeed_30 0 rfl (E_aload_n C dX11_layDeed_31 0 rfl (mg_11_42 C dX11_layDeed_32 f_X11_87 (E_iconst (v := 3) C dX11_layDeed_35 ic_3 (ma_24 C dX11_layDeed_36 (vinN (k := 3) (by decide)) (mp_11_33 C dX11_layDeed_37 fw_X11_246 ?_)))))
  refine E_aload_n C dX11_layDeed_40 0 rfl (E_aload_n C dX11_layDeed_41 0 rfl (mg_11_42 C dX11_layDeed_42 f_X11_87 (E_iconst (v := 4) C dX11_layDeed_45 ic_4 (ma_24 C dX11_layDeed_46 (vinN (k := 4) (by decide)) (mp_11_34 C dX11_layDeed_47 fw_X11_249 ?_)))))
  refine E_aload_n C dX11_layDeed_50 0 rfl (E_aload_n C dX11_layDeed_51 0 rfl (mg_11_42 C dX11_layDeed_52 f_X11_87 (E_iconst (v := 5) C dX11_layDeed_55 ic_5 (ma_24 C dX11_layDeed_56 (vinN (k := 5) (by decide)) (mp_11_35 C dX11_layDeed_57 fw_X11_252 ?_)))))
  refine E_vretV C hr hlk dX11_layDeed_60 ?_
  obtain ⟨d0, d1, d2, d3, d4, d5, -⟩ := hd
  exact ⟨_, rfl, ⟨d0, d1, d2, d3, d4, d5, fun q => q.elim⟩, fun k z => (vun (by omega)).trans ((vun (by omega)).trans ((vun (by omega)).trans ((vun (by omega)).trans ((vun (by omega)).trans (vun (by omega))))))⟩
set_option maxRecDepth 100000 in
set_option maxHeartbeats 4000000 in
theorem m_takeDeed {l : Launch} {D : va_G} {tc tt ad : Nat → Nat} {g : Nat → Int32} {h : Nat → Nat → Int32} {el : Nat → Int64} {u : Nat → Int32} {v : Nat → Nat → Int32} {sf : Nat → Int64} : Ct l yX11_takeDeed cX11_takeDeed 1 none 1 D tc tt [.ref (ad 0)] (hm ad tc g h el u v sf) (PV fun w => ∃ h', w = hm ad tc g h' el u v sf ∧ (∀ k, k ≠ 42 → h' k = h k) ∧ h' 42 0 = u 30 ∧ h' 42 1 = u 31 ∧ h' 42 2 = u 32 ∧ h' 42 3 = u 33 ∧ h' 42 4 = u 34 ∧ h' 42 5 = u 35 ∧ h' 42 6 = h 42 6 ∧ h' 42 7 = h 42 7 ∧ h' 42 8 = h 42 8) := by
  refine Ct.of (by decide +kernel) (Nat.le_of_ble_eq_true rfl) ?_
  intro p e R s m args below meth c A C hr hlk
  refine E_aload_n C dX11_takeDeed_0 0 rfl (mg_11_42 C dX11_takeDeed_1 f_X11_87 (E_iconst (v := 0) C dX11_takeDeed_4 ic_0 (E_aload_n C dX11_takeDeed_5 0 rfl (mg_11_30 C dX11_takeDeed_6 f_X11_237 (ms_24 C dX11_takeDeed_9 (vinN (k := 0) (by decide)) ?_)))))
  refine E_aload_n C dX11_takeDeed_10 0 rfl (mg_11_42 C dX11_takeDeed_11 f_X11_87 (E_iconst (v := 1) C dX11_takeDeed_14 ic_1 (E_aload_n C dX11_takeDeed_15 0 rfl (mg_11_31 C dX11_takeDeed_16 f_X11_240 (ms_24 C dX11_takeDeed_19 (vinN (k := 1) (by decide)) ?_)))))
  refine E_aload_n C dX11_takeDeed_20 0 rfl (mg_11_42 C dX11_takeDeed_21 f_X11_87 (E_iconst (v := 2) C dX11_takeDeed_24 ic_2 (E_aload_n C dX11_takeDeed_25 0 rfl (mg_11_32 C dX11_takeDeed_26 f_X11_243 (ms_24 C dX11_takeDeed_29 (vinN (k := 2) (by decide)) ?_)))))
  refine E_aload_n C dX11_takeDeed_30 0 rfl (mg_11_42 C dX11_takeDeed_31 f_X11_87 (E_iconst (v := 3) C dX11_takeDeed_34 ic_3 (E_aload_n C dX11_takeDeed_35 0 rfl (mg_11_33 C dX11_takeDeed_36 f_X11_246 (ms_24 C dX11_takeDeed_39 (vinN (k := 3) (by decide)) ?_)))))
  refine E_aload_n C dX11_takeDeed_40 0 rfl (mg_11_42 C dX11_takeDeed_41 f_X11_87 (E_iconst (v := 4) C dX11_takeDeed_44 ic_4 (E_aload_n C dX11_takeDeed_45 0 rfl (mg_11_34 C dX11_takeDeed_46 f_X11_249 (ms_24 C dX11_takeDeed_49 (vinN (k := 4) (by decide)) ?_)))))
  refine E_aload_n C dX11_takeDeed_50 0 rfl (mg_11_42 C dX11_takeDeed_51 f_X11_87 (E_iconst (v := 5) C dX11_takeDeed_54 ic_5 (E_aload_n C dX11_takeDeed_55 0 rfl (mg_11_35 C dX11_takeDeed_56 f_X11_252 (ms_24 C dX11_takeDeed_59 (vinN (k := 5) (by decide)) ?_)))))
  refine E_vretV C hr hlk dX11_takeDeed_60 ?_
  exact ⟨_, rfl, fun k z => (vun z).trans ((vun z).trans ((vun z).trans ((vun z).trans ((vun z).trans (vun z))))), rfl, rfl, rfl, rfl, rfl, rfl, rfl, rfl, rfl⟩
set_option maxRecDepth 100000 in
set_option maxHeartbeats 4000000 in
theorem q_lock {l : Launch} {D : va_G} {tc tt ad : Nat → Nat} {S : STT} {w0 : va_W} (hM : MR ad tc S w0) (seed : Int32) : Ct l yX11_lock cX11_lock 2 (some .int) 4 D tc tt [.ref (ad 0), .int seed] (w0) (PI fun r w => r = aLock S seed ∧ MR ad tc (nLock S seed) w) := by
  obtain ⟨g, h, el, u, v, sf, rfl, M⟩ := hM
  have hA := M.1
  have hn := M.1.1
  have hn8 := M.1.2.1
  have hML := M.2.2.2.2.2.2.2
  have hB := hA.2.2.2.2.1
  obtain ⟨hd, hm1, hm2, hm3, hm4, hm5⟩ := M.2.2.2.1
  obtain ⟨d0, d1, d2, d3, d4, d5, d6, d7, d8⟩ := hd
  have hp256 := p256 hn8
  by_cases hcase : S.2.2.2.1.1 = 0
  ·
    have hdn : drw S.1.2.1 seed S.1.1 < 2 ^ S.1.1 := drw_lt S.1.1 hn8
    refine Ct.of (by decide +kernel) (Nat.le_of_ble_eq_true rfl) ?_
    intro p e R s m args below meth c A C hr hlk
    refine E_aload_n C dX11_lock_0 0 rfl (mg_11_42 C dX11_lock_1 f_X11_87 (E_bipush (v := 6) C dX11_lock_4 bp_6 (ma_24 C dX11_lock_6 (vinN (k := 6) (by decide)) ?_)))
    refine Ev.seti (show _ = (-2 : Int32) from d6.trans (if_pos hcase)) ?_
    refine E_if_lt C 13 dX11_lock_7 (by decide) (fun c7 => ?_) (fun c7 => ?_)
    ·
      refine E_aload_n C dX11_lock_13 0 rfl (E_iload_n C dX11_lock_14 1 rfl (mp_11_41 C dX11_lock_15 fw_X11_335 (E_aload_n C dX11_lock_18 0 rfl (E_aload_n C dX11_lock_19 0 rfl (E_callVI C dX11_lock_20 mv_X11_339 0 _ (m_drawSet hA (z0 := seed) rfl) rfl rfl rfl (by decide) (Nat.le_of_ble_eq_true rfl) ?_)))))
      rintro _ _ ⟨rfl, u2, rfl, hz2, hu2⟩
      refine E_callVV C dX11_lock_23 mv_X11_277 0 _ (m_begin False (drw S.1.2.1 seed S.1.1)) rfl rfl rfl (by decide) (Nat.le_of_ble_eq_true rfl) ?_
      rintro _ ⟨u3, rfl, hq, ku⟩
      refine E_aload_n C dX11_lock_26 0 rfl (E_callVV C dX11_lock_27 mv_X11_342 0 _ (m_takeDeed) rfl rfl rfl (by decide) (Nat.le_of_ble_eq_true rfl) ?_)
      rintro _ ⟨h', rfl, hh, t0, t1, t2, t3, t4, t5, t6, t7, t8⟩
      refine E_aload_n C dX11_lock_30 0 rfl (mg_11_42 C dX11_lock_31 f_X11_87 (E_bipush (v := 6) C dX11_lock_34 bp_6 (E_iconst (v := 0) C dX11_lock_36 ic_0 (ms_24 C dX11_lock_37 (vinN (k := 6) (by decide)) (E_aload_n C dX11_lock_38 0 rfl ?_)))))
      refine mg_11_42 C dX11_lock_39 f_X11_87 (E_iconst (v := 0) C dX11_lock_42 ic_0 (ma_24 C dX11_lock_43 (vinN (k := 0) (by decide)) ?_))
      refine Ev.seti (show _ = nI (drw S.1.2.1 seed S.1.1) from t0.trans hq.1) ?_
      refine E_callSI C dX11_lock_44 ms_X11_318 _ (m_bitsOf (drw S.1.2.1 seed S.1.1) (by omega)) rfl rfl (by decide) (Nat.le_of_ble_eq_true rfl) ?_
      rintro _ _ ⟨rfl, rfl⟩
      refine E_iretI C hr hlk dX11_lock_47 ?_
      have hnx : nLock S seed = (S.1, S.2.1, S.2.2.1, (1, 0, drw S.1.2.1 seed S.1.1, (0, 0, 0, [], 0, 0), S.2.2.2.1.2.2.2.2), S.2.2.2.2) := if_pos hcase
      rw [hnx]
      refine ⟨(if_pos hcase).symm, ⟨g, _, el, _, _, sf, rfl, M.deed (fun k z => (vun z).trans (hh k z)) ⟨hq.put (on := 1) (st := 0) t0 t1 t2 t3 t4 t5 rfl (t7.trans d7) (t8.trans d8), Nat.le_refl _, Nat.zero_le _, hdn, Nat.two_pow_pos _, (⟨by decide, by decide, by decide⟩ : DI (0, 0, 0, [], 0, 0))⟩⟩⟩
    ·
      exact absurd (by decide) c7
  ·
    refine Ct.of (by decide +kernel) (Nat.le_of_ble_eq_true rfl) ?_
    intro p e R s m args below meth c A C hr hlk
    refine E_aload_n C dX11_lock_0 0 rfl (mg_11_42 C dX11_lock_1 f_X11_87 (E_bipush (v := 6) C dX11_lock_4 bp_6 (ma_24 C dX11_lock_6 (vinN (k := 6) (by decide)) ?_)))
    refine Ev.seti (show _ = nI S.2.2.2.1.2.1 from d6.trans (if_neg hcase)) ?_
    refine E_if_lt C 13 dX11_lock_7 (by decide) (fun c7 => ?_) (fun c7 => ?_)
    ·
      exact absurd c7 (nI_pos (by omega))
    ·
      refine E_bipush (v := -5) C dX11_lock_10 bp_m5 (E_iretI C hr hlk dX11_lock_12 ?_)
      have hnx : nLock S seed = S := if_neg hcase
      rw [hnx]
      exact ⟨(if_neg hcase).symm, ⟨g, h, el, u, v, sf, rfl, M⟩⟩
set_option maxRecDepth 100000 in
set_option maxHeartbeats 4000000 in
theorem q_on {l : Launch} {D : va_G} {tc tt ad : Nat → Nat} {S : STT} {w0 : va_W} (hM : MR ad tc S w0)  : Ct l yX11_on cX11_on 1 (some .int) 8 D tc tt [.ref (ad 0)] (w0) (PI fun r w => r = aOn S ∧ MR ad tc (nOn S) w) := by
  obtain ⟨g, h, el, u, v, sf, rfl, M⟩ := hM
  have hA := M.1
  have hn := M.1.1
  have hn8 := M.1.2.1
  have hML := M.2.2.2.2.2.2.2
  have hB := hA.2.2.2.2.1
  obtain ⟨hd, hm1, hm2, hm3, hm4, hm5⟩ := M.2.2.2.1
  obtain ⟨d0, d1, d2, d3, d4, d5, d6, d7, d8⟩ := hd
  have hp256 := p256 hn8
  by_cases hcase : S.2.2.2.1.1 = 0
  ·
    refine Ct.of (by decide +kernel) (Nat.le_of_ble_eq_true rfl) ?_
    intro p e R s m args below meth c A C hr hlk
    refine E_aload_n C dX11_on_0 0 rfl (mg_11_42 C dX11_on_1 f_X11_87 (E_bipush (v := 6) C dX11_on_4 bp_6 (ma_24 C dX11_on_6 (vinN (k := 6) (by decide)) ?_)))
    refine Ev.seti (show _ = (-2 : Int32) from d6.trans (if_pos hcase)) ?_
    refine E_if_ge C 13 dX11_on_7 (by decide) (fun c7 => ?_) (fun c7 => ?_)
    ·
      exact absurd c7 (by decide)
    ·
      refine E_bipush (v := -5) C dX11_on_10 bp_m5 (E_iretI C hr hlk dX11_on_12 ?_)
      have hnx : nOn S = S := if_pos hcase
      rw [hnx]
      exact ⟨(if_pos hcase).symm, ⟨g, h, el, u, v, sf, rfl, M⟩⟩
  ·
    by_cases h6 : S.2.2.2.1.2.1 < 6
    ·
      refine Ct.of (by decide +kernel) (Nat.le_of_ble_eq_true rfl) ?_
      intro p e R s m args below meth c A C hr hlk
      refine E_aload_n C dX11_on_0 0 rfl (mg_11_42 C dX11_on_1 f_X11_87 (E_bipush (v := 6) C dX11_on_4 bp_6 (ma_24 C dX11_on_6 (vinN (k := 6) (by decide)) ?_)))
      refine Ev.seti (show _ = nI S.2.2.2.1.2.1 from d6.trans (if_neg hcase)) ?_
      refine E_if_ge C 13 dX11_on_7 (by decide) (fun c7 => ?_) (fun c7 => ?_)
      ·
        refine E_aload_n C dX11_on_13 0 rfl (E_callVV C dX11_on_14 mv_X11_345 0 _ (m_layDeed (q := S.2.2.2.1) ⟨d0, d1, d2, d3, d4, d5, d6, d7, d8⟩) rfl rfl rfl (by decide) (Nat.le_of_ble_eq_true rfl) ?_)
        rintro _ ⟨u2, rfl, hq, ku⟩
        refine E_aload_n C dX11_on_17 0 rfl (E_aload_n C dX11_on_18 0 rfl (mg_11_42 C dX11_on_19 f_X11_87 (E_bipush (v := 6) C dX11_on_22 bp_6 (ma_24 C dX11_on_24 (vinN (k := 6) (by decide)) ?_))))
        refine Ev.seti (show _ = nI S.2.2.2.1.2.1 from d6.trans (if_neg hcase)) ?_
        refine E_callVV C dX11_on_25 mv_X11_281 0 _ (m_stopAt hA hML (hd := S.2.2.2.1.2.2.2.1.1) (le := S.2.2.2.1.2.2.2.1.2.1) (mi := S.2.2.2.1.2.2.2.1.2.2.1) (gl := S.2.2.2.1.2.2.2.1.2.2.2.1) (tu := S.2.2.2.1.2.2.2.1.2.2.2.2.1) (la := S.2.2.2.1.2.2.2.1.2.2.2.2.2) hm3 hq hm5 hm4 hm2) rfl rfl rfl (by decide) (Nat.le_of_ble_eq_true rfl) ?_
        rintro _ ⟨u3, v3, rfl, hq3, ku3, kv3⟩
        have hq3 : QR False S.2.2.2.1.2.2.1 (stopAt S.1.2.1 S.1.2.2 S.2.2.2.1.2.1 S.2.2.2.1.2.2.1 S.2.2.2.1.2.2.2.1) u3 v3 := hq3
        refine E_aload_n C dX11_on_28 0 rfl (mg_11_42 C dX11_on_29 f_X11_87 (E_bipush (v := 6) C dX11_on_32 bp_6 (ma_24 C dX11_on_34 (vinN (k := 6) (by decide)) ?_)))
        refine Ev.seti (show _ = nI S.2.2.2.1.2.1 from d6.trans (if_neg hcase)) ?_
        refine E_bipush (v := 6) C dX11_on_35 bp_6 (E_icmp_ge C 61 dX11_on_37 (by decide) (fun c37 => ?_) (fun c37 => ?_))
        ·
          exact absurd (show nI 6 ≤ nI S.2.2.2.1.2.1 from c37) (nI_ge h6 (by decide))
        ·
          refine E_aload_n C dX11_on_40 0 rfl (E_dup C dX11_on_41 rfl (mg_11_33 C dX11_on_42 f_X11_246 ?_))
          refine Ev.seti hq3.2.2.2.1 ?_
          refine E_aload_n C dX11_on_45 0 rfl (mg_11_8 C dX11_on_46 f_X11_30 (E_aload_n C dX11_on_49 0 rfl (mg_11_42 C dX11_on_50 f_X11_87 (E_bipush (v := 6) C dX11_on_53 bp_6 (ma_24 C dX11_on_55 (vinN (k := 6) (by decide)) ?_)))))
          refine Ev.seti (show _ = nI S.2.2.2.1.2.1 from d6.trans (if_neg hcase)) ?_
          refine ma_7 C dX11_on_56 (vinN h6) ?_
          rw [nI_clamp (show S.2.2.2.1.2.1 < 2 ^ 31 by omega)]
          refine Ev.seti (show h 8 S.2.2.2.1.2.1 = nI (S.1.2.1 6 S.2.2.2.1.2.1) from hA.2.2.1 6 _ (by decide) (show S.2.2.2.1.2.1 < 6 from h6)) ?_
          refine E_iadd C dX11_on_57 ?_
          refine Ev.seti (nI_add _ _) ?_
          refine mp_11_33 C dX11_on_58 fw_X11_246 ?_
          have hq4 : QR False S.2.2.2.1.2.2.1 (onStop S.1.2.1 S.1.2.2 S.2.2.2.1.2.1 S.2.2.2.1.2.2.1 S.2.2.2.1.2.2.2.1) (va_up u3 33 (nI ((stopAt S.1.2.1 S.1.2.2 S.2.2.2.1.2.1 S.2.2.2.1.2.2.1 S.2.2.2.1.2.2.2.1).2.2.1 + S.1.2.1 6 S.2.2.2.1.2.1))) v3 := by
            show QR False _ (addWay _ _ _) _ _
            unfold addWay
            rw [if_pos h6]
            obtain ⟨q0, q1, q2, q3, q4, q5, q6⟩ := hq3
            exact ⟨q0, q1, q2, rfl, q4, q5, q6⟩
          refine E_aload_n C dX11_on_61 0 rfl (E_callVV C dX11_on_62 mv_X11_342 0 _ (m_takeDeed) rfl rfl rfl (by decide) (Nat.le_of_ble_eq_true rfl) ?_)
          rintro _ ⟨h', rfl, hh, t0, t1, t2, t3, t4, t5, t6, t7, t8⟩
          refine E_aload_n C dX11_on_65 0 rfl (mg_11_42 C dX11_on_66 f_X11_87 (E_bipush (v := 6) C dX11_on_69 bp_6 (ma_24 C dX11_on_71 (vinN (k := 6) (by decide)) ?_)))
          refine Ev.seti (show _ = nI S.2.2.2.1.2.1 from t6.trans (d6.trans (if_neg hcase))) ?_
          refine E_bipush (v := 6) C dX11_on_72 bp_6 (E_icmp_ge C 96 dX11_on_74 (by decide) (fun c74 => ?_) (fun c74 => ?_))
          ·
            exact absurd (show nI 6 ≤ nI S.2.2.2.1.2.1 from c74) (nI_ge h6 (by decide))
          ·
            refine E_aload_n C dX11_on_77 0 rfl (mg_11_42 C dX11_on_78 f_X11_87 (E_bipush (v := 6) C dX11_on_81 bp_6 (E_dup2 C dX11_on_83 rfl rfl (ma_24 C dX11_on_84 (vinN (k := 6) (by decide)) ?_))))
            refine Ev.seti (show _ = nI S.2.2.2.1.2.1 from t6.trans (d6.trans (if_neg hcase))) ?_
            refine E_iconst (v := 1) C dX11_on_85 ic_1 (E_iadd C dX11_on_86 ?_)
            refine Ev.seti (nI_1 _) ?_
            refine ms_24 C dX11_on_87 (vinN (k := 6) (by decide)) (E_aload_n C dX11_on_88 0 rfl (mg_11_42 C dX11_on_89 f_X11_87 (E_bipush (v := 6) C dX11_on_92 bp_6 (ma_24 C dX11_on_94 (vinN (k := 6) (by decide)) ?_))))
            refine Ev.seti (show _ = nI (S.2.2.2.1.2.1 + 1) from rfl) ?_
            refine E_iretI C hr hlk dX11_on_95 ?_
            have hnx : nOn S = _ := (if_neg hcase).trans (if_pos h6)
            rw [hnx]
            exact ⟨((if_neg hcase).trans (if_pos h6)).symm, ⟨g, _, el, _, _, sf, rfl, M.deed (fun k z => (vun z).trans (hh k z)) ⟨hq4.put (on := 1) (st := S.2.2.2.1.2.1 + 1) t0 t1 t2 t3 t4 t5 rfl (t7.trans d7) (t8.trans d8), Nat.le_refl _, h6, hm3, onStop_le hm3 hm4, onStop_inv hB (show S.2.2.2.1.2.2.1 < 256 by omega) hm5⟩⟩⟩
      ·
        exact absurd (nI_pos' (by omega)) c7
    ·
      refine Ct.of (by decide +kernel) (Nat.le_of_ble_eq_true rfl) ?_
      intro p e R s m args below meth c A C hr hlk
      refine E_aload_n C dX11_on_0 0 rfl (mg_11_42 C dX11_on_1 f_X11_87 (E_bipush (v := 6) C dX11_on_4 bp_6 (ma_24 C dX11_on_6 (vinN (k := 6) (by decide)) ?_)))
      refine Ev.seti (show _ = nI S.2.2.2.1.2.1 from d6.trans (if_neg hcase)) ?_
      refine E_if_ge C 13 dX11_on_7 (by decide) (fun c7 => ?_) (fun c7 => ?_)
      ·
        refine E_aload_n C dX11_on_13 0 rfl (E_callVV C dX11_on_14 mv_X11_345 0 _ (m_layDeed (q := S.2.2.2.1) ⟨d0, d1, d2, d3, d4, d5, d6, d7, d8⟩) rfl rfl rfl (by decide) (Nat.le_of_ble_eq_true rfl) ?_)
        rintro _ ⟨u2, rfl, hq, ku⟩
        refine E_aload_n C dX11_on_17 0 rfl (E_aload_n C dX11_on_18 0 rfl (mg_11_42 C dX11_on_19 f_X11_87 (E_bipush (v := 6) C dX11_on_22 bp_6 (ma_24 C dX11_on_24 (vinN (k := 6) (by decide)) ?_))))
        refine Ev.seti (show _ = nI S.2.2.2.1.2.1 from d6.trans (if_neg hcase)) ?_
        refine E_callVV C dX11_on_25 mv_X11_281 0 _ (m_stopAt hA hML (hd := S.2.2.2.1.2.2.2.1.1) (le := S.2.2.2.1.2.2.2.1.2.1) (mi := S.2.2.2.1.2.2.2.1.2.2.1) (gl := S.2.2.2.1.2.2.2.1.2.2.2.1) (tu := S.2.2.2.1.2.2.2.1.2.2.2.2.1) (la := S.2.2.2.1.2.2.2.1.2.2.2.2.2) hm3 hq hm5 hm4 hm2) rfl rfl rfl (by decide) (Nat.le_of_ble_eq_true rfl) ?_
        rintro _ ⟨u3, v3, rfl, hq3, ku3, kv3⟩
        have hq3 : QR False S.2.2.2.1.2.2.1 (stopAt S.1.2.1 S.1.2.2 S.2.2.2.1.2.1 S.2.2.2.1.2.2.1 S.2.2.2.1.2.2.2.1) u3 v3 := hq3
        refine E_aload_n C dX11_on_28 0 rfl (mg_11_42 C dX11_on_29 f_X11_87 (E_bipush (v := 6) C dX11_on_32 bp_6 (ma_24 C dX11_on_34 (vinN (k := 6) (by decide)) ?_)))
        refine Ev.seti (show _ = nI S.2.2.2.1.2.1 from d6.trans (if_neg hcase)) ?_
        refine E_bipush (v := 6) C dX11_on_35 bp_6 (E_icmp_ge C 61 dX11_on_37 (by decide) (fun c37 => ?_) (fun c37 => ?_))
        ·
          have hq4 : QR False S.2.2.2.1.2.2.1 (onStop S.1.2.1 S.1.2.2 S.2.2.2.1.2.1 S.2.2.2.1.2.2.1 S.2.2.2.1.2.2.2.1) u3 v3 := by
            show QR False _ (addWay _ _ _) _ _
            unfold addWay
            rw [if_neg h6]
            exact hq3
          refine E_aload_n C dX11_on_61 0 rfl (E_callVV C dX11_on_62 mv_X11_342 0 _ (m_takeDeed) rfl rfl rfl (by decide) (Nat.le_of_ble_eq_true rfl) ?_)
          rintro _ ⟨h', rfl, hh, t0, t1, t2, t3, t4, t5, t6, t7, t8⟩
          refine E_aload_n C dX11_on_65 0 rfl (mg_11_42 C dX11_on_66 f_X11_87 (E_bipush (v := 6) C dX11_on_69 bp_6 (ma_24 C dX11_on_71 (vinN (k := 6) (by decide)) ?_)))
          refine Ev.seti (show _ = nI S.2.2.2.1.2.1 from t6.trans (d6.trans (if_neg hcase))) ?_
          refine E_bipush (v := 6) C dX11_on_72 bp_6 (E_icmp_ge C 96 dX11_on_74 (by decide) (fun c74 => ?_) (fun c74 => ?_))
          ·
            refine E_aload_n C dX11_on_96 0 rfl (mg_11_42 C dX11_on_97 f_X11_87 (E_bipush (v := 6) C dX11_on_100 bp_6 (E_bipush (v := -2) C dX11_on_102 bp_m2 (ms_24 C dX11_on_104 (vinN (k := 6) (by decide)) (E_aload_n C dX11_on_105 0 rfl ?_)))))
            refine mg_11_42 C dX11_on_106 f_X11_87 (E_bipush (v := 7) C dX11_on_109 bp_7 (E_dup2 C dX11_on_111 rfl rfl (ma_24 C dX11_on_112 (vinN (k := 7) (by decide)) ?_)))
            refine Ev.seti (show _ = S.2.2.2.1.2.2.2.2.1 from t7.trans d7) ?_
            refine E_iconst (v := 1) C dX11_on_113 ic_1 (E_iadd C dX11_on_114 (ms_24 C dX11_on_115 (vinN (k := 7) (by decide)) (E_aload_n C dX11_on_116 0 rfl (mg_11_42 C dX11_on_117 f_X11_87 (E_bipush (v := 8) C dX11_on_120 bp_8 ?_)))))
            refine E_dup2 C dX11_on_122 rfl rfl (ma_24 C dX11_on_123 (vinN (k := 8) (by decide)) ?_)
            refine Ev.seti (show _ = S.2.2.2.1.2.2.2.2.2 from t8.trans d8) ?_
            refine E_aload_n C dX11_on_124 0 rfl (E_callVI C dX11_on_125 mv_X11_290 0 _ (m_costNow (g := g) (h := va_up (va_up h' 42 (upd (h' 42) 6 (-2))) 42 (upd (upd (h' 42) 6 (-2)) 7 (S.2.2.2.1.2.2.2.2.1 + 1))) (hA.kept rfl rfl (fun q q1 q2 => (vun (by omega)).trans ((vun (by omega)).trans (hh q (by omega))))) hq4 (onStop_le hm3 hm4)) rfl rfl rfl (by decide) (Nat.le_of_ble_eq_true rfl) ?_)
            rintro _ _ ⟨rfl, rfl⟩
            refine E_iadd C dX11_on_128 (ms_24 C dX11_on_129 (vinN (k := 8) (by decide)) (E_bipush (v := -2) C dX11_on_130 bp_m2 (E_iretI C hr hlk dX11_on_132 ?_)))
            have hnx : nOn S = _ := (if_neg hcase).trans (if_neg h6)
            rw [hnx]
            exact ⟨((if_neg hcase).trans (if_neg h6)).symm, ⟨g, _, el, _, _, sf, rfl, M.deed (fun k z => (vun z).trans ((vun z).trans ((vun z).trans (hh k z)))) ⟨hq4.put (on := 0) (st := S.2.2.2.1.2.1) t0 t1 t2 t3 t4 t5 rfl rfl rfl, Nat.zero_le _, hm2, hm3, onStop_le hm3 hm4, onStop_inv hB (show S.2.2.2.1.2.2.1 < 256 by omega) hm5⟩⟩⟩
          ·
            exact absurd (show nI 6 ≤ nI S.2.2.2.1.2.1 from nI_le (by omega) (by omega)) c74
        ·
          exact absurd (show nI 6 ≤ nI S.2.2.2.1.2.1 from nI_le (by omega) (by omega)) c37
      ·
        exact absurd (nI_pos' (by omega)) c7
set_option maxRecDepth 100000 in
set_option maxHeartbeats 4000000 in
theorem q_led {l : Launch} {D : va_G} {tc tt ad : Nat → Nat} {S : STT} {w0 : va_W} (hM : MR ad tc S w0) (what : Int32) : Ct l yX11_led cX11_led 2 (some .int) 1 D tc tt [.ref (ad 0), .int what] (w0) (PI fun r w => r = aLed S what ∧ MR ad tc S w) := by
  obtain ⟨g, h, el, u, v, sf, rfl, M⟩ := hM
  have hA := M.1
  have hn := M.1.1
  have hn8 := M.1.2.1
  have hML := M.2.2.2.2.2.2.2
  have hB := hA.2.2.2.2.1
  obtain ⟨hd, hm1, hm2, hm3, hm4, hm5⟩ := M.2.2.2.1
  obtain ⟨d0, d1, d2, d3, d4, d5, d6, d7, d8⟩ := hd
  have hp256 := p256 hn8
  refine Ct.of (by decide +kernel) (Nat.le_of_ble_eq_true rfl) ?_
  intro p e R s m args below meth c A C hr hlk
  refine E_iload_n C dX11_led_0 1 rfl ?_
  by_cases e1 : what = 0
  ·
    subst e1
    refine E_tableIn C 44 dX11_led_1 (by decide) (by decide) rfl (by decide) (E_aload_n C dX11_led_44 0 rfl (mg_11_42 C dX11_led_45 f_X11_87 (E_iconst (v := 3) C dX11_led_48 ic_3 (ma_24 C dX11_led_49 (vinN (k := 3) (by decide)) (E_iretI C hr hlk dX11_led_50 ?_)))))
    exact ⟨(show _ = _ from d3).trans (show _ = aLed S 0 from (if_pos rfl).symm), ⟨g, h, el, u, v, sf, rfl, M⟩⟩
  by_cases e1_2 : what = 1
  ·
    subst e1_2
    refine E_tableIn C 51 dX11_led_1 (by decide) (by decide) rfl (by decide) (E_aload_n C dX11_led_51 0 rfl (mg_11_42 C dX11_led_52 f_X11_87 (E_iconst (v := 4) C dX11_led_55 ic_4 (ma_24 C dX11_led_56 (vinN (k := 4) (by decide)) (E_iretI C hr hlk dX11_led_57 ?_)))))
    exact ⟨(show _ = _ from d4).trans (show _ = aLed S 1 from ((if_neg (by decide)).trans (if_pos rfl)).symm), ⟨g, h, el, u, v, sf, rfl, M⟩⟩
  by_cases e1_3 : what = 2
  ·
    subst e1_3
    refine E_tableIn C 58 dX11_led_1 (by decide) (by decide) rfl (by decide) (E_aload_n C dX11_led_58 0 rfl (mg_11_42 C dX11_led_59 f_X11_87 (E_iconst (v := 5) C dX11_led_62 ic_5 (ma_24 C dX11_led_63 (vinN (k := 5) (by decide)) (E_iretI C hr hlk dX11_led_64 ?_)))))
    exact ⟨(show _ = _ from d5).trans (show _ = aLed S 2 from ((if_neg (by decide)).trans ((if_neg (by decide)).trans (if_pos rfl))).symm), ⟨g, h, el, u, v, sf, rfl, M⟩⟩
  by_cases e1_4 : what = 3
  ·
    subst e1_4
    refine E_tableIn C 65 dX11_led_1 (by decide) (by decide) rfl (by decide) (E_aload_n C dX11_led_65 0 rfl (mg_11_42 C dX11_led_66 f_X11_87 (E_iconst (v := 2) C dX11_led_69 ic_2 (ma_24 C dX11_led_70 (vinN (k := 2) (by decide)) (E_iretI C hr hlk dX11_led_71 ?_)))))
    exact ⟨(show _ = _ from d2).trans (show _ = aLed S 3 from ((if_neg (by decide)).trans ((if_neg (by decide)).trans ((if_neg (by decide)).trans (if_pos rfl)))).symm), ⟨g, h, el, u, v, sf, rfl, M⟩⟩
  by_cases e1_5 : what = 4
  ·
    subst e1_5
    refine E_tableIn C 72 dX11_led_1 (by decide) (by decide) rfl (by decide) (E_aload_n C dX11_led_72 0 rfl (mg_11_42 C dX11_led_73 f_X11_87 (E_bipush (v := 7) C dX11_led_76 bp_7 (ma_24 C dX11_led_78 (vinN (k := 7) (by decide)) (E_iretI C hr hlk dX11_led_79 ?_)))))
    exact ⟨(show _ = _ from d7).trans (show _ = aLed S 4 from ((if_neg (by decide)).trans ((if_neg (by decide)).trans ((if_neg (by decide)).trans ((if_neg (by decide)).trans (if_pos rfl))))).symm), ⟨g, h, el, u, v, sf, rfl, M⟩⟩
  by_cases e1_6 : what = 5
  ·
    subst e1_6
    refine E_tableIn C 80 dX11_led_1 (by decide) (by decide) rfl (by decide) (E_aload_n C dX11_led_80 0 rfl (mg_11_42 C dX11_led_81 f_X11_87 (E_bipush (v := 8) C dX11_led_84 bp_8 (ma_24 C dX11_led_86 (vinN (k := 8) (by decide)) (E_iretI C hr hlk dX11_led_87 ?_)))))
    exact ⟨(show _ = _ from d8).trans (show _ = aLed S 5 from ((if_neg (by decide)).trans ((if_neg (by decide)).trans ((if_neg (by decide)).trans ((if_neg (by decide)).trans ((if_neg (by decide)).trans (if_pos rfl)))))).symm), ⟨g, h, el, u, v, sf, rfl, M⟩⟩
  by_cases e1_7 : what = 6
  ·
    subst e1_7
    refine E_tableIn C 88 dX11_led_1 (by decide) (by decide) rfl (by decide) (E_aload_n C dX11_led_88 0 rfl (mg_11_42 C dX11_led_89 f_X11_87 (E_bipush (v := 6) C dX11_led_92 bp_6 (ma_24 C dX11_led_94 (vinN (k := 6) (by decide)) (E_iretI C hr hlk dX11_led_95 ?_)))))
    exact ⟨(show _ = _ from d6).trans (show _ = aLed S 6 from ((if_neg (by decide)).trans ((if_neg (by decide)).trans ((if_neg (by decide)).trans ((if_neg (by decide)).trans ((if_neg (by decide)).trans ((if_neg (by decide)).trans (if_pos rfl))))))).symm), ⟨g, h, el, u, v, sf, rfl, M⟩⟩
  have oe1 := ntoi (n := 0) rfl e1
  have oe1_2 := ntoi (n := 1) rfl e1_2
  have oe1_3 := ntoi (n := 2) rfl e1_3
  have oe1_4 := ntoi (n := 3) rfl e1_4
  have oe1_5 := ntoi (n := 4) rfl e1_5
  have oe1_6 := ntoi (n := 5) rfl e1_6
  have oe1_7 := ntoi (n := 6) rfl e1_7
  refine E_tableOut C 96 dX11_led_1 (by omega) (by decide) (E_iconst (v := -1) C dX11_led_96 ic_m1 (E_iretI C hr hlk dX11_led_97 ?_))
  exact ⟨((if_neg e1).trans ((if_neg e1_2).trans ((if_neg e1_3).trans ((if_neg e1_4).trans ((if_neg e1_5).trans ((if_neg e1_6).trans (if_neg e1_7))))))).symm, ⟨g, h, el, u, v, sf, rfl, M⟩⟩
set_option maxRecDepth 100000 in
set_option maxHeartbeats 4000000 in
theorem q_image {l : Launch} {D : va_G} {tc tt ad : Nat → Nat} {S : STT} {w0 : va_W} (hM : MR ad tc S w0)  : Ct l yX11_image cX11_image 2 (some .int) 1 D tc tt [.ref (ad 0)] (w0) (PI fun r w => r = aImage S ∧ MR ad tc (nImage S) w) := by
  obtain ⟨g, h, el, u, v, sf, rfl, M⟩ := hM
  have hA := M.1
  have hn := M.1.1
  have hn8 := M.1.2.1
  have hML := M.2.2.2.2.2.2.2
  have hB := hA.2.2.2.2.1
  obtain ⟨hd, hm1, hm2, hm3, hm4, hm5⟩ := M.2.2.2.1
  obtain ⟨d0, d1, d2, d3, d4, d5, d6, d7, d8⟩ := hd
  have hp256 := p256 hn8
  refine Ct.of (by decide +kernel) (Nat.le_of_ble_eq_true rfl) ?_
  intro p e R s m args below meth c A C hr hlk
  refine E_aload_n C dX11_image_0 0 rfl (E_iconst (v := 1) C dX11_image_1 ic_1 (mp_11_44 C dX11_image_2 fw_X11_348 rfl rfl (E_iconst (v := 0) C dX11_image_5 ic_0 (E_istore_n C dX11_image_6 (by decide) ?_))))
  have K : ∀ (mm i : Nat) (h1 : Nat → Nat → Int32), i ≤ 9 → 9 < i + mm → (∀ k, k ≠ 43 → h1 k = h k) → (∀ j, j < i → h1 43 j = h 42 j) → Ev p l e R s m args below meth c 0 0 (EQ below (PI fun r w => r = aImage S ∧ MR ad tc (nImage S) w) args s D A) D A 2 (hm ad tc (va_up g 44 1) h1 el u v sf) 7 [(1, .int (nI i)), (0, .ref (ad 0))] [] := by
    intro mm
    induction mm with
    | zero => intro i h1 h2 h3; exfalso; omega
    | succ mm ih =>
      intro i h1 hi1 hi2 hk hc
      refine E_iload_n C dX11_image_7 0 rfl (E_bipush (v := 9) C dX11_image_8 bp_9 (E_icmp_ge C 31 dX11_image_10 (by decide) (fun c10 => ?_) (fun c10 => ?_)))
      ·
        have hi : i = 9 := by
          rcases Nat.lt_or_ge i 9 with q | q
          · exact absurd (show nI 9 ≤ nI i from c10) (nI_ge q (by omega))
          · omega
        subst hi
        refine E_aload_n C dX11_image_31 1 rfl (mg_11_42 C dX11_image_32 f_X11_87 (E_iconst (v := 3) C dX11_image_35 ic_3 (ma_24 C dX11_image_36 (vinN (k := 3) (by decide)) (E_iretI C hr hlk dX11_image_37 ?_))))
        refine ⟨(show h1 42 3 = aImage S from (congrArg (fun f => f 3) (hk 42 (by decide))).trans d3), ⟨_, h1, el, u, v, sf, rfl, ?_⟩⟩
        obtain ⟨m1, m2, m3, m4, m5, m6, m7, m8⟩ := M
        refine ⟨m1.kept rfl rfl (fun q _ q2 => hk q (by omega)), m2.kept rfl rfl (fun q _ q2 => hk q (by omega)), m3.kept rfl (hk 16 (by decide)), m4.kept (hk 42 (by decide)), ⟨rfl, Nat.le_refl _, fun _ => ⟨⟨(hc 0 (by decide)).trans d0, (hc 1 (by decide)).trans d1, (hc 2 (by decide)).trans d2, (hc 3 (by decide)).trans d3, (hc 4 (by decide)).trans d4, (hc 5 (by decide)).trans d5, (hc 6 (by decide)).trans d6, (hc 7 (by decide)).trans d7, (hc 8 (by decide)).trans d8⟩, hm1, hm2, hm3, hm4, hm5⟩⟩, m6.kept rfl rfl (hk 46 (by decide)) (hk 48 (by decide)), m7.kept (hk 49 (by decide)) (hk 50 (by decide)), m8.kept rfl (fun q _ q2 => hk q (by omega))⟩
      ·
        have hi : i < 9 := by
          rcases Nat.lt_or_ge i 9 with q | q
          · exact q
          · exact absurd (show nI 9 ≤ nI i from nI_le q (by omega)) c10
        refine E_aload_n C dX11_image_13 1 rfl (mg_11_43 C dX11_image_14 f_X11_90 (E_iload_n C dX11_image_17 0 rfl (E_aload_n C dX11_image_18 1 rfl (mg_11_42 C dX11_image_19 f_X11_87 (E_iload_n C dX11_image_22 0 rfl ?_)))))
        refine ma_24 C dX11_image_23 (vinN (by omega)) ?_
        rw [nI_clamp (show i < 2 ^ 31 by omega)]
        refine Ev.seti (show h1 42 i = h 42 i from congrArg (fun f => f i) (hk 42 (by decide))) ?_
        refine ms_25 C dX11_image_24 (vinN (by omega)) ?_
        rw [nI_clamp (show i < 2 ^ 31 by omega)]
        refine E_iinc C dX11_image_25 0 rfl (nI_1 i) (by decide) (E_goto C 7 dX11_image_28 (by decide) ?_)
        exact ih (i + 1) _ (by omega) (by omega) (fun k z => (vun z).trans (hk k z)) (fun j hj => by
          show upd (h1 43) i (h 42 i) j = h 42 j
          by_cases e : j = i
          · rw [e]; exact if_pos rfl
          · exact (if_neg e).trans (hc j (by omega)))
  exact Ev.sub [0, 1] rfl (K 10 0 h (by decide) (by decide) (fun _ _ => rfl) (fun j hj => by omega))
set_option maxRecDepth 100000 in
set_option maxHeartbeats 4000000 in
theorem q_back {l : Launch} {D : va_G} {tc tt ad : Nat → Nat} {S : STT} {w0 : va_W} (hM : MR ad tc S w0)  : Ct l yX11_back cX11_back 2 (some .int) 1 D tc tt [.ref (ad 0)] (w0) (PI fun r w => r = aBack S ∧ MR ad tc (nBack S) w) := by
  obtain ⟨g, h, el, u, v, sf, rfl, M⟩ := hM
  have hA := M.1
  have hn := M.1.1
  have hn8 := M.1.2.1
  by_cases hcase : S.2.2.2.2.1.1 = 0
  ·
    refine Ct.of (by decide +kernel) (Nat.le_of_ble_eq_true rfl) ?_
    intro p e R s m args below meth c A C hr hlk
    refine E_aload_n C dX11_back_0 0 rfl (mg_11_44 C dX11_back_1 f_X11_348 ?_)
    refine Ev.seti (show g 44 = 0 by rw [M.2.2.2.2.1.1, hcase]; rfl) ?_
    refine E_if_ne C 10 dX11_back_4 (by decide) (fun c4 => ?_) (fun c4 => ?_)
    ·
      exact absurd rfl c4
    ·
      refine E_bipush (v := -5) C dX11_back_7 bp_m5 (E_iretI C hr hlk dX11_back_9 ?_)
      have hnx : nBack S = S := if_pos hcase
      rw [hnx]
      exact ⟨(if_pos hcase).symm, ⟨g, h, el, u, v, sf, rfl, M⟩⟩
  ·
    have hone : S.2.2.2.2.1.1 = 1 := by have := M.2.2.2.2.1.2.1; omega
    obtain ⟨⟨e0, e1, e2, e3, e4, e5, e6, e7, e8⟩, hmi⟩ := M.2.2.2.2.1.2.2 hone
    refine Ct.of (by decide +kernel) (Nat.le_of_ble_eq_true rfl) ?_
    intro p e R s m args below meth c A C hr hlk
    refine E_aload_n C dX11_back_0 0 rfl (mg_11_44 C dX11_back_1 f_X11_348 ?_)
    refine Ev.seti (show g 44 = 1 by rw [M.2.2.2.2.1.1, hone]; rfl) ?_
    refine E_if_ne C 10 dX11_back_4 (by decide) (fun c4 => ?_) (fun c4 => ?_)
    ·
      refine E_iconst (v := 0) C dX11_back_10 ic_0 (E_istore_n C dX11_back_11 (by decide) ?_)
      have K : ∀ (mm i : Nat) (h1 : Nat → Nat → Int32), i ≤ 9 → 9 < i + mm → (∀ k, k ≠ 42 → h1 k = h k) → (∀ j, j < i → h1 42 j = h 43 j) → Ev p l e R s m args below meth c 0 0 (EQ below (PI fun r w => r = aBack S ∧ MR ad tc (nBack S) w) args s D A) D A 2 (hm ad tc g h1 el u v sf) 12 [(1, .int (nI i)), (0, .ref (ad 0))] [] := by
        intro mm
        induction mm with
        | zero => intro i h1 h2 h3; exfalso; omega
        | succ mm ih =>
          intro i h1 hi1 hi2 hk hc
          refine E_iload_n C dX11_back_12 0 rfl (E_bipush (v := 9) C dX11_back_13 bp_9 (E_icmp_ge C 36 dX11_back_15 (by decide) (fun c15 => ?_) (fun c15 => ?_)))
          ·
            have hi : i = 9 := by
              rcases Nat.lt_or_ge i 9 with q | q
              · exact absurd (show nI 9 ≤ nI i from c15) (nI_ge q (by omega))
              · omega
            subst hi
            refine E_aload_n C dX11_back_36 1 rfl (mg_11_42 C dX11_back_37 f_X11_87 (E_iconst (v := 3) C dX11_back_40 ic_3 (ma_24 C dX11_back_41 (vinN (k := 3) (by decide)) (E_iretI C hr hlk dX11_back_42 ?_))))
            have hnx : nBack S = (S.1, S.2.1, S.2.2.1, S.2.2.2.2.1.2, S.2.2.2.2) := if_neg hcase
            rw [hnx]
            refine ⟨(show h1 42 3 = aBack S from ((hc 3 (by decide)).trans e3).trans (if_neg hcase).symm), ⟨g, h1, el, u, v, sf, rfl, M.deed hk ⟨⟨(hc 0 (by decide)).trans e0, (hc 1 (by decide)).trans e1, (hc 2 (by decide)).trans e2, (hc 3 (by decide)).trans e3, (hc 4 (by decide)).trans e4, (hc 5 (by decide)).trans e5, (hc 6 (by decide)).trans e6, (hc 7 (by decide)).trans e7, (hc 8 (by decide)).trans e8⟩, hmi⟩⟩⟩
          ·
            have hi : i < 9 := by
              rcases Nat.lt_or_ge i 9 with q | q
              · exact q
              · exact absurd (show nI 9 ≤ nI i from nI_le q (by omega)) c15
            refine E_aload_n C dX11_back_18 1 rfl (mg_11_42 C dX11_back_19 f_X11_87 (E_iload_n C dX11_back_22 0 rfl (E_aload_n C dX11_back_23 1 rfl (mg_11_43 C dX11_back_24 f_X11_90 (E_iload_n C dX11_back_27 0 rfl ?_)))))
            refine ma_25 C dX11_back_28 (vinN (by omega)) ?_
            rw [nI_clamp (show i < 2 ^ 31 by omega)]
            refine Ev.seti (show h1 43 i = h 43 i from congrArg (fun f => f i) (hk 43 (by decide))) ?_
            refine ms_24 C dX11_back_29 (vinN (by omega)) ?_
            rw [nI_clamp (show i < 2 ^ 31 by omega)]
            refine E_iinc C dX11_back_30 0 rfl (nI_1 i) (by decide) (E_goto C 12 dX11_back_33 (by decide) ?_)
            exact ih (i + 1) _ (by omega) (by omega) (fun k z => (vun z).trans (hk k z)) (fun j hj => by
              show upd (h1 42) i (h 43 i) j = h 43 j
              by_cases e : j = i
              · rw [e]; exact if_pos rfl
              · exact (if_neg e).trans (hc j (by omega)))
      exact Ev.sub [0, 1] rfl (K 10 0 h (by decide) (by decide) (fun _ _ => rfl) (fun j hj => by omega))
    ·
      exact absurd c4 (by decide)
set_option maxRecDepth 100000 in
set_option maxHeartbeats 4000000 in
theorem q_count {l : Launch} {D : va_G} {tc tt ad : Nat → Nat} {S : STT} {w0 : va_W} (hM : MR ad tc S w0) (what : Int32) : Ct l yX11_count cX11_count 2 (some .int) 1 D tc tt [.ref (ad 0), .int what] (w0) (PI fun r w => r = aCount S what ∧ MR ad tc S w) := by
  obtain ⟨g, h, el, u, v, sf, rfl, M⟩ := hM
  have hA := M.1
  have hn := M.1.1
  have hn8 := M.1.2.1
  refine Ct.of (by decide +kernel) (Nat.le_of_ble_eq_true rfl) ?_
  intro p e R s m args below meth c A C hr hlk
  refine E_iload_n C dX11_count_0 1 rfl ?_
  by_cases e1 : what = 0
  ·
    subst e1
    refine E_tableIn C 36 dX11_count_1 (by decide) (by decide) rfl (by decide) (E_aload_n C dX11_count_36 0 rfl (mg_11_1 C dX11_count_37 f_X11_115 (E_iretI C hr hlk dX11_count_40 ?_)))
    exact ⟨(show _ = _ from hn).trans (show _ = aCount S 0 from (if_pos rfl).symm), ⟨g, h, el, u, v, sf, rfl, M⟩⟩
  by_cases e1_2 : what = 1
  ·
    subst e1_2
    refine E_tableIn C 41 dX11_count_1 (by decide) (by decide) rfl (by decide) (E_aload_n C dX11_count_41 0 rfl (mg_11_17 C dX11_count_42 f_X11_163 (E_iretI C hr hlk dX11_count_45 ?_)))
    exact ⟨(show _ = _ from M.2.2.1.1).trans (show _ = aCount S 1 from ((if_neg (by decide)).trans (if_pos rfl)).symm), ⟨g, h, el, u, v, sf, rfl, M⟩⟩
  by_cases e1_3 : what = 2
  ·
    subst e1_3
    refine E_tableIn C 46 dX11_count_1 (by decide) (by decide) rfl (by decide) (E_aload_n C dX11_count_46 0 rfl (mg_11_10 C dX11_count_47 f_X11_142 (E_iretI C hr hlk dX11_count_50 ?_)))
    exact ⟨(show _ = _ from M.2.1.1).trans (show _ = aCount S 2 from ((if_neg (by decide)).trans ((if_neg (by decide)).trans (if_pos rfl))).symm), ⟨g, h, el, u, v, sf, rfl, M⟩⟩
  by_cases e1_4 : what = 3
  ·
    subst e1_4
    refine E_tableIn C 51 dX11_count_1 (by decide) (by decide) rfl (by decide) (E_aload_n C dX11_count_51 0 rfl (mg_11_45 C dX11_count_52 f_X11_351 (E_iretI C hr hlk dX11_count_55 ?_)))
    exact ⟨(show _ = _ from M.2.2.2.2.2.1.1).trans (show _ = aCount S 3 from ((if_neg (by decide)).trans ((if_neg (by decide)).trans ((if_neg (by decide)).trans (if_pos rfl)))).symm), ⟨g, h, el, u, v, sf, rfl, M⟩⟩
  by_cases e1_5 : what = 4
  ·
    subst e1_5
    refine E_tableIn C 56 dX11_count_1 (by decide) (by decide) rfl (by decide) (E_aload_n C dX11_count_56 0 rfl (mg_11_47 C dX11_count_57 f_X11_354 (E_iretI C hr hlk dX11_count_60 ?_)))
    exact ⟨(show _ = _ from M.2.2.2.2.2.1.2.2.2.1).trans (show _ = aCount S 4 from ((if_neg (by decide)).trans ((if_neg (by decide)).trans ((if_neg (by decide)).trans ((if_neg (by decide)).trans (if_pos rfl))))).symm), ⟨g, h, el, u, v, sf, rfl, M⟩⟩
  have oe1 := ntoi (n := 0) rfl e1
  have oe1_2 := ntoi (n := 1) rfl e1_2
  have oe1_3 := ntoi (n := 2) rfl e1_3
  have oe1_4 := ntoi (n := 3) rfl e1_4
  have oe1_5 := ntoi (n := 4) rfl e1_5
  refine E_tableOut C 61 dX11_count_1 (by omega) (by decide) (E_iconst (v := -1) C dX11_count_61 ic_m1 (E_iretI C hr hlk dX11_count_62 ?_))
  exact ⟨((if_neg e1).trans ((if_neg e1_2).trans ((if_neg e1_3).trans ((if_neg e1_4).trans (if_neg e1_5))))).symm, ⟨g, h, el, u, v, sf, rfl, M⟩⟩
