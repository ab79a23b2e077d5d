/-! the reference: costs of all drives, means, likelihoods -/
theorem lost_0 (N : Nat → Nat → Nat) (i : Nat) : lostN N 0 0 i = N 1 i := by
  unfold lostN
  rw [Nat.zero_testBit]
  exact Nat.mul_one _
theorem all_0 (i : Nat) : allN 0 i = 12 := by
  unfold allN
  rw [Nat.zero_testBit]
  rfl
theorem belN_0 : ∀ n, belN 0 n = 12 ^ n
  | 0 => rfl
  | n + 1 => by
    show belN 0 n * allN 0 n = _
    rw [belN_0 n, all_0, Nat.pow_succ]
theorem wgt_t {N : Nat → Nat → Nat} {nv li i σ : Nat} (h : σ.testBit i = true) : wgt N nv li (i + 1) σ = wgt N nv li i σ * lostN N nv li i := by
  show wgt N nv li i σ * (if σ.testBit i then lostN N nv li i else allN li i - lostN N nv li i) = _
  rw [if_pos h]
theorem wgt_f {N : Nat → Nat → Nat} {nv li i σ : Nat} (h : ¬ σ.testBit i = true) : wgt N nv li (i + 1) σ = wgt N nv li i σ * (allN li i - lostN N nv li i) := by
  show wgt N nv li i σ * (if σ.testBit i then lostN N nv li i else allN li i - lostN N nv li i) = _
  rw [if_neg h]
theorem p12 {n : Nat} (h : n ≤ 11) : 12 ^ n < 2 ^ 63 := Nat.lt_of_le_of_lt (Nat.pow_le_pow_right (by decide) h) (by decide)
set_option maxRecDepth 100000 in
set_option maxHeartbeats 4000000 in
theorem q_trace {l : Launch} {D : va_G} {tc tt ad : Nat → Nat} {S : STT} {w0 : va_W} (hM : MR ad tc S w0) (i : Int32) : Ct l yX11_trace cX11_trace 2 (some .int) 1 D tc tt [.ref (ad 0), .int i] (w0) (PI fun r w => r = aTrace S i ∧ MR ad tc S w) := by
  obtain ⟨g, h, el, u, v, sf, rfl, M⟩ := hM
  have hA := M.1
  have hn := M.1.1
  have hn8 := M.1.2.1
  have mt := M.2.2.2.2.2.1.2.2.2.1
  have mr := M.2.2.2.2.2.1.2.2.2.2
  refine Ct.of (by decide +kernel) (Nat.le_of_ble_eq_true rfl) ?_
  intro p e R s m args below meth c A C hr hlk
  refine E_iload_n C dX11_trace_0 1 rfl (E_if_lt C 27 dX11_trace_1 (by decide) (fun c1 => ?_) (fun c1 => ?_))
  ·
    refine E_iconst (v := -1) C dX11_trace_27 ic_m1 (E_iretI C hr hlk dX11_trace_28 ?_)
    exact ⟨(if_pos c1).symm, ⟨g, h, el, u, v, sf, rfl, M⟩⟩
  ·
    refine E_iload_n C dX11_trace_4 1 rfl (E_aload_n C dX11_trace_5 0 rfl (mg_11_47 C dX11_trace_6 f_X11_354 (E_icmp_ge C 27 dX11_trace_9 (by decide) (fun c9 => ?_) (fun c9 => ?_))))
    ·
      refine E_iconst (v := -1) C dX11_trace_27 ic_m1 (E_iretI C hr hlk dX11_trace_28 ?_)
      exact ⟨((if_neg c1).trans (if_pos (show S.2.2.2.2.2.1.2.2.1 ≤ i from by rw [← mt]; exact c9))).symm, ⟨g, h, el, u, v, sf, rfl, M⟩⟩
    ·
      refine E_iload_n C dX11_trace_12 1 rfl (E_bipush (v := 24) C dX11_trace_13 bp_24 (E_icmp_ge C 27 dX11_trace_15 (by decide) (fun c15 => ?_) (fun c15 => ?_)))
      ·
        refine E_iconst (v := -1) C dX11_trace_27 ic_m1 (E_iretI C hr hlk dX11_trace_28 ?_)
        exact ⟨((if_neg c1).trans ((if_neg (show ¬ S.2.2.2.2.2.1.2.2.1 ≤ i from by rw [← mt]; exact c9)).trans (if_neg (Int32.not_lt.mpr c15)))).symm, ⟨g, h, el, u, v, sf, rfl, M⟩⟩
      ·
        obtain ⟨j, hj, rfl⟩ := nI_of c1
        refine E_aload_n C dX11_trace_18 0 rfl (mg_11_48 C dX11_trace_19 f_X11_96 (E_iload_n C dX11_trace_22 1 rfl (ma_27 C dX11_trace_23 (vinN ((nI_ltI hj (by decide)).mp (Int32.not_le.mp c15))) ?_)))
        rw [nI_clamp (show j < 2 ^ 31 by omega)]
        refine E_goto C 28 dX11_trace_24 (by decide) (E_iretI C hr hlk dX11_trace_28 ?_)
        refine ⟨?_, ⟨g, h, el, u, v, sf, rfl, M⟩⟩
        have ha : aTrace S (nI j) = _ := (if_neg c1).trans ((if_neg (show ¬ S.2.2.2.2.2.1.2.2.1 ≤ nI j from by rw [← mt]; exact c9)).trans (if_pos (Int32.not_le.mp c15)))
        rw [nI_clamp hj] at ha
        exact (congrArg (fun f => f j) mr).trans ha.symm
set_option maxRecDepth 100000 in
set_option maxHeartbeats 4000000 in
theorem m_findCosts {l : Launch} {D : va_G} {tc tt ad : Nat → Nat} {g : Nat → Int32} {h : Nat → Nat → Int32} {el : Nat → Int64} {u : Nat → Int32} {v : Nat → Nat → Int32} {sf : Nat → Int64} {n : Nat} {N : Nat → Nat → Nat} (hA : MA n N g h) {L : Nat → Nat → Nat → Nat → Nat → Nat} (hL : MLw g h L) : Ct l yX11_findCosts cX11_findCosts 2 none 8 D tc tt [.ref (ad 0)] (hm ad tc g h el u v sf) (PV fun w => ∃ u2 v2, w = hm ad tc g h el u2 v2 sf ∧ (∀ q, q < 2 ^ n → v2 40 q = nI (costT N (whole N L q))) ∧ KU u u2) := by
  refine Ct.of (by decide +kernel) (Nat.le_of_ble_eq_true rfl) ?_
  intro p e R s m args below meth c A C hr hlk
  have hn := hA.1
  have hn8 := hA.2.1
  have hp := p256 hn8
  have hp1 := Nat.two_pow_pos n
  have K : ∀ (mm i : Nat) (u1 : Nat → Int32) (v1 : Nat → Nat → Int32), i ≤ 2 ^ n → 2 ^ n < i + mm → (∀ q, q < i → v1 40 q = nI (costT N (whole N L q))) → KU u u1 → Ev p l e R s m args below meth c 0 0 (EQ below (PV fun w => ∃ u2 v2, w = hm ad tc g h el u2 v2 sf ∧ (∀ q, q < 2 ^ n → v2 40 q = nI (costT N (whole N L q))) ∧ KU u u2) args s D A) D A 2 (hm ad tc g h el u1 v1 sf) 2 [(1, .int (nI i)), (0, .ref (ad 0))] [] := by
    intro mm
    induction mm with
    | zero =>
      intro i u1 v1 hi1 hi2 hc ku
      exfalso; omega
    | succ mm ih =>
      intro i u1 v1 hi1 hi2 hc ku
      refine E_iload_n C dX11_findCosts_2 0 rfl (E_aload_n C dX11_findCosts_3 1 rfl (E_callVI C dX11_findCosts_4 mv_X11_262 0 _ (m_allThings hn hn8) rfl rfl rfl (by decide) (Nat.le_of_ble_eq_true rfl) ?_))
      rintro _ _ ⟨rfl, rfl⟩
      refine E_icmp_gt C 31 dX11_findCosts_7 (by decide) (fun c7 => ?_) (fun c7 => ?_)
      ·
        have hi : i = 2 ^ n := by
          rcases Nat.lt_or_ge i (2 ^ n) with q | q
          · exact absurd (show nI (2 ^ n - 1) < nI i from c7) (nI_nlt (by omega) (by omega))
          · omega
        refine E_vretV C hr hlk dX11_findCosts_31 ?_
        rw [← hi]
        exact ⟨_, _, rfl, hc, ku⟩
      ·
        have hi : i < 2 ^ n := by
          rcases Nat.lt_or_ge i (2 ^ n) with q | q
          · exact q
          · exact absurd (show nI (2 ^ n - 1) < nI i from nI_lt (by omega) (by omega)) c7
        refine E_aload_n C dX11_findCosts_10 1 rfl (E_iload_n C dX11_findCosts_11 0 rfl (E_callVV C dX11_findCosts_12 mv_X11_287 0 _ (m_goDrive hA hL hi) rfl rfl rfl (by decide) (Nat.le_of_ble_eq_true rfl) ?_))
        rintro _ ⟨u2, v2, rfl, hq, ku2, kv2⟩
        refine E_aload_n C dX11_findCosts_15 1 rfl (mg_11_40 C dX11_findCosts_16 f_X11_84 (E_iload_n C dX11_findCosts_19 0 rfl (E_aload_n C dX11_findCosts_20 1 rfl (E_callVI C dX11_findCosts_21 mv_X11_290 0 _ (m_costNow hA hq (goStops_le hi 7)) rfl rfl rfl (by decide) (Nat.le_of_ble_eq_true rfl) ?_))))
        rintro _ _ ⟨rfl, rfl⟩
        refine ms_23 C dX11_findCosts_24 (vinN (by omega)) ?_
        rw [nI_clamp (show i < 2 ^ 31 by omega)]
        refine E_iinc C dX11_findCosts_25 0 rfl (nI_1 i) (by decide) (E_goto C 2 dX11_findCosts_28 (by decide) ?_)
        exact ih (i + 1) _ _ (by omega) (by omega) (fun q hq2 => by
          show upd (v2 40) i (nI (costT N (whole N L i))) q = _
          by_cases e : q = i
          · rw [e]; exact if_pos rfl
          · exact (if_neg e).trans ((congrArg (fun f => f q) (kv2 40 (by omega))).trans (hc q (by omega)))) (ku.t ku2)
  refine E_iconst (v := 0) C dX11_findCosts_0 ic_0 (E_istore_n C dX11_findCosts_1 (by decide) ?_)
  exact K (2 ^ n + 1) 0 u v (by omega) (by omega) (fun q hq => by omega) (KU.r u)
theorem deaF_c {co : Nat → Nat} {k : Nat} (h : co (deaF co k) < co (k + 2)) : deaF co (k + 1) = k + 2 := if_pos h
theorem deaF_d {co : Nat → Nat} {k : Nat} (h : ¬ co (deaF co k) < co (k + 2)) : deaF co (k + 1) = deaF co k := if_neg h
set_option maxRecDepth 100000 in
set_option maxHeartbeats 4000000 in
theorem q_first {l : Launch} {D : va_G} {tc tt ad : Nat → Nat} {S : STT} {w0 : va_W} (hM : MR ad tc S w0) (what : Int32) : Ct l yX11_first cX11_first 4 (some .int) 9 D tc tt [.ref (ad 0), .int what] (w0) (PI fun r w => r = aFirst S what ∧ MR ad tc S w) := by
  obtain ⟨g, h, el, u, v, sf, rfl, M⟩ := hM
  have hA := M.1
  have hn := M.1.1
  have hn8 := M.1.2.1
  have hML := M.2.2.2.2.2.2.2
  have hB := hA.2.2.2.2.1
  have hp1 := Nat.two_pow_pos S.1.1
  have hp256 := p256 hn8
  refine Ct.of (by decide +kernel) (Nat.le_of_ble_eq_true rfl) ?_
  intro p e R s m args below meth c A C hr hlk
  refine E_iload_n C dX11_first_0 1 rfl (E_iconst (v := 0) C dX11_first_1 ic_0 (E_iconst (v := 1) C dX11_first_2 ic_1 (E_callSI C dX11_first_3 ms_X11_118 _ (m_in what 0 1) rfl rfl (by decide) (Nat.le_of_ble_eq_true rfl) ?_)))
  rintro _ _ ⟨rfl, rfl⟩
  refine E_if_ne C 11 dX11_first_6 (by decide) (fun c6 => ?_) (fun c6 => ?_)
  ·
    have n0 := ite_1 c6
    have n1 := bet_eq.mp n0
    have ha0 : aFirst S what = _ := if_pos n1
    refine E_aload_n C dX11_first_11 0 rfl (mg_11_1 C dX11_first_12 f_X11_115 ?_)
    refine Ev.seti hn ?_
    refine E_if_ne C 21 dX11_first_15 (by decide) (fun c15 => ?_) (fun c15 => ?_)
    ·
      have hne : ¬ S.1.1 = 0 := fun q => c15 (by rw [q]; rfl)
      have ha := ha0.trans (if_neg hne)
      have h2n : 2 ≤ 2 ^ S.1.1 := Nat.pow_le_pow_right (n := 2) (i := 1) (by decide) (by omega)
      refine E_aload_n C dX11_first_21 0 rfl (E_callVV C dX11_first_22 mv_X11_304 0 _ (m_findCosts hA hML) rfl rfl rfl (by decide) (Nat.le_of_ble_eq_true rfl) ?_)
      rintro _ ⟨u2, v2, rfl, hc, ku⟩
      have hco : ∀ q, q < 256 → costT S.1.2.1 (whole S.1.2.1 S.1.2.2 q) ≤ 27000 := fun q hq => cost_le hB (MLw.le hML) hq
      refine E_iconst (v := 1) C dX11_first_25 ic_1 (E_istore_n C dX11_first_26 (by decide) (E_iconst (v := 2) C dX11_first_27 ic_2 (E_istore_n C dX11_first_28 (by decide) ?_)))
      have K : ∀ (mm i : Nat), i + 2 ≤ 2 ^ S.1.1 → 2 ^ S.1.1 < i + 2 + mm → Ev p l e R s m args below meth c 0 0 (EQ below (PI fun r w => r = aFirst S what ∧ MR ad tc S w) args s D A) D A 4 (hm ad tc g h el u2 v2 sf) 29 [(3, .int (nI (i + 2))), (2, .int (nI (deaF (fun q => costT S.1.2.1 (whole S.1.2.1 S.1.2.2 q)) i))), (0, .ref (ad 0)), (1, .int what)] [] := by
        intro mm
        induction mm with
        | zero => intro i h1 h2; exfalso; omega
        | succ mm ih =>
          intro i hi1 hi2
          refine E_iload_n C dX11_first_29 0 rfl (E_aload_n C dX11_first_30 2 rfl (E_callVI C dX11_first_31 mv_X11_262 0 _ (m_allThings hn hn8) rfl rfl rfl (by decide) (Nat.le_of_ble_eq_true rfl) ?_))
          rintro _ _ ⟨rfl, rfl⟩
          refine E_icmp_gt C 60 dX11_first_34 (by decide) (fun c34 => ?_) (fun c34 => ?_)
          ·
            have hi : (i + 2) = 2 ^ S.1.1 := by
              rcases Nat.lt_or_ge (i + 2) (2 ^ S.1.1) with q | q
              · exact absurd (show nI (2 ^ S.1.1 - 1) < nI (i + 2) from c34) (nI_nlt (by omega) (by omega))
              · omega
            have hi2 : i = 2 ^ S.1.1 - 2 := by omega
            subst hi2
            refine E_iload_n C dX11_first_60 3 rfl (E_if_ne C 68 dX11_first_61 (by decide) (fun c61 => ?_) (fun c61 => ?_))
            ·
              have ha2 := ha.trans (if_neg c61)
              refine E_aload_n C dX11_first_68 2 rfl (mg_11_40 C dX11_first_69 f_X11_84 (E_iload_n C dX11_first_72 1 rfl (ma_23 C dX11_first_73 (vinN (by have := deaF_lt (fun q => costT S.1.2.1 (whole S.1.2.1 S.1.2.2 q)) (2 ^ S.1.1 - 2); omega)) ?_)))
              have hdl := deaF_lt (fun q => costT S.1.2.1 (whole S.1.2.1 S.1.2.2 q)) (2 ^ S.1.1 - 2)
              rw [nI_clamp (show (deaF (fun q => costT S.1.2.1 (whole S.1.2.1 S.1.2.2 q)) (2 ^ S.1.1 - 2)) < 2 ^ 31 by omega)]
              refine Ev.seti (hc (deaF (fun q => costT S.1.2.1 (whole S.1.2.1 S.1.2.2 q)) (2 ^ S.1.1 - 2)) (by omega)) ?_
              refine E_iretI C hr hlk dX11_first_74 ?_
              exact ⟨ha2.symm, ⟨g, h, el, _, _, sf, rfl, M⟩⟩
            ·
              have ha2 := ha.trans (if_pos c61)
              refine E_iload_n C dX11_first_64 1 rfl (E_goto C 74 dX11_first_65 (by decide) (E_iretI C hr hlk dX11_first_74 ?_))
              exact ⟨ha2.symm, ⟨g, h, el, _, _, sf, rfl, M⟩⟩
          ·
            have hi : (i + 2) < 2 ^ S.1.1 := by
              rcases Nat.lt_or_ge (i + 2) (2 ^ S.1.1) with q | q
              · exact q
              · exact absurd (show nI (2 ^ S.1.1 - 1) < nI (i + 2) from nI_lt (by omega) (by omega)) c34
            refine E_aload_n C dX11_first_37 2 rfl (mg_11_40 C dX11_first_38 f_X11_84 (E_iload_n C dX11_first_41 0 rfl (ma_23 C dX11_first_42 (vinN (by omega)) ?_)))
            rw [nI_clamp (show (i + 2) < 2 ^ 31 by omega)]
            refine Ev.seti (hc (i + 2) hi) ?_
            refine E_aload_n C dX11_first_43 2 rfl (mg_11_40 C dX11_first_44 f_X11_84 (E_iload_n C dX11_first_47 1 rfl (ma_23 C dX11_first_48 (vinN (by have := deaF_lt (fun q => costT S.1.2.1 (whole S.1.2.1 S.1.2.2 q)) i; omega)) ?_)))
            have hdl := deaF_lt (fun q => costT S.1.2.1 (whole S.1.2.1 S.1.2.2 q)) i
            rw [nI_clamp (show (deaF (fun q => costT S.1.2.1 (whole S.1.2.1 S.1.2.2 q)) i) < 2 ^ 31 by omega)]
            refine Ev.seti (hc (deaF (fun q => costT S.1.2.1 (whole S.1.2.1 S.1.2.2 q)) i) (by omega)) ?_
            have hb1 := hco (i + 2) (by omega)
            have hb2 := hco (deaF (fun q => costT S.1.2.1 (whole S.1.2.1 S.1.2.2 q)) i) (by omega)
            refine E_icmp_le C 54 dX11_first_49 (by decide) (fun c49 => ?_) (fun c49 => ?_)
            ·
              have hs : (deaF (fun q => costT S.1.2.1 (whole S.1.2.1 S.1.2.2 q)) (i + 1)) = (deaF (fun q => costT S.1.2.1 (whole S.1.2.1 S.1.2.2 q)) i) := deaF_d (fun q => nI_ge q (by omega) c49)
              rw [← hs]
              refine E_iinc C dX11_first_54 0 rfl (nI_1 (i + 2)) (by decide) (E_goto C 29 dX11_first_57 (by decide) ?_)
              exact ih (i + 1) (by omega) (by omega)
            ·
              have hs : (deaF (fun q => costT S.1.2.1 (whole S.1.2.1 S.1.2.2 q)) (i + 1)) = i + 2 := deaF_c (Classical.byContradiction fun q => c49 (nI_le (Nat.not_lt.mp q) (by omega)))
              refine E_iload_n C dX11_first_52 0 rfl ?_
              refine Ev.seti (congrArg nI hs).symm ?_
              refine E_istore_n C dX11_first_53 (by decide) (E_iinc C dX11_first_54 1 rfl (nI_1 (i + 2)) (by decide) (E_goto C 29 dX11_first_57 (by decide) ?_))
              exact ih (i + 1) (by omega) (by omega)
      exact Ev.sub [0, 1, 2, 3] rfl (K (2 ^ S.1.1) 0 (by omega) (by omega))
    ·
      have hz : S.1.1 = 0 := (nI_eq (b := 0) (by omega) (by decide)).mp c15
      refine E_bipush (v := -2) C dX11_first_18 bp_m2 (E_iretI C hr hlk dX11_first_20 ?_)
      exact ⟨(ha0.trans (if_pos hz)).symm, ⟨g, h, el, u, v, sf, rfl, M⟩⟩
  ·
    have n0 := ite_0 c6
    refine E_iconst (v := -1) C dX11_first_9 ic_m1 (E_iretI C hr hlk dX11_first_10 ?_)
    exact ⟨(if_neg fun q => n0 (bet_eq.mpr q)).symm, ⟨g, h, el, u, v, sf, rfl, M⟩⟩
set_option maxRecDepth 100000 in
set_option maxHeartbeats 4000000 in
theorem m_likelyOf {l : Launch} {D : va_G} {tc tt ad : Nat → Nat} {g : Nat → Int32} {h : Nat → Nat → Int32} {el : Nat → Int64} {u : Nat → Int32} {v : Nat → Nat → Int32} {sf : Nat → Int64} {n : Nat} {N : Nat → Nat → Nat} (hA : MA n N g h) {σ : Nat} (hσ : σ < 2 ^ n) : Ct l yX11_likelyOf cX11_likelyOf 5 (some .long) 1 D tc tt [.ref (ad 0), .int (nI σ)] (hm ad tc g h el u v sf) (PL fun r w => r = lN (wgt N 0 0 n σ) ∧ w = hm ad tc g h el u v sf) := by
  refine Ct.of (by decide +kernel) (Nat.le_of_ble_eq_true rfl) ?_
  intro p e R s m args below meth c A C hr hlk
  have hn := hA.1
  have hn8 := hA.2.1
  have hp := p256 hn8
  have hp1 := Nat.two_pow_pos n
  have hB := hA.2.2.2.2.1
  have K : ∀ (mm i : Nat), i ≤ n → n < i + mm → Ev p l e R s m args below meth c 0 0 (EQ below (PL fun r w => r = lN (wgt N 0 0 n σ) ∧ w = hm ad tc g h el u v sf) args s D A) D A 5 (hm ad tc g h el u v sf) 5 [(4, .int (nI i)), (2, .long (lN (wgt N 0 0 i σ))), (0, .ref (ad 0)), (1, .int (nI σ))] [] := by
    intro mm
    induction mm with
    | zero =>
      intro i hi1 hi2
      exfalso; omega
    | succ mm ih =>
      intro i hi1 hi2
      refine E_iload C dX11_likelyOf_5 0 rfl (E_aload_n C dX11_likelyOf_7 2 rfl (mg_11_1 C dX11_likelyOf_8 f_X11_115 ?_))
      refine Ev.seti hn ?_
      refine E_icmp_ge C 55 dX11_likelyOf_11 (by decide) (fun c11 => ?_) (fun c11 => ?_)
      ·
        have hi : i = n := by
          rcases Nat.lt_or_ge i n with q | q
          · exact absurd (show nI n ≤ nI i from c11) (nI_ge q (by omega))
          · omega
        subst hi
        refine E_lload_n C dX11_likelyOf_55 1 rfl (E_lretL C hr hlk dX11_likelyOf_56 ?_)
        exact ⟨rfl, rfl⟩
      ·
        have hi : i < n := by
          rcases Nat.lt_or_ge i n with q | q
          · exact q
          · exact absurd (show nI n ≤ nI i from nI_le q (by omega)) c11
        refine E_lload_n C dX11_likelyOf_14 1 rfl (E_iload_n C dX11_likelyOf_15 3 rfl (E_iload C dX11_likelyOf_16 0 rfl (E_ishr C dX11_likelyOf_18 (E_iconst (v := 1) C dX11_likelyOf_19 ic_1 (E_iand C dX11_likelyOf_20 ?_)))))
        refine E_iconst (v := 1) C dX11_likelyOf_21 ic_1 (E_icmp_ne C 36 dX11_likelyOf_22 (by decide) (fun c22 => ?_) (fun c22 => ?_))
        ·
          have hb : ¬ σ.testBit i = true := fun q => c22 ((nx_bitE σ i (by omega) (by omega)).mpr q)
          refine E_bipush (v := 12) C dX11_likelyOf_36 bp_12 (E_aload_n C dX11_likelyOf_38 2 rfl (mg_11_3 C dX11_likelyOf_39 f_X11_15 (E_iload C dX11_likelyOf_42 0 rfl (ma_2 C dX11_likelyOf_44 (vinN (by omega)) ?_))))
          rw [nI_clamp (show i < 2 ^ 31 by omega)]
          refine Ev.seti (show h 3 i = nI (N 1 i) from hA.2.2.1 1 i (by decide) hi) ?_
          have hN1 : N 1 i ≤ 12 := hB 1 i (by decide) (by omega)
          refine E_isub C dX11_likelyOf_45 ?_
          refine Ev.seti (show (12 : Int32) - nI (N 1 i) = nI (12 - N 1 i) from pk_sub (a := 12) hN1) ?_
          refine E_i2l C dX11_likelyOf_46 ?_
          refine Ev.setl (nI_l (by omega)) ?_
          refine E_lmul C dX11_likelyOf_47 ?_
          refine Ev.setl ((lN_mul _ _).trans (congrArg lN (show _ = wgt N 0 0 (i + 1) σ by rw [wgt_f hb, lost_0, all_0]))) ?_
          refine E_lstore_n C dX11_likelyOf_48 (by decide) (E_iinc C dX11_likelyOf_49 1 rfl (nI_1 i) (by decide) (E_goto C 5 dX11_likelyOf_52 (by decide) ?_))
          exact ih (i + 1) (by omega) (by omega)
        ·
          have hb : σ.testBit i = true := (nx_bitE σ i (by omega) (by omega)).mp c22
          refine E_aload_n C dX11_likelyOf_25 2 rfl (mg_11_3 C dX11_likelyOf_26 f_X11_15 (E_iload C dX11_likelyOf_29 0 rfl (ma_2 C dX11_likelyOf_31 (vinN (by omega)) ?_)))
          rw [nI_clamp (show i < 2 ^ 31 by omega)]
          refine Ev.seti (show h 3 i = nI (N 1 i) from hA.2.2.1 1 i (by decide) hi) ?_
          have hN1 : N 1 i ≤ 12 := hB 1 i (by decide) (by omega)
          refine E_i2l C dX11_likelyOf_32 ?_
          refine Ev.setl (nI_l (by omega)) ?_
          refine E_goto C 47 dX11_likelyOf_33 (by decide) (E_lmul C dX11_likelyOf_47 ?_)
          refine Ev.setl ((lN_mul _ _).trans (congrArg lN (show _ = wgt N 0 0 (i + 1) σ by rw [wgt_t hb, lost_0]))) ?_
          refine E_lstore_n C dX11_likelyOf_48 (by decide) (E_iinc C dX11_likelyOf_49 1 rfl (nI_1 i) (by decide) (E_goto C 5 dX11_likelyOf_52 (by decide) ?_))
          exact ih (i + 1) (by omega) (by omega)
  refine E_lconst (v := 1) C dX11_likelyOf_0 rfl (E_lstore_n C dX11_likelyOf_1 (by decide) (E_iconst (v := 0) C dX11_likelyOf_2 ic_0 (E_istore C dX11_likelyOf_3 (by decide) ?_)))
  exact K (n + 1) 0 (by omega) (by omega)
set_option maxRecDepth 100000 in
set_option maxHeartbeats 4000000 in
theorem m_power {l : Launch} {D : va_G} {tc tt : Nat → Nat} {ws : va_W} {k0 : Nat} (hk0 : k0 ≤ 11) : Ct l yX11_power cX11_power 4 (some .long) 1 D tc tt [.int (nI k0)] (ws) (PL fun r w => r = lN (12 ^ k0) ∧ w = ws) := by
  refine Ct.of (by decide +kernel) (Nat.le_of_ble_eq_true rfl) ?_
  intro p e R s m args below meth c A C hr hlk
  have K : ∀ (mm i : Nat), i ≤ k0 → k0 < i + mm → Ev p l e R s m args below meth c 0 0 (EQ below (PL fun r w => r = lN (12 ^ k0) ∧ w = ws) args s D A) D A 4 (ws) 4 [(3, .int (nI i)), (1, .long (lN (12 ^ i))), (0, .int (nI k0))] [] := by
    intro mm
    induction mm with
    | zero =>
      intro i hi1 hi2
      exfalso; omega
    | succ mm ih =>
      intro i hi1 hi2
      refine E_iload_n C dX11_power_4 0 rfl (E_iload_n C dX11_power_5 2 rfl (E_icmp_ge C 21 dX11_power_6 (by decide) (fun c6 => ?_) (fun c6 => ?_)))
      ·
        have hi : i = k0 := by
          rcases Nat.lt_or_ge i k0 with q | q
          · exact absurd (show nI k0 ≤ nI i from c6) (nI_ge q (by omega))
          · omega
        subst hi
        refine E_lload_n C dX11_power_21 1 rfl (E_lretL C hr hlk dX11_power_22 ?_)
        exact ⟨rfl, rfl⟩
      ·
        have hi : i < k0 := by
          rcases Nat.lt_or_ge i k0 with q | q
          · exact q
          · exact absurd (show nI k0 ≤ nI i from nI_le q (by omega)) c6
        refine E_lload_n C dX11_power_9 1 rfl (E_ldc2 C k_X11_293 dX11_power_10 (E_lmul C dX11_power_13 ?_))
        refine Ev.setl ((lN_mul _ 12).trans (congrArg lN (Nat.pow_succ (m := i) (n := 12)).symm)) ?_
        refine E_lstore_n C dX11_power_14 (by decide) (E_iinc C dX11_power_15 1 rfl (nI_1 i) (by decide) (E_goto C 4 dX11_power_18 (by decide) ?_))
        exact ih (i + 1) (by omega) (by omega)
  refine E_lconst (v := 1) C dX11_power_0 rfl (E_lstore_n C dX11_power_1 (by decide) (E_iconst (v := 0) C dX11_power_2 ic_0 (E_istore_n C dX11_power_3 (by decide) ?_)))
  exact K (k0 + 1) 0 (by omega) (by omega)
set_option maxRecDepth 100000 in
set_option maxHeartbeats 4000000 in
theorem m_asPart {l : Launch} {D : va_G} {tc tt : Nat → Nat} {ws : va_W} {ab be pn : Nat} (hab : ab < 2 ^ 63) (hbb : be < 2 ^ 63) (hbe : 0 < be) (hpn : pn ≤ 1) : Ct l yX11_asPart cX11_asPart 11 (some .long) 1 D tc tt [.long (lN ab), .long (lN be), .int (nI pn)] (ws) (PL fun r w => r = lN (lowT ab be pn) ∧ w = ws) := by
  refine Ct.of (by decide +kernel) (Nat.le_of_ble_eq_true rfl) ?_
  intro p e R s m args below meth c A C hr hlk
  have K : ∀ (mm xx yy : Nat), yy < mm → xx < 2 ^ 63 → yy < 2 ^ 63 → Nat.gcd xx yy = Nat.gcd be ab → Ev p l e R s m args below meth c 0 0 (EQ below (PL fun r w => r = lN (lowT ab be pn) ∧ w = ws) args s D A) D A 11 (ws) 6 [(7, .long (lN yy)), (5, .long (lN xx)), (0, .long (lN ab)), (2, .long (lN be)), (4, .int (nI pn))] [] := by
    intro mm
    induction mm with
    | zero =>
      intro xx yy hlt hx hy hG
      exfalso; omega
    | succ mm ih =>
      intro xx yy hlt hx hy hG
      refine E_lload C dX11_asPart_6 0 rfl (E_lconst (v := 0) C dX11_asPart_8 rfl (E_lcmp C dX11_asPart_9 (E_if_eq C 31 dX11_asPart_10 (by decide) (fun c10 => ?_) (fun c10 => ?_))))
      ·
        have hz : yy = 0 := (pk_lEQ (b := 0) hy (by decide)).mp (lg_cmp0.mp c10)
        subst hz
        rw [Nat.gcd_zero_right] at hG
        have hpos : 0 < xx := by rw [hG]; exact Nat.gcd_pos_of_pos_left _ hbe
        refine E_iload C dX11_asPart_31 4 rfl (E_if_ne C 43 dX11_asPart_33 (by decide) (fun c33 => ?_) (fun c33 => ?_))
        ·
          have hp : ¬ pn = 0 := fun q => c33 (by rw [q]; rfl)
          have hlow : lowT ab be pn = be / xx := by unfold lowT; rw [if_neg hp, ← hG]
          refine E_lload_n C dX11_asPart_43 3 rfl (E_lload C dX11_asPart_44 1 rfl (E_ldiv C dX11_asPart_46 (fun q => Nat.ne_of_gt hpos ((pk_lEQ (b := 0) hx (by decide)).mp q)) ?_))
          refine Ev.setl (pk_lDiv hbb hpos hx) ?_
          refine E_lretL C hr hlk dX11_asPart_47 ?_
          exact ⟨congrArg lN hlow.symm, rfl⟩
        ·
          have hp : pn = 0 := (nI_eq (b := 0) (by omega) (by decide)).mp c33
          have hlow : lowT ab be pn = ab / xx := by unfold lowT; rw [if_pos hp, ← hG]
          refine E_lload_n C dX11_asPart_36 2 rfl (E_lload C dX11_asPart_37 1 rfl (E_ldiv C dX11_asPart_39 (fun q => Nat.ne_of_gt hpos ((pk_lEQ (b := 0) hx (by decide)).mp q)) ?_))
          refine Ev.setl (pk_lDiv hab hpos hx) ?_
          refine E_goto C 47 dX11_asPart_40 (by decide) (E_lretL C hr hlk dX11_asPart_47 ?_)
          exact ⟨congrArg lN hlow.symm, rfl⟩
      ·
        have hne : yy ≠ 0 := fun q => c10 (lg_cmp0.mpr (by rw [q]; rfl))
        have hnl : ¬ lN yy = 0 := fun q => hne ((pk_lEQ (b := 0) hy (by decide)).mp q)
        refine E_lload C dX11_asPart_13 1 rfl (E_lload C dX11_asPart_15 0 rfl (E_lrem C dX11_asPart_17 hnl ?_))
        refine Ev.setl (pk_lRem hx (Nat.pos_of_ne_zero hne) hy) ?_
        refine E_lstore C dX11_asPart_18 (by decide) (E_lload C dX11_asPart_20 1 rfl (E_lstore C dX11_asPart_22 (by decide) (E_lload C dX11_asPart_24 1 rfl (E_lstore C dX11_asPart_26 (by decide) (E_goto C 6 dX11_asPart_28 (by decide) ?_)))))
        exact Ev.sub [0, 1, 3, 4, 5] rfl (ih yy (xx % yy) (Nat.lt_of_lt_of_le (Nat.mod_lt _ (Nat.pos_of_ne_zero hne)) (by omega)) hy (Nat.lt_trans (Nat.mod_lt _ (Nat.pos_of_ne_zero hne)) hy) (by rw [← hG, Nat.gcd_comm yy, ← Nat.gcd_rec, Nat.gcd_comm]))
  refine E_lload_n C dX11_asPart_0 0 rfl (E_lstore C dX11_asPart_1 (by decide) (E_lload_n C dX11_asPart_3 2 rfl (E_lstore C dX11_asPart_4 (by decide) ?_)))
  exact K (be + 1) ab be (by omega) hab hbb (Nat.gcd_comm _ _)
set_option maxRecDepth 100000 in
set_option maxHeartbeats 4000000 in
theorem m_meanNow {l : Launch} {D : va_G} {tc tt ad : Nat → Nat} {g : Nat → Int32} {h : Nat → Nat → Int32} {el : Nat → Int64} {u : Nat → Int32} {v : Nat → Nat → Int32} {sf : Nat → Int64} {n : Nat} {N : Nat → Nat → Nat} (hA : MA n N g h) {co : Nat → Nat} (hc : ∀ q, q < 2 ^ n → v 40 q = nI (co q) ∧ co q < 2 ^ 31) : Ct l yX11_meanNow cX11_meanNow 4 (some .long) 2 D tc tt [.ref (ad 0)] (hm ad tc g h el u v sf) (PL fun r w => r = lN (ssum (fun q => wgt N 0 0 n q * co q) (2 ^ n)) ∧ w = hm ad tc g h el u v sf) := by
  refine Ct.of (by decide +kernel) (Nat.le_of_ble_eq_true rfl) ?_
  intro p e R s m args below meth c A C hr hlk
  have hn := hA.1
  have hn8 := hA.2.1
  have hp := p256 hn8
  have hp1 := Nat.two_pow_pos n
  have K : ∀ (mm i : Nat), i ≤ 2 ^ n → 2 ^ n < i + mm → Ev p l e R s m args below meth c 0 0 (EQ below (PL fun r w => r = lN (ssum (fun q => wgt N 0 0 n q * co q) (2 ^ n)) ∧ w = hm ad tc g h el u v sf) args s D A) D A 4 (hm ad tc g h el u v sf) 4 [(3, .int (nI i)), (1, .long (lN (ssum (fun q => wgt N 0 0 n q * co q) i))), (0, .ref (ad 0))] [] := by
    intro mm
    induction mm with
    | zero =>
      intro i hi1 hi2
      exfalso; omega
    | succ mm ih =>
      intro i hi1 hi2
      refine E_iload_n C dX11_meanNow_4 0 rfl (E_aload_n C dX11_meanNow_5 2 rfl (E_callVI C dX11_meanNow_6 mv_X11_262 0 _ (m_allThings hn hn8) rfl rfl rfl (by decide) (Nat.le_of_ble_eq_true rfl) ?_))
      rintro _ _ ⟨rfl, rfl⟩
      refine E_icmp_gt C 34 dX11_meanNow_9 (by decide) (fun c9 => ?_) (fun c9 => ?_)
      ·
        have hi : i = 2 ^ n := by
          rcases Nat.lt_or_ge i (2 ^ n) with q | q
          · exact absurd (show nI (2 ^ n - 1) < nI i from c9) (nI_nlt (by omega) (by omega))
          · omega
        refine E_lload_n C dX11_meanNow_34 1 rfl (E_lretL C hr hlk dX11_meanNow_35 ?_)
        rw [← hi]
        exact ⟨rfl, rfl⟩
      ·
        have hi : i < 2 ^ n := by
          rcases Nat.lt_or_ge i (2 ^ n) with q | q
          · exact q
          · exact absurd (show nI (2 ^ n - 1) < nI i from nI_lt (by omega) (by omega)) c9
        refine E_lload_n C dX11_meanNow_12 1 rfl (E_aload_n C dX11_meanNow_13 2 rfl (E_iload_n C dX11_meanNow_14 0 rfl (E_callVL C dX11_meanNow_15 mv_X11_295 0 _ (m_likelyOf hA hi) rfl rfl rfl (by decide) (Nat.le_of_ble_eq_true rfl) ?_)))
        rintro _ _ ⟨rfl, rfl⟩
        refine E_aload_n C dX11_meanNow_18 2 rfl (mg_11_40 C dX11_meanNow_19 f_X11_84 (E_iload_n C dX11_meanNow_22 0 rfl (ma_23 C dX11_meanNow_23 (vinN (by omega)) ?_)))
        rw [nI_clamp (show i < 2 ^ 31 by omega)]
        refine Ev.seti (hc i hi).1 ?_
        refine E_i2l C dX11_meanNow_24 ?_
        refine Ev.setl (nI_l (hc i hi).2) ?_
        refine E_lmul C dX11_meanNow_25 ?_
        refine Ev.setl (lN_mul _ _) ?_
        refine E_ladd C dX11_meanNow_26 ?_
        refine Ev.setl (show _ = lN (ssum (fun q => wgt N 0 0 n q * co q) (i + 1)) from lN_add _ _) ?_
        refine E_lstore_n C dX11_meanNow_27 (by decide) (E_iinc C dX11_meanNow_28 1 rfl (nI_1 i) (by decide) (E_goto C 4 dX11_meanNow_31 (by decide) ?_))
        exact ih (i + 1) (by omega) (by omega)
  refine E_lconst (v := 0) C dX11_meanNow_0 rfl (E_lstore_n C dX11_meanNow_1 (by decide) (E_iconst (v := 0) C dX11_meanNow_2 ic_0 (E_istore_n C dX11_meanNow_3 (by decide) ?_)))
  exact K (2 ^ n + 1) 0 (by omega) (by omega)
set_option maxRecDepth 100000 in
set_option maxHeartbeats 4000000 in
theorem m_isPart {l : Launch} {D : va_G} {tc tt : Nat → Nat} {ws : va_W} (x : Int32) : Ct l yX11_isPart cX11_isPart 1 (some .boolean) 2 D tc tt [.int x] (ws) (PI fun r w => r = (if bet x 0 1 = true then 1 else 0) ∧ w = ws) := by
  refine Ct.of (by decide +kernel) (Nat.le_of_ble_eq_true rfl) ?_
  intro p e R s m args below meth c A C hr hlk
  refine E_iload_n C dX11_isPart_0 0 rfl (E_iconst (v := 0) C dX11_isPart_1 ic_0 (E_iconst (v := 1) C dX11_isPart_2 ic_1 (E_callSI C dX11_isPart_3 ms_X11_118 _ (m_in x 0 1) rfl rfl (by decide) (Nat.le_of_ble_eq_true rfl) ?_)))
  rintro _ _ ⟨rfl, rfl⟩
  refine E_zretI C hr hlk dX11_isPart_6 (by split <;> rfl) ?_
  exact ⟨rfl, rfl⟩
set_option maxRecDepth 100000 in
set_option maxHeartbeats 4000000 in
theorem q_mean {l : Launch} {D : va_G} {tc tt ad : Nat → Nat} {S : STT} {w0 : va_W} (hM : MR ad tc S w0) (part : Int32) : Ct l yX11_mean cX11_mean 2 (some .long) 9 D tc tt [.ref (ad 0), .int part] (w0) (PL fun r w => r = aMean S part ∧ MR ad tc S w) := by
  obtain ⟨g, h, el, u, v, sf, rfl, M⟩ := hM
  have hA := M.1
  have hn := M.1.1
  have hn8 := M.1.2.1
  have hML := M.2.2.2.2.2.2.2
  have hB := hA.2.2.2.2.1
  have hp1 := Nat.two_pow_pos S.1.1
  have hp256 := p256 hn8
  refine Ct.of (by decide +kernel) (Nat.le_of_ble_eq_true rfl) ?_
  intro p e R s m args below meth c A C hr hlk
  refine E_iload_n C dX11_mean_0 1 rfl (E_callSI C dX11_mean_1 ms_X11_299 _ (m_isPart part) rfl rfl (by decide) (Nat.le_of_ble_eq_true rfl) ?_)
  rintro _ _ ⟨rfl, rfl⟩
  refine E_if_ne C 11 dX11_mean_4 (by decide) (fun c4 => ?_) (fun c4 => ?_)
  ·
    have n0 := ite_1 c4
    have n1 := bet_eq.mp n0
    obtain ⟨pn, hpn, hpc, rfl⟩ := n_of (k := 1) (m := 1) (x := part) rfl (Int32.not_lt.mpr n1.1) n1.2
    have ha : aMean S (nI pn) = _ := if_pos n1
    rw [hpc, belN_0] at ha
    refine E_aload_n C dX11_mean_11 0 rfl (E_callVV C dX11_mean_12 mv_X11_304 0 _ (m_findCosts hA hML) rfl rfl rfl (by decide) (Nat.le_of_ble_eq_true rfl) ?_)
    rintro _ ⟨u2, v2, rfl, hc, ku⟩
    have hLe := MLw.le hML
    have hcb : ∀ q, q < 2 ^ S.1.1 → v2 40 q = nI (costT S.1.2.1 (whole S.1.2.1 S.1.2.2 q)) ∧ costT S.1.2.1 (whole S.1.2.1 S.1.2.2 q) < 2 ^ 31 := fun q hq => ⟨hc q hq, Nat.lt_of_le_of_lt (cost_le hB hLe (by omega)) (by decide)⟩
    refine E_aload_n C dX11_mean_15 0 rfl (E_callVL C dX11_mean_16 mv_X11_307 0 _ (m_meanNow hA hcb) rfl rfl rfl (by decide) (Nat.le_of_ble_eq_true rfl) ?_)
    rintro _ _ ⟨rfl, rfl⟩
    refine E_aload_n C dX11_mean_19 0 rfl (mg_11_1 C dX11_mean_20 f_X11_115 ?_)
    refine Ev.seti hn ?_
    refine E_callSL C dX11_mean_23 ms_X11_311 _ (m_power (by omega)) rfl rfl (by decide) (Nat.le_of_ble_eq_true rfl) ?_
    rintro _ _ ⟨rfl, rfl⟩
    refine E_iload_n C dX11_mean_26 1 rfl (E_callSL C dX11_mean_27 ms_X11_314 _ (m_asPart (csum_lt hB hLe hn8 0 (li := 0) (by decide)) (p12 (by omega)) (Nat.pow_pos (by decide)) hpn) rfl rfl (by decide) (Nat.le_of_ble_eq_true rfl) ?_)
    rintro _ _ ⟨rfl, rfl⟩
    refine E_lretL C hr hlk dX11_mean_30 ?_
    exact ⟨ha.symm, ⟨g, h, el, _, _, sf, rfl, M⟩⟩
  ·
    have n0 := ite_0 c4
    refine E_ldc2 C k_X11_302 dX11_mean_7 (E_lretL C hr hlk dX11_mean_10 ?_)
    exact ⟨(if_neg fun q => n0 (bet_eq.mpr q)).symm, ⟨g, h, el, u, v, sf, rfl, M⟩⟩
set_option maxRecDepth 100000 in
set_option maxHeartbeats 4000000 in
theorem q_likely {l : Launch} {D : va_G} {tc tt ad : Nat → Nat} {S : STT} {w0 : va_W} (hM : MR ad tc S w0) (t0 part : Int32) : Ct l yX11_likely cX11_likely 6 (some .long) 9 D tc tt [.ref (ad 0), .int t0, .int part] (w0) (PL fun r w => r = aLikely S t0 part ∧ MR ad tc S w) := by
  obtain ⟨g, h, el, u, v, sf, rfl, M⟩ := hM
  have hA := M.1
  have hn := M.1.1
  have hn8 := M.1.2.1
  have hML := M.2.2.2.2.2.2.2
  have hB := hA.2.2.2.2.1
  have hp1 := Nat.two_pow_pos S.1.1
  have hp256 := p256 hn8
  by_cases htm : t0 = -1
  ·
    have ht : t0 < 0 := by rw [htm]; decide
    refine Ct.of (by decide +kernel) (Nat.le_of_ble_eq_true rfl) ?_
    intro p e R s m args below meth c A C hr hlk
    refine E_iload_n C dX11_likely_0 1 rfl (E_iconst (v := -1) C dX11_likely_1 ic_m1 (E_icmp_eq C 13 dX11_likely_2 (by decide) (fun c2 => ?_) (fun c2 => ?_)))
    ·
      refine E_iload_n C dX11_likely_13 2 rfl (E_callSI C dX11_likely_14 ms_X11_299 _ (m_isPart part) rfl rfl (by decide) (Nat.le_of_ble_eq_true rfl) ?_)
      rintro _ _ ⟨rfl, rfl⟩
      refine E_if_ne C 24 dX11_likely_17 (by decide) (fun c17 => ?_) (fun c17 => ?_)
      ·
        have n2 := ite_1 c17
        have n1 := bet_eq.mp n2
        obtain ⟨pn, hpn, hpc, rfl⟩ := n_of (k := 1) (m := 1) (x := part) rfl (Int32.not_lt.mpr n1.1) n1.2
        have ha : aLikely S t0 (nI pn) = _ := if_pos ⟨by rw [htm]; decide, Int32.lt_of_lt_of_le ht (nI_pos' (by omega)), n1⟩
        rw [hpc, belN_0, show likN S t0 = ssum (fun q => if (whole S.1.2.1 S.1.2.2 q).2.2.2.1.length = 0 then wgt S.1.2.1 0 0 S.1.1 q else 0) (2 ^ S.1.1) from if_pos ht] at ha
        refine E_lconst (v := 0) C dX11_likely_24 rfl (E_lstore_n C dX11_likely_25 (by decide) (E_iconst (v := 0) C dX11_likely_26 ic_0 (E_istore C dX11_likely_27 (by decide) ?_)))
        have K : ∀ (mm i : Nat) (u1 : Nat → Int32) (v1 : Nat → Nat → Int32), i ≤ 2 ^ S.1.1 → 2 ^ S.1.1 < i + mm → Ev p l e R s m args below meth c 0 0 (EQ below (PL fun r w => r = aLikely S t0 (nI pn) ∧ MR ad tc S w) args s D A) D A 6 (hm ad tc g h el u1 v1 sf) 29 [(5, .int (nI i)), (3, .long (lN (ssum (fun q => if (whole S.1.2.1 S.1.2.2 q).2.2.2.1.length = 0 then wgt S.1.2.1 0 0 S.1.1 q else 0) i))), (0, .ref (ad 0)), (1, .int t0), (2, .int (nI pn))] [] := by
          intro mm
          induction mm with
          | zero => intro i u1 v1 h1 h2; exfalso; omega
          | succ mm ih =>
            intro i u1 v1 hi1 hi2
            refine E_iload C dX11_likely_29 0 rfl (E_aload_n C dX11_likely_31 2 rfl (E_callVI C dX11_likely_32 mv_X11_262 0 _ (m_allThings hn hn8) rfl rfl rfl (by decide) (Nat.le_of_ble_eq_true rfl) ?_))
            rintro _ _ ⟨rfl, rfl⟩
            refine E_icmp_gt C 85 dX11_likely_35 (by decide) (fun c35 => ?_) (fun c35 => ?_)
            ·
              have hi : i = 2 ^ S.1.1 := by
                rcases Nat.lt_or_ge i (2 ^ S.1.1) with q | q
                · exact absurd (show nI (2 ^ S.1.1 - 1) < nI i from c35) (nI_nlt (by omega) (by omega))
                · omega
              refine E_lload_n C dX11_likely_85 1 rfl (E_aload_n C dX11_likely_86 2 rfl (mg_11_1 C dX11_likely_87 f_X11_115 ?_))
              refine Ev.seti hn ?_
              refine E_callSL C dX11_likely_90 ms_X11_311 _ (m_power (by omega)) rfl rfl (by decide) (Nat.le_of_ble_eq_true rfl) ?_
              rintro _ _ ⟨rfl, rfl⟩
              refine E_iload_n C dX11_likely_93 4 rfl ?_
              rw [hi]
              refine E_callSL C dX11_likely_94 ms_X11_314 _ (m_asPart (ab := ssum (fun q => if (whole S.1.2.1 S.1.2.2 q).2.2.2.1.length = 0 then wgt S.1.2.1 0 0 S.1.1 q else 0) (2 ^ S.1.1)) (ways_lt hB hn8 _) (p12 (by omega)) (Nat.pow_pos (by decide)) hpn) rfl rfl (by decide) (Nat.le_of_ble_eq_true rfl) ?_
              rintro _ _ ⟨rfl, rfl⟩
              refine E_lretL C hr hlk dX11_likely_97 ?_
              exact ⟨ha.symm, ⟨g, h, el, _, _, sf, rfl, M⟩⟩
            ·
              have hi : i < 2 ^ S.1.1 := by
                rcases Nat.lt_or_ge i (2 ^ S.1.1) with q | q
                · exact q
                · exact absurd (show nI (2 ^ S.1.1 - 1) < nI i from nI_lt (by omega) (by omega)) c35
              refine E_aload_n C dX11_likely_38 2 rfl (E_iload C dX11_likely_39 0 rfl (E_callVV C dX11_likely_41 mv_X11_287 0 _ (m_goDrive hA hML hi) rfl rfl rfl (by decide) (Nat.le_of_ble_eq_true rfl) ?_))
              rintro _ ⟨u2, v2, rfl, hq, ku, kv⟩
              have hwi := whole_inv hB (L := S.1.2.2) (fo := i) (by omega)
              have hgl8 : (whole S.1.2.1 S.1.2.2 i).2.2.2.1.length ≤ 8 := by rw [hwi.2.2]; exact pop_le _
              refine E_iload_n C dX11_likely_44 3 rfl (E_if_ge C 58 dX11_likely_45 (by decide) (fun c45 => ?_) (fun c45 => ?_))
              ·
                exact absurd ht (Int32.not_lt.mpr c45)
              ·
                refine E_aload_n C dX11_likely_48 2 rfl (mg_11_34 C dX11_likely_49 f_X11_249 ?_)
                refine Ev.seti hq.2.2.2.2.1 ?_
                refine E_if_ne C 79 dX11_likely_52 (by decide) (fun c52 => ?_) (fun c52 => ?_)
                ·
                  have hy : ¬ (whole S.1.2.1 S.1.2.2 i).2.2.2.1.length = 0 := fun q => c52 (by rw [q]; rfl)
                  have hs : ssum (fun q => if (whole S.1.2.1 S.1.2.2 q).2.2.2.1.length = 0 then wgt S.1.2.1 0 0 S.1.1 q else 0) (i + 1) = ssum (fun q => if (whole S.1.2.1 S.1.2.2 q).2.2.2.1.length = 0 then wgt S.1.2.1 0 0 S.1.1 q else 0) i := by
                    show ssum (fun q => if (whole S.1.2.1 S.1.2.2 q).2.2.2.1.length = 0 then wgt S.1.2.1 0 0 S.1.1 q else 0) i + (if _ then _ else _) = _
                    rw [if_neg hy]
                    rfl
                  rw [← hs]
                  refine E_iinc C dX11_likely_79 0 rfl (nI_1 i) (by decide) (E_goto C 29 dX11_likely_82 (by decide) ?_)
                  exact ih (i + 1) _ _ (by omega) (by omega)
                ·
                  have hy : (whole S.1.2.1 S.1.2.2 i).2.2.2.1.length = 0 := (nI_eq (b := 0) (by omega) (by decide)).mp c52
                  have hs : ssum (fun q => if (whole S.1.2.1 S.1.2.2 q).2.2.2.1.length = 0 then wgt S.1.2.1 0 0 S.1.1 q else 0) (i + 1) = ssum (fun q => if (whole S.1.2.1 S.1.2.2 q).2.2.2.1.length = 0 then wgt S.1.2.1 0 0 S.1.1 q else 0) i + wgt S.1.2.1 0 0 S.1.1 i := by
                    show ssum (fun q => if (whole S.1.2.1 S.1.2.2 q).2.2.2.1.length = 0 then wgt S.1.2.1 0 0 S.1.1 q else 0) i + (if _ then _ else _) = _
                    rw [if_pos hy]
                  refine E_goto C 70 dX11_likely_55 (by decide) (E_lload_n C dX11_likely_70 1 rfl (E_aload_n C dX11_likely_71 2 rfl (E_iload C dX11_likely_72 0 rfl (E_callVL C dX11_likely_74 mv_X11_295 0 _ (m_likelyOf hA hi) rfl rfl rfl (by decide) (Nat.le_of_ble_eq_true rfl) ?_))))
                  rintro _ _ ⟨rfl, rfl⟩
                  refine E_ladd C dX11_likely_77 ?_
                  refine Ev.setl ((lN_add _ _).trans (congrArg lN hs.symm)) ?_
                  refine E_lstore_n C dX11_likely_78 (by decide) (E_iinc C dX11_likely_79 1 rfl (nI_1 i) (by decide) (E_goto C 29 dX11_likely_82 (by decide) ?_))
                  exact ih (i + 1) _ _ (by omega) (by omega)
        exact Ev.sub [0, 1, 2, 3, 4] rfl (K (2 ^ S.1.1 + 1) 0 u v (by omega) (by omega))
      ·
        have n2 := ite_0 c17
        refine E_ldc2 C k_X11_302 dX11_likely_20 (E_lretL C hr hlk dX11_likely_23 ?_)
        exact ⟨(if_neg fun q => n2 (bet_eq.mpr q.2.2)).symm, ⟨g, h, el, u, v, sf, rfl, M⟩⟩
    ·
      exact absurd htm c2
  ·
    by_cases hth : bodB S.1.1 t0 = true
    ·
      obtain ⟨tn, htn, htc, rfl⟩ := bodB_ex (by omega) hth
      refine Ct.of (by decide +kernel) (Nat.le_of_ble_eq_true rfl) ?_
      intro p e R s m args below meth c A C hr hlk
      refine E_iload_n C dX11_likely_0 1 rfl (E_iconst (v := -1) C dX11_likely_1 ic_m1 (E_icmp_eq C 13 dX11_likely_2 (by decide) (fun c2 => ?_) (fun c2 => ?_)))
      ·
        exact absurd c2 htm
      ·
        refine E_aload_n C dX11_likely_5 0 rfl (E_iload_n C dX11_likely_6 1 rfl (E_callVI C dX11_likely_7 mv_X11_149 0 _ (m_isThing hn hn8 (nI tn)) rfl rfl rfl (by decide) (Nat.le_of_ble_eq_true rfl) ?_))
        rintro _ _ ⟨rfl, rfl⟩
        refine E_if_eq C 20 dX11_likely_10 (by decide) (fun c10 => ?_) (fun c10 => ?_)
        ·
          exact absurd hth (ite_0 c10)
        ·
          refine E_iload_n C dX11_likely_13 2 rfl (E_callSI C dX11_likely_14 ms_X11_299 _ (m_isPart part) rfl rfl (by decide) (Nat.le_of_ble_eq_true rfl) ?_)
          rintro _ _ ⟨rfl, rfl⟩
          refine E_if_ne C 24 dX11_likely_17 (by decide) (fun c17 => ?_) (fun c17 => ?_)
          ·
            have n2 := ite_1 c17
            have n1 := bet_eq.mp n2
            obtain ⟨pn, hpn, hpc, rfl⟩ := n_of (k := 1) (m := 1) (x := part) rfl (Int32.not_lt.mpr n1.1) n1.2
            have ha : aLikely S (nI tn) (nI pn) = _ := if_pos ⟨Int32.le_of_lt (Int32.lt_of_lt_of_le (by decide) (nI_pos' (by omega))), nI_lt htn (by omega), n1⟩
            rw [hpc, belN_0, show likN S (nI tn) = ssum (fun q => if (whole S.1.2.1 S.1.2.2 q).2.1.testBit (nI tn).toNatClampNeg then wgt S.1.2.1 0 0 S.1.1 q else 0) (2 ^ S.1.1) from if_neg (nI_pos (by omega)), nI_clamp (show tn < 2 ^ 31 by omega)] at ha
            refine E_lconst (v := 0) C dX11_likely_24 rfl (E_lstore_n C dX11_likely_25 (by decide) (E_iconst (v := 0) C dX11_likely_26 ic_0 (E_istore C dX11_likely_27 (by decide) ?_)))
            have K : ∀ (mm i : Nat) (u1 : Nat → Int32) (v1 : Nat → Nat → Int32), i ≤ 2 ^ S.1.1 → 2 ^ S.1.1 < i + mm → Ev p l e R s m args below meth c 0 0 (EQ below (PL fun r w => r = aLikely S (nI tn) (nI pn) ∧ MR ad tc S w) args s D A) D A 6 (hm ad tc g h el u1 v1 sf) 29 [(5, .int (nI i)), (3, .long (lN (ssum (fun q => if (whole S.1.2.1 S.1.2.2 q).2.1.testBit tn then wgt S.1.2.1 0 0 S.1.1 q else 0) i))), (0, .ref (ad 0)), (1, .int (nI tn)), (2, .int (nI pn))] [] := by
              intro mm
              induction mm with
              | zero => intro i u1 v1 h1 h2; exfalso; omega
              | succ mm ih =>
                intro i u1 v1 hi1 hi2
                refine E_iload C dX11_likely_29 0 rfl (E_aload_n C dX11_likely_31 2 rfl (E_callVI C dX11_likely_32 mv_X11_262 0 _ (m_allThings hn hn8) rfl rfl rfl (by decide) (Nat.le_of_ble_eq_true rfl) ?_))
                rintro _ _ ⟨rfl, rfl⟩
                refine E_icmp_gt C 85 dX11_likely_35 (by decide) (fun c35 => ?_) (fun c35 => ?_)
                ·
                  have hi : i = 2 ^ S.1.1 := by
                    rcases Nat.lt_or_ge i (2 ^ S.1.1) with q | q
                    · exact absurd (show nI (2 ^ S.1.1 - 1) < nI i from c35) (nI_nlt (by omega) (by omega))
                    · omega
                  refine E_lload_n C dX11_likely_85 1 rfl (E_aload_n C dX11_likely_86 2 rfl (mg_11_1 C dX11_likely_87 f_X11_115 ?_))
                  refine Ev.seti hn ?_
                  refine E_callSL C dX11_likely_90 ms_X11_311 _ (m_power (by omega)) rfl rfl (by decide) (Nat.le_of_ble_eq_true rfl) ?_
                  rintro _ _ ⟨rfl, rfl⟩
                  refine E_iload_n C dX11_likely_93 4 rfl ?_
                  rw [hi]
                  refine E_callSL C dX11_likely_94 ms_X11_314 _ (m_asPart (ab := ssum (fun q => if (whole S.1.2.1 S.1.2.2 q).2.1.testBit tn then wgt S.1.2.1 0 0 S.1.1 q else 0) (2 ^ S.1.1)) (ways_lt hB hn8 _) (p12 (by omega)) (Nat.pow_pos (by decide)) hpn) rfl rfl (by decide) (Nat.le_of_ble_eq_true rfl) ?_
                  rintro _ _ ⟨rfl, rfl⟩
                  refine E_lretL C hr hlk dX11_likely_97 ?_
                  exact ⟨ha.symm, ⟨g, h, el, _, _, sf, rfl, M⟩⟩
                ·
                  have hi : i < 2 ^ S.1.1 := by
                    rcases Nat.lt_or_ge i (2 ^ S.1.1) with q | q
                    · exact q
                    · exact absurd (show nI (2 ^ S.1.1 - 1) < nI i from nI_lt (by omega) (by omega)) c35
                  refine E_aload_n C dX11_likely_38 2 rfl (E_iload C dX11_likely_39 0 rfl (E_callVV C dX11_likely_41 mv_X11_287 0 _ (m_goDrive hA hML hi) rfl rfl rfl (by decide) (Nat.le_of_ble_eq_true rfl) ?_))
                  rintro _ ⟨u2, v2, rfl, hq, ku, kv⟩
                  have hwi := whole_inv hB (L := S.1.2.2) (fo := i) (by omega)
                  have hgl8 : (whole S.1.2.1 S.1.2.2 i).2.2.2.1.length ≤ 8 := by rw [hwi.2.2]; exact pop_le _
                  refine E_iload_n C dX11_likely_44 3 rfl (E_if_ge C 58 dX11_likely_45 (by decide) (fun c45 => ?_) (fun c45 => ?_))
                  ·
                    refine E_aload_n C dX11_likely_58 2 rfl (mg_11_32 C dX11_likely_59 f_X11_243 ?_)
                    refine Ev.seti hq.2.2.1 ?_
                    refine E_iload_n C dX11_likely_62 3 rfl (E_ishr C dX11_likely_63 (E_iconst (v := 1) C dX11_likely_64 ic_1 (E_iand C dX11_likely_65 (E_iconst (v := 1) C dX11_likely_66 ic_1 (E_icmp_ne C 79 dX11_likely_67 (by decide) (fun c67 => ?_) (fun c67 => ?_))))))
                    ·
                      have hy : ¬ (whole S.1.2.1 S.1.2.2 i).2.1.testBit tn = true := fun q => c67 ((nx_bitE _ tn (by have := hwi.2.1; omega) (by omega)).mpr q)
                      have hs : ssum (fun q => if (whole S.1.2.1 S.1.2.2 q).2.1.testBit tn then wgt S.1.2.1 0 0 S.1.1 q else 0) (i + 1) = ssum (fun q => if (whole S.1.2.1 S.1.2.2 q).2.1.testBit tn then wgt S.1.2.1 0 0 S.1.1 q else 0) i := by
                        show ssum (fun q => if (whole S.1.2.1 S.1.2.2 q).2.1.testBit tn then wgt S.1.2.1 0 0 S.1.1 q else 0) i + (if _ then _ else _) = _
                        rw [if_neg hy]
                        rfl
                      rw [← hs]
                      refine E_iinc C dX11_likely_79 0 rfl (nI_1 i) (by decide) (E_goto C 29 dX11_likely_82 (by decide) ?_)
                      exact ih (i + 1) _ _ (by omega) (by omega)
                    ·
                      have hy : (whole S.1.2.1 S.1.2.2 i).2.1.testBit tn = true := (nx_bitE _ tn (by have := hwi.2.1; omega) (by omega)).mp c67
                      have hs : ssum (fun q => if (whole S.1.2.1 S.1.2.2 q).2.1.testBit tn then wgt S.1.2.1 0 0 S.1.1 q else 0) (i + 1) = ssum (fun q => if (whole S.1.2.1 S.1.2.2 q).2.1.testBit tn then wgt S.1.2.1 0 0 S.1.1 q else 0) i + wgt S.1.2.1 0 0 S.1.1 i := by
                        show ssum (fun q => if (whole S.1.2.1 S.1.2.2 q).2.1.testBit tn then wgt S.1.2.1 0 0 S.1.1 q else 0) i + (if _ then _ else _) = _
                        rw [if_pos hy]
                      refine E_lload_n C dX11_likely_70 1 rfl (E_aload_n C dX11_likely_71 2 rfl (E_iload C dX11_likely_72 0 rfl (E_callVL C dX11_likely_74 mv_X11_295 0 _ (m_likelyOf hA hi) rfl rfl rfl (by decide) (Nat.le_of_ble_eq_true rfl) ?_)))
                      rintro _ _ ⟨rfl, rfl⟩
                      refine E_ladd C dX11_likely_77 ?_
                      refine Ev.setl ((lN_add _ _).trans (congrArg lN hs.symm)) ?_
                      refine E_lstore_n C dX11_likely_78 (by decide) (E_iinc C dX11_likely_79 1 rfl (nI_1 i) (by decide) (E_goto C 29 dX11_likely_82 (by decide) ?_))
                      exact ih (i + 1) _ _ (by omega) (by omega)
                  ·
                    exact absurd (nI_pos' (by omega)) c45
            exact Ev.sub [0, 1, 2, 3, 4] rfl (K (2 ^ S.1.1 + 1) 0 u v (by omega) (by omega))
          ·
            have n2 := ite_0 c17
            refine E_ldc2 C k_X11_302 dX11_likely_20 (E_lretL C hr hlk dX11_likely_23 ?_)
            exact ⟨(if_neg fun q => n2 (bet_eq.mpr q.2.2)).symm, ⟨g, h, el, u, v, sf, rfl, M⟩⟩
    ·
      refine Ct.of (by decide +kernel) (Nat.le_of_ble_eq_true rfl) ?_
      intro p e R s m args below meth c A C hr hlk
      refine E_iload_n C dX11_likely_0 1 rfl (E_iconst (v := -1) C dX11_likely_1 ic_m1 (E_icmp_eq C 13 dX11_likely_2 (by decide) (fun c2 => ?_) (fun c2 => ?_)))
      ·
        exact absurd c2 htm
      ·
        refine E_aload_n C dX11_likely_5 0 rfl (E_iload_n C dX11_likely_6 1 rfl (E_callVI C dX11_likely_7 mv_X11_149 0 _ (m_isThing hn hn8 t0) rfl rfl rfl (by decide) (Nat.le_of_ble_eq_true rfl) ?_))
        rintro _ _ ⟨rfl, rfl⟩
        refine E_if_eq C 20 dX11_likely_10 (by decide) (fun c10 => ?_) (fun c10 => ?_)
        ·
          refine E_ldc2 C k_X11_302 dX11_likely_20 (E_lretL C hr hlk dX11_likely_23 ?_)
          refine ⟨(if_neg fun q => hth ?_).symm, ⟨g, h, el, u, v, sf, rfl, M⟩⟩
          obtain ⟨q1, q2, -⟩ := q
          refine decide_eq_true ?_
          rw [Int32.lt_iff_toInt_lt, nI_toInt (by omega)] at q2
          rw [Int32.le_iff_toInt_le] at q1
          have q3 : t0.toInt ≠ -1 := fun z => htm (Int32.toInt_inj.mp z)
          have z1 : (-1 : Int32).toInt = -1 := rfl
          omega
        ·
          exact absurd (ite_1 c10) hth
