/-! the reference: one thing on the doorstep, a list of some -/
theorem wgt_door {N : Nat → Nat → Nat} {t σ : Nat} : ∀ i, wgt (upN N 1 t 0) 0 0 i σ = wgt N (2 ^ t) 0 i σ
  | 0 => rfl
  | i + 1 => by
    have e : lostN (upN N 1 t 0) 0 0 i = lostN N (2 ^ t) 0 i := by
      rw [lost_0]
      unfold lostN upN
      rw [Nat.zero_testBit, Nat.testBit_two_pow]
      by_cases q : t = i
      · rw [decide_eq_true q, if_pos ⟨rfl, q.symm⟩]
        rfl
      · rw [decide_eq_false q, if_neg (fun z => q z.2.symm)]
        exact (Nat.mul_one _).symm
    show wgt (upN N 1 t 0) 0 0 i σ * (if σ.testBit i then lostN (upN N 1 t 0) 0 0 i else allN 0 i - lostN (upN N 1 t 0) 0 0 i) = wgt N (2 ^ t) 0 i σ * (if σ.testBit i then lostN N (2 ^ t) 0 i else allN 0 i - lostN N (2 ^ t) 0 i)
    rw [wgt_door i, e]
theorem upd_back {h : Nat → Nat → Int32} {k i : Nat} {x : Int32} : va_up (va_up h k (upd (h k) i x)) k (upd (va_up h k (upd (h k) i x) k) i (h k i)) = h := by
  funext a
  by_cases e : a = k
  · subst e
    rw [vus, vus]
    funext j
    by_cases q : j = i
    · subst q; exact if_pos rfl
    · exact (if_neg q).trans (if_neg q)
  · rw [vun e, vun e]
theorem bdF_c {f : Nat → Nat} {k : Nat} (h : f k < (bdF f k).2) : bdF f (k + 1) = (k, f k) := if_pos h
theorem bdF_d {f : Nat → Nat} {k : Nat} (h : ¬ f k < (bdF f k).2) : bdF f (k + 1) = bdF f k := if_neg h
theorem bdF_2 {f : Nat → Nat} {n : Nat} (h : ∀ t, t < n → f t < 9223372036854775807) : ∀ k, k < n → (bdF f (k + 1)).2 = f (bdF f (k + 1)).1
  | 0, hk => by
    rw [bdF_c (show f 0 < (bdF f 0).2 from h 0 hk)]
  | k + 1, hk => by
    by_cases e : f (k + 1) < (bdF f (k + 1)).2
    · rw [bdF_c e]
    · rw [bdF_d e]
      exact bdF_2 h k (by omega)
theorem csum_max {N : Nat → Nat → Nat} (hB : Bd N) {L : Nat → Nat → Nat → Nat → Nat → Nat} (hL : ∀ n p k w s, L n p k w s ≤ 60) {n : Nat} (hn : n ≤ 8) (nv : Nat) {li : Nat} (h3 : pop li ≤ 0) : csumN N L n nv li * 1728 < 9223372036854775807 := by
  have h1 := csum_le hB hL hn nv li
  have h2 := belN_le (li := li) hn h3
  have h4 : belN li n * 27000 ≤ 12 ^ 8 * 12 ^ 0 * 27000 := Nat.mul_le_mul_right _ h2
  have h5 : csumN N L n nv li * 1728 ≤ 12 ^ 8 * 12 ^ 0 * 27000 * 1728 := Nat.mul_le_mul_right _ (Nat.le_trans h1 h4)
  exact Nat.lt_of_le_of_lt h5 (by decide)
theorem lost_l {N : Nat → Nat → Nat} {li i : Nat} (h : li.testBit i = true) : lostN N 0 li i = N 1 i * pop li := by
  unfold lostN
  rw [Nat.zero_testBit, if_pos h]
  rfl
theorem lost_n {N : Nat → Nat → Nat} {li i : Nat} (h : ¬ li.testBit i = true) : lostN N 0 li i = N 1 i := by
  unfold lostN
  rw [Nat.zero_testBit, if_neg h]
  exact Nat.mul_one _
theorem scl_p : ∀ c, c ≤ 3 → 12 ^ (3 - c) = sclN c := by decide
theorem pop_00 : pop 0 = 0 := by decide
theorem pop_ne : ∀ q, q < 256 → q ≠ 0 → pop q ≠ 0 := by decide +kernel
theorem blI_s {F : Nat → Nat} {s i : Nat} {st : Nat × Nat} (h : ¬ pop i = s) : blI F s st (i + 1) = blI F s st i := if_neg h
theorem blI_c {F : Nat → Nat} {s i : Nat} {st : Nat × Nat} (h : pop i = s) (h2 : F i < (blI F s st i).2) : blI F s st (i + 1) = (i, F i) := (if_pos h).trans (if_pos h2)
theorem blI_d {F : Nat → Nat} {s i : Nat} {st : Nat × Nat} (h : pop i = s) (h2 : ¬ F i < (blI F s st i).2) : blI F s st (i + 1) = blI F s st i := (if_pos h).trans (if_neg h2)
theorem blO_one {F : Nat → Nat} {n : Nat} (hn : n ≤ 8) (h : F 0 * 1728 < 9223372036854775807) : blO F n 1 = (0, F 0 * 1728) := by
  have hp := p256 hn
  have k : ∀ i, i < 2 ^ n → blI (fun q => F q * sclN 0) 0 (blO F n 0) (i + 1) = (0, F 0 * 1728) := by
    intro i
    induction i with
    | zero =>
      intro _
      rw [blI_c pop_00 (show F 0 * sclN 0 < (blO F n 0).2 from h)]
      rfl
    | succ i ih =>
      intro hi
      rw [blI_s (pop_ne _ (by omega) (by omega)), ih (by omega)]
  have h1 := Nat.two_pow_pos n
  have k2 := k (2 ^ n - 1) (by omega)
  rw [show 2 ^ n - 1 + 1 = 2 ^ n by omega] at k2
  exact k2
/-- the best and what it costs -/
def BLv (F : Nat → Nat) (n : Nat) (st : Nat × Nat) : Prop := st.1 < 2 ^ n ∧ pop st.1 ≤ 3 ∧ st.2 = F st.1 * sclN (pop st.1)
theorem blI_v {F : Nat → Nat} {n s : Nat} (hs : s ≤ 3) {st : Nat × Nat} (h : BLv F n st) : ∀ i, i ≤ 2 ^ n → BLv F n (blI (fun q => F q * sclN s) s st i)
  | 0, _ => h
  | i + 1, hi => by
    by_cases e : pop i = s
    · by_cases q : F i * sclN s < (blI (fun q => F q * sclN s) s st i).2
      · rw [blI_c (F := fun q => F q * sclN s) e q]
        exact ⟨hi, by rw [e]; exact hs, by rw [e]⟩
      · rw [blI_d (F := fun q => F q * sclN s) e q]
        exact blI_v hs h i (by omega)
    · rw [blI_s e]
      exact blI_v hs h i (by omega)
theorem blO_v {F : Nat → Nat} {n : Nat} (hn : n ≤ 8) (h : F 0 * 1728 < 9223372036854775807) : ∀ s, s ≤ 3 → BLv F n (blO F n (s + 1))
  | 0, _ => by
    rw [blO_one hn h]
    exact ⟨Nat.two_pow_pos n, (show pop 0 ≤ 3 by decide), (by show F 0 * 1728 = F 0 * sclN (pop 0); rw [pop_00]; rfl)⟩
  | s + 1, hs => blI_v hs (blO_v hn h s (by omega)) (2 ^ n) (Nat.le_refl _)
theorem popB_n {li n : Nat} (h : li < 2 ^ n) : ∀ b, popB li (n + b) = popB li n
  | 0 => rfl
  | b + 1 => by
    show popB li (n + b) + (li.testBit (n + b)).toNat = _
    rw [popB_n h b, Nat.testBit_lt_two_pow (Nat.lt_of_lt_of_le h (Nat.pow_le_pow_right (by decide) (Nat.le_add_right _ _)))]
    rfl
theorem bel_scl {li n : Nat} (hn : n ≤ 8) (h : li < 2 ^ n) (h3 : pop li ≤ 3) : belN li n * sclN (pop li) = 12 ^ (n + 3) := by
  have e : popB li n = pop li := by
    have k := popB_n h (8 - n)
    rw [show n + (8 - n) = 8 by omega, popB_8] at k
    exact k.symm
  rw [belN_eq, e, ← scl_p _ h3, Nat.mul_assoc, ← Nat.pow_add, ← Nat.pow_add]
  congr 1
  omega
theorem lowT_mul {a b p k : Nat} (hk : 0 < k) (hb : 0 < b) : lowT (a * k) (b * k) p = lowT a b p := by
  unfold lowT
  rw [Nat.gcd_mul_right]
  have hg : 0 < Nat.gcd b a := Nat.gcd_pos_of_pos_left _ hb
  by_cases e : p = 0
  · rw [if_pos e, if_pos e, Nat.mul_div_mul_right _ _ hk]
  · rw [if_neg e, if_neg e, Nat.mul_div_mul_right _ _ hk]
theorem lg_neg {a b : Nat} (ha : a < 2 ^ 63) (hb : b < 2 ^ 63) : lg_cmp (lN a) (lN b) < 0 ↔ a < b := by
  have k := lg_lt ha hb
  rw [← Int32.not_le, k]
  omega
set_option maxRecDepth 100000 in
set_option maxHeartbeats 4000000 in
theorem q_doorstep {l : Launch} {D : va_G} {tc tt ad : Nat → Nat} {S : STT} {w0 : va_W} (hM : MR ad tc S w0) (part : Int32) : Ct l yX11_doorstep cX11_doorstep 9 (some .long) 9 D tc tt [.ref (ad 0), .int part] (w0) (PL fun r w => r = aDoor S part ∧ MR ad tc S w) := by
  obtain ⟨g, h, el, u, v, sf, rfl, M⟩ := hM
  have hA := M.1
  have hn := M.1.1
  have hn8 := M.1.2.1
  have hML := M.2.2.2.2.2.2.2
  have hB := hA.2.2.2.2.1
  have hp1 := Nat.two_pow_pos S.1.1
  have hp256 := p256 hn8
  refine Ct.of (by decide +kernel) (Nat.le_of_ble_eq_true rfl) ?_
  intro p e R s m args below meth c A C hr hlk
  refine E_iload_n C dX11_doorstep_0 1 rfl (E_iconst (v := 0) C dX11_doorstep_1 ic_0 (E_iconst (v := 2) C dX11_doorstep_2 ic_2 (E_callSI C dX11_doorstep_3 ms_X11_118 _ (m_in part 0 2) rfl rfl (by decide) (Nat.le_of_ble_eq_true rfl) ?_)))
  rintro _ _ ⟨rfl, rfl⟩
  refine E_if_ne C 13 dX11_doorstep_6 (by decide) (fun c6 => ?_) (fun c6 => ?_)
  ·
    have n0 := ite_1 c6
    have n1 := bet_eq.mp n0
    obtain ⟨pn, hpn, hpc, rfl⟩ := n_of (k := 2) (m := 2) (x := part) rfl (Int32.not_lt.mpr n1.1) n1.2
    have ha0 : aDoor S (nI pn) = _ := if_pos n1
    rw [hpc] at ha0
    refine E_aload_n C dX11_doorstep_13 0 rfl (mg_11_1 C dX11_doorstep_14 f_X11_115 ?_)
    refine Ev.seti hn ?_
    refine E_if_ne C 24 dX11_doorstep_17 (by decide) (fun c17 => ?_) (fun c17 => ?_)
    ·
      have hn0 : ¬ S.1.1 = 0 := fun q => c17 (by rw [q]; rfl)
      have ha := ha0.trans (if_neg hn0)
      refine E_aload_n C dX11_doorstep_24 0 rfl (E_callVV C dX11_doorstep_25 mv_X11_304 0 _ (m_findCosts hA hML) rfl rfl rfl (by decide) (Nat.le_of_ble_eq_true rfl) ?_)
      rintro _ ⟨u2, v2, rfl, hc, ku⟩
      have hLe := MLw.le hML
      have hcb : ∀ q, q < 2 ^ S.1.1 → v2 40 q = nI (costT S.1.2.1 (whole S.1.2.1 S.1.2.2 q)) ∧ costT S.1.2.1 (whole S.1.2.1 S.1.2.2 q) < 2 ^ 31 := fun q hq => ⟨hc q hq, Nat.lt_of_le_of_lt (cost_le hB hLe (by omega)) (by decide)⟩
      refine E_iconst (v := -1) C dX11_doorstep_28 ic_m1 (E_istore_n C dX11_doorstep_29 (by decide) (E_lconst (v := 0) C dX11_doorstep_30 rfl (E_lstore_n C dX11_doorstep_31 (by decide) (E_iconst (v := 0) C dX11_doorstep_32 ic_0 (E_istore C dX11_doorstep_33 (by decide) ?_)))))
      have hdn : dorN S = (bdF (fun t => cN S (2 ^ t) 0) S.1.1).1 := rfl
      have K : ∀ (mm i : Nat) (bb : Int32) (ll : Int64), i ≤ S.1.1 → S.1.1 < i + mm → ((i = 0 ∧ bb = -1 ∧ ll = 0) ∨ (1 ≤ i ∧ bb = nI (bdF (fun t => cN S (2 ^ t) 0) i).1 ∧ ll = lN (bdF (fun t => cN S (2 ^ t) 0) i).2)) → Ev p l e R s m args below meth c 0 0 (EQ below (PL fun r w => r = aDoor S (nI pn) ∧ MR ad tc S w) args s D A) D A 9 (hm ad tc g h el u2 v2 sf) 35 [(5, .int (nI i)), (3, .long ll), (2, .int bb), (0, .ref (ad 0)), (1, .int (nI pn))] [] := by
        intro mm
        induction mm with
        | zero => intro i bb ll h1 h2; exfalso; omega
        | succ mm ih =>
          intro i bb ll hi1 hi2 hst
          refine E_iload C dX11_doorstep_35 0 rfl (E_aload_n C dX11_doorstep_37 3 rfl (mg_11_1 C dX11_doorstep_38 f_X11_115 ?_))
          refine Ev.seti hn ?_
          refine E_icmp_ge C 102 dX11_doorstep_41 (by decide) (fun c41 => ?_) (fun c41 => ?_)
          ·
            have hiN : i = S.1.1 := by
              rcases Nat.lt_or_ge i S.1.1 with q | q
              · exact absurd (show nI S.1.1 ≤ nI i from c41) (nI_ge q (by omega))
              · omega
            have hne : ¬ i = 0 := by omega
            obtain ⟨h1i, rfl, rfl⟩ : 1 ≤ i ∧ bb = nI (bdF (fun t => cN S (2 ^ t) 0) i).1 ∧ ll = lN (bdF (fun t => cN S (2 ^ t) 0) i).2 := by
              rcases hst with ⟨z, -, -⟩ | z
              · exact absurd z hne
              · exact z
            have hb1 : (bdF (fun t => cN S (2 ^ t) 0) i).1 < i := bdF_1 (by omega) i (Nat.le_refl _)
            have hb2 : (bdF (fun t => cN S (2 ^ t) 0) i).2 = cN S (2 ^ (bdF (fun t => cN S (2 ^ t) 0) i).1) 0 := by
              have k := bdF_2 (f := (fun t => cN S (2 ^ t) 0)) (n := i) (fun t ht => Nat.lt_of_le_of_lt (Nat.le_mul_of_pos_right _ (by decide)) (csum_max hB hLe hn8 (2 ^ t) (li := 0) (by decide))) (i - 1) (by omega)
              rw [show i - 1 + 1 = i by omega] at k
              exact k
            rw [← hiN] at hdn
            rw [hdn, belN_0] at ha
            refine E_iload_n C dX11_doorstep_102 4 rfl (E_iconst (v := 2) C dX11_doorstep_103 ic_2 (E_icmp_ne C 112 dX11_doorstep_104 (by decide) (fun c104 => ?_) (fun c104 => ?_)))
            ·
              have hp2 : ¬ pn = 2 := fun q => c104 (by rw [q]; rfl)
              have ha2 := ha.trans (if_neg (fun q => hp2 ((nI_eq (b := 2) (by omega) (by decide)).mp q)))
              refine E_lload_n C dX11_doorstep_112 1 rfl (E_aload_n C dX11_doorstep_113 3 rfl (mg_11_1 C dX11_doorstep_114 f_X11_115 ?_))
              refine Ev.seti hn ?_
              refine E_callSL C dX11_doorstep_117 ms_X11_311 _ (m_power (by omega)) rfl rfl (by decide) (Nat.le_of_ble_eq_true rfl) ?_
              rintro _ _ ⟨rfl, rfl⟩
              refine E_iload_n C dX11_doorstep_120 4 rfl ?_
              rw [hb2]
              refine E_callSL C dX11_doorstep_121 ms_X11_314 _ (m_asPart (csum_lt hB hLe hn8 _ (li := 0) (by decide)) (p12 (by omega)) (Nat.pow_pos (by decide)) (show pn ≤ 1 by omega)) rfl rfl (by decide) (Nat.le_of_ble_eq_true rfl) ?_
              rintro _ _ ⟨rfl, rfl⟩
              refine E_lretL C hr hlk dX11_doorstep_124 ?_
              exact ⟨ha2.symm, ⟨g, h, el, _, _, sf, rfl, M⟩⟩
            ·
              have ha2 := ha.trans (if_pos c104)
              refine E_iload_n C dX11_doorstep_107 2 rfl (E_i2l C dX11_doorstep_108 ?_)
              refine Ev.setl (nI_l (by omega)) ?_
              refine E_goto C 124 dX11_doorstep_109 (by decide) (E_lretL C hr hlk dX11_doorstep_124 ?_)
              exact ⟨ha2.symm, ⟨g, h, el, _, _, sf, rfl, M⟩⟩
          ·
            have hi : i < S.1.1 := by
              rcases Nat.lt_or_ge i S.1.1 with q | q
              · exact q
              · exact absurd (show nI S.1.1 ≤ nI i from nI_le q (by omega)) c41
            refine E_aload_n C dX11_doorstep_44 3 rfl (mg_11_3 C dX11_doorstep_45 f_X11_15 (E_iload C dX11_doorstep_48 0 rfl (ma_2 C dX11_doorstep_50 (vinN (by omega)) ?_)))
            rw [nI_clamp (show i < 2 ^ 31 by omega)]
            refine E_istore C dX11_doorstep_51 (by decide) (E_aload_n C dX11_doorstep_53 4 rfl (mg_11_3 C dX11_doorstep_54 f_X11_15 (E_iload C dX11_doorstep_57 1 rfl (E_iconst (v := 0) C dX11_doorstep_59 ic_0 (ms_2 C dX11_doorstep_60 (vinN (by omega)) ?_)))))
            rw [nI_clamp (show i < 2 ^ 31 by omega)]
            refine E_aload_n C dX11_doorstep_61 4 rfl (E_callVL C dX11_doorstep_62 mv_X11_307 0 _ (m_meanNow (N := upN S.1.2.1 1 i 0) (co := (fun q => costT S.1.2.1 (whole S.1.2.1 S.1.2.2 q))) (hA.lay (k := 1) (j := i) (y := 0) (by decide) hi (by decide)) hcb) rfl rfl rfl (by decide) (Nat.le_of_ble_eq_true rfl) ?_)
            rintro _ _ ⟨rfl, rfl⟩
            refine Ev.setl (show _ = lN (cN S (2 ^ i) 0) from congrArg lN (ssum_eq _ (fun q _ => by rw [wgt_door]))) ?_
            refine E_lstore C dX11_doorstep_65 (by decide) (E_aload_n C dX11_doorstep_67 5 rfl (mg_11_3 C dX11_doorstep_68 f_X11_15 (E_iload C dX11_doorstep_71 2 rfl (E_iload C dX11_doorstep_73 1 rfl (ms_2 C dX11_doorstep_75 (vinN (by omega)) ?_)))))
            rw [nI_clamp (show i < 2 ^ 31 by omega)]
            refine Ev.setw (ws' := hm ad tc g h el u2 v2 sf) (congrArg (fun q => hm ad tc g q el u2 v2 sf) upd_back) ?_
            refine E_iload_n C dX11_doorstep_76 4 rfl ?_
            have hFi : cN S (2 ^ i) 0 < 9223372036854775807 := Nat.lt_of_le_of_lt (Nat.le_mul_of_pos_right _ (by decide)) (csum_max hB hLe hn8 (2 ^ i) (li := 0) (by decide))
            rcases hst with ⟨hi0, rfl, rfl⟩ | ⟨hi1, rfl, rfl⟩
            ·
              refine E_if_lt C 90 dX11_doorstep_77 (by decide) (fun c77 => ?_) (fun c77 => ?_)
              ·
                have hs : bdF (fun t => cN S (2 ^ t) 0) (i + 1) = (i, cN S (2 ^ i) 0) := by
                  subst hi0
                  exact bdF_c (f := (fun t => cN S (2 ^ t) 0)) hFi
                refine E_iload C dX11_doorstep_90 2 rfl (E_istore_n C dX11_doorstep_92 (by decide) (E_lload C dX11_doorstep_93 1 rfl (E_lstore_n C dX11_doorstep_95 (by decide) (E_iinc C dX11_doorstep_96 4 rfl (nI_1 i) (by decide) (E_goto C 35 dX11_doorstep_99 (by decide) ?_)))))
                exact Ev.sub [0, 1, 2, 5, 6] rfl (ih (i + 1) _ _ (by omega) (by omega) (Or.inr ⟨by omega, by rw [hs], by rw [hs]⟩))
              ·
                exact absurd (by decide) c77
            ·
              have hbl : (bdF (fun t => cN S (2 ^ t) 0) i).2 < 2 ^ 63 := bdF_lt (n := S.1.1) (fun t ht => csum_lt hB hLe hn8 (2 ^ t) (li := 0) (by decide)) i (by omega)
              have hb1 : (bdF (fun t => cN S (2 ^ t) 0) i).1 < S.1.1 := bdF_1 (by omega) i (by omega)
              refine E_if_lt C 90 dX11_doorstep_77 (by decide) (fun c77 => ?_) (fun c77 => ?_)
              ·
                exact absurd c77 (nI_pos (by omega))
              ·
                refine E_lload C dX11_doorstep_80 0 rfl (E_lload_n C dX11_doorstep_82 3 rfl (E_lcmp C dX11_doorstep_83 (E_if_lt C 90 dX11_doorstep_84 (by decide) (fun c84 => ?_) (fun c84 => ?_))))
                ·
                  have hs : bdF (fun t => cN S (2 ^ t) 0) (i + 1) = (i, cN S (2 ^ i) 0) := bdF_c (f := (fun t => cN S (2 ^ t) 0)) ((lg_neg (by omega) hbl).mp c84)
                  refine E_iload C dX11_doorstep_90 2 rfl (E_istore_n C dX11_doorstep_92 (by decide) (E_lload C dX11_doorstep_93 1 rfl (E_lstore_n C dX11_doorstep_95 (by decide) (E_iinc C dX11_doorstep_96 4 rfl (nI_1 i) (by decide) (E_goto C 35 dX11_doorstep_99 (by decide) ?_)))))
                  exact Ev.sub [0, 1, 2, 5, 6] rfl (ih (i + 1) _ _ (by omega) (by omega) (Or.inr ⟨by omega, by rw [hs], by rw [hs]⟩))
                ·
                  have hs : bdF (fun t => cN S (2 ^ t) 0) (i + 1) = bdF (fun t => cN S (2 ^ t) 0) i := bdF_d (f := (fun t => cN S (2 ^ t) 0)) (fun q => c84 ((lg_neg (by omega) hbl).mpr q))
                  refine E_goto C 96 dX11_doorstep_87 (by decide) (E_iinc C dX11_doorstep_96 2 rfl (nI_1 i) (by decide) (E_goto C 35 dX11_doorstep_99 (by decide) ?_))
                  exact Ev.sub [0, 3, 4, 5, 6] rfl (ih (i + 1) _ _ (by omega) (by omega) (Or.inr ⟨by omega, by rw [hs], by rw [hs]⟩))
      exact Ev.sub [0, 1, 2, 3, 4] rfl (K (S.1.1 + 1) 0 _ _ (by omega) (by omega) (Or.inl ⟨rfl, rfl, rfl⟩))
    ·
      have hz : S.1.1 = 0 := (nI_eq (b := 0) (by omega) (by decide)).mp c17
      refine E_ldc2 C k_X11_324 dX11_doorstep_20 (E_lretL C hr hlk dX11_doorstep_23 ?_)
      exact ⟨(ha0.trans (if_pos hz)).symm, ⟨g, h, el, u, v, sf, rfl, M⟩⟩
  ·
    have n0 := ite_0 c6
    refine E_ldc2 C k_X11_302 dX11_doorstep_9 (E_lretL C hr hlk dX11_doorstep_12 ?_)
    exact ⟨(if_neg fun q => n0 (bet_eq.mpr q)).symm, ⟨g, h, el, u, v, sf, rfl, M⟩⟩
theorem all_n {li i : Nat} (h : ¬ li.testBit i = true) : allN li i = 12 := if_neg h
theorem all_l {li i : Nat} (h : li.testBit i = true) : allN li i = 144 := if_pos h
set_option maxRecDepth 100000 in
set_option maxHeartbeats 4000000 in
theorem m_meanBy {l : Launch} {D : va_G} {tc tt ad : Nat → Nat} {g : Nat → Int32} {h : Nat → Nat → Int32} {el : Nat → Int64} {u : Nat → Int32} {v : Nat → Nat → Int32} {sf : Nat → Int64} {n : Nat} {N : Nat → Nat → Nat} (hA : MA n N g h) {co : Nat → Nat} (hc : ∀ q, q < 2 ^ n → v 40 q = nI (co q) ∧ co q < 2 ^ 31) {li : Nat} (hli : li < 2 ^ n) (h3 : pop li ≤ 3) : Ct l yX11_meanBy cX11_meanBy 10 (some .long) 2 D tc tt [.ref (ad 0), .int (nI li)] (hm ad tc g h el u v sf) (PL fun r w => r = lN ((ssum (fun q => wgt N 0 li n q * co q) (2 ^ n)) * sclN (pop li)) ∧ w = hm ad tc g h el u v sf) := by
  have hn := hA.1
  have hn8 := hA.2.1
  have hp := p256 hn8
  have hp1 := Nat.two_pow_pos n
  have hB := hA.2.2.2.2.1
  refine Ct.of (by decide +kernel) (Nat.le_of_ble_eq_true rfl) ?_
  intro p e R s m args below meth c A C hr hlk
  refine E_iload_n C dX11_meanBy_0 1 rfl (E_callSI C dX11_meanBy_1 ms_X11_318 _ (m_bitsOf li (by omega)) rfl rfl (by decide) (Nat.le_of_ble_eq_true rfl) ?_)
  rintro _ _ ⟨rfl, rfl⟩
  refine E_istore_n C dX11_meanBy_4 (by decide) (E_lconst (v := 0) C dX11_meanBy_5 rfl (E_lstore_n C dX11_meanBy_6 (by decide) (E_iconst (v := 0) C dX11_meanBy_7 ic_0 (E_istore C dX11_meanBy_8 (by decide) ?_))))
  have K : ∀ (mm q : Nat), q ≤ 2 ^ n → 2 ^ n < q + mm → Ev p l e R s m args below meth c 0 0 (EQ below (PL fun r w => r = lN ((ssum (fun q => wgt N 0 li n q * co q) (2 ^ n)) * sclN (pop li)) ∧ w = hm ad tc g h el u v sf) args s D A) D A 10 (hm ad tc g h el u v sf) 10 [(5, .int (nI q)), (3, .long (lN (ssum (fun q => wgt N 0 li n q * co q) q))), (2, .int (nI (pop li))), (0, .ref (ad 0)), (1, .int (nI li))] [] := by
    intro mm
    induction mm with
    | zero => intro q h1 h2; exfalso; omega
    | succ mm ih =>
      intro q hq1 hq2
      refine E_iload C dX11_meanBy_10 0 rfl (E_aload_n C dX11_meanBy_12 3 rfl (E_callVI C dX11_meanBy_13 mv_X11_262 0 _ (m_allThings hn hn8) rfl rfl rfl (by decide) (Nat.le_of_ble_eq_true rfl) ?_))
      rintro _ _ ⟨rfl, rfl⟩
      refine E_icmp_gt C 157 dX11_meanBy_16 (by decide) (fun c16 => ?_) (fun c16 => ?_)
      ·
        have hi : q = 2 ^ n := by
          rcases Nat.lt_or_ge q (2 ^ n) with zz | zz
          · exact absurd (show nI (2 ^ n - 1) < nI q from c16) (nI_nlt (by omega) (by omega))
          · omega
        refine E_lload_n C dX11_meanBy_157 1 rfl (E_iconst (v := 3) C dX11_meanBy_158 ic_3 (E_iload_n C dX11_meanBy_159 2 rfl ?_))
        refine E_isub C dX11_meanBy_160 ?_
        refine Ev.seti (show (3 : Int32) - nI (pop li) = nI (3 - pop li) from pk_sub (a := 3) h3) ?_
        refine E_callSL C dX11_meanBy_161 ms_X11_311 _ (m_power (by omega)) rfl rfl (by decide) (Nat.le_of_ble_eq_true rfl) ?_
        rintro _ _ ⟨rfl, rfl⟩
        refine Ev.setl (congrArg lN (scl_p _ h3)) ?_
        refine E_lmul C dX11_meanBy_164 ?_
        refine Ev.setl (lN_mul _ _) ?_
        refine E_lretL C hr hlk dX11_meanBy_165 ?_
        rw [← hi]
        exact ⟨rfl, rfl⟩
      ·
        have hi : q < 2 ^ n := by
          rcases Nat.lt_or_ge q (2 ^ n) with zz | zz
          · exact zz
          · exact absurd (show nI (2 ^ n - 1) < nI q from nI_lt (by omega) (by omega)) c16
        refine E_aload_n C dX11_meanBy_19 3 rfl (mg_11_40 C dX11_meanBy_20 f_X11_84 (E_iload C dX11_meanBy_23 0 rfl (ma_23 C dX11_meanBy_25 (vinN (by omega)) ?_)))
        rw [nI_clamp (show q < 2 ^ 31 by omega)]
        refine Ev.seti (hc q hi).1 ?_
        refine E_i2l C dX11_meanBy_26 ?_
        refine Ev.setl ((nI_l (hc q hi).2).trans (congrArg lN (Nat.mul_one _).symm)) ?_
        refine E_lstore C dX11_meanBy_27 (by decide) (E_iconst (v := 0) C dX11_meanBy_29 ic_0 (E_istore C dX11_meanBy_30 (by decide) ?_))
        have K2 : ∀ (m2 i : Nat), i ≤ n → n < i + m2 → Ev p l e R s m args below meth c 0 0 (EQ below (PL fun r w => r = lN ((ssum (fun q => wgt N 0 li n q * co q) (2 ^ n)) * sclN (pop li)) ∧ w = hm ad tc g h el u v sf) args s D A) D A 10 (hm ad tc g h el u v sf) 32 [(8, .int (nI i)), (6, .long (lN (co q * wgt N 0 li i q))), (5, .int (nI q)), (3, .long (lN (ssum (fun q => wgt N 0 li n q * co q) q))), (2, .int (nI (pop li))), (0, .ref (ad 0)), (1, .int (nI li))] [] := by
          intro m2
          induction m2 with
          | zero => intro i h1 h2; exfalso; omega
          | succ m2 ih2 =>
            intro i hi1 hi2
            refine E_iload C dX11_meanBy_32 0 rfl (E_aload_n C dX11_meanBy_34 5 rfl (mg_11_1 C dX11_meanBy_35 f_X11_115 ?_))
            refine Ev.seti hn ?_
            refine E_icmp_ge C 146 dX11_meanBy_38 (by decide) (fun c38 => ?_) (fun c38 => ?_)
            ·
              have hi : i = n := by
                rcases Nat.lt_or_ge i n with q | q
                · exact absurd (show nI n ≤ nI i from c38) (nI_ge q (by omega))
                · omega
              refine E_lload_n C dX11_meanBy_146 3 rfl (E_lload C dX11_meanBy_147 1 rfl (E_ladd C dX11_meanBy_149 ?_))
              rw [hi]
              refine Ev.setl (show _ = lN (ssum (fun q => wgt N 0 li n q * co q) (q + 1)) from (lN_add _ _).trans (congrArg lN (congrArg ((ssum (fun q => wgt N 0 li n q * co q) q) + ·) (Nat.mul_comm _ _)))) ?_
              refine E_lstore_n C dX11_meanBy_150 (by decide) (E_iinc C dX11_meanBy_151 3 rfl (nI_1 q) (by decide) (E_goto C 10 dX11_meanBy_154 (by decide) ?_))
              exact Ev.sub [0, 1, 4, 5, 6] rfl (ih (q + 1) (by omega) (by omega))
            ·
              have hi : i < n := by
                rcases Nat.lt_or_ge i n with q | q
                · exact q
                · exact absurd (show nI n ≤ nI i from nI_le q (by omega)) c38
              refine E_iload C dX11_meanBy_41 2 rfl (E_iload C dX11_meanBy_43 0 rfl (E_ishr C dX11_meanBy_45 (E_iconst (v := 1) C dX11_meanBy_46 ic_1 (E_iand C dX11_meanBy_47 (E_iconst (v := 1) C dX11_meanBy_48 ic_1 ?_)))))
              refine E_icmp_ne C 56 dX11_meanBy_49 (by decide) (fun c49 => ?_) (fun c49 => ?_)
              ·
                have hb : ¬ q.testBit i = true := fun z => c49 ((nx_bitE q i (by omega) (by omega)).mpr z)
                refine E_iconst (v := 0) C dX11_meanBy_56 ic_0 (E_istore C dX11_meanBy_57 (by decide) (E_iload_n C dX11_meanBy_59 7 rfl (E_iload C dX11_meanBy_60 1 rfl (E_ishr C dX11_meanBy_62 (E_iconst (v := 1) C dX11_meanBy_63 ic_1 ?_)))))
                refine E_iand C dX11_meanBy_64 ?_
                refine Ev.seti (nx_bitI li i (by omega) (by omega)) ?_
                refine E_if_ne C 103 dX11_meanBy_65 (by decide) (fun c65 => ?_) (fun c65 => ?_)
                ·
                  have hl := ite_1 c65
                  refine E_lload C dX11_meanBy_103 2 rfl (E_iload C dX11_meanBy_105 0 rfl (E_if_eq C 123 dX11_meanBy_107 (by decide) (fun c107 => ?_) (fun c107 => ?_)))
                  ·
                    refine E_sipush (v := 144) C dX11_meanBy_123 sp_144 (E_aload_n C dX11_meanBy_126 6 rfl (mg_11_3 C dX11_meanBy_127 f_X11_15 (E_iload C dX11_meanBy_130 1 rfl (ma_2 C dX11_meanBy_132 (vinN (by omega)) ?_))))
                    rw [nI_clamp (show i < 2 ^ 31 by omega)]
                    refine Ev.seti (show h 3 i = nI (N 1 i) from hA.2.2.1 1 i (by decide) hi) ?_
                    have hN1 : N 1 i ≤ 12 := hB 1 i (by decide) (by omega)
                    have hNp : N 1 i * pop li ≤ 12 * 3 := Nat.mul_le_mul hN1 h3
                    refine E_iload_n C dX11_meanBy_133 5 rfl (E_imul C dX11_meanBy_134 ?_)
                    refine Ev.seti (pk_mul _ _) ?_
                    refine E_isub C dX11_meanBy_135 ?_
                    refine Ev.seti (show (144 : Int32) - nI (N 1 i * pop li) = nI (144 - N 1 i * pop li) from pk_sub (a := 144) (by omega)) ?_
                    refine E_i2l C dX11_meanBy_136 ?_
                    refine Ev.setl (nI_l (by omega)) ?_
                    refine E_lmul C dX11_meanBy_137 ?_
                    refine Ev.setl ((lN_mul _ _).trans (congrArg lN (show _ = co q * wgt N 0 li (i + 1) q by rw [Nat.mul_assoc, wgt_f hb, lost_l hl, all_l hl]))) ?_
                    refine E_lstore C dX11_meanBy_138 (by decide) (E_iinc C dX11_meanBy_140 2 rfl (nI_1 i) (by decide) (E_goto C 32 dX11_meanBy_143 (by decide) ?_))
                    exact Ev.sub [0, 1, 3, 4, 5, 6, 7] rfl (ih2 (i + 1) (by omega) (by omega))
                  ·
                    exact absurd rfl c107
                ·
                  have hl := ite_0 c65
                  refine E_lload C dX11_meanBy_68 2 rfl (E_iload C dX11_meanBy_70 0 rfl (E_if_eq C 86 dX11_meanBy_72 (by decide) (fun c72 => ?_) (fun c72 => ?_)))
                  ·
                    refine E_bipush (v := 12) C dX11_meanBy_86 bp_12 (E_aload_n C dX11_meanBy_88 6 rfl (mg_11_3 C dX11_meanBy_89 f_X11_15 (E_iload C dX11_meanBy_92 1 rfl (ma_2 C dX11_meanBy_94 (vinN (by omega)) ?_))))
                    rw [nI_clamp (show i < 2 ^ 31 by omega)]
                    refine Ev.seti (show h 3 i = nI (N 1 i) from hA.2.2.1 1 i (by decide) hi) ?_
                    have hN1 : N 1 i ≤ 12 := hB 1 i (by decide) (by omega)
                    refine E_isub C dX11_meanBy_95 ?_
                    refine Ev.seti (show (12 : Int32) - nI (N 1 i) = nI (12 - N 1 i) from pk_sub (a := 12) hN1) ?_
                    refine E_i2l C dX11_meanBy_96 ?_
                    refine Ev.setl (nI_l (by omega)) ?_
                    refine E_lmul C dX11_meanBy_97 ?_
                    refine Ev.setl ((lN_mul _ _).trans (congrArg lN (show _ = co q * wgt N 0 li (i + 1) q by rw [Nat.mul_assoc, wgt_f hb, lost_n hl, all_n hl]))) ?_
                    refine E_lstore C dX11_meanBy_98 (by decide) (E_goto C 140 dX11_meanBy_100 (by decide) (E_iinc C dX11_meanBy_140 2 rfl (nI_1 i) (by decide) (E_goto C 32 dX11_meanBy_143 (by decide) ?_)))
                    exact Ev.sub [0, 1, 3, 4, 5, 6, 7] rfl (ih2 (i + 1) (by omega) (by omega))
                  ·
                    exact absurd rfl c72
              ·
                have hb : q.testBit i = true := (nx_bitE q i (by omega) (by omega)).mp c49
                refine E_iconst (v := 1) C dX11_meanBy_52 ic_1 (E_goto C 57 dX11_meanBy_53 (by decide) (E_istore C dX11_meanBy_57 (by decide) (E_iload_n C dX11_meanBy_59 7 rfl (E_iload C dX11_meanBy_60 1 rfl (E_ishr C dX11_meanBy_62 ?_)))))
                refine E_iconst (v := 1) C dX11_meanBy_63 ic_1 (E_iand C dX11_meanBy_64 ?_)
                refine Ev.seti (nx_bitI li i (by omega) (by omega)) ?_
                refine E_if_ne C 103 dX11_meanBy_65 (by decide) (fun c65 => ?_) (fun c65 => ?_)
                ·
                  have hl := ite_1 c65
                  refine E_lload C dX11_meanBy_103 2 rfl (E_iload C dX11_meanBy_105 0 rfl (E_if_eq C 123 dX11_meanBy_107 (by decide) (fun c107 => ?_) (fun c107 => ?_)))
                  ·
                    exact absurd c107 (by decide)
                  ·
                    refine E_aload_n C dX11_meanBy_110 6 rfl (mg_11_3 C dX11_meanBy_111 f_X11_15 (E_iload C dX11_meanBy_114 1 rfl (ma_2 C dX11_meanBy_116 (vinN (by omega)) ?_)))
                    rw [nI_clamp (show i < 2 ^ 31 by omega)]
                    refine Ev.seti (show h 3 i = nI (N 1 i) from hA.2.2.1 1 i (by decide) hi) ?_
                    have hN1 : N 1 i ≤ 12 := hB 1 i (by decide) (by omega)
                    have hNp : N 1 i * pop li ≤ 12 * 3 := Nat.mul_le_mul hN1 h3
                    refine E_iload_n C dX11_meanBy_117 5 rfl (E_imul C dX11_meanBy_118 ?_)
                    refine Ev.seti (pk_mul _ _) ?_
                    refine E_i2l C dX11_meanBy_119 ?_
                    refine Ev.setl (nI_l (by omega)) ?_
                    refine E_goto C 137 dX11_meanBy_120 (by decide) (E_lmul C dX11_meanBy_137 ?_)
                    refine Ev.setl ((lN_mul _ _).trans (congrArg lN (show _ = co q * wgt N 0 li (i + 1) q by rw [Nat.mul_assoc, wgt_t hb, lost_l hl]))) ?_
                    refine E_lstore C dX11_meanBy_138 (by decide) (E_iinc C dX11_meanBy_140 2 rfl (nI_1 i) (by decide) (E_goto C 32 dX11_meanBy_143 (by decide) ?_))
                    exact Ev.sub [0, 1, 3, 4, 5, 6, 7] rfl (ih2 (i + 1) (by omega) (by omega))
                ·
                  have hl := ite_0 c65
                  refine E_lload C dX11_meanBy_68 2 rfl (E_iload C dX11_meanBy_70 0 rfl (E_if_eq C 86 dX11_meanBy_72 (by decide) (fun c72 => ?_) (fun c72 => ?_)))
                  ·
                    exact absurd c72 (by decide)
                  ·
                    refine E_aload_n C dX11_meanBy_75 6 rfl (mg_11_3 C dX11_meanBy_76 f_X11_15 (E_iload C dX11_meanBy_79 1 rfl (ma_2 C dX11_meanBy_81 (vinN (by omega)) ?_)))
                    rw [nI_clamp (show i < 2 ^ 31 by omega)]
                    refine Ev.seti (show h 3 i = nI (N 1 i) from hA.2.2.1 1 i (by decide) hi) ?_
                    have hN1 : N 1 i ≤ 12 := hB 1 i (by decide) (by omega)
                    refine E_i2l C dX11_meanBy_82 ?_
                    refine Ev.setl (nI_l (by omega)) ?_
                    refine E_goto C 97 dX11_meanBy_83 (by decide) (E_lmul C dX11_meanBy_97 ?_)
                    refine Ev.setl ((lN_mul _ _).trans (congrArg lN (show _ = co q * wgt N 0 li (i + 1) q by rw [Nat.mul_assoc, wgt_t hb, lost_n hl]))) ?_
                    refine E_lstore C dX11_meanBy_98 (by decide) (E_goto C 140 dX11_meanBy_100 (by decide) (E_iinc C dX11_meanBy_140 2 rfl (nI_1 i) (by decide) (E_goto C 32 dX11_meanBy_143 (by decide) ?_)))
                    exact Ev.sub [0, 1, 3, 4, 5, 6, 7] rfl (ih2 (i + 1) (by omega) (by omega))
        exact Ev.sub [0, 1, 2, 3, 4, 5, 6] rfl (K2 (n + 1) 0 (by omega) (by omega))
  exact Ev.sub [0, 1, 2, 3, 4] rfl (K (2 ^ n + 1) 0 (by omega) (by omega))
set_option maxRecDepth 100000 in
set_option maxHeartbeats 4000000 in
theorem q_list {l : Launch} {D : va_G} {tc tt ad : Nat → Nat} {S : STT} {w0 : va_W} (hM : MR ad tc S w0) (most part : Int32) : Ct l yX11_list cX11_list 10 (some .long) 9 D tc tt [.ref (ad 0), .int most, .int part] (w0) (PL fun r w => r = aList S most part ∧ MR ad tc S w) := by
  obtain ⟨g, h, el, u, v, sf, rfl, M⟩ := hM
  have hA := M.1
  have hn := M.1.1
  have hn8 := M.1.2.1
  have hML := M.2.2.2.2.2.2.2
  have hB := hA.2.2.2.2.1
  have hp1 := Nat.two_pow_pos S.1.1
  have hp256 := p256 hn8
  refine Ct.of (by decide +kernel) (Nat.le_of_ble_eq_true rfl) ?_
  intro p e R s m args below meth c A C hr hlk
  refine E_iload_n C dX11_list_0 1 rfl (E_iconst (v := 0) C dX11_list_1 ic_0 (E_iconst (v := 3) C dX11_list_2 ic_3 (E_callSI C dX11_list_3 ms_X11_118 _ (m_in most 0 3) rfl rfl (by decide) (Nat.le_of_ble_eq_true rfl) ?_)))
  rintro _ _ ⟨rfl, rfl⟩
  refine E_if_eq C 18 dX11_list_6 (by decide) (fun c6 => ?_) (fun c6 => ?_)
  ·
    have n0 := ite_0 c6
    refine E_ldc2 C k_X11_302 dX11_list_18 (E_lretL C hr hlk dX11_list_21 ?_)
    exact ⟨(if_neg fun q => n0 (bet_eq.mpr ⟨q.1, q.2.1⟩)).symm, ⟨g, h, el, u, v, sf, rfl, M⟩⟩
  ·
    have n0 := ite_1 c6
    refine E_iload_n C dX11_list_9 2 rfl (E_iconst (v := 0) C dX11_list_10 ic_0 (E_iconst (v := 2) C dX11_list_11 ic_2 (E_callSI C dX11_list_12 ms_X11_118 _ (m_in part 0 2) rfl rfl (by decide) (Nat.le_of_ble_eq_true rfl) ?_)))
    rintro _ _ ⟨rfl, rfl⟩
    refine E_if_ne C 22 dX11_list_15 (by decide) (fun c15 => ?_) (fun c15 => ?_)
    ·
      have n2 := ite_1 c15
      have n1 := bet_eq.mp n0
      have n3 := bet_eq.mp n2
      obtain ⟨mo, hmo, hmc, rfl⟩ := n_of (k := 3) (m := 3) (x := most) rfl (Int32.not_lt.mpr n1.1) n1.2
      obtain ⟨pn, hpn, hpc, rfl⟩ := n_of (k := 2) (m := 2) (x := part) rfl (Int32.not_lt.mpr n3.1) n3.2
      have ha : aList S (nI mo) (nI pn) = _ := if_pos ⟨n1.1, n1.2, n3⟩
      rw [hmc, hpc] at ha
      refine E_aload_n C dX11_list_22 0 rfl (E_callVV C dX11_list_23 mv_X11_304 0 _ (m_findCosts hA hML) rfl rfl rfl (by decide) (Nat.le_of_ble_eq_true rfl) ?_)
      rintro _ ⟨u2, v2, rfl, hc, ku⟩
      have hLe := MLw.le hML
      have hcb : ∀ q, q < 2 ^ S.1.1 → v2 40 q = nI (costT S.1.2.1 (whole S.1.2.1 S.1.2.2 q)) ∧ costT S.1.2.1 (whole S.1.2.1 S.1.2.2 q) < 2 ^ 31 := fun q hq => ⟨hc q hq, Nat.lt_of_le_of_lt (cost_le hB hLe (by omega)) (by decide)⟩
      have h1one : (blO (fun li => cN S 0 li) S.1.1 1) = (0, cN S 0 0 * 1728) := blO_one (F := (fun li => cN S 0 li)) hn8 (csum_max hB hLe hn8 0 (li := 0) (by decide))
      refine E_iconst (v := 0) C dX11_list_26 ic_0 (E_istore_n C dX11_list_27 (by decide) (E_aload_n C dX11_list_28 1 rfl (E_iconst (v := 0) C dX11_list_29 ic_0 (E_callVL C dX11_list_30 mv_X11_326 0 _ (m_meanBy hA (co := (fun q => costT S.1.2.1 (whole S.1.2.1 S.1.2.2 q))) hcb (li := 0) hp1 (by decide)) rfl rfl rfl (by decide) (Nat.le_of_ble_eq_true rfl) ?_))))
      rintro _ _ ⟨rfl, rfl⟩
      refine Ev.setl (show _ = lN (blO (fun li => cN S 0 li) S.1.1 1).2 by rw [h1one, pop_00]; rfl) ?_
      refine E_lstore C dX11_list_33 (by decide) (E_iconst (v := 1) C dX11_list_35 ic_1 (E_istore C dX11_list_36 (by decide) ?_))
      have K : ∀ (mm cc : Nat), 1 ≤ cc → cc ≤ mo + 1 → mo + 1 < cc + mm → Ev p l e R s m args below meth c 0 0 (EQ below (PL fun r w => r = aList S (nI mo) (nI pn) ∧ MR ad tc S w) args s D A) D A 10 (hm ad tc g h el u2 v2 sf) 38 [(6, .int (nI cc)), (4, .long (lN (blO (fun li => cN S 0 li) S.1.1 cc).2)), (3, .int (nI (blO (fun li => cN S 0 li) S.1.1 cc).1)), (0, .ref (ad 0)), (1, .int (nI mo)), (2, .int (nI pn))] [] := by
        intro mm
        induction mm with
        | zero => intro cc h1 h2 h3; exfalso; omega
        | succ mm ih =>
          intro cc hc1 hc2 hc3
          refine E_iload C dX11_list_38 0 rfl (E_iload_n C dX11_list_40 4 rfl (E_icmp_gt C 107 dX11_list_41 (by decide) (fun c41 => ?_) (fun c41 => ?_)))
          ·
            have hc : cc = mo + 1 := by
              rcases Nat.lt_or_ge mo cc with q | q
              · omega
              · exact absurd (show nI mo < nI cc from c41) (nI_nlt q (by omega))
            subst hc
            obtain ⟨b1, b2, b3⟩ := blO_v (F := (fun li => cN S 0 li)) hn8 (csum_max hB hLe hn8 0 (li := 0) (by decide)) mo (by omega)
            have b3 : (blO (fun li => cN S 0 li) S.1.1 (mo + 1)).2 = cN S 0 (blO (fun li => cN S 0 li) S.1.1 (mo + 1)).1 * sclN (pop (blO (fun li => cN S 0 li) S.1.1 (mo + 1)).1) := b3
            have hdn : lisN S mo = (blO (fun li => cN S 0 li) S.1.1 (mo + 1)).1 := rfl
            rw [hdn] at ha
            refine E_iload_n C dX11_list_107 5 rfl (E_iconst (v := 2) C dX11_list_108 ic_2 (E_icmp_ne C 117 dX11_list_109 (by decide) (fun c109 => ?_) (fun c109 => ?_)))
            ·
              have hp2 : ¬ pn = 2 := fun q => c109 (by rw [q]; rfl)
              have ha2 := ha.trans (if_neg (fun q => hp2 ((nI_eq (b := 2) (by omega) (by decide)).mp q)))
              have hsp : 0 < sclN (pop (blO (fun li => cN S 0 li) S.1.1 (mo + 1)).1) := by rw [← scl_p _ b2]; exact Nat.pow_pos (by decide)
              have hlw : lowT (blO (fun li => cN S 0 li) S.1.1 (mo + 1)).2 (12 ^ (S.1.1 + 3)) pn = lowT (cN S 0 (blO (fun li => cN S 0 li) S.1.1 (mo + 1)).1) (belN (blO (fun li => cN S 0 li) S.1.1 (mo + 1)).1 S.1.1) pn := by
                rw [b3, ← bel_scl hn8 b1 b2]
                exact lowT_mul hsp (belN_pos _ _)
              refine E_lload C dX11_list_117 1 rfl (E_aload_n C dX11_list_119 3 rfl (mg_11_1 C dX11_list_120 f_X11_115 ?_))
              refine Ev.seti hn ?_
              refine E_iconst (v := 3) C dX11_list_123 ic_3 (E_iadd C dX11_list_124 ?_)
              refine Ev.seti (nI_add _ 3) ?_
              refine E_callSL C dX11_list_125 ms_X11_311 _ (m_power (by omega)) rfl rfl (by decide) (Nat.le_of_ble_eq_true rfl) ?_
              rintro _ _ ⟨rfl, rfl⟩
              refine E_iload_n C dX11_list_128 5 rfl (E_callSL C dX11_list_129 ms_X11_314 _ (m_asPart (blO_lt (F := (fun li => cN S 0 li)) (n := S.1.1) (fun s q hs3 hq hpq => csum_scl hB hLe hn8 0 hpq) (mo + 1) (by omega)) (p12 (by omega)) (Nat.pow_pos (by decide)) (show pn ≤ 1 by omega)) rfl rfl (by decide) (Nat.le_of_ble_eq_true rfl) ?_)
              rintro _ _ ⟨rfl, rfl⟩
              refine E_lretL C hr hlk dX11_list_132 ?_
              exact ⟨(congrArg lN hlw).trans ha2.symm, ⟨g, h, el, _, _, sf, rfl, M⟩⟩
            ·
              have ha2 := ha.trans (if_pos c109)
              refine E_iload_n C dX11_list_112 2 rfl (E_i2l C dX11_list_113 ?_)
              refine Ev.setl (nI_l (by omega)) ?_
              refine E_goto C 132 dX11_list_114 (by decide) (E_lretL C hr hlk dX11_list_132 ?_)
              exact ⟨ha2.symm, ⟨g, h, el, _, _, sf, rfl, M⟩⟩
          ·
            have hc : cc ≤ mo := by
              rcases Nat.lt_or_ge mo cc with q | q
              · exact absurd (show nI mo < nI cc from nI_lt q (by omega)) c41
              · exact q
            have hob := blO_lt (F := (fun li => cN S 0 li)) (n := S.1.1) (fun s q hs3 hq hpq => csum_scl hB hLe hn8 0 hpq) cc (by omega)
            refine E_iconst (v := 0) C dX11_list_44 ic_0 (E_istore C dX11_list_45 (by decide) ?_)
            have K2 : ∀ (m2 i : Nat), i ≤ 2 ^ S.1.1 → 2 ^ S.1.1 < i + m2 → Ev p l e R s m args below meth c 0 0 (EQ below (PL fun r w => r = aList S (nI mo) (nI pn) ∧ MR ad tc S w) args s D A) D A 10 (hm ad tc g h el u2 v2 sf) 47 [(7, .int (nI i)), (6, .int (nI cc)), (4, .long (lN (blI (fun q => cN S 0 q * sclN cc) cc (blO (fun li => cN S 0 li) S.1.1 cc) i).2)), (3, .int (nI (blI (fun q => cN S 0 q * sclN cc) cc (blO (fun li => cN S 0 li) S.1.1 cc) i).1)), (0, .ref (ad 0)), (1, .int (nI mo)), (2, .int (nI pn))] [] := by
              intro m2
              induction m2 with
              | zero => intro i h1 h2; exfalso; omega
              | succ m2 ih2 =>
                intro i hi1 hi2
                refine E_iload C dX11_list_47 0 rfl (E_aload_n C dX11_list_49 4 rfl (E_callVI C dX11_list_50 mv_X11_262 0 _ (m_allThings hn hn8) rfl rfl rfl (by decide) (Nat.le_of_ble_eq_true rfl) ?_))
                rintro _ _ ⟨rfl, rfl⟩
                refine E_icmp_gt C 101 dX11_list_53 (by decide) (fun c53 => ?_) (fun c53 => ?_)
                ·
                  have hi : i = 2 ^ S.1.1 := by
                    rcases Nat.lt_or_ge i (2 ^ S.1.1) with zz | zz
                    · exact absurd (show nI (2 ^ S.1.1 - 1) < nI i from c53) (nI_nlt (by omega) (by omega))
                    · omega
                  rw [hi]
                  refine E_iinc C dX11_list_101 1 rfl (nI_1 cc) (by decide) (E_goto C 38 dX11_list_104 (by decide) ?_)
                  exact Ev.sub [0, 2, 3, 4, 5, 6] rfl (ih (cc + 1) (by omega) (by omega) (by omega))
                ·
                  have hi : i < 2 ^ S.1.1 := by
                    rcases Nat.lt_or_ge i (2 ^ S.1.1) with zz | zz
                    · exact zz
                    · exact absurd (show nI (2 ^ S.1.1 - 1) < nI i from nI_lt (by omega) (by omega)) c53
                  refine E_iload C dX11_list_56 0 rfl (E_callSI C dX11_list_58 ms_X11_318 _ (m_bitsOf i (by omega)) rfl rfl (by decide) (Nat.le_of_ble_eq_true rfl) ?_)
                  rintro _ _ ⟨rfl, rfl⟩
                  refine E_iload C dX11_list_61 1 rfl (E_icmp_eq C 69 dX11_list_63 (by decide) (fun c63 => ?_) (fun c63 => ?_))
                  ·
                    have hpc2 : pop i = cc := (nI_eq (by have := pop_le i; omega) (by omega)).mp c63
                    have hFb : cN S 0 i * sclN cc < 2 ^ 63 := csum_scl hB hLe hn8 0 hpc2
                    have hlb := blI_lt (F := fun q => cN S 0 q * sclN cc) (n := 2 ^ S.1.1) (s := cc) (fun q hq hpq => csum_scl hB hLe hn8 0 hpq) (st := (blO (fun li => cN S 0 li) S.1.1 cc)) hob i (by omega)
                    refine E_aload_n C dX11_list_69 4 rfl (E_iload C dX11_list_70 0 rfl (E_callVL C dX11_list_72 mv_X11_326 0 _ (m_meanBy hA (co := (fun q => costT S.1.2.1 (whole S.1.2.1 S.1.2.2 q))) hcb hi (by omega)) rfl rfl rfl (by decide) (Nat.le_of_ble_eq_true rfl) ?_))
                    rintro _ _ ⟨rfl, rfl⟩
                    refine Ev.setl (show _ = lN (cN S 0 i * sclN cc) by rw [hpc2]; rfl) ?_
                    refine E_lstore C dX11_list_75 (by decide) (E_lload C dX11_list_77 0 rfl (E_lload C dX11_list_79 3 rfl (E_lcmp C dX11_list_81 (E_if_lt C 88 dX11_list_82 (by decide) (fun c82 => ?_) (fun c82 => ?_)))))
                    ·
                      have hs : (blI (fun q => cN S 0 q * sclN cc) cc (blO (fun li => cN S 0 li) S.1.1 cc) (i + 1)) = (i, cN S 0 i * sclN cc) := blI_c (F := fun q => cN S 0 q * sclN cc) hpc2 ((lg_neg hFb hlb).mp c82)
                      refine E_iload C dX11_list_88 1 rfl ?_
                      refine Ev.seti (show _ = nI (blI (fun q => cN S 0 q * sclN cc) cc (blO (fun li => cN S 0 li) S.1.1 cc) (i + 1)).1 by rw [hs]) ?_
                      refine E_istore_n C dX11_list_90 (by decide) (E_lload C dX11_list_91 1 rfl ?_)
                      refine Ev.setl (show _ = lN (blI (fun q => cN S 0 q * sclN cc) cc (blO (fun li => cN S 0 li) S.1.1 cc) (i + 1)).2 by rw [hs]) ?_
                      refine E_lstore C dX11_list_93 (by decide) (E_iinc C dX11_list_95 3 rfl (nI_1 i) (by decide) (E_goto C 47 dX11_list_98 (by decide) ?_))
                      exact Ev.sub [0, 4, 1, 2, 5, 6, 7] rfl (ih2 (i + 1) (by omega) (by omega))
                    ·
                      have hs : (blI (fun q => cN S 0 q * sclN cc) cc (blO (fun li => cN S 0 li) S.1.1 cc) (i + 1)) = (blI (fun q => cN S 0 q * sclN cc) cc (blO (fun li => cN S 0 li) S.1.1 cc) i) := blI_d (F := fun q => cN S 0 q * sclN cc) hpc2 (fun q => c82 ((lg_neg hFb hlb).mpr q))
                      refine E_goto C 95 dX11_list_85 (by decide) ?_
                      rw [← hs]
                      refine E_iinc C dX11_list_95 1 rfl (nI_1 i) (by decide) (E_goto C 47 dX11_list_98 (by decide) ?_)
                      exact Ev.sub [0, 2, 3, 4, 5, 6, 7] rfl (ih2 (i + 1) (by omega) (by omega))
                  ·
                    have hs : (blI (fun q => cN S 0 q * sclN cc) cc (blO (fun li => cN S 0 li) S.1.1 cc) (i + 1)) = (blI (fun q => cN S 0 q * sclN cc) cc (blO (fun li => cN S 0 li) S.1.1 cc) i) := blI_s (fun q => c63 (by rw [q]))
                    refine E_goto C 95 dX11_list_66 (by decide) ?_
                    rw [← hs]
                    refine E_iinc C dX11_list_95 0 rfl (nI_1 i) (by decide) (E_goto C 47 dX11_list_98 (by decide) ?_)
                    exact ih2 (i + 1) (by omega) (by omega)
            exact Ev.sub [0, 1, 2, 3, 4, 5, 6] rfl (K2 (2 ^ S.1.1 + 1) 0 (by omega) (by omega))
      have hK := K (mo + 1) 1 (by decide) (by omega) (by omega)
      rw [show (blO (fun li => cN S 0 li) S.1.1 1).1 = 0 by rw [h1one]] at hK
      exact Ev.sub [0, 1, 2, 3, 4, 5] rfl hK
    ·
      have n2 := ite_0 c15
      refine E_ldc2 C k_X11_302 dX11_list_18 (E_lretL C hr hlk dX11_list_21 ?_)
      exact ⟨(if_neg fun q => n2 (bet_eq.mpr q.2.2)).symm, ⟨g, h, el, u, v, sf, rfl, M⟩⟩
