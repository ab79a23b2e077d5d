/-! the reference: what one going can bring -/
/-- one set in another -/
def Sb (a b : Nat) : Prop := ∀ t, a.testBit t = true → b.testBit t = true
theorem Sb.r (a : Nat) : Sb a a := fun _ h => h
theorem Sb.t {a b c : Nat} (h : Sb a b) (h2 : Sb b c) : Sb a c := fun t q => h2 t (h t q)
theorem Sb.or {a b c : Nat} (h : Sb a c) (h2 : Sb b c) : Sb (a ||| b) c := fun t q => by
  rw [Nat.testBit_or, Bool.or_eq_true] at q
  exact q.elim (h t) (h2 t)
theorem Sb.l (a b : Nat) : Sb a (a ||| b) := fun t q => by rw [Nat.testBit_or, q]; rfl
theorem Sb.rr (a b : Nat) : Sb b (a ||| b) := fun t q => by rw [Nat.testBit_or, q, Bool.or_true]
theorem Sb.eq {a b : Nat} (h : Sb a b) (h2 : Sb b a) : a = b := Nat.eq_of_testBit_eq fun t => by
  cases ha : a.testBit t with
  | true => rw [h t ha]
  | false =>
    cases hb : b.testBit t with
    | false => rfl
    | true => rw [h2 t hb] at ha; exact absurd ha (by decide)
theorem bt_le {a b t : Nat} (h : Sb a b) : (a.testBit t).toNat ≤ (b.testBit t).toNat := by
  cases e : a.testBit t with
  | false => exact Nat.zero_le _
  | true => rw [h t e]; exact Nat.le_refl _
theorem pop_mono {a b : Nat} (h : Sb a b) : pop a ≤ pop b := by
  unfold pop
  have := bt_le (t := 0) h; have := bt_le (t := 1) h; have := bt_le (t := 2) h; have := bt_le (t := 3) h; have := bt_le (t := 4) h; have := bt_le (t := 5) h; have := bt_le (t := 6) h; have := bt_le (t := 7) h
  omega
theorem pop_strict {a b : Nat} (ha : a < 256) (hb : b < 256) (h : Sb a b) (hne : a ≠ b) : pop a < pop b := by
  have hx : ∃ t, t < 8 ∧ b.testBit t = true ∧ a.testBit t = false := by
    refine Classical.byContradiction fun q => hne (h.eq fun t ht => ?_)
    cases e : a.testBit t with
    | true => rfl
    | false => exact absurd ⟨t, tb_lt hb ht, ht, e⟩ q
  obtain ⟨t, ht, h1, h2⟩ := hx
  have hlt : (a.testBit t).toNat < (b.testBit t).toNat := by rw [h1, h2]; decide
  unfold pop
  have h0 := bt_le (t := 0) h; have h1 := bt_le (t := 1) h; have h2 := bt_le (t := 2) h; have h3 := bt_le (t := 3) h; have h4 := bt_le (t := 4) h; have h5 := bt_le (t := 5) h; have h6 := bt_le (t := 6) h; have h7 := bt_le (t := 7) h
  rcases (show t = 0 ∨ t = 1 ∨ t = 2 ∨ t = 3 ∨ t = 4 ∨ t = 5 ∨ t = 6 ∨ t = 7 by omega) with rfl | rfl | rfl | rfl | rfl | rfl | rfl | rfl <;> omega
/-- all that it brings is in it -/
def ClS (N : Nat → Nat → Nat) (n s : Nat) : Prop := ∀ i, i < n → s.testBit i = true → Sb (N 4 i &&& (2 ^ n - 1)) s
theorem all_lt {x n : Nat} : x &&& (2 ^ n - 1) < 2 ^ n := by
  have := Nat.two_pow_pos n
  exact Nat.lt_of_le_of_lt Nat.and_le_right (by omega)
theorem brI_lt2 {N : Nat → Nat → Nat} {n s : Nat} (hs : s < 2 ^ n) : ∀ i, brI N n s i < 2 ^ n
  | 0 => hs
  | i + 1 => by
    have k := brI_lt2 (N := N) hs i
    unfold brI
    split
    · exact Nat.or_lt_two_pow k all_lt
    · exact k
theorem brI_sb {N : Nat → Nat → Nat} {n s : Nat} : ∀ i, Sb s (brI N n s i)
  | 0 => Sb.r s
  | i + 1 => by
    have k := brI_sb (N := N) (n := n) (s := s) i
    unfold brI
    split
    · exact k.t (Sb.l _ _)
    · exact k
theorem brI_mono {N : Nat → Nat → Nat} {n s i : Nat} : ∀ b, Sb (brI N n s i) (brI N n s (i + b))
  | 0 => Sb.r _
  | b + 1 => by
    have k := brI_mono (N := N) (n := n) (s := s) (i := i) b
    show Sb _ (if (brI N n s (i + b)).testBit (i + b) then brI N n s (i + b) ||| (N 4 (i + b) &&& (2 ^ n - 1)) else brI N n s (i + b))
    split
    · exact k.t (Sb.l _ _)
    · exact k
theorem brI_cl {N : Nat → Nat → Nat} {n s T : Nat} (hs : s < 2 ^ n) (h : Sb s T) (hT : ClS N n T) : ∀ i, Sb (brI N n s i) T
  | 0 => h
  | i + 1 => by
    have k := brI_cl (N := N) hs h hT i
    unfold brI
    split
    next e => exact k.or (hT i (bit_lt (brI_lt2 hs i) e) (k i e))
    next => exact k
theorem brI_fix {N : Nat → Nat → Nat} {n s : Nat} (hn : n ≤ 8) (h : brI N n s 8 = s) : ClS N n s := by
  intro i hi hb
  have h1 : Sb (brI N n s (i + 1)) s := by
    have k := brI_mono (N := N) (n := n) (s := s) (i := i + 1) (8 - (i + 1))
    rw [show i + 1 + (8 - (i + 1)) = 8 by omega, h] at k
    exact k
  have e : brI N n s (i + 1) = brI N n s i ||| (N 4 i &&& (2 ^ n - 1)) := if_pos (brI_sb i i hb)
  rw [e] at h1
  exact (Sb.rr _ _).t h1
theorem brO_lt2 {N : Nat → Nat → Nat} {n s : Nat} (hs : s < 2 ^ n) : ∀ k, brO N n s k < 2 ^ n
  | 0 => hs
  | k + 1 => brI_lt2 (brO_lt2 hs k) 8
theorem brO_sb {N : Nat → Nat → Nat} {n s : Nat} : ∀ k, Sb s (brO N n s k)
  | 0 => Sb.r s
  | k + 1 => (brO_sb k).t (brI_sb 8)
theorem brO_cl {N : Nat → Nat → Nat} {n s T : Nat} (hs : s < 2 ^ n) (h : Sb s T) (hT : ClS N n T) : ∀ k, Sb (brO N n s k) T
  | 0 => h
  | k + 1 => brI_cl (brO_lt2 hs k) (brO_cl hs h hT k) hT 8
theorem brO_pop {N : Nat → Nat → Nat} {n s : Nat} (hn : n ≤ 8) (hs : s < 2 ^ n) (h1 : 1 ≤ pop s) : ∀ k, k + 1 ≤ pop (brO N n s k) ∨ brI N n (brO N n s k) 8 = brO N n s k
  | 0 => Or.inl h1
  | k + 1 => by
    have hp := p256 hn
    have hk := brO_lt2 (N := N) hs k
    by_cases e : brI N n (brO N n s k) 8 = brO N n s k
    · refine Or.inr ?_
      show brI N n (brI N n (brO N n s k) 8) 8 = brI N n (brO N n s k) 8
      rw [e, e]
    · rcases brO_pop (N := N) hn hs h1 k with q | q
      · refine Or.inl ?_
        have := pop_strict (a := brO N n s k) (b := brI N n (brO N n s k) 8) (by omega) (by have := brI_lt2 (N := N) hk 8; omega) (brI_sb 8) (fun z => e z.symm)
        show k + 1 + 1 ≤ pop (brI N n (brO N n s k) 8)
        omega
      · exact absurd q e
theorem brO_fix {N : Nat → Nat → Nat} {n s : Nat} (hn : n ≤ 8) (hs : s < 2 ^ n) (h1 : 1 ≤ pop s) : ClS N n (brO N n s 8) := by
  refine brI_fix hn ?_
  rcases brO_pop (N := N) hn hs h1 8 with q | q
  · have := pop_le (brO N n s 8); omega
  · exact q
/-- the reference's round: over what stood at its beginning -/
def mR (N : Nat → Nat → Nat) (n s : Nat) : Nat → Nat
  | 0 => s
  | k + 1 => if s.testBit k then mR N n s k ||| (N 4 k &&& (2 ^ n - 1)) else mR N n s k
theorem mR_lt {N : Nat → Nat → Nat} {n s : Nat} (hs : s < 2 ^ n) : ∀ i, mR N n s i < 2 ^ n
  | 0 => hs
  | i + 1 => by
    have k := mR_lt (N := N) hs i
    unfold mR
    split
    · exact Nat.or_lt_two_pow k all_lt
    · exact k
theorem mR_sb {N : Nat → Nat → Nat} {n s : Nat} : ∀ i, Sb s (mR N n s i)
  | 0 => Sb.r s
  | i + 1 => by
    have k := mR_sb (N := N) (n := n) (s := s) i
    unfold mR
    split
    · exact k.t (Sb.l _ _)
    · exact k
theorem mR_mono {N : Nat → Nat → Nat} {n s i : Nat} : ∀ b, Sb (mR N n s i) (mR N n s (i + b))
  | 0 => Sb.r _
  | b + 1 => by
    have k := mR_mono (N := N) (n := n) (s := s) (i := i) b
    show Sb _ (if s.testBit (i + b) then mR N n s (i + b) ||| (N 4 (i + b) &&& (2 ^ n - 1)) else mR N n s (i + b))
    split
    · exact k.t (Sb.l _ _)
    · exact k
theorem mR_cl {N : Nat → Nat → Nat} {n s T : Nat} (hs : s < 2 ^ n) (h : Sb s T) (hT : ClS N n T) : ∀ i, Sb (mR N n s i) T
  | 0 => h
  | i + 1 => by
    have k := mR_cl (N := N) hs h hT i
    unfold mR
    split
    next e => exact k.or (hT i (bit_lt hs e) (h i e))
    next => exact k
theorem mR_fix {N : Nat → Nat → Nat} {n s : Nat} (h : mR N n s n = s) : ClS N n s := by
  intro i hi hb
  have h1 : Sb (mR N n s (i + 1)) s := by
    have k := mR_mono (N := N) (n := n) (s := s) (i := i + 1) (n - (i + 1))
    rw [show i + 1 + (n - (i + 1)) = n by omega, h] at k
    exact k
  have e : mR N n s (i + 1) = mR N n s i ||| (N 4 i &&& (2 ^ n - 1)) := if_pos hb
  rw [e] at h1
  exact (Sb.rr _ _).t h1
theorem hasB_4 {n : Nat} (t : Int32) : hasB n 4 t = bodB n t := by
  refine decide_eq_decide.mpr ?_
  have z4 : (4 : Int32).toInt = 4 := rfl
  rw [z4]
  omega
theorem pop_one : ∀ t, t < 8 → pop (2 ^ t) = 1 := by decide
theorem mR_s {N : Nat → Nat → Nat} {n s k : Nat} (h : s.testBit k = true) : mR N n s (k + 1) = mR N n s k ||| (N 4 k &&& (2 ^ n - 1)) := if_pos h
theorem mR_n {N : Nat → Nat → Nat} {n s k : Nat} (h : ¬ s.testBit k = true) : mR N n s (k + 1) = mR N n s k := if_neg h
theorem sb_lt {a b : Nat} (h : Sb a b) (hb : b < 256) : a < 256 := by
  refine Nat.lt_of_not_le fun q => ?_
  obtain ⟨t, ht, hbt⟩ := Nat.exists_ge_and_testBit_of_ge_two_pow (n := 8) q
  have := tb_lt hb (h t hbt)
  omega
set_option maxRecDepth 100000 in
set_option maxHeartbeats 4000000 in
theorem q_chain {l : Launch} {D : va_G} {tc tt ad : Nat → Nat} {S : STT} {w0 : va_W} (hM : MR ad tc S w0) (t0 : Int32) : Ct l yX11_chain cX11_chain 5 (some .int) 3 D tc tt [.ref (ad 0), .int t0] (w0) (PI fun r w => r = aChain S t0 ∧ MR ad tc S w) := by
  obtain ⟨g, h, el, u, v, sf, rfl, M⟩ := hM
  have hA := M.1
  have hn := M.1.1
  have hn8 := M.1.2.1
  have hp256 := p256 hn8
  by_cases hth : bodB S.1.1 t0 = true
  ·
    obtain ⟨tn, htn, htc, rfl⟩ := bodB_ex (by omega) hth
    have hth4 : hasB S.1.1 4 (nI tn) = true := by rw [hasB_4]; exact hth
    have h2t : 2 ^ tn < 2 ^ S.1.1 := Nat.pow_lt_pow_right (by decide) htn
    refine Ct.of (by decide +kernel) (Nat.le_of_ble_eq_true rfl) ?_
    intro p e R s m args below meth c A C hr hlk
    refine E_aload_n C dX11_chain_0 0 rfl (E_iload_n C dX11_chain_1 1 rfl (E_callVI C dX11_chain_2 mv_X11_149 0 _ (m_isThing hn hn8 (nI tn)) rfl rfl rfl (by decide) (Nat.le_of_ble_eq_true rfl) ?_))
    rintro _ _ ⟨rfl, rfl⟩
    refine E_if_ne C 10 dX11_chain_5 (by decide) (fun c5 => ?_) (fun c5 => ?_)
    ·
      refine E_iconst (v := 1) C dX11_chain_10 ic_1 (E_iload_n C dX11_chain_11 1 rfl (E_ishl C dX11_chain_12 ?_))
      refine Ev.seti (nx_one tn (by omega)) ?_
      refine E_istore_n C dX11_chain_13 (by decide) (E_iconst (v := 0) C dX11_chain_14 ic_0 (E_istore_n C dX11_chain_15 (by decide) ?_))
      have K : ∀ (mm wa se : Nat), 8 < pop wa + mm → se < 2 ^ S.1.1 → Sb (2 ^ tn) se → Sb wa se → Sb se (brO S.1.2.1 S.1.1 (2 ^ tn) 8) → (wa = 0 ∨ se = mR S.1.2.1 S.1.1 wa S.1.1) → Ev p l e R s m args below meth c 0 0 (EQ below (PI fun r w => r = aChain S (nI tn) ∧ MR ad tc S w) args s D A) D A 5 (hm ad tc g h el u v sf) 16 [(3, .int (nI wa)), (2, .int (nI se)), (0, .ref (ad 0)), (1, .int (nI tn))] [] := by
        intro mm
        induction mm with
        | zero => intro wa se h1; have := pop_le wa; exfalso; omega
        | succ mm ih =>
          intro wa se hpm hse hbs hws hcl hst
          refine E_iload_n C dX11_chain_16 0 rfl (E_iload_n C dX11_chain_17 1 rfl ?_)
          have hwl : wa < 256 := sb_lt hws (by omega)
          refine E_icmp_eq C 69 dX11_chain_18 (by decide) (fun c18 => ?_) (fun c18 => ?_)
          ·
            have he : wa = se := (nI_eq (by omega) (by omega)).mp c18
            have hres : se = (brO S.1.2.1 S.1.1 (2 ^ tn) 8) := by
              refine hcl.eq (brO_cl h2t hbs ?_ 8)
              rcases hst with q | q
              · have hb := hbs tn (by rw [Nat.testBit_two_pow, decide_eq_true rfl])
                rw [← he, q, Nat.zero_testBit] at hb
                cases hb
              · rw [he] at q
                exact mR_fix q.symm
            refine E_iload_n C dX11_chain_69 1 rfl (E_callSI C dX11_chain_70 ms_X11_318 _ (m_bitsOf se (by omega)) rfl rfl (by decide) (Nat.le_of_ble_eq_true rfl) ?_)
            rintro _ _ ⟨rfl, rfl⟩
            refine E_iretI C hr hlk dX11_chain_73 ?_
            rw [hres]
            refine ⟨?_, ⟨g, h, el, u, v, sf, rfl, M⟩⟩
            have ha : aChain S (nI tn) = _ := if_pos hth4
            rw [htc] at ha
            exact ha.symm
          ·
            have hne : wa ≠ se := fun q => c18 (by rw [q])
            have hps := pop_strict hwl (by omega) hws hne
            refine E_iload_n C dX11_chain_21 1 rfl (E_istore_n C dX11_chain_22 (by decide) (E_iconst (v := 0) C dX11_chain_23 ic_0 (E_istore C dX11_chain_24 (by decide) ?_)))
            have K2 : ∀ (m2 i : Nat), i ≤ S.1.1 → S.1.1 < i + m2 → Ev p l e R s m args below meth c 0 0 (EQ below (PI fun r w => r = aChain S (nI tn) ∧ MR ad tc S w) args s D A) D A 5 (hm ad tc g h el u v sf) 26 [(4, .int (nI i)), (3, .int (nI se)), (2, .int (nI (mR S.1.2.1 S.1.1 se i))), (0, .ref (ad 0)), (1, .int (nI tn))] [] := by
              intro m2
              induction m2 with
              | zero => intro i h1 h2; exfalso; omega
              | succ m2 ih2 =>
                intro i hi1 hi2
                refine E_iload C dX11_chain_26 0 rfl (E_aload_n C dX11_chain_28 3 rfl (mg_11_1 C dX11_chain_29 f_X11_115 ?_))
                refine Ev.seti hn ?_
                refine E_icmp_ge C 66 dX11_chain_32 (by decide) (fun c32 => ?_) (fun c32 => ?_)
                ·
                  have hi : i = S.1.1 := by
                    rcases Nat.lt_or_ge i S.1.1 with q | q
                    · exact absurd (show nI S.1.1 ≤ nI i from c32) (nI_ge q (by omega))
                    · omega
                  rw [hi]
                  refine E_goto C 16 dX11_chain_66 (by decide) ?_
                  exact Ev.sub [1, 2, 3, 4] rfl (ih se (mR S.1.2.1 S.1.1 se S.1.1) (by omega) (mR_lt hse S.1.1) (hbs.t (mR_sb S.1.1)) (mR_sb S.1.1) (mR_cl hse hcl (brO_fix hn8 h2t (by rw [pop_one tn (by omega)]; exact Nat.le_refl 1)) S.1.1) (Or.inr rfl))
                ·
                  have hi : i < S.1.1 := by
                    rcases Nat.lt_or_ge i S.1.1 with q | q
                    · exact q
                    · exact absurd (show nI S.1.1 ≤ nI i from nI_le q (by omega)) c32
                  refine E_iload_n C dX11_chain_35 1 rfl (E_iload C dX11_chain_36 0 rfl (E_ishr C dX11_chain_38 (E_iconst (v := 1) C dX11_chain_39 ic_1 (E_iand C dX11_chain_40 (E_iconst (v := 1) C dX11_chain_41 ic_1 ?_)))))
                  refine E_icmp_ne C 60 dX11_chain_42 (by decide) (fun c42 => ?_) (fun c42 => ?_)
                  ·
                    have hb : ¬ se.testBit i = true := fun q => c42 ((nx_bitE se i (by omega) (by omega)).mpr q)
                    have hs := mR_n (N := S.1.2.1) (n := S.1.1) hb
                    rw [← hs]
                    refine E_iinc C dX11_chain_60 0 rfl (nI_1 i) (by decide) (E_goto C 26 dX11_chain_63 (by decide) ?_)
                    exact ih2 (i + 1) (by omega) (by omega)
                  ·
                    have hb : se.testBit i = true := (nx_bitE se i (by omega) (by omega)).mp c42
                    have hs := mR_s (N := S.1.2.1) (n := S.1.1) hb
                    refine E_iload_n C dX11_chain_45 2 rfl (E_aload_n C dX11_chain_46 3 rfl (mg_11_6 C dX11_chain_47 f_X11_24 (E_iload C dX11_chain_50 0 rfl (ma_5 C dX11_chain_52 (vinN (by omega)) ?_))))
                    rw [nI_clamp (show i < 2 ^ 31 by omega)]
                    refine Ev.seti (show h 6 i = nI (S.1.2.1 4 i) from hA.2.2.1 4 i (by decide) hi) ?_
                    refine E_aload_n C dX11_chain_53 3 rfl (E_callVI C dX11_chain_54 mv_X11_262 0 _ (m_allThings hn hn8) rfl rfl rfl (by decide) (Nat.le_of_ble_eq_true rfl) ?_)
                    rintro _ _ ⟨rfl, rfl⟩
                    refine E_iand C dX11_chain_57 ?_
                    refine Ev.seti (nx_and _ _) ?_
                    refine E_ior C dX11_chain_58 ?_
                    refine Ev.seti ((nx_or _ _).trans (congrArg nI hs.symm)) ?_
                    refine E_istore_n C dX11_chain_59 (by decide) (E_iinc C dX11_chain_60 1 rfl (nI_1 i) (by decide) (E_goto C 26 dX11_chain_63 (by decide) ?_))
                    exact Ev.sub [0, 2, 1, 3, 4] rfl (ih2 (i + 1) (by omega) (by omega))
            exact Ev.sub [0, 1, 2, 3, 4] rfl (K2 (S.1.1 + 1) 0 (by omega) (by omega))
      exact Ev.sub [0, 1, 2, 3] rfl (K 9 0 (2 ^ tn) (by decide) h2t (Sb.r _) (fun t q => by rw [Nat.zero_testBit] at q; cases q) (brO_sb 8) (Or.inl rfl))
    ·
      exact absurd hth (ite_0 c5)
  ·
    refine Ct.of (by decide +kernel) (Nat.le_of_ble_eq_true rfl) ?_
    intro p e R s m args below meth c A C hr hlk
    refine E_aload_n C dX11_chain_0 0 rfl (E_iload_n C dX11_chain_1 1 rfl (E_callVI C dX11_chain_2 mv_X11_149 0 _ (m_isThing hn hn8 t0) rfl rfl rfl (by decide) (Nat.le_of_ble_eq_true rfl) ?_))
    rintro _ _ ⟨rfl, rfl⟩
    refine E_if_ne C 10 dX11_chain_5 (by decide) (fun c5 => ?_) (fun c5 => ?_)
    ·
      exact absurd (ite_1 c5) hth
    ·
      refine E_iconst (v := -1) C dX11_chain_8 ic_m1 (E_iretI C hr hlk dX11_chain_9 ?_)
      exact ⟨(if_neg (fun q => hth (by rw [← hasB_4]; exact q))).symm, ⟨g, h, el, u, v, sf, rfl, M⟩⟩
