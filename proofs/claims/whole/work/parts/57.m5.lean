/-! the reference: a drive -/
/-- the reference's registers hold a drive; P: its goings' rows and its last turn too -/
def QR (P : Prop) (fo : Nat) (q : DT) (u : Nat → Int32) (v : Nat → Nat → Int32) : Prop := u 30 = nI fo ∧ u 31 = nI q.1 ∧ u 32 = nI q.2.1 ∧ u 33 = nI q.2.2.1 ∧ u 34 = nI q.2.2.2.1.length ∧ u 35 = nI q.2.2.2.2.1 ∧ (P → u 36 = nI q.2.2.2.2.2 ∧ ∀ (j a b c : Nat), q.2.2.2.1[j]? = some (a, b, c) → v 37 j = nI a ∧ v 38 j = nI b ∧ v 39 j = nI c)
def KU (u u' : Nat → Int32) : Prop := ∀ k, (k < 30 ∨ 36 < k) → u' k = u k
def KV (v v' : Nat → Nat → Int32) : Prop := ∀ k, (k < 27 ∨ 39 < k) → v' k = v k
theorem KU.r (u : Nat → Int32) : KU u u := fun _ _ => rfl
theorem KV.r (v : Nat → Nat → Int32) : KV v v := fun _ _ => rfl
theorem KU.t {u u' u'' : Nat → Int32} (h : KU u u') (h2 : KU u' u'') : KU u u'' := fun k q => (h2 k q).trans (h k q)
theorem KV.t {u u' u'' : Nat → Nat → Int32} (h : KV u u') (h2 : KV u' u'') : KV u u'' := fun k q => (h2 k q).trans (h k q)
theorem bit_lt {a n t : Nat} (h : a < 2 ^ n) (ht : a.testBit t = true) : t < n := by
  rcases Nat.lt_or_ge t n with q | q
  · exact q
  · rw [Nat.testBit_lt_two_pow (Nat.lt_of_lt_of_le h (Nat.pow_le_pow_right (by decide) q))] at ht
    cases ht
theorem wsum_n {N : Nat → Nat → Nat} {σ n : Nat} (h : σ < 2 ^ n) : ∀ b, wsum N σ (n + b) = wsum N σ n
  | 0 => rfl
  | b + 1 => by
    show wsum N σ (n + b) + (if σ.testBit (n + b) then N 3 (n + b) else 0) = _
    rw [wsum_n h b, if_neg (fun q => by have := bit_lt h q; omega)]
    rfl
theorem wsum_8 {N : Nat → Nat → Nat} {σ n : Nat} (h : σ < 2 ^ n) (hn : n ≤ 8) : wsum N σ n = wsum N σ 8 := by
  have k := wsum_n (N := N) h (8 - n)
  rw [show n + (8 - n) = 8 by omega] at k
  exact k.symm
theorem mnd_bit {N : Nat → Nat → Nat} {s : Nat} : ∀ i t, (mndF N s i).testBit t = decide (t < i ∧ N 2 t = s)
  | 0, t => by
    show (0 : Nat).testBit t = _
    rw [Nat.zero_testBit, decide_eq_false (by omega)]
  | i + 1, t => by
    rw [mnd_step, Nat.testBit_or, mnd_bit i t]
    by_cases e : N 2 i = s
    · rw [if_pos e, Nat.testBit_two_pow]
      by_cases q : t = i
      · subst q
        rw [decide_eq_false (by omega), decide_eq_true rfl, decide_eq_true ⟨by omega, e⟩]
        rfl
      · rw [decide_eq_false (p := (i = t)) (fun z => q z.symm), Bool.or_false]
        exact decide_eq_decide.mpr ⟨fun z => ⟨by omega, z.2⟩, fun z => ⟨by omega, z.2⟩⟩
    · rw [if_neg e, Nat.zero_testBit, Bool.or_false]
      refine decide_eq_decide.mpr ⟨fun z => ⟨by omega, z.2⟩, fun z => ⟨?_, z.2⟩⟩
      rcases Nat.lt_or_ge t i with q | q
      · exact q
      · obtain rfl : t = i := by omega
        exact absurd z.2 e
theorem minded_n {N : Nat → Nat → Nat} {s fo hd le n : Nat} (hn : n ≤ 8) (hfo : fo < 2 ^ n) : (mndF N s n &&& fo) &&& (255 ^^^ hd) &&& (255 ^^^ le) = minded N s fo hd le := by
  unfold minded opn
  refine Nat.eq_of_testBit_eq fun t => ?_
  simp only [Nat.testBit_and, mnd_bit]
  cases ef : fo.testBit t with
  | false => simp only [Bool.and_false, Bool.false_and]
  | true =>
    have ht := bit_lt hfo ef
    have e9 : decide (t < n ∧ N 2 t = s) = decide (t < 8 ∧ N 2 t = s) := decide_eq_decide.mpr ⟨fun z => ⟨by omega, z.2⟩, fun z => ⟨ht, z.2⟩⟩
    rw [e9]
    simp only [Bool.and_true, Bool.true_and, Bool.and_assoc]
theorem minded_le {N : Nat → Nat → Nat} {s fo hd le n : Nat} (hfo : fo < 2 ^ n) : minded N s fo hd le < 2 ^ n := by
  unfold minded opn
  exact Nat.lt_of_le_of_lt (Nat.le_trans Nat.and_le_right (Nat.le_trans Nat.and_le_left Nat.and_le_left)) hfo
theorem lst_low : ∀ m, m < 256 → m ≠ 0 → ∀ t, t < 8 → t ≤ lst m → m.testBit t = decide (t = lst m) := by decide +kernel
theorem pop_8 : ∀ hd, hd < 256 → 8 ≤ pop hd → hd = 255 := by decide +kernel
theorem due_eq {m s4 fo hd le n : Nat} (hfo : fo < 2 ^ n) (hm : ∀ t, m.testBit t = true → fo.testBit t = true) : (m ||| (s4 &&& fo &&& (2 ^ n - 1))) &&& (255 ^^^ hd) &&& (255 ^^^ le) = (m ||| s4) &&& opn fo hd le := by
  unfold opn
  refine Nat.eq_of_testBit_eq fun t => ?_
  simp only [Nat.testBit_and, Nat.testBit_or, Nat.testBit_two_pow_sub_one]
  cases em : m.testBit t with
  | true =>
    rw [hm t em]
    simp only [Bool.true_or, Bool.true_and, Bool.and_assoc]
  | false =>
    cases ef : fo.testBit t with
    | false => simp only [Bool.and_false, Bool.false_and, Bool.or_false, Bool.false_or]
    | true =>
      rw [decide_eq_true (bit_lt hfo ef)]
      simp only [Bool.and_true, Bool.false_or, Bool.true_and, Bool.and_assoc]
theorem bet_kn {n : Nat} (hn : n ≤ 8) (x : Int32) : bet x 0 (nI (2 ^ n - 1)) = knB n x := by
  have hp := p256 hn
  have h1 := Nat.two_pow_pos n
  unfold knB
  refine decide_eq_decide.mpr ?_
  rw [Int32.le_iff_toInt_le, Int32.le_iff_toInt_le, nI_toInt (by omega)]
  have z0 : (0 : Int32).toInt = 0 := rfl
  rw [z0]
  omega
set_option maxRecDepth 100000 in
set_option maxHeartbeats 4000000 in
theorem m_begin {l : Launch} {D : va_G} {tc tt ad : Nat → Nat} {g : Nat → Int32} {h : Nat → Nat → Int32} {el : Nat → Int64} {u : Nat → Int32} {v : Nat → Nat → Int32} {sf : Nat → Int64} (P : Prop) (fo : Nat) : Ct l yX11_begin cX11_begin 2 none 1 D tc tt [.ref (ad 0), .int (nI fo)] (hm ad tc g h el u v sf) (PV fun w => ∃ u', w = hm ad tc g h el u' v sf ∧ QR P fo (0, 0, 0, [], 0, 0) u' v ∧ KU u u') := by
  refine Ct.of (by decide +kernel) (Nat.le_of_ble_eq_true rfl) ?_
  intro p e R s m args below meth c A C hr hlk
  refine E_aload_n C dX11_begin_0 0 rfl (E_iload_n C dX11_begin_1 1 rfl (mp_11_30 C dX11_begin_2 fw_X11_237 (E_aload_n C dX11_begin_5 0 rfl (E_iconst (v := 0) C dX11_begin_6 ic_0 (mp_11_31 C dX11_begin_7 fw_X11_240 ?_)))))
  refine E_aload_n C dX11_begin_10 0 rfl (E_iconst (v := 0) C dX11_begin_11 ic_0 (mp_11_32 C dX11_begin_12 fw_X11_243 (E_aload_n C dX11_begin_15 0 rfl (E_iconst (v := 0) C dX11_begin_16 ic_0 (mp_11_33 C dX11_begin_17 fw_X11_246 ?_)))))
  refine E_aload_n C dX11_begin_20 0 rfl (E_iconst (v := 0) C dX11_begin_21 ic_0 (mp_11_34 C dX11_begin_22 fw_X11_249 (E_aload_n C dX11_begin_25 0 rfl (E_iconst (v := 0) C dX11_begin_26 ic_0 (mp_11_35 C dX11_begin_27 fw_X11_252 ?_)))))
  refine E_aload_n C dX11_begin_30 0 rfl (E_iconst (v := 0) C dX11_begin_31 ic_0 (mp_11_36 C dX11_begin_32 fw_X11_255 (E_vretV C hr hlk dX11_begin_35 ?_)))
  exact ⟨_, rfl, ⟨rfl, rfl, rfl, rfl, rfl, rfl, fun _ => ⟨rfl, fun j a b c q => by cases q⟩⟩, fun k q => (vun (by omega)).trans ((vun (by omega)).trans ((vun (by omega)).trans ((vun (by omega)).trans ((vun (by omega)).trans ((vun (by omega)).trans (vun (by omega)))))))⟩
set_option maxRecDepth 100000 in
set_option maxHeartbeats 4000000 in
theorem m_allThings {l : Launch} {D : va_G} {tc tt ad : Nat → Nat} {g : Nat → Int32} {h : Nat → Nat → Int32} {el : Nat → Int64} {u : Nat → Int32} {v : Nat → Nat → Int32} {sf : Nat → Int64} {n : Nat} (hn : g 1 = nI n) (hn8 : n ≤ 8) : Ct l yX11_allThings cX11_allThings 1 (some .int) 1 D tc tt [.ref (ad 0)] (hm ad tc g h el u v sf) (PI fun r w => r = nI (2 ^ n - 1) ∧ w = hm ad tc g h el u v sf) := by
  refine Ct.of (by decide +kernel) (Nat.le_of_ble_eq_true rfl) ?_
  intro p e R s m args below meth c A C hr hlk
  refine E_iconst (v := 1) C dX11_allThings_0 ic_1 (E_aload_n C dX11_allThings_1 0 rfl (mg_11_1 C dX11_allThings_2 f_X11_115 ?_))
  refine Ev.seti hn ?_
  refine E_ishl C dX11_allThings_5 ?_
  refine Ev.seti (nx_one n (by omega)) ?_
  refine E_iconst (v := 1) C dX11_allThings_6 ic_1 (E_isub C dX11_allThings_7 ?_)
  refine Ev.seti (show nI (2 ^ n) - 1 = nI (2 ^ n - 1) from pk_sub (b := 1) (Nat.two_pow_pos n)) ?_
  refine E_iretI C hr hlk dX11_allThings_8 ?_
  exact ⟨rfl, rfl⟩
set_option maxRecDepth 100000 in
set_option maxHeartbeats 4000000 in
theorem m_isTold {l : Launch} {D : va_G} {tc tt ad : Nat → Nat} {g : Nat → Int32} {h : Nat → Nat → Int32} {el : Nat → Int64} {u : Nat → Int32} {v : Nat → Nat → Int32} {sf : Nat → Int64} {n : Nat} (hn : g 1 = nI n) (hn8 : n ≤ 8) (x : Int32) : Ct l yX11_isTold cX11_isTold 2 (some .boolean) 2 D tc tt [.ref (ad 0), .int x] (hm ad tc g h el u v sf) (PI fun r w => r = (if knB n x = true then 1 else 0) ∧ w = hm ad tc g h el u v sf) := by
  refine Ct.of (by decide +kernel) (Nat.le_of_ble_eq_true rfl) ?_
  intro p e R s m args below meth c A C hr hlk
  refine E_iload_n C dX11_isTold_0 1 rfl (E_iconst (v := 0) C dX11_isTold_1 ic_0 (E_aload_n C dX11_isTold_2 0 rfl (E_callVI C dX11_isTold_3 mv_X11_262 0 _ (m_allThings hn hn8) rfl rfl rfl (by decide) (Nat.le_of_ble_eq_true rfl) ?_)))
  rintro _ _ ⟨rfl, rfl⟩
  refine E_callSI C dX11_isTold_6 ms_X11_118 _ (m_in x 0 (nI (2 ^ n - 1))) rfl rfl (by decide) (Nat.le_of_ble_eq_true rfl) ?_
  rintro _ _ ⟨rfl, rfl⟩
  refine E_zretI C hr hlk dX11_isTold_9 (by split <;> rfl) ?_
  exact ⟨by rw [bet_kn hn8], rfl⟩
set_option maxRecDepth 100000 in
set_option maxHeartbeats 4000000 in
theorem m_comesAt {l : Launch} {D : va_G} {tc tt ad : Nat → Nat} {g : Nat → Int32} {h : Nat → Nat → Int32} {el : Nat → Int64} {u : Nat → Int32} {v : Nat → Nat → Int32} {sf : Nat → Int64} {n : Nat} {N : Nat → Nat → Nat} (hA : MA n N g h) {s0 fo hd le : Nat} (hs6 : s0 ≤ 6) (hfo : fo < 2 ^ n) (k0 : u 30 = nI fo) (k1 : u 31 = nI hd) (k2 : u 32 = nI le) : Ct l yX11_comesAt cX11_comesAt 4 (some .int) 1 D tc tt [.ref (ad 0), .int (nI s0)] (hm ad tc g h el u v sf) (PI fun r w => r = nI (minded N s0 fo hd le) ∧ w = hm ad tc g h el u v sf) := by
  refine Ct.of (by decide +kernel) (Nat.le_of_ble_eq_true rfl) ?_
  intro p e R s m args below meth c A C hr hlk
  have hn := hA.1
  have hn8 := hA.2.1
  have hp := p256 hn8
  have hB := hA.2.2.2.2.1
  have K : ∀ (mm i : Nat), i ≤ n → n < i + mm → Ev p l e R s m args below meth c 0 0 (EQ below (PI fun r w => r = nI (minded N s0 fo hd le) ∧ w = hm ad tc g h el u v sf) args s D A) D A 4 (hm ad tc g h el u v sf) 4 [(3, .int (nI i)), (2, .int (nI (mndF N s0 i))), (0, .ref (ad 0)), (1, .int (nI s0))] [] := by
    intro mm
    induction mm with
    | zero =>
      intro i hi1 hi2
      exfalso; omega
    | succ mm ih =>
      intro i hi1 hi2
      refine E_iload_n C dX11_comesAt_4 0 rfl (E_aload_n C dX11_comesAt_5 2 rfl (mg_11_1 C dX11_comesAt_6 f_X11_115 ?_))
      refine Ev.seti hn ?_
      refine E_icmp_ge C 34 dX11_comesAt_9 (by decide) (fun c9 => ?_) (fun c9 => ?_)
      ·
        have hi : i = n := by
          rcases Nat.lt_or_ge i n with q | q
          · exact absurd (show nI n ≤ nI i from c9) (nI_ge q (by omega))
          · omega
        subst hi
        refine E_iload_n C dX11_comesAt_34 1 rfl (E_aload_n C dX11_comesAt_35 2 rfl (mg_11_30 C dX11_comesAt_36 f_X11_237 ?_))
        refine Ev.seti k0 ?_
        refine E_iand C dX11_comesAt_39 ?_
        refine Ev.seti (nx_and _ _) ?_
        refine E_aload_n C dX11_comesAt_40 2 rfl (mg_11_31 C dX11_comesAt_41 f_X11_240 ?_)
        refine Ev.seti k1 ?_
        refine E_iconst (v := -1) C dX11_comesAt_44 ic_m1 (E_ixor C dX11_comesAt_45 (E_iand C dX11_comesAt_46 ?_))
        refine Ev.seti (nx_andn _ _ (Nat.lt_of_le_of_lt Nat.and_le_right (by omega))) ?_
        refine E_aload_n C dX11_comesAt_47 2 rfl (mg_11_32 C dX11_comesAt_48 f_X11_243 ?_)
        refine Ev.seti k2 ?_
        refine E_iconst (v := -1) C dX11_comesAt_51 ic_m1 (E_ixor C dX11_comesAt_52 (E_iand C dX11_comesAt_53 ?_))
        refine Ev.seti (nx_andn _ _ (Nat.lt_of_le_of_lt Nat.and_le_left (Nat.lt_of_le_of_lt Nat.and_le_right (by omega)))) ?_
        refine E_iretI C hr hlk dX11_comesAt_54 ?_
        exact ⟨by rw [minded_n hn8 hfo], rfl⟩
      ·
        have hi : i < n := by
          rcases Nat.lt_or_ge i n with q | q
          · exact q
          · exact absurd (show nI n ≤ nI i from nI_le q (by omega)) c9
        refine E_aload_n C dX11_comesAt_12 2 rfl (mg_11_4 C dX11_comesAt_13 f_X11_18 (E_iload_n C dX11_comesAt_16 0 rfl (ma_3 C dX11_comesAt_17 (vinN (by omega)) ?_)))
        rw [nI_clamp (show i < 2 ^ 31 by omega)]
        refine Ev.seti (show h 4 i = nI (N 2 i) from hA.2.2.1 2 i (by decide) hi) ?_
        have hN2 : N 2 i ≤ 6 := hB 2 i (by decide) (by omega)
        refine E_iload_n C dX11_comesAt_18 3 rfl (E_icmp_ne C 28 dX11_comesAt_19 (by decide) (fun c19 => ?_) (fun c19 => ?_))
        ·
          have hs : mndF N s0 (i + 1) = mndF N s0 i := by
            rw [mnd_step, if_neg (fun q => c19 (by rw [q])), Nat.or_zero]
          rw [← hs]
          refine E_iinc C dX11_comesAt_28 0 rfl (nI_1 i) (by decide) (E_goto C 4 dX11_comesAt_31 (by decide) ?_)
          exact ih (i + 1) (by omega) (by omega)
        ·
          have hs : mndF N s0 (i + 1) = mndF N s0 i ||| 2 ^ i := by
            rw [mnd_step, if_pos ((nI_eq (by omega) (by omega)).mp c19)]
          refine E_iload_n C dX11_comesAt_22 1 rfl (E_iconst (v := 1) C dX11_comesAt_23 ic_1 (E_iload_n C dX11_comesAt_24 0 rfl (E_ishl C dX11_comesAt_25 ?_)))
          refine Ev.seti (nx_one i (by omega)) ?_
          refine E_ior C dX11_comesAt_26 ?_
          refine Ev.seti (nx_or _ _) ?_
          rw [← hs]
          refine E_istore_n C dX11_comesAt_27 (by decide) (E_iinc C dX11_comesAt_28 1 rfl (nI_1 i) (by decide) (E_goto C 4 dX11_comesAt_31 (by decide) ?_))
          exact ih (i + 1) (by omega) (by omega)
  refine E_iconst (v := 0) C dX11_comesAt_0 ic_0 (E_istore_n C dX11_comesAt_1 (by decide) (E_iconst (v := 0) C dX11_comesAt_2 ic_0 (E_istore_n C dX11_comesAt_3 (by decide) ?_)))
  exact K (n + 1) 0 (by omega) (by omega)
set_option maxRecDepth 100000 in
set_option maxHeartbeats 4000000 in
theorem m_worthOf {l : Launch} {D : va_G} {tc tt ad : Nat → Nat} {g : Nat → Int32} {h : Nat → Nat → Int32} {el : Nat → Int64} {u : Nat → Int32} {v : Nat → Nat → Int32} {sf : Nat → Int64} {n : Nat} {N : Nat → Nat → Nat} (hA : MA n N g h) {σ : Nat} (hσ : σ < 2 ^ n) : Ct l yX11_worthOf cX11_worthOf 4 (some .int) 1 D tc tt [.ref (ad 0), .int (nI σ)] (hm ad tc g h el u v sf) (PI fun r w => r = nI (wsum N σ 8) ∧ w = hm ad tc g h el u v sf) := by
  refine Ct.of (by decide +kernel) (Nat.le_of_ble_eq_true rfl) ?_
  intro p e R s m args below meth c A C hr hlk
  have hn := hA.1
  have hn8 := hA.2.1
  have hp := p256 hn8
  have K : ∀ (mm i : Nat), i ≤ n → n < i + mm → Ev p l e R s m args below meth c 0 0 (EQ below (PI fun r w => r = nI (wsum N σ 8) ∧ w = hm ad tc g h el u v sf) args s D A) D A 4 (hm ad tc g h el u v sf) 4 [(3, .int (nI i)), (2, .int (nI (wsum N σ i))), (0, .ref (ad 0)), (1, .int (nI σ))] [] := by
    intro mm
    induction mm with
    | zero =>
      intro i hi1 hi2
      exfalso; omega
    | succ mm ih =>
      intro i hi1 hi2
      refine E_iload_n C dX11_worthOf_4 0 rfl (E_aload_n C dX11_worthOf_5 2 rfl (mg_11_1 C dX11_worthOf_6 f_X11_115 ?_))
      refine Ev.seti hn ?_
      refine E_icmp_ge C 36 dX11_worthOf_9 (by decide) (fun c9 => ?_) (fun c9 => ?_)
      ·
        have hi : i = n := by
          rcases Nat.lt_or_ge i n with q | q
          · exact absurd (show nI n ≤ nI i from c9) (nI_ge q (by omega))
          · omega
        subst hi
        refine E_iload_n C dX11_worthOf_36 1 rfl (E_iretI C hr hlk dX11_worthOf_37 ?_)
        exact ⟨by rw [wsum_8 hσ hn8], rfl⟩
      ·
        have hi : i < n := by
          rcases Nat.lt_or_ge i n with q | q
          · exact q
          · exact absurd (show nI n ≤ nI i from nI_le q (by omega)) c9
        refine E_iload_n C dX11_worthOf_12 3 rfl (E_iload_n C dX11_worthOf_13 0 rfl (E_ishr C dX11_worthOf_14 (E_iconst (v := 1) C dX11_worthOf_15 ic_1 (E_iand C dX11_worthOf_16 (E_iconst (v := 1) C dX11_worthOf_17 ic_1 ?_)))))
        refine E_icmp_ne C 30 dX11_worthOf_18 (by decide) (fun c18 => ?_) (fun c18 => ?_)
        ·
          have hs : wsum N σ (i + 1) = wsum N σ i := by
            show wsum N σ i + (if σ.testBit i then N 3 i else 0) = _
            rw [if_neg (fun q => c18 ((nx_bitE σ i (by omega) (by omega)).mpr q))]
            rfl
          rw [← hs]
          refine E_iinc C dX11_worthOf_30 0 rfl (nI_1 i) (by decide) (E_goto C 4 dX11_worthOf_33 (by decide) ?_)
          exact ih (i + 1) (by omega) (by omega)
        ·
          have hs : wsum N σ (i + 1) = wsum N σ i + N 3 i := by
            show wsum N σ i + (if σ.testBit i then N 3 i else 0) = _
            rw [if_pos ((nx_bitE σ i (by omega) (by omega)).mp c18)]
          refine E_iload_n C dX11_worthOf_21 1 rfl (E_aload_n C dX11_worthOf_22 2 rfl (mg_11_5 C dX11_worthOf_23 f_X11_21 (E_iload_n C dX11_worthOf_26 0 rfl (ma_4 C dX11_worthOf_27 (vinN (by omega)) ?_))))
          rw [nI_clamp (show i < 2 ^ 31 by omega)]
          refine Ev.seti (show h 5 i = nI (N 3 i) from hA.2.2.1 3 i (by decide) hi) ?_
          refine E_iadd C dX11_worthOf_28 ?_
          refine Ev.seti (nI_add _ _) ?_
          rw [← hs]
          refine E_istore_n C dX11_worthOf_29 (by decide) (E_iinc C dX11_worthOf_30 1 rfl (nI_1 i) (by decide) (E_goto C 4 dX11_worthOf_33 (by decide) ?_))
          exact ih (i + 1) (by omega) (by omega)
  refine E_iconst (v := 0) C dX11_worthOf_0 ic_0 (E_istore_n C dX11_worthOf_1 (by decide) (E_iconst (v := 0) C dX11_worthOf_2 ic_0 (E_istore_n C dX11_worthOf_3 (by decide) ?_)))
  exact K (n + 1) 0 (by omega) (by omega)
set_option maxRecDepth 100000 in
set_option maxHeartbeats 4000000 in
theorem m_toHouse {l : Launch} {D : va_G} {tc tt ad : Nat → Nat} {g : Nat → Int32} {h : Nat → Nat → Int32} {el : Nat → Int64} {u : Nat → Int32} {v : Nat → Nat → Int32} {sf : Nat → Int64} {n : Nat} {N : Nat → Nat → Nat} (hA : MA n N g h) {s0 : Nat} (hs6 : s0 ≤ 6) : Ct l yX11_toHouse cX11_toHouse 4 (some .int) 1 D tc tt [.ref (ad 0), .int (nI s0)] (hm ad tc g h el u v sf) (PI fun r w => r = nI (tsum N s0) ∧ w = hm ad tc g h el u v sf) := by
  refine Ct.of (by decide +kernel) (Nat.le_of_ble_eq_true rfl) ?_
  intro p e R s m args below meth c A C hr hlk
  have K : ∀ (mm i : Nat), i ≤ s0 → s0 < i + mm → Ev p l e R s m args below meth c 0 0 (EQ below (PI fun r w => r = nI (tsum N s0) ∧ w = hm ad tc g h el u v sf) args s D A) D A 4 (hm ad tc g h el u v sf) 4 [(3, .int (nI i)), (2, .int (nI (tsum N i))), (0, .ref (ad 0)), (1, .int (nI s0))] [] := by
    intro mm
    induction mm with
    | zero =>
      intro i hi1 hi2
      exfalso; omega
    | succ mm ih =>
      intro i hi1 hi2
      refine E_iload_n C dX11_toHouse_4 0 rfl (E_iload_n C dX11_toHouse_5 3 rfl (E_icmp_ge C 24 dX11_toHouse_6 (by decide) (fun c6 => ?_) (fun c6 => ?_)))
      ·
        have hi : i = s0 := by
          rcases Nat.lt_or_ge i s0 with q | q
          · exact absurd (show nI s0 ≤ nI i from c6) (nI_ge q (by omega))
          · omega
        subst hi
        refine E_iload_n C dX11_toHouse_24 1 rfl (E_iretI C hr hlk dX11_toHouse_25 ?_)
        exact ⟨rfl, rfl⟩
      ·
        have hi : i < s0 := by
          rcases Nat.lt_or_ge i s0 with q | q
          · exact q
          · exact absurd (show nI s0 ≤ nI i from nI_le q (by omega)) c6
        refine E_iload_n C dX11_toHouse_9 1 rfl (E_aload_n C dX11_toHouse_10 2 rfl (mg_11_8 C dX11_toHouse_11 f_X11_30 (E_iload_n C dX11_toHouse_14 0 rfl (ma_7 C dX11_toHouse_15 (vinN (by omega)) ?_))))
        rw [nI_clamp (show i < 2 ^ 31 by omega)]
        refine Ev.seti (show h 8 i = nI (N 6 i) from hA.2.2.1 6 i (by decide) (show i < 6 by omega)) ?_
        refine E_iadd C dX11_toHouse_16 ?_
        refine Ev.seti (nI_add _ _) ?_
        refine E_istore_n C dX11_toHouse_17 (by decide) (E_iinc C dX11_toHouse_18 1 rfl (nI_1 i) (by decide) (E_goto C 4 dX11_toHouse_21 (by decide) ?_))
        exact ih (i + 1) (by omega) (by omega)
  refine E_iconst (v := 0) C dX11_toHouse_0 ic_0 (E_istore_n C dX11_toHouse_1 (by decide) (E_iconst (v := 0) C dX11_toHouse_2 ic_0 (E_istore_n C dX11_toHouse_3 (by decide) ?_)))
  exact K (s0 + 1) 0 (by omega) (by omega)
