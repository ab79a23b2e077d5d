/-! the reference: what a law says, how long a going takes -/
theorem AtM.l {h : Nat → Nat → Int32} {i : Nat} {c d : CD} (m : AtM h i (c ++ d)) : AtM h i c := fun j a b e => m j a b (by
  rw [List.getElem?_append_left (List.getElem?_eq_some_iff.mp e).1]
  exact e)
theorem AtM.r {h : Nat → Nat → Int32} {i : Nat} {c d : CD} (m : AtM h i (c ++ d)) : AtM h (i + c.length) d := fun j a b e => by
  have k := m (c.length + j) a b (by
    rw [List.getElem?_append_right (Nat.le_add_right _ _), Nat.add_sub_cancel_left]
    exact e)
  rw [Nat.add_assoc]
  exact k
theorem AtM.at {h : Nat → Nat → Int32} {i i' : Nat} {c : CD} (m : AtM h i c) (e : i = i') : AtM h i' c := e ▸ m
theorem stp_cons (q : CD × CD) (r : List (CD × CD)) : (stp (q :: r)).length = q.1.length + q.2.length + (stp r).length := by
  unfold stp
  rw [List.flatMap_cons, List.length_append, List.length_append]
set_option maxRecDepth 100000 in
set_option maxHeartbeats 4000000 in
theorem m_gives {l : Launch} {D : va_G} {tc tt ad : Nat → Nat} {g : Nat → Int32} {h : Nat → Nat → Int32} {el : Nat → Int64} {u : Nat → Int32} {v : Nat → Nat → Int32} {sf : Nat → Int64} {nm : Nat → Int32} (hnm : ∀ j, j < 5 → v 27 j = nm j) {ls : List (CD × CD)} (hlg0 : ∀ q ∈ ls, LnG q) (hsl0 : (stp ls).length ≤ 128) (hll : ls.length ≤ 61) (hlm : h 24 0 = nI ls.length) (hla0 : LnAt 0 0 h ls 0 0) : Ct l yX11_gives cX11_gives 4 (some .int) 3 D tc tt [.ref (ad 0), .int 0] (hm ad tc g h el u v sf) (PI fun r w => r = evL nm ls ∧ ∃ v', w = hm ad tc g h el u v' sf ∧ ∀ k, k ≠ 28 → v' k = v k) := by
  refine Ct.of (by decide +kernel) (Nat.le_of_ble_eq_true rfl) ?_
  intro p e R s m args below meth c A C hr hlk
  have K : ∀ (n i sa : Nat) (rest : List (CD × CD)) (v1 : Nat → Nat → Int32), i + rest.length = ls.length → rest.length < n → sa + (stp rest).length ≤ 128 → LnAt 0 0 h rest sa i → (∀ q ∈ rest, LnG q) → evL nm ls = evL nm rest → (∀ k, k ≠ 28 → v1 k = v k) → Ev p l e R s m args below meth c 0 0 (EQ below (PI fun r w => r = evL nm ls ∧ ∃ v', w = hm ad tc g h el u v' sf ∧ ∀ k, k ≠ 28 → v' k = v k) args s D A) D A 4 (hm ad tc g h el u v1 sf) 7 [(3, .int (nI i)), (2, .int (nI sa)), (0, .ref (ad 0)), (1, .int 0)] [] := by
    intro n
    induction n with
    | zero =>
      intro i sa rest v1 hil hrl hsl hla hlg heq hv1
      exfalso; omega
    | succ n ih =>
      intro i sa rest v1 hil hrl hsl hla hlg heq hv1
      refine E_iload_n C dX11_gives_7 0 rfl (E_bipush (v := 61) C dX11_gives_8 bp_61 (E_iload_n C dX11_gives_10 3 rfl (E_imul C dX11_gives_11 ?_)))
      refine Ev.seti (show (61 : Int32) * 0 = nI 0 from by decide) ?_
      refine E_aload_n C dX11_gives_12 2 rfl (mg_11_24 C dX11_gives_13 f_X11_59 (E_iload_n C dX11_gives_16 3 rfl (ma_15 C dX11_gives_17 (vinN (k := 0) (by decide)) ?_)))
      refine Ev.seti (show h 24 (0 : Int32).toNatClampNeg = nI ls.length from hlm) ?_
      refine E_iadd C dX11_gives_18 ?_
      refine Ev.seti (show nI 0 + nI ls.length = nI ls.length by rw [nI_add, Nat.zero_add]) ?_
      refine E_icmp_ge C 78 dX11_gives_19 (by decide) (fun c19 => ?_) (fun c19 => ?_)
      ·
        have hr0 : rest = [] := by
          cases rest with
          | nil => rfl
          | cons q r =>
            have hz : i + (r.length + 1) = ls.length := hil
            exact absurd c19 (nI_ge (by omega) (by omega))
        refine E_iconst (v := 0) C dX11_gives_78 ic_0 (E_iretI C hr hlk dX11_gives_79 ?_)
        rw [hr0] at heq
        exact ⟨heq.symm, _, rfl, hv1⟩
      ·
        obtain ⟨q, r, rfl⟩ : ∃ q r, rest = q :: r := by
          cases rest with
          | nil => exact absurd (show nI ls.length ≤ nI i from nI_le (by have hz : i + 0 = ls.length := hil; omega) (by have hz : i + 0 = ls.length := hil; omega)) c19
          | cons q r => exact ⟨q, r, rfl⟩
        have hil2 : i + (r.length + 1) = ls.length := hil
        have hrl2 : r.length + 1 < n + 1 := hrl
        rw [stp_cons] at hsl
        obtain ⟨a1, a2, a3, a4⟩ := hla
        rw [Nat.zero_add] at a1 a2
        have hq := hlg q (List.mem_cons_self ..)
        refine E_aload_n C dX11_gives_22 2 rfl (mg_11_25 C dX11_gives_23 f_X11_62 (E_iload_n C dX11_gives_26 0 rfl (ma_16 C dX11_gives_27 (vinN (by omega)) ?_)))
        rw [nI_clamp (show i < 2 ^ 31 by omega)]
        refine Ev.seti a1 ?_
        refine E_iload_n C dX11_gives_28 1 rfl (E_icmp_eq C 47 dX11_gives_29 (by decide) (fun c29 => ?_) (fun c29 => ?_))
        ·
          have e0 : q.1.length = 0 := by
            have := (nI_eq (by omega) (by omega)).mp c29
            omega
          have hsay : evL nm ls = evE nm q.2 := heq.trans (if_pos (Or.inl e0))
          refine E_aload_n C dX11_gives_47 2 rfl (E_iload_n C dX11_gives_48 3 rfl (E_aload_n C dX11_gives_49 2 rfl (mg_11_25 C dX11_gives_50 f_X11_62 (E_iload_n C dX11_gives_53 0 rfl (ma_16 C dX11_gives_54 (vinN (by omega)) ?_)))))
          rw [nI_clamp (show i < 2 ^ 31 by omega)]
          refine Ev.seti a1 ?_
          refine E_aload_n C dX11_gives_55 2 rfl (mg_11_26 C dX11_gives_56 f_X11_66 (E_iload_n C dX11_gives_59 0 rfl (ma_17 C dX11_gives_60 (vinN (by omega)) ?_)))
          rw [nI_clamp (show i < 2 ^ 31 by omega)]
          refine Ev.seti a2 ?_
          refine E_callVI C dX11_gives_61 mv_X11_224 0 _ (m_worked (nm := nm) (fun j hj => by rw [hv1 27 (by decide)]; exact hnm j hj) (p0 := 0) (f0 := sa + q.1.length) (cd := q.2) (a3.r.at (by omega)) hq.2 (by decide) (by omega)) rfl rfl rfl (by decide) (Nat.le_of_ble_eq_true rfl) ?_
          rintro _ _ ⟨rfl, v3, rfl, hv3⟩
          refine E_iretI C hr hlk dX11_gives_64 ?_
          exact ⟨hsay.symm, _, rfl, fun k z => (hv3 k z).trans (hv1 k z)⟩
        ·
          have e0 : ¬ q.1.length = 0 := fun z => c29 (by rw [z]; rfl)
          have g1 : GC q.1 := by
            rcases hq.1 with z | z
            · exact absurd (by rw [z]; rfl) e0
            · exact z
          refine E_aload_n C dX11_gives_32 2 rfl (E_iload_n C dX11_gives_33 3 rfl (E_iload_n C dX11_gives_34 1 rfl (E_aload_n C dX11_gives_35 2 rfl (mg_11_25 C dX11_gives_36 f_X11_62 (E_iload_n C dX11_gives_39 0 rfl ?_)))))
          refine ma_16 C dX11_gives_40 (vinN (by omega)) ?_
          rw [nI_clamp (show i < 2 ^ 31 by omega)]
          refine Ev.seti a1 ?_
          refine E_callVI C dX11_gives_41 mv_X11_224 0 _ (m_worked (nm := nm) (fun j hj => by rw [hv1 27 (by decide)]; exact hnm j hj) (p0 := 0) (f0 := sa) (cd := q.1) (a3.l.at (by omega)) g1 (by decide) (by omega)) rfl rfl rfl (by decide) (Nat.le_of_ble_eq_true rfl) ?_
          rintro _ _ ⟨rfl, v2, rfl, hv2⟩
          refine E_if_eq C 65 dX11_gives_44 (by decide) (fun c44 => ?_) (fun c44 => ?_)
          ·
            refine E_aload_n C dX11_gives_65 2 rfl (mg_11_26 C dX11_gives_66 f_X11_66 (E_iload_n C dX11_gives_69 0 rfl (ma_17 C dX11_gives_70 (vinN (by omega)) ?_)))
            rw [nI_clamp (show i < 2 ^ 31 by omega)]
            refine Ev.seti a2 ?_
            refine E_istore_n C dX11_gives_71 (by decide) (E_iinc C dX11_gives_72 1 rfl (nI_1 i) (by decide) (E_goto C 7 dX11_gives_75 (by decide) ?_))
            exact ih (i + 1) (sa + q.1.length + q.2.length) r _ (by omega) (by omega) (by omega) a4 (fun z hz => hlg z (List.mem_cons_of_mem _ hz)) (heq.trans (if_neg (fun z => z.elim e0 (fun z2 => z2 c44)))) (fun k z => (hv2 k z).trans (hv1 k z))
          ·
            have hsay : evL nm ls = evE nm q.2 := heq.trans (if_pos (Or.inr c44))
            refine E_aload_n C dX11_gives_47 2 rfl (E_iload_n C dX11_gives_48 3 rfl (E_aload_n C dX11_gives_49 2 rfl (mg_11_25 C dX11_gives_50 f_X11_62 (E_iload_n C dX11_gives_53 0 rfl (ma_16 C dX11_gives_54 (vinN (by omega)) ?_)))))
            rw [nI_clamp (show i < 2 ^ 31 by omega)]
            refine Ev.seti a1 ?_
            refine E_aload_n C dX11_gives_55 2 rfl (mg_11_26 C dX11_gives_56 f_X11_66 (E_iload_n C dX11_gives_59 0 rfl (ma_17 C dX11_gives_60 (vinN (by omega)) ?_)))
            rw [nI_clamp (show i < 2 ^ 31 by omega)]
            refine Ev.seti a2 ?_
            refine E_callVI C dX11_gives_61 mv_X11_224 0 _ (m_worked (nm := nm) (fun j hj => by rw [hv2 27 (by decide), hv1 27 (by decide)]; exact hnm j hj) (p0 := 0) (f0 := sa + q.1.length) (cd := q.2) (a3.r.at (by omega)) hq.2 (by decide) (by omega)) rfl rfl rfl (by decide) (Nat.le_of_ble_eq_true rfl) ?_
            rintro _ _ ⟨rfl, v3, rfl, hv3⟩
            refine E_iretI C hr hlk dX11_gives_64 ?_
            exact ⟨hsay.symm, _, rfl, fun k z => (hv3 k z).trans ((hv2 k z).trans (hv1 k z))⟩
  refine E_iconst (v := 0) C dX11_gives_0 ic_0 (E_istore_n C dX11_gives_1 (by decide) (E_bipush (v := 61) C dX11_gives_2 bp_61 (E_iload_n C dX11_gives_4 2 rfl (E_imul C dX11_gives_5 ?_))))
  refine Ev.seti (show (61 : Int32) * 0 = nI 0 from by decide) ?_
  refine E_istore_n C dX11_gives_6 (by decide) ?_
  exact K (ls.length + 1) 0 0 ls v (by omega) (by omega) (by omega) hla0 hlg0 rfl (fun _ _ => rfl)
set_option maxRecDepth 100000 in
set_option maxHeartbeats 4000000 in
theorem m_goingTakes {l : Launch} {D : va_G} {tc tt ad : Nat → Nat} {g : Nat → Int32} {h : Nat → Nat → Int32} {el : Nat → Int64} {u : Nat → Int32} {v : Nat → Nat → Int32} {sf : Nat → Int64} {n : Nat} {N : Nat → Nat → Nat} (hA : MA n N g h) {L : Nat → Nat → Nat → Nat → Nat → Nat} (hL : MLw g h L) {nn pp kk ww ss : Nat} (hpp : pp < 6) : Ct l yX11_goingTakes cX11_goingTakes 7 (some .int) 4 D tc tt [.ref (ad 0), .int (nI nn), .int (nI pp), .int (nI kk), .int (nI ww), .int (nI ss)] (hm ad tc g h el u v sf) (PI fun r w => r = nI (L nn (N 5 pp) kk ww ss) ∧ ∃ v', w = hm ad tc g h el u v' sf ∧ ∀ k, k ≠ 27 → k ≠ 28 → v' k = v k) := by
  by_cases hz : g 29 = 0
  ·
    have hL0 : L = law0 := by
      rcases hL with ⟨-, q⟩ | ⟨q, -⟩
      · exact q
      · rw [hz] at q; exact absurd q (by decide)
    have hv : heldF (nI (N 5 pp) + nI nn) = nI (L nn (N 5 pp) kk ww ss) := by rw [hL0]; exact (held_nat _).1
    refine Ct.of (by decide +kernel) (Nat.le_of_ble_eq_true rfl) ?_
    intro p e R s m args below meth c A C hr hlk
    refine E_aload_n C dX11_goingTakes_0 0 rfl (mg_11_7 C dX11_goingTakes_1 f_X11_27 (E_iload_n C dX11_goingTakes_4 2 rfl (ma_6 C dX11_goingTakes_5 (vinN (by omega)) ?_)))
    rw [nI_clamp (show pp < 2 ^ 31 by omega)]
    refine Ev.seti (show h 7 pp = nI (N 5 pp) from hA.2.2.1 5 pp (by decide) hpp) ?_
    refine E_iload_n C dX11_goingTakes_6 1 rfl (E_iadd C dX11_goingTakes_7 (E_istore C dX11_goingTakes_8 (by decide) (E_aload_n C dX11_goingTakes_10 1 rfl (mg_11_29 C dX11_goingTakes_11 f_X11_230 (E_if_eq C 66 dX11_goingTakes_14 (by decide) (fun c14 => ?_) (fun c14 => ?_))))))
    ·
      refine E_iload C dX11_goingTakes_66 0 rfl (E_iconst (v := 1) C dX11_goingTakes_68 ic_1 (E_icmp_ge C 76 dX11_goingTakes_69 (by decide) (fun c69 => ?_) (fun c69 => ?_)))
      ·
        refine E_iload C dX11_goingTakes_76 0 rfl (E_bipush (v := 60) C dX11_goingTakes_78 bp_60 (E_icmp_le C 88 dX11_goingTakes_80 (by decide) (fun c80 => ?_) (fun c80 => ?_)))
        ·
          refine E_iload C dX11_goingTakes_88 0 rfl (E_iretI C hr hlk dX11_goingTakes_90 ?_)
          exact ⟨((if_neg (Int32.not_lt.mpr c69)).trans (if_neg (Int32.not_lt.mpr c80))).symm.trans ((held_alt (nI (N 5 pp) + nI nn)).trans hv), v, rfl, fun _ _ _ => rfl⟩
        ·
          refine E_bipush (v := 60) C dX11_goingTakes_83 bp_60 (E_goto C 90 dX11_goingTakes_85 (by decide) (E_iretI C hr hlk dX11_goingTakes_90 ?_))
          exact ⟨((if_neg (Int32.not_lt.mpr c69)).trans (if_pos (Int32.not_le.mp c80))).symm.trans ((held_alt (nI (N 5 pp) + nI nn)).trans hv), v, rfl, fun _ _ _ => rfl⟩
      ·
        refine E_iconst (v := 1) C dX11_goingTakes_72 ic_1 (E_goto C 90 dX11_goingTakes_73 (by decide) (E_iretI C hr hlk dX11_goingTakes_90 ?_))
        exact ⟨(if_pos (Int32.not_le.mp c69)).symm.trans ((held_alt (nI (N 5 pp) + nI nn)).trans hv), v, rfl, fun _ _ _ => rfl⟩
    ·
      exact absurd hz c14
  ·
    obtain ⟨ls, l1, l2, l3, l4, l5, hL0⟩ : ∃ ls : List (CD × CD), (∀ q ∈ ls, LnG q) ∧ (stp ls).length ≤ 128 ∧ ls.length ≤ 61 ∧ h 24 0 = nI ls.length ∧ LnAt 0 0 h ls 0 0 ∧ L = lawL ls := by
      rcases hL with ⟨q, -⟩ | ⟨-, q⟩
      · exact absurd q hz
      · exact q
    have hv : heldF (evL (facts (nI nn) (nI (N 5 pp)) (nI kk) (nI ww) (nI ss)) ls) = nI (L nn (N 5 pp) kk ww ss) := by rw [hL0]; exact (held_nat _).1
    refine Ct.of (by decide +kernel) (Nat.le_of_ble_eq_true rfl) ?_
    intro p e R s m args below meth c A C hr hlk
    refine E_aload_n C dX11_goingTakes_0 0 rfl (mg_11_7 C dX11_goingTakes_1 f_X11_27 (E_iload_n C dX11_goingTakes_4 2 rfl (ma_6 C dX11_goingTakes_5 (vinN (by omega)) ?_)))
    rw [nI_clamp (show pp < 2 ^ 31 by omega)]
    refine Ev.seti (show h 7 pp = nI (N 5 pp) from hA.2.2.1 5 pp (by decide) hpp) ?_
    refine E_iload_n C dX11_goingTakes_6 1 rfl (E_iadd C dX11_goingTakes_7 (E_istore C dX11_goingTakes_8 (by decide) (E_aload_n C dX11_goingTakes_10 1 rfl (mg_11_29 C dX11_goingTakes_11 f_X11_230 (E_if_eq C 66 dX11_goingTakes_14 (by decide) (fun c14 => ?_) (fun c14 => ?_))))))
    ·
      exact absurd c14 hz
    ·
      refine E_aload_n C dX11_goingTakes_17 1 rfl (mg_11_27 C dX11_goingTakes_18 f_X11_69 (E_iconst (v := 0) C dX11_goingTakes_21 ic_0 (E_iload_n C dX11_goingTakes_22 2 rfl (ms_18 C dX11_goingTakes_23 (vinN (k := 0) (by decide)) (E_aload_n C dX11_goingTakes_24 1 rfl ?_)))))
      refine mg_11_27 C dX11_goingTakes_25 f_X11_69 (E_iconst (v := 1) C dX11_goingTakes_28 ic_1 (E_aload_n C dX11_goingTakes_29 1 rfl (mg_11_7 C dX11_goingTakes_30 f_X11_27 (E_iload_n C dX11_goingTakes_33 3 rfl (ma_6 C dX11_goingTakes_34 (vinN (by omega)) ?_)))))
      rw [nI_clamp (show pp < 2 ^ 31 by omega)]
      refine Ev.seti (show h 7 pp = nI (N 5 pp) from hA.2.2.1 5 pp (by decide) hpp) ?_
      refine ms_18 C dX11_goingTakes_35 (vinN (k := 1) (by decide)) (E_aload_n C dX11_goingTakes_36 1 rfl (mg_11_27 C dX11_goingTakes_37 f_X11_69 (E_iconst (v := 2) C dX11_goingTakes_40 ic_2 (E_iload_n C dX11_goingTakes_41 4 rfl (ms_18 C dX11_goingTakes_42 (vinN (k := 2) (by decide)) ?_)))))
      refine E_aload_n C dX11_goingTakes_43 1 rfl (mg_11_27 C dX11_goingTakes_44 f_X11_69 (E_iconst (v := 3) C dX11_goingTakes_47 ic_3 (E_iload C dX11_goingTakes_48 5 rfl (ms_18 C dX11_goingTakes_50 (vinN (k := 3) (by decide)) (E_aload_n C dX11_goingTakes_51 1 rfl ?_)))))
      refine mg_11_27 C dX11_goingTakes_52 f_X11_69 (E_iconst (v := 4) C dX11_goingTakes_55 ic_4 (E_iload C dX11_goingTakes_56 6 rfl (ms_18 C dX11_goingTakes_58 (vinN (k := 4) (by decide)) (E_aload_n C dX11_goingTakes_59 1 rfl (E_iconst (v := 0) C dX11_goingTakes_60 ic_0 ?_)))))
      refine E_callVI C dX11_goingTakes_61 mv_X11_234 0 _ (m_gives (nm := (facts (nI nn) (nI (N 5 pp)) (nI kk) (nI ww) (nI ss))) (fun j hj => by rcases (show j = 0 ∨ j = 1 ∨ j = 2 ∨ j = 3 ∨ j = 4 by omega) with rfl | rfl | rfl | rfl | rfl <;> rfl) l1 l2 l3 l4 l5) rfl rfl rfl (by decide) (Nat.le_of_ble_eq_true rfl) ?_
      rintro _ _ ⟨rfl, v2, rfl, hv2⟩
      refine E_istore C dX11_goingTakes_64 (by decide) (E_iload C dX11_goingTakes_66 0 rfl (E_iconst (v := 1) C dX11_goingTakes_68 ic_1 (E_icmp_ge C 76 dX11_goingTakes_69 (by decide) (fun c69 => ?_) (fun c69 => ?_))))
      ·
        refine E_iload C dX11_goingTakes_76 0 rfl (E_bipush (v := 60) C dX11_goingTakes_78 bp_60 (E_icmp_le C 88 dX11_goingTakes_80 (by decide) (fun c80 => ?_) (fun c80 => ?_)))
        ·
          refine E_iload C dX11_goingTakes_88 0 rfl (E_iretI C hr hlk dX11_goingTakes_90 ?_)
          exact ⟨((if_neg (Int32.not_lt.mpr c69)).trans (if_neg (Int32.not_lt.mpr c80))).symm.trans ((held_alt (evL (facts (nI nn) (nI (N 5 pp)) (nI kk) (nI ww) (nI ss)) ls)).trans hv), v2, rfl, fun k z1 z2 => (hv2 k z2).trans ((vun z1).trans ((vun z1).trans ((vun z1).trans ((vun z1).trans (vun z1)))))⟩
        ·
          refine E_bipush (v := 60) C dX11_goingTakes_83 bp_60 (E_goto C 90 dX11_goingTakes_85 (by decide) (E_iretI C hr hlk dX11_goingTakes_90 ?_))
          exact ⟨((if_neg (Int32.not_lt.mpr c69)).trans (if_pos (Int32.not_le.mp c80))).symm.trans ((held_alt (evL (facts (nI nn) (nI (N 5 pp)) (nI kk) (nI ww) (nI ss)) ls)).trans hv), v2, rfl, fun k z1 z2 => (hv2 k z2).trans ((vun z1).trans ((vun z1).trans ((vun z1).trans ((vun z1).trans (vun z1)))))⟩
      ·
        refine E_iconst (v := 1) C dX11_goingTakes_72 ic_1 (E_goto C 90 dX11_goingTakes_73 (by decide) (E_iretI C hr hlk dX11_goingTakes_90 ?_))
        exact ⟨(if_pos (Int32.not_le.mp c69)).symm.trans ((held_alt (evL (facts (nI nn) (nI (N 5 pp)) (nI kk) (nI ww) (nI ss)) ls)).trans hv), v2, rfl, fun k z1 z2 => (hv2 k z2).trans ((vun z1).trans ((vun z1).trans ((vun z1).trans ((vun z1).trans (vun z1)))))⟩
