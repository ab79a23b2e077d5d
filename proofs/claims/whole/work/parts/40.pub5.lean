/-! the class's own methods: things, draws, the drive in deed, bodies, letters -/
set_option maxRecDepth 100000 in
set_option maxHeartbeats 4000000 in
theorem s_take {l : Launch} {D : va_G} {tc tt ad : Nat → Nat} {W : Nat → Nat → Int32} {g : Nat → Int32} {h : Nat → Nat → Int32} {Dv : Nat → (Nat → Int32) × (Nat → Nat → Int32)} {Sh : Nat → (Nat → Int32) × (Nat → Int64)} {u : Nat → Int32} {v : Nat → Nat → Int32} {z : Int64} {y : Nat → Int64} {tl : Nat} (hg : g 5 = nI tl) (hlt : tl < 120) (x0 : Int32) : Ct l yX6_take cX6_take 2 (some .int) 1 D tc tt [.ref (ad 21), .int x0] (hx ad tc W g h Dv Sh u v z y) (PI fun r w => r = nI (tl + 1) ∧ w = hx ad tc W (va_up g 5 (nI (tl + 1))) (va_up h 6 (upd (h 6) tl x0)) Dv Sh u v z y) := by
  refine Ct.of (by decide +kernel) (Nat.le_of_ble_eq_true rfl) ?_
  intro p e R s m args below meth c A C hr hlk
  refine E_aload_n C dX6_take_0 0 rfl (xg_6_3 C dX6_take_1 f_X6_23 ?_)
  refine Ev.seti hg ?_
  refine E_if_lt C 16 dX6_take_4 (by decide) (fun c4 => ?_) (fun c4 => ?_)
  ·
    exact absurd c4 (nI_pos (by omega))
  ·
    refine E_aload_n C dX6_take_7 0 rfl (xg_6_3 C dX6_take_8 f_X6_23 ?_)
    refine Ev.seti hg ?_
    refine E_bipush (v := 120) C dX6_take_11 bp_120 (E_icmp_lt C 19 dX6_take_13 (by decide) (fun c13 => ?_) (fun c13 => ?_))
    ·
      refine E_aload_n C dX6_take_19 0 rfl (xg_6_0 C dX6_take_20 f_X6_11 (E_aload_n C dX6_take_23 0 rfl (xg_6_3 C dX6_take_24 f_X6_23 ?_)))
      refine Ev.seti hg ?_
      refine E_iload_n C dX6_take_27 1 rfl (xs_22 C dX6_take_28 (vinN (by omega)) ?_)
      rw [nI_clamp (show tl < 2 ^ 31 by omega)]
      refine E_aload_n C dX6_take_29 0 rfl (E_dup C dX6_take_30 rfl (xg_6_3 C dX6_take_31 f_X6_23 ?_))
      refine Ev.seti hg ?_
      refine E_iconst (v := 1) C dX6_take_34 ic_1 (E_iadd C dX6_take_35 ?_)
      refine Ev.seti (nI_1 tl) ?_
      refine xp_6_3 C dX6_take_36 fw_X6_23 (E_aload_n C dX6_take_39 0 rfl (xg_6_3 C dX6_take_40 f_X6_23 ?_))
      refine Ev.seti (show (va_up g 5 (nI (tl + 1))) 5 = nI (tl + 1) from rfl) ?_
      refine E_iretI C hr hlk dX6_take_43 ?_
      exact ⟨rfl, rfl⟩
    ·
      exact absurd (show nI tl < nI 120 from nI_lt hlt (by decide)) c13
set_option maxRecDepth 100000 in
set_option maxHeartbeats 4000000 in
theorem s_takeF {l : Launch} {D : va_G} {tc tt ad : Nat → Nat} {W : Nat → Nat → Int32} {g : Nat → Int32} {h : Nat → Nat → Int32} {Dv : Nat → (Nat → Int32) × (Nat → Nat → Int32)} {Sh : Nat → (Nat → Int32) × (Nat → Int64)} {u : Nat → Int32} {v : Nat → Nat → Int32} {z : Int64} {y : Nat → Int64} (hg : g 5 = nI 120) (x0 : Int32) : Ct l yX6_take cX6_take 2 (some .int) 1 D tc tt [.ref (ad 21), .int x0] (hx ad tc W g h Dv Sh u v z y) (PI fun r w => r = -3 ∧ w = hx ad tc W g h Dv Sh u v z y) := by
  refine Ct.of (by decide +kernel) (Nat.le_of_ble_eq_true rfl) ?_
  intro p e R s m args below meth c A C hr hlk
  refine E_aload_n C dX6_take_0 0 rfl (xg_6_3 C dX6_take_1 f_X6_23 ?_)
  refine Ev.seti hg ?_
  refine E_if_lt C 16 dX6_take_4 (by decide) (fun c4 => ?_) (fun c4 => ?_)
  ·
    exact absurd c4 (nI_pos (by decide))
  ·
    refine E_aload_n C dX6_take_7 0 rfl (xg_6_3 C dX6_take_8 f_X6_23 ?_)
    refine Ev.seti hg ?_
    refine E_bipush (v := 120) C dX6_take_11 bp_120 (E_icmp_lt C 19 dX6_take_13 (by decide) (fun c13 => ?_) (fun c13 => ?_))
    ·
      exact absurd c13 Int32.lt_irrefl
    ·
      refine E_bipush (v := -3) C dX6_take_16 bp_m3 (E_iretI C hr hlk dX6_take_18 ?_)
      exact ⟨rfl, rfl⟩
set_option maxRecDepth 100000 in
set_option maxHeartbeats 4000000 in
theorem p_feed {l : Launch} {D : va_G} {tc tt ad : Nat → Nat} {S : STT} {kk0 : Nat} {w0 : va_W} (hX : XR ad tc S kk0 w0) (hk600 : kk0 ≤ 600) (x0 : Int32) : Ct l yX10_feed cX10_feed 2 (some .int) 4 D tc tt [.ref (ad 0), .int x0] w0 (PI fun r w => r = aFeed S x0 ∧ XR ad tc (nFeed S x0) (kk0 + 1) w) := by
  obtain ⟨W, g, h, Dv, Sh, u, v, z, y, rfl, X⟩ := hX
  have hn := X.1.1
  have hn8 := X.1.2.1
  have hN := X.1.2.2.1
  have hB := X.1.2.2.2.1
  have hL := X.1.2.2.2.2.2
  have htp := X.2.2.1.1
  have htl := X.2.2.1.2.1
  by_cases hcase : S.2.2.1.length < 120
  · skip
    refine Ct.of (by decide +kernel) (Nat.le_of_ble_eq_true rfl) ?_
    intro p e R s m args below meth c A C hr hlk
    refine E_iload_n C dX10_feed_0 1 rfl (E_if_lt C 11 dX10_feed_1 (by decide) (fun c1 => ?_) (fun c1 => ?_))
    ·
      refine E_iconst (v := -1) C dX10_feed_11 ic_m1 (E_goto C 23 dX10_feed_12 (by decide) (E_iretI C hr hlk dX10_feed_23 ?_))
      refine ⟨(if_neg fun q => ?_).symm, ?_⟩
      · first
        | exact absurd c1 (Int32.not_lt.mpr q.1)
        | exact c8 q.2
      · have hnx : nFeed S x0 = S := if_neg (fun q => by first | exact absurd c1 (Int32.not_lt.mpr q.1) | exact c8 q.2.1)
        rw [hnx]
        exact ⟨W, g, h, Dv, Sh, u, v, z, y, rfl, X.same⟩
    ·
      refine E_iload_n C dX10_feed_4 1 rfl (E_sipush (v := 255) C dX10_feed_5 sp_255 (E_icmp_le C 15 dX10_feed_8 (by decide) (fun c8 => ?_) (fun c8 => ?_)))
      ·
        have hall : 0 ≤ x0 ∧ x0 ≤ 255 := ⟨Int32.not_lt.mp c1, c8⟩
        have ha : aFeed S x0 = _ := if_pos hall
        refine E_aload_n C dX10_feed_15 0 rfl (xg_10_2 C dX10_feed_16 f_X10_26 (E_iload_n C dX10_feed_19 1 rfl (E_callVI C dX10_feed_20 mv_X10_113 21 _ (s_take htp hcase x0) rfl rfl rfl (by decide) (Nat.le_of_ble_eq_true rfl) ?_)))
        rintro _ _ ⟨rfl, rfl⟩
        refine E_iretI C hr hlk dX10_feed_23 ?_
        obtain ⟨xn, hxm, hxc, rfl⟩ := n_of (k := 255) (m := 255) rfl c1 c8
        have hnx : nFeed S (nI xn) = (S.1, S.2.1, S.2.2.1 ++ [xn], S.2.2.2) := (if_pos ⟨hall.1, hall.2, hcase⟩).trans (by rw [hxc])
        rw [hnx]
        refine ⟨(ha.trans (if_neg (by omega))).symm, ⟨_, _, _, Dv, Sh, u, v, z, y, rfl, ?_⟩⟩
        obtain ⟨x1, x2, x3, x4, x5, x6, x7, x8⟩ := X
        exact ⟨x1.kept rfl rfl rfl rfl, x2.kept rfl rfl rfl rfl rfl rfl, x3.put hcase (by omega), x4.kept rfl rfl rfl, x5.kept rfl rfl rfl rfl, x6.kept rfl rfl rfl rfl, x7, x8.keptl rfl rfl rfl rfl rfl⟩
      ·
        refine E_iconst (v := -1) C dX10_feed_11 ic_m1 (E_goto C 23 dX10_feed_12 (by decide) (E_iretI C hr hlk dX10_feed_23 ?_))
        refine ⟨(if_neg fun q => ?_).symm, ?_⟩
        · first
          | exact absurd c1 (Int32.not_lt.mpr q.1)
          | exact c8 q.2
        · have hnx : nFeed S x0 = S := if_neg (fun q => by first | exact absurd c1 (Int32.not_lt.mpr q.1) | exact c8 q.2.1)
          rw [hnx]
          exact ⟨W, g, h, Dv, Sh, u, v, z, y, rfl, X.same⟩
  · skip
    refine Ct.of (by decide +kernel) (Nat.le_of_ble_eq_true rfl) ?_
    intro p e R s m args below meth c A C hr hlk
    refine E_iload_n C dX10_feed_0 1 rfl (E_if_lt C 11 dX10_feed_1 (by decide) (fun c1 => ?_) (fun c1 => ?_))
    ·
      refine E_iconst (v := -1) C dX10_feed_11 ic_m1 (E_goto C 23 dX10_feed_12 (by decide) (E_iretI C hr hlk dX10_feed_23 ?_))
      refine ⟨(if_neg fun q => ?_).symm, ?_⟩
      · first
        | exact absurd c1 (Int32.not_lt.mpr q.1)
        | exact c8 q.2
      · have hnx : nFeed S x0 = S := if_neg (fun q => by first | exact absurd c1 (Int32.not_lt.mpr q.1) | exact c8 q.2.1)
        rw [hnx]
        exact ⟨W, g, h, Dv, Sh, u, v, z, y, rfl, X.same⟩
    ·
      refine E_iload_n C dX10_feed_4 1 rfl (E_sipush (v := 255) C dX10_feed_5 sp_255 (E_icmp_le C 15 dX10_feed_8 (by decide) (fun c8 => ?_) (fun c8 => ?_)))
      ·
        have hall : 0 ≤ x0 ∧ x0 ≤ 255 := ⟨Int32.not_lt.mp c1, c8⟩
        have ha : aFeed S x0 = _ := if_pos hall
        refine E_aload_n C dX10_feed_15 0 rfl (xg_10_2 C dX10_feed_16 f_X10_26 (E_iload_n C dX10_feed_19 1 rfl (E_callVI C dX10_feed_20 mv_X10_113 21 _ (s_takeF (show g 5 = nI 120 by rw [htp]; congr 1; omega) x0) rfl rfl rfl (by decide) (Nat.le_of_ble_eq_true rfl) ?_)))
        rintro _ _ ⟨rfl, rfl⟩
        refine E_iretI C hr hlk dX10_feed_23 ?_
        have hnx : nFeed S x0 = S := if_neg (fun q => hcase q.2.2)
        rw [hnx]
        exact ⟨(ha.trans (if_pos (by omega))).symm, ⟨W, g, h, Dv, Sh, u, v, z, y, rfl, X.same⟩⟩
      ·
        refine E_iconst (v := -1) C dX10_feed_11 ic_m1 (E_goto C 23 dX10_feed_12 (by decide) (E_iretI C hr hlk dX10_feed_23 ?_))
        refine ⟨(if_neg fun q => ?_).symm, ?_⟩
        · first
          | exact absurd c1 (Int32.not_lt.mpr q.1)
          | exact c8 q.2
        · have hnx : nFeed S x0 = S := if_neg (fun q => by first | exact absurd c1 (Int32.not_lt.mpr q.1) | exact c8 q.2.1)
          rw [hnx]
          exact ⟨W, g, h, Dv, Sh, u, v, z, y, rfl, X.same⟩
set_option maxRecDepth 100000 in
set_option maxHeartbeats 4000000 in
theorem p_thing {l : Launch} {D : va_G} {tc tt ad : Nat → Nat} {S : STT} {kk0 : Nat} {w0 : va_W} (hX : XR ad tc S kk0 w0) (hk600 : kk0 ≤ 600) (wc st : Int32) : Ct l yX10_thing cX10_thing 5 (some .int) 4 D tc tt [.ref (ad 0), .int wc, .int st] w0 (PI fun r w => r = aThing S wc st ∧ XR ad tc (nThing S wc st) (kk0 + 1) w) := by
  obtain ⟨W, g, h, Dv, Sh, u, v, z, y, rfl, X⟩ := hX
  have hn := X.1.1
  have hn8 := X.1.2.1
  have hN := X.1.2.2.1
  have hB := X.1.2.2.2.1
  have hL := X.1.2.2.2.2.2
  by_cases hcase : S.1.1 < 8
  · skip
    refine Ct.of (by decide +kernel) (Nat.le_of_ble_eq_true rfl) ?_
    intro p e R s m args below meth c A C hr hlk
    refine E_iload_n C dX10_thing_0 1 rfl (E_bipush (v := 100) C dX10_thing_1 bp_100 (E_idiv C dX10_thing_3 (by decide) (E_istore_n C dX10_thing_4 (by decide) (E_iload_n C dX10_thing_5 2 rfl (E_bipush (v := 100) C dX10_thing_6 bp_100 ?_)))))
    refine E_irem C dX10_thing_8 (by decide) (E_istore C dX10_thing_9 (by decide) (E_iload_n C dX10_thing_11 3 rfl (E_if_lt C 40 dX10_thing_12 (by decide) (fun c12 => ?_) (fun c12 => ?_))))
    ·
      refine E_iconst (v := -1) C dX10_thing_40 ic_m1 (E_iretI C hr hlk dX10_thing_41 ?_)
      have hok : ¬ okT wc st = true := fun q => by simp only [okT, decide_eq_true_eq] at q; exact q.1 c12
      have hnx : nThing S wc st = S := if_neg (fun q => hok q.1)
      rw [hnx]
      exact ⟨(if_neg hok).symm, ⟨W, g, h, Dv, Sh, u, v, z, y, rfl, X.same⟩⟩
    ·
      refine E_iconst (v := 0) C dX10_thing_15 ic_0 (E_iload_n C dX10_thing_16 1 rfl (E_callSI C dX10_thing_17 ms_X10_74 _ (s_may 0 (wc / 100)) rfl rfl (by decide) (Nat.le_of_ble_eq_true rfl) ?_))
      rintro _ _ ⟨rfl, rfl⟩
      refine E_if_eq C 40 dX10_thing_20 (by decide) (fun c20 => ?_) (fun c20 => ?_)
      ·
        have m0 : ¬ mayB 0 (wc / 100) = true := fun q => by rw [if_pos q] at c20; cases c20
        refine E_iconst (v := -1) C dX10_thing_40 ic_m1 (E_iretI C hr hlk dX10_thing_41 ?_)
        have hok : ¬ okT wc st = true := fun q => by simp only [okT, decide_eq_true_eq] at q; exact m0 q.2.1
        have hnx : nThing S wc st = S := if_neg (fun q => hok q.1)
        rw [hnx]
        exact ⟨(if_neg hok).symm, ⟨W, g, h, Dv, Sh, u, v, z, y, rfl, X.same⟩⟩
      ·
        have m0 : mayB 0 (wc / 100) = true := Classical.byContradiction fun q => c20 (if_neg q)
        refine E_iconst (v := 1) C dX10_thing_23 ic_1 (E_iload C dX10_thing_24 0 rfl (E_callSI C dX10_thing_26 ms_X10_74 _ (s_may 1 (wc - wc / 100 * 100)) rfl rfl (by decide) (Nat.le_of_ble_eq_true rfl) ?_))
        rintro _ _ ⟨rfl, rfl⟩
        refine E_if_eq C 40 dX10_thing_29 (by decide) (fun c29 => ?_) (fun c29 => ?_)
        ·
          have m1 : ¬ mayB 1 (wc - wc / 100 * 100) = true := fun q => by rw [if_pos q] at c29; cases c29
          refine E_iconst (v := -1) C dX10_thing_40 ic_m1 (E_iretI C hr hlk dX10_thing_41 ?_)
          have hok : ¬ okT wc st = true := fun q => by simp only [okT, decide_eq_true_eq] at q; exact m1 q.2.2.1
          have hnx : nThing S wc st = S := if_neg (fun q => hok q.1)
          rw [hnx]
          exact ⟨(if_neg hok).symm, ⟨W, g, h, Dv, Sh, u, v, z, y, rfl, X.same⟩⟩
        ·
          have m1 : mayB 1 (wc - wc / 100 * 100) = true := Classical.byContradiction fun q => c29 (if_neg q)
          refine E_iconst (v := 2) C dX10_thing_32 ic_2 (E_iload_n C dX10_thing_33 4 rfl (E_callSI C dX10_thing_34 ms_X10_74 _ (s_may 2 st) rfl rfl (by decide) (Nat.le_of_ble_eq_true rfl) ?_))
          rintro _ _ ⟨rfl, rfl⟩
          refine E_if_ne C 42 dX10_thing_37 (by decide) (fun c37 => ?_) (fun c37 => ?_)
          ·
            have m2 : mayB 2 st = true := Classical.byContradiction fun q => c37 (if_neg q)
            have hok : okT wc st = true := by simp only [okT, decide_eq_true_eq]; exact ⟨c12, m0, m1, m2⟩
            have ha : aThing S wc st = _ := if_pos hok
            refine E_aload_n C dX10_thing_42 2 rfl (xg_10_0 C dX10_thing_43 f_X10_10 (E_iload_n C dX10_thing_46 1 rfl (E_iload C dX10_thing_47 0 rfl (E_iload_n C dX10_thing_49 4 rfl (E_bipush (v := 10) C dX10_thing_50 bp_10 ?_)))))
            refine E_callVI C dX10_thing_52 mv_X10_78 1 _ (s_add hn hcase (wc / 100) (wc - wc / 100 * 100) st 10) rfl rfl rfl (by decide) (Nat.le_of_ble_eq_true rfl) ?_
            rintro _ _ ⟨rfl, rfl⟩
            refine E_iretI C hr hlk dX10_thing_55 ?_
            obtain ⟨xa, b1, f1, e1⟩ := may_ex (k := 0) (by decide) m0
            obtain ⟨xb, b2, f2, e2⟩ := may_ex (k := 1) (by decide) m1
            obtain ⟨xc, b3, f3, e3⟩ := may_ex (k := 2) (by decide) m2
            have hnx : nThing S wc st = addS S xa xb xc 10 := (if_pos ⟨hok, hcase⟩).trans (by rw [e2, e1, e3, nI_clamp f1, nI_clamp f2, nI_clamp f3])
            rw [hnx]
            refine ⟨(ha.trans (if_neg (by omega))).symm, ?_⟩
            have hfin := (X.j.add hcase b1 b2 b3 (d := 10) (by decide)).all (by decide)
            rw [← e1, ← e2, ← e3] at hfin
            exact ⟨_, _, _, Dv, Sh, u, v, z, y, rfl, hfin⟩
          ·
            have m2 : ¬ mayB 2 st = true := fun q => by rw [if_pos q] at c37; cases c37
            refine E_iconst (v := -1) C dX10_thing_40 ic_m1 (E_iretI C hr hlk dX10_thing_41 ?_)
            have hok : ¬ okT wc st = true := fun q => by simp only [okT, decide_eq_true_eq] at q; exact m2 q.2.2.2
            have hnx : nThing S wc st = S := if_neg (fun q => hok q.1)
            rw [hnx]
            exact ⟨(if_neg hok).symm, ⟨W, g, h, Dv, Sh, u, v, z, y, rfl, X.same⟩⟩
  · skip
    refine Ct.of (by decide +kernel) (Nat.le_of_ble_eq_true rfl) ?_
    intro p e R s m args below meth c A C hr hlk
    refine E_iload_n C dX10_thing_0 1 rfl (E_bipush (v := 100) C dX10_thing_1 bp_100 (E_idiv C dX10_thing_3 (by decide) (E_istore_n C dX10_thing_4 (by decide) (E_iload_n C dX10_thing_5 2 rfl (E_bipush (v := 100) C dX10_thing_6 bp_100 ?_)))))
    refine E_irem C dX10_thing_8 (by decide) (E_istore C dX10_thing_9 (by decide) (E_iload_n C dX10_thing_11 3 rfl (E_if_lt C 40 dX10_thing_12 (by decide) (fun c12 => ?_) (fun c12 => ?_))))
    ·
      refine E_iconst (v := -1) C dX10_thing_40 ic_m1 (E_iretI C hr hlk dX10_thing_41 ?_)
      have hok : ¬ okT wc st = true := fun q => by simp only [okT, decide_eq_true_eq] at q; exact q.1 c12
      have hnx : nThing S wc st = S := if_neg (fun q => hok q.1)
      rw [hnx]
      exact ⟨(if_neg hok).symm, ⟨W, g, h, Dv, Sh, u, v, z, y, rfl, X.same⟩⟩
    ·
      refine E_iconst (v := 0) C dX10_thing_15 ic_0 (E_iload_n C dX10_thing_16 1 rfl (E_callSI C dX10_thing_17 ms_X10_74 _ (s_may 0 (wc / 100)) rfl rfl (by decide) (Nat.le_of_ble_eq_true rfl) ?_))
      rintro _ _ ⟨rfl, rfl⟩
      refine E_if_eq C 40 dX10_thing_20 (by decide) (fun c20 => ?_) (fun c20 => ?_)
      ·
        have m0 : ¬ mayB 0 (wc / 100) = true := fun q => by rw [if_pos q] at c20; cases c20
        refine E_iconst (v := -1) C dX10_thing_40 ic_m1 (E_iretI C hr hlk dX10_thing_41 ?_)
        have hok : ¬ okT wc st = true := fun q => by simp only [okT, decide_eq_true_eq] at q; exact m0 q.2.1
        have hnx : nThing S wc st = S := if_neg (fun q => hok q.1)
        rw [hnx]
        exact ⟨(if_neg hok).symm, ⟨W, g, h, Dv, Sh, u, v, z, y, rfl, X.same⟩⟩
      ·
        have m0 : mayB 0 (wc / 100) = true := Classical.byContradiction fun q => c20 (if_neg q)
        refine E_iconst (v := 1) C dX10_thing_23 ic_1 (E_iload C dX10_thing_24 0 rfl (E_callSI C dX10_thing_26 ms_X10_74 _ (s_may 1 (wc - wc / 100 * 100)) rfl rfl (by decide) (Nat.le_of_ble_eq_true rfl) ?_))
        rintro _ _ ⟨rfl, rfl⟩
        refine E_if_eq C 40 dX10_thing_29 (by decide) (fun c29 => ?_) (fun c29 => ?_)
        ·
          have m1 : ¬ mayB 1 (wc - wc / 100 * 100) = true := fun q => by rw [if_pos q] at c29; cases c29
          refine E_iconst (v := -1) C dX10_thing_40 ic_m1 (E_iretI C hr hlk dX10_thing_41 ?_)
          have hok : ¬ okT wc st = true := fun q => by simp only [okT, decide_eq_true_eq] at q; exact m1 q.2.2.1
          have hnx : nThing S wc st = S := if_neg (fun q => hok q.1)
          rw [hnx]
          exact ⟨(if_neg hok).symm, ⟨W, g, h, Dv, Sh, u, v, z, y, rfl, X.same⟩⟩
        ·
          have m1 : mayB 1 (wc - wc / 100 * 100) = true := Classical.byContradiction fun q => c29 (if_neg q)
          refine E_iconst (v := 2) C dX10_thing_32 ic_2 (E_iload_n C dX10_thing_33 4 rfl (E_callSI C dX10_thing_34 ms_X10_74 _ (s_may 2 st) rfl rfl (by decide) (Nat.le_of_ble_eq_true rfl) ?_))
          rintro _ _ ⟨rfl, rfl⟩
          refine E_if_ne C 42 dX10_thing_37 (by decide) (fun c37 => ?_) (fun c37 => ?_)
          ·
            have m2 : mayB 2 st = true := Classical.byContradiction fun q => c37 (if_neg q)
            have hok : okT wc st = true := by simp only [okT, decide_eq_true_eq]; exact ⟨c12, m0, m1, m2⟩
            have ha : aThing S wc st = _ := if_pos hok
            refine E_aload_n C dX10_thing_42 2 rfl (xg_10_0 C dX10_thing_43 f_X10_10 (E_iload_n C dX10_thing_46 1 rfl (E_iload C dX10_thing_47 0 rfl (E_iload_n C dX10_thing_49 4 rfl (E_bipush (v := 10) C dX10_thing_50 bp_10 ?_)))))
            refine E_callVI C dX10_thing_52 mv_X10_78 1 _ (s_addF (show g 0 = nI 8 by rw [hn]; congr 1; omega) (wc / 100) (wc - wc / 100 * 100) st 10) rfl rfl rfl (by decide) (Nat.le_of_ble_eq_true rfl) ?_
            rintro _ _ ⟨rfl, rfl⟩
            refine E_iretI C hr hlk dX10_thing_55 ?_
            have hnx : nThing S wc st = S := if_neg (fun q => hcase q.2)
            rw [hnx]
            exact ⟨(ha.trans (if_pos (by omega))).symm, ⟨W, g, h, Dv, Sh, u, v, z, y, rfl, X.same⟩⟩
          ·
            have m2 : ¬ mayB 2 st = true := fun q => by rw [if_pos q] at c37; cases c37
            refine E_iconst (v := -1) C dX10_thing_40 ic_m1 (E_iretI C hr hlk dX10_thing_41 ?_)
            have hok : ¬ okT wc st = true := fun q => by simp only [okT, decide_eq_true_eq] at q; exact m2 q.2.2.2
            have hnx : nThing S wc st = S := if_neg (fun q => hok q.1)
            rw [hnx]
            exact ⟨(if_neg hok).symm, ⟨W, g, h, Dv, Sh, u, v, z, y, rfl, X.same⟩⟩
set_option maxRecDepth 100000 in
set_option maxHeartbeats 4000000 in
theorem p_image {l : Launch} {D : va_G} {tc tt ad : Nat → Nat} {S : STT} {kk0 : Nat} {w0 : va_W} (hX : XR ad tc S kk0 w0) (hk600 : kk0 ≤ 600)  : Ct l yX10_image cX10_image 1 (some .int) 4 D tc tt [.ref (ad 0)] w0 (PI fun r w => r = aImage S ∧ XR ad tc (nImage S) (kk0 + 1) w) := by
  obtain ⟨W, g, h, Dv, Sh, u, v, z, y, rfl, X⟩ := hX
  have hn := X.1.1
  have hn8 := X.1.2.1
  have hN := X.1.2.2.1
  have hB := X.1.2.2.2.1
  have hL := X.1.2.2.2.2.2
  have hD := X.2.2.2.1
  have hI := X.2.2.2.2.1
  refine Ct.of (by decide +kernel) (Nat.le_of_ble_eq_true rfl) ?_
  intro p e R s m args below meth c A C hr hlk
  refine E_aload_n C dX10_image_0 0 rfl (xg_10_6 C dX10_image_1 f_X10_56 (E_callVV C dX10_image_4 mv_X10_253 31 _ (s_keepImage hD.1 hD.2.1) rfl rfl rfl (by decide) (Nat.le_of_ble_eq_true rfl) ?_))
  rintro _ ⟨Dv1, rfl, hf, hq1⟩
  refine E_aload_n C dX10_image_7 0 rfl (xg_10_6 C dX10_image_8 f_X10_56 (xg_4_0 C dX10_image_11 f_X10_232 (xg_3_9 C (b := 2) (by decide) dX10_image_14 f_X10_133 ?_)))
  refine Ev.seti (show (Dv1 2).1 5 = aImage S from (congrArg (fun q => q.1 5) (hf 2 (by decide))).trans hD.1.2.2.2.2.2.1) ?_
  refine E_iretI C hr hlk dX10_image_17 ?_
  refine ⟨rfl, ⟨W, _, h, Dv1, Sh, u, v, z, y, rfl, ?_⟩⟩
  obtain ⟨x1, x2, x3, x4, x5, x6, x7, x8⟩ := X
  exact ⟨x1.kept rfl rfl rfl rfl, x2.kept rfl rfl rfl rfl rfl rfl, x3.kept rfl rfl, x4.kept rfl rfl (hf 2 (by decide)), ⟨rfl, Nat.le_refl _, hq1, hD.2.1, hD.2.2.1, hD.2.2.2.1, hD.2.2.2.2.1, hD.2.2.2.2.2.1, hD.2.2.2.2.2.2⟩, x6.kept rfl rfl rfl rfl, x7, x8.keptl rfl rfl rfl rfl rfl⟩
set_option maxRecDepth 100000 in
set_option maxHeartbeats 4000000 in
theorem p_back {l : Launch} {D : va_G} {tc tt ad : Nat → Nat} {S : STT} {kk0 : Nat} {w0 : va_W} (hX : XR ad tc S kk0 w0) (hk600 : kk0 ≤ 600)  : Ct l yX10_back cX10_back 1 (some .int) 4 D tc tt [.ref (ad 0)] w0 (PI fun r w => r = aBack S ∧ XR ad tc (nBack S) (kk0 + 1) w) := by
  obtain ⟨W, g, h, Dv, Sh, u, v, z, y, rfl, X⟩ := hX
  have hn := X.1.1
  have hn8 := X.1.2.1
  have hN := X.1.2.2.1
  have hB := X.1.2.2.2.1
  have hL := X.1.2.2.2.2.2
  have hD := X.2.2.2.1
  have hI := X.2.2.2.2.1
  by_cases hcase : S.2.2.2.2.1.1 = 0
  · skip
    refine Ct.of (by decide +kernel) (Nat.le_of_ble_eq_true rfl) ?_
    intro p e R s m args below meth c A C hr hlk
    refine E_aload_n C dX10_back_0 0 rfl (xg_10_6 C dX10_back_1 f_X10_56 (xg_4_6 C dX10_back_4 f_X10_256 ?_))
    refine Ev.seti (show g 10 = 0 by rw [hI.1, hcase]; rfl) ?_
    refine E_if_ne C 13 dX10_back_7 (by decide) (fun c7 => ?_) (fun c7 => ?_)
    ·
      exact absurd rfl c7
    ·
      refine E_bipush (v := -5) C dX10_back_10 bp_m5 (E_iretI C hr hlk dX10_back_12 ?_)
      have hnx : nBack S = S := if_pos hcase
      rw [hnx]
      exact ⟨(if_pos hcase).symm, ⟨W, g, h, Dv, Sh, u, v, z, y, rfl, X.same⟩⟩
  · have hone := hI.2.1
    refine Ct.of (by decide +kernel) (Nat.le_of_ble_eq_true rfl) ?_
    intro p e R s m args below meth c A C hr hlk
    refine E_aload_n C dX10_back_0 0 rfl (xg_10_6 C dX10_back_1 f_X10_56 (xg_4_6 C dX10_back_4 f_X10_256 ?_))
    refine Ev.seti (show g 10 = 1 by rw [hI.1, show S.2.2.2.2.1.1 = 1 by omega]; rfl) ?_
    refine E_if_ne C 13 dX10_back_7 (by decide) (fun c7 => ?_) (fun c7 => ?_)
    ·
      refine E_aload_n C dX10_back_13 0 rfl (xg_10_6 C dX10_back_14 f_X10_56 (E_callVV C dX10_back_17 mv_X10_259 31 _ (s_layBack hI.2.2.1 hI.2.2.2.1) rfl rfl rfl (by decide) (Nat.le_of_ble_eq_true rfl) ?_))
      rintro _ ⟨Dv1, rfl, hf, hq1⟩
      refine E_aload_n C dX10_back_20 0 rfl (xg_10_6 C dX10_back_21 f_X10_56 (xg_4_0 C dX10_back_24 f_X10_232 (xg_3_9 C (b := 2) (by decide) dX10_back_27 f_X10_133 ?_)))
      refine Ev.seti hq1.2.2.2.2.2.1 ?_
      refine E_iretI C hr hlk dX10_back_30 ?_
      have hnx : nBack S = (S.1, S.2.1, S.2.2.1, S.2.2.2.2.1.2, S.2.2.2.2) := if_neg hcase
      rw [hnx]
      refine ⟨(if_neg hcase).symm, ⟨W, _, h, Dv1, Sh, u, v, z, y, rfl, X.deed (fun j j6 j7 => ?_) (hf 3 (by decide)) rfl rfl rfl rfl ⟨hq1, hI.2.2.2.1, hI.2.2.2.2.1, hI.2.2.2.2.2.1, hI.2.2.2.2.2.2.1, hI.2.2.2.2.2.2.2.1, hI.2.2.2.2.2.2.2.2⟩⟩⟩
      exact (vun j7).trans (vun j6)
    ·
      exact absurd c7 (by decide)
set_option maxRecDepth 100000 in
set_option maxHeartbeats 4000000 in
theorem p_lock {l : Launch} {D : va_G} {tc tt ad : Nat → Nat} {S : STT} {kk0 : Nat} {w0 : va_W} (hX : XR ad tc S kk0 w0) (hk600 : kk0 ≤ 600) (seed : Int32) : Ct l yX10_lock cX10_lock 3 (some .int) 4 D tc tt [.ref (ad 0), .int seed] w0 (PI fun r w => r = aLock S seed ∧ XR ad tc (nLock S seed) (kk0 + 1) w) := by
  obtain ⟨W, g, h, Dv, Sh, u, v, z, y, rfl, X⟩ := hX
  have hn := X.1.1
  have hn8 := X.1.2.1
  have hN := X.1.2.2.1
  have hB := X.1.2.2.2.1
  have hL := X.1.2.2.2.2.2
  have hD := X.2.2.2.1
  have hI := X.2.2.2.2.1
  have hone := hD.2.1
  by_cases hcase : S.2.2.2.1.1 = 0
  · have hdl : drw S.1.2.1 seed S.1.1 < 256 := Nat.lt_of_lt_of_le (drw_lt S.1.1 hn8) (p256 hn8)
    refine Ct.of (by decide +kernel) (Nat.le_of_ble_eq_true rfl) ?_
    intro p e R s m args below meth c A C hr hlk
    refine E_aload_n C dX10_lock_0 0 rfl (xg_10_6 C dX10_lock_1 f_X10_56 (xg_4_0 C dX10_lock_4 f_X10_232 (xg_3_4 C (b := 2) (by decide) dX10_lock_7 f_X10_235 ?_)))
    refine Ev.seti (show (Dv 2).1 0 = 0 by rw [hD.1.1, hcase]; rfl) ?_
    refine E_if_eq C 16 dX10_lock_10 (by decide) (fun c10 => ?_) (fun c10 => ?_)
    ·
      refine E_aload_n C dX10_lock_16 0 rfl (xg_10_5 C dX10_lock_17 f_X10_49 (E_iload_n C dX10_lock_20 1 rfl (xp_2_0 C dX10_lock_21 fw_X10_225 (E_aload_n C dX10_lock_24 0 rfl (xg_10_5 C dX10_lock_25 f_X10_49 ?_)))))
      refine E_aload_n C dX10_lock_28 0 rfl (xg_10_0 C dX10_lock_29 f_X10_10 (E_callVI C dX10_lock_32 mv_X10_228 30 _ (s_forgottenOf hN hn hn8) rfl rfl rfl (by decide) (Nat.le_of_ble_eq_true rfl) ?_))
      rintro _ _ ⟨rfl, rfl⟩
      refine Ev.seti (show _ = nI (drw S.1.2.1 seed S.1.1) from rfl) ?_
      refine E_istore_n C dX10_lock_35 (by decide) (E_aload_n C dX10_lock_36 1 rfl (xg_10_6 C dX10_lock_37 f_X10_56 (xg_4_0 C dX10_lock_40 f_X10_232 (E_iload_n C dX10_lock_43 0 rfl (E_callVV C dX10_lock_44 mv_X10_239 _ _ (s_beginWith_2 False (drw S.1.2.1 seed S.1.1)) (xat_dr0 (b := 2) (by decide)) rfl rfl (by decide) (Nat.le_of_ble_eq_true rfl) ?_)))))
      rintro _ ⟨Dv1, rfl, hf, hq1⟩
      refine E_iload_n C dX10_lock_47 0 rfl (E_callSI C dX10_lock_48 ms_X10_220 _ (s_bitCount (drw S.1.2.1 seed S.1.1) hdl) rfl rfl (by decide) (Nat.le_of_ble_eq_true rfl) ?_)
      rintro _ _ ⟨rfl, rfl⟩
      refine E_iretI C hr hlk dX10_lock_51 ?_
      have hnx : nLock S seed = (S.1, S.2.1, S.2.2.1, (1, 0, drw S.1.2.1 seed S.1.1, (0, 0, 0, [], 0, 0), S.2.2.2.1.2.2.2.2), S.2.2.2.2) := if_pos hcase
      rw [hnx]
      exact ⟨(if_pos hcase).symm, ⟨W, g, h, Dv1, Sh, _, v, z, y, rfl, X.deed (fun _ _ _ => rfl) (hf 3 (by decide)) rfl rfl rfl rfl ⟨hq1, Nat.le_refl _, (by decide : 0 ≤ 6), hdl, (⟨by decide, by decide, by decide⟩ : DI (0, 0, 0, [], 0, 0)), hD.2.2.2.2.2.1, hD.2.2.2.2.2.2⟩⟩⟩
    ·
      exact absurd rfl c10
  · skip
    refine Ct.of (by decide +kernel) (Nat.le_of_ble_eq_true rfl) ?_
    intro p e R s m args below meth c A C hr hlk
    refine E_aload_n C dX10_lock_0 0 rfl (xg_10_6 C dX10_lock_1 f_X10_56 (xg_4_0 C dX10_lock_4 f_X10_232 (xg_3_4 C (b := 2) (by decide) dX10_lock_7 f_X10_235 ?_)))
    refine Ev.seti (show (Dv 2).1 0 = 1 by rw [hD.1.1, show S.2.2.2.1.1 = 1 by omega]; rfl) ?_
    refine E_if_eq C 16 dX10_lock_10 (by decide) (fun c10 => ?_) (fun c10 => ?_)
    ·
      exact absurd c10 (by decide)
    ·
      refine E_bipush (v := -5) C dX10_lock_13 bp_m5 (E_iretI C hr hlk dX10_lock_15 ?_)
      have hnx : nLock S seed = S := if_neg hcase
      rw [hnx]
      exact ⟨(if_neg hcase).symm, ⟨W, g, h, Dv, Sh, u, v, z, y, rfl, X.same⟩⟩
set_option maxRecDepth 100000 in
set_option maxHeartbeats 4000000 in
theorem p_on {l : Launch} {D : va_G} {tc tt ad : Nat → Nat} {S : STT} {kk0 : Nat} {w0 : va_W} (hX : XR ad tc S kk0 w0) (hk600 : kk0 ≤ 600)  : Ct l yX10_on cX10_on 4 (some .int) 8 D tc tt [.ref (ad 0)] w0 (PI fun r w => r = aOn S ∧ XR ad tc (nOn S) (kk0 + 1) w) := by
  obtain ⟨W, g, h, Dv, Sh, u, v, z, y, rfl, X⟩ := hX
  have hn := X.1.1
  have hn8 := X.1.2.1
  have hN := X.1.2.2.1
  have hB := X.1.2.2.2.1
  have hL := X.1.2.2.2.2.2
  have hD := X.2.2.2.1
  have hI := X.2.2.2.2.1
  have hone := hD.2.1
  by_cases hcase : S.2.2.2.1.1 = 0
  · skip
    refine Ct.of (by decide +kernel) (Nat.le_of_ble_eq_true rfl) ?_
    intro p e R s m args below meth c A C hr hlk
    refine E_aload_n C dX10_on_0 0 rfl (xg_10_6 C dX10_on_1 f_X10_56 (xg_4_0 C dX10_on_4 f_X10_232 (xg_3_4 C (b := 2) (by decide) dX10_on_7 f_X10_235 ?_)))
    refine Ev.seti (show (Dv 2).1 0 = 0 by rw [hD.1.1, hcase]; rfl) ?_
    refine E_if_ne C 16 dX10_on_10 (by decide) (fun c10 => ?_) (fun c10 => ?_)
    ·
      exact absurd rfl c10
    ·
      refine E_bipush (v := -5) C dX10_on_13 bp_m5 (E_iretI C hr hlk dX10_on_15 ?_)
      have hnx : nOn S = S := if_pos hcase
      rw [hnx]
      exact ⟨(if_pos hcase).symm, ⟨W, g, h, Dv, Sh, u, v, z, y, rfl, X.same⟩⟩
  · have hon1 : S.2.2.2.1.1 = 1 := by omega
    refine Ct.of (by decide +kernel) (Nat.le_of_ble_eq_true rfl) ?_
    intro p e R s m args below meth c A C hr hlk
    refine E_aload_n C dX10_on_0 0 rfl (xg_10_6 C dX10_on_1 f_X10_56 (xg_4_0 C dX10_on_4 f_X10_232 (xg_3_4 C (b := 2) (by decide) dX10_on_7 f_X10_235 ?_)))
    refine Ev.seti (show (Dv 2).1 0 = 1 by rw [hD.1.1, hon1]; rfl) ?_
    refine E_if_ne C 16 dX10_on_10 (by decide) (fun c10 => ?_) (fun c10 => ?_)
    ·
      refine E_aload_n C dX10_on_16 0 rfl (xg_10_6 C dX10_on_17 f_X10_56 (xg_4_0 C dX10_on_20 f_X10_232 (E_callVV C dX10_on_23 mv_X10_242 _ _ (s_driveOn_2 hN hB hL (st := S.2.2.2.1.2.1) (fo := S.2.2.2.1.2.2.1) (q := S.2.2.2.1.2.2.2.1) (P := False) (hon1 ▸ hD.1) hD.2.2.2.2.1 hD.2.2.2.1 hD.2.2.1) (xat_dr0 (b := 2) (by decide)) rfl rfl (by decide) (Nat.le_of_ble_eq_true rfl) ?_)))
      rintro _ ⟨Dv1, v2, rfl, hf, hv2, hq1⟩
      have hdi : DI (onQ S) := onStop_inv hB hD.2.2.2.1 hD.2.2.2.2.1
      refine E_aload_n C dX10_on_26 0 rfl (xg_10_6 C dX10_on_27 f_X10_56 (xg_4_0 C dX10_on_30 f_X10_232 (xg_3_4 C (b := 2) (by decide) dX10_on_33 f_X10_235 ?_)))
      refine Ev.seti hq1.1 ?_
      refine E_if_eq C 50 dX10_on_36 (by decide) (fun c36 => ?_) (fun c36 => ?_)
      ·
        have h6 : ¬ S.2.2.2.1.2.1 < 6 := fun q => by rw [if_pos q] at c36; exact absurd c36 (by decide)
        rw [if_neg h6, if_neg h6] at hq1
        refine E_aload_n C dX10_on_50 0 rfl (xg_10_6 C dX10_on_51 f_X10_56 (E_dup C dX10_on_54 rfl (xg_4_2 C dX10_on_55 f_X10_248 (E_iconst (v := 1) C dX10_on_58 ic_1 (E_iadd C dX10_on_59 ?_)))))
        refine xp_4_2 C dX10_on_60 fw_X10_248 (E_aload_n C dX10_on_63 0 rfl (xg_10_6 C dX10_on_64 f_X10_56 (E_dup C dX10_on_67 rfl (xg_4_3 C dX10_on_68 f_X10_251 (E_aload_n C dX10_on_71 0 rfl ?_)))))
        refine xg_10_6 C dX10_on_72 f_X10_56 (xg_4_0 C dX10_on_75 f_X10_232 (E_callVI C dX10_on_78 mv_X10_145 _ _ (s_cost_2 hN (mi := (onQ S).2.2.1) (le := (onQ S).2.1) hq1.2.2.2.2.2.1 hq1.2.2.2.2.1 hdi.2.1) (xat_dr0 (b := 2) (by decide)) rfl rfl (by decide) (Nat.le_of_ble_eq_true rfl) ?_))
        rintro _ _ ⟨rfl, rfl⟩
        refine E_iadd C dX10_on_81 (xp_4_3 C dX10_on_82 fw_X10_251 (E_bipush (v := -2) C dX10_on_85 bp_m2 (E_iretI C hr hlk dX10_on_87 ?_)))
        have hnx : nOn S = _ := (if_neg hcase).trans (if_neg h6)
        rw [hnx]
        refine ⟨((if_neg hcase).trans (if_neg h6)).symm, ⟨W, _, h, Dv1, Sh, u, v2, z, y, rfl, X.deed (fun j j6 j7 => (vun j7).trans (vun j6)) (hf 3 (by decide)) rfl (hv2 4 (by decide) (by decide)) (hv2 5 (by decide) (by decide)) (hv2 6 (by decide) (by decide)) ⟨hq1, Nat.zero_le _, hD.2.2.1, hD.2.2.2.1, hdi, ?_, ?_⟩⟩⟩
        · show g 6 + 1 = _
          rw [hD.2.2.2.2.2.1]
        · show g 7 + _ = _
          rw [hD.2.2.2.2.2.2]
          rfl
      ·
        have h6 : S.2.2.2.1.2.1 < 6 := Classical.byContradiction fun q => c36 (by rw [if_neg q]; rfl)
        rw [if_pos h6, if_pos h6] at hq1
        refine E_aload_n C dX10_on_39 0 rfl (xg_10_6 C dX10_on_40 f_X10_56 (xg_4_0 C dX10_on_43 f_X10_232 (xg_3_5 C (b := 2) (by decide) dX10_on_46 f_X10_245 ?_)))
        refine Ev.seti hq1.2.1 ?_
        refine E_iretI C hr hlk dX10_on_49 ?_
        have hnx : nOn S = _ := (if_neg hcase).trans (if_pos h6)
        rw [hnx]
        exact ⟨((if_neg hcase).trans (if_pos h6)).symm, ⟨W, g, h, Dv1, Sh, u, v2, z, y, rfl, X.deed (fun _ _ _ => rfl) (hf 3 (by decide)) rfl (hv2 4 (by decide) (by decide)) (hv2 5 (by decide) (by decide)) (hv2 6 (by decide) (by decide)) ⟨hq1, Nat.le_refl _, h6, hD.2.2.2.1, hdi, hD.2.2.2.2.2.1, hD.2.2.2.2.2.2⟩⟩⟩
    ·
      exact absurd c10 (by decide)
set_option maxRecDepth 100000 in
set_option maxHeartbeats 4000000 in
theorem p_body {l : Launch} {D : va_G} {tc tt ad : Nat → Nat} {S : STT} {kk0 : Nat} {w0 : va_W} (hX : XR ad tc S kk0 w0) (hk600 : kk0 ≤ 600) (x0 : Int32) : Ct l yX10_body cX10_body 2 (some .int) 4 D tc tt [.ref (ad 0), .int x0] w0 (PI fun r w => r = aBody S x0 ∧ XR ad tc (nBody S x0) (kk0 + 1) w) := by
  obtain ⟨W, g, h, Dv, Sh, u, v, z, y, rfl, X⟩ := hX
  have hn := X.1.1
  have hn8 := X.1.2.1
  have hN := X.1.2.2.1
  have hB := X.1.2.2.2.1
  have hL := X.1.2.2.2.2.2
  have hP := X.2.2.2.2.2.1
  have hnb := hP.2.1
  by_cases hcase : S.2.2.2.2.2.1.1 < 50
  · skip
    refine Ct.of (by decide +kernel) (Nat.le_of_ble_eq_true rfl) ?_
    intro p e R s m args below meth c A C hr hlk
    refine E_iload_n C dX10_body_0 1 rfl (E_if_lt C 10 dX10_body_1 (by decide) (fun c1 => ?_) (fun c1 => ?_))
    ·
      refine E_iconst (v := -1) C dX10_body_10 ic_m1 (E_goto C 22 dX10_body_11 (by decide) (E_iretI C hr hlk dX10_body_22 ?_))
      refine ⟨(if_neg fun q => ?_).symm, ?_⟩
      · first
        | exact absurd c1 (Int32.not_lt.mpr q.1)
        | exact c7 q.2
      · have hnx : nBody S x0 = S := if_neg (fun q => by first | exact absurd c1 (Int32.not_lt.mpr q.1) | exact c7 q.2.1)
        rw [hnx]
        exact ⟨W, g, h, Dv, Sh, u, v, z, y, rfl, X.same⟩
    ·
      refine E_iload_n C dX10_body_4 1 rfl (E_bipush (v := 8) C dX10_body_5 bp_8 (E_icmp_lt C 14 dX10_body_7 (by decide) (fun c7 => ?_) (fun c7 => ?_)))
      ·
        have hall : 0 ≤ x0 ∧ x0 < 8 := ⟨Int32.not_lt.mp c1, c7⟩
        have ha : aBody S x0 = _ := if_pos hall
        refine E_aload_n C dX10_body_14 0 rfl (xg_10_7 C dX10_body_15 f_X10_63 (E_iload_n C dX10_body_18 1 rfl (E_callVI C dX10_body_19 mv_X10_275 32 _ (s_bodyAdd hP.1 hcase x0) rfl rfl rfl (by decide) (Nat.le_of_ble_eq_true rfl) ?_)))
        rintro _ _ ⟨rfl, rfl⟩
        refine E_iretI C hr hlk dX10_body_22 ?_
        obtain ⟨xn, hx31, rfl⟩ := nI_of c1
        have hxm : xn < 8 := (nI_ltI (b := 8) hx31 (by decide)).mp c7
        have hnx : nBody S (nI xn) = _ := if_pos ⟨hall.1, hall.2, hcase⟩
        rw [hnx, nI_clamp hx31]
        refine ⟨(ha.trans (if_neg (by omega))).symm, ⟨W, _, _, Dv, Sh, u, v, z, y, rfl, X.acts (q := (S.2.2.2.2.2.1.1 + 1, _, S.2.2.2.2.2.1.2.2)) (Nat.le_succ _) (fun j hj => vun (by omega)) (fun j j7 j8 => vun j7) ⟨rfl, hcase, fun j hj => ?_, hP.2.2.2.1, hP.2.2.2.2⟩⟩⟩
        show upd (h 7) S.2.2.2.2.2.1.1 (nI xn) j = nI (if j = S.2.2.2.2.2.1.1 then xn else S.2.2.2.2.2.1.2.1 j) ∧ (if j = S.2.2.2.2.2.1.1 then xn else S.2.2.2.2.2.1.2.1 j) < 8
        have hj' : j < S.2.2.2.2.2.1.1 + 1 := hj
        by_cases ej : j = S.2.2.2.2.2.1.1
        · rw [if_pos ej]
          exact ⟨if_pos ej, hxm⟩
        · rw [if_neg ej]
          exact ⟨(if_neg ej).trans (hP.2.2.1 j (by omega)).1, (hP.2.2.1 j (by omega)).2⟩
      ·
        refine E_iconst (v := -1) C dX10_body_10 ic_m1 (E_goto C 22 dX10_body_11 (by decide) (E_iretI C hr hlk dX10_body_22 ?_))
        refine ⟨(if_neg fun q => ?_).symm, ?_⟩
        · first
          | exact absurd c1 (Int32.not_lt.mpr q.1)
          | exact c7 q.2
        · have hnx : nBody S x0 = S := if_neg (fun q => by first | exact absurd c1 (Int32.not_lt.mpr q.1) | exact c7 q.2.1)
          rw [hnx]
          exact ⟨W, g, h, Dv, Sh, u, v, z, y, rfl, X.same⟩
  · skip
    refine Ct.of (by decide +kernel) (Nat.le_of_ble_eq_true rfl) ?_
    intro p e R s m args below meth c A C hr hlk
    refine E_iload_n C dX10_body_0 1 rfl (E_if_lt C 10 dX10_body_1 (by decide) (fun c1 => ?_) (fun c1 => ?_))
    ·
      refine E_iconst (v := -1) C dX10_body_10 ic_m1 (E_goto C 22 dX10_body_11 (by decide) (E_iretI C hr hlk dX10_body_22 ?_))
      refine ⟨(if_neg fun q => ?_).symm, ?_⟩
      · first
        | exact absurd c1 (Int32.not_lt.mpr q.1)
        | exact c7 q.2
      · have hnx : nBody S x0 = S := if_neg (fun q => by first | exact absurd c1 (Int32.not_lt.mpr q.1) | exact c7 q.2.1)
        rw [hnx]
        exact ⟨W, g, h, Dv, Sh, u, v, z, y, rfl, X.same⟩
    ·
      refine E_iload_n C dX10_body_4 1 rfl (E_bipush (v := 8) C dX10_body_5 bp_8 (E_icmp_lt C 14 dX10_body_7 (by decide) (fun c7 => ?_) (fun c7 => ?_)))
      ·
        have hall : 0 ≤ x0 ∧ x0 < 8 := ⟨Int32.not_lt.mp c1, c7⟩
        have ha : aBody S x0 = _ := if_pos hall
        refine E_aload_n C dX10_body_14 0 rfl (xg_10_7 C dX10_body_15 f_X10_63 (E_iload_n C dX10_body_18 1 rfl (E_callVI C dX10_body_19 mv_X10_275 32 _ (s_bodyAddF (show g 11 = nI 50 by rw [hP.1]; congr 1; omega) x0) rfl rfl rfl (by decide) (Nat.le_of_ble_eq_true rfl) ?_)))
        rintro _ _ ⟨rfl, rfl⟩
        refine E_iretI C hr hlk dX10_body_22 ?_
        have hnx : nBody S x0 = S := if_neg (fun q => hcase q.2.2)
        rw [hnx]
        exact ⟨(ha.trans (if_pos (by omega))).symm, ⟨W, g, h, Dv, Sh, u, v, z, y, rfl, X.same⟩⟩
      ·
        refine E_iconst (v := -1) C dX10_body_10 ic_m1 (E_goto C 22 dX10_body_11 (by decide) (E_iretI C hr hlk dX10_body_22 ?_))
        refine ⟨(if_neg fun q => ?_).symm, ?_⟩
        · first
          | exact absurd c1 (Int32.not_lt.mpr q.1)
          | exact c7 q.2
        · have hnx : nBody S x0 = S := if_neg (fun q => by first | exact absurd c1 (Int32.not_lt.mpr q.1) | exact c7 q.2.1)
          rw [hnx]
          exact ⟨W, g, h, Dv, Sh, u, v, z, y, rfl, X.same⟩
set_option maxRecDepth 100000 in
set_option maxHeartbeats 4000000 in
theorem p_act {l : Launch} {D : va_G} {tc tt ad : Nat → Nat} {S : STT} {kk0 : Nat} {w0 : va_W} (hX : XR ad tc S kk0 w0) (hk600 : kk0 ≤ 600) (b0 a0 x0 : Int32) : Ct l yX10_act cX10_act 4 (some .int) 45 D tc tt [.ref (ad 0), .int b0, .int a0, .int x0] w0 (PI fun r w => r = aAct S b0 a0 x0 ∧ XR ad tc (nAct S b0 a0 x0) (kk0 + 1) w) := by
  obtain ⟨W, g, h, Dv, Sh, u, v, z, y, rfl, X⟩ := hX
  have hn := X.1.1
  have hn8 := X.1.2.1
  have hN := X.1.2.2.1
  have hB := X.1.2.2.2.1
  have hL := X.1.2.2.2.2.2
  have hP := X.2.2.2.2.2.1
  have hnb := hP.2.1
  refine Ct.of (by decide +kernel) (Nat.le_of_ble_eq_true rfl) ?_
  intro p e R s m args below meth c A C hr hlk
  refine E_aload_n C dX10_act_0 0 rfl (xg_10_7 C dX10_act_1 f_X10_63 (E_iconst (v := 0) C dX10_act_4 ic_0 (xp_0_3 C dX10_act_5 fw_X10_277 (E_aload_n C dX10_act_8 0 rfl (xg_10_7 C dX10_act_9 f_X10_63 ?_)))))
  refine E_iload_n C dX10_act_12 1 rfl (E_callVI C dX10_act_13 mv_X10_280 32 _ (s_bodyHas (show (va_up g 12 0) 11 = nI S.2.2.2.2.2.1.1 from hP.1) hnb b0) rfl rfl rfl (by decide) (Nat.le_of_ble_eq_true rfl) ?_)
  rintro _ _ ⟨rfl, rfl⟩
  refine E_if_eq C 28 dX10_act_16 (by decide) (fun c16 => ?_) (fun c16 => ?_)
  ·
    have hbo : ¬ bodB S.2.2.2.2.2.1.1 b0 = true := fun q => by rw [if_pos q] at c16; cases c16
    refine E_iconst (v := 0) C dX10_act_28 ic_0 (E_iretI C hr hlk dX10_act_29 ?_)
    have hq0 : actQ S b0 a0 x0 = (0, 0, S.2.2.2.2.2.1.2.2.2) := if_neg (fun q => hbo q.1)
    refine ⟨by unfold aAct; rw [hq0], ⟨W, _, h, Dv, Sh, u, v, z, y, rfl, X.acts (q := (S.2.2.2.2.2.1.1, S.2.2.2.2.2.1.2.1, (actQ S b0 a0 x0).2)) (Nat.le_refl _) (fun j hj => vun (by omega)) (fun _ _ _ => rfl) ⟨hP.1, hnb, hP.2.2.1, ?_, ?_⟩⟩⟩
    · rw [hq0]; rfl
    · rw [hq0]; exact hP.2.2.2.2
  ·
    have hbo : bodB S.2.2.2.2.2.1.1 b0 = true := Classical.byContradiction fun q => c16 (if_neg q)
    refine E_iload_n C dX10_act_19 2 rfl (E_if_lt C 28 dX10_act_20 (by decide) (fun c20 => ?_) (fun c20 => ?_))
    ·
      refine E_iconst (v := 0) C dX10_act_28 ic_0 (E_iretI C hr hlk dX10_act_29 ?_)
      have hq0 : actQ S b0 a0 x0 = (0, 0, S.2.2.2.2.2.1.2.2.2) := if_neg (fun q => absurd c20 (Int32.not_lt.mpr q.2.1))
      refine ⟨by unfold aAct; rw [hq0], ⟨W, _, h, Dv, Sh, u, v, z, y, rfl, X.acts (q := (S.2.2.2.2.2.1.1, S.2.2.2.2.2.1.2.1, (actQ S b0 a0 x0).2)) (Nat.le_refl _) (fun j hj => vun (by omega)) (fun _ _ _ => rfl) ⟨hP.1, hnb, hP.2.2.1, ?_, ?_⟩⟩⟩
      · rw [hq0]; rfl
      · rw [hq0]; exact hP.2.2.2.2
    ·
      refine E_iload_n C dX10_act_23 2 rfl (E_iconst (v := 4) C dX10_act_24 ic_4 (E_icmp_lt C 30 dX10_act_25 (by decide) (fun c25 => ?_) (fun c25 => ?_)))
      ·
        have hall : bodB S.2.2.2.2.2.1.1 b0 = true ∧ 0 ≤ a0 ∧ a0 < 4 := ⟨hbo, Int32.not_lt.mp c20, c25⟩
        have hq0 : actQ S b0 a0 x0 = _ := if_pos hall
        obtain ⟨jb, hjn, hjc, rfl⟩ := bodB_ex hnb hbo
        have hkj := (hP.2.2.1 jb hjn).1
        rw [hjc] at hq0
        refine E_aload_n C dX10_act_30 0 rfl (xg_10_7 C dX10_act_31 f_X10_63 (E_iload_n C dX10_act_34 1 rfl (E_iload_n C dX10_act_35 2 rfl (E_iload_n C dX10_act_36 3 rfl (E_callVI C dX10_act_37 mv_X10_282 32 _ (s_answer hnb hjn (show (va_up g 12 0) 11 = nI S.2.2.2.2.2.1.1 from hP.1) (show _ = nI (S.2.2.2.2.2.1.2.1 jb) by rw [if_pos hbo, hjc]; exact hkj) a0 x0) rfl rfl rfl (by decide) (Nat.le_of_ble_eq_true rfl) ?_)))))
        rintro _ _ ⟨rfl, rfl⟩
        refine E_iretI C hr hlk dX10_act_40 ?_
        have e8 : h 8 = S.2.2.2.2.2.1.2.2.2 := hP.2.2.2.2
        rw [← e8] at hq0
        refine ⟨(congrArg Prod.fst hq0).symm, ⟨W, _, _, Dv, Sh, u, v, z, y, rfl, X.acts (q := (S.2.2.2.2.2.1.1, S.2.2.2.2.2.1.2.1, (actQ S (nI jb) a0 x0).2)) (Nat.le_refl _) (fun j hj => (vun (by omega)).trans (vun (by omega))) (fun j j7 j8 => vun j8) ⟨hP.1, hnb, hP.2.2.1, ?_, ?_⟩⟩⟩
        · rw [hq0]; rfl
        · rw [hq0]; rfl
      ·
        refine E_iconst (v := 0) C dX10_act_28 ic_0 (E_iretI C hr hlk dX10_act_29 ?_)
        have hq0 : actQ S b0 a0 x0 = (0, 0, S.2.2.2.2.2.1.2.2.2) := if_neg (fun q => c25 q.2.2)
        refine ⟨by unfold aAct; rw [hq0], ⟨W, _, h, Dv, Sh, u, v, z, y, rfl, X.acts (q := (S.2.2.2.2.2.1.1, S.2.2.2.2.2.1.2.1, (actQ S b0 a0 x0).2)) (Nat.le_refl _) (fun j hj => vun (by omega)) (fun _ _ _ => rfl) ⟨hP.1, hnb, hP.2.2.1, ?_, ?_⟩⟩⟩
        · rw [hq0]; rfl
        · rw [hq0]; exact hP.2.2.2.2
set_option maxRecDepth 100000 in
set_option maxHeartbeats 4000000 in
theorem p_drawn {l : Launch} {D : va_G} {tc tt ad : Nat → Nat} {S : STT} {kk0 : Nat} {w0 : va_W} (hX : XR ad tc S kk0 w0) (hk600 : kk0 ≤ 600) (seed n0 what : Int32) : Ct l yX10_drawn cX10_drawn 7 (some .int) 9 D tc tt [.ref (ad 0), .int seed, .int n0, .int what] w0 (PI fun r w => r = aDrawn S seed n0 what ∧ XR ad tc S (kk0 + 1) w) := by
  obtain ⟨W, g, h, Dv, Sh, u, v, z, y, rfl, X⟩ := hX
  have hn := X.1.1
  have hn8 := X.1.2.1
  have hN := X.1.2.2.1
  have hB := X.1.2.2.2.1
  have hL := X.1.2.2.2.2.2
  refine Ct.of (by decide +kernel) (Nat.le_of_ble_eq_true rfl) ?_
  intro p e R s m args below meth c A C hr hlk
  refine E_iload_n C dX10_drawn_0 2 rfl (E_iconst (v := 1) C dX10_drawn_1 ic_1 (E_icmp_lt C 20 dX10_drawn_2 (by decide) (fun c2 => ?_) (fun c2 => ?_)))
  ·
    refine E_iconst (v := -1) C dX10_drawn_20 ic_m1 (E_iretI C hr hlk dX10_drawn_21 ?_)
    refine ⟨(if_neg fun q => ?_).symm, ⟨W, g, h, Dv, Sh, u, v, z, y, rfl, X.same⟩⟩
    first
      | exact absurd c2 (Int32.not_lt.mpr q.1)
      | exact absurd c8 (Int32.not_lt.mpr q.2.1)
      | exact absurd c12 (Int32.not_lt.mpr q.2.2.1)
      | exact c17 q.2.2.2
  ·
    refine E_iload_n C dX10_drawn_5 2 rfl (E_bipush (v := 30) C dX10_drawn_6 bp_30 (E_icmp_gt C 20 dX10_drawn_8 (by decide) (fun c8 => ?_) (fun c8 => ?_)))
    ·
      refine E_iconst (v := -1) C dX10_drawn_20 ic_m1 (E_iretI C hr hlk dX10_drawn_21 ?_)
      refine ⟨(if_neg fun q => ?_).symm, ⟨W, g, h, Dv, Sh, u, v, z, y, rfl, X.same⟩⟩
      first
        | exact absurd c2 (Int32.not_lt.mpr q.1)
        | exact absurd c8 (Int32.not_lt.mpr q.2.1)
        | exact absurd c12 (Int32.not_lt.mpr q.2.2.1)
        | exact c17 q.2.2.2
    ·
      refine E_iload_n C dX10_drawn_11 3 rfl (E_if_lt C 20 dX10_drawn_12 (by decide) (fun c12 => ?_) (fun c12 => ?_))
      ·
        refine E_iconst (v := -1) C dX10_drawn_20 ic_m1 (E_iretI C hr hlk dX10_drawn_21 ?_)
        refine ⟨(if_neg fun q => ?_).symm, ⟨W, g, h, Dv, Sh, u, v, z, y, rfl, X.same⟩⟩
        first
          | exact absurd c2 (Int32.not_lt.mpr q.1)
          | exact absurd c8 (Int32.not_lt.mpr q.2.1)
          | exact absurd c12 (Int32.not_lt.mpr q.2.2.1)
          | exact c17 q.2.2.2
      ·
        refine E_iload_n C dX10_drawn_15 3 rfl (E_iconst (v := 1) C dX10_drawn_16 ic_1 (E_icmp_le C 22 dX10_drawn_17 (by decide) (fun c17 => ?_) (fun c17 => ?_)))
        ·
          have hall : 1 ≤ n0 ∧ n0 ≤ 30 ∧ 0 ≤ what ∧ what ≤ 1 := ⟨Int32.not_lt.mp c2, Int32.not_lt.mp c8, Int32.not_lt.mp c12, c17⟩
          obtain ⟨nn, hnn, hnc, rfl⟩ := n_of (k := 30) (m := 30) (x := n0) rfl (fun q => c2 (Int32.lt_trans q (by decide))) (Int32.not_lt.mp c8)
          refine E_aload_n C dX10_drawn_22 0 rfl (xg_10_5 C dX10_drawn_23 f_X10_49 (E_iload_n C dX10_drawn_26 1 rfl (xp_2_0 C dX10_drawn_27 fw_X10_225 (E_iconst (v := 0) C dX10_drawn_30 ic_0 (E_istore C dX10_drawn_31 (by decide) ?_)))))
          refine E_iconst (v := 0) C dX10_drawn_33 ic_0 (E_istore C dX10_drawn_34 (by decide) (E_iconst (v := 0) C dX10_drawn_36 ic_0 (E_istore C dX10_drawn_37 (by decide) ?_)))
          have K : ∀ (n i : Nat) (Dv1 : DV) (v1 : Nat → Nat → Int32), i ≤ nn → nn < i + n → (∀ k, k ≠ 0 → Dv1 k = Dv k) → (∀ k, k ≠ 0 → k ≠ 1 → v1 k = v k) → Ev p l e R s m args below meth c 0 0 (EQ below (PI fun r w => r = aDrawn S seed (nI nn) what ∧ XR ad tc S (kk0 + 1) w) args s D A) D A 7 (hx ad tc W g h Dv1 Sh (va_up u 4 (dwS S seed i).1) v1 z y) 39 [(6, .int (nI i)), (5, .int (dwS S seed i).2.2), (4, .int (dwS S seed i).2.1), (0, .ref (ad 0)), (1, .int seed), (2, .int (nI nn)), (3, .int what)] [] := by
            intro n
            induction n with
            | zero => intro i Dv1 v1 h1 h2; exfalso; omega
            | succ n ih =>
              intro i Dv1 v1 h1 h2 hf1 hv1
              refine E_iload C dX10_drawn_39 0 rfl (E_iload_n C dX10_drawn_41 5 rfl (E_icmp_ge C 101 dX10_drawn_42 (by decide) (fun c42 => ?_) (fun c42 => ?_)))
              ·
                obtain rfl : i = nn := by
                  rcases Nat.lt_or_ge i nn with q | q
                  · exact absurd (show nI nn ≤ nI i from c42) (nI_ge q (by omega))
                  · omega
                have ha : aDrawn S seed (nI i) what = _ := if_pos hall
                rw [nI_clamp (show i < 2 ^ 31 by omega)] at ha
                refine E_iload_n C dX10_drawn_101 6 rfl (E_if_ne C 110 dX10_drawn_102 (by decide) (fun c102 => ?_) (fun c102 => ?_))
                ·
                  have ha2 := ha.trans (if_neg c102)
                  refine E_iload C dX10_drawn_110 1 rfl (E_iretI C hr hlk dX10_drawn_112 ?_)
                  exact ⟨ha2.symm, ⟨W, g, h, Dv1, Sh, _, v1, z, y, rfl, X.thought (hf1 2 (by decide)) (hf1 3 (by decide)) rfl (hv1 4 (by decide) (by decide)) (hv1 5 (by decide) (by decide)) (hv1 6 (by decide) (by decide))⟩⟩
                ·
                  have ha2 := ha.trans (if_pos c102)
                  refine E_iload C dX10_drawn_105 2 rfl (E_goto C 112 dX10_drawn_107 (by decide) (E_iretI C hr hlk dX10_drawn_112 ?_))
                  exact ⟨ha2.symm, ⟨W, g, h, Dv1, Sh, _, v1, z, y, rfl, X.thought (hf1 2 (by decide)) (hf1 3 (by decide)) rfl (hv1 4 (by decide) (by decide)) (hv1 5 (by decide) (by decide)) (hv1 6 (by decide) (by decide))⟩⟩
              ·
                have hi : i < nn := by
                  rcases Nat.lt_or_ge i nn with q | q
                  · exact q
                  · exact absurd (show nI nn ≤ nI i from nI_le q (by omega)) c42
                refine E_aload_n C dX10_drawn_45 3 rfl (xg_10_3 C dX10_drawn_46 f_X10_35 (E_aload_n C dX10_drawn_49 3 rfl (xg_10_5 C dX10_drawn_50 f_X10_49 (E_aload_n C dX10_drawn_53 3 rfl (xg_10_0 C dX10_drawn_54 f_X10_10 ?_)))))
                refine E_callVI C dX10_drawn_57 mv_X10_228 30 _ (s_forgottenOf hN hn hn8) rfl rfl rfl (by decide) (Nat.le_of_ble_eq_true rfl) ?_
                rintro _ _ ⟨rfl, rfl⟩
                refine Ev.setw (ws' := hx ad tc W g h Dv1 Sh (va_up u 4 (dwS S seed (i + 1)).1) v1 z y) (congrArg (fun q => hx ad tc W g h Dv1 Sh q v1 z y) (bx_uu u 4 _ _)) ?_
                refine Ev.seti (show _ = nI (drw S.1.2.1 (dwS S seed i).1 S.1.1) from rfl) ?_
                have hdl : (drw S.1.2.1 (dwS S seed i).1 S.1.1) < 256 := Nat.lt_of_lt_of_le (drw_lt S.1.1 hn8) (p256 hn8)
                refine E_callVV C dX10_drawn_60 mv_X10_129 _ _ (s_wholeWith_0 hN hB hL (drw S.1.2.1 (dwS S seed i).1 S.1.1) hdl) (xat_dr0 (b := 0) (by decide)) rfl rfl (by decide) (Nat.le_of_ble_eq_true rfl) ?_
                rintro _ ⟨Dv2, v2, rfl, hf2, hv2, hq2⟩
                obtain ⟨k0, k1, k2, k3, k4, k5, k6, k7, k8, k9⟩ := hq2
                have hwi := whole_inv hB (L := S.1.2.2) hdl
                have hgl8 : (whole S.1.2.1 S.1.2.2 (drw S.1.2.1 (dwS S seed i).1 S.1.1)).2.2.2.1.length ≤ 8 := by rw [hwi.2.2]; exact pop_le _
                refine E_iload C dX10_drawn_63 2 rfl (E_aload_n C dX10_drawn_65 3 rfl (xg_10_3 C dX10_drawn_66 f_X10_35 (E_callVI C dX10_drawn_69 mv_X10_145 _ _ (s_cost_0 hN k5 k4 hwi.2.1) (xat_dr0 (b := 0) (by decide)) rfl rfl (by decide) (Nat.le_of_ble_eq_true rfl) ?_)))
                rintro _ _ ⟨rfl, rfl⟩
                refine E_iadd C dX10_drawn_72 (E_istore C dX10_drawn_73 (by decide) (E_iload C dX10_drawn_75 2 rfl (E_aload_n C dX10_drawn_77 3 rfl (xg_10_3 C dX10_drawn_78 f_X10_35 (xg_3_10 C (b := 0) (by decide) dX10_drawn_81 f_X10_136 ?_)))))
                refine Ev.seti k6 ?_
                refine E_if_ne C 91 dX10_drawn_84 (by decide) (fun c84 => ?_) (fun c84 => ?_)
                ·
                  have hgo : (if (whole S.1.2.1 S.1.2.2 (drw S.1.2.1 (dwS S seed i).1 S.1.1)).2.2.2.1.length = 0 then (1 : Int32) else 0) = 0 := if_neg (fun q => c84 (by rw [q]; rfl))
                  refine E_iconst (v := 0) C dX10_drawn_91 ic_0 ?_
                  refine Ev.seti hgo.symm ?_
                  refine E_iadd C dX10_drawn_92 (E_istore C dX10_drawn_93 (by decide) (E_iinc C dX10_drawn_95 2 rfl (nI_1 i) (by decide) (E_goto C 39 dX10_drawn_98 (by decide) ?_)))
                  refine Ev.sub [0, 1, 2, 3, 4, 5, 6] rfl (ih (i + 1) _ _ (by omega) (by omega) (fun k a => (hf2 k a).trans (hf1 k a)) (fun k a b => (hv2 k a b).trans (hv1 k a b)))
                ·
                  have hgo : (if (whole S.1.2.1 S.1.2.2 (drw S.1.2.1 (dwS S seed i).1 S.1.1)).2.2.2.1.length = 0 then (1 : Int32) else 0) = 1 := if_pos ((nI_eq (b := 0) (by omega) (by decide)).mp c84)
                  refine E_iconst (v := 1) C dX10_drawn_87 ic_1 (E_goto C 92 dX10_drawn_88 (by decide) ?_)
                  refine Ev.seti hgo.symm ?_
                  refine E_iadd C dX10_drawn_92 (E_istore C dX10_drawn_93 (by decide) (E_iinc C dX10_drawn_95 2 rfl (nI_1 i) (by decide) (E_goto C 39 dX10_drawn_98 (by decide) ?_)))
                  refine Ev.sub [0, 1, 2, 3, 4, 5, 6] rfl (ih (i + 1) _ _ (by omega) (by omega) (fun k a => (hf2 k a).trans (hf1 k a)) (fun k a b => (hv2 k a b).trans (hv1 k a b)))
          exact Ev.sub [0, 1, 2, 3, 4, 5, 6] rfl (K (nn + 1) 0 Dv v (by omega) (by omega) (fun _ _ => rfl) (fun _ _ _ => rfl))
        ·
          refine E_iconst (v := -1) C dX10_drawn_20 ic_m1 (E_iretI C hr hlk dX10_drawn_21 ?_)
          refine ⟨(if_neg fun q => ?_).symm, ⟨W, g, h, Dv, Sh, u, v, z, y, rfl, X.same⟩⟩
          first
            | exact absurd c2 (Int32.not_lt.mpr q.1)
            | exact absurd c8 (Int32.not_lt.mpr q.2.1)
            | exact absurd c12 (Int32.not_lt.mpr q.2.2.1)
            | exact c17 q.2.2.2
