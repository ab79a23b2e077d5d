/-! the reference: goings at a stop, a drive whole, what it costs -/
theorem QR.go {P : Prop} {fo hd le mi tu la : Nat} {gl : GL} {u : Nat → Int32} {v v2 : Nat → Nat → Int32} (hq : QR P fo (hd, le, mi, gl, tu, la) u v) (hv : ∀ k, k ≠ 27 → k ≠ 28 → v2 k = v k) (hd' who th is : Nat) : QR P fo (hd', le, mi + is, gl ++ [(who, th, is)], tu, la) (va_up (va_up (va_up u 34 (nI (gl.length + 1))) 33 (nI (mi + is))) 31 (nI hd')) (va_up (va_up (va_up v2 37 (upd (v2 37) gl.length (nI who))) 38 (upd (v2 38) gl.length (nI th))) 39 (upd (v2 39) gl.length (nI is))) := by
  obtain ⟨q0, q1, q2, q3, q4, q5, q6⟩ := hq
  refine ⟨q0, rfl, q2, rfl, ?_, q5, fun p => ⟨(q6 p).1, fun j a b c e => ?_⟩⟩
  · show nI (gl.length + 1) = nI (gl ++ [(who, th, is)]).length
    rw [List.length_append]
    rfl
  · show upd (v2 37) gl.length (nI who) j = nI a ∧ upd (v2 38) gl.length (nI th) j = nI b ∧ upd (v2 39) gl.length (nI is) j = nI c
    rcases Nat.lt_or_ge j gl.length with r | r
    · have e' : gl[j]? = some (a, b, c) := by rw [← e]; exact (List.getElem?_append_left r).symm
      have hne : ¬ j = gl.length := by omega
      obtain ⟨r1, r2, r3⟩ := (q6 p).2 j a b c e'
      exact ⟨(if_neg hne).trans ((congrArg (fun f => f j) (hv 37 (by decide) (by decide))).trans r1), (if_neg hne).trans ((congrArg (fun f => f j) (hv 38 (by decide) (by decide))).trans r2), (if_neg hne).trans ((congrArg (fun f => f j) (hv 39 (by decide) (by decide))).trans r3)⟩
    · have e' : [(who, th, is)][j - gl.length]? = some (a, b, c) := by rw [← e]; exact (List.getElem?_append_right r).symm
      have hz : j - gl.length < 1 := (List.getElem?_eq_some_iff.mp e').1
      obtain rfl : j = gl.length := by omega
      rw [Nat.sub_self] at e'
      cases e'
      exact ⟨if_pos rfl, if_pos rfl, if_pos rfl⟩
theorem stopAt_0 {N : Nat → Nat → Nat} {L : Nat → Nat → Nat → Nat → Nat → Nat} {s fo : Nat} {q : DT} (h : minded N s fo q.1 q.2.1 = 0) : stopAt N L s fo q = q := by
  obtain ⟨hd, le, mi, gl, tu, la⟩ := q
  have h' : minded N s fo hd le = 0 := h
  unfold stopAt
  show (if s = 0 then _ else _) = _
  by_cases e : s = 0
  · rw [if_pos e]
    show ((gof N L s fo le 8 hd mi gl (minded N s fo hd le)).1, le, (gof N L s fo le 8 hd mi gl (minded N s fo hd le)).2.1, (gof N L s fo le 8 hd mi gl (minded N s fo hd le)).2.2, tu, la) = _
    rw [h', gof_z]
  · rw [if_neg e]
    show (if N 7 0 * (2 * tsum N s) < wsum N (minded N s fo hd le) 8 then _ else (hd, le ||| minded N s fo hd le, mi, gl, tu, la)) = _
    rw [h', wsum_0, if_neg (Nat.not_lt_zero _), Nat.or_zero]
theorem stopAt_le {N : Nat → Nat → Nat} {L : Nat → Nat → Nat → Nat → Nat → Nat} {s fo n : Nat} (hfo : fo < 2 ^ n) {q : DT} (h : q.2.1 < 2 ^ n) : (stopAt N L s fo q).2.1 < 2 ^ n := by
  unfold stopAt
  by_cases e : s = 0
  · rw [if_pos e]; exact h
  · rw [if_neg e]
    by_cases f : N 7 0 * (2 * tsum N s) < wsum N (minded N s fo q.1 q.2.1) 8
    · rw [if_pos f]; exact h
    · rw [if_neg f]
      exact Nat.or_lt_two_pow h (minded_le hfo)
theorem onStop_le {N : Nat → Nat → Nat} {L : Nat → Nat → Nat → Nat → Nat → Nat} {s fo n : Nat} (hfo : fo < 2 ^ n) {q : DT} (h : q.2.1 < 2 ^ n) : (onStop N L s fo q).2.1 < 2 ^ n := by
  have k := stopAt_le (N := N) (L := L) (s := s) hfo h
  unfold onStop addWay
  by_cases e : s < 6
  · rw [if_pos e]; exact k
  · rw [if_neg e]; exact k
theorem goStops_le {N : Nat → Nat → Nat} {L : Nat → Nat → Nat → Nat → Nat → Nat} {fo n : Nat} (hfo : fo < 2 ^ n) : ∀ s, (goStops N L fo s).2.1 < 2 ^ n
  | 0 => Nat.two_pow_pos n
  | s + 1 => onStop_le hfo (goStops_le hfo s)
theorem pop_7 {hd t : Nat} (h : hd < 256) (ht : t < 8) (hb : hd.testBit t = false) : pop hd + 1 ≤ 8 := by
  rw [← pop_set hd h t ht hb]
  exact pop_le _
set_option maxRecDepth 100000 in
set_option maxHeartbeats 4000000 in
theorem m_goFor {l : Launch} {D : va_G} {tc tt ad : Nat → Nat} {g : Nat → Int32} {h : Nat → Nat → Int32} {el : Nat → Int64} {u : Nat → Int32} {v : Nat → Nat → Int32} {sf : Nat → Int64} {n : Nat} {N : Nat → Nat → Nat} (hA : MA n N g h) {L : Nat → Nat → Nat → Nat → Nat → Nat} (hL : MLw g h L) {P : Prop} {fo hd le mi tu la s0 md : Nat} {gl : GL} (hfo : fo < 2 ^ n) (hq : QR P fo (hd, le, mi, gl, tu, la) u v) (hdb : hd < 256) (hgl : gl.length = pop hd) (hmb : md < 256) (hmo : ∀ t, md.testBit t = true → (opn fo hd le).testBit t = true) (hs6 : s0 ≤ 6) : Ct l yX11_goFor cX11_goFor 6 none 5 D tc tt [.ref (ad 0), .int (nI md), .int (nI s0)] (hm ad tc g h el u v sf) (PV fun w => ∃ u' v', w = hm ad tc g h el u' v' sf ∧ QR P fo ((gof N L s0 fo le 8 hd mi gl md).1, le, (gof N L s0 fo le 8 hd mi gl md).2.1, (gof N L s0 fo le 8 hd mi gl md).2.2, tu, la) u' v' ∧ KU u u' ∧ KV v v') := by
  refine Ct.of (by decide +kernel) (Nat.le_of_ble_eq_true rfl) ?_
  intro p e R s m args below meth c A C hr hlk
  have hn := hA.1
  have hn8 := hA.2.1
  have hp := p256 hn8
  have hB := hA.2.2.2.2.1
  have K : ∀ (mm k1 hd1 mi1 : Nat) (gl1 : GL) (md1 : Nat) (u1 : Nat → Int32) (v1 : Nat → Nat → Int32), k1 < mm → 8 ≤ pop hd1 + k1 → hd1 < 256 → gl1.length = pop hd1 → md1 < 256 → (∀ t, md1.testBit t = true → (opn fo hd1 le).testBit t = true) → QR P fo (hd1, le, mi1, gl1, tu, la) u1 v1 → KU u u1 → KV v v1 → gof N L s0 fo le 8 hd mi gl md = gof N L s0 fo le k1 hd1 mi1 gl1 md1 → Ev p l e R s m args below meth c 0 0 (EQ below (PV fun w => ∃ u' v', w = hm ad tc g h el u' v' sf ∧ QR P fo ((gof N L s0 fo le 8 hd mi gl md).1, le, (gof N L s0 fo le 8 hd mi gl md).2.1, (gof N L s0 fo le 8 hd mi gl md).2.2, tu, la) u' v' ∧ KU u u' ∧ KV v v') args s D A) D A 6 (hm ad tc g h el u1 v1 sf) 2 [(3, .int (nI md1)), (0, .ref (ad 0)), (1, .int (nI md)), (2, .int (nI s0))] [] := by
    intro mm
    induction mm with
    | zero =>
      intro k1 hd1 mi1 gl1 md1 u1 v1 hk1 hpk hd1b hgl1 hm1 hmo1 hq1 ku kv hres
      exfalso; omega
    | succ mm ih =>
      intro k1 hd1 mi1 gl1 md1 u1 v1 hk1 hpk hd1b hgl1 hm1 hmo1 hq1 ku kv hres
      refine E_iload_n C dX11_goFor_2 0 rfl (E_if_eq C 159 dX11_goFor_3 (by decide) (fun c3 => ?_) (fun c3 => ?_))
      ·
        have hz : md1 = 0 := (nI_eq (b := 0) (by omega) (by decide)).mp c3
        subst hz
        refine E_vretV C hr hlk dX11_goFor_159 ?_
        rw [hres, gof_z]
        exact ⟨_, _, rfl, hq1, ku, kv⟩
      ·
        have hne : md1 ≠ 0 := fun q => c3 (by rw [q]; rfl)
        have hl := lst_ok md1 hm1 hne
        have hob := hmo1 _ hl.2
        have htn : lst md1 < n := bit_lt hfo (opn_fo hob)
        have hN0 : N 0 (lst md1) ≤ 5 := hB 0 _ (by decide) hl.1
        have hN4 : N 4 (lst md1) ≤ 255 := hB 4 _ (by decide) hl.1
        have hbf := opn_hd hl.1 hob
        have hp7 := pop_7 hd1b hl.1 hbf
        have hps := pop_set hd1 hd1b _ hl.1 hbf
        obtain ⟨k, rfl⟩ : ∃ k, k1 = k + 1 := ⟨k1 - 1, by omega⟩
        obtain ⟨q0, q1, q2, q3, q4, q5, q6⟩ := hq1
        dsimp only at q0 q1 q2 q3 q4 q5
        refine E_iconst (v := 0) C dX11_goFor_6 ic_0 (E_istore C dX11_goFor_7 (by decide) ?_)
        have K2 : ∀ (m2 t : Nat), t ≤ lst md1 → lst md1 < t + m2 → Ev p l e R s m args below meth c 0 0 (EQ below (PV fun w => ∃ u' v', w = hm ad tc g h el u' v' sf ∧ QR P fo ((gof N L s0 fo le 8 hd mi gl md).1, le, (gof N L s0 fo le 8 hd mi gl md).2.1, (gof N L s0 fo le 8 hd mi gl md).2.2, tu, la) u' v' ∧ KU u u' ∧ KV v v') args s D A) D A 6 (hm ad tc g h el u1 v1 sf) 9 [(4, .int (nI t)), (3, .int (nI md1)), (0, .ref (ad 0)), (1, .int (nI md)), (2, .int (nI s0))] [] := by
          intro m2
          induction m2 with
          | zero =>
            intro t ht1 ht2
            exfalso; omega
          | succ m2 ih2 =>
            intro t ht1 ht2
            refine E_iload_n C dX11_goFor_9 1 rfl (E_iload C dX11_goFor_10 0 rfl (E_ishr C dX11_goFor_12 (E_iconst (v := 1) C dX11_goFor_13 ic_1 (E_iand C dX11_goFor_14 ?_))))
            refine Ev.seti (nx_bitI md1 t (by omega) (by omega)) ?_
            refine E_if_ne C 24 dX11_goFor_15 (by decide) (fun c15 => ?_) (fun c15 => ?_)
            ·
              have hb := ite_1 c15
              have htl : t = lst md1 := by
                rw [lst_low md1 hm1 hne t (by omega) ht1] at hb
                exact of_decide_eq_true hb
              subst htl
              refine E_aload_n C dX11_goFor_24 2 rfl (E_iconst (v := 1) C dX11_goFor_25 ic_1 (E_aload_n C dX11_goFor_26 2 rfl (mg_11_2 C dX11_goFor_27 f_X11_9 (E_iload C dX11_goFor_30 0 rfl (ma_1 C dX11_goFor_32 (vinN hl.1) ?_)))))
              rw [nI_clamp (show (lst md1) < 2 ^ 31 by omega)]
              refine Ev.seti (show h 2 (lst md1) = nI (N 0 (lst md1)) from hA.2.2.1 0 _ (by decide) htn) ?_
              refine E_aload_n C dX11_goFor_33 2 rfl (mg_11_34 C dX11_goFor_34 f_X11_249 ?_)
              refine Ev.seti (show _ = nI gl1.length from q4) ?_
              refine E_aload_n C dX11_goFor_37 2 rfl (mg_11_5 C dX11_goFor_38 f_X11_21 (E_iload C dX11_goFor_41 0 rfl (ma_4 C dX11_goFor_43 (vinN hl.1) ?_)))
              rw [nI_clamp (show (lst md1) < 2 ^ 31 by omega)]
              refine Ev.seti (show h 5 (lst md1) = nI (N 3 (lst md1)) from hA.2.2.1 3 _ (by decide) htn) ?_
              refine E_iload_n C dX11_goFor_44 4 rfl (E_callVI C dX11_goFor_45 mv_X11_258 0 _ (m_goingTakes hA hL (nn := 1) (pp := N 0 (lst md1)) (by omega)) rfl rfl rfl (by decide) (Nat.le_of_ble_eq_true rfl) ?_)
              rintro _ _ ⟨rfl, v2, rfl, hv2⟩
              refine E_istore C dX11_goFor_48 (by decide) (E_aload_n C dX11_goFor_50 3 rfl (mg_11_37 C dX11_goFor_51 f_X11_75 (E_aload_n C dX11_goFor_54 3 rfl (mg_11_34 C dX11_goFor_55 f_X11_249 ?_))))
              refine Ev.seti (show _ = nI gl1.length from q4) ?_
              refine E_aload_n C dX11_goFor_58 3 rfl (mg_11_2 C dX11_goFor_59 f_X11_9 (E_iload C dX11_goFor_62 1 rfl (ma_1 C dX11_goFor_64 (vinN hl.1) ?_)))
              rw [nI_clamp (show (lst md1) < 2 ^ 31 by omega)]
              refine Ev.seti (show h 2 (lst md1) = nI (N 0 (lst md1)) from hA.2.2.1 0 _ (by decide) htn) ?_
              refine ms_20 C dX11_goFor_65 (vinN (by omega)) ?_
              rw [nI_clamp (show gl1.length < 2 ^ 31 by omega)]
              refine E_aload_n C dX11_goFor_66 3 rfl (mg_11_38 C dX11_goFor_67 f_X11_78 (E_aload_n C dX11_goFor_70 3 rfl (mg_11_34 C dX11_goFor_71 f_X11_249 ?_)))
              refine Ev.seti (show _ = nI gl1.length from q4) ?_
              refine E_iload C dX11_goFor_74 1 rfl (ms_21 C dX11_goFor_76 (vinN (by omega)) ?_)
              rw [nI_clamp (show gl1.length < 2 ^ 31 by omega)]
              refine E_aload_n C dX11_goFor_77 3 rfl (mg_11_39 C dX11_goFor_78 f_X11_81 (E_aload_n C dX11_goFor_81 3 rfl (mg_11_34 C dX11_goFor_82 f_X11_249 ?_)))
              refine Ev.seti (show _ = nI gl1.length from q4) ?_
              refine E_iload C dX11_goFor_85 0 rfl (ms_22 C dX11_goFor_87 (vinN (by omega)) ?_)
              rw [nI_clamp (show gl1.length < 2 ^ 31 by omega)]
              refine E_aload_n C dX11_goFor_88 3 rfl (E_dup C dX11_goFor_89 rfl (mg_11_34 C dX11_goFor_90 f_X11_249 ?_))
              refine Ev.seti (show _ = nI gl1.length from q4) ?_
              refine E_iconst (v := 1) C dX11_goFor_93 ic_1 (E_iadd C dX11_goFor_94 ?_)
              refine Ev.seti (nI_1 _) ?_
              refine mp_11_34 C dX11_goFor_95 fw_X11_249 (E_aload_n C dX11_goFor_98 3 rfl (E_dup C dX11_goFor_99 rfl (mg_11_33 C dX11_goFor_100 f_X11_246 ?_)))
              refine Ev.seti (show _ = nI mi1 from q3) ?_
              refine E_iload C dX11_goFor_103 0 rfl (E_iadd C dX11_goFor_105 ?_)
              refine Ev.seti (nI_add _ _) ?_
              refine mp_11_33 C dX11_goFor_106 fw_X11_246 (E_aload_n C dX11_goFor_109 3 rfl (E_dup C dX11_goFor_110 rfl (mg_11_31 C dX11_goFor_111 f_X11_240 ?_)))
              refine Ev.seti (show _ = nI hd1 from q1) ?_
              refine E_iconst (v := 1) C dX11_goFor_114 ic_1 (E_iload C dX11_goFor_115 1 rfl (E_ishl C dX11_goFor_117 ?_))
              refine Ev.seti (nx_one (lst md1) (by omega)) ?_
              refine E_ior C dX11_goFor_118 ?_
              refine Ev.seti (nx_or _ _) ?_
              refine mp_11_31 C dX11_goFor_119 fw_X11_240 (E_iload_n C dX11_goFor_122 2 rfl (E_aload_n C dX11_goFor_123 3 rfl (mg_11_6 C dX11_goFor_124 f_X11_24 (E_iload C dX11_goFor_127 1 rfl (ma_5 C dX11_goFor_129 (vinN hl.1) ?_)))))
              rw [nI_clamp (show (lst md1) < 2 ^ 31 by omega)]
              refine Ev.seti (show h 6 (lst md1) = nI (N 4 (lst md1)) from hA.2.2.1 4 _ (by decide) htn) ?_
              refine E_aload_n C dX11_goFor_130 3 rfl (mg_11_30 C dX11_goFor_131 f_X11_237 ?_)
              refine Ev.seti (show _ = nI fo from q0) ?_
              refine E_iand C dX11_goFor_134 ?_
              refine Ev.seti (nx_and _ _) ?_
              refine E_aload_n C dX11_goFor_135 3 rfl (E_callVI C dX11_goFor_136 mv_X11_262 0 _ (m_allThings hn hn8) rfl rfl rfl (by decide) (Nat.le_of_ble_eq_true rfl) ?_)
              rintro _ _ ⟨rfl, rfl⟩
              refine E_iand C dX11_goFor_139 ?_
              refine Ev.seti (nx_and _ _) ?_
              refine E_ior C dX11_goFor_140 ?_
              refine Ev.seti (nx_or _ _) ?_
              refine E_aload_n C dX11_goFor_141 3 rfl (mg_11_31 C dX11_goFor_142 f_X11_240 ?_)
              refine Ev.seti (show _ = nI (hd1 ||| 2 ^ lst md1) from rfl) ?_
              refine E_iconst (v := -1) C dX11_goFor_145 ic_m1 (E_ixor C dX11_goFor_146 (E_iand C dX11_goFor_147 ?_))
              refine Ev.seti (nx_andn _ _ (or_lt hm1 (Nat.lt_of_le_of_lt Nat.and_le_left (Nat.lt_of_le_of_lt Nat.and_le_right (by omega))))) ?_
              refine E_aload_n C dX11_goFor_148 3 rfl (mg_11_32 C dX11_goFor_149 f_X11_243 ?_)
              refine Ev.seti (show _ = nI le from q2) ?_
              refine E_iconst (v := -1) C dX11_goFor_152 ic_m1 (E_ixor C dX11_goFor_153 (E_iand C dX11_goFor_154 ?_))
              refine Ev.seti (nx_andn _ _ (Nat.lt_of_le_of_lt Nat.and_le_left (or_lt hm1 (Nat.lt_of_le_of_lt Nat.and_le_left (Nat.lt_of_le_of_lt Nat.and_le_right (by omega)))))) ?_
              refine Ev.seti (congrArg nI (due_eq hfo (fun t q => opn_fo (hmo1 t q)))) ?_
              refine E_istore_n C dX11_goFor_155 (by decide) (E_goto C 2 dX11_goFor_156 (by decide) ?_)
              exact Ev.sub [0, 3, 4, 5] rfl (ih k (hd1 ||| 2 ^ lst md1) (mi1 + (L 1 (N 5 (N 0 (lst md1))) gl1.length (N 3 (lst md1)) s0)) (gl1 ++ [(N 0 (lst md1), lst md1, (L 1 (N 5 (N 0 (lst md1))) gl1.length (N 3 (lst md1)) s0))]) ((md1 ||| N 4 (lst md1)) &&& opn fo (hd1 ||| 2 ^ lst md1) le) _ _ (by omega) (by omega) (or_lt hd1b (two_lt hl.1)) (by rw [List.length_append]; show gl1.length + 1 = _; omega) (Nat.lt_of_le_of_lt Nat.and_le_right (opn_lt (by omega) _ _)) (fun t q => by rw [Nat.testBit_and, Bool.and_eq_true] at q; exact q.2) (QR.go ⟨q0, q1, q2, q3, q4, q5, q6⟩ hv2 _ _ _ _) (ku.t fun k z => (vun (by omega)).trans ((vun (by omega)).trans (vun (by omega)))) (kv.t fun k z => (vun (by omega)).trans ((vun (by omega)).trans ((vun (by omega)).trans (hv2 k (by omega) (by omega))))) (hres.trans (gof_s hne)))
            ·
              have hb := ite_0 c15
              have htl : t ≠ lst md1 := fun q => hb (by rw [q]; exact hl.2)
              refine E_iinc C dX11_goFor_18 0 rfl (nI_1 t) (by decide) (E_goto C 9 dX11_goFor_21 (by decide) ?_)
              exact ih2 (t + 1) (by omega) (by omega)
        exact Ev.sub [0, 1, 2, 3, 4] rfl (K2 (lst md1 + 1) 0 (Nat.zero_le _) (by omega))
  refine E_iload_n C dX11_goFor_0 1 rfl (E_istore_n C dX11_goFor_1 (by decide) ?_)
  exact K 9 8 hd mi gl md u v (by decide) (by omega) hdb hgl hmb hmo hq (KU.r u) (KV.r v) rfl
set_option maxRecDepth 100000 in
set_option maxHeartbeats 4000000 in
theorem m_stopAt {l : Launch} {D : va_G} {tc tt ad : Nat → Nat} {g : Nat → Int32} {h : Nat → Nat → Int32} {el : Nat → Int64} {u : Nat → Int32} {v : Nat → Nat → Int32} {sf : Nat → Int64} {n : Nat} {N : Nat → Nat → Nat} (hA : MA n N g h) {L : Nat → Nat → Nat → Nat → Nat → Nat} (hL : MLw g h L) {P : Prop} {fo hd le mi tu la s0 : Nat} {gl : GL} (hfo : fo < 2 ^ n) (hq : QR P fo (hd, le, mi, gl, tu, la) u v) (hdi : DI (hd, le, mi, gl, tu, la)) (hle : le < 2 ^ n) (hs6 : s0 ≤ 6) : Ct l yX11_stopAt cX11_stopAt 3 none 6 D tc tt [.ref (ad 0), .int (nI s0)] (hm ad tc g h el u v sf) (PV fun w => ∃ u' v', w = hm ad tc g h el u' v' sf ∧ QR P fo (stopAt N L s0 fo (hd, le, mi, gl, tu, la)) u' v' ∧ KU u u' ∧ KV v v') := by
  have hn := hA.1
  have hn8 := hA.2.1
  have hp := p256 hn8
  have hB := hA.2.2.2.2.1
  have hm256 : (minded N s0 fo hd le) < 256 := minded_lt (by omega)
  have hN7 : N 7 0 ≤ 9 := hB 7 0 (by decide) (by decide)
  have hts := tsum_le hB s0 (by omega)
  have hws := wsum_le hB (minded N s0 fo hd le) 8 (by decide)
  have hpt : N 7 0 * 2 * tsum N s0 ≤ 18 * 120 := Nat.mul_le_mul (by omega) (by omega)
  refine Ct.of (by decide +kernel) (Nat.le_of_ble_eq_true rfl) ?_
  intro p e R s m args below meth c A C hr hlk
  refine E_aload_n C dX11_stopAt_0 0 rfl (E_iload_n C dX11_stopAt_1 1 rfl (E_callVI C dX11_stopAt_2 mv_X11_265 0 _ (m_comesAt hA hs6 hfo hq.1 hq.2.1 hq.2.2.1) rfl rfl rfl (by decide) (Nat.le_of_ble_eq_true rfl) ?_))
  rintro _ _ ⟨rfl, rfl⟩
  refine E_istore_n C dX11_stopAt_5 (by decide) (E_iload_n C dX11_stopAt_6 0 rfl (E_if_ne C 11 dX11_stopAt_7 (by decide) (fun c7 => ?_) (fun c7 => ?_)))
  ·
    have hne : ¬ (minded N s0 fo hd le) = 0 := fun q => c7 (by rw [q]; rfl)
    refine E_iload_n C dX11_stopAt_11 2 rfl (E_if_ne C 22 dX11_stopAt_12 (by decide) (fun c12 => ?_) (fun c12 => ?_))
    ·
      have hs0 : ¬ s0 = 0 := fun q => c12 (by rw [q]; rfl)
      refine E_aload_n C dX11_stopAt_22 1 rfl (E_iload_n C dX11_stopAt_23 0 rfl (E_callVI C dX11_stopAt_24 mv_X11_271 0 _ (m_worthOf hA (minded_le hfo)) rfl rfl rfl (by decide) (Nat.le_of_ble_eq_true rfl) ?_))
      rintro _ _ ⟨rfl, rfl⟩
      refine Ev.seti (show _ = nI (wsum N (minded N s0 fo hd le) 8) from rfl) ?_
      refine E_aload_n C dX11_stopAt_27 1 rfl (mg_11_9 C dX11_stopAt_28 f_X11_33 ?_)
      refine Ev.seti hA.2.2.2.1 ?_
      refine E_iconst (v := 2) C dX11_stopAt_31 ic_2 (E_imul C dX11_stopAt_32 ?_)
      refine Ev.seti (show nI (N 7 0) * 2 = nI (N 7 0 * 2) from pk_mul _ 2) ?_
      refine E_aload_n C dX11_stopAt_33 1 rfl (E_iload_n C dX11_stopAt_34 2 rfl (E_callVI C dX11_stopAt_35 mv_X11_274 0 _ (m_toHouse hA hs6) rfl rfl rfl (by decide) (Nat.le_of_ble_eq_true rfl) ?_))
      rintro _ _ ⟨rfl, rfl⟩
      refine E_imul C dX11_stopAt_38 ?_
      refine Ev.seti (pk_mul _ _) ?_
      refine E_icmp_gt C 53 dX11_stopAt_39 (by decide) (fun c39 => ?_) (fun c39 => ?_)
      ·
        have hgt : N 7 0 * (2 * tsum N s0) < wsum N (minded N s0 fo hd le) 8 := by
          have q2 := (nI_ltI (by omega) (by omega)).mp c39
          rw [← Nat.mul_assoc]
          exact q2
        refine E_aload_n C dX11_stopAt_53 1 rfl (E_dup C dX11_stopAt_54 rfl (mg_11_35 C dX11_stopAt_55 f_X11_252 ?_))
        refine Ev.seti hq.2.2.2.2.2.1 ?_
        refine E_iconst (v := 1) C dX11_stopAt_58 ic_1 (E_iadd C dX11_stopAt_59 ?_)
        refine Ev.seti (nI_1 _) ?_
        refine mp_11_35 C dX11_stopAt_60 fw_X11_252 (E_aload_n C dX11_stopAt_63 1 rfl (E_iload_n C dX11_stopAt_64 2 rfl (mp_11_36 C dX11_stopAt_65 fw_X11_255 (E_aload_n C dX11_stopAt_68 1 rfl (E_dup C dX11_stopAt_69 rfl ?_)))))
        refine mg_11_33 C dX11_stopAt_70 f_X11_246 ?_
        refine Ev.seti (show _ = nI mi from hq.2.2.2.1) ?_
        refine E_iconst (v := 2) C dX11_stopAt_73 ic_2 (E_aload_n C dX11_stopAt_74 1 rfl (E_iload_n C dX11_stopAt_75 2 rfl (E_callVI C dX11_stopAt_76 mv_X11_274 0 _ (m_toHouse hA hs6) rfl rfl rfl (by decide) (Nat.le_of_ble_eq_true rfl) ?_)))
        rintro _ _ ⟨rfl, rfl⟩
        refine E_imul C dX11_stopAt_79 ?_
        refine Ev.seti (show (2 : Int32) * nI (tsum N s0) = nI (2 * tsum N s0) from pk_mul 2 _) ?_
        refine E_iadd C dX11_stopAt_80 ?_
        refine Ev.seti (nI_add _ _) ?_
        refine mp_11_33 C dX11_stopAt_81 fw_X11_246 (E_aload_n C dX11_stopAt_84 1 rfl (E_iload_n C dX11_stopAt_85 0 rfl (E_iload_n C dX11_stopAt_86 2 rfl ?_)))
        have hq9 : QR P fo (hd, le, mi + 2 * tsum N s0, gl, tu + 1, s0) (va_up (va_up (va_up u 35 (nI (tu + 1))) 36 (nI s0)) 33 (nI (mi + 2 * tsum N s0))) v := by
          obtain ⟨q0, q1, q2, q3, q4, q5, q6⟩ := hq
          exact ⟨q0, q1, q2, rfl, q4, rfl, fun p => ⟨rfl, (q6 p).2⟩⟩
        refine E_callVV C dX11_stopAt_87 mv_X11_268 0 _ (m_goFor hA hL hfo hq9 hdi.1 hdi.2.2 hm256 (fun t z => minded_opn z) hs6) rfl rfl rfl (by decide) (Nat.le_of_ble_eq_true rfl) ?_
        rintro _ ⟨u2, v2, rfl, hq2, ku2, kv2⟩
        refine E_vretV C hr hlk dX11_stopAt_90 ?_
        have e : stopAt N L s0 fo (hd, le, mi, gl, tu, la) = _ := (if_neg hs0).trans (if_pos hgt)
        rw [e]
        exact ⟨_, _, rfl, hq2, fun k z => (ku2 k z).trans ((vun (by omega)).trans ((vun (by omega)).trans (vun (by omega)))), kv2⟩
      ·
        have hgt : ¬ N 7 0 * (2 * tsum N s0) < wsum N (minded N s0 fo hd le) 8 := by
          intro q
          rw [← Nat.mul_assoc] at q
          exact c39 (nI_lt q (by omega))
        refine E_aload_n C dX11_stopAt_42 1 rfl (E_dup C dX11_stopAt_43 rfl (mg_11_32 C dX11_stopAt_44 f_X11_243 ?_))
        refine Ev.seti hq.2.2.1 ?_
        refine E_iload_n C dX11_stopAt_47 0 rfl (E_ior C dX11_stopAt_48 ?_)
        refine Ev.seti (nx_or _ _) ?_
        refine mp_11_32 C dX11_stopAt_49 fw_X11_243 (E_vretV C hr hlk dX11_stopAt_52 ?_)
        have e : stopAt N L s0 fo (hd, le, mi, gl, tu, la) = _ := (if_neg hs0).trans (if_neg hgt)
        rw [e]
        obtain ⟨q0, q1, q2, q3, q4, q5, q6⟩ := hq
        exact ⟨_, _, rfl, ⟨q0, q1, rfl, q3, q4, q5, q6⟩, fun k z => vun (by omega), KV.r v⟩
    ·
      have hs0 : s0 = 0 := (nI_eq (b := 0) (by omega) (by decide)).mp c12
      subst hs0
      refine E_aload_n C dX11_stopAt_15 1 rfl (E_iload_n C dX11_stopAt_16 0 rfl (E_iconst (v := 0) C dX11_stopAt_17 ic_0 (E_callVV C dX11_stopAt_18 mv_X11_268 0 _ (m_goFor hA hL hfo hq hdi.1 hdi.2.2 hm256 (fun t z => minded_opn z) hs6) rfl rfl rfl (by decide) (Nat.le_of_ble_eq_true rfl) ?_)))
      rintro _ ⟨u2, v2, rfl, hq2, ku2, kv2⟩
      refine E_vretV C hr hlk dX11_stopAt_21 ?_
      have e : stopAt N L 0 fo (hd, le, mi, gl, tu, la) = _ := if_pos rfl
      rw [e]
      exact ⟨_, _, rfl, hq2, ku2, kv2⟩
  ·
    have hz : (minded N s0 fo hd le) = 0 := (nI_eq (b := 0) (by omega) (by decide)).mp c7
    refine E_vretV C hr hlk dX11_stopAt_10 ?_
    have e : stopAt N L s0 fo (hd, le, mi, gl, tu, la) = _ := stopAt_0 hz
    rw [e]
    exact ⟨_, _, rfl, hq, KU.r u, KV.r v⟩
set_option maxRecDepth 100000 in
set_option maxHeartbeats 4000000 in
theorem m_goDrive {l : Launch} {D : va_G} {tc tt ad : Nat → Nat} {g : Nat → Int32} {h : Nat → Nat → Int32} {el : Nat → Int64} {u : Nat → Int32} {v : Nat → Nat → Int32} {sf : Nat → Int64} {n : Nat} {N : Nat → Nat → Nat} (hA : MA n N g h) {L : Nat → Nat → Nat → Nat → Nat → Nat} (hL : MLw g h L) {fo : Nat} (hfo : fo < 2 ^ n) : Ct l yX11_goDrive cX11_goDrive 3 none 7 D tc tt [.ref (ad 0), .int (nI fo)] (hm ad tc g h el u v sf) (PV fun w => ∃ u' v', w = hm ad tc g h el u' v' sf ∧ QR True fo (whole N L fo) u' v' ∧ KU u u' ∧ KV v v') := by
  refine Ct.of (by decide +kernel) (Nat.le_of_ble_eq_true rfl) ?_
  intro p e R s m args below meth c A C hr hlk
  have hn := hA.1
  have hn8 := hA.2.1
  have hp := p256 hn8
  have hB := hA.2.2.2.2.1
  have K : ∀ (mm i : Nat) (u1 : Nat → Int32) (v1 : Nat → Nat → Int32), i ≤ 7 → 7 < i + mm → QR True fo (goStops N L fo i) u1 v1 → KU u u1 → KV v v1 → Ev p l e R s m args below meth c 0 0 (EQ below (PV fun w => ∃ u' v', w = hm ad tc g h el u' v' sf ∧ QR True fo (whole N L fo) u' v' ∧ KU u u' ∧ KV v v') args s D A) D A 3 (hm ad tc g h el u1 v1 sf) 7 [(2, .int (nI i)), (0, .ref (ad 0)), (1, .int (nI fo))] [] := by
    intro mm
    induction mm with
    | zero =>
      intro i u1 v1 hi1 hi2 hq1 ku kv
      exfalso; omega
    | succ mm ih =>
      intro i u1 v1 hi1 hi2 hq1 ku kv
      refine E_iload_n C dX11_goDrive_7 0 rfl (E_bipush (v := 7) C dX11_goDrive_8 bp_7 (E_icmp_ge C 47 dX11_goDrive_10 (by decide) (fun c10 => ?_) (fun c10 => ?_)))
      ·
        have hi : i = 7 := by
          rcases Nat.lt_or_ge i 7 with q | q
          · exact absurd (show nI 7 ≤ nI i from c10) (nI_ge q (by omega))
          · omega
        subst hi
        refine E_vretV C hr hlk dX11_goDrive_47 ?_
        exact ⟨_, _, rfl, hq1, ku, kv⟩
      ·
        have hi : i < 7 := by
          rcases Nat.lt_or_ge i 7 with q | q
          · exact q
          · exact absurd (show nI 7 ≤ nI i from nI_le q (by omega)) c10
        refine E_aload_n C dX11_goDrive_13 1 rfl (E_iload_n C dX11_goDrive_14 0 rfl (E_callVV C dX11_goDrive_15 mv_X11_281 0 _ (m_stopAt hA hL (hd := (goStops N L fo i).1) (le := (goStops N L fo i).2.1) (mi := (goStops N L fo i).2.2.1) (gl := (goStops N L fo i).2.2.2.1) (tu := (goStops N L fo i).2.2.2.2.1) (la := (goStops N L fo i).2.2.2.2.2) hfo hq1 (goStops_inv hB (by omega) i) (goStops_le hfo i) (by omega)) rfl rfl rfl (by decide) (Nat.le_of_ble_eq_true rfl) ?_))
        rintro _ ⟨u2, v2, rfl, hq2, ku2, kv2⟩
        have hq2 : QR True fo (stopAt N L i fo (goStops N L fo i)) u2 v2 := hq2
        refine E_iload_n C dX11_goDrive_18 0 rfl (E_iconst (v := 1) C dX11_goDrive_19 ic_1 (E_iadd C dX11_goDrive_20 ?_))
        refine Ev.seti (nI_1 i) ?_
        refine E_bipush (v := 7) C dX11_goDrive_21 bp_7 (E_icmp_ge C 41 dX11_goDrive_23 (by decide) (fun c23 => ?_) (fun c23 => ?_))
        ·
          have hi6 : ¬ i < 6 := fun q => nI_ge (a := i + 1) (b := 7) (by omega) (by decide) c23
          have hq3 : QR True fo (goStops N L fo (i + 1)) u2 v2 := by
            show QR True fo (addWay N i (stopAt N L i fo (goStops N L fo i))) u2 v2
            unfold addWay
            rw [if_neg hi6]
            exact hq2
          refine E_iinc C dX11_goDrive_41 0 rfl (nI_1 i) (by decide) (E_goto C 7 dX11_goDrive_44 (by decide) ?_)
          exact Ev.sub [0, 1, 2] rfl (ih (i + 1) _ _ (by omega) (by omega) hq3 (ku.t ku2) (kv.t kv2))
        ·
          have hi6 : i < 6 := by
            rcases Nat.lt_or_ge i 6 with q | q
            · exact q
            · exact absurd (show nI 7 ≤ nI (i + 1) from nI_le (by omega) (by omega)) c23
          have hq3 : QR True fo (goStops N L fo (i + 1)) (va_up u2 33 (nI ((stopAt N L i fo (goStops N L fo i)).2.2.1 + N 6 i))) v2 := by
            show QR True fo (addWay N i (stopAt N L i fo (goStops N L fo i))) _ v2
            unfold addWay
            rw [if_pos hi6]
            obtain ⟨q0, q1, q2, q3, q4, q5, q6⟩ := hq2
            exact ⟨q0, q1, q2, rfl, q4, q5, q6⟩
          refine E_aload_n C dX11_goDrive_26 1 rfl (E_dup C dX11_goDrive_27 rfl (mg_11_33 C dX11_goDrive_28 f_X11_246 ?_))
          refine Ev.seti hq2.2.2.2.1 ?_
          refine E_aload_n C dX11_goDrive_31 1 rfl (mg_11_8 C dX11_goDrive_32 f_X11_30 (E_iload_n C dX11_goDrive_35 0 rfl (ma_7 C dX11_goDrive_36 (vinN (by omega)) ?_)))
          rw [nI_clamp (show i < 2 ^ 31 by omega)]
          refine Ev.seti (show h 8 i = nI (N 6 i) from hA.2.2.1 6 i (by decide) (show i < 6 from hi6)) ?_
          refine E_iadd C dX11_goDrive_37 ?_
          refine Ev.seti (nI_add _ _) ?_
          refine mp_11_33 C dX11_goDrive_38 fw_X11_246 (E_iinc C dX11_goDrive_41 0 rfl (nI_1 i) (by decide) (E_goto C 7 dX11_goDrive_44 (by decide) ?_))
          exact Ev.sub [0, 1, 2] rfl (ih (i + 1) _ _ (by omega) (by omega) hq3 (ku.t (ku2.t fun k z => vun (by omega))) (kv.t kv2))
  refine E_aload_n C dX11_goDrive_0 0 rfl (E_iload_n C dX11_goDrive_1 1 rfl (E_callVV C dX11_goDrive_2 mv_X11_277 0 _ (m_begin True fo) rfl rfl rfl (by decide) (Nat.le_of_ble_eq_true rfl) ?_))
  rintro _ ⟨u1, rfl, hq1, ku⟩
  refine E_iconst (v := 0) C dX11_goDrive_5 ic_0 (E_istore_n C dX11_goDrive_6 (by decide) ?_)
  exact K 8 0 u1 v (by decide) (by decide) hq1 ku (KV.r v)
set_option maxRecDepth 100000 in
set_option maxHeartbeats 4000000 in
theorem m_costNow {l : Launch} {D : va_G} {tc tt ad : Nat → Nat} {g : Nat → Int32} {h : Nat → Nat → Int32} {el : Nat → Int64} {u : Nat → Int32} {v : Nat → Nat → Int32} {sf : Nat → Int64} {n : Nat} {N : Nat → Nat → Nat} (hA : MA n N g h) {P : Prop} {fo : Nat} {q : DT} (hq : QR P fo q u v) (hle : q.2.1 < 2 ^ n) : Ct l yX11_costNow cX11_costNow 1 (some .int) 2 D tc tt [.ref (ad 0)] (hm ad tc g h el u v sf) (PI fun r w => r = nI (costT N q) ∧ w = hm ad tc g h el u v sf) := by
  refine Ct.of (by decide +kernel) (Nat.le_of_ble_eq_true rfl) ?_
  intro p e R s m args below meth c A C hr hlk
  refine E_aload_n C dX11_costNow_0 0 rfl (mg_11_9 C dX11_costNow_1 f_X11_33 ?_)
  refine Ev.seti hA.2.2.2.1 ?_
  refine E_aload_n C dX11_costNow_4 0 rfl (mg_11_33 C dX11_costNow_5 f_X11_246 ?_)
  refine Ev.seti hq.2.2.2.1 ?_
  refine E_imul C dX11_costNow_8 ?_
  refine Ev.seti (pk_mul _ _) ?_
  refine E_aload_n C dX11_costNow_9 0 rfl (E_aload_n C dX11_costNow_10 0 rfl (mg_11_32 C dX11_costNow_11 f_X11_243 ?_))
  refine Ev.seti hq.2.2.1 ?_
  refine E_callVI C dX11_costNow_14 mv_X11_271 0 _ (m_worthOf hA hle) rfl rfl rfl (by decide) (Nat.le_of_ble_eq_true rfl) ?_
  rintro _ _ ⟨rfl, rfl⟩
  refine E_iadd C dX11_costNow_17 ?_
  refine Ev.seti (nI_add _ _) ?_
  refine E_iretI C hr hlk dX11_costNow_18 ?_
  exact ⟨rfl, rfl⟩
