/-! the reference: reading of a law's text -/
/-- a letter as the reference says it -/
def mI (c : Nat) : Int32 := if c = 300 then -1 else vp_nar .byte (nI c)
theorem nar_lo : ∀ c, c < 128 → vp_nar .byte (nI c) = nI c := by decide +kernel
theorem nar_hi : ∀ c, c < 256 → 128 ≤ c → vp_nar .byte (nI c) < 0 := by decide +kernel
theorem mI_eq {x k : Nat} (hx : x < 256 ∨ x = 300) (hk : k < 128) : mI x = nI k ↔ x = k := by
  unfold mI
  rcases hx with h | h
  · rw [if_neg (by omega)]
    rcases Nat.lt_or_ge x 128 with q | q
    · rw [nar_lo x q]
      exact nI_eq (by omega) (by omega)
    · refine ⟨fun e => ?_, fun e => by omega⟩
      have := nar_hi x h q
      rw [e] at this
      exact absurd this (nI_pos (by omega))
  · rw [if_pos h]
    refine ⟨fun q => ?_, fun q => by omega⟩
    have e : (-1 : Int32) < 0 := by decide
    rw [q] at e
    exact absurd e (nI_pos (by omega))
theorem mI_nat {x : Nat} (hx : x < 128) : mI x = nI x := (if_neg (by omega)).trans (nar_lo x hx)
theorem mI_D : ∀ x, x < 256 → bet (mI x) 48 57 = isD x := by decide +kernel
theorem mI_Dx {x : Nat} (hx : x < 256 ∨ x = 300) : bet (mI x) 48 57 = isD x := by
  rcases hx with h | rfl
  · exact mI_D x h
  · decide
theorem nameM {x : Nat} (hx : x < 256 ∨ x = 300) : nameI (mI x) = if nmF x < 5 then nI (nmF x) else -1 := by
  unfold nameI nmF
  have a1 : mI x = 107 ↔ x = 107 := mI_eq (k := 107) hx (by decide)
  have a2 : mI x = 110 ↔ x = 110 := mI_eq (k := 110) hx (by decide)
  have a3 : mI x = 112 ↔ x = 112 := mI_eq (k := 112) hx (by decide)
  have a4 : mI x = 115 ↔ x = 115 := mI_eq (k := 115) hx (by decide)
  have a5 : mI x = 119 ↔ x = 119 := mI_eq (k := 119) hx (by decide)
  by_cases e1 : x = 107
  · subst e1; rfl
  · by_cases e2 : x = 110
    · subst e2; rfl
    · by_cases e3 : x = 112
      · subst e3; rfl
      · by_cases e4 : x = 115
        · subst e4; rfl
        · by_cases e5 : x = 119
          · subst e5; rfl
          · rw [if_neg (fun q => e1 (a1.mp q)), if_neg (fun q => e2 (a2.mp q)), if_neg (fun q => e3 (a3.mp q)), if_neg (fun q => e4 (a4.mp q)), if_neg (fun q => e5 (a5.mp q)), if_neg e2, if_neg e3, if_neg e1, if_neg e5, if_neg e4]
            rfl
def okop (a : Nat) : Prop := a = 48 ∨ a = 110 ∨ a = 33 ∨ a = 126 ∨ bnO a = true
theorem nar_mop {a : Nat} (h : okop a) : vp_nar .byte (mop a).toInt8.toInt32 = mop a := by
  rcases h with rfl | rfl | rfl | rfl | h
  · decide
  · decide
  · decide
  · decide
  · rcases of_decide_eq_true h with rfl | rfl | rfl | rfl | rfl | rfl | rfl | rfl | rfl | rfl <;> decide
theorem mop_bn {a : Nat} (h : bnO a = true) : nI a = mop a := by
  obtain ⟨z1, z2, z3, z4, -⟩ := bnO_ne h
  exact ((if_neg z1).trans ((if_neg z2).trans ((if_neg z3).trans (if_neg z4)))).symm
/-- the reference's registers hold a state of the reading -/
def RM (t : List Nat) (h0 : Nat → Nat → Int32) (u0 : Nat → Int32) (op : Nat) (s : PS) (h : Nat → Nat → Int32) (u : Nat → Int32) : Prop := u 18 = nI s.1 ∧ u 19 = fI s.2.1 ∧ (s.2.1 = none → u 20 = nI op) ∧ u 21 = nI s.2.2.length ∧ AtM h 130 s.2.2 ∧ (∀ k, k ≠ 22 → k ≠ 23 → h k = h0 k) ∧ (∀ j, j < 130 → h 22 j = h0 22 j ∧ h 23 j = h0 23 j) ∧ (∀ k, (k < 18 ∨ 21 < k) → u k = u0 k)
/-- where the reading stands, and how much it has laid -/
def OkS (t : List Nat) (s : PS) : Prop := s.1 ≤ t.length ∧ (∀ x, s.2.1 = some x → x ≤ t.length ∧ s.2.2.length ≤ s.1 + 1) ∧ (s.2.1 = none → s.2.2.length ≤ s.1)
theorem wf_len {t : List Nat} {f : PS → PS} (hw : Wf t f) {s : PS} (hf : s.2.1 = none) (hl : s.1 ≤ t.length) : (f s).1 ≤ t.length ∧ s.1 ≤ (f s).1 ∧ (∀ x, (f s).2.1 = some x → x ≤ t.length ∧ (f s).2.2.length + s.1 ≤ (f s).1 + s.2.2.length + 1) ∧ ((f s).2.1 = none → s.1 < (f s).1 ∧ (f s).2.2.length + s.1 ≤ (f s).1 + s.2.2.length) := by
  obtain ⟨a, fl, c0⟩ := s
  cases hf
  have k := hw.2.2 a hl
  rw [pre_nil a none c0, hw.1]
  revert k
  generalize f (a, none, []) = r
  intro k
  obtain ⟨k1, k2, k3, k4⟩ := k
  have hlen : (pre c0 r).2.2.length = c0.length + r.2.2.length := List.length_append
  refine ⟨k1, k2, fun x hx => ⟨(k3 x hx).1, ?_⟩, fun hx => ⟨(k4 hx).1, ?_⟩⟩
  · rw [hlen]
    have := (k3 x hx).2
    show c0.length + r.2.2.length + a ≤ r.1 + (c0 ++ []).length + 1
    rw [List.append_nil]
    omega
  · rw [hlen]
    have := (k4 hx).2.2
    have k5 := (k4 hx).1
    show c0.length + r.2.2.length + a ≤ r.1 + (c0 ++ []).length
    rw [List.append_nil]
    omega
theorem wf_ok {t : List Nat} {f : PS → PS} (hw : Wf t f) {s : PS} (hf : s.2.1 = none) (h : OkS t s) : OkS t (f s) := by
  obtain ⟨k1, k2, k3, k4⟩ := wf_len hw hf h.1
  have h3 := h.2.2 hf
  exact ⟨k1, fun x hx => ⟨(k3 x hx).1, by have := (k3 x hx).2; omega⟩, fun hx => by have := (k4 hx).2; omega⟩
/-- a sign, an operand, and the sign laid behind it -/
theorem ok_bin {t : List Nat} {f : PS → PS} (hw : Wf t f) {s : PS} (hf : s.2.1 = none) (h : OkS t s) (hl : s.1 < t.length) (a : Nat) : OkS t (f (adv s)) ∧ (f (adv s)).2.2.length ≤ (f (adv s)).1 ∧ OkS t (emt (f (adv s)) a 0) ∧ ((emt (f (adv s)) a 0).2.1 = none → s.1 < (emt (f (adv s)) a 0).1) := by
  have h3 := h.2.2 hf
  have hf2 : (adv s).2.1 = none := hf
  have hl2 : (adv s).1 ≤ t.length := hl
  obtain ⟨k1, k2, k3, k4⟩ := wf_len hw hf2 hl2
  have e1 : (adv s).1 = s.1 + 1 := rfl
  have e2 : (adv s).2.2 = s.2.2 := rfl
  rw [e1] at k2 k3 k4
  rw [e2] at k3 k4
  generalize f (adv s) = r at k1 k2 k3 k4
  have hle : (emt r a 0).2.2.length = r.2.2.length + 1 := List.length_append
  have hlt : r.2.2.length ≤ r.1 := by
    cases hx : r.2.1 with
    | none => have := (k4 hx).2; omega
    | some x => have := (k3 x hx).2; omega
  refine ⟨⟨k1, fun x hx => ⟨(k3 x hx).1, by have := (k3 x hx).2; omega⟩, fun hx => by have := (k4 hx).2; omega⟩, hlt, ⟨k1, fun x hx => ⟨(k3 x hx).1, ?_⟩, fun hx => ?_⟩, fun hx => ?_⟩
  · rw [hle]
    show r.2.2.length + 1 ≤ r.1 + 1
    omega
  · rw [hle]
    show r.2.2.length + 1 ≤ r.1
    have := (k4 hx).2
    omega
  · show s.1 < r.1
    have := (k4 hx).1
    omega
theorem AtM.put {h : Nat → Nat → Int32} {i : Nat} {c : CD} (m : AtM h i c) (a b : Nat) {w : Int32} (hw : w = mop a) : AtM (va_up (va_up h 22 (upd (h 22) (i + c.length) w)) 23 (upd (h 23) (i + c.length) (nI b))) i (c ++ [(a, b)]) := by
  intro j a' b' e
  show upd (h 22) (i + c.length) w (i + j) = mop a' ∧ upd (h 23) (i + c.length) (nI b) (i + j) = nI b'
  rcases Nat.lt_or_ge j c.length with r | r
  · rw [List.getElem?_append_left r] at e
    have k := m j a' b' e
    exact ⟨(if_neg (by omega)).trans k.1, (if_neg (by omega)).trans k.2⟩
  · rw [List.getElem?_append_right r] at e
    have hz : j - c.length < 1 := (List.getElem?_eq_some_iff.mp e).1
    obtain rfl : j = c.length := by omega
    rw [Nat.sub_self] at e
    cases e
    exact ⟨(if_pos rfl).trans hw, if_pos rfl⟩
theorem RM.emt {t : List Nat} {h0 h : Nat → Nat → Int32} {u0 u : Nat → Int32} {op : Nat} {s : PS} (r : RM t h0 u0 op s h u) (a b : Nat) {w : Int32} (hw : w = mop a) : RM t h0 u0 op (emt s a b) (va_up (va_up h 22 (upd (h 22) (130 + s.2.2.length) w)) 23 (upd (h 23) (130 + s.2.2.length) (nI b))) (va_up u 21 (nI (s.2.2.length + 1))) := by
  obtain ⟨r1, r2, r3, r4, r5, r6, r7, r8⟩ := r
  refine ⟨r1, r2, r3, ?_, r5.put a b hw, fun k k1 k2 => (vun k2).trans ((vun k1).trans (r6 k k1 k2)), fun j hj => ?_, fun k hk => (vun (by omega)).trans (r8 k hk)⟩
  · show nI (s.2.2.length + 1) = nI (s.2.2 ++ [(a, b)]).length
    rw [List.length_append]
    rfl
  · show upd (h 22) (130 + s.2.2.length) w j = _ ∧ upd (h 23) (130 + s.2.2.length) (nI b) j = _
    exact ⟨(if_neg (by omega)).trans (r7 j hj).1, (if_neg (by omega)).trans (r7 j hj).2⟩
theorem RM.adv {t : List Nat} {h0 h : Nat → Nat → Int32} {u0 u : Nat → Int32} {op : Nat} {s : PS} (r : RM t h0 u0 op s h u) : RM t h0 u0 op (adv s) h (va_up u 18 (nI (s.1 + 1))) := by
  obtain ⟨r1, r2, r3, r4, r5, r6, r7, r8⟩ := r
  exact ⟨rfl, r2, r3, r4, r5, r6, r7, fun k hk => (vun (by omega)).trans (r8 k hk)⟩
theorem RM.rfs {t : List Nat} {h0 h : Nat → Nat → Int32} {u0 u : Nat → Int32} {op : Nat} {s : PS} (r : RM t h0 u0 op s h u) (hf : s.2.1 = none) : RM t h0 u0 op (rfs s) h (va_up u 19 (nI s.1)) := by
  obtain ⟨r1, r2, r3, r4, r5, r6, r7, r8⟩ := r
  obtain ⟨a, fl, c⟩ := s
  cases hf
  exact ⟨r1, rfl, fun q => (by cases q), r4, r5, r6, r7, fun k hk => (vun (by omega)).trans (r8 k hk)⟩
theorem RM.op {t : List Nat} {h0 h : Nat → Nat → Int32} {u0 u : Nat → Int32} {op op' : Nat} {s : PS} (r : RM t h0 u0 op s h u) {x : Int32} (hx : s.2.1 = none → x = nI op') : RM t h0 u0 op' s h (va_up u 20 x) := by
  obtain ⟨r1, r2, r3, r4, r5, r6, r7, r8⟩ := r
  exact ⟨r1, r2, hx, r4, r5, r6, r7, fun k hk => (vun (by omega)).trans (r8 k hk)⟩
theorem ltr_n {t : List Nat} {s : PS} (hf : s.2.1 = none) : ltr t (s.1, none, []) = ltr t s := by
  unfold ltr
  rw [hf]
theorem fI_neg {f : Option Nat} (h : f = none) : fI f = -1 := by rw [h]; rfl
set_option maxRecDepth 100000 in
set_option maxHeartbeats 4000000 in
theorem m_look {l : Launch} {D : va_G} {tc tt ad : Nat → Nat} {g : Nat → Int32} {h0 : Nat → Nat → Int32} {el : Nat → Int64} {u0 : Nat → Int32} {v : Nat → Nat → Int32} {sf : Nat → Int64} {t : List Nat} (hT : MT t g h0) {op : Nat} {s0 : PS} {h : Nat → Nat → Int32} {u : Nat → Int32} (hr0 : RM t h0 u0 op s0 h u) (hl : s0.1 ≤ t.length) : Ct l yX11_look cX11_look 1 (some .int) 1 D tc tt [.ref (ad 0)] (hm ad tc g h el u v sf) (PI fun r w => r = mI (ltr t (s0.1, none, [])) ∧ w = hm ad tc g h el u v sf) := by
  have htl := hT.2.1
  have htx : ∀ (j x : Nat), t[j]? = some x → x < 256 := fun j x q => (hT.2.2 j x q).2
  refine Ct.of (by decide +kernel) (Nat.le_of_ble_eq_true rfl) ?_
  intro p e R s m args below meth c A C hr hlk
  refine E_aload_n C dX11_look_0 0 rfl (mg_11_18 C dX11_look_1 f_X11_166 ?_)
  refine Ev.seti hr0.1 ?_
  refine E_aload_n C dX11_look_4 0 rfl (mg_11_17 C dX11_look_5 f_X11_163 ?_)
  refine Ev.seti hT.1 ?_
  refine E_icmp_ge C 23 dX11_look_8 (by decide) (fun c8 => ?_) (fun c8 => ?_)
  ·
    have hge : t.length ≤ s0.1 := Classical.byContradiction fun q => nI_ge (Nat.not_le.mp q) (by omega) c8
    refine E_iconst (v := -1) C dX11_look_23 ic_m1 (E_iretI C hr hlk dX11_look_24 ?_)
    refine ⟨?_, rfl⟩
    have e : ltr t (s0.1, none, []) = 300 := by
      rcases ltr_le htx (s0.1, none, []) with q | q
      · exact absurd (ltr_in q).2.1 (Nat.not_lt.mpr hge)
      · exact q
    rw [e]
    rfl
  ·
    have hlt : s0.1 < t.length := Classical.byContradiction fun q => c8 (nI_le (by omega) (by omega))
    refine E_aload_n C dX11_look_11 0 rfl (mg_11_16 C dX11_look_12 f_X11_49 (E_aload_n C dX11_look_15 0 rfl (mg_11_18 C dX11_look_16 f_X11_166 ?_)))
    refine Ev.seti hr0.1 ?_
    refine ma_12 C dX11_look_19 (vinN (by omega)) ?_
    rw [nI_clamp (show s0.1 < 2 ^ 31 by omega)]
    refine E_goto C 24 dX11_look_20 (by decide) (E_iretI C hr hlk dX11_look_24 ?_)
    refine ⟨?_, rfl⟩
    have hge : t[s0.1]? = some (t[s0.1]) := List.getElem?_eq_getElem hlt
    have e : ltr t (s0.1, none, []) = t[s0.1] := by
      show t.getD s0.1 300 = _
      rw [List.getD_eq_getElem?_getD, hge]
      rfl
    obtain ⟨k1, k2⟩ := hT.2.2 _ _ hge
    rw [e, congrArg (fun f => f s0.1) (hr0.2.2.2.2.2.1 16 (by decide) (by decide)), k1]
    exact (if_neg (by omega)).symm
set_option maxRecDepth 100000 in
set_option maxHeartbeats 4000000 in
theorem m_faulty {l : Launch} {D : va_G} {tc tt ad : Nat → Nat} {g : Nat → Int32} {h0 : Nat → Nat → Int32} {el : Nat → Int64} {u0 : Nat → Int32} {v : Nat → Nat → Int32} {sf : Nat → Int64} {t : List Nat} (hT : MT t g h0) {op : Nat} {s0 : PS} {h : Nat → Nat → Int32} {u : Nat → Int32} (hr0 : RM t h0 u0 op s0 h u) (ho0 : OkS t s0) : Ct l yX11_faulty cX11_faulty 1 none 1 D tc tt [.ref (ad 0)] (hm ad tc g h el u v sf) (PV fun w => ∃ h' u', w = hm ad tc g h' el u' v sf ∧ RM t h0 u0 op (rfs s0) h' u') := by
  by_cases hf : s0.2.1 = none
  ·
    refine Ct.of (by decide +kernel) (Nat.le_of_ble_eq_true rfl) ?_
    intro p e R s m args below meth c A C hr hlk
    refine E_aload_n C dX11_faulty_0 0 rfl (mg_11_19 C dX11_faulty_1 f_X11_169 ?_)
    refine Ev.seti (hr0.2.1.trans (fI_neg hf)) ?_
    refine E_if_ge C 15 dX11_faulty_4 (by decide) (fun c4 => ?_) (fun c4 => ?_)
    ·
      exact absurd c4 (by decide)
    ·
      refine E_aload_n C dX11_faulty_7 0 rfl (E_aload_n C dX11_faulty_8 0 rfl (mg_11_18 C dX11_faulty_9 f_X11_166 ?_))
      refine Ev.seti hr0.1 ?_
      refine mp_11_19 C dX11_faulty_12 fw_X11_169 (E_vretV C hr hlk dX11_faulty_15 ?_)
      exact ⟨_, _, rfl, hr0.rfs hf⟩
  ·
    obtain ⟨ff, hff⟩ := Option.ne_none_iff_exists'.mp hf
    have hfl := (ho0.2.1 ff hff).1
    have htl := hT.2.1
    refine Ct.of (by decide +kernel) (Nat.le_of_ble_eq_true rfl) ?_
    intro p e R s m args below meth c A C hr hlk
    refine E_aload_n C dX11_faulty_0 0 rfl (mg_11_19 C dX11_faulty_1 f_X11_169 ?_)
    refine Ev.seti (show u 19 = nI ff by rw [hr0.2.1, hff]; rfl) ?_
    refine E_if_ge C 15 dX11_faulty_4 (by decide) (fun c4 => ?_) (fun c4 => ?_)
    ·
      refine E_vretV C hr hlk dX11_faulty_15 ?_
      have ee : rfs s0 = s0 := by unfold rfs; rw [hff]
      rw [ee]
      exact ⟨_, _, rfl, hr0⟩
    ·
      exact absurd (nI_pos' (by omega)) c4
set_option maxRecDepth 100000 in
set_option maxHeartbeats 4000000 in
theorem m_addStep {l : Launch} {D : va_G} {tc tt ad : Nat → Nat} {g : Nat → Int32} {h0 : Nat → Nat → Int32} {el : Nat → Int64} {u0 : Nat → Int32} {v : Nat → Nat → Int32} {sf : Nat → Int64} {t : List Nat}  {op : Nat} {s0 : PS} {h : Nat → Nat → Int32} {u : Nat → Int32} (hr0 : RM t h0 u0 op s0 h u) (hln : s0.2.2.length < 130) {aa bb : Nat} (hop : okop aa) : Ct l yX11_addStep cX11_addStep 3 none 1 D tc tt [.ref (ad 0), .int (mop aa), .int (nI bb)] (hm ad tc g h el u v sf) (PV fun w => ∃ h' u', w = hm ad tc g h' el u' v sf ∧ RM t h0 u0 op (emt s0 aa bb) h' u') := by
  refine Ct.of (by decide +kernel) (Nat.le_of_ble_eq_true rfl) ?_
  intro p e R s m args below meth c A C hr hlk
  refine E_aload_n C dX11_addStep_0 0 rfl (mg_11_22 C dX11_addStep_1 f_X11_53 (E_sipush (v := 130) C dX11_addStep_4 sp_130 (E_aload_n C dX11_addStep_7 0 rfl (mg_11_21 C dX11_addStep_8 f_X11_172 ?_))))
  refine Ev.seti hr0.2.2.2.1 ?_
  refine E_iadd C dX11_addStep_11 ?_
  refine Ev.seti (nI_add 130 _) ?_
  refine E_iload_n C dX11_addStep_12 1 rfl (E_i2b C dX11_addStep_13 (ms_13 C dX11_addStep_14 (vinN (by omega)) ?_))
  rw [nI_clamp (show (130 + s0.2.2.length) < 2 ^ 31 by omega)]
  rw [nar_mop hop]
  refine E_aload_n C dX11_addStep_15 0 rfl (mg_11_23 C dX11_addStep_16 f_X11_56 (E_sipush (v := 130) C dX11_addStep_19 sp_130 (E_aload_n C dX11_addStep_22 0 rfl (mg_11_21 C dX11_addStep_23 f_X11_172 ?_))))
  refine Ev.seti hr0.2.2.2.1 ?_
  refine E_iadd C dX11_addStep_26 ?_
  refine Ev.seti (nI_add 130 _) ?_
  refine E_iload_n C dX11_addStep_27 2 rfl (ms_14 C dX11_addStep_28 (vinN (by omega)) ?_)
  rw [nI_clamp (show (130 + s0.2.2.length) < 2 ^ 31 by omega)]
  refine E_aload_n C dX11_addStep_29 0 rfl (E_dup C dX11_addStep_30 rfl (mg_11_21 C dX11_addStep_31 f_X11_172 ?_))
  refine Ev.seti hr0.2.2.2.1 ?_
  refine E_iconst (v := 1) C dX11_addStep_34 ic_1 (E_iadd C dX11_addStep_35 ?_)
  refine Ev.seti (nI_1 _) ?_
  refine mp_11_21 C dX11_addStep_36 fw_X11_172 (E_vretV C hr hlk dX11_addStep_39 ?_)
  exact ⟨_, _, rfl, hr0.emt aa bb rfl⟩
set_option maxRecDepth 100000 in
set_option maxHeartbeats 4000000 in
theorem m_nameOf {l : Launch} {D : va_G} {tc tt : Nat → Nat} {ws : va_W} (x : Int32) : Ct l yX11_nameOf cX11_nameOf 1 (some .int) 1 D tc tt [.int x] (ws) (PI fun r w => r = nameI x ∧ w = ws) := by
  refine Ct.of (by decide +kernel) (Nat.le_of_ble_eq_true rfl) ?_
  intro p e R s m args below meth c A C hr hlk
  refine E_iload_n C dX11_nameOf_0 0 rfl ?_
  by_cases e1 : x = 107
  ·
    subst e1
    refine E_tableIn C 72 dX11_nameOf_1 (by decide) (by decide) rfl (by decide) (E_iconst (v := 2) C dX11_nameOf_72 ic_2 (E_iretI C hr hlk dX11_nameOf_73 ?_))
    exact ⟨rfl, rfl⟩
  by_cases e1_2 : x = 108
  ·
    subst e1_2
    refine E_tableIn C 78 dX11_nameOf_1 (by decide) (by decide) rfl (by decide) (E_iconst (v := -1) C dX11_nameOf_78 ic_m1 (E_iretI C hr hlk dX11_nameOf_79 ?_))
    refine ⟨Eq.symm ?_, rfl⟩
    first
      | rfl
      | exact (if_neg e1).trans ((if_neg e1_4).trans ((if_neg e1_6).trans ((if_neg e1_9).trans (if_neg e1_13))))
  by_cases e1_3 : x = 109
  ·
    subst e1_3
    refine E_tableIn C 78 dX11_nameOf_1 (by decide) (by decide) rfl (by decide) (E_iconst (v := -1) C dX11_nameOf_78 ic_m1 (E_iretI C hr hlk dX11_nameOf_79 ?_))
    refine ⟨Eq.symm ?_, rfl⟩
    first
      | rfl
      | exact (if_neg e1).trans ((if_neg e1_4).trans ((if_neg e1_6).trans ((if_neg e1_9).trans (if_neg e1_13))))
  by_cases e1_4 : x = 110
  ·
    subst e1_4
    refine E_tableIn C 68 dX11_nameOf_1 (by decide) (by decide) rfl (by decide) (E_iconst (v := 0) C dX11_nameOf_68 ic_0 (E_iretI C hr hlk dX11_nameOf_69 ?_))
    exact ⟨rfl, rfl⟩
  by_cases e1_5 : x = 111
  ·
    subst e1_5
    refine E_tableIn C 78 dX11_nameOf_1 (by decide) (by decide) rfl (by decide) (E_iconst (v := -1) C dX11_nameOf_78 ic_m1 (E_iretI C hr hlk dX11_nameOf_79 ?_))
    refine ⟨Eq.symm ?_, rfl⟩
    first
      | rfl
      | exact (if_neg e1).trans ((if_neg e1_4).trans ((if_neg e1_6).trans ((if_neg e1_9).trans (if_neg e1_13))))
  by_cases e1_6 : x = 112
  ·
    subst e1_6
    refine E_tableIn C 70 dX11_nameOf_1 (by decide) (by decide) rfl (by decide) (E_iconst (v := 1) C dX11_nameOf_70 ic_1 (E_iretI C hr hlk dX11_nameOf_71 ?_))
    exact ⟨rfl, rfl⟩
  by_cases e1_7 : x = 113
  ·
    subst e1_7
    refine E_tableIn C 78 dX11_nameOf_1 (by decide) (by decide) rfl (by decide) (E_iconst (v := -1) C dX11_nameOf_78 ic_m1 (E_iretI C hr hlk dX11_nameOf_79 ?_))
    refine ⟨Eq.symm ?_, rfl⟩
    first
      | rfl
      | exact (if_neg e1).trans ((if_neg e1_4).trans ((if_neg e1_6).trans ((if_neg e1_9).trans (if_neg e1_13))))
  by_cases e1_8 : x = 114
  ·
    subst e1_8
    refine E_tableIn C 78 dX11_nameOf_1 (by decide) (by decide) rfl (by decide) (E_iconst (v := -1) C dX11_nameOf_78 ic_m1 (E_iretI C hr hlk dX11_nameOf_79 ?_))
    refine ⟨Eq.symm ?_, rfl⟩
    first
      | rfl
      | exact (if_neg e1).trans ((if_neg e1_4).trans ((if_neg e1_6).trans ((if_neg e1_9).trans (if_neg e1_13))))
  by_cases e1_9 : x = 115
  ·
    subst e1_9
    refine E_tableIn C 76 dX11_nameOf_1 (by decide) (by decide) rfl (by decide) (E_iconst (v := 4) C dX11_nameOf_76 ic_4 (E_iretI C hr hlk dX11_nameOf_77 ?_))
    exact ⟨rfl, rfl⟩
  by_cases e1_10 : x = 116
  ·
    subst e1_10
    refine E_tableIn C 78 dX11_nameOf_1 (by decide) (by decide) rfl (by decide) (E_iconst (v := -1) C dX11_nameOf_78 ic_m1 (E_iretI C hr hlk dX11_nameOf_79 ?_))
    refine ⟨Eq.symm ?_, rfl⟩
    first
      | rfl
      | exact (if_neg e1).trans ((if_neg e1_4).trans ((if_neg e1_6).trans ((if_neg e1_9).trans (if_neg e1_13))))
  by_cases e1_11 : x = 117
  ·
    subst e1_11
    refine E_tableIn C 78 dX11_nameOf_1 (by decide) (by decide) rfl (by decide) (E_iconst (v := -1) C dX11_nameOf_78 ic_m1 (E_iretI C hr hlk dX11_nameOf_79 ?_))
    refine ⟨Eq.symm ?_, rfl⟩
    first
      | rfl
      | exact (if_neg e1).trans ((if_neg e1_4).trans ((if_neg e1_6).trans ((if_neg e1_9).trans (if_neg e1_13))))
  by_cases e1_12 : x = 118
  ·
    subst e1_12
    refine E_tableIn C 78 dX11_nameOf_1 (by decide) (by decide) rfl (by decide) (E_iconst (v := -1) C dX11_nameOf_78 ic_m1 (E_iretI C hr hlk dX11_nameOf_79 ?_))
    refine ⟨Eq.symm ?_, rfl⟩
    first
      | rfl
      | exact (if_neg e1).trans ((if_neg e1_4).trans ((if_neg e1_6).trans ((if_neg e1_9).trans (if_neg e1_13))))
  by_cases e1_13 : x = 119
  ·
    subst e1_13
    refine E_tableIn C 74 dX11_nameOf_1 (by decide) (by decide) rfl (by decide) (E_iconst (v := 3) C dX11_nameOf_74 ic_3 (E_iretI C hr hlk dX11_nameOf_75 ?_))
    exact ⟨rfl, rfl⟩
  have oe1 := ntoi (n := 107) rfl e1
  have oe1_2 := ntoi (n := 108) rfl e1_2
  have oe1_3 := ntoi (n := 109) rfl e1_3
  have oe1_4 := ntoi (n := 110) rfl e1_4
  have oe1_5 := ntoi (n := 111) rfl e1_5
  have oe1_6 := ntoi (n := 112) rfl e1_6
  have oe1_7 := ntoi (n := 113) rfl e1_7
  have oe1_8 := ntoi (n := 114) rfl e1_8
  have oe1_9 := ntoi (n := 115) rfl e1_9
  have oe1_10 := ntoi (n := 116) rfl e1_10
  have oe1_11 := ntoi (n := 117) rfl e1_11
  have oe1_12 := ntoi (n := 118) rfl e1_12
  have oe1_13 := ntoi (n := 119) rfl e1_13
  refine E_tableOut C 78 dX11_nameOf_1 (by omega) (by decide) (E_iconst (v := -1) C dX11_nameOf_78 ic_m1 (E_iretI C hr hlk dX11_nameOf_79 ?_))
  refine ⟨Eq.symm ?_, rfl⟩
  first
    | rfl
    | exact (if_neg e1).trans ((if_neg e1_4).trans ((if_neg e1_6).trans ((if_neg e1_9).trans (if_neg e1_13))))
set_option maxRecDepth 100000 in
set_option maxHeartbeats 4000000 in
theorem m_opens6 {l : Launch} {D : va_G} {tc tt ad : Nat → Nat} {g : Nat → Int32} {h0 : Nat → Nat → Int32} {el : Nat → Int64} {u0 : Nat → Int32} {v : Nat → Nat → Int32} {sf : Nat → Int64} {t : List Nat} (hT : MT t g h0) {s0 : PS} {h : Nat → Nat → Int32} {u : Nat → Int32} (hr0 : RM t h0 u0 6 s0 h u) (hf0 : s0.2.1 = none) (ho0 : OkS t s0) : Ct l yX11_opens cX11_opens 1 (some .boolean) 2 D tc tt [.ref (ad 0)] (hm ad tc g h el u v sf) (PI fun r w => r = 0 ∧ ∃ h' u', w = hm ad tc g h' el u' v sf ∧ RM t h0 u0 6 (rfs s0) h' u') := by
  refine Ct.of (by decide +kernel) (Nat.le_of_ble_eq_true rfl) ?_
  intro p e R s m args below meth c A C hr hlk
  refine E_aload_n C dX11_opens_0 0 rfl (mg_11_20 C dX11_opens_1 f_X11_175 ?_)
  refine Ev.seti (hr0.2.2.1 hf0) ?_
  refine E_bipush (v := 6) C dX11_opens_4 bp_6 (E_icmp_ne C 15 dX11_opens_6 (by decide) (fun c6 => ?_) (fun c6 => ?_))
  ·
    exact absurd rfl c6
  ·
    refine E_aload_n C dX11_opens_9 0 rfl (E_callVV C dX11_opens_10 mv_X11_178 0 _ (m_faulty hT hr0 ho0) rfl rfl rfl (by decide) (Nat.le_of_ble_eq_true rfl) ?_)
    rintro _ ⟨h1, u1, rfl, hr1⟩
    refine E_iconst (v := 0) C dX11_opens_13 ic_0 (E_zretI C hr hlk dX11_opens_14 rfl ?_)
    exact ⟨rfl, _, _, rfl, hr1⟩
set_option maxRecDepth 100000 in
set_option maxHeartbeats 4000000 in
theorem m_opens {l : Launch} {D : va_G} {tc tt ad : Nat → Nat} {g : Nat → Int32} {h0 : Nat → Nat → Int32} {el : Nat → Int64} {u0 : Nat → Int32} {v : Nat → Nat → Int32} {sf : Nat → Int64} {t : List Nat}  {op : Nat} {s0 : PS} {h : Nat → Nat → Int32} {u : Nat → Int32} (hr0 : RM t h0 u0 op s0 h u) (hf0 : s0.2.1 = none) (hop : op < 6) : Ct l yX11_opens cX11_opens 1 (some .boolean) 2 D tc tt [.ref (ad 0)] (hm ad tc g h el u v sf) (PI fun r w => r = 1 ∧ ∃ h' u', w = hm ad tc g h' el u' v sf ∧ RM t h0 u0 (op + 1) (adv s0) h' u') := by
  refine Ct.of (by decide +kernel) (Nat.le_of_ble_eq_true rfl) ?_
  intro p e R s m args below meth c A C hr hlk
  refine E_aload_n C dX11_opens_0 0 rfl (mg_11_20 C dX11_opens_1 f_X11_175 ?_)
  refine Ev.seti (hr0.2.2.1 hf0) ?_
  refine E_bipush (v := 6) C dX11_opens_4 bp_6 (E_icmp_ne C 15 dX11_opens_6 (by decide) (fun c6 => ?_) (fun c6 => ?_))
  ·
    refine E_aload_n C dX11_opens_15 0 rfl (E_dup C dX11_opens_16 rfl (mg_11_20 C dX11_opens_17 f_X11_175 ?_))
    refine Ev.seti (hr0.2.2.1 hf0) ?_
    refine E_iconst (v := 1) C dX11_opens_20 ic_1 (E_iadd C dX11_opens_21 ?_)
    refine Ev.seti (nI_1 _) ?_
    refine mp_11_20 C dX11_opens_22 fw_X11_175 (E_aload_n C dX11_opens_25 0 rfl (E_dup C dX11_opens_26 rfl (mg_11_18 C dX11_opens_27 f_X11_166 ?_)))
    refine Ev.seti (show _ = nI s0.1 from hr0.1) ?_
    refine E_iconst (v := 1) C dX11_opens_30 ic_1 (E_iadd C dX11_opens_31 ?_)
    refine Ev.seti (nI_1 _) ?_
    refine mp_11_18 C dX11_opens_32 fw_X11_166 (E_iconst (v := 1) C dX11_opens_35 ic_1 (E_zretI C hr hlk dX11_opens_36 rfl ?_))
    exact ⟨rfl, _, _, rfl, (hr0.op (fun _ => rfl)).adv⟩
  ·
    exact absurd ((nI_eq (b := 6) (by omega) (by decide)).mp c6) (by omega)
theorem rfs_c (s : PS) : (rfs s).2.2 = s.2.2 := by
  obtain ⟨a, f, c⟩ := s
  cases f <;> rfl
set_option maxRecDepth 100000 in
set_option maxHeartbeats 4000000 in
theorem m_figureD {l : Launch} {D : va_G} {tc tt ad : Nat → Nat} {g : Nat → Int32} {h0 : Nat → Nat → Int32} {el : Nat → Int64} {u0 : Nat → Int32} {v : Nat → Nat → Int32} {sf : Nat → Int64} {t : List Nat} (hT : MT t g h0) {op : Nat} {s0 : PS} {h : Nat → Nat → Int32} {u : Nat → Int32} (hr0 : RM t h0 u0 op s0 h u) (hf0 : s0.2.1 = none) (ho0 : OkS t s0) (hd0 : isD (ltr t s0) = true) : Ct l yX11_figure cX11_figure 3 none 2 D tc tt [.ref (ad 0)] (hm ad tc g h el u v sf) (PV fun w => ∃ h' u', w = hm ad tc g h' el u' v sf ∧ RM t h0 u0 op (numM t s0) h' u') := by
  have htl := hT.2.1
  have htx : ∀ (j x : Nat), t[j]? = some x → x < 256 := fun j x q => (hT.2.2 j x q).2
  have o1 := ho0.1
  have o2 := ho0.2.1
  have o3 := ho0.2.2
  have o4 := o3 hf0
  refine Ct.of (by decide +kernel) (Nat.le_of_ble_eq_true rfl) ?_
  intro p e R s m args below meth c A C hr hlk
  have K : ∀ (mm i vv : Nat) (s1 : PS) (h1 : Nat → Nat → Int32) (u1 : Nat → Int32), i ≤ 4 → 4 < i + mm → (i = 0 → isD (ltr t s1) = true) → s1.2 = s0.2 → s1.1 ≤ t.length → s0.1 + i ≤ s1.1 → RM t h0 u0 op s1 h1 u1 → numL t 4 0 s0 = numL t (4 - i) vv s1 → Ev p l e R s m args below meth c 0 0 (EQ below (PV fun w => ∃ h' u', w = hm ad tc g h' el u' v sf ∧ RM t h0 u0 op (numM t s0) h' u') args s D A) D A 3 (hm ad tc g h1 el u1 v sf) 4 [(2, .int (nI i)), (1, .int (nI vv)), (0, .ref (ad 0))] [] := by
    intro mm
    induction mm with
    | zero =>
      intro i vv s1 h1 u1 hi1 hi2
      exfalso; omega
    | succ mm ih =>
      intro i vv s1 h1 u1 hi1 hi2 hzd hs1 h1l hsi hr1 hres
      have hf1 : s1.2.1 = none := by rw [hs1]; exact hf0
      have hlc : s1.2.2.length = s0.2.2.length := by rw [hs1]
      have ho1 : OkS t s1 := ⟨h1l, fun x hx => (by rw [hf1] at hx; cases hx), fun _ => by omega⟩
      refine E_iload_n C dX11_figure_4 0 rfl (E_iconst (v := 4) C dX11_figure_5 ic_4 (E_icmp_ge C 52 dX11_figure_6 (by decide) (fun c6 => ?_) (fun c6 => ?_)))
      ·
        have hi : i = 4 := by
          rcases Nat.lt_or_ge i 4 with q | q
          · exact absurd (show nI 4 ≤ nI i from c6) (nI_ge q (by decide))
          · omega
        rw [hi] at hres
        have hi0 : ¬ i = 0 := by omega
        have hfin : numM t s0 = emt (if isD (ltr t s1) = true then rfs s1 else s1) 48 vv := by unfold numM; rw [hres]; try rfl
        refine E_iload_n C dX11_figure_52 0 rfl (E_if_eq C 70 dX11_figure_53 (by decide) (fun c53 => ?_) (fun c53 => ?_))
        ·
          exact absurd ((nI_eq (b := 0) (by omega) (by decide)).mp c53) hi0
        ·
          refine E_aload_n C dX11_figure_56 2 rfl (E_callVI C dX11_figure_57 mv_X11_181 0 _ (m_look hT hr1 h1l) rfl rfl rfl (by decide) (Nat.le_of_ble_eq_true rfl) ?_)
          rintro _ _ ⟨rfl, rfl⟩
          rw [ltr_n hf1]
          have hx1 := ltr_le htx s1
          refine E_bipush (v := 48) C dX11_figure_60 bp_48 (E_bipush (v := 57) C dX11_figure_62 bp_57 (E_callSI C dX11_figure_64 ms_X11_118 _ (m_in (mI (ltr t s1)) 48 57) rfl rfl (by decide) (Nat.le_of_ble_eq_true rfl) ?_))
          rintro _ _ ⟨rfl, rfl⟩
          rw [mI_Dx hx1]
          refine E_if_eq C 74 dX11_figure_67 (by decide) (fun c67 => ?_) (fun c67 => ?_)
          ·
            have hd67 := ite_0 c67
            rw [if_neg hd67] at hfin
            refine E_aload_n C dX11_figure_74 2 rfl (E_iconst (v := 1) C dX11_figure_75 ic_1 (E_iload_n C dX11_figure_76 1 rfl (E_callVV C dX11_figure_77 mv_X11_185 0 _ (m_addStep (aa := 48) (bb := vv) hr1 (by omega) (Or.inl rfl)) rfl rfl rfl (by decide) (Nat.le_of_ble_eq_true rfl) ?_)))
            rintro _ ⟨h3, u3, rfl, hr3⟩
            refine E_vretV C hr hlk dX11_figure_80 ?_
            rw [hfin]
            exact ⟨_, _, rfl, hr3⟩
          ·
            have hd67 := ite_1 c67
            rw [if_pos hd67] at hfin
            refine E_aload_n C dX11_figure_70 2 rfl (E_callVV C dX11_figure_71 mv_X11_178 0 _ (m_faulty hT hr1 ho1) rfl rfl rfl (by decide) (Nat.le_of_ble_eq_true rfl) ?_)
            rintro _ ⟨h2, u2, rfl, hr2⟩
            refine E_aload_n C dX11_figure_74 2 rfl (E_iconst (v := 1) C dX11_figure_75 ic_1 (E_iload_n C dX11_figure_76 1 rfl (E_callVV C dX11_figure_77 mv_X11_185 0 _ (m_addStep (aa := 48) (bb := vv) hr2 (by rw [rfs_c]; omega) (Or.inl rfl)) rfl rfl rfl (by decide) (Nat.le_of_ble_eq_true rfl) ?_)))
            rintro _ ⟨h3, u3, rfl, hr3⟩
            refine E_vretV C hr hlk dX11_figure_80 ?_
            rw [hfin]
            exact ⟨_, _, rfl, hr3⟩
      ·
        have hi : i < 4 := by
          rcases Nat.lt_or_ge i 4 with q | q
          · exact q
          · exact absurd (show nI 4 ≤ nI i from nI_le q (by omega)) c6
        rw [show 4 - i = (4 - (i + 1)) + 1 by omega] at hres
        refine E_aload_n C dX11_figure_9 2 rfl (E_callVI C dX11_figure_10 mv_X11_181 0 _ (m_look hT hr1 h1l) rfl rfl rfl (by decide) (Nat.le_of_ble_eq_true rfl) ?_)
        rintro _ _ ⟨rfl, rfl⟩
        rw [ltr_n hf1]
        have hx0 := ltr_le htx s1
        refine E_bipush (v := 48) C dX11_figure_13 bp_48 (E_bipush (v := 57) C dX11_figure_15 bp_57 (E_callSI C dX11_figure_17 ms_X11_118 _ (m_in (mI (ltr t s1)) 48 57) rfl rfl (by decide) (Nat.le_of_ble_eq_true rfl) ?_))
        rintro _ _ ⟨rfl, rfl⟩
        rw [mI_Dx hx0]
        refine E_if_eq C 52 dX11_figure_20 (by decide) (fun c20 => ?_) (fun c20 => ?_)
        ·
          have hd := ite_0 c20
          have hi0 : ¬ i = 0 := fun q => hd (hzd q)
          rw [numL_f hd] at hres
          have hfin : numM t s0 = emt (if isD (ltr t s1) = true then rfs s1 else s1) 48 vv := by unfold numM; rw [hres]; try rfl
          refine E_iload_n C dX11_figure_52 0 rfl (E_if_eq C 70 dX11_figure_53 (by decide) (fun c53 => ?_) (fun c53 => ?_))
          ·
            exact absurd ((nI_eq (b := 0) (by omega) (by decide)).mp c53) hi0
          ·
            refine E_aload_n C dX11_figure_56 2 rfl (E_callVI C dX11_figure_57 mv_X11_181 0 _ (m_look hT hr1 h1l) rfl rfl rfl (by decide) (Nat.le_of_ble_eq_true rfl) ?_)
            rintro _ _ ⟨rfl, rfl⟩
            rw [ltr_n hf1]
            have hx1 := ltr_le htx s1
            refine E_bipush (v := 48) C dX11_figure_60 bp_48 (E_bipush (v := 57) C dX11_figure_62 bp_57 (E_callSI C dX11_figure_64 ms_X11_118 _ (m_in (mI (ltr t s1)) 48 57) rfl rfl (by decide) (Nat.le_of_ble_eq_true rfl) ?_))
            rintro _ _ ⟨rfl, rfl⟩
            rw [mI_Dx hx1]
            refine E_if_eq C 74 dX11_figure_67 (by decide) (fun c67 => ?_) (fun c67 => ?_)
            ·
              have hd67 := ite_0 c67
              rw [if_neg hd67] at hfin
              refine E_aload_n C dX11_figure_74 2 rfl (E_iconst (v := 1) C dX11_figure_75 ic_1 (E_iload_n C dX11_figure_76 1 rfl (E_callVV C dX11_figure_77 mv_X11_185 0 _ (m_addStep (aa := 48) (bb := vv) hr1 (by omega) (Or.inl rfl)) rfl rfl rfl (by decide) (Nat.le_of_ble_eq_true rfl) ?_)))
              rintro _ ⟨h3, u3, rfl, hr3⟩
              refine E_vretV C hr hlk dX11_figure_80 ?_
              rw [hfin]
              exact ⟨_, _, rfl, hr3⟩
            ·
              have hd67 := ite_1 c67
              rw [if_pos hd67] at hfin
              refine E_aload_n C dX11_figure_70 2 rfl (E_callVV C dX11_figure_71 mv_X11_178 0 _ (m_faulty hT hr1 ho1) rfl rfl rfl (by decide) (Nat.le_of_ble_eq_true rfl) ?_)
              rintro _ ⟨h2, u2, rfl, hr2⟩
              refine E_aload_n C dX11_figure_74 2 rfl (E_iconst (v := 1) C dX11_figure_75 ic_1 (E_iload_n C dX11_figure_76 1 rfl (E_callVV C dX11_figure_77 mv_X11_185 0 _ (m_addStep (aa := 48) (bb := vv) hr2 (by rw [rfs_c]; omega) (Or.inl rfl)) rfl rfl rfl (by decide) (Nat.le_of_ble_eq_true rfl) ?_)))
              rintro _ ⟨h3, u3, rfl, hr3⟩
              refine E_vretV C hr hlk dX11_figure_80 ?_
              rw [hfin]
              exact ⟨_, _, rfl, hr3⟩
        ·
          have hd := ite_1 c20
          rw [numL_t hd] at hres
          have hd2 := of_decide_eq_true hd
          have hin := ltr_in (t := t) (s := s1) (by omega)
          refine E_bipush (v := 10) C dX11_figure_23 bp_10 (E_iload_n C dX11_figure_25 1 rfl (E_imul C dX11_figure_26 ?_))
          refine Ev.seti (show (10 : Int32) * nI vv = nI (10 * vv) from pk_mul 10 vv) ?_
          refine E_aload_n C dX11_figure_27 2 rfl (E_callVI C dX11_figure_28 mv_X11_181 0 _ (m_look hT hr1 h1l) rfl rfl rfl (by decide) (Nat.le_of_ble_eq_true rfl) ?_)
          rintro _ _ ⟨rfl, rfl⟩
          rw [ltr_n hf1]
          refine Ev.seti (mI_nat (show ltr t s1 < 128 by omega)) ?_
          refine E_iadd C dX11_figure_31 ?_
          refine Ev.seti (nI_add _ _) ?_
          refine E_bipush (v := 48) C dX11_figure_32 bp_48 (E_isub C dX11_figure_34 ?_)
          refine Ev.seti (show nI (10 * vv + ltr t s1) - 48 = nI (vv * 10 + ltr t s1 - 48) from (pk_sub (b := 48) (by omega)).trans (congrArg nI (by omega))) ?_
          refine E_istore_n C dX11_figure_35 (by decide) (E_iinc C dX11_figure_36 1 rfl (nI_1 i) (by decide) (E_aload_n C dX11_figure_39 2 rfl (E_dup C dX11_figure_40 rfl (mg_11_18 C dX11_figure_41 f_X11_166 ?_))))
          refine Ev.seti hr1.1 ?_
          refine E_iconst (v := 1) C dX11_figure_44 ic_1 (E_iadd C dX11_figure_45 ?_)
          refine Ev.seti (nI_1 _) ?_
          refine mp_11_18 C dX11_figure_46 fw_X11_166 (E_goto C 4 dX11_figure_49 (by decide) ?_)
          exact ih (i + 1) _ (adv s1) _ _ (by omega) (by omega) (fun q => by omega) hs1 hin.2.1 (by show s0.1 + (i + 1) ≤ s1.1 + 1; omega) hr1.adv hres
  refine E_iconst (v := 0) C dX11_figure_0 ic_0 (E_istore_n C dX11_figure_1 (by decide) (E_iconst (v := 0) C dX11_figure_2 ic_0 (E_istore_n C dX11_figure_3 (by decide) ?_)))
  exact Ev.sub [0, 1, 2] rfl (K 5 0 0 s0 h u (by decide) (by decide) (fun _ => hd0) rfl o1 (Nat.le_refl _) hr0 rfl)
set_option maxRecDepth 100000 in
set_option maxHeartbeats 4000000 in
theorem m_figureB {l : Launch} {D : va_G} {tc tt ad : Nat → Nat} {g : Nat → Int32} {h0 : Nat → Nat → Int32} {el : Nat → Int64} {u0 : Nat → Int32} {v : Nat → Nat → Int32} {sf : Nat → Int64} {t : List Nat} (hT : MT t g h0) {op : Nat} {s0 : PS} {h : Nat → Nat → Int32} {u : Nat → Int32} (hr0 : RM t h0 u0 op s0 h u) (hf0 : s0.2.1 = none) (ho0 : OkS t s0) (hd0 : ¬ isD (ltr t s0) = true) : Ct l yX11_figure cX11_figure 3 none 2 D tc tt [.ref (ad 0)] (hm ad tc g h el u v sf) (PV fun w => ∃ h' u', w = hm ad tc g h' el u' v sf ∧ RM t h0 u0 op (badM s0) h' u') := by
  have htl := hT.2.1
  have htx : ∀ (j x : Nat), t[j]? = some x → x < 256 := fun j x q => (hT.2.2 j x q).2
  have o1 := ho0.1
  have o2 := ho0.2.1
  have o3 := ho0.2.2
  have o4 := o3 hf0
  refine Ct.of (by decide +kernel) (Nat.le_of_ble_eq_true rfl) ?_
  intro p e R s m args below meth c A C hr hlk
  refine E_iconst (v := 0) C dX11_figure_0 ic_0 (E_istore_n C dX11_figure_1 (by decide) (E_iconst (v := 0) C dX11_figure_2 ic_0 (E_istore_n C dX11_figure_3 (by decide) (E_iload_n C dX11_figure_4 0 rfl (E_iconst (v := 4) C dX11_figure_5 ic_4 ?_)))))
  refine E_icmp_ge C 52 dX11_figure_6 (by decide) (fun c6 => ?_) (fun c6 => ?_)
  ·
    exact absurd (show nI 4 ≤ nI 0 from c6) (nI_ge (by decide) (by decide))
  ·
    refine E_aload_n C dX11_figure_9 2 rfl (E_callVI C dX11_figure_10 mv_X11_181 0 _ (m_look hT hr0 ho0.1) rfl rfl rfl (by decide) (Nat.le_of_ble_eq_true rfl) ?_)
    rintro _ _ ⟨rfl, rfl⟩
    rw [ltr_n hf0]
    have hx0 := ltr_le htx s0
    refine E_bipush (v := 48) C dX11_figure_13 bp_48 (E_bipush (v := 57) C dX11_figure_15 bp_57 (E_callSI C dX11_figure_17 ms_X11_118 _ (m_in (mI (ltr t s0)) 48 57) rfl rfl (by decide) (Nat.le_of_ble_eq_true rfl) ?_))
    rintro _ _ ⟨rfl, rfl⟩
    rw [mI_Dx hx0]
    refine E_if_eq C 52 dX11_figure_20 (by decide) (fun c20 => ?_) (fun c20 => ?_)
    ·
      refine E_iload_n C dX11_figure_52 0 rfl (E_if_eq C 70 dX11_figure_53 (by decide) (fun c53 => ?_) (fun c53 => ?_))
      ·
        refine E_aload_n C dX11_figure_70 2 rfl (E_callVV C dX11_figure_71 mv_X11_178 0 _ (m_faulty hT hr0 ho0) rfl rfl rfl (by decide) (Nat.le_of_ble_eq_true rfl) ?_)
        rintro _ ⟨h2, u2, rfl, hr2⟩
        refine E_aload_n C dX11_figure_74 2 rfl (E_iconst (v := 1) C dX11_figure_75 ic_1 (E_iload_n C dX11_figure_76 1 rfl (E_callVV C dX11_figure_77 mv_X11_185 0 _ (m_addStep (aa := 48) (bb := 0) hr2 (by rw [rfs_c]; omega) (Or.inl rfl)) rfl rfl rfl (by decide) (Nat.le_of_ble_eq_true rfl) ?_)))
        rintro _ ⟨h3, u3, rfl, hr3⟩
        refine E_vretV C hr hlk dX11_figure_80 ?_
        exact ⟨_, _, rfl, hr3⟩
      ·
        exact absurd rfl c53
    ·
      exact absurd (ite_1 c20) hd0
theorem bn_128 {a : Nat} (h : bnO a = true) : a < 128 := by
  have := of_decide_eq_true h
  omega
theorem ok_adv {t : List Nat} {s : PS} (h : OkS t s) (hf : s.2.1 = none) (hl : s.1 < t.length) : OkS t (adv s) := ⟨hl, fun x hx => (by rw [show (adv s).2.1 = none from hf] at hx; cases hx), fun _ => Nat.le_succ_of_le (h.2.2 hf)⟩
set_option maxRecDepth 100000 in
set_option maxHeartbeats 4000000 in
theorem m_product {l : Launch} {D : va_G} {tc tt ad : Nat → Nat} {g : Nat → Int32} {h0 : Nat → Nat → Int32} {el : Nat → Int64} {u0 : Nat → Int32} {v : Nat → Nat → Int32} {sf : Nat → Int64} {t : List Nat} (hT : MT t g h0) {op : Nat} {s0 : PS} {h : Nat → Nat → Int32} {u : Nat → Int32} (hr0 : RM t h0 u0 op s0 h u) (hf0 : s0.2.1 = none) (ho0 : OkS t s0) {sub : PS → PS} (hw : Wf t sub) {dd : Nat} (hdd : 2 ≤ dd) (ho : ∀ (s1 : PS) (h1 : Nat → Nat → Int32) (u1 : Nat → Int32), s1.2.1 = none → OkS t s1 → RM t h0 u0 op s1 h1 u1 → Ct l yX11_operand cX11_operand 2 none (dd) D tc tt [.ref (ad 0)] (hm ad tc g h1 el u1 v sf) (PV fun w => ∃ h' u', w = hm ad tc g h' el u' v sf ∧ RM t h0 u0 op (sub s1) h' u')) : Ct l yX11_product cX11_product 2 none (dd + 1) D tc tt [.ref (ad 0)] (hm ad tc g h el u v sf) (PV fun w => ∃ h' u', w = hm ad tc g h' el u' v sf ∧ RM t h0 u0 op (binF t okP sub s0) h' u') := by
  have htl := hT.2.1
  have htx : ∀ (j x : Nat), t[j]? = some x → x < 256 := fun j x q => (hT.2.2 j x q).2
  refine Ct.of (by decide +kernel) (Nat.le_of_ble_eq_true rfl) ?_
  intro p e R s m args below meth c A C hr hlk
  have K : ∀ (mm k1 : Nat) (s1 : PS) (h1 : Nat → Nat → Int32) (u1 : Nat → Int32), k1 < mm → (s1.2.1 = none → 120 < k1 + s1.1) → OkS t s1 → RM t h0 u0 op s1 h1 u1 → binF t okP sub s0 = binL t okP sub k1 s1 → Ev p l e R s m args below meth c 0 0 (EQ below (PV fun w => ∃ h' u', w = hm ad tc g h' el u' v sf ∧ RM t h0 u0 op (binF t okP sub s0) h' u') args s D A) D A 2 (hm ad tc g h1 el u1 v sf) 4 [(0, .ref (ad 0))] [] := by
    intro mm
    induction mm with
    | zero =>
      intro k1 s1 h1 u1 hk
      exfalso; omega
    | succ mm ih =>
      intro k1 s1 h1 u1 hk hkk ho1 hr1 hres
      by_cases hf1 : s1.2.1 = none
      ·
        refine E_aload_n C dX11_product_4 0 rfl (mg_11_19 C dX11_product_5 f_X11_169 ?_)
        refine Ev.seti (hr1.2.1.trans (fI_neg hf1)) ?_
        refine E_if_ge C 66 dX11_product_8 (by decide) (fun c8 => ?_) (fun c8 => ?_)
        ·
          exact absurd c8 (by decide)
        ·
          refine E_aload_n C dX11_product_11 0 rfl (E_callVI C dX11_product_12 mv_X11_181 0 _ (m_look hT hr1 ho1.1) rfl rfl rfl (by omega) (Nat.le_of_ble_eq_true rfl) ?_)
          rintro _ _ ⟨rfl, rfl⟩
          rw [ltr_n hf1]
          have hx1 := ltr_le htx s1
          refine E_bipush (v := 42) C dX11_product_15 bp_42 (E_icmp_eq C 38 dX11_product_17 (by decide) (fun c17 => ?_) (fun c17 => ?_))
          ·
            have hok : okP (ltr t s1) = true := decide_eq_true (Or.inl ((mI_eq (k := 42) hx1 (by decide)).mp c17))
            have hbn := okP_bn _ hok
            have hlt := (bnO_ne hbn).2.2.2.2.1
            have hin := ltr_in (t := t) (s := s1) hlt
            obtain ⟨k, rfl⟩ : ∃ k, k1 = k + 1 := ⟨k1 - 1, by have := hkk hf1; omega⟩
            rw [binL_t hok] at hres
            have hob := ok_bin hw hf1 ho1 hin.2.1 (ltr t s1)
            have hb128 := bn_128 hbn
            refine E_aload_n C dX11_product_38 0 rfl (E_callVI C dX11_product_39 mv_X11_181 0 _ (m_look hT hr1 ho1.1) rfl rfl rfl (by omega) (Nat.le_of_ble_eq_true rfl) ?_)
            rintro _ _ ⟨rfl, rfl⟩
            rw [ltr_n hf1]
            refine Ev.seti (mI_nat hb128) ?_
            refine E_istore_n C dX11_product_42 (by decide) (E_aload_n C dX11_product_43 1 rfl (E_dup C dX11_product_44 rfl (mg_11_18 C dX11_product_45 f_X11_166 ?_)))
            refine Ev.seti hr1.1 ?_
            refine E_iconst (v := 1) C dX11_product_48 ic_1 (E_iadd C dX11_product_49 ?_)
            refine Ev.seti (nI_1 _) ?_
            refine mp_11_18 C dX11_product_50 fw_X11_166 (E_aload_n C dX11_product_53 1 rfl (E_callVV C dX11_product_54 mv_X11_197 0 _ (ho _ _ _ (show (adv s1).2.1 = none from hf1) (ok_adv ho1 hf1 hin.2.1) hr1.adv) rfl rfl rfl (by omega) (Nat.le_of_ble_eq_true rfl) ?_))
            rintro _ ⟨h2, u2, rfl, hr2⟩
            refine E_aload_n C dX11_product_57 1 rfl (E_iload_n C dX11_product_58 0 rfl ?_)
            refine Ev.seti (mop_bn hbn) ?_
            refine E_iconst (v := 0) C dX11_product_59 ic_0 (E_callVV C dX11_product_60 mv_X11_185 0 _ (m_addStep (aa := (ltr t s1)) (bb := 0) hr2 (by have := hob.2.1; have := hob.1.1; omega) (Or.inr (Or.inr (Or.inr (Or.inr hbn))))) rfl rfl rfl (by omega) (Nat.le_of_ble_eq_true rfl) ?_)
            rintro _ ⟨h3, u3, rfl, hr3⟩
            refine E_goto C 4 dX11_product_63 (by decide) ?_
            exact Ev.sub [1] rfl (ih k _ _ _ (by omega) (fun z => by have z2 := hob.2.2.2 z; have := hkk hf1; omega) hob.2.2.1 hr3 hres)
          ·
            have n1 : ¬ ltr t s1 = 42 := fun q => c17 ((mI_eq (k := 42) hx1 (by decide)).mpr q)
            refine E_aload_n C dX11_product_20 0 rfl (E_callVI C dX11_product_21 mv_X11_181 0 _ (m_look hT hr1 ho1.1) rfl rfl rfl (by omega) (Nat.le_of_ble_eq_true rfl) ?_)
            rintro _ _ ⟨rfl, rfl⟩
            rw [ltr_n hf1]
            refine E_bipush (v := 47) C dX11_product_24 bp_47 (E_icmp_eq C 38 dX11_product_26 (by decide) (fun c26 => ?_) (fun c26 => ?_))
            ·
              have hok : okP (ltr t s1) = true := decide_eq_true (Or.inr (Or.inl ((mI_eq (k := 47) hx1 (by decide)).mp c26)))
              have hbn := okP_bn _ hok
              have hlt := (bnO_ne hbn).2.2.2.2.1
              have hin := ltr_in (t := t) (s := s1) hlt
              obtain ⟨k, rfl⟩ : ∃ k, k1 = k + 1 := ⟨k1 - 1, by have := hkk hf1; omega⟩
              rw [binL_t hok] at hres
              have hob := ok_bin hw hf1 ho1 hin.2.1 (ltr t s1)
              have hb128 := bn_128 hbn
              refine E_aload_n C dX11_product_38 0 rfl (E_callVI C dX11_product_39 mv_X11_181 0 _ (m_look hT hr1 ho1.1) rfl rfl rfl (by omega) (Nat.le_of_ble_eq_true rfl) ?_)
              rintro _ _ ⟨rfl, rfl⟩
              rw [ltr_n hf1]
              refine Ev.seti (mI_nat hb128) ?_
              refine E_istore_n C dX11_product_42 (by decide) (E_aload_n C dX11_product_43 1 rfl (E_dup C dX11_product_44 rfl (mg_11_18 C dX11_product_45 f_X11_166 ?_)))
              refine Ev.seti hr1.1 ?_
              refine E_iconst (v := 1) C dX11_product_48 ic_1 (E_iadd C dX11_product_49 ?_)
              refine Ev.seti (nI_1 _) ?_
              refine mp_11_18 C dX11_product_50 fw_X11_166 (E_aload_n C dX11_product_53 1 rfl (E_callVV C dX11_product_54 mv_X11_197 0 _ (ho _ _ _ (show (adv s1).2.1 = none from hf1) (ok_adv ho1 hf1 hin.2.1) hr1.adv) rfl rfl rfl (by omega) (Nat.le_of_ble_eq_true rfl) ?_))
              rintro _ ⟨h2, u2, rfl, hr2⟩
              refine E_aload_n C dX11_product_57 1 rfl (E_iload_n C dX11_product_58 0 rfl ?_)
              refine Ev.seti (mop_bn hbn) ?_
              refine E_iconst (v := 0) C dX11_product_59 ic_0 (E_callVV C dX11_product_60 mv_X11_185 0 _ (m_addStep (aa := (ltr t s1)) (bb := 0) hr2 (by have := hob.2.1; have := hob.1.1; omega) (Or.inr (Or.inr (Or.inr (Or.inr hbn))))) rfl rfl rfl (by omega) (Nat.le_of_ble_eq_true rfl) ?_)
              rintro _ ⟨h3, u3, rfl, hr3⟩
              refine E_goto C 4 dX11_product_63 (by decide) ?_
              exact Ev.sub [1] rfl (ih k _ _ _ (by omega) (fun z => by have z2 := hob.2.2.2 z; have := hkk hf1; omega) hob.2.2.1 hr3 hres)
            ·
              have n2 : ¬ ltr t s1 = 47 := fun q => c26 ((mI_eq (k := 47) hx1 (by decide)).mpr q)
              refine E_aload_n C dX11_product_29 0 rfl (E_callVI C dX11_product_30 mv_X11_181 0 _ (m_look hT hr1 ho1.1) rfl rfl rfl (by omega) (Nat.le_of_ble_eq_true rfl) ?_)
              rintro _ _ ⟨rfl, rfl⟩
              rw [ltr_n hf1]
              refine E_bipush (v := 37) C dX11_product_33 bp_37 (E_icmp_ne C 66 dX11_product_35 (by decide) (fun c35 => ?_) (fun c35 => ?_))
              ·
                have n3 : ¬ ltr t s1 = 37 := fun q => c35 ((mI_eq (k := 37) hx1 (by decide)).mpr q)
                have hno : ¬ okP (ltr t s1) = true := fun q => by have q2 := of_decide_eq_true q; omega
                have e : binF t okP sub s0 = s1 := by rw [hres]; cases k1 with | zero => rfl | succ k => exact binL_f hno
                refine E_vretV C hr hlk dX11_product_66 ?_
                rw [e]
                exact ⟨_, _, rfl, hr1⟩
              ·
                have hok : okP (ltr t s1) = true := decide_eq_true (Or.inr (Or.inr ((mI_eq (k := 37) hx1 (by decide)).mp c35)))
                have hbn := okP_bn _ hok
                have hlt := (bnO_ne hbn).2.2.2.2.1
                have hin := ltr_in (t := t) (s := s1) hlt
                obtain ⟨k, rfl⟩ : ∃ k, k1 = k + 1 := ⟨k1 - 1, by have := hkk hf1; omega⟩
                rw [binL_t hok] at hres
                have hob := ok_bin hw hf1 ho1 hin.2.1 (ltr t s1)
                have hb128 := bn_128 hbn
                refine E_aload_n C dX11_product_38 0 rfl (E_callVI C dX11_product_39 mv_X11_181 0 _ (m_look hT hr1 ho1.1) rfl rfl rfl (by omega) (Nat.le_of_ble_eq_true rfl) ?_)
                rintro _ _ ⟨rfl, rfl⟩
                rw [ltr_n hf1]
                refine Ev.seti (mI_nat hb128) ?_
                refine E_istore_n C dX11_product_42 (by decide) (E_aload_n C dX11_product_43 1 rfl (E_dup C dX11_product_44 rfl (mg_11_18 C dX11_product_45 f_X11_166 ?_)))
                refine Ev.seti hr1.1 ?_
                refine E_iconst (v := 1) C dX11_product_48 ic_1 (E_iadd C dX11_product_49 ?_)
                refine Ev.seti (nI_1 _) ?_
                refine mp_11_18 C dX11_product_50 fw_X11_166 (E_aload_n C dX11_product_53 1 rfl (E_callVV C dX11_product_54 mv_X11_197 0 _ (ho _ _ _ (show (adv s1).2.1 = none from hf1) (ok_adv ho1 hf1 hin.2.1) hr1.adv) rfl rfl rfl (by omega) (Nat.le_of_ble_eq_true rfl) ?_))
                rintro _ ⟨h2, u2, rfl, hr2⟩
                refine E_aload_n C dX11_product_57 1 rfl (E_iload_n C dX11_product_58 0 rfl ?_)
                refine Ev.seti (mop_bn hbn) ?_
                refine E_iconst (v := 0) C dX11_product_59 ic_0 (E_callVV C dX11_product_60 mv_X11_185 0 _ (m_addStep (aa := (ltr t s1)) (bb := 0) hr2 (by have := hob.2.1; have := hob.1.1; omega) (Or.inr (Or.inr (Or.inr (Or.inr hbn))))) rfl rfl rfl (by omega) (Nat.le_of_ble_eq_true rfl) ?_)
                rintro _ ⟨h3, u3, rfl, hr3⟩
                refine E_goto C 4 dX11_product_63 (by decide) ?_
                exact Ev.sub [1] rfl (ih k _ _ _ (by omega) (fun z => by have z2 := hob.2.2.2 z; have := hkk hf1; omega) hob.2.2.1 hr3 hres)
      ·
        obtain ⟨ff, hff⟩ := Option.ne_none_iff_exists'.mp hf1
        refine E_aload_n C dX11_product_4 0 rfl (mg_11_19 C dX11_product_5 f_X11_169 ?_)
        refine Ev.seti (show u1 19 = nI ff by rw [hr1.2.1, hff]; rfl) ?_
        refine E_if_ge C 66 dX11_product_8 (by decide) (fun c8 => ?_) (fun c8 => ?_)
        ·
          refine E_vretV C hr hlk dX11_product_66 ?_
          have e : binF t okP sub s0 = s1 := by rw [hres]; exact binL_some okP_bn hff k1
          rw [e]
          exact ⟨_, _, rfl, hr1⟩
        ·
          exact absurd (nI_pos' (by have := (ho1.2.1 ff hff).1; omega)) c8
  refine E_aload_n C dX11_product_0 0 rfl (E_callVV C dX11_product_1 mv_X11_197 0 _ (ho _ _ _ hf0 ho0 hr0) rfl rfl rfl (by omega) (Nat.le_of_ble_eq_true rfl) ?_)
  rintro _ ⟨h1, u1, rfl, hr1⟩
  exact K 121 120 _ _ _ (by decide) (fun z => by have := ((wf_len hw hf0 ho0.1).2.2.2 z).1; omega) (wf_ok hw hf0 ho0) hr1 rfl
set_option maxRecDepth 100000 in
set_option maxHeartbeats 4000000 in
theorem m_sum {l : Launch} {D : va_G} {tc tt ad : Nat → Nat} {g : Nat → Int32} {h0 : Nat → Nat → Int32} {el : Nat → Int64} {u0 : Nat → Int32} {v : Nat → Nat → Int32} {sf : Nat → Int64} {t : List Nat} (hT : MT t g h0) {op : Nat} {s0 : PS} {h : Nat → Nat → Int32} {u : Nat → Int32} (hr0 : RM t h0 u0 op s0 h u) (hf0 : s0.2.1 = none) (ho0 : OkS t s0) {sub : PS → PS} (hw : Wf t sub) {dd : Nat} (hdd : 2 ≤ dd) (hp : ∀ (s1 : PS) (h1 : Nat → Nat → Int32) (u1 : Nat → Int32), s1.2.1 = none → OkS t s1 → RM t h0 u0 op s1 h1 u1 → Ct l yX11_product cX11_product 2 none (dd) D tc tt [.ref (ad 0)] (hm ad tc g h1 el u1 v sf) (PV fun w => ∃ h' u', w = hm ad tc g h' el u' v sf ∧ RM t h0 u0 op (sub s1) h' u')) : Ct l yX11_sum cX11_sum 2 none (dd + 1) D tc tt [.ref (ad 0)] (hm ad tc g h el u v sf) (PV fun w => ∃ h' u', w = hm ad tc g h' el u' v sf ∧ RM t h0 u0 op (binF t okS sub s0) h' u') := by
  have htl := hT.2.1
  have htx : ∀ (j x : Nat), t[j]? = some x → x < 256 := fun j x q => (hT.2.2 j x q).2
  refine Ct.of (by decide +kernel) (Nat.le_of_ble_eq_true rfl) ?_
  intro p e R s m args below meth c A C hr hlk
  have K : ∀ (mm k1 : Nat) (s1 : PS) (h1 : Nat → Nat → Int32) (u1 : Nat → Int32), k1 < mm → (s1.2.1 = none → 120 < k1 + s1.1) → OkS t s1 → RM t h0 u0 op s1 h1 u1 → binF t okS sub s0 = binL t okS sub k1 s1 → Ev p l e R s m args below meth c 0 0 (EQ below (PV fun w => ∃ h' u', w = hm ad tc g h' el u' v sf ∧ RM t h0 u0 op (binF t okS sub s0) h' u') args s D A) D A 2 (hm ad tc g h1 el u1 v sf) 4 [(0, .ref (ad 0))] [] := by
    intro mm
    induction mm with
    | zero =>
      intro k1 s1 h1 u1 hk
      exfalso; omega
    | succ mm ih =>
      intro k1 s1 h1 u1 hk hkk ho1 hr1 hres
      by_cases hf1 : s1.2.1 = none
      ·
        refine E_aload_n C dX11_sum_4 0 rfl (mg_11_19 C dX11_sum_5 f_X11_169 ?_)
        refine Ev.seti (hr1.2.1.trans (fI_neg hf1)) ?_
        refine E_if_ge C 57 dX11_sum_8 (by decide) (fun c8 => ?_) (fun c8 => ?_)
        ·
          exact absurd c8 (by decide)
        ·
          refine E_aload_n C dX11_sum_11 0 rfl (E_callVI C dX11_sum_12 mv_X11_181 0 _ (m_look hT hr1 ho1.1) rfl rfl rfl (by omega) (Nat.le_of_ble_eq_true rfl) ?_)
          rintro _ _ ⟨rfl, rfl⟩
          rw [ltr_n hf1]
          have hx1 := ltr_le htx s1
          refine E_bipush (v := 43) C dX11_sum_15 bp_43 (E_icmp_eq C 29 dX11_sum_17 (by decide) (fun c17 => ?_) (fun c17 => ?_))
          ·
            have hok : okS (ltr t s1) = true := decide_eq_true (Or.inl ((mI_eq (k := 43) hx1 (by decide)).mp c17))
            have hbn := okS_bn _ hok
            have hlt := (bnO_ne hbn).2.2.2.2.1
            have hin := ltr_in (t := t) (s := s1) hlt
            obtain ⟨k, rfl⟩ : ∃ k, k1 = k + 1 := ⟨k1 - 1, by have := hkk hf1; omega⟩
            rw [binL_t hok] at hres
            have hob := ok_bin hw hf1 ho1 hin.2.1 (ltr t s1)
            have hb128 := bn_128 hbn
            refine E_aload_n C dX11_sum_29 0 rfl (E_callVI C dX11_sum_30 mv_X11_181 0 _ (m_look hT hr1 ho1.1) rfl rfl rfl (by omega) (Nat.le_of_ble_eq_true rfl) ?_)
            rintro _ _ ⟨rfl, rfl⟩
            rw [ltr_n hf1]
            refine Ev.seti (mI_nat hb128) ?_
            refine E_istore_n C dX11_sum_33 (by decide) (E_aload_n C dX11_sum_34 1 rfl (E_dup C dX11_sum_35 rfl (mg_11_18 C dX11_sum_36 f_X11_166 ?_)))
            refine Ev.seti hr1.1 ?_
            refine E_iconst (v := 1) C dX11_sum_39 ic_1 (E_iadd C dX11_sum_40 ?_)
            refine Ev.seti (nI_1 _) ?_
            refine mp_11_18 C dX11_sum_41 fw_X11_166 (E_aload_n C dX11_sum_44 1 rfl (E_callVV C dX11_sum_45 mv_X11_206 0 _ (hp _ _ _ (show (adv s1).2.1 = none from hf1) (ok_adv ho1 hf1 hin.2.1) hr1.adv) rfl rfl rfl (by omega) (Nat.le_of_ble_eq_true rfl) ?_))
            rintro _ ⟨h2, u2, rfl, hr2⟩
            refine E_aload_n C dX11_sum_48 1 rfl (E_iload_n C dX11_sum_49 0 rfl ?_)
            refine Ev.seti (mop_bn hbn) ?_
            refine E_iconst (v := 0) C dX11_sum_50 ic_0 (E_callVV C dX11_sum_51 mv_X11_185 0 _ (m_addStep (aa := (ltr t s1)) (bb := 0) hr2 (by have := hob.2.1; have := hob.1.1; omega) (Or.inr (Or.inr (Or.inr (Or.inr hbn))))) rfl rfl rfl (by omega) (Nat.le_of_ble_eq_true rfl) ?_)
            rintro _ ⟨h3, u3, rfl, hr3⟩
            refine E_goto C 4 dX11_sum_54 (by decide) ?_
            exact Ev.sub [1] rfl (ih k _ _ _ (by omega) (fun z => by have z2 := hob.2.2.2 z; have := hkk hf1; omega) hob.2.2.1 hr3 hres)
          ·
            have n1 : ¬ ltr t s1 = 43 := fun q => c17 ((mI_eq (k := 43) hx1 (by decide)).mpr q)
            refine E_aload_n C dX11_sum_20 0 rfl (E_callVI C dX11_sum_21 mv_X11_181 0 _ (m_look hT hr1 ho1.1) rfl rfl rfl (by omega) (Nat.le_of_ble_eq_true rfl) ?_)
            rintro _ _ ⟨rfl, rfl⟩
            rw [ltr_n hf1]
            refine E_bipush (v := 45) C dX11_sum_24 bp_45 (E_icmp_ne C 57 dX11_sum_26 (by decide) (fun c26 => ?_) (fun c26 => ?_))
            ·
              have n2 : ¬ ltr t s1 = 45 := fun q => c26 ((mI_eq (k := 45) hx1 (by decide)).mpr q)
              have hno : ¬ okS (ltr t s1) = true := fun q => by have q2 := of_decide_eq_true q; omega
              have e : binF t okS sub s0 = s1 := by rw [hres]; cases k1 with | zero => rfl | succ k => exact binL_f hno
              refine E_vretV C hr hlk dX11_sum_57 ?_
              rw [e]
              exact ⟨_, _, rfl, hr1⟩
            ·
              have hok : okS (ltr t s1) = true := decide_eq_true (Or.inr ((mI_eq (k := 45) hx1 (by decide)).mp c26))
              have hbn := okS_bn _ hok
              have hlt := (bnO_ne hbn).2.2.2.2.1
              have hin := ltr_in (t := t) (s := s1) hlt
              obtain ⟨k, rfl⟩ : ∃ k, k1 = k + 1 := ⟨k1 - 1, by have := hkk hf1; omega⟩
              rw [binL_t hok] at hres
              have hob := ok_bin hw hf1 ho1 hin.2.1 (ltr t s1)
              have hb128 := bn_128 hbn
              refine E_aload_n C dX11_sum_29 0 rfl (E_callVI C dX11_sum_30 mv_X11_181 0 _ (m_look hT hr1 ho1.1) rfl rfl rfl (by omega) (Nat.le_of_ble_eq_true rfl) ?_)
              rintro _ _ ⟨rfl, rfl⟩
              rw [ltr_n hf1]
              refine Ev.seti (mI_nat hb128) ?_
              refine E_istore_n C dX11_sum_33 (by decide) (E_aload_n C dX11_sum_34 1 rfl (E_dup C dX11_sum_35 rfl (mg_11_18 C dX11_sum_36 f_X11_166 ?_)))
              refine Ev.seti hr1.1 ?_
              refine E_iconst (v := 1) C dX11_sum_39 ic_1 (E_iadd C dX11_sum_40 ?_)
              refine Ev.seti (nI_1 _) ?_
              refine mp_11_18 C dX11_sum_41 fw_X11_166 (E_aload_n C dX11_sum_44 1 rfl (E_callVV C dX11_sum_45 mv_X11_206 0 _ (hp _ _ _ (show (adv s1).2.1 = none from hf1) (ok_adv ho1 hf1 hin.2.1) hr1.adv) rfl rfl rfl (by omega) (Nat.le_of_ble_eq_true rfl) ?_))
              rintro _ ⟨h2, u2, rfl, hr2⟩
              refine E_aload_n C dX11_sum_48 1 rfl (E_iload_n C dX11_sum_49 0 rfl ?_)
              refine Ev.seti (mop_bn hbn) ?_
              refine E_iconst (v := 0) C dX11_sum_50 ic_0 (E_callVV C dX11_sum_51 mv_X11_185 0 _ (m_addStep (aa := (ltr t s1)) (bb := 0) hr2 (by have := hob.2.1; have := hob.1.1; omega) (Or.inr (Or.inr (Or.inr (Or.inr hbn))))) rfl rfl rfl (by omega) (Nat.le_of_ble_eq_true rfl) ?_)
              rintro _ ⟨h3, u3, rfl, hr3⟩
              refine E_goto C 4 dX11_sum_54 (by decide) ?_
              exact Ev.sub [1] rfl (ih k _ _ _ (by omega) (fun z => by have z2 := hob.2.2.2 z; have := hkk hf1; omega) hob.2.2.1 hr3 hres)
      ·
        obtain ⟨ff, hff⟩ := Option.ne_none_iff_exists'.mp hf1
        refine E_aload_n C dX11_sum_4 0 rfl (mg_11_19 C dX11_sum_5 f_X11_169 ?_)
        refine Ev.seti (show u1 19 = nI ff by rw [hr1.2.1, hff]; rfl) ?_
        refine E_if_ge C 57 dX11_sum_8 (by decide) (fun c8 => ?_) (fun c8 => ?_)
        ·
          refine E_vretV C hr hlk dX11_sum_57 ?_
          have e : binF t okS sub s0 = s1 := by rw [hres]; exact binL_some okS_bn hff k1
          rw [e]
          exact ⟨_, _, rfl, hr1⟩
        ·
          exact absurd (nI_pos' (by have := (ho1.2.1 ff hff).1; omega)) c8
  refine E_aload_n C dX11_sum_0 0 rfl (E_callVV C dX11_sum_1 mv_X11_206 0 _ (hp _ _ _ hf0 ho0 hr0) rfl rfl rfl (by omega) (Nat.le_of_ble_eq_true rfl) ?_)
  rintro _ ⟨h1, u1, rfl, hr1⟩
  exact K 121 120 _ _ _ (by decide) (fun z => by have := ((wf_len hw hf0 ho0.1).2.2.2 z).1; omega) (wf_ok hw hf0 ho0) hr1 rfl
set_option maxRecDepth 100000 in
set_option maxHeartbeats 4000000 in
theorem m_both {l : Launch} {D : va_G} {tc tt ad : Nat → Nat} {g : Nat → Int32} {h0 : Nat → Nat → Int32} {el : Nat → Int64} {u0 : Nat → Int32} {v : Nat → Nat → Int32} {sf : Nat → Int64} {t : List Nat} (hT : MT t g h0) {op : Nat} {s0 : PS} {h : Nat → Nat → Int32} {u : Nat → Int32} (hr0 : RM t h0 u0 op s0 h u) (hf0 : s0.2.1 = none) (ho0 : OkS t s0) {sub : PS → PS} (hw : Wf t sub) {dd : Nat} (hdd : 2 ≤ dd) (hc : ∀ (s1 : PS) (h1 : Nat → Nat → Int32) (u1 : Nat → Int32), s1.2.1 = none → OkS t s1 → RM t h0 u0 op s1 h1 u1 → Ct l yX11_compared cX11_compared 2 none (dd) D tc tt [.ref (ad 0)] (hm ad tc g h1 el u1 v sf) (PV fun w => ∃ h' u', w = hm ad tc g h' el u' v sf ∧ RM t h0 u0 op (sub s1) h' u')) : Ct l yX11_both cX11_both 1 none (dd + 1) D tc tt [.ref (ad 0)] (hm ad tc g h el u v sf) (PV fun w => ∃ h' u', w = hm ad tc g h' el u' v sf ∧ RM t h0 u0 op (binF t okA sub s0) h' u') := by
  have htl := hT.2.1
  have htx : ∀ (j x : Nat), t[j]? = some x → x < 256 := fun j x q => (hT.2.2 j x q).2
  refine Ct.of (by decide +kernel) (Nat.le_of_ble_eq_true rfl) ?_
  intro p e R s m args below meth c A C hr hlk
  have K : ∀ (mm k1 : Nat) (s1 : PS) (h1 : Nat → Nat → Int32) (u1 : Nat → Int32), k1 < mm → (s1.2.1 = none → 120 < k1 + s1.1) → OkS t s1 → RM t h0 u0 op s1 h1 u1 → binF t okA sub s0 = binL t okA sub k1 s1 → Ev p l e R s m args below meth c 0 0 (EQ below (PV fun w => ∃ h' u', w = hm ad tc g h' el u' v sf ∧ RM t h0 u0 op (binF t okA sub s0) h' u') args s D A) D A 1 (hm ad tc g h1 el u1 v sf) 4 [(0, .ref (ad 0))] [] := by
    intro mm
    induction mm with
    | zero =>
      intro k1 s1 h1 u1 hk
      exfalso; omega
    | succ mm ih =>
      intro k1 s1 h1 u1 hk hkk ho1 hr1 hres
      by_cases hf1 : s1.2.1 = none
      ·
        refine E_aload_n C dX11_both_4 0 rfl (mg_11_19 C dX11_both_5 f_X11_169 ?_)
        refine Ev.seti (hr1.2.1.trans (fI_neg hf1)) ?_
        refine E_if_ge C 44 dX11_both_8 (by decide) (fun c8 => ?_) (fun c8 => ?_)
        ·
          exact absurd c8 (by decide)
        ·
          refine E_aload_n C dX11_both_11 0 rfl (E_callVI C dX11_both_12 mv_X11_181 0 _ (m_look hT hr1 ho1.1) rfl rfl rfl (by omega) (Nat.le_of_ble_eq_true rfl) ?_)
          rintro _ _ ⟨rfl, rfl⟩
          rw [ltr_n hf1]
          have hx1 := ltr_le htx s1
          refine E_bipush (v := 38) C dX11_both_15 bp_38 (E_icmp_ne C 44 dX11_both_17 (by decide) (fun c17 => ?_) (fun c17 => ?_))
          ·
            have n1 : ¬ ltr t s1 = 38 := fun q => c17 ((mI_eq (k := 38) hx1 (by decide)).mpr q)
            have hno : ¬ okA (ltr t s1) = true := fun q => by have q2 := of_decide_eq_true q; omega
            have e : binF t okA sub s0 = s1 := by rw [hres]; cases k1 with | zero => rfl | succ k => exact binL_f hno
            refine E_vretV C hr hlk dX11_both_44 ?_
            rw [e]
            exact ⟨_, _, rfl, hr1⟩
          ·
            have hx9 := (mI_eq (k := 38) hx1 (by decide)).mp c17
            have hok : okA (ltr t s1) = true := decide_eq_true (hx9)
            have hbn := okA_bn _ hok
            have hlt := (bnO_ne hbn).2.2.2.2.1
            have hin := ltr_in (t := t) (s := s1) hlt
            obtain ⟨k, rfl⟩ : ∃ k, k1 = k + 1 := ⟨k1 - 1, by have := hkk hf1; omega⟩
            rw [binL_t hok] at hres
            have hob := ok_bin hw hf1 ho1 hin.2.1 (ltr t s1)
            have hb128 := bn_128 hbn
            rw [hx9] at hres hob hbn
            refine E_aload_n C dX11_both_20 0 rfl (E_dup C dX11_both_21 rfl (mg_11_18 C dX11_both_22 f_X11_166 ?_))
            refine Ev.seti hr1.1 ?_
            refine E_iconst (v := 1) C dX11_both_25 ic_1 (E_iadd C dX11_both_26 ?_)
            refine Ev.seti (nI_1 _) ?_
            refine mp_11_18 C dX11_both_27 fw_X11_166 (E_aload_n C dX11_both_30 0 rfl (E_callVV C dX11_both_31 mv_X11_212 0 _ (hc _ _ _ (show (adv s1).2.1 = none from hf1) (ok_adv ho1 hf1 hin.2.1) hr1.adv) rfl rfl rfl (by omega) (Nat.le_of_ble_eq_true rfl) ?_))
            rintro _ ⟨h2, u2, rfl, hr2⟩
            refine E_aload_n C dX11_both_34 0 rfl (E_bipush (v := 38) C dX11_both_35 bp_38 ?_)
            refine Ev.seti (mop_bn (a := 38) hbn) ?_
            refine E_iconst (v := 0) C dX11_both_37 ic_0 (E_callVV C dX11_both_38 mv_X11_185 0 _ (m_addStep (aa := 38) (bb := 0) hr2 (by have := hob.2.1; have := hob.1.1; omega) (Or.inr (Or.inr (Or.inr (Or.inr hbn))))) rfl rfl rfl (by omega) (Nat.le_of_ble_eq_true rfl) ?_)
            rintro _ ⟨h3, u3, rfl, hr3⟩
            refine E_goto C 4 dX11_both_41 (by decide) ?_
            exact Ev.sub [0] rfl (ih k _ _ _ (by omega) (fun z => by have z2 := hob.2.2.2 z; have := hkk hf1; omega) hob.2.2.1 hr3 hres)
      ·
        obtain ⟨ff, hff⟩ := Option.ne_none_iff_exists'.mp hf1
        refine E_aload_n C dX11_both_4 0 rfl (mg_11_19 C dX11_both_5 f_X11_169 ?_)
        refine Ev.seti (show u1 19 = nI ff by rw [hr1.2.1, hff]; rfl) ?_
        refine E_if_ge C 44 dX11_both_8 (by decide) (fun c8 => ?_) (fun c8 => ?_)
        ·
          refine E_vretV C hr hlk dX11_both_44 ?_
          have e : binF t okA sub s0 = s1 := by rw [hres]; exact binL_some okA_bn hff k1
          rw [e]
          exact ⟨_, _, rfl, hr1⟩
        ·
          exact absurd (nI_pos' (by have := (ho1.2.1 ff hff).1; omega)) c8
  refine E_aload_n C dX11_both_0 0 rfl (E_callVV C dX11_both_1 mv_X11_212 0 _ (hc _ _ _ hf0 ho0 hr0) rfl rfl rfl (by omega) (Nat.le_of_ble_eq_true rfl) ?_)
  rintro _ ⟨h1, u1, rfl, hr1⟩
  exact K 121 120 _ _ _ (by decide) (fun z => by have := ((wf_len hw hf0 ho0.1).2.2.2 z).1; omega) (wf_ok hw hf0 ho0) hr1 rfl
set_option maxRecDepth 100000 in
set_option maxHeartbeats 4000000 in
theorem m_either {l : Launch} {D : va_G} {tc tt ad : Nat → Nat} {g : Nat → Int32} {h0 : Nat → Nat → Int32} {el : Nat → Int64} {u0 : Nat → Int32} {v : Nat → Nat → Int32} {sf : Nat → Int64} {t : List Nat} (hT : MT t g h0) {op : Nat} {s0 : PS} {h : Nat → Nat → Int32} {u : Nat → Int32} (hr0 : RM t h0 u0 op s0 h u) (hf0 : s0.2.1 = none) (ho0 : OkS t s0) {sub : PS → PS} (hw : Wf t sub) {dd : Nat} (hdd : 2 ≤ dd) (hb : ∀ (s1 : PS) (h1 : Nat → Nat → Int32) (u1 : Nat → Int32), s1.2.1 = none → OkS t s1 → RM t h0 u0 op s1 h1 u1 → Ct l yX11_both cX11_both 1 none (dd) D tc tt [.ref (ad 0)] (hm ad tc g h1 el u1 v sf) (PV fun w => ∃ h' u', w = hm ad tc g h' el u' v sf ∧ RM t h0 u0 op (sub s1) h' u')) : Ct l yX11_either cX11_either 1 none (dd + 1) D tc tt [.ref (ad 0)] (hm ad tc g h el u v sf) (PV fun w => ∃ h' u', w = hm ad tc g h' el u' v sf ∧ RM t h0 u0 op (binF t okO sub s0) h' u') := by
  have htl := hT.2.1
  have htx : ∀ (j x : Nat), t[j]? = some x → x < 256 := fun j x q => (hT.2.2 j x q).2
  refine Ct.of (by decide +kernel) (Nat.le_of_ble_eq_true rfl) ?_
  intro p e R s m args below meth c A C hr hlk
  have K : ∀ (mm k1 : Nat) (s1 : PS) (h1 : Nat → Nat → Int32) (u1 : Nat → Int32), k1 < mm → (s1.2.1 = none → 120 < k1 + s1.1) → OkS t s1 → RM t h0 u0 op s1 h1 u1 → binF t okO sub s0 = binL t okO sub k1 s1 → Ev p l e R s m args below meth c 0 0 (EQ below (PV fun w => ∃ h' u', w = hm ad tc g h' el u' v sf ∧ RM t h0 u0 op (binF t okO sub s0) h' u') args s D A) D A 1 (hm ad tc g h1 el u1 v sf) 4 [(0, .ref (ad 0))] [] := by
    intro mm
    induction mm with
    | zero =>
      intro k1 s1 h1 u1 hk
      exfalso; omega
    | succ mm ih =>
      intro k1 s1 h1 u1 hk hkk ho1 hr1 hres
      by_cases hf1 : s1.2.1 = none
      ·
        refine E_aload_n C dX11_either_4 0 rfl (mg_11_19 C dX11_either_5 f_X11_169 ?_)
        refine Ev.seti (hr1.2.1.trans (fI_neg hf1)) ?_
        refine E_if_ge C 44 dX11_either_8 (by decide) (fun c8 => ?_) (fun c8 => ?_)
        ·
          exact absurd c8 (by decide)
        ·
          refine E_aload_n C dX11_either_11 0 rfl (E_callVI C dX11_either_12 mv_X11_181 0 _ (m_look hT hr1 ho1.1) rfl rfl rfl (by omega) (Nat.le_of_ble_eq_true rfl) ?_)
          rintro _ _ ⟨rfl, rfl⟩
          rw [ltr_n hf1]
          have hx1 := ltr_le htx s1
          refine E_bipush (v := 124) C dX11_either_15 bp_124 (E_icmp_ne C 44 dX11_either_17 (by decide) (fun c17 => ?_) (fun c17 => ?_))
          ·
            have n1 : ¬ ltr t s1 = 124 := fun q => c17 ((mI_eq (k := 124) hx1 (by decide)).mpr q)
            have hno : ¬ okO (ltr t s1) = true := fun q => by have q2 := of_decide_eq_true q; omega
            have e : binF t okO sub s0 = s1 := by rw [hres]; cases k1 with | zero => rfl | succ k => exact binL_f hno
            refine E_vretV C hr hlk dX11_either_44 ?_
            rw [e]
            exact ⟨_, _, rfl, hr1⟩
          ·
            have hx9 := (mI_eq (k := 124) hx1 (by decide)).mp c17
            have hok : okO (ltr t s1) = true := decide_eq_true (hx9)
            have hbn := okO_bn _ hok
            have hlt := (bnO_ne hbn).2.2.2.2.1
            have hin := ltr_in (t := t) (s := s1) hlt
            obtain ⟨k, rfl⟩ : ∃ k, k1 = k + 1 := ⟨k1 - 1, by have := hkk hf1; omega⟩
            rw [binL_t hok] at hres
            have hob := ok_bin hw hf1 ho1 hin.2.1 (ltr t s1)
            have hb128 := bn_128 hbn
            rw [hx9] at hres hob hbn
            refine E_aload_n C dX11_either_20 0 rfl (E_dup C dX11_either_21 rfl (mg_11_18 C dX11_either_22 f_X11_166 ?_))
            refine Ev.seti hr1.1 ?_
            refine E_iconst (v := 1) C dX11_either_25 ic_1 (E_iadd C dX11_either_26 ?_)
            refine Ev.seti (nI_1 _) ?_
            refine mp_11_18 C dX11_either_27 fw_X11_166 (E_aload_n C dX11_either_30 0 rfl (E_callVV C dX11_either_31 mv_X11_215 0 _ (hb _ _ _ (show (adv s1).2.1 = none from hf1) (ok_adv ho1 hf1 hin.2.1) hr1.adv) rfl rfl rfl (by omega) (Nat.le_of_ble_eq_true rfl) ?_))
            rintro _ ⟨h2, u2, rfl, hr2⟩
            refine E_aload_n C dX11_either_34 0 rfl (E_bipush (v := 124) C dX11_either_35 bp_124 ?_)
            refine Ev.seti (mop_bn (a := 124) hbn) ?_
            refine E_iconst (v := 0) C dX11_either_37 ic_0 (E_callVV C dX11_either_38 mv_X11_185 0 _ (m_addStep (aa := 124) (bb := 0) hr2 (by have := hob.2.1; have := hob.1.1; omega) (Or.inr (Or.inr (Or.inr (Or.inr hbn))))) rfl rfl rfl (by omega) (Nat.le_of_ble_eq_true rfl) ?_)
            rintro _ ⟨h3, u3, rfl, hr3⟩
            refine E_goto C 4 dX11_either_41 (by decide) ?_
            exact Ev.sub [0] rfl (ih k _ _ _ (by omega) (fun z => by have z2 := hob.2.2.2 z; have := hkk hf1; omega) hob.2.2.1 hr3 hres)
      ·
        obtain ⟨ff, hff⟩ := Option.ne_none_iff_exists'.mp hf1
        refine E_aload_n C dX11_either_4 0 rfl (mg_11_19 C dX11_either_5 f_X11_169 ?_)
        refine Ev.seti (show u1 19 = nI ff by rw [hr1.2.1, hff]; rfl) ?_
        refine E_if_ge C 44 dX11_either_8 (by decide) (fun c8 => ?_) (fun c8 => ?_)
        ·
          refine E_vretV C hr hlk dX11_either_44 ?_
          have e : binF t okO sub s0 = s1 := by rw [hres]; exact binL_some okO_bn hff k1
          rw [e]
          exact ⟨_, _, rfl, hr1⟩
        ·
          exact absurd (nI_pos' (by have := (ho1.2.1 ff hff).1; omega)) c8
  refine E_aload_n C dX11_either_0 0 rfl (E_callVV C dX11_either_1 mv_X11_215 0 _ (hb _ _ _ hf0 ho0 hr0) rfl rfl rfl (by omega) (Nat.le_of_ble_eq_true rfl) ?_)
  rintro _ ⟨h1, u1, rfl, hr1⟩
  exact K 121 120 _ _ _ (by decide) (fun z => by have := ((wf_len hw hf0 ho0.1).2.2.2 z).1; omega) (wf_ok hw hf0 ho0) hr1 rfl
set_option maxRecDepth 100000 in
set_option maxHeartbeats 4000000 in
theorem m_compared {l : Launch} {D : va_G} {tc tt ad : Nat → Nat} {g : Nat → Int32} {h0 : Nat → Nat → Int32} {el : Nat → Int64} {u0 : Nat → Int32} {v : Nat → Nat → Int32} {sf : Nat → Int64} {t : List Nat} (hT : MT t g h0) {op : Nat} {s0 : PS} {h : Nat → Nat → Int32} {u : Nat → Int32} (hr0 : RM t h0 u0 op s0 h u) (hf0 : s0.2.1 = none) (ho0 : OkS t s0) {sub : PS → PS} (hw : Wf t sub) {dd : Nat} (hdd : 2 ≤ dd) (hs : ∀ (s1 : PS) (h1 : Nat → Nat → Int32) (u1 : Nat → Int32), s1.2.1 = none → OkS t s1 → RM t h0 u0 op s1 h1 u1 → Ct l yX11_sum cX11_sum 2 none (dd) D tc tt [.ref (ad 0)] (hm ad tc g h1 el u1 v sf) (PV fun w => ∃ h' u', w = hm ad tc g h' el u' v sf ∧ RM t h0 u0 op (sub s1) h' u')) : Ct l yX11_compared cX11_compared 2 none (dd + 1) D tc tt [.ref (ad 0)] (hm ad tc g h el u v sf) (PV fun w => ∃ h' u', w = hm ad tc g h' el u' v sf ∧ RM t h0 u0 op (cmpF t sub s0) h' u') := by
  have htl := hT.2.1
  have htx : ∀ (j x : Nat), t[j]? = some x → x < 256 := fun j x q => (hT.2.2 j x q).2
  refine Ct.of (by decide +kernel) (Nat.le_of_ble_eq_true rfl) ?_
  intro p e R s m args below meth c A C hr hlk
  refine E_aload_n C dX11_compared_0 0 rfl (E_callVV C dX11_compared_1 mv_X11_209 0 _ (hs _ _ _ hf0 ho0 hr0) rfl rfl rfl (by omega) (Nat.le_of_ble_eq_true rfl) ?_)
  rintro _ ⟨h1, u1, rfl, hr1⟩
  have ho1 := wf_ok hw hf0 ho0
  have hx0 := ltr_le htx ((sub s0).1, none, [])
  refine E_aload_n C dX11_compared_4 0 rfl (E_callVI C dX11_compared_5 mv_X11_181 0 _ (m_look hT hr1 ho1.1) rfl rfl rfl (by omega) (Nat.le_of_ble_eq_true rfl) ?_)
  rintro _ _ ⟨rfl, rfl⟩
  by_cases hf1 : (sub s0).2.1 = none
  ·
    rw [ltr_n hf1]
    have hx1 := ltr_le htx (sub s0)
    refine E_istore_n C dX11_compared_8 (by decide) (E_aload_n C dX11_compared_9 1 rfl (mg_11_19 C dX11_compared_10 f_X11_169 ?_))
    refine Ev.seti (hr1.2.1.trans (fI_neg hf1)) ?_
    refine E_if_ge C 34 dX11_compared_13 (by decide) (fun c13 => ?_) (fun c13 => ?_)
    ·
      exact absurd c13 (by decide)
    ·
      refine E_iload_n C dX11_compared_16 0 rfl (E_bipush (v := 60) C dX11_compared_17 bp_60 (E_icmp_eq C 35 dX11_compared_19 (by decide) (fun c19 => ?_) (fun c19 => ?_)))
      ·
        have hok : okC (ltr t (sub s0)) = true := decide_eq_true (Or.inl ((mI_eq (k := 60) hx1 (by decide)).mp c19))
        have hbn := okC_bn _ hok
        have hlt := (bnO_ne hbn).2.2.2.2.1
        have hin := ltr_in (t := t) (s := sub s0) hlt
        have hob := ok_bin hw hf1 ho1 hin.2.1 (ltr t (sub s0))
        have hb128 := bn_128 hbn
        have e : cmpF t sub s0 = emt (sub (adv (sub s0))) (ltr t (sub s0)) 0 := if_pos hok
        refine E_aload_n C dX11_compared_35 1 rfl (E_dup C dX11_compared_36 rfl (mg_11_18 C dX11_compared_37 f_X11_166 ?_))
        refine Ev.seti hr1.1 ?_
        refine E_iconst (v := 1) C dX11_compared_40 ic_1 (E_iadd C dX11_compared_41 ?_)
        refine Ev.seti (nI_1 _) ?_
        refine mp_11_18 C dX11_compared_42 fw_X11_166 (E_aload_n C dX11_compared_45 1 rfl (E_callVV C dX11_compared_46 mv_X11_209 0 _ (hs _ _ _ (show (adv (sub s0)).2.1 = none from hf1) (ok_adv ho1 hf1 hin.2.1) hr1.adv) rfl rfl rfl (by omega) (Nat.le_of_ble_eq_true rfl) ?_))
        rintro _ ⟨h2, u2, rfl, hr2⟩
        refine E_aload_n C dX11_compared_49 1 rfl (E_iload_n C dX11_compared_50 0 rfl ?_)
        refine Ev.seti ((mI_nat hb128).trans (mop_bn hbn)) ?_
        refine E_iconst (v := 0) C dX11_compared_51 ic_0 (E_callVV C dX11_compared_52 mv_X11_185 0 _ (m_addStep (aa := (ltr t (sub s0))) (bb := 0) hr2 (by have := hob.2.1; have := hob.1.1; omega) (Or.inr (Or.inr (Or.inr (Or.inr hbn))))) rfl rfl rfl (by omega) (Nat.le_of_ble_eq_true rfl) ?_)
        rintro _ ⟨h3, u3, rfl, hr3⟩
        refine E_vretV C hr hlk dX11_compared_55 ?_
        rw [e]
        exact ⟨_, _, rfl, hr3⟩
      ·
        have n1 : ¬ ltr t (sub s0) = 60 := fun q => c19 ((mI_eq (k := 60) hx1 (by decide)).mpr q)
        refine E_iload_n C dX11_compared_22 0 rfl (E_bipush (v := 61) C dX11_compared_23 bp_61 (E_icmp_eq C 35 dX11_compared_25 (by decide) (fun c25 => ?_) (fun c25 => ?_)))
        ·
          have hok : okC (ltr t (sub s0)) = true := decide_eq_true (Or.inr (Or.inl ((mI_eq (k := 61) hx1 (by decide)).mp c25)))
          have hbn := okC_bn _ hok
          have hlt := (bnO_ne hbn).2.2.2.2.1
          have hin := ltr_in (t := t) (s := sub s0) hlt
          have hob := ok_bin hw hf1 ho1 hin.2.1 (ltr t (sub s0))
          have hb128 := bn_128 hbn
          have e : cmpF t sub s0 = emt (sub (adv (sub s0))) (ltr t (sub s0)) 0 := if_pos hok
          refine E_aload_n C dX11_compared_35 1 rfl (E_dup C dX11_compared_36 rfl (mg_11_18 C dX11_compared_37 f_X11_166 ?_))
          refine Ev.seti hr1.1 ?_
          refine E_iconst (v := 1) C dX11_compared_40 ic_1 (E_iadd C dX11_compared_41 ?_)
          refine Ev.seti (nI_1 _) ?_
          refine mp_11_18 C dX11_compared_42 fw_X11_166 (E_aload_n C dX11_compared_45 1 rfl (E_callVV C dX11_compared_46 mv_X11_209 0 _ (hs _ _ _ (show (adv (sub s0)).2.1 = none from hf1) (ok_adv ho1 hf1 hin.2.1) hr1.adv) rfl rfl rfl (by omega) (Nat.le_of_ble_eq_true rfl) ?_))
          rintro _ ⟨h2, u2, rfl, hr2⟩
          refine E_aload_n C dX11_compared_49 1 rfl (E_iload_n C dX11_compared_50 0 rfl ?_)
          refine Ev.seti ((mI_nat hb128).trans (mop_bn hbn)) ?_
          refine E_iconst (v := 0) C dX11_compared_51 ic_0 (E_callVV C dX11_compared_52 mv_X11_185 0 _ (m_addStep (aa := (ltr t (sub s0))) (bb := 0) hr2 (by have := hob.2.1; have := hob.1.1; omega) (Or.inr (Or.inr (Or.inr (Or.inr hbn))))) rfl rfl rfl (by omega) (Nat.le_of_ble_eq_true rfl) ?_)
          rintro _ ⟨h3, u3, rfl, hr3⟩
          refine E_vretV C hr hlk dX11_compared_55 ?_
          rw [e]
          exact ⟨_, _, rfl, hr3⟩
        ·
          have n2 : ¬ ltr t (sub s0) = 61 := fun q => c25 ((mI_eq (k := 61) hx1 (by decide)).mpr q)
          refine E_iload_n C dX11_compared_28 0 rfl (E_bipush (v := 62) C dX11_compared_29 bp_62 (E_icmp_eq C 35 dX11_compared_31 (by decide) (fun c31 => ?_) (fun c31 => ?_)))
          ·
            have hok : okC (ltr t (sub s0)) = true := decide_eq_true (Or.inr (Or.inr ((mI_eq (k := 62) hx1 (by decide)).mp c31)))
            have hbn := okC_bn _ hok
            have hlt := (bnO_ne hbn).2.2.2.2.1
            have hin := ltr_in (t := t) (s := sub s0) hlt
            have hob := ok_bin hw hf1 ho1 hin.2.1 (ltr t (sub s0))
            have hb128 := bn_128 hbn
            have e : cmpF t sub s0 = emt (sub (adv (sub s0))) (ltr t (sub s0)) 0 := if_pos hok
            refine E_aload_n C dX11_compared_35 1 rfl (E_dup C dX11_compared_36 rfl (mg_11_18 C dX11_compared_37 f_X11_166 ?_))
            refine Ev.seti hr1.1 ?_
            refine E_iconst (v := 1) C dX11_compared_40 ic_1 (E_iadd C dX11_compared_41 ?_)
            refine Ev.seti (nI_1 _) ?_
            refine mp_11_18 C dX11_compared_42 fw_X11_166 (E_aload_n C dX11_compared_45 1 rfl (E_callVV C dX11_compared_46 mv_X11_209 0 _ (hs _ _ _ (show (adv (sub s0)).2.1 = none from hf1) (ok_adv ho1 hf1 hin.2.1) hr1.adv) rfl rfl rfl (by omega) (Nat.le_of_ble_eq_true rfl) ?_))
            rintro _ ⟨h2, u2, rfl, hr2⟩
            refine E_aload_n C dX11_compared_49 1 rfl (E_iload_n C dX11_compared_50 0 rfl ?_)
            refine Ev.seti ((mI_nat hb128).trans (mop_bn hbn)) ?_
            refine E_iconst (v := 0) C dX11_compared_51 ic_0 (E_callVV C dX11_compared_52 mv_X11_185 0 _ (m_addStep (aa := (ltr t (sub s0))) (bb := 0) hr2 (by have := hob.2.1; have := hob.1.1; omega) (Or.inr (Or.inr (Or.inr (Or.inr hbn))))) rfl rfl rfl (by omega) (Nat.le_of_ble_eq_true rfl) ?_)
            rintro _ ⟨h3, u3, rfl, hr3⟩
            refine E_vretV C hr hlk dX11_compared_55 ?_
            rw [e]
            exact ⟨_, _, rfl, hr3⟩
          ·
            have n3 : ¬ ltr t (sub s0) = 62 := fun q => c31 ((mI_eq (k := 62) hx1 (by decide)).mpr q)
            have e : cmpF t sub s0 = sub s0 := if_neg (fun q => by have q2 := of_decide_eq_true q; omega)
            refine E_vretV C hr hlk dX11_compared_34 ?_
            rw [e]
            exact ⟨_, _, rfl, hr1⟩
  ·
    obtain ⟨ff, hff⟩ := Option.ne_none_iff_exists'.mp hf1
    refine E_istore_n C dX11_compared_8 (by decide) (E_aload_n C dX11_compared_9 1 rfl (mg_11_19 C dX11_compared_10 f_X11_169 ?_))
    refine Ev.seti (show u1 19 = nI ff by rw [hr1.2.1, hff]; rfl) ?_
    refine E_if_ge C 34 dX11_compared_13 (by decide) (fun c13 => ?_) (fun c13 => ?_)
    ·
      refine E_vretV C hr hlk dX11_compared_34 ?_
      have e : cmpF t sub s0 = sub s0 := if_neg (fun q => by rw [ltr_some hff] at q; exact absurd q (by decide))
      rw [e]
      exact ⟨_, _, rfl, hr1⟩
    ·
      exact absurd (nI_pos' (by have := (ho1.2.1 ff hff).1; omega)) c13
theorem m_eitOf {l : Launch} {D : va_G} {tc tt ad : Nat → Nat} {g : Nat → Int32} {h0 : Nat → Nat → Int32} {el : Nat → Int64} {u0 : Nat → Int32} {v : Nat → Nat → Int32} {sf : Nat → Int64} {t : List Nat} (hT : MT t g h0) {op : Nat} {sub : PS → PS} (hw : Wf t sub) {dd : Nat} (hdd : 2 ≤ dd) (ho : ∀ (s1 : PS) (h1 : Nat → Nat → Int32) (u1 : Nat → Int32), s1.2.1 = none → OkS t s1 → RM t h0 u0 op s1 h1 u1 → Ct l yX11_operand cX11_operand 2 none (dd) D tc tt [.ref (ad 0)] (hm ad tc g h1 el u1 v sf) (PV fun w => ∃ h' u', w = hm ad tc g h' el u' v sf ∧ RM t h0 u0 op (sub s1) h' u')) : ∀ (s1 : PS) (h1 : Nat → Nat → Int32) (u1 : Nat → Int32), s1.2.1 = none → OkS t s1 → RM t h0 u0 op s1 h1 u1 → Ct l yX11_either cX11_either 1 none (dd + 1 + 1 + 1 + 1 + 1) D tc tt [.ref (ad 0)] (hm ad tc g h1 el u1 v sf) (PV fun w => ∃ h' u', w = hm ad tc g h' el u' v sf ∧ RM t h0 u0 op (eitF t sub s1) h' u') :=
  have w1 := wf_binF okP_bn hw
  have w2 := wf_binF okS_bn w1
  have w3 := wf_cmpF w2
  have w4 := wf_binF okA_bn w3
  fun _ _ _ f5 o5 h5 => m_either hT h5 f5 o5 w4 (by omega) (fun _ _ _ f4 o4 h4 => m_both hT h4 f4 o4 w3 (by omega) (fun _ _ _ f3 o3 h3 => m_compared hT h3 f3 o3 w2 (by omega) (fun _ _ _ f2 o2 h2 => m_sum hT h2 f2 o2 w1 (by omega) (fun _ _ _ f1 o1 h1 => m_product hT h1 f1 o1 hw hdd ho))))
