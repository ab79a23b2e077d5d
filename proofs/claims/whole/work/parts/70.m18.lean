/-! the reference: the lines of a text, its law -/
theorem nar_s : ∀ k, k < 300 → vp_nar .short (nI k) = nI k := by decide +kernel
theorem i2s_n : ∀ k, k < 300 → (nI k).toInt16.toInt32 = nI k := by decide +kernel
theorem stp_app (ls : List (CD × CD)) (q : CD × CD) : stp (ls ++ [q]) = stp ls ++ (q.1 ++ q.2) := by
  unfold stp
  rw [List.flatMap_append]
  show _ ++ ((q.1 ++ q.2) ++ []) = _
  rw [List.append_nil]
theorem stp_le : ∀ ls : List (CD × CD), (stp ls).length + ls.length ≤ (ls.flatMap flt).length
  | [] => Nat.le_refl _
  | q :: r => by
    have ih := stp_le r
    have e1 : stp (q :: r) = (q.1 ++ q.2) ++ stp r := rfl
    have e2 : (q :: r).flatMap flt = flt q ++ r.flatMap flt := rfl
    rw [e1, e2, List.length_append, List.length_append, List.length_append, List.length_cons]
    have : q.1.length + q.2.length + 1 ≤ (flt q).length := by
      unfold flt
      split
      · rw [List.length_append]
        show _ ≤ _ + 1
        omega
      · rw [List.length_append, List.length_cons, List.length_append]
        show _ ≤ _ + (_ + 1 + 1)
        omega
    omega
theorem AtM.appL {h : Nat → Nat → Int32} {i : Nat} {c d : CD} (m : AtM h i (c ++ d)) : AtM h i c := fun j a b e => m j a b (by
  rw [List.getElem?_append_left (List.getElem?_eq_some_iff.mp e).1]
  exact e)
theorem AtM.appR {h : Nat → Nat → Int32} {i : Nat} {c d : CD} (m : AtM h i (c ++ d)) : AtM h (i + c.length) d := fun j a b e => by
  have := m (c.length + j) a b (by
    rw [List.getElem?_append_right (Nat.le_add_right _ _), Nat.add_sub_cancel_left]
    exact e)
  rw [Nat.add_assoc]
  exact this
theorem LnAt.copy {cb lb cb' lb' : Nat} {h h' : Nat → Nat → Int32} : ∀ (ls : List (CD × CD)) (s i : Nat), LnAt cb lb h ls s i → (∀ j, j < ls.length → h' 25 (lb' + i + j) = h 25 (lb + i + j) ∧ h' 26 (lb' + i + j) = h 26 (lb + i + j)) → AtM h' (cb' + s) (stp ls) → LnAt cb' lb' h' ls s i
  | [], _, _, _, _, _ => trivial
  | q :: r, s, i, m, hh, ha => by
    obtain ⟨m1, m2, m3, m4⟩ := m
    have e1 : stp (q :: r) = (q.1 ++ q.2) ++ stp r := rfl
    rw [e1] at ha
    have z := hh 0 (by rw [List.length_cons]; omega)
    refine ⟨z.1.trans m1, z.2.trans m2, ha.appL, LnAt.copy r _ _ m4 (fun j hj => ?_) ?_⟩
    · have := hh (j + 1) (by rw [List.length_cons]; omega)
      rw [show lb' + i + (j + 1) = lb' + (i + 1) + j by omega, show lb + i + (j + 1) = lb + (i + 1) + j by omega] at this
      exact this
    · have := ha.appR
      rw [List.length_append, show cb' + s + (q.1.length + q.2.length) = cb' + (s + q.1.length + q.2.length) by omega] at this
      exact this
theorem LnAt.snoc {cb lb : Nat} {h : Nat → Nat → Int32} {q : CD × CD} : ∀ (ls : List (CD × CD)) (s i : Nat), LnAt cb lb h ls s i → h 25 (lb + i + ls.length) = nI (s + (stp ls).length + q.1.length) → h 26 (lb + i + ls.length) = nI (s + (stp ls).length + q.1.length + q.2.length) → AtM h (cb + s + (stp ls).length) (q.1 ++ q.2) → LnAt cb lb h (ls ++ [q]) s i
  | [], _, _, _, h1, h2, h3 => ⟨h1, h2, h3, trivial⟩
  | z :: r, s, i, m, h1, h2, h3 => by
    obtain ⟨m1, m2, m3, m4⟩ := m
    have e1 : (stp (z :: r)).length = z.1.length + z.2.length + (stp r).length := by
      show ((z.1 ++ z.2) ++ stp r).length = _
      rw [List.length_append, List.length_append]
    rw [e1] at h1 h2 h3
    rw [List.length_cons] at h1 h2
    refine ⟨m1, m2, m3, LnAt.snoc r _ _ m4 ?_ ?_ ?_⟩
    · rw [show lb + (i + 1) + r.length = lb + i + (r.length + 1) by omega, h1]
      exact congrArg nI (by omega)
    · rw [show lb + (i + 1) + r.length = lb + i + (r.length + 1) by omega, h2]
      exact congrArg nI (by omega)
    · rw [show cb + (s + z.1.length + z.2.length) + (stp r).length = cb + s + (z.1.length + z.2.length + (stp r).length) by omega]
      exact h3
theorem LnAt.get {cb lb : Nat} {h : Nat → Nat → Int32} : ∀ (ls : List (CD × CD)) (s i : Nat), LnAt cb lb h ls s i → ∀ j, j < ls.length → ∃ x y, x ≤ s + (stp ls).length ∧ y ≤ s + (stp ls).length ∧ h 25 (lb + i + j) = nI x ∧ h 26 (lb + i + j) = nI y
  | [], _, _, _, _, hj => absurd hj (Nat.not_lt_zero _)
  | q :: r, s, i, m, j, hj => by
    obtain ⟨m1, m2, m3, m4⟩ := m
    have e1 : (stp (q :: r)).length = q.1.length + q.2.length + (stp r).length := by
      show ((q.1 ++ q.2) ++ stp r).length = _
      rw [List.length_append, List.length_append]
    rw [e1]
    cases j with
    | zero => exact ⟨_, _, by omega, by omega, m1, m2⟩
    | succ j =>
      obtain ⟨x, y, k1, k2, k3, k4⟩ := LnAt.get r _ _ m4 j (by rw [List.length_cons] at hj; omega)
      rw [show lb + (i + 1) + j = lb + i + (j + 1) by omega] at k3 k4
      exact ⟨x, y, by omega, by omega, k3, k4⟩
theorem exO_ok {nm : Nat → Int32} : ∀ (c : CD) (st st' : List Int32), exO nm c st = some st' → ∀ q ∈ c, okop q.1
  | [], _, _, _, q, hq => by cases hq
  | z :: r, st, st', h, q, hq => by
    have h' : (match ex1 nm z.1 z.2 st with | some st' => exO nm r st' | none => none) = some st' := h
    cases e : ex1 nm z.1 z.2 st with
    | none => rw [e] at h'; cases h'
    | some y =>
      rw [e] at h'
      rcases List.mem_cons.mp hq with rfl | hq
      · unfold ex1 at e
        unfold okop
        by_cases z1 : q.1 = 48
        · exact Or.inl z1
        · by_cases z2 : q.1 = 110
          · exact Or.inr (Or.inl z2)
          · by_cases z3 : q.1 = 33
            · exact Or.inr (Or.inr (Or.inl z3))
            · by_cases z4 : q.1 = 126
              · exact Or.inr (Or.inr (Or.inr (Or.inl z4)))
              · by_cases z5 : bnO q.1 = true
                · exact Or.inr (Or.inr (Or.inr (Or.inr z5)))
                · rw [if_neg z1, if_neg z2, if_neg z3, if_neg z4, if_neg z5] at e
                  cases e
      · exact exO_ok r y st' h' q hq
theorem gc_ok {c : CD} (h : GC c) : ∀ q ∈ c, okop q.1 := by
  obtain ⟨x, hx⟩ := h (fun _ => 0)
  exact exO_ok c [] _ (hx [])
theorem ln_ok {ls : List (CD × CD)} (h : ∀ q ∈ ls, LnG q) : ∀ q ∈ stp ls, okop q.1 := by
  intro q hq
  obtain ⟨z, hz, hq⟩ := List.mem_flatMap.mp hq
  obtain ⟨k1, k2⟩ := h z hz
  rcases List.mem_append.mp hq with hq | hq
  · rcases k1 with k1 | k1
    · rw [k1] at hq
      cases hq
    · exact gc_ok k1 q hq
  · exact gc_ok k2 q hq
/-- the place of the law is as it was -/
def KP (h0 h : Nat → Nat → Int32) : Prop := (∀ k, (k < 22 ∨ 26 < k) → h k = h0 k) ∧ (∀ j, j < 130 → h 22 j = h0 22 j ∧ h 23 j = h0 23 j) ∧ (∀ j, j < 61 → h 25 j = h0 25 j ∧ h 26 j = h0 26 j) ∧ h 24 0 = h0 24 0
/-- the reference's registers hold the lines read so far -/
def RML (h0 : Nat → Nat → Int32) (X : LXS) (h : Nat → Nat → Int32) (u : Nat → Int32) : Prop := u 18 = nI X.1.1 ∧ u 19 = fI X.1.2 ∧ KP h0 h ∧ (X.1.2 = none → u 20 = nI 0 ∧ u 21 = nI (stp X.2).length ∧ AtM h 130 (stp X.2) ∧ h 24 1 = nI X.2.length ∧ LnAt 130 61 h X.2 0 0)
/-- what a line changes before its end -/
def H4 (i : Nat) (h h4 : Nat → Nat → Int32) : Prop := (∀ k, (k < 22 ∨ 26 < k) → h4 k = h k) ∧ (∀ j, j < 130 → h4 22 j = h 22 j ∧ h4 23 j = h 23 j) ∧ (∀ j, j ≠ i → h4 25 j = h 25 j) ∧ h4 26 = h 26 ∧ h4 24 = h 24
theorem H4.w25 {i : Nat} {h h1 : Nat → Nat → Int32} (m : H4 i h h1) (x : Int32) : H4 i h (va_up h1 25 (upd (h1 25) i x)) := by
  obtain ⟨m1, m2, m3, m4, m5⟩ := m
  exact ⟨fun k hk => (vun (by omega)).trans (m1 k hk), m2, fun j hj => (if_neg hj).trans (m3 j hj), m4, m5⟩
theorem H4.rm {i : Nat} {h h1 h2 : Nat → Nat → Int32} {t : List Nat} {u u2 : Nat → Int32} {op : Nat} {s : PS} (m : H4 i h h1) (r : RM t h1 u op s h2 u2) : H4 i h h2 := by
  obtain ⟨m1, m2, m3, m4, m5⟩ := m
  obtain ⟨-, -, -, -, -, r6, r7, -⟩ := r
  refine ⟨fun k hk => (r6 k (by omega) (by omega)).trans (m1 k hk), fun j hj => ⟨(r7 j hj).1.trans (m2 j hj).1, (r7 j hj).2.trans (m2 j hj).2⟩, fun j hj => ?_, (r6 26 (by decide) (by decide)).trans m4, (r6 24 (by decide) (by decide)).trans m5⟩
  rw [r6 25 (by decide) (by decide)]
  exact m3 j hj
theorem H4.refl (i : Nat) (h : Nat → Nat → Int32) : H4 i h h := ⟨fun _ _ => rfl, fun _ _ => ⟨rfl, rfl⟩, fun _ _ => rfl, rfl, rfl⟩
theorem RML.next {h0 h h4 : Nat → Nat → Int32} {u4 : Nat → Int32} {ls : List (CD × CD)} {q1 q2 : CD} {a' : Nat} {f' : Option Nat} {x : Int32} (kp : KP h0 h) (hls : ls.length < 61) (hl : LnAt 130 61 h ls 0 0) (m : H4 (61 + ls.length) h h4) (u1 : u4 18 = nI a') (u2 : u4 19 = fI f') (hn : f' = none → u4 20 = nI 0 ∧ u4 21 = nI ((stp ls).length + (q1.length + q2.length)) ∧ x = nI ((stp ls).length + (q1.length + q2.length)) ∧ AtM h4 130 (stp ls ++ (q1 ++ q2)) ∧ h4 25 (61 + ls.length) = nI ((stp ls).length + q1.length)) : RML h0 ((a', f'), ls ++ [(q1, q2)]) (va_up (va_up h4 26 (upd (h4 26) (61 + ls.length) x)) 24 (upd (h4 24) 1 (nI (ls.length + 1)))) u4 := by
  obtain ⟨m1, m2, m3, m4, m5⟩ := m
  obtain ⟨k1, k2, k3, k4⟩ := kp
  refine ⟨u1, u2, ⟨fun k hk => ?_, fun j hj => ?_, fun j hj => ?_, ?_⟩, fun hf => ?_⟩
  · exact (vun (by omega)).trans ((vun (by omega)).trans ((m1 k hk).trans (k1 k hk)))
  · exact ⟨(m2 j hj).1.trans (k2 j hj).1, (m2 j hj).2.trans (k2 j hj).2⟩
  · refine ⟨(m3 j (by omega)).trans (k3 j hj).1, ?_⟩
    show upd (h4 26) (61 + ls.length) x j = _
    rw [m4]
    exact (if_neg (by omega)).trans (k3 j hj).2
  · show upd (h4 24) 1 (nI (ls.length + 1)) 0 = _
    rw [m5]
    exact k4
  · obtain ⟨n1, n2, n3, n4, n5⟩ := hn hf
    have e1 : (stp (ls ++ [(q1, q2)])).length = (stp ls).length + (q1.length + q2.length) := by
      rw [stp_app, List.length_append, List.length_append]
    refine ⟨n1, ?_, ?_, ?_, ?_⟩
    · rw [n2]
      exact congrArg nI e1.symm
    · show AtM _ 130 (stp (ls ++ [(q1, q2)]))
      rw [stp_app]
      exact n4
    · show nI (ls.length + 1) = nI (ls ++ [(q1, q2)]).length
      rw [List.length_append]
      rfl
    · have z : LnAt 130 61 (va_up (va_up h4 26 (upd (h4 26) (61 + ls.length) x)) 24 (upd (h4 24) 1 (nI (ls.length + 1)))) ls 0 0 := by
        refine LnAt.copy ls 0 0 hl (fun j hj => ⟨m3 _ (by omega), ?_⟩) ?_
        · show upd (h4 26) (61 + ls.length) x (61 + 0 + j) = _
          rw [m4]
          exact if_neg (by omega)
        · exact n4.appL
      refine LnAt.snoc ls 0 0 z ?_ ?_ ?_
      · show h4 25 (61 + 0 + ls.length) = nI (0 + (stp ls).length + q1.length)
        rw [Nat.zero_add]
        exact n5
      · show upd (h4 26) (61 + ls.length) x (61 + 0 + ls.length) = nI (0 + (stp ls).length + q1.length + q2.length)
        exact (if_pos (by omega)).trans (n3.trans (congrArg nI (by omega)))
      · exact n4.appR
theorem ex_pre {t : List Nat} {a : Nat} {f : Option Nat} (c : CD) {r : PS} (h : exM t (a, f, []) = r) : exM t (a, f, c) = pre c r := by
  rw [pre_nil a f c, (wf_exM t).1, h]
theorem ltr_pre (t : List Nat) (c : CD) (s : PS) : ltr t (pre c s) = ltr t s := rfl
theorem H4.T {i : Nat} {h h4 : Nat → Nat → Int32} {t : List Nat} {g : Nat → Int32} (m : H4 i h h4) (r : MT t g h) : MT t g h4 := r.kept rfl (m.1 16 (by decide))
theorem RM.same {t : List Nat} {h0 h : Nat → Nat → Int32} {u0 u : Nat → Int32} {op : Nat} {s : PS} (r : RM t h0 u0 op s h u) : RM t h u op s h u := by
  obtain ⟨r1, r2, r3, r4, r5, r6, r7, r8⟩ := r
  exact ⟨r1, r2, r3, r4, r5, fun _ _ _ => rfl, fun _ _ => ⟨rfl, rfl⟩, fun _ _ => rfl⟩
set_option maxRecDepth 100000 in
set_option maxHeartbeats 4000000 in
theorem m_line {l : Launch} {D : va_G} {tc tt ad : Nat → Nat} {g : Nat → Int32} {h0 : Nat → Nat → Int32} {el : Nat → Int64} {v : Nat → Nat → Int32} {sf : Nat → Int64} {t : List Nat} (hT : MT t g h0) {a : Nat} {ls : List (CD × CD)} {h : Nat → Nat → Int32} {u : Nat → Int32} (hq : RML h0 ((a, none), ls) h u) (ha : a ≤ t.length) (h2_ : (ls.flatMap flt).length ≤ a) (h3_ : 2 * ls.length ≤ a) {r9 w9 : PS} (er : exM t (a, none, []) = r9) (ew : exM t (r9.1 + 1, none, []) = w9) : Ct l yX11_line cX11_line 2 none 45 D tc tt [.ref (ad 0)] (hm ad tc g h el u v sf) (PV fun w' => ∃ h' u', w' = hm ad tc g h' el u' v sf ∧ RML h0 (if ltr t r9 = 63 then ((w9.1, w9.2.1), ls ++ [(r9.2.2, w9.2.2)]) else ((r9.1, r9.2.1), ls ++ [([], r9.2.2)])) h' u') := by
  have htl := hT.2.1
  have htx : ∀ (j x : Nat), t[j]? = some x → x < 256 := fun j x q => (hT.2.2 j x q).2
  obtain ⟨q1, q2, kp, qn⟩ := hq
  obtain ⟨q3, q21, qA, q4, q5⟩ := qn rfl
  have hs := stp_le ls
  have hTh : MT t g h := hT.kept rfl (kp.1 16 (by decide))
  have ok := (wf_exM t).2.2 a ha
  rw [er] at ok
  obtain ⟨o1, o2, o3, o4⟩ := ok
  have hls : ls.length ≤ 60 := by omega
  have hc0 : (stp ls).length ≤ 120 := by omega
  refine Ct.of (by decide +kernel) (Nat.le_of_ble_eq_true rfl) ?_
  intro p e R s m args below meth c A C hr hlk
  refine E_bipush (v := 61) C dX11_line_0 bp_61 (E_aload_n C dX11_line_2 0 rfl (mg_11_24 C dX11_line_3 f_X11_59 (E_iconst (v := 1) C dX11_line_6 ic_1 (ma_15 C dX11_line_7 (vinN (k := 1) (N := 2) (by decide)) ?_))))
  refine Ev.seti (show _ = nI ls.length from q4) ?_
  refine E_iadd C dX11_line_8 ?_
  refine Ev.seti (nI_add 61 _) ?_
  refine E_istore_n C dX11_line_9 (by decide) (E_aload_n C dX11_line_10 1 rfl (mg_11_25 C dX11_line_11 f_X11_62 (E_iload_n C dX11_line_14 0 rfl (E_aload_n C dX11_line_15 1 rfl (mg_11_21 C dX11_line_16 f_X11_172 ?_)))))
  refine Ev.seti (show _ = nI (stp ls).length from q21) ?_
  refine E_i2s C dX11_line_19 ?_
  refine Ev.seti (i2s_n _ (by omega)) ?_
  refine ms_16 C dX11_line_20 (vinN (by omega)) ?_
  rw [nI_clamp (show 61 + ls.length < 2 ^ 31 by omega), nar_s (stp ls).length (by omega)]
  refine E_aload_n C dX11_line_21 1 rfl (E_callVV C dX11_line_22 mv_X11_200 0 _ (m_exM (s0 := (a, none, stp ls)) (((H4.refl (61 + ls.length) h).w25 (nI (stp ls).length)).T hTh) ⟨q1, q2, fun _ => q3, q21, qA, fun _ _ _ => rfl, fun _ _ => ⟨rfl, rfl⟩, fun _ _ => rfl⟩ rfl ⟨ha, fun x q => (by cases q), fun _ => (by show (stp ls).length ≤ a; omega)⟩) rfl rfl rfl (by decide) (Nat.le_of_ble_eq_true rfl) ?_)
  rintro _ ⟨h2, u2, rfl, hr2⟩
  rw [ex_pre _ er] at hr2
  have H2 := ((H4.refl (61 + ls.length) h).w25 (nI (stp ls).length)).rm hr2
  have hT2 : MT t g h2 := H2.T hTh
  have h25 : h2 25 (61 + ls.length) = nI (stp ls).length := (congrFun (hr2.2.2.2.2.2.1 25 (by decide) (by decide)) _).trans (if_pos rfl)
  by_cases hf : r9.2.1 = none
  ·
    obtain ⟨p1, p2, p3⟩ := o4 hf
    have hlen : (pre (stp ls) r9).2.2.length = (stp ls).length + r9.2.2.length := List.length_append
    have hfp : (pre (stp ls) r9).2.1 = none := hf
    refine E_aload_n C dX11_line_25 1 rfl (mg_11_19 C dX11_line_26 f_X11_169 ?_)
    refine Ev.seti (hr2.2.1.trans (fI_neg hf)) ?_
    refine E_if_ge C 66 dX11_line_29 (by decide) (fun c29 => ?_) (fun c29 => ?_)
    ·
      exact absurd c29 (by decide)
    ·
      refine E_aload_n C dX11_line_32 1 rfl (E_callVI C dX11_line_33 mv_X11_181 0 _ (m_look hT2 (hr2.same) (show r9.1 ≤ _ from o1)) rfl rfl rfl (by omega) (Nat.le_of_ble_eq_true rfl) ?_)
      rintro _ _ ⟨rfl, rfl⟩
      rw [show ltr t ((pre (stp ls) r9).1, none, []) = ltr t r9 from ltr_n (s := r9) hf]
      have hx := ltr_le htx r9
      refine E_bipush (v := 63) C dX11_line_36 bp_63 (E_icmp_ne C 66 dX11_line_38 (by decide) (fun c38 => ?_) (fun c38 => ?_))
      ·
        have h63 : ¬ ltr t r9 = 63 := fun q => c38 ((mI_eq (k := 63) hx (by decide)).mpr q)
        refine E_aload_n C dX11_line_66 1 rfl (mg_11_26 C dX11_line_67 f_X11_66 (E_iload_n C dX11_line_70 0 rfl (E_aload_n C dX11_line_71 1 rfl (mg_11_21 C dX11_line_72 f_X11_172 ?_))))
        refine Ev.seti (show _ = nI (pre (stp ls) r9).2.2.length from hr2.2.2.2.1) ?_
        refine E_i2s C dX11_line_75 ?_
        refine Ev.seti (i2s_n (pre (stp ls) r9).2.2.length (by omega)) ?_
        refine ms_17 C dX11_line_76 (vinN (by omega)) ?_
        rw [nI_clamp (show 61 + ls.length < 2 ^ 31 by omega), nar_s (pre (stp ls) r9).2.2.length (by omega)]
        refine E_aload_n C dX11_line_77 1 rfl (mg_11_24 C dX11_line_78 f_X11_59 (E_iconst (v := 1) C dX11_line_81 ic_1 (E_dup2 C dX11_line_82 rfl rfl (ma_15 C dX11_line_83 (vinN (k := 1) (N := 2) (by decide)) ?_))))
        refine Ev.seti (show _ = nI ls.length from (congrFun H2.2.2.2.2 1).trans q4) ?_
        refine E_iconst (v := 1) C dX11_line_84 ic_1 ?_
        refine E_iadd C dX11_line_85 ?_
        refine Ev.seti (nI_1 _) ?_
        refine ms_15 C dX11_line_86 (vinN (k := 1) (N := 2) (by decide)) (E_vretV C hr hlk dX11_line_87 ?_)
        rw [if_neg h63]
        refine ⟨_, _, rfl, RML.next kp (by omega) q5 H2 hr2.1 hr2.2.1 ?_⟩
        intro _
        refine ⟨hr2.2.2.1 hf, ?_, ?_, hr2.2.2.2.2.1, h25⟩
        · show _ = nI ((stp ls).length + (0 + r9.2.2.length))
          rw [Nat.zero_add]
          exact hr2.2.2.2.1.trans (congrArg nI hlen)
        · show _ = nI ((stp ls).length + (0 + r9.2.2.length))
          rw [Nat.zero_add]
          exact congrArg nI hlen
      ·
        have h63 := (mI_eq (k := 63) hx (by decide)).mp c38
        have hin := ltr_in (t := t) (s := r9) (by omega)
        refine E_aload_n C dX11_line_41 1 rfl (E_dup C dX11_line_42 rfl (mg_11_18 C dX11_line_43 f_X11_166 ?_))
        refine Ev.seti (show _ = nI r9.1 from hr2.1) ?_
        refine E_iconst (v := 1) C dX11_line_46 ic_1 (E_iadd C dX11_line_47 ?_)
        refine Ev.seti (nI_1 _) ?_
        refine mp_11_18 C dX11_line_48 fw_X11_166 (E_aload_n C dX11_line_51 1 rfl (mg_11_25 C dX11_line_52 f_X11_62 (E_iload_n C dX11_line_55 0 rfl (E_aload_n C dX11_line_56 1 rfl (mg_11_21 C dX11_line_57 f_X11_172 ?_)))))
        refine Ev.seti (show _ = nI (pre (stp ls) r9).2.2.length from hr2.2.2.2.1) ?_
        refine E_i2s C dX11_line_60 ?_
        refine Ev.seti (i2s_n (pre (stp ls) r9).2.2.length (by omega)) ?_
        refine ms_16 C dX11_line_61 (vinN (by omega)) ?_
        rw [nI_clamp (show 61 + ls.length < 2 ^ 31 by omega), nar_s (pre (stp ls) r9).2.2.length (by omega)]
        refine E_aload_n C dX11_line_62 1 rfl (E_callVV C dX11_line_63 mv_X11_200 0 _ (m_exM (s0 := (r9.1 + 1, none, (pre (stp ls) r9).2.2)) ((H2.w25 (nI (pre (stp ls) r9).2.2.length)).T hTh) ⟨rfl, hr2.2.1.trans (fI_neg hf), fun _ => hr2.2.2.1 hf, hr2.2.2.2.1, hr2.2.2.2.2.1, fun _ _ _ => rfl, fun _ _ => ⟨rfl, rfl⟩, fun _ _ => rfl⟩ rfl ⟨hin.2.1, fun x q => (by cases q), fun _ => (by show (pre (stp ls) r9).2.2.length ≤ r9.1 + 1; omega)⟩) rfl rfl rfl (by decide) (Nat.le_of_ble_eq_true rfl) ?_)
        rintro _ ⟨h4, u4, rfl, hr4⟩
        rw [ex_pre _ ew] at hr4
        have H4_ := (H2.w25 (nI (pre (stp ls) r9).2.2.length)).rm hr4
        have h45 : h4 25 (61 + ls.length) = nI ((stp ls).length + r9.2.2.length) := ((congrFun (hr4.2.2.2.2.2.1 25 (by decide) (by decide)) _).trans (if_pos rfl)).trans (congrArg nI hlen)
        have ok4 := (wf_exM t).2.2 (r9.1 + 1) hin.2.1
        rw [ew] at ok4
        obtain ⟨y1, y2, y3, y4⟩ := ok4
        have hl4 : (pre (pre (stp ls) r9).2.2 w9).2.2.length = (stp ls).length + (r9.2.2.length + w9.2.2.length) := by
          have z : (pre (pre (stp ls) r9).2.2 w9).2.2.length = (pre (stp ls) r9).2.2.length + w9.2.2.length := List.length_append
          omega
        have hb4 : (pre (pre (stp ls) r9).2.2 w9).2.2.length ≤ 121 := by
          cases hx4 : w9.2.1 with
          | none => have := (y4 hx4).2.2; omega
          | some x => have := (y3 x hx4).2; omega
        refine E_aload_n C dX11_line_66 1 rfl (mg_11_26 C dX11_line_67 f_X11_66 (E_iload_n C dX11_line_70 0 rfl (E_aload_n C dX11_line_71 1 rfl (mg_11_21 C dX11_line_72 f_X11_172 ?_))))
        refine Ev.seti (show _ = nI (pre (pre (stp ls) r9).2.2 w9).2.2.length from hr4.2.2.2.1) ?_
        refine E_i2s C dX11_line_75 ?_
        refine Ev.seti (i2s_n (pre (pre (stp ls) r9).2.2 w9).2.2.length (by omega)) ?_
        refine ms_17 C dX11_line_76 (vinN (by omega)) ?_
        rw [nI_clamp (show 61 + ls.length < 2 ^ 31 by omega), nar_s (pre (pre (stp ls) r9).2.2 w9).2.2.length (by omega)]
        refine E_aload_n C dX11_line_77 1 rfl (mg_11_24 C dX11_line_78 f_X11_59 (E_iconst (v := 1) C dX11_line_81 ic_1 (E_dup2 C dX11_line_82 rfl rfl (ma_15 C dX11_line_83 (vinN (k := 1) (N := 2) (by decide)) ?_))))
        refine Ev.seti (show _ = nI ls.length from (congrFun H4_.2.2.2.2 1).trans q4) ?_
        refine E_iconst (v := 1) C dX11_line_84 ic_1 ?_
        refine E_iadd C dX11_line_85 ?_
        refine Ev.seti (nI_1 _) ?_
        refine ms_15 C dX11_line_86 (vinN (k := 1) (N := 2) (by decide)) (E_vretV C hr hlk dX11_line_87 ?_)
        rw [if_pos h63]
        refine ⟨_, _, rfl, RML.next kp (by omega) q5 H4_ hr4.1 hr4.2.1 ?_⟩
        intro hf4
        refine ⟨hr4.2.2.1 hf4, ?_, ?_, ?_, h45⟩
        · exact hr4.2.2.2.1.trans (congrArg nI hl4)
        · exact congrArg nI hl4
        · have z := hr4.2.2.2.2.1
          have e : (pre (pre (stp ls) r9).2.2 w9).2.2 = stp ls ++ (r9.2.2 ++ w9.2.2) := List.append_assoc _ _ _
          rw [e] at z
          exact z
  ·
    obtain ⟨ff, hff⟩ := Option.ne_none_iff_exists'.mp hf
    obtain ⟨p1, p2⟩ := o3 ff hff
    have hlen : (pre (stp ls) r9).2.2.length = (stp ls).length + r9.2.2.length := List.length_append
    refine E_aload_n C dX11_line_25 1 rfl (mg_11_19 C dX11_line_26 f_X11_169 ?_)
    refine Ev.seti (show u2 19 = nI ff from hr2.2.1.trans (by show fI r9.2.1 = _; rw [hff]; rfl)) ?_
    refine E_if_ge C 66 dX11_line_29 (by decide) (fun c29 => ?_) (fun c29 => ?_)
    ·
      refine E_aload_n C dX11_line_66 1 rfl (mg_11_26 C dX11_line_67 f_X11_66 (E_iload_n C dX11_line_70 0 rfl (E_aload_n C dX11_line_71 1 rfl (mg_11_21 C dX11_line_72 f_X11_172 ?_))))
      refine Ev.seti (show _ = nI (pre (stp ls) r9).2.2.length from hr2.2.2.2.1) ?_
      refine E_i2s C dX11_line_75 ?_
      refine Ev.seti (i2s_n (pre (stp ls) r9).2.2.length (by omega)) ?_
      refine ms_17 C dX11_line_76 (vinN (by omega)) ?_
      rw [nI_clamp (show 61 + ls.length < 2 ^ 31 by omega), nar_s (pre (stp ls) r9).2.2.length (by omega)]
      refine E_aload_n C dX11_line_77 1 rfl (mg_11_24 C dX11_line_78 f_X11_59 (E_iconst (v := 1) C dX11_line_81 ic_1 (E_dup2 C dX11_line_82 rfl rfl (ma_15 C dX11_line_83 (vinN (k := 1) (N := 2) (by decide)) ?_))))
      refine Ev.seti (show _ = nI ls.length from (congrFun H2.2.2.2.2 1).trans q4) ?_
      refine E_iconst (v := 1) C dX11_line_84 ic_1 ?_
      refine E_iadd C dX11_line_85 ?_
      refine Ev.seti (nI_1 _) ?_
      refine ms_15 C dX11_line_86 (vinN (k := 1) (N := 2) (by decide)) (E_vretV C hr hlk dX11_line_87 ?_)
      rw [if_neg (by rw [ltr_some hff]; decide)]
      refine ⟨_, _, rfl, RML.next kp (by omega) q5 H2 hr2.1 hr2.2.1 ?_⟩
      intro q
      exact absurd q hf
    ·
      exact absurd (nI_pos' (by omega)) c29
