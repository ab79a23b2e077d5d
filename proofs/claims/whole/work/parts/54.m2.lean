/-! the reference: changes, letters -/
def isM (k : Nat) : Prop := k = 12 ∨ k = 13 ∨ k = 14 ∨ k = 15
def SHM (h h1 : Nat → Nat → Int32) (i : Nat) : Prop := (∀ k, ¬ isM k → h1 k = h k) ∧ ∀ k, isM k → (∀ j, j + 1 < i → h1 k j = h k (j + 1)) ∧ ∀ j, i ≤ j + 1 → h1 k j = h k j
theorem SHM.step {h h1 : Nat → Nat → Int32} {i : Nat} (hi : 0 < i) (hs : SHM h h1 i) : SHM h (va_up (va_up (va_up (va_up h1 12 (upd (h1 12) (i - 1) (h1 12 i))) 13 (upd (h1 13) (i - 1) (h1 13 i))) 14 (upd (h1 14) (i - 1) (h1 14 i))) 15 (upd (h1 15) (i - 1) (h1 15 i))) (i + 1) := by
  refine ⟨fun k hk => ?_, fun k hk => ?_⟩
  · unfold isM at hk
    rw [vun (fun q => hk (Or.inr (Or.inr (Or.inr q)))), vun (fun q => hk (Or.inr (Or.inr (Or.inl q)))), vun (fun q => hk (Or.inr (Or.inl q))), vun (fun q => hk (Or.inl q))]
    exact hs.1 k hk
  · have e : (va_up (va_up (va_up (va_up h1 12 (upd (h1 12) (i - 1) (h1 12 i))) 13 (upd (h1 13) (i - 1) (h1 13 i))) 14 (upd (h1 14) (i - 1) (h1 14 i))) 15 (upd (h1 15) (i - 1) (h1 15 i))) k = upd (h1 k) (i - 1) (h1 k i) := by
      rcases hk with rfl | rfl | rfl | rfl <;> rfl
    rw [e]
    obtain ⟨g1, g2⟩ := hs.2 k hk
    refine ⟨fun j hj => ?_, fun j hj => ?_⟩
    · by_cases q : j = i - 1
      · subst q
        rw [show upd (h1 k) (i - 1) (h1 k i) (i - 1) = h1 k i from if_pos rfl, show i - 1 + 1 = i by omega]
        exact g2 i (by omega)
      · rw [show upd (h1 k) (i - 1) (h1 k i) j = h1 k j from if_neg q]
        exact g1 j (by omega)
    · rw [show upd (h1 k) (i - 1) (h1 k i) j = h1 k j from if_neg (by omega)]
      exact g2 j (by omega)
def putH (h : Nat → Nat → Int32) (d : Nat) (a b x y : Int32) : Nat → Nat → Int32 := va_up (va_up (va_up (va_up h 12 (upd (h 12) d a)) 13 (upd (h 13) d b)) 14 (upd (h 14) d x)) 15 (upd (h 15) d y)
theorem CRelM.put {h : Nat → Nat → Int32} {cl : CL} {a b x y : Nat} (hr : CRelM h cl) : CRelM (putH h cl.length (nI a) (nI b) (nI x) (nI y)) (cl ++ [(a, b, x, y)]) := by
  intro j a' b' x' y' q
  rcases Nat.lt_or_ge j cl.length with r | r
  · rw [List.getElem?_append_left r] at q
    have k := hr j a' b' x' y' q
    have hne : ¬ j = cl.length := by omega
    exact ⟨(if_neg hne).trans k.1, (if_neg hne).trans k.2.1, (if_neg hne).trans k.2.2.1, (if_neg hne).trans k.2.2.2⟩
  · rw [List.getElem?_append_right r] at q
    have hz : j - cl.length < 1 := (List.getElem?_eq_some_iff.mp q).1
    have hj : j = cl.length := by omega
    subst hj
    rw [Nat.sub_self] at q
    cases q
    exact ⟨if_pos rfl, if_pos rfl, if_pos rfl, if_pos rfl⟩
theorem CRelM.take {h : Nat → Nat → Int32} {cl : CL} (hr : CRelM h cl) (n : Nat) : CRelM h (cl.take n) := fun j a b x y q => by
  rw [List.getElem?_take] at q
  split at q
  · exact hr j a b x y q
  · cases q
theorem CRelM.drop1 {h h1 : Nat → Nat → Int32} {cl : CL} (hr : CRelM h cl) (hl : cl.length ≤ 40) (hs : SHM h h1 40) : CRelM h1 (cl.drop 1) := fun j a b x y q => by
  rw [List.getElem?_drop] at q
  have hj : 1 + j < cl.length := (List.getElem?_eq_some_iff.mp q).1
  have k := hr (1 + j) a b x y q
  rw [Nat.add_comm] at k
  exact ⟨((hs.2 12 (Or.inl rfl)).1 j (by omega)).trans k.1, ((hs.2 13 (Or.inr (Or.inl rfl))).1 j (by omega)).trans k.2.1, ((hs.2 14 (Or.inr (Or.inr (Or.inl rfl)))).1 j (by omega)).trans k.2.2.1, ((hs.2 15 (Or.inr (Or.inr (Or.inr rfl)))).1 j (by omega)).trans k.2.2.2⟩
theorem noteC_eq {cl : CL} {dn : Nat} {q : Nat × Nat × Nat × Nat} (h1 : dn ≤ cl.length) (h2 : cl.length ≤ 40) : (noteC cl dn q).length = (if dn = 40 then 39 else dn) + 1 := by
  unfold noteC
  rw [List.length_append, List.length_drop, List.length_take]
  show _ + 1 = _
  split <;> omega
theorem MAll.note {S : STT} {g g' : Nat → Int32} {h h1 : Nat → Nat → Int32} {el : Nat → Int64} (M : MAll S g h el) {k j y d : Nat} {cl : CL} (hk : k < 8) (hj : j < lim S.1.1 k) (hy : y ≤ maxN k) (hd : cl.length = d) (hcl : cl = (S.2.1.1.take S.2.1.2).drop (if S.2.1.2 = 40 then 1 else 0)) (hr : CRelM h1 cl) (g10 : g' 10 = nI (d + 1)) (g11 : g' 11 = 0) (hg : ∀ q, q ≠ 10 → q ≠ 11 → g' q = g q) (hh : ∀ q, ¬ isM q → h1 q = h q) : MAll (mendS S k j y) (layG g' (nI k) (nI y)) (layH (putH h1 d (nI k) (nI j) (nI (S.1.2.1 k j)) (nI y)) (nI k) j (nI y)) el := by
  have m1 := M.1
  have m2 := M.2.1
  have hput : ∀ q, ¬ isM q → putH h1 d (nI k) (nI j) (nI (S.1.2.1 k j)) (nI y) q = h q := by
    intro q hq
    unfold isM at hq
    unfold putH
    rw [vun (fun z => hq (Or.inr (Or.inr (Or.inr z)))), vun (fun z => hq (Or.inr (Or.inr (Or.inl z)))), vun (fun z => hq (Or.inr (Or.inl z))), vun (fun z => hq (Or.inl z))]
    exact hh q hq
  have hno : noteC S.2.1.1 S.2.1.2 (k, j, S.1.2.1 k j, y) = cl ++ [(k, j, S.1.2.1 k j, y)] := by
    unfold noteC
    rw [hcl]
  have hlen : (noteC S.2.1.1 S.2.1.2 (k, j, S.1.2.1 k j, y)).length = d + 1 := by
    rw [hno, List.length_append, hd]
    rfl
  have m1' : MA S.1.1 S.1.2.1 g' (putH h1 d (nI k) (nI j) (nI (S.1.2.1 k j)) (nI y)) := m1.kept (hg 1 (by decide) (by decide)) (hg 9 (by decide) (by decide)) (fun q q1 q2 => hput q (by unfold isM; omega))
  refine M.nums (a' := (S.1.1, upN S.1.2.1 k j y, S.1.2.2)) (b' := (noteC S.2.1.1 S.2.1.2 (k, j, S.1.2.1 k j, y), (noteC S.2.1.1 S.2.1.2 (k, j, S.1.2.1 k j, y)).length)) (Nat.le_refl _) rfl (fun q _ h9 h10 h11 => (layG_ne h9).trans (hg q h10 h11)) (fun q hq => (layH_ne (by omega)).trans (hput q (by unfold isM; omega))) (m1'.lay hk hj hy) ⟨?_, ?_, Nat.le_refl _, ?_, ?_, ?_⟩
  · show layG g' (nI k) (nI y) 10 = nI (noteC S.2.1.1 S.2.1.2 (k, j, S.1.2.1 k j, y)).length
    rw [layG_ne (by decide), g10, hlen]
  · show layG g' (nI k) (nI y) 11 = nI ((noteC S.2.1.1 S.2.1.2 (k, j, S.1.2.1 k j, y)).length - (noteC S.2.1.1 S.2.1.2 (k, j, S.1.2.1 k j, y)).length)
    rw [layG_ne (by decide), g11, Nat.sub_self]
    rfl
  · exact noteC_len m2.2.2.1 m2.2.2.2.1
  · show CRelM _ (noteC S.2.1.1 S.2.1.2 (k, j, S.1.2.1 k j, y))
    rw [hno]
    have k2 := CRelM.put (a := k) (b := j) (x := S.1.2.1 k j) (y := y) hr
    rw [hd] at k2
    unfold CRelM at k2 ⊢
    rw [layH_ne (by decide), layH_ne (by decide), layH_ne (by decide), layH_ne (by decide)]
    exact k2
  · exact m2.2.2.2.2.2.note hk hj (m1.2.2.2.2.1 k j hk (lim8 m1.2.1 hj)) hy
theorem MAll.mendN {S : STT} {g : Nat → Int32} {h : Nat → Nat → Int32} {el : Nat → Int64} (M : MAll S g h el) {k j y d : Nat} (hk : k < 8) (hj : j < lim S.1.1 k) (hy : y ≤ maxN k) {g' : Nat → Int32} (hg : ∀ q, q ≠ 10 → q ≠ 11 → g' q = g q) (hd : d ≤ S.2.1.1.length) (g10 : g' 10 = nI d) (g11 : g' 11 = nI (S.2.1.1.length - d)) : MAll ((S.1.1, upN S.1.2.1 k j y, S.1.2.2), (S.2.1.1, d), S.2.2) (layG g' (nI k) (nI y)) (layH h (nI k) j (nI y)) el := by
  have m1 := M.1
  have m2 := M.2.1
  have m1' : MA S.1.1 S.1.2.1 g' h := m1.kept (hg 1 (by decide) (by decide)) (hg 9 (by decide) (by decide)) (fun _ _ _ => rfl)
  refine M.nums (a' := (S.1.1, upN S.1.2.1 k j y, S.1.2.2)) (b' := (S.2.1.1, d)) (Nat.le_refl _) rfl (fun q _ h9 h10 h11 => (layG_ne h9).trans (hg q h10 h11)) (fun q hq => layH_ne (by omega)) (m1'.lay hk hj hy) ⟨(layG_ne (by decide)).trans g10, (layG_ne (by decide)).trans g11, hd, m2.2.2.2.1, ?_, m2.2.2.2.2.2⟩
  have k2 := m2.2.2.2.2.1
  unfold CRelM at k2 ⊢
  rw [layH_ne (by decide), layH_ne (by decide), layH_ne (by decide), layH_ne (by decide)]
  exact k2
set_option maxRecDepth 100000 in
set_option maxHeartbeats 4000000 in
theorem m_changes {l : Launch} {D : va_G} {tc tt ad : Nat → Nat} {g : Nat → Int32} {h : Nat → Nat → Int32} {el : Nat → Int64} {u : Nat → Int32} {v : Nat → Nat → Int32} {sf : Nat → Int64} {S : STT} (M : MAll S g h el) {k j yy : Nat} (hk : k < 8) (hj : j < lim S.1.1 k) (hy : yy ≤ maxN k) : Ct l yX11_changes cX11_changes 6 (some .int) 3 D tc tt [.ref (ad 0), .int (nI k), .int (nI j), .int (nI yy)] (hm ad tc g h el u v sf) (PI fun r w => r = nI (S.1.2.1 k j) ∧ ∃ g2 h2, w = hm ad tc g2 h2 el u v sf ∧ MAll (if nI (S.1.2.1 k j) = nI yy then S else mendS S k j yy) g2 h2 el) := by
  have hA := M.1
  have hn := M.1.1
  have hn8 := M.1.2.1
  have m2 := M.2.1
  have m2a := m2.2.2.1
  have m2b := m2.2.2.2.1
  have hj8 := lim8 hn8 hj
  have h6 := lim6 hk hj
  refine Ct.of (by decide +kernel) (Nat.le_of_ble_eq_true rfl) ?_
  intro p e R s m args below meth c A C hr hlk
  refine E_aload_n C dX11_changes_0 0 rfl (E_iload_n C dX11_changes_1 1 rfl (E_iload_n C dX11_changes_2 2 rfl (E_callVI C dX11_changes_3 mv_X11_135 0 _ (m_valueAt (nI k) hj8 h6) rfl rfl rfl (by decide) (Nat.le_of_ble_eq_true rfl) ?_)))
  rintro _ _ ⟨rfl, rfl⟩
  refine Ev.seti (valF_N hA hk hj) ?_
  refine E_istore C dX11_changes_6 (by decide) (E_iload C dX11_changes_8 0 rfl (E_iload_n C dX11_changes_10 4 rfl (E_icmp_ne C 17 dX11_changes_11 (by decide) (fun c11 => ?_) (fun c11 => ?_))))
  ·
    have hne := c11
    have T : ∀ (d : Nat) (g1 : Nat → Int32) (h1 : Nat → Nat → Int32) (cl : CL), d < 40 → cl.length = d → cl = (S.2.1.1.take S.2.1.2).drop (if S.2.1.2 = 40 then 1 else 0) → CRelM h1 cl → g1 10 = nI d → g1 11 = 0 → (∀ q, q ≠ 10 → q ≠ 11 → g1 q = g q) → (∀ q, ¬ isM q → h1 q = h q) → Ev p l e R s m args below meth c 0 0 (EQ below (PI fun r w => r = nI (S.1.2.1 k j) ∧ ∃ g2 h2, w = hm ad tc g2 h2 el u v sf ∧ MAll (if nI (S.1.2.1 k j) = nI yy then S else mendS S k j yy) g2 h2 el) args s D A) D A 6 (hm ad tc g1 h1 el u v sf) 121 [(4, .int (nI (S.1.2.1 k j))), (0, .ref (ad 0)), (1, .int (nI k)), (2, .int (nI j)), (3, .int (nI yy))] [] := by
      intro d g1 h1 cl hd hcd hcl hr1 hd10 hd11 hgq hhq
      refine E_aload_n C dX11_changes_121 1 rfl (mg_11_12 C dX11_changes_122 f_X11_37 (E_aload_n C dX11_changes_125 1 rfl (mg_11_10 C dX11_changes_126 f_X11_142 ?_)))
      refine Ev.seti hd10 ?_
      refine E_iload_n C dX11_changes_129 2 rfl (ms_8 C dX11_changes_130 (vinN (by omega)) ?_)
      rw [nI_clamp (show d < 2 ^ 31 by omega)]
      refine E_aload_n C dX11_changes_131 1 rfl (mg_11_13 C dX11_changes_132 f_X11_40 (E_aload_n C dX11_changes_135 1 rfl (mg_11_10 C dX11_changes_136 f_X11_142 ?_)))
      refine Ev.seti hd10 ?_
      refine E_iload_n C dX11_changes_139 3 rfl (ms_9 C dX11_changes_140 (vinN (by omega)) ?_)
      rw [nI_clamp (show d < 2 ^ 31 by omega)]
      refine E_aload_n C dX11_changes_141 1 rfl (mg_11_14 C dX11_changes_142 f_X11_43 (E_aload_n C dX11_changes_145 1 rfl (mg_11_10 C dX11_changes_146 f_X11_142 ?_)))
      refine Ev.seti hd10 ?_
      refine E_iload C dX11_changes_149 0 rfl (ms_10 C dX11_changes_151 (vinN (by omega)) ?_)
      rw [nI_clamp (show d < 2 ^ 31 by omega)]
      refine E_aload_n C dX11_changes_152 1 rfl (mg_11_15 C dX11_changes_153 f_X11_46 (E_aload_n C dX11_changes_156 1 rfl (mg_11_10 C dX11_changes_157 f_X11_142 ?_)))
      refine Ev.seti hd10 ?_
      refine E_iload_n C dX11_changes_160 4 rfl (ms_11 C dX11_changes_161 (vinN (by omega)) ?_)
      rw [nI_clamp (show d < 2 ^ 31 by omega)]
      refine E_aload_n C dX11_changes_162 1 rfl (E_dup C dX11_changes_163 rfl (mg_11_10 C dX11_changes_164 f_X11_142 ?_))
      refine Ev.seti hd10 ?_
      refine E_iconst (v := 1) C dX11_changes_167 ic_1 (E_iadd C dX11_changes_168 ?_)
      refine Ev.seti (nI_1 d) ?_
      refine mp_11_10 C dX11_changes_169 fw_X11_142 (E_aload_n C dX11_changes_172 1 rfl (E_iload_n C dX11_changes_173 2 rfl (E_iload_n C dX11_changes_174 3 rfl (E_iload_n C dX11_changes_175 4 rfl (E_callVV C dX11_changes_176 mv_X11_145 0 _ (m_lays (nI k) hj8 h6 (nI yy)) rfl rfl rfl (by decide) (Nat.le_of_ble_eq_true rfl) ?_)))))
      rintro _ rfl
      refine E_iload C dX11_changes_179 0 rfl (E_iretI C hr hlk dX11_changes_181 ?_)
      refine ⟨rfl, ⟨_, _, rfl, ?_⟩⟩
      rw [if_neg hne]
      exact M.note (g' := va_up g1 10 (nI (d + 1))) hk hj hy hcd hcl hr1 rfl ((vun (by decide)).trans hd11) (fun q q1 q2 => (vun q1).trans (hgq q q1 q2)) hhq
    refine E_aload_n C dX11_changes_17 1 rfl (E_iconst (v := 0) C dX11_changes_18 ic_0 (mp_11_11 C dX11_changes_19 fw_X11_139 (E_aload_n C dX11_changes_22 1 rfl (mg_11_10 C dX11_changes_23 f_X11_142 ?_))))
    refine Ev.seti (show (va_up g 11 0) 10 = nI S.2.1.2 from m2.1) ?_
    refine E_bipush (v := 40) C dX11_changes_26 bp_40 (E_icmp_ne C 121 dX11_changes_28 (by decide) (fun c28 => ?_) (fun c28 => ?_))
    ·
      have hdn : S.2.1.2 < 40 := by
        have q2 : S.2.1.2 ≠ 40 := fun q => c28 (by rw [q]; rfl)
        omega
      have hcd : (S.2.1.1.take S.2.1.2).length = S.2.1.2 := by rw [List.length_take]; omega
      exact Ev.sub [0, 1, 2, 3, 4] rfl (T S.2.1.2 _ h _ hdn hcd (by rw [if_neg (by omega)]; exact List.drop_zero.symm) (m2.2.2.2.2.1.take _) m2.1 rfl (fun q q1 q2 => vun q2) (fun _ _ => rfl))
    ·
      have hd40 : S.2.1.2 = 40 := (nI_eq (b := 40) (by omega) (by decide)).mp c28
      have h40 : g 10 = nI 40 := by rw [m2.1, hd40]
      have hc39 : ((S.2.1.1.take S.2.1.2).drop (if S.2.1.2 = 40 then 1 else 0)).length = 39 := by rw [if_pos hd40, List.length_drop, List.length_take]; omega
      have K : ∀ (n i : Nat) (h1 : Nat → Nat → Int32), 1 ≤ i → i ≤ 40 → 40 < i + n → SHM h h1 i → Ev p l e R s m args below meth c 0 0 (EQ below (PI fun r w => r = nI (S.1.2.1 k j) ∧ ∃ g2 h2, w = hm ad tc g2 h2 el u v sf ∧ MAll (if nI (S.1.2.1 k j) = nI yy then S else mendS S k j yy) g2 h2 el) args s D A) D A 6 (hm ad tc (va_up g 11 0) h1 el u v sf) 34 [(5, .int (nI i)), (4, .int (nI (S.1.2.1 k j))), (0, .ref (ad 0)), (1, .int (nI k)), (2, .int (nI j)), (3, .int (nI yy))] [] := by
        intro n
        induction n with
        | zero =>
          intro i h1 hi1 hi2 hi3 hsh
          exfalso; omega
        | succ n ih =>
          intro i h1 hi1 hi2 hi3 hsh
          refine E_iload C dX11_changes_34 0 rfl (E_bipush (v := 40) C dX11_changes_36 bp_40 (E_icmp_ge C 111 dX11_changes_38 (by decide) (fun c38 => ?_) (fun c38 => ?_)))
          ·
            have hi : i = 40 := by
              rcases Nat.lt_or_ge i 40 with q | q
              · exact absurd (show nI 40 ≤ nI i from c38) (nI_ge q (by decide))
              · omega
            subst hi
            refine E_aload_n C dX11_changes_111 2 rfl (E_dup C dX11_changes_112 rfl (mg_11_10 C dX11_changes_113 f_X11_142 ?_))
            refine Ev.seti (show (va_up g 11 0) 10 = nI 40 from h40) ?_
            refine E_iconst (v := 1) C dX11_changes_116 ic_1 (E_isub C dX11_changes_117 ?_)
            refine Ev.seti (show nI 40 - 1 = nI 39 from pk_sub (b := 1) (by decide)) ?_
            refine mp_11_10 C dX11_changes_118 fw_X11_142 ?_
            exact Ev.sub [1, 2, 3, 4, 5] rfl (T 39 _ h1 _ (by decide) hc39 rfl (by rw [if_pos hd40, hd40]; exact (m2.2.2.2.2.1.take 40).drop1 (by rw [List.length_take]; omega) hsh) rfl rfl (fun q q1 q2 => (vun q1).trans (vun q2)) hsh.1)
          ·
            have hi : i < 40 := by
              rcases Nat.lt_or_ge i 40 with q | q
              · exact q
              · exact absurd (show nI 40 ≤ nI i from nI_le q (by omega)) c38
            refine E_aload_n C dX11_changes_41 2 rfl (mg_11_12 C dX11_changes_42 f_X11_37 (E_iload C dX11_changes_45 0 rfl (E_iconst (v := 1) C dX11_changes_47 ic_1 (E_isub C dX11_changes_48 ?_))))
            refine Ev.seti (show nI i - 1 = nI (i - 1) from pk_sub (b := 1) (by omega)) ?_
            refine E_aload_n C dX11_changes_49 2 rfl (mg_11_12 C dX11_changes_50 f_X11_37 (E_iload C dX11_changes_53 0 rfl (ma_8 C dX11_changes_55 (vinN (by omega)) ?_)))
            rw [nI_clamp (show i < 2 ^ 31 by omega)]
            refine ms_8 C dX11_changes_56 (vinN (by omega)) ?_
            rw [nI_clamp (show (i - 1) < 2 ^ 31 by omega)]
            refine E_aload_n C dX11_changes_57 2 rfl (mg_11_13 C dX11_changes_58 f_X11_40 (E_iload C dX11_changes_61 0 rfl (E_iconst (v := 1) C dX11_changes_63 ic_1 (E_isub C dX11_changes_64 ?_))))
            refine Ev.seti (show nI i - 1 = nI (i - 1) from pk_sub (b := 1) (by omega)) ?_
            refine E_aload_n C dX11_changes_65 2 rfl (mg_11_13 C dX11_changes_66 f_X11_40 (E_iload C dX11_changes_69 0 rfl (ma_9 C dX11_changes_71 (vinN (by omega)) ?_)))
            rw [nI_clamp (show i < 2 ^ 31 by omega)]
            refine ms_9 C dX11_changes_72 (vinN (by omega)) ?_
            rw [nI_clamp (show (i - 1) < 2 ^ 31 by omega)]
            refine E_aload_n C dX11_changes_73 2 rfl (mg_11_14 C dX11_changes_74 f_X11_43 (E_iload C dX11_changes_77 0 rfl (E_iconst (v := 1) C dX11_changes_79 ic_1 (E_isub C dX11_changes_80 ?_))))
            refine Ev.seti (show nI i - 1 = nI (i - 1) from pk_sub (b := 1) (by omega)) ?_
            refine E_aload_n C dX11_changes_81 2 rfl (mg_11_14 C dX11_changes_82 f_X11_43 (E_iload C dX11_changes_85 0 rfl (ma_10 C dX11_changes_87 (vinN (by omega)) ?_)))
            rw [nI_clamp (show i < 2 ^ 31 by omega)]
            refine ms_10 C dX11_changes_88 (vinN (by omega)) ?_
            rw [nI_clamp (show (i - 1) < 2 ^ 31 by omega)]
            refine E_aload_n C dX11_changes_89 2 rfl (mg_11_15 C dX11_changes_90 f_X11_46 (E_iload C dX11_changes_93 0 rfl (E_iconst (v := 1) C dX11_changes_95 ic_1 (E_isub C dX11_changes_96 ?_))))
            refine Ev.seti (show nI i - 1 = nI (i - 1) from pk_sub (b := 1) (by omega)) ?_
            refine E_aload_n C dX11_changes_97 2 rfl (mg_11_15 C dX11_changes_98 f_X11_46 (E_iload C dX11_changes_101 0 rfl (ma_11 C dX11_changes_103 (vinN (by omega)) ?_)))
            rw [nI_clamp (show i < 2 ^ 31 by omega)]
            refine ms_11 C dX11_changes_104 (vinN (by omega)) ?_
            rw [nI_clamp (show (i - 1) < 2 ^ 31 by omega)]
            refine E_iinc C dX11_changes_105 0 rfl (nI_1 i) (by decide) (E_goto C 34 dX11_changes_108 (by decide) ?_)
            exact ih (i + 1) _ (by omega) (by omega) (by omega) (hsh.step (by omega))
      refine E_iconst (v := 1) C dX11_changes_31 ic_1 (E_istore C dX11_changes_32 (by decide) ?_)
      exact Ev.sub [0, 1, 2, 3, 4, 5] rfl (K 40 1 h (by decide) (by decide) (by decide) ⟨fun _ _ => rfl, fun k _ => ⟨fun j hj => by omega, fun j _ => rfl⟩⟩)
  ·
    refine E_iload C dX11_changes_14 0 rfl (E_iretI C hr hlk dX11_changes_16 ?_)
    refine ⟨rfl, ⟨_, _, rfl, ?_⟩⟩
    rw [if_pos c11]
    exact M
set_option maxRecDepth 100000 in
set_option maxHeartbeats 4000000 in
theorem q_mend {l : Launch} {D : va_G} {tc tt ad : Nat → Nat} {S : STT} {w0 : va_W} (hM : MR ad tc S w0) (num what vv : Int32) : Ct l yX11_mend cX11_mend 4 (some .int) 4 D tc tt [.ref (ad 0), .int num, .int what, .int vv] (w0) (PI fun r w => r = aMend S num what vv ∧ MR ad tc (nMend S num what vv) w) := by
  obtain ⟨g, h, el, u, v, sf, rfl, M⟩ := hM
  have hA := M.1
  have hn := M.1.1
  have hn8 := M.1.2.1
  refine Ct.of (by decide +kernel) (Nat.le_of_ble_eq_true rfl) ?_
  intro p e R s m args below meth c A C hr hlk
  refine E_aload_n C dX11_mend_0 0 rfl (E_iload_n C dX11_mend_1 1 rfl (E_iload_n C dX11_mend_2 2 rfl (E_callVI C dX11_mend_3 mv_X11_152 0 _ (m_isOne hn hn8 num what) rfl rfl rfl (by decide) (Nat.le_of_ble_eq_true rfl) ?_)))
  rintro _ _ ⟨rfl, rfl⟩
  refine E_if_eq C 27 dX11_mend_6 (by decide) (fun c6 => ?_) (fun c6 => ?_)
  ·
    have n0 := ite_0 c6
    refine E_iconst (v := -1) C dX11_mend_27 ic_m1 (E_iretI C hr hlk dX11_mend_28 ?_)
    have hnx : nMend S num what vv = S := if_neg (fun q => n0 q.1)
    rw [hnx]
    exact ⟨(if_neg fun q => n0 q.1).symm, ⟨g, h, el, u, v, sf, rfl, M⟩⟩
  ·
    have n0 := ite_1 c6
    obtain ⟨k, j, hk, hj, hj8, hkc, hjc, rfl, rfl⟩ := hasB_ex hn8 n0
    refine E_iload_n C dX11_mend_9 2 rfl (E_iload_n C dX11_mend_10 3 rfl (E_callSI C dX11_mend_11 ms_X11_156 _ (m_mayBe (nI k) vv (nI_pos' (by omega)) (nI_le (b := 7) (by omega) (by decide))) rfl rfl (by decide) (Nat.le_of_ble_eq_true rfl) ?_))
    rintro _ _ ⟨rfl, rfl⟩
    refine E_if_eq C 27 dX11_mend_14 (by decide) (fun c14 => ?_) (fun c14 => ?_)
    ·
      have n1 := ite_0 c14
      refine E_iconst (v := -1) C dX11_mend_27 ic_m1 (E_iretI C hr hlk dX11_mend_28 ?_)
      have hnx : nMend S (nI j) (nI k) vv = S := if_neg (fun q => n1 q.2.1)
      rw [hnx]
      exact ⟨(if_neg fun q => n1 q.2).symm, ⟨g, h, el, u, v, sf, rfl, M⟩⟩
    ·
      have n1 := ite_1 c14
      obtain ⟨yy, hy, hy31, rfl⟩ := may_ex hk n1
      refine E_aload_n C dX11_mend_17 0 rfl (E_iload_n C dX11_mend_18 2 rfl (E_iload_n C dX11_mend_19 1 rfl (E_iload_n C dX11_mend_20 3 rfl (E_callVI C dX11_mend_21 mv_X11_159 0 _ (m_changes M hk hj hy) rfl rfl rfl (by decide) (Nat.le_of_ble_eq_true rfl) ?_))))
      rintro _ _ ⟨rfl, g2, h2, rfl, M2⟩
      refine E_goto C 28 dX11_mend_24 (by decide) (E_iretI C hr hlk dX11_mend_28 ?_)
      have ha : aMend S (nI j) (nI k) (nI yy) = _ := if_pos ⟨n0, n1⟩
      rw [hkc, hjc] at ha
      refine ⟨ha.symm, ?_⟩
      by_cases e : nI (S.1.2.1 k j) = nI yy
      · have hnx : nMend S (nI j) (nI k) (nI yy) = S := if_neg (fun q => by
          have q2 := q.2.2
          rw [hkc, hjc] at q2
          exact q2 e)
        rw [hnx]
        rw [if_pos e] at M2
        exact ⟨_, _, _, _, _, _, rfl, M2⟩
      · have hnx : nMend S (nI j) (nI k) (nI yy) = _ := if_pos ⟨n0, n1, by rw [hkc, hjc]; exact e⟩
        rw [hkc, hjc, nI_clamp hy31] at hnx
        rw [hnx]
        rw [if_neg e] at M2
        exact ⟨_, _, _, _, _, _, rfl, M2⟩
set_option maxRecDepth 100000 in
set_option maxHeartbeats 4000000 in
theorem q_undo {l : Launch} {D : va_G} {tc tt ad : Nat → Nat} {S : STT} {w0 : va_W} (hM : MR ad tc S w0)  : Ct l yX11_undo cX11_undo 1 (some .int) 4 D tc tt [.ref (ad 0)] (w0) (PI fun r w => r = aUndo S ∧ MR ad tc (nUndo S) w) := by
  obtain ⟨g, h, el, u, v, sf, rfl, M⟩ := hM
  have hA := M.1
  have hn := M.1.1
  have hn8 := M.1.2.1
  have m2 := M.2.1
  have m2a := m2.2.2.1
  have m2b := m2.2.2.2.1
  refine Ct.of (by decide +kernel) (Nat.le_of_ble_eq_true rfl) ?_
  intro p e R s m args below meth c A C hr hlk
  refine E_aload_n C dX11_undo_0 0 rfl (mg_11_10 C dX11_undo_1 f_X11_142 ?_)
  refine Ev.seti m2.1 ?_
  refine E_if_ne C 10 dX11_undo_4 (by decide) (fun c4 => ?_) (fun c4 => ?_)
  ·
    have hne : S.2.1.2 ≠ 0 := fun q => c4 (by rw [q]; rfl)
    obtain ⟨dn, hdn⟩ : ∃ dn, S.2.1.2 = dn + 1 := ⟨S.2.1.2 - 1, by omega⟩
    have hget : ∃ q, S.2.1.1[dn]? = some q := ⟨_, List.getElem?_eq_getElem (show dn < S.2.1.1.length by omega)⟩
    obtain ⟨⟨a, b, x, y⟩, hq⟩ := hget
    obtain ⟨r1, r2, r3, r4⟩ := m2.2.2.2.2.1 _ a b x y hq
    obtain ⟨s1, s2, s3, s4⟩ := m2.2.2.2.2.2 _ a b x y hq
    have hb8 := lim8 hn8 s2
    have h6 := lim6 s1 s2
    refine E_aload_n C dX11_undo_10 0 rfl (E_dup C dX11_undo_11 rfl (mg_11_10 C dX11_undo_12 f_X11_142 ?_))
    refine Ev.seti (m2.1.trans (congrArg nI hdn)) ?_
    refine E_iconst (v := 1) C dX11_undo_15 ic_1 (E_isub C dX11_undo_16 ?_)
    refine Ev.seti (show nI (dn + 1) - 1 = nI dn from pk_sub (a := dn + 1) (b := 1) (by omega)) ?_
    refine mp_11_10 C dX11_undo_17 fw_X11_142 (E_aload_n C dX11_undo_20 0 rfl (E_dup C dX11_undo_21 rfl (mg_11_11 C dX11_undo_22 f_X11_139 ?_)))
    refine Ev.seti (show _ = nI (S.2.1.1.length - S.2.1.2) from m2.2.1) ?_
    refine E_iconst (v := 1) C dX11_undo_25 ic_1 (E_iadd C dX11_undo_26 ?_)
    refine Ev.seti (nI_1 _) ?_
    refine mp_11_11 C dX11_undo_27 fw_X11_139 (E_aload_n C dX11_undo_30 0 rfl (E_aload_n C dX11_undo_31 0 rfl (mg_11_12 C dX11_undo_32 f_X11_37 (E_aload_n C dX11_undo_35 0 rfl (mg_11_10 C dX11_undo_36 f_X11_142 ?_)))))
    refine Ev.seti (show _ = nI dn from rfl) ?_
    refine ma_8 C dX11_undo_39 (vinN (by omega)) ?_
    rw [nI_clamp (show dn < 2 ^ 31 by omega)]
    refine Ev.seti r1 ?_
    refine E_aload_n C dX11_undo_40 0 rfl (mg_11_13 C dX11_undo_41 f_X11_40 (E_aload_n C dX11_undo_44 0 rfl (mg_11_10 C dX11_undo_45 f_X11_142 ?_)))
    refine Ev.seti (show _ = nI dn from rfl) ?_
    refine ma_9 C dX11_undo_48 (vinN (by omega)) ?_
    rw [nI_clamp (show dn < 2 ^ 31 by omega)]
    refine Ev.seti r2 ?_
    refine E_aload_n C dX11_undo_49 0 rfl (mg_11_14 C dX11_undo_50 f_X11_43 (E_aload_n C dX11_undo_53 0 rfl (mg_11_10 C dX11_undo_54 f_X11_142 ?_)))
    refine Ev.seti (show _ = nI dn from rfl) ?_
    refine ma_10 C dX11_undo_57 (vinN (by omega)) ?_
    rw [nI_clamp (show dn < 2 ^ 31 by omega)]
    refine Ev.seti r3 ?_
    refine E_callVV C dX11_undo_58 mv_X11_145 0 _ (m_lays (nI a) hb8 h6 (nI x)) rfl rfl rfl (by decide) (Nat.le_of_ble_eq_true rfl) ?_
    rintro _ rfl
    refine E_aload_n C dX11_undo_61 0 rfl (mg_11_10 C dX11_undo_62 f_X11_142 ?_)
    refine Ev.seti (show _ = nI dn from layG_ne (by decide)) ?_
    refine E_iretI C hr hlk dX11_undo_65 ?_
    have ha : aUndo S = nI dn := (if_neg hne).trans (by rw [hdn]; rfl)
    have hnx : nUndo S = ((S.1.1, upN S.1.2.1 a b x, S.1.2.2), (S.2.1.1, dn), S.2.2) := by
      unfold nUndo
      rw [hdn, show dn + 1 - 1 = dn from rfl, hq]
      exact if_neg (by omega)
    rw [hnx]
    refine ⟨ha.symm, ⟨_, _, _, _, _, _, rfl, M.mendN s1 s2 s3 (fun q q1 q2 => (vun q2).trans (vun q1)) (by omega) rfl ?_⟩⟩
    show nI (S.2.1.1.length - S.2.1.2 + 1) = _
    congr 1
    omega
  ·
    have hz : S.2.1.2 = 0 := (nI_eq (b := 0) (by omega) (by decide)).mp c4
    refine E_bipush (v := -5) C dX11_undo_7 bp_m5 (E_iretI C hr hlk dX11_undo_9 ?_)
    have ha : aUndo S = -5 := if_pos hz
    have hnx : nUndo S = S := by
      unfold nUndo
      split
      · rw [if_pos hz]
      · rfl
    rw [hnx]
    exact ⟨ha.symm, ⟨g, h, el, u, v, sf, rfl, M⟩⟩
theorem upc3 (g : Nat → Int32) (x y z : Int32) : va_up (va_up (va_up g 9 x) 10 y) 11 z = va_up (va_up (va_up g 10 y) 11 z) 9 x := by
  funext q
  unfold va_up
  by_cases a : q = 9
  · subst a; rfl
  · rw [if_neg a, if_neg a]
set_option maxRecDepth 100000 in
set_option maxHeartbeats 4000000 in
theorem q_redo {l : Launch} {D : va_G} {tc tt ad : Nat → Nat} {S : STT} {w0 : va_W} (hM : MR ad tc S w0)  : Ct l yX11_redo cX11_redo 1 (some .int) 4 D tc tt [.ref (ad 0)] (w0) (PI fun r w => r = aRedo S ∧ MR ad tc (nRedo S) w) := by
  obtain ⟨g, h, el, u, v, sf, rfl, M⟩ := hM
  have hA := M.1
  have hn := M.1.1
  have hn8 := M.1.2.1
  have m2 := M.2.1
  have m2a := m2.2.2.1
  have m2b := m2.2.2.2.1
  refine Ct.of (by decide +kernel) (Nat.le_of_ble_eq_true rfl) ?_
  intro p e R s m args below meth c A C hr hlk
  refine E_aload_n C dX11_redo_0 0 rfl (mg_11_11 C dX11_redo_1 f_X11_139 ?_)
  refine Ev.seti m2.2.1 ?_
  refine E_if_ne C 10 dX11_redo_4 (by decide) (fun c4 => ?_) (fun c4 => ?_)
  ·
    have hne : S.2.1.1.length - S.2.1.2 ≠ 0 := fun q => c4 (by rw [q]; rfl)
    have hget : ∃ q, S.2.1.1[S.2.1.2]? = some q := ⟨_, List.getElem?_eq_getElem (show S.2.1.2 < S.2.1.1.length by omega)⟩
    obtain ⟨⟨a, b, x, y⟩, hq⟩ := hget
    obtain ⟨r1, r2, r3, r4⟩ := m2.2.2.2.2.1 _ a b x y hq
    obtain ⟨s1, s2, s3, s4⟩ := m2.2.2.2.2.2 _ a b x y hq
    have hb8 := lim8 hn8 s2
    have h6 := lim6 s1 s2
    refine E_aload_n C dX11_redo_10 0 rfl (E_aload_n C dX11_redo_11 0 rfl (mg_11_12 C dX11_redo_12 f_X11_37 (E_aload_n C dX11_redo_15 0 rfl (mg_11_10 C dX11_redo_16 f_X11_142 ?_))))
    refine Ev.seti (show _ = nI S.2.1.2 from m2.1) ?_
    refine ma_8 C dX11_redo_19 (vinN (by omega)) ?_
    rw [nI_clamp (show S.2.1.2 < 2 ^ 31 by omega)]
    refine Ev.seti r1 ?_
    refine E_aload_n C dX11_redo_20 0 rfl (mg_11_13 C dX11_redo_21 f_X11_40 (E_aload_n C dX11_redo_24 0 rfl (mg_11_10 C dX11_redo_25 f_X11_142 ?_)))
    refine Ev.seti (show _ = nI S.2.1.2 from m2.1) ?_
    refine ma_9 C dX11_redo_28 (vinN (by omega)) ?_
    rw [nI_clamp (show S.2.1.2 < 2 ^ 31 by omega)]
    refine Ev.seti r2 ?_
    refine E_aload_n C dX11_redo_29 0 rfl (mg_11_15 C dX11_redo_30 f_X11_46 (E_aload_n C dX11_redo_33 0 rfl (mg_11_10 C dX11_redo_34 f_X11_142 ?_)))
    refine Ev.seti (show _ = nI S.2.1.2 from m2.1) ?_
    refine ma_11 C dX11_redo_37 (vinN (by omega)) ?_
    rw [nI_clamp (show S.2.1.2 < 2 ^ 31 by omega)]
    refine Ev.seti r4 ?_
    refine E_callVV C dX11_redo_38 mv_X11_145 0 _ (m_lays (nI a) hb8 h6 (nI y)) rfl rfl rfl (by decide) (Nat.le_of_ble_eq_true rfl) ?_
    rintro _ rfl
    refine E_aload_n C dX11_redo_41 0 rfl (E_dup C dX11_redo_42 rfl (mg_11_10 C dX11_redo_43 f_X11_142 ?_))
    refine Ev.seti ((layG_ne (by decide)).trans m2.1) ?_
    refine E_iconst (v := 1) C dX11_redo_46 ic_1 (E_iadd C dX11_redo_47 ?_)
    refine Ev.seti (nI_1 _) ?_
    refine mp_11_10 C dX11_redo_48 fw_X11_142 (E_aload_n C dX11_redo_51 0 rfl (E_dup C dX11_redo_52 rfl (mg_11_11 C dX11_redo_53 f_X11_139 ?_)))
    refine Ev.seti (show _ = nI (S.2.1.1.length - S.2.1.2) from (layG_ne (by decide)).trans m2.2.1) ?_
    refine E_iconst (v := 1) C dX11_redo_56 ic_1 (E_isub C dX11_redo_57 ?_)
    refine Ev.seti (show nI (S.2.1.1.length - S.2.1.2) - 1 = nI (S.2.1.1.length - (S.2.1.2 + 1)) from (pk_sub (b := 1) (by omega)).trans (congrArg nI (by omega))) ?_
    refine mp_11_11 C dX11_redo_58 fw_X11_139 (E_aload_n C dX11_redo_61 0 rfl (mg_11_11 C dX11_redo_62 f_X11_139 ?_))
    refine Ev.seti (show _ = nI (S.2.1.1.length - (S.2.1.2 + 1)) from rfl) ?_
    refine E_iretI C hr hlk dX11_redo_65 ?_
    have ha : aRedo S = nI (S.2.1.1.length - (S.2.1.2 + 1)) := if_neg (by omega)
    have hnx : nRedo S = ((S.1.1, upN S.1.2.1 a b y, S.1.2.2), (S.2.1.1, S.2.1.2 + 1), S.2.2) := by
      unfold nRedo
      rw [hq]
    rw [hnx]
    have eg : va_up (va_up (layG g (nI a) (nI y)) 10 (nI (S.2.1.2 + 1))) 11 (nI (S.2.1.1.length - (S.2.1.2 + 1))) = layG (va_up (va_up g 10 (nI (S.2.1.2 + 1))) 11 (nI (S.2.1.1.length - (S.2.1.2 + 1)))) (nI a) (nI y) := by
      rcases (show a = 0 ∨ a = 1 ∨ a = 2 ∨ a = 3 ∨ a = 4 ∨ a = 5 ∨ a = 6 ∨ a = 7 by omega) with rfl | rfl | rfl | rfl | rfl | rfl | rfl | rfl <;> first | rfl | exact upc3 g _ _ _
    refine ⟨ha.symm, ⟨_, _, _, _, _, _, congrArg (fun q => hm ad tc q (layH h (nI a) b (nI y)) el u v sf) eg, M.mendN s1 s2 s4 (fun q q1 q2 => (vun q2).trans (vun q1)) (by omega) rfl rfl⟩⟩
  ·
    have hz : S.2.1.1.length - S.2.1.2 = 0 := (nI_eq (b := 0) (by omega) (by decide)).mp c4
    refine E_bipush (v := -5) C dX11_redo_7 bp_m5 (E_iretI C hr hlk dX11_redo_9 ?_)
    have ha : aRedo S = -5 := if_pos (by omega)
    have hnx : nRedo S = S := by
      unfold nRedo
      rw [List.getElem?_eq_none (by omega)]
    rw [hnx]
    exact ⟨ha.symm, ⟨g, h, el, u, v, sf, rfl, M⟩⟩
theorem nar_b (x : Int32) : vp_nar .byte x.toInt8.toInt32 = vp_nar .byte x := by
  show x.toInt8.toInt32.toInt8.toInt32 = x.toInt8.toInt32
  rw [Int8.toInt8_toInt32]
set_option maxRecDepth 100000 in
set_option maxHeartbeats 4000000 in
theorem q_feed {l : Launch} {D : va_G} {tc tt ad : Nat → Nat} {S : STT} {w0 : va_W} (hM : MR ad tc S w0) (x0 : Int32) : Ct l yX11_feed cX11_feed 2 (some .int) 3 D tc tt [.ref (ad 0), .int x0] (w0) (PI fun r w => r = aFeed S x0 ∧ MR ad tc (nFeed S x0) w) := by
  obtain ⟨g, h, el, u, v, sf, rfl, M⟩ := hM
  have hA := M.1
  have hn := M.1.1
  have hn8 := M.1.2.1
  have m3 := M.2.2.1
  have m3l := m3.2.1
  refine Ct.of (by decide +kernel) (Nat.le_of_ble_eq_true rfl) ?_
  intro p e R s m args below meth c A C hr hlk
  refine E_iload_n C dX11_feed_0 1 rfl (E_iconst (v := 0) C dX11_feed_1 ic_0 (E_sipush (v := 255) C dX11_feed_2 sp_255 (E_callSI C dX11_feed_5 ms_X11_118 _ (m_in x0 0 255) rfl rfl (by decide) (Nat.le_of_ble_eq_true rfl) ?_)))
  rintro _ _ ⟨rfl, rfl⟩
  refine E_if_ne C 13 dX11_feed_8 (by decide) (fun c8 => ?_) (fun c8 => ?_)
  ·
    have n0 := ite_1 c8
    have n1 := bet_eq.mp n0
    have ha : aFeed S x0 = _ := if_pos n1
    obtain ⟨xn, hxm, hxc, rfl⟩ := n_of (k := 255) (m := 255) rfl (Int32.not_lt.mpr n1.1) n1.2
    refine E_aload_n C dX11_feed_13 0 rfl (mg_11_17 C dX11_feed_14 f_X11_163 ?_)
    refine Ev.seti m3.1 ?_
    refine E_bipush (v := 120) C dX11_feed_17 bp_120 (E_icmp_ne C 25 dX11_feed_19 (by decide) (fun c19 => ?_) (fun c19 => ?_))
    ·
      have hlt : S.2.2.1.length < 120 := by
        have q2 : S.2.2.1.length ≠ 120 := fun q => c19 (by rw [q]; rfl)
        omega
      refine E_aload_n C dX11_feed_25 0 rfl (mg_11_16 C dX11_feed_26 f_X11_49 (E_aload_n C dX11_feed_29 0 rfl (mg_11_17 C dX11_feed_30 f_X11_163 ?_)))
      refine Ev.seti m3.1 ?_
      refine E_iload_n C dX11_feed_33 1 rfl (E_i2b C dX11_feed_34 (ms_12 C dX11_feed_35 (vinN (by omega)) ?_))
      rw [nI_clamp (show S.2.2.1.length < 2 ^ 31 by omega)]
      refine E_aload_n C dX11_feed_36 0 rfl (E_dup C dX11_feed_37 rfl (mg_11_17 C dX11_feed_38 f_X11_163 ?_))
      refine Ev.seti m3.1 ?_
      refine E_iconst (v := 1) C dX11_feed_41 ic_1 (E_iadd C dX11_feed_42 ?_)
      refine Ev.seti (nI_1 _) ?_
      refine mp_11_17 C dX11_feed_43 fw_X11_163 (E_aload_n C dX11_feed_46 0 rfl (mg_11_17 C dX11_feed_47 f_X11_163 ?_))
      refine Ev.seti (show _ = nI (S.2.2.1.length + 1) from rfl) ?_
      refine E_iretI C hr hlk dX11_feed_50 ?_
      have hnx : nFeed S (nI xn) = (S.1, S.2.1, S.2.2.1 ++ [xn], S.2.2.2) := (if_pos ⟨n1.1, n1.2, hlt⟩).trans (by rw [hxc])
      rw [hnx]
      refine ⟨(ha.trans (if_neg (by omega))).symm, ⟨_, _, _, _, _, _, rfl, ?_⟩⟩
      obtain ⟨m1, m2, m3, m4, m5, m6, m7, m8⟩ := M
      refine ⟨m1.kept rfl rfl (fun q q1 q2 => vun (by omega)), m2.kept rfl rfl (fun q q1 q2 => vun (by omega)), ⟨?_, ?_, fun j x q => ?_⟩, m4.kept rfl, m5.kept rfl rfl, m6.kept rfl rfl rfl rfl, m7.kept rfl rfl, m8.kept rfl (fun q q1 q2 => vun (by omega))⟩
      · show nI (S.2.2.1.length + 1) = nI (S.2.2.1 ++ [xn]).length
        rw [List.length_append]
        rfl
      · show (S.2.2.1 ++ [xn]).length ≤ 120
        rw [List.length_append]
        exact hlt
      · rcases Nat.lt_or_ge j S.2.2.1.length with r | r
        · have q' : S.2.2.1[j]? = some x := by rw [← q]; exact (List.getElem?_append_left r).symm
          exact ⟨(if_neg (by omega)).trans (m3.2.2 j x q').1, (m3.2.2 j x q').2⟩
        · have q' : [xn][j - S.2.2.1.length]? = some x := by rw [← q]; exact (List.getElem?_append_right r).symm
          have hz : j - S.2.2.1.length < 1 := (List.getElem?_eq_some_iff.mp q').1
          obtain rfl : j = S.2.2.1.length := by omega
          rw [Nat.sub_self] at q'
          cases q'
          exact ⟨(if_pos rfl).trans (nar_b _), by omega⟩
    ·
      have h12 : S.2.2.1.length = 120 := (nI_eq (b := 120) (by omega) (by decide)).mp c19
      refine E_bipush (v := -3) C dX11_feed_22 bp_m3 (E_iretI C hr hlk dX11_feed_24 ?_)
      have hnx : nFeed S (nI xn) = S := if_neg (fun q => by have q2 := q.2.2; omega)
      rw [hnx]
      exact ⟨(ha.trans (if_pos h12)).symm, ⟨g, h, el, u, v, sf, rfl, M⟩⟩
  ·
    have n0 := ite_0 c8
    refine E_iconst (v := -1) C dX11_feed_11 ic_m1 (E_iretI C hr hlk dX11_feed_12 ?_)
    have n1 : ¬ (0 ≤ x0 ∧ x0 ≤ 255) := fun q => n0 (bet_eq.mpr q)
    have hnx : nFeed S x0 = S := if_neg (fun q => n1 ⟨q.1, q.2.1⟩)
    rw [hnx]
    exact ⟨(if_neg n1).symm, ⟨g, h, el, u, v, sf, rfl, M⟩⟩
