/-! the reference: a text, the law -/
theorem nar_mop2 {a : Nat} (h : okop a) : vp_nar .byte (mop a) = mop a := by
  rcases h with rfl | rfl | rfl | rfl | h
  · decide
  · decide
  · decide
  · decide
  · rcases of_decide_eq_true h with rfl | rfl | rfl | rfl | rfl | rfl | rfl | rfl | rfl | rfl <;> decide
theorem lin_if {t : List Nat} {E : PS → PS} {a : Nat} {ls : List (CD × CD)} {r w : PS} (er : E (a, none, []) = r) (ew : E (r.1 + 1, none, []) = w) : linX t E ((a, none), ls) = (if ltr t r = 63 then ((w.1, w.2.1), ls ++ [(r.2.2, w.2.2)]) else ((r.1, r.2.1), ls ++ [([], r.2.2)])) := by
  unfold linX
  show (if ltr t (E (a, none, [])) = 63 then (((E ((E (a, none, [])).1 + 1, (E (a, none, [])).2.1, [])).1, (E ((E (a, none, [])).1 + 1, (E (a, none, [])).2.1, [])).2.1), ls ++ [((E (a, none, [])).2.2, (E ((E (a, none, [])).1 + 1, (E (a, none, [])).2.1, [])).2.2)]) else (((E (a, none, [])).1, (E (a, none, [])).2.1), ls ++ [([], (E (a, none, [])).2.2)])) = _
  rw [er]
  by_cases h : ltr t r = 63
  · have hn := (ltr_in (t := t) (s := r) (by omega)).1
    rw [if_pos h, if_pos h, hn, ew]
  · rw [if_neg h, if_neg h]
theorem lin_len {t : List Nat} {E : PS → PS} {X : LXS} : (linX t E X).2.length = X.2.length + 1 := by
  unfold linX
  split
  · exact List.length_append
  · exact List.length_append
theorem linXL_stop {t : List Nat} {E : PS → PS} {X : LXS} (h : ¬ ltr t (X.1.1, X.1.2, []) = 59) : ∀ k, linXL t E k X = X
  | 0 => rfl
  | _ + 1 => linXL_f h
/-- the steps are being laid in their place -/
def C2 (h0 : Nat → Nat → Int32) (ls : List (CD × CD)) (i : Nat) (h : Nat → Nat → Int32) : Prop := (∀ k, (k < 22 ∨ 26 < k) → h k = h0 k) ∧ h 24 1 = nI ls.length ∧ AtM h 130 (stp ls) ∧ LnAt 130 61 h ls 0 0 ∧ ∀ j, j < i → h 22 j = h 22 (130 + j) ∧ h 23 j = h 23 (130 + j)
def C3 (h0 : Nat → Nat → Int32) (ls : List (CD × CD)) (i : Nat) (h : Nat → Nat → Int32) : Prop := (∀ k, (k < 22 ∨ 26 < k) → h k = h0 k) ∧ h 24 0 = nI ls.length ∧ AtM h 0 (stp ls) ∧ AtM h 130 (stp ls) ∧ LnAt 130 61 h ls 0 0 ∧ ∀ j, j < i → h 25 j = h 25 (61 + j) ∧ h 26 j = h 26 (61 + j)
theorem C2.step {h0 h : Nat → Nat → Int32} {ls : List (CD × CD)} {i : Nat} (m : C2 h0 ls i h) (hi : i < (stp ls).length) (hl : (stp ls).length ≤ 121) : C2 h0 ls (i + 1) (va_up (va_up h 22 (upd (h 22) i (h 22 (130 + i)))) 23 (upd (h 23) i (h 23 (130 + i)))) := by
  obtain ⟨m1, m2, m3, m4, m5⟩ := m
  have mA : AtM (va_up (va_up h 22 (upd (h 22) i (h 22 (130 + i)))) 23 (upd (h 23) i (h 23 (130 + i)))) 130 (stp ls) := by
    intro j a b e
    have z := m3 j a b e
    exact ⟨(if_neg (by omega)).trans z.1, (if_neg (by omega)).trans z.2⟩
  refine ⟨fun k hk => (vun (by omega)).trans ((vun (by omega)).trans (m1 k hk)), m2, mA, LnAt.copy ls 0 0 m4 (fun j hj => ⟨rfl, rfl⟩) mA, fun j hj => ?_⟩
  show upd (h 22) i (h 22 (130 + i)) j = upd (h 22) i (h 22 (130 + i)) (130 + j) ∧ upd (h 23) i (h 23 (130 + i)) j = upd (h 23) i (h 23 (130 + i)) (130 + j)
  rcases Nat.lt_or_ge j i with q | q
  · have z := m5 j q
    exact ⟨(if_neg (by omega)).trans (z.1.trans (if_neg (by omega)).symm), (if_neg (by omega)).trans (z.2.trans (if_neg (by omega)).symm)⟩
  · obtain rfl : j = i := by omega
    exact ⟨(if_pos rfl).trans (if_neg (by omega)).symm, (if_pos rfl).trans (if_neg (by omega)).symm⟩
theorem C2.done {h0 h : Nat → Nat → Int32} {ls : List (CD × CD)} (m : C2 h0 ls (stp ls).length h) : C3 h0 ls 0 (va_up h 24 (upd (h 24) 0 (nI ls.length))) := by
  obtain ⟨m1, m2, m3, m4, m5⟩ := m
  refine ⟨fun k hk => (vun (by omega)).trans (m1 k hk), rfl, fun j a b e => ?_, m3, LnAt.copy ls 0 0 m4 (fun j hj => ⟨rfl, rfl⟩) m3, fun j hj => absurd hj (Nat.not_lt_zero _)⟩
  have hj := (List.getElem?_eq_some_iff.mp e).1
  have z := m3 j a b e
  have y := m5 j hj
  rw [Nat.zero_add]
  exact ⟨y.1.trans z.1, y.2.trans z.2⟩
theorem C3.step {h0 h : Nat → Nat → Int32} {ls : List (CD × CD)} {i : Nat} (m : C3 h0 ls i h) (hi : i < ls.length) (hl : ls.length ≤ 60) : C3 h0 ls (i + 1) (va_up (va_up h 25 (upd (h 25) i (h 25 (61 + i)))) 26 (upd (h 26) i (h 26 (61 + i)))) := by
  obtain ⟨m1, m2, m3, m3', m4, m5⟩ := m
  refine ⟨fun k hk => (vun (by omega)).trans ((vun (by omega)).trans (m1 k hk)), m2, m3, m3', LnAt.copy ls 0 0 m4 (fun j hj => ⟨if_neg (by omega), if_neg (by omega)⟩) m3', fun j hj => ?_⟩
  show upd (h 25) i (h 25 (61 + i)) j = upd (h 25) i (h 25 (61 + i)) (61 + j) ∧ upd (h 26) i (h 26 (61 + i)) j = upd (h 26) i (h 26 (61 + i)) (61 + j)
  rcases Nat.lt_or_ge j i with q | q
  · have z := m5 j q
    exact ⟨(if_neg (by omega)).trans (z.1.trans (if_neg (by omega)).symm), (if_neg (by omega)).trans (z.2.trans (if_neg (by omega)).symm)⟩
  · obtain rfl : j = i := by omega
    exact ⟨(if_pos rfl).trans (if_neg (by omega)).symm, (if_pos rfl).trans (if_neg (by omega)).symm⟩
theorem C3.done {h0 h : Nat → Nat → Int32} {ls : List (CD × CD)} (m : C3 h0 ls ls.length h) : h 24 0 = nI ls.length ∧ LnAt 0 0 h ls 0 0 := by
  obtain ⟨m1, m2, m3, m3', m4, m5⟩ := m
  refine ⟨m2, LnAt.copy ls 0 0 m4 (fun j hj => ?_) m3⟩
  rw [show 0 + 0 + j = j by omega]
  exact m5 j hj
theorem C2.nar {h0 h : Nat → Nat → Int32} {ls : List (CD × CD)} {i : Nat} (m : C2 h0 ls i h) (hg : ∀ q ∈ ls, LnG q) (hi : i < (stp ls).length) : vp_nar .byte (h 22 (130 + i)) = h 22 (130 + i) := by
  have e : (stp ls)[i]? = some ((stp ls)[i].1, (stp ls)[i].2) := List.getElem?_eq_getElem hi
  rw [(m.2.2.1 i _ _ e).1]
  exact nar_mop2 (ln_ok hg _ (List.getElem_mem hi))
theorem C3.nar {h0 h : Nat → Nat → Int32} {ls : List (CD × CD)} {i : Nat} (m : C3 h0 ls i h) (hl : (stp ls).length ≤ 121) (hi : i < ls.length) : vp_nar .short (h 25 (61 + i)) = h 25 (61 + i) ∧ vp_nar .short (h 26 (61 + i)) = h 26 (61 + i) := by
  obtain ⟨x, y, k1, k2, k3, k4⟩ := LnAt.get ls 0 0 m.2.2.2.2.1 i hi
  rw [show 61 + 0 + i = 61 + i from rfl] at k3 k4
  rw [k3, k4]
  exact ⟨nar_s x (by omega), nar_s y (by omega)⟩
theorem KP.rm {h0 h1 h2 : Nat → Nat → Int32} {t : List Nat} {u u2 : Nat → Int32} {op : Nat} {s : PS} (m : KP h0 h1) (r : RM t h1 u op s h2 u2) : KP h0 h2 := by
  obtain ⟨m1, m2, m3, m4⟩ := m
  obtain ⟨-, -, -, -, -, r6, r7, -⟩ := r
  refine ⟨fun k hk => (r6 k (by omega) (by omega)).trans (m1 k hk), fun j hj => ⟨(r7 j hj).1.trans (m2 j hj).1, (r7 j hj).2.trans (m2 j hj).2⟩, fun j hj => ?_, ?_⟩
  · rw [r6 25 (by decide) (by decide), r6 26 (by decide) (by decide)]
    exact m3 j hj
  · rw [r6 24 (by decide) (by decide)]
    exact m4
set_option maxRecDepth 100000 in
set_option maxHeartbeats 4000000 in
theorem m_readText {l : Launch} {D : va_G} {tc tt ad : Nat → Nat} {g : Nat → Int32} {h0 : Nat → Nat → Int32} {el : Nat → Int64} {v : Nat → Nat → Int32} {sf : Nat → Int64} {t : List Nat} (hT : MT t g h0) {u : Nat → Int32} {X9 : LXS} {F : Option Nat} {ls : List (CD × CD)} (eX : linXL t (exM t) 120 (linX t (exM t) ((0, none), [])) = X9) (eF : endX t X9 = F) (eL : F = none → X9.2 = ls ∧ (∀ q ∈ ls, LnG q) ∧ (stp ls).length ≤ 121 ∧ ls.length ≤ 60) : Ct l yX11_readText cX11_readText 3 (some .int) 46 D tc tt [.ref (ad 0), .int 0] (hm ad tc g h0 el u v sf) (PI fun r w => r = fI F ∧ ∃ h' u', w = hm ad tc (va_up g 17 0) h' el u' v sf ∧ (∀ k, (k < 22 ∨ 26 < k) → h' k = h0 k) ∧ (F = none → h' 24 0 = nI ls.length ∧ LnAt 0 0 h' ls 0 0) ∧ (F ≠ none → KP h0 h')) := by
  have htl := hT.2.1
  have htx : ∀ (j x : Nat), t[j]? = some x → x < 256 := fun j x q => (hT.2.2 j x q).2
  refine Ct.of (by decide +kernel) (Nat.le_of_ble_eq_true rfl) ?_
  intro p e R s m args below meth c A C hr hlk
  have K3 : ∀ (mm i : Nat) (h2 : Nat → Nat → Int32) (u2 : Nat → Int32), F = none → (∀ q ∈ ls, LnG q) → (stp ls).length ≤ 121 → ls.length ≤ 60 → i ≤ ls.length → ls.length < i + mm → C3 h0 ls i h2 → Ev p l e R s m args below meth c 0 0 (EQ below (PI fun r w => r = fI F ∧ ∃ h' u', w = hm ad tc (va_up g 17 0) h' el u' v sf ∧ (∀ k, (k < 22 ∨ 26 < k) → h' k = h0 k) ∧ (F = none → h' 24 0 = nI ls.length ∧ LnAt 0 0 h' ls 0 0) ∧ (F ≠ none → KP h0 h')) args s D A) D A 3 (hm ad tc (va_up g 17 0) h2 el u2 v sf) 177 [(2, .int (nI i)), (0, .ref (ad 0)), (1, .int 0)] [] := by
    intro mm
    induction mm with
    | zero =>
      intro i h2 u2 hF hg hls hll hi1 hi2 c3
      exfalso; omega
    | succ mm ih =>
      intro i h2 u2 hF hg hls hll hi1 hi2 c3
      refine E_iload_n C dX11_readText_177 0 rfl (E_aload_n C dX11_readText_178 1 rfl (mg_11_24 C dX11_readText_179 f_X11_59 (E_iload_n C dX11_readText_182 2 rfl (ma_15 C dX11_readText_183 (vinN (k := 0) (N := 2) (by decide)) ?_))))
      refine Ev.seti (show _ = nI ls.length from c3.2.1) ?_
      refine E_icmp_ge C 233 dX11_readText_184 (by decide) (fun c184 => ?_) (fun c184 => ?_)
      ·
        have hi : i = ls.length := by
          rcases Nat.lt_or_ge i ls.length with q | q
          · exact absurd c184 (nI_ge q (by omega))
          · omega
        rw [hi] at c3
        refine E_iconst (v := -1) C dX11_readText_233 ic_m1 (E_iretI C hr hlk dX11_readText_234 ?_)
        refine ⟨by rw [hF]; rfl, h2, u2, rfl, c3.1, fun _ => c3.done, fun q => absurd hF q⟩
      ·
        have hi : i < ls.length := Classical.byContradiction fun q => c184 (nI_le (by omega) (by omega))
        obtain ⟨na, nb⟩ := c3.nar hls hi
        refine E_aload_n C dX11_readText_187 1 rfl (mg_11_25 C dX11_readText_188 f_X11_62 (E_bipush (v := 61) C dX11_readText_191 bp_61 (E_iload_n C dX11_readText_193 2 rfl (E_imul C dX11_readText_194 ?_))))
        refine Ev.seti (show (61 : Int32) * 0 = nI 0 from rfl) ?_
        refine E_iload_n C dX11_readText_195 0 rfl (E_iadd C dX11_readText_196 ?_)
        refine Ev.seti (show nI 0 + nI i = nI i from (nI_add 0 i).trans (congrArg nI (Nat.zero_add i))) ?_
        refine E_aload_n C dX11_readText_197 1 rfl (mg_11_25 C dX11_readText_198 f_X11_62 (E_bipush (v := 61) C dX11_readText_201 bp_61 (E_iload_n C dX11_readText_203 0 rfl (E_iadd C dX11_readText_204 ?_))))
        refine Ev.seti (nI_add 61 _) ?_
        refine ma_16 C dX11_readText_205 (vinN (by omega)) ?_
        rw [nI_clamp (show 61 + i < 2 ^ 31 by omega)]
        refine ms_16 C dX11_readText_206 (vinN (by omega)) ?_
        rw [nI_clamp (show i < 2 ^ 31 by omega), na]
        refine E_aload_n C dX11_readText_207 1 rfl (mg_11_26 C dX11_readText_208 f_X11_66 (E_bipush (v := 61) C dX11_readText_211 bp_61 (E_iload_n C dX11_readText_213 2 rfl (E_imul C dX11_readText_214 ?_))))
        refine Ev.seti (show (61 : Int32) * 0 = nI 0 from rfl) ?_
        refine E_iload_n C dX11_readText_215 0 rfl (E_iadd C dX11_readText_216 ?_)
        refine Ev.seti (show nI 0 + nI i = nI i from (nI_add 0 i).trans (congrArg nI (Nat.zero_add i))) ?_
        refine E_aload_n C dX11_readText_217 1 rfl (mg_11_26 C dX11_readText_218 f_X11_66 (E_bipush (v := 61) C dX11_readText_221 bp_61 (E_iload_n C dX11_readText_223 0 rfl (E_iadd C dX11_readText_224 ?_))))
        refine Ev.seti (nI_add 61 _) ?_
        refine ma_17 C dX11_readText_225 (vinN (by omega)) ?_
        rw [nI_clamp (show 61 + i < 2 ^ 31 by omega)]
        refine Ev.seti (show _ = h2 26 (61 + i) from rfl) ?_
        refine ms_17 C dX11_readText_226 (vinN (by omega)) ?_
        rw [nI_clamp (show i < 2 ^ 31 by omega), nb]
        refine E_iinc C dX11_readText_227 0 rfl (nI_1 i) (by decide) (E_goto C 177 dX11_readText_230 (by decide) ?_)
        exact Ev.sub [0, 1, 2] rfl (ih (i + 1) _ _ hF hg hls hll (by omega) (by omega) (c3.step hi hll))
  have K2 : ∀ (mm i : Nat) (h2 : Nat → Nat → Int32) (u2 : Nat → Int32), F = none → (∀ q ∈ ls, LnG q) → (stp ls).length ≤ 121 → ls.length ≤ 60 → i ≤ (stp ls).length → (stp ls).length < i + mm → u2 21 = nI (stp ls).length → C2 h0 ls i h2 → Ev p l e R s m args below meth c 0 0 (EQ below (PI fun r w => r = fI F ∧ ∃ h' u', w = hm ad tc (va_up g 17 0) h' el u' v sf ∧ (∀ k, (k < 22 ∨ 26 < k) → h' k = h0 k) ∧ (F = none → h' 24 0 = nI ls.length ∧ LnAt 0 0 h' ls 0 0) ∧ (F ≠ none → KP h0 h')) args s D A) D A 3 (hm ad tc (va_up g 17 0) h2 el u2 v sf) 105 [(2, .int (nI i)), (0, .ref (ad 0)), (1, .int 0)] [] := by
    intro mm
    induction mm with
    | zero =>
      intro i h2 u2 hF hg hls hll hi1 hi2 hu c2
      exfalso; omega
    | succ mm ih =>
      intro i h2 u2 hF hg hls hll hi1 hi2 hu c2
      refine E_iload_n C dX11_readText_105 0 rfl (E_aload_n C dX11_readText_106 1 rfl (mg_11_21 C dX11_readText_107 f_X11_172 ?_))
      refine Ev.seti hu ?_
      refine E_icmp_ge C 163 dX11_readText_110 (by decide) (fun c110 => ?_) (fun c110 => ?_)
      ·
        have hi : i = (stp ls).length := by
          rcases Nat.lt_or_ge i (stp ls).length with q | q
          · exact absurd c110 (nI_ge q (by omega))
          · omega
        rw [hi] at c2
        refine E_aload_n C dX11_readText_163 1 rfl (mg_11_24 C dX11_readText_164 f_X11_59 (E_iload_n C dX11_readText_167 2 rfl (E_aload_n C dX11_readText_168 1 rfl (mg_11_24 C dX11_readText_169 f_X11_59 (E_iconst (v := 1) C dX11_readText_172 ic_1 ?_)))))
        refine ma_15 C dX11_readText_173 (vinN (k := 1) (N := 2) (by decide)) ?_
        refine Ev.seti (show _ = nI ls.length from c2.2.1) ?_
        refine ms_15 C dX11_readText_174 (vinN (k := 0) (N := 2) (by decide)) (E_iconst (v := 0) C dX11_readText_175 ic_0 (E_istore_n C dX11_readText_176 (by decide) ?_))
        exact Ev.sub [0, 1, 2] rfl (K3 (ls.length + 1) 0 _ _ hF hg hls hll (Nat.zero_le _) (by omega) c2.done)
      ·
        have hi : i < (stp ls).length := Classical.byContradiction fun q => c110 (nI_le (by omega) (by omega))
        have na := c2.nar hg hi
        refine E_aload_n C dX11_readText_113 1 rfl (mg_11_22 C dX11_readText_114 f_X11_53 (E_sipush (v := 130) C dX11_readText_117 sp_130 (E_iload_n C dX11_readText_120 2 rfl (E_imul C dX11_readText_121 ?_))))
        refine Ev.seti (show (130 : Int32) * 0 = nI 0 from rfl) ?_
        refine E_iload_n C dX11_readText_122 0 rfl (E_iadd C dX11_readText_123 ?_)
        refine Ev.seti (show nI 0 + nI i = nI i from (nI_add 0 i).trans (congrArg nI (Nat.zero_add i))) ?_
        refine E_aload_n C dX11_readText_124 1 rfl (mg_11_22 C dX11_readText_125 f_X11_53 (E_sipush (v := 130) C dX11_readText_128 sp_130 (E_iload_n C dX11_readText_131 0 rfl (E_iadd C dX11_readText_132 ?_))))
        refine Ev.seti (nI_add 130 _) ?_
        refine ma_13 C dX11_readText_133 (vinN (by omega)) ?_
        rw [nI_clamp (show 130 + i < 2 ^ 31 by omega)]
        refine ms_13 C dX11_readText_134 (vinN (by omega)) ?_
        rw [nI_clamp (show i < 2 ^ 31 by omega), na]
        refine E_aload_n C dX11_readText_135 1 rfl (mg_11_23 C dX11_readText_136 f_X11_56 (E_sipush (v := 130) C dX11_readText_139 sp_130 (E_iload_n C dX11_readText_142 2 rfl (E_imul C dX11_readText_143 ?_))))
        refine Ev.seti (show (130 : Int32) * 0 = nI 0 from rfl) ?_
        refine E_iload_n C dX11_readText_144 0 rfl (E_iadd C dX11_readText_145 ?_)
        refine Ev.seti (show nI 0 + nI i = nI i from (nI_add 0 i).trans (congrArg nI (Nat.zero_add i))) ?_
        refine E_aload_n C dX11_readText_146 1 rfl (mg_11_23 C dX11_readText_147 f_X11_56 (E_sipush (v := 130) C dX11_readText_150 sp_130 (E_iload_n C dX11_readText_153 0 rfl (E_iadd C dX11_readText_154 ?_))))
        refine Ev.seti (nI_add 130 _) ?_
        refine ma_14 C dX11_readText_155 (vinN (by omega)) ?_
        rw [nI_clamp (show 130 + i < 2 ^ 31 by omega)]
        refine Ev.seti (show _ = h2 23 (130 + i) from rfl) ?_
        refine ms_14 C dX11_readText_156 (vinN (by omega)) ?_
        rw [nI_clamp (show i < 2 ^ 31 by omega)]
        refine E_iinc C dX11_readText_157 0 rfl (nI_1 i) (by decide) (E_goto C 105 dX11_readText_160 (by decide) ?_)
        exact Ev.sub [0, 1, 2] rfl (ih (i + 1) _ _ hF hg hls hll (by omega) (by omega) hu (c2.step hi hls))
  have K1 : ∀ (mm i : Nat) (X : LXS) (h1 : Nat → Nat → Int32) (u1 : Nat → Int32), i ≤ 120 → 120 < i + mm → OkX t X → X.2.length = i + 1 → RML h0 X h1 u1 → linXL t (exM t) (120 - i) X = X9 → Ev p l e R s m args below meth c 0 0 (EQ below (PI fun r w => r = fI F ∧ ∃ h' u', w = hm ad tc (va_up g 17 0) h' el u' v sf ∧ (∀ k, (k < 22 ∨ 26 < k) → h' k = h0 k) ∧ (F = none → h' 24 0 = nI ls.length ∧ LnAt 0 0 h' ls 0 0) ∧ (F ≠ none → KP h0 h')) args s D A) D A 3 (hm ad tc g h1 el u1 v sf) 31 [(0, .ref (ad 0)), (1, .int 0)] [] := by
    intro mm
    induction mm with
    | zero =>
      intro i X h1 u1 hi1 hi2 hok hlen hR hres
      exfalso; omega
    | succ mm ih =>
      intro i X h1 u1 hi1 hi2 hok hlen hR hres
      have hT1 : MT t g h1 := hT.kept rfl (hR.2.2.1.1 16 (by decide))
      by_cases hf : X.1.2 = none
      ·
        obtain ⟨g1, g2, g3⟩ := hok.2.2 hf
        obtain ⟨hn1, hn2, hn3, hn4, hn5⟩ := hR.2.2.2 hf
        have hsl := stp_le X.2
        have hx1 := hok.1
        have hx := ltr_le htx (X.1.1, none, [])
        have hrr : RM t h1 u1 0 (X.1.1, none, stp X.2) h1 u1 := ⟨hR.1, hR.2.1.trans (fI_neg hf), fun _ => hn1, hn2, hn3, fun _ _ _ => rfl, fun _ _ => ⟨rfl, rfl⟩, fun _ _ => rfl⟩
        refine E_aload_n C dX11_readText_31 0 rfl (mg_11_19 C dX11_readText_32 f_X11_169 ?_)
        refine Ev.seti (hR.2.1.trans (fI_neg hf)) ?_
        refine E_if_ge C 64 dX11_readText_35 (by decide) (fun c35 => ?_) (fun c35 => ?_)
        ·
          exact absurd c35 (by decide)
        ·
          refine E_aload_n C dX11_readText_38 0 rfl (E_callVI C dX11_readText_39 mv_X11_181 0 _ (m_look hT1 hrr (show X.1.1 ≤ _ from hok.1)) rfl rfl rfl (by omega) (Nat.le_of_ble_eq_true rfl) ?_)
          rintro _ _ ⟨rfl, rfl⟩
          refine E_bipush (v := 59) C dX11_readText_42 bp_59 (E_icmp_ne C 64 dX11_readText_44 (by decide) (fun c44 => ?_) (fun c44 => ?_))
          ·
            have h59 : ¬ ltr t (X.1.1, X.1.2, []) = 59 := fun q => c44 ((mI_eq (k := 59) hx (by decide)).mpr (by rw [hf] at q; exact q))
            rw [linXL_stop h59] at hres
            have eF2 : (if X.1.1 < t.length then some X.1.1 else none) = F := by
              rw [← eF, ← hres]
              unfold endX
              rw [hf]
            refine E_aload_n C dX11_readText_64 0 rfl (mg_11_19 C dX11_readText_65 f_X11_169 ?_)
            refine Ev.seti (hR.2.1.trans (fI_neg hf)) ?_
            refine E_if_ge C 86 dX11_readText_68 (by decide) (fun c68 => ?_) (fun c68 => ?_)
            ·
              exact absurd c68 (by decide)
            ·
              refine E_aload_n C dX11_readText_71 0 rfl (mg_11_18 C dX11_readText_72 f_X11_166 ?_)
              refine Ev.seti (show _ = nI X.1.1 from hR.1) ?_
              refine E_aload_n C dX11_readText_75 0 rfl (mg_11_17 C dX11_readText_76 f_X11_163 ?_)
              refine Ev.seti hT.1 ?_
              refine E_icmp_ge C 86 dX11_readText_79 (by decide) (fun c79 => ?_) (fun c79 => ?_)
              ·
                have hge : ¬ X.1.1 < t.length := fun q => nI_ge q (by omega) c79
                rw [if_neg hge] at eF2
                obtain ⟨l1, l2, l3, l4⟩ := eL eF2.symm
                rw [← hres] at l1
                refine E_aload_n C dX11_readText_86 0 rfl (E_iconst (v := 0) C dX11_readText_87 ic_0 (mp_11_17 C dX11_readText_88 fw_X11_163 (E_aload_n C dX11_readText_91 0 rfl (mg_11_19 C dX11_readText_92 f_X11_169 ?_))))
                refine Ev.seti (hR.2.1.trans (fI_neg hf)) ?_
                refine E_if_lt C 103 dX11_readText_95 (by decide) (fun c95 => ?_) (fun c95 => ?_)
                ·
                  refine E_iconst (v := 0) C dX11_readText_103 ic_0 (E_istore_n C dX11_readText_104 (by decide) ?_)
                  exact Ev.sub [0, 1, 2] rfl (K2 ((stp ls).length + 1) 0 _ _ eF2.symm l2 l3 l4 (Nat.zero_le _) (by omega) (by rw [← l1]; exact hn2) ⟨hR.2.2.1.1, by rw [← l1]; exact hn4, by rw [← l1]; exact hn3, by rw [← l1]; exact hn5, fun j hj => absurd hj (Nat.not_lt_zero _)⟩)
                ·
                  exact absurd (by decide) c95
              ·
                have hlt : X.1.1 < t.length := Classical.byContradiction fun q => c79 (nI_le (by omega) (by omega))
                rw [if_pos hlt] at eF2
                refine E_aload_n C dX11_readText_82 0 rfl (E_callVV C dX11_readText_83 mv_X11_178 0 _ (m_faulty hT1 hrr ⟨hok.1, fun x q => (by cases q), fun _ => (by show (stp X.2).length ≤ X.1.1; omega)⟩) rfl rfl rfl (by omega) (Nat.le_of_ble_eq_true rfl) ?_)
                rintro _ ⟨h2, u2, rfl, hr2⟩
                refine E_aload_n C dX11_readText_86 0 rfl (E_iconst (v := 0) C dX11_readText_87 ic_0 (mp_11_17 C dX11_readText_88 fw_X11_163 (E_aload_n C dX11_readText_91 0 rfl (mg_11_19 C dX11_readText_92 f_X11_169 ?_))))
                refine Ev.seti (show _ = nI X.1.1 from hr2.2.1) ?_
                refine E_if_lt C 103 dX11_readText_95 (by decide) (fun c95 => ?_) (fun c95 => ?_)
                ·
                  exact absurd c95 (nI_pos (by omega))
                ·
                  refine E_aload_n C dX11_readText_98 0 rfl (mg_11_19 C dX11_readText_99 f_X11_169 (E_iretI C hr hlk dX11_readText_102 ?_))
                  refine ⟨?_, h2, u2, rfl, (hR.2.2.1.rm hr2).1, fun q => ?_, fun _ => hR.2.2.1.rm hr2⟩
                  · rw [← eF2]
                    exact hr2.2.1
                  · rw [← eF2] at q
                    cases q
          ·
            have h59 : ltr t (X.1.1, none, []) = 59 := (mI_eq (k := 59) hx (by decide)).mp c44
            have hin := ltr_in (t := t) (s := (X.1.1, none, [])) (by omega)
            rw [show 120 - i = (120 - (i + 1)) + 1 by omega, linXL_t (by rw [hf]; exact h59), hf] at hres
            have okn := linX_ok (b := 0) (wf_exM t) hin.2.1 g1 g2 g3
            obtain ⟨r9, er⟩ : ∃ r, exM t (X.1.1 + 1, none, []) = r := ⟨_, rfl⟩
            obtain ⟨w9, ew⟩ : ∃ r, exM t (r9.1 + 1, none, []) = r := ⟨_, rfl⟩
            refine E_aload_n C dX11_readText_47 0 rfl (E_dup C dX11_readText_48 rfl (mg_11_18 C dX11_readText_49 f_X11_166 ?_))
            refine Ev.seti (show _ = nI X.1.1 from hR.1) ?_
            refine E_iconst (v := 1) C dX11_readText_52 ic_1 (E_iadd C dX11_readText_53 ?_)
            refine Ev.seti (nI_1 _) ?_
            refine mp_11_18 C dX11_readText_54 fw_X11_166 (E_aload_n C dX11_readText_57 0 rfl (E_callVV C dX11_readText_58 mv_X11_218 0 _ (m_line (a := X.1.1 + 1) (ls := X.2) hT (show RML h0 ((X.1.1 + 1, none), X.2) h1 (va_up u1 18 (nI (X.1.1 + 1))) from ⟨rfl, hR.2.1.trans (fI_neg hf), hR.2.2.1, fun _ => hR.2.2.2 hf⟩) hin.2.1 g2 g3 er ew) rfl rfl rfl (by decide) (Nat.le_of_ble_eq_true rfl) ?_))
            rintro _ ⟨h2, u2, rfl, hR2⟩
            rw [← lin_if er ew] at hR2
            refine E_goto C 31 dX11_readText_61 (by decide) ?_
            exact Ev.sub [0, 1] rfl (ih (i + 1) _ _ _ (by omega) (by omega) okn (lin_len.trans (by show X.2.length + 1 = _; omega)) hR2 hres)
      ·
        obtain ⟨ff, hff⟩ := Option.ne_none_iff_exists'.mp hf
        have hfl := hok.2.1 ff hff
        rw [linXL_stop (by rw [ltr_some (s := (X.1.1, X.1.2, [])) hff]; decide)] at hres
        have eF2 : some ff = F := by
          rw [← eF, ← hres]
          unfold endX
          rw [hff]
        refine E_aload_n C dX11_readText_31 0 rfl (mg_11_19 C dX11_readText_32 f_X11_169 ?_)
        refine Ev.seti (show u1 19 = nI ff by rw [hR.2.1, hff]; rfl) ?_
        refine E_if_ge C 64 dX11_readText_35 (by decide) (fun c35 => ?_) (fun c35 => ?_)
        ·
          refine E_aload_n C dX11_readText_64 0 rfl (mg_11_19 C dX11_readText_65 f_X11_169 ?_)
          refine Ev.seti (show u1 19 = nI ff by rw [hR.2.1, hff]; rfl) ?_
          refine E_if_ge C 86 dX11_readText_68 (by decide) (fun c68 => ?_) (fun c68 => ?_)
          ·
            refine E_aload_n C dX11_readText_86 0 rfl (E_iconst (v := 0) C dX11_readText_87 ic_0 (mp_11_17 C dX11_readText_88 fw_X11_163 (E_aload_n C dX11_readText_91 0 rfl (mg_11_19 C dX11_readText_92 f_X11_169 ?_))))
            refine Ev.seti (show u1 19 = nI ff by rw [hR.2.1, hff]; rfl) ?_
            refine E_if_lt C 103 dX11_readText_95 (by decide) (fun c95 => ?_) (fun c95 => ?_)
            ·
              exact absurd c95 (nI_pos (by omega))
            ·
              refine E_aload_n C dX11_readText_98 0 rfl (mg_11_19 C dX11_readText_99 f_X11_169 (E_iretI C hr hlk dX11_readText_102 ?_))
              refine ⟨?_, h1, u1, rfl, hR.2.2.1.1, fun q => ?_, fun _ => hR.2.2.1⟩
              · rw [← eF2, hR.2.1, hff]
              · rw [← eF2] at q
                cases q
          ·
            exact absurd (nI_pos' (by omega)) c68
        ·
          exact absurd (nI_pos' (by omega)) c35
  obtain ⟨r9, er⟩ : ∃ r, exM t (0, none, []) = r := ⟨_, rfl⟩
  obtain ⟨w9, ew⟩ : ∃ r, exM t (r9.1 + 1, none, []) = r := ⟨_, rfl⟩
  refine E_aload_n C dX11_readText_0 0 rfl (E_iconst (v := 0) C dX11_readText_1 ic_0 (mp_11_18 C dX11_readText_2 fw_X11_166 (E_aload_n C dX11_readText_5 0 rfl (E_iconst (v := -1) C dX11_readText_6 ic_m1 (mp_11_19 C dX11_readText_7 fw_X11_169 ?_)))))
  refine E_aload_n C dX11_readText_10 0 rfl (E_iconst (v := 0) C dX11_readText_11 ic_0 (mp_11_20 C dX11_readText_12 fw_X11_175 (E_aload_n C dX11_readText_15 0 rfl (E_iconst (v := 0) C dX11_readText_16 ic_0 (mp_11_21 C dX11_readText_17 fw_X11_172 ?_)))))
  refine E_aload_n C dX11_readText_20 0 rfl (mg_11_24 C dX11_readText_21 f_X11_59 (E_iconst (v := 1) C dX11_readText_24 ic_1 (E_iconst (v := 0) C dX11_readText_25 ic_0 (ms_15 C dX11_readText_26 (vinN (k := 1) (N := 2) (by decide)) (E_aload_n C dX11_readText_27 0 rfl ?_)))))
  refine E_callVV C dX11_readText_28 mv_X11_218 0 _ (m_line (a := 0) (ls := []) hT (show RML h0 ((0, none), []) _ _ from ⟨rfl, rfl, ⟨fun k hk => vun (by omega), fun _ _ => ⟨rfl, rfl⟩, fun _ _ => ⟨rfl, rfl⟩, rfl⟩, fun _ => ⟨rfl, rfl, fun j a b q => (by cases q), rfl, trivial⟩⟩) (Nat.zero_le _) (Nat.le_refl _) (Nat.le_refl _) er ew) rfl rfl rfl (by decide) (Nat.le_of_ble_eq_true rfl) ?_
  rintro _ ⟨h2, u2, rfl, hR2⟩
  rw [← lin_if er ew] at hR2
  exact Ev.sub [0, 1] rfl (K1 121 0 _ _ _ (Nat.zero_le _) (by omega) (linX_ok (b := 0) (wf_exM t) (Nat.zero_le _) (fun q h => by cases h) (Nat.le_refl _) (Nat.le_refl _)) lin_len hR2 eX)
theorem rd_law {t : List Nat} (ht : t.length ≤ 120) : (ftT t = none → (txtX t (exM t)).2 = lnT t ∧ (∀ q ∈ lnT t, LnG q) ∧ (stp (lnT t)).length ≤ 121 ∧ (lnT t).length ≤ 60) := fun h => by
  obtain ⟨-, k2, k3, k4⟩ := endC_c h
  have k5 := stp_le (lnT t)
  refine ⟨?_, k2, by omega, by omega⟩
  rw [(ftM t).2 h]
  rfl
theorem LnAt.all {cb lb : Nat} {h : Nat → Nat → Int32} : ∀ {ls : List (CD × CD)} {s i : Nat}, LnAt cb lb h ls s i → AtM h (cb + s) (stp ls)
  | [], _, _, _ => fun j a b e => by cases e
  | q :: r, s, i, m => by
    obtain ⟨m1, m2, m3, m4⟩ := m
    have ih := LnAt.all m4
    have e1 : stp (q :: r) = (q.1 ++ q.2) ++ stp r := rfl
    rw [e1]
    intro j a b e
    rcases Nat.lt_or_ge j (q.1 ++ q.2).length with z | z
    · rw [List.getElem?_append_left z] at e
      exact m3 j a b e
    · rw [List.getElem?_append_right z] at e
      have y := ih _ a b e
      rw [List.length_append] at z y
      rw [show cb + (s + q.1.length + q.2.length) + (j - (q.1.length + q.2.length)) = cb + s + j by omega] at y
      exact y
set_option maxRecDepth 100000 in
set_option maxHeartbeats 4000000 in
theorem q_law {l : Launch} {D : va_G} {tc tt ad : Nat → Nat} {S : STT} {w0 : va_W} (hM : MR ad tc S w0)  : Ct l yX11_law cX11_law 2 (some .int) 47 D tc tt [.ref (ad 0)] (w0) (PI fun r w => r = aLaw S ∧ MR ad tc (nLaw S) w) := by
  obtain ⟨g, h, el, u, v, sf, rfl, M⟩ := hM
  have hA := M.1
  have hn := M.1.1
  have hn8 := M.1.2.1
  have hT := M.2.2.1
  have htl := hT.2.1
  have eX : linXL S.2.2.1 (exM S.2.2.1) 120 (linX S.2.2.1 (exM S.2.2.1) ((0, none), [])) = txtX S.2.2.1 (exM S.2.2.1) := by unfold txtX; rfl
  have eF := (ftM S.2.2.1).1
  have eL := rd_law htl
  generalize txtX S.2.2.1 (exM S.2.2.1) = X9 at eX eF eL
  generalize eq1 : ftT S.2.2.1 = F at eF eL
  generalize eq2 : lnT S.2.2.1 = ls at eL
  refine Ct.of (by decide +kernel) (Nat.le_of_ble_eq_true rfl) ?_
  intro p e R s m args below meth c A C hr hlk
  refine E_aload_n C dX11_law_0 0 rfl (E_iconst (v := 0) C dX11_law_1 ic_0 (E_callVI C dX11_law_2 mv_X11_227 0 _ (m_readText (F := F) (ls := ls) M.2.2.1 eX eF eL) rfl rfl rfl (by decide) (Nat.le_of_ble_eq_true rfl) ?_))
  rintro _ _ ⟨rfl, h', u', rfl, k1, k2, k3⟩
  refine E_istore_n C dX11_law_5 (by decide) (E_iload_n C dX11_law_6 0 rfl (E_if_lt C 15 dX11_law_7 (by decide) (fun c7 => ?_) (fun c7 => ?_)))
  ·
    have hF : F = none := by
      cases F with
      | none => rfl
      | some x => exact absurd c7 (nI_pos (by have := ft_le eq1; omega))
    refine E_aload_n C dX11_law_15 1 rfl (E_iconst (v := 1) C dX11_law_16 ic_1 (mp_11_29 C dX11_law_17 fw_X11_230 rfl rfl (E_iconst (v := 1) C dX11_law_20 ic_1 (E_iretI C hr hlk dX11_law_21 ?_))))
    subst hF
    have ha : aLaw S = 1 := by unfold aLaw; rw [eq1]
    have hnx : nLaw S = ((S.1.1, S.1.2.1, lawL (lnT S.2.2.1)), S.2.1, [], S.2.2.2) := by unfold nLaw; rw [eq1]
    rw [hnx]
    obtain ⟨z1, z2, z3, z4⟩ := eL rfl
    obtain ⟨q1, q2⟩ := k2 rfl
    rw [eq2]
    refine ⟨ha.symm, ⟨_, h', el, u', v, sf, rfl, ?_⟩⟩
    obtain ⟨x1, x2, x3, x4, x5, x6, x7, x8⟩ := M
    exact ⟨x1.kept rfl rfl (fun k q1 q2 => k1 k (by omega)), x2.kept rfl rfl (fun k q1 q2 => k1 k (by omega)), ⟨rfl, Nat.zero_le _, fun j x q => (by cases q)⟩, x4.kept (k1 42 (by decide)), x5.kept rfl (k1 43 (by decide)), x6.kept rfl rfl (k1 46 (by decide)) (k1 48 (by decide)), x7.kept (k1 49 (by decide)) (k1 50 (by decide)), Or.inr ⟨rfl, ls, z2, by omega, by omega, q1, q2, rfl⟩⟩
  ·
    have hF : ∃ x, F = some x := by
      cases F with
      | none => exact absurd (by decide) c7
      | some x => exact ⟨x, rfl⟩
    obtain ⟨x, hF⟩ := hF
    refine E_bipush (v := -100) C dX11_law_10 bp_m100 (E_iload_n C dX11_law_12 0 rfl (E_isub C dX11_law_13 (E_iretI C hr hlk dX11_law_14 ?_)))
    subst hF
    have ha : aLaw S = -100 - nI x := by unfold aLaw; rw [eq1]
    have hnx : nLaw S = (S.1, S.2.1, [], S.2.2.2) := by unfold nLaw; rw [eq1]
    rw [hnx]
    refine ⟨ha.symm, ⟨_, h', el, u', v, sf, rfl, ?_⟩⟩
    obtain ⟨x1, x2, x3, x4, x5, x6, x7, x8⟩ := M
    have kp := k3 (fun q => by cases q)
    refine ⟨x1.kept rfl rfl (fun k q1 q2 => k1 k (by omega)), x2.kept rfl rfl (fun k q1 q2 => k1 k (by omega)), ⟨rfl, Nat.zero_le _, fun j x q => (by cases q)⟩, x4.kept (k1 42 (by decide)), x5.kept rfl (k1 43 (by decide)), x6.kept rfl rfl (k1 46 (by decide)) (k1 48 (by decide)), x7.kept (k1 49 (by decide)) (k1 50 (by decide)), ?_⟩
    rcases x8 with ⟨y1, y2⟩ | ⟨y1, ls0, y2, y3, y4, y5, y6, y7⟩
    · exact Or.inl ⟨y1, y2⟩
    · refine Or.inr ⟨y1, ls0, y2, y3, y4, kp.2.2.2.trans y5, LnAt.copy ls0 0 0 y6 (fun j hj => ?_) ?_, y7⟩
      · rw [show 0 + 0 + j = j by omega]
        exact kp.2.2.1 j (by omega)
      · have z := LnAt.all y6
        intro j a b e
        have hj := (List.getElem?_eq_some_iff.mp e).1
        have q := kp.2.1 (0 + 0 + j) (by omega)
        exact ⟨q.1.trans (z j a b e).1, q.2.trans (z j a b e).2⟩
