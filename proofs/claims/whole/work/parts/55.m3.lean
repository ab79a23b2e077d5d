/-! the reference: a law worked out -/
theorem div_m1 (a : Int32) : a / -1 = -a := by
  refine Int32.toInt_inj.mp ?_
  rw [Int32.toInt_div, show (-1 : Int32).toInt = -1 from rfl, Int32.toInt_neg, Int.tdiv_neg, Int.tdiv_one]
theorem rem_m1 (a : Int32) : a - a / -1 * -1 = 0 := by
  rw [div_m1, Int32.neg_mul_neg, Int32.mul_one, Int32.sub_self]
theorem ex1_cases {nm : Nat → Int32} {a b : Nat} {L L1 : List Int32} (h : ex1 nm a b L = some L1) : (a = 48 ∧ L1 = nI b :: L) ∨ (a = 110 ∧ b < 5 ∧ L1 = nm b :: L) ∨ (a = 33 ∧ ∃ x q, L = x :: q ∧ L1 = (if x = 0 then 1 else 0) :: q) ∨ (a = 126 ∧ ∃ x q, L = x :: q ∧ L1 = -x :: q) ∨ (bnO a = true ∧ ∃ x y q, L = y :: x :: q ∧ L1 = togF (nI a) x y :: q) := by
  unfold ex1 at h
  by_cases a1 : a = 48
  · rw [if_pos a1] at h; cases h; exact Or.inl ⟨a1, rfl⟩
  · rw [if_neg a1] at h
    by_cases a2 : a = 110
    · rw [if_pos a2] at h
      by_cases hb : b < 5
      · rw [if_pos hb] at h; cases h; exact Or.inr (Or.inl ⟨a2, hb, rfl⟩)
      · rw [if_neg hb] at h; cases h
    · rw [if_neg a2] at h
      by_cases a3 : a = 33
      · rw [if_pos a3] at h
        cases L with
        | nil => cases h
        | cons x q => cases h; exact Or.inr (Or.inr (Or.inl ⟨a3, x, q, rfl, rfl⟩))
      · rw [if_neg a3] at h
        by_cases a4 : a = 126
        · rw [if_pos a4] at h
          cases L with
          | nil => cases h
          | cons x q => cases h; exact Or.inr (Or.inr (Or.inr (Or.inl ⟨a4, x, q, rfl, rfl⟩)))
        · rw [if_neg a4] at h
          by_cases a5 : bnO a = true
          · rw [if_pos a5] at h
            match L, h with
            | [], h => cases h
            | [_], h => cases h
            | y :: x :: q, h => cases h; exact Or.inr (Or.inr (Or.inr (Or.inr ⟨a5, x, y, q, rfl, rfl⟩)))
          · rw [if_neg a5] at h; cases h
/-- the reference's pile holds a list, its last on top -/
def Rpl (st : Nat → Int32) (L : List Int32) : Prop := ∀ (k : Nat) (x : Int32), L[k]? = some x → st (L.length - 1 - k) = x
theorem Rpl.push {st : Nat → Int32} {L : List Int32} (h : Rpl st L) (v : Int32) : Rpl (upd st L.length v) (v :: L) := fun k x e => by
  cases k with
  | zero =>
    cases e
    exact if_pos rfl
  | succ k =>
    have hk : k < L.length := (List.getElem?_eq_some_iff.mp (show L[k]? = some x from e)).1
    show upd st L.length v (L.length + 1 - 1 - (k + 1)) = x
    exact (if_neg (by omega)).trans ((congrArg st (by omega)).trans (h k x e))
theorem Rpl.top {st : Nat → Int32} {L : List Int32} {x : Int32} (h : Rpl st (x :: L)) (v : Int32) : st L.length = x ∧ Rpl (upd st L.length v) (v :: L) := by
  refine ⟨h 0 x rfl, fun k y e => ?_⟩
  cases k with
  | zero =>
    cases e
    exact if_pos rfl
  | succ k =>
    have hk : k < L.length := (List.getElem?_eq_some_iff.mp (show L[k]? = some y from e)).1
    show upd st L.length v (L.length + 1 - 1 - (k + 1)) = y
    exact (if_neg (by omega)).trans (h (k + 1) y e)
theorem Rpl.two {st : Nat → Int32} {L : List Int32} {x y : Int32} (h : Rpl st (y :: x :: L)) (v : Int32) : st L.length = x ∧ st (L.length + 1) = y ∧ Rpl (upd st L.length v) (v :: L) := by
  refine ⟨h 1 x rfl, h 0 y rfl, fun k z e => ?_⟩
  cases k with
  | zero =>
    cases e
    exact if_pos rfl
  | succ k =>
    have hk : k < L.length := (List.getElem?_eq_some_iff.mp (show L[k]? = some z from e)).1
    show upd st L.length v (L.length + 1 - 1 - (k + 1)) = z
    refine (if_neg (by omega)).trans ?_
    have q := h (k + 2) z e
    have e2 : (y :: x :: L).length - 1 - (k + 2) = L.length + 1 - 1 - (k + 1) := by
      show L.length + 1 + 1 - 1 - (k + 2) = _
      omega
    rw [e2] at q
    exact q
theorem exO_drop {nm : Nat → Int32} {c : CD} {i : Nat} {L r : List Int32} (hi : i < c.length) (h : exO nm (c.drop i) L = some r) : ∃ (a b : Nat) (L1 : List Int32), c[i]? = some (a, b) ∧ ex1 nm a b L = some L1 ∧ exO nm (c.drop (i + 1)) L1 = some r := by
  rw [List.drop_eq_getElem_cons hi] at h
  have h' : (match ex1 nm (c[i]).1 (c[i]).2 L with | some st' => exO nm (c.drop (i + 1)) st' | none => none) = some r := h
  cases e : ex1 nm (c[i]).1 (c[i]).2 L with
  | none => rw [e] at h'; cases h'
  | some L1 =>
    rw [e] at h'
    exact ⟨(c[i]).1, (c[i]).2, L1, List.getElem?_eq_getElem hi, e, h'⟩
theorem held_alt (x : Int32) : (if x < 1 then 1 else if 60 < x then 60 else x) = heldF x := by
  unfold heldF
  have h60 : (60 : Int32).toInt = 60 := by decide
  have h1 : (1 : Int32).toInt = 1 := by decide
  by_cases a : x < 60
  · rw [if_pos a]
    by_cases b : x < 1
    · rw [if_pos b, if_pos b]
    · rw [if_neg b, if_neg b, if_neg (fun q => Int32.lt_irrefl (Int32.lt_trans a q))]
  · rw [if_neg a, if_neg (show ¬ (60 : Int32) < 1 by decide)]
    have b : ¬ x < 1 := fun q => a (Int32.lt_trans q (by decide))
    rw [if_neg b]
    by_cases e : 60 < x
    · rw [if_pos e]
    · rw [if_neg e]
      exact Int32.le_antisymm (Int32.not_lt.mp e) (Int32.not_lt.mp a)
set_option maxRecDepth 100000 in
set_option maxHeartbeats 4000000 in
theorem m_twoOf {l : Launch} {D : va_G} {tc tt : Nat → Nat} {ws : va_W} (x a b : Int32) (hx : (x = 37 ∨ x = 38 ∨ x = 42 ∨ x = 43 ∨ x = 45 ∨ x = 47 ∨ x = 60 ∨ x = 61 ∨ x = 62 ∨ x = 124)) : Ct l yX11_twoOf cX11_twoOf 3 (some .int) 1 D tc tt [.int x, .int a, .int b] (ws) (PI fun r w => r = togF x a b ∧ w = ws) := by
  refine Ct.of (by decide +kernel) (Nat.le_of_ble_eq_true rfl) ?_
  intro p e R s m args below meth c A C hr hlk
  refine E_iload_n C dX11_twoOf_0 0 rfl ?_
  by_cases e1 : x = 37
  ·
    subst e1
    refine E_tableIn C 154 dX11_twoOf_1 (by decide) (by decide) rfl (by decide) (E_iload_n C dX11_twoOf_154 2 rfl (E_if_eq C 163 dX11_twoOf_155 (by decide) (fun c155 => ?_) (fun c155 => ?_)))
    ·
      refine E_iconst (v := 0) C dX11_twoOf_163 ic_0 (E_goto C 170 dX11_twoOf_164 (by decide) (E_iretI C hr hlk dX11_twoOf_170 ?_))
      refine ⟨?_, rfl⟩
      show 0 = (if b = 0 then 0 else a - a / b * b)
      rw [if_pos c155]
    ·
      refine E_iload_n C dX11_twoOf_158 2 rfl (E_iconst (v := -1) C dX11_twoOf_159 ic_m1 (E_icmp_ne C 167 dX11_twoOf_160 (by decide) (fun c160 => ?_) (fun c160 => ?_)))
      ·
        refine E_iload_n C dX11_twoOf_167 1 rfl (E_iload_n C dX11_twoOf_168 2 rfl (E_irem C dX11_twoOf_169 (by assumption) (E_iretI C hr hlk dX11_twoOf_170 ?_)))
        refine ⟨?_, rfl⟩
        show a - a / b * b = (if b = 0 then 0 else a - a / b * b)
        rw [if_neg c155]
      ·
        refine E_iconst (v := 0) C dX11_twoOf_163 ic_0 (E_goto C 170 dX11_twoOf_164 (by decide) (E_iretI C hr hlk dX11_twoOf_170 ?_))
        refine ⟨?_, rfl⟩
        show 0 = (if b = 0 then 0 else a - a / b * b)
        rw [if_neg c155, c160, rem_m1]
  by_cases e1_2 : x = 38
  ·
    subst e1_2
    refine E_tableIn C 204 dX11_twoOf_1 (by decide) (by decide) rfl (by decide) (E_iload_n C dX11_twoOf_204 1 rfl (E_if_eq C 216 dX11_twoOf_205 (by decide) (fun c205 => ?_) (fun c205 => ?_)))
    ·
      refine E_iconst (v := 0) C dX11_twoOf_216 ic_0 (E_iretI C hr hlk dX11_twoOf_217 ?_)
      refine ⟨?_, rfl⟩
      show 0 = (if a = 0 then 0 else if b = 0 then 0 else 1)
      rw [if_pos c205]
    ·
      refine E_iload_n C dX11_twoOf_208 2 rfl (E_if_eq C 216 dX11_twoOf_209 (by decide) (fun c209 => ?_) (fun c209 => ?_))
      ·
        refine E_iconst (v := 0) C dX11_twoOf_216 ic_0 (E_iretI C hr hlk dX11_twoOf_217 ?_)
        refine ⟨?_, rfl⟩
        show 0 = (if a = 0 then 0 else if b = 0 then 0 else 1)
        rw [if_neg c205, if_pos c209]
      ·
        refine E_iconst (v := 1) C dX11_twoOf_212 ic_1 (E_goto C 217 dX11_twoOf_213 (by decide) (E_iretI C hr hlk dX11_twoOf_217 ?_))
        refine ⟨?_, rfl⟩
        show 1 = (if a = 0 then 0 else if b = 0 then 0 else 1)
        rw [if_neg c205, if_neg c209]
  by_cases e1_3 : x = 39
  ·
    subst e1_3
    refine E_tableIn C 218 dX11_twoOf_1 (by decide) (by decide) rfl (by decide) ?_
    exact absurd hx (by decide)
  by_cases e1_4 : x = 40
  ·
    subst e1_4
    refine E_tableIn C 218 dX11_twoOf_1 (by decide) (by decide) rfl (by decide) ?_
    exact absurd hx (by decide)
  by_cases e1_5 : x = 41
  ·
    subst e1_5
    refine E_tableIn C 218 dX11_twoOf_1 (by decide) (by decide) rfl (by decide) ?_
    exact absurd hx (by decide)
  by_cases e1_6 : x = 42
  ·
    subst e1_6
    refine E_tableIn C 128 dX11_twoOf_1 (by decide) (by decide) rfl (by decide) (E_iload_n C dX11_twoOf_128 1 rfl (E_iload_n C dX11_twoOf_129 2 rfl (E_imul C dX11_twoOf_130 (E_iretI C hr hlk dX11_twoOf_131 ?_))))
    exact ⟨rfl, rfl⟩
  by_cases e1_7 : x = 43
  ·
    subst e1_7
    refine E_tableIn C 120 dX11_twoOf_1 (by decide) (by decide) rfl (by decide) (E_iload_n C dX11_twoOf_120 1 rfl (E_iload_n C dX11_twoOf_121 2 rfl (E_iadd C dX11_twoOf_122 (E_iretI C hr hlk dX11_twoOf_123 ?_))))
    exact ⟨rfl, rfl⟩
  by_cases e1_8 : x = 44
  ·
    subst e1_8
    refine E_tableIn C 218 dX11_twoOf_1 (by decide) (by decide) rfl (by decide) ?_
    exact absurd hx (by decide)
  by_cases e1_9 : x = 45
  ·
    subst e1_9
    refine E_tableIn C 124 dX11_twoOf_1 (by decide) (by decide) rfl (by decide) (E_iload_n C dX11_twoOf_124 1 rfl (E_iload_n C dX11_twoOf_125 2 rfl (E_isub C dX11_twoOf_126 (E_iretI C hr hlk dX11_twoOf_127 ?_))))
    exact ⟨rfl, rfl⟩
  by_cases e1_10 : x = 46
  ·
    subst e1_10
    refine E_tableIn C 218 dX11_twoOf_1 (by decide) (by decide) rfl (by decide) ?_
    exact absurd hx (by decide)
  by_cases e1_11 : x = 47
  ·
    subst e1_11
    refine E_tableIn C 132 dX11_twoOf_1 (by decide) (by decide) rfl (by decide) (E_iload_n C dX11_twoOf_132 2 rfl (E_if_ne C 140 dX11_twoOf_133 (by decide) (fun c133 => ?_) (fun c133 => ?_)))
    ·
      refine E_iload_n C dX11_twoOf_140 2 rfl (E_iconst (v := -1) C dX11_twoOf_141 ic_m1 (E_icmp_ne C 150 dX11_twoOf_142 (by decide) (fun c142 => ?_) (fun c142 => ?_)))
      ·
        refine E_iload_n C dX11_twoOf_150 1 rfl (E_iload_n C dX11_twoOf_151 2 rfl (E_idiv C dX11_twoOf_152 (by assumption) (E_iretI C hr hlk dX11_twoOf_153 ?_)))
        refine ⟨?_, rfl⟩
        show a / b = (if b = 0 then 0 else a / b)
        rw [if_neg c133]
      ·
        refine E_iload_n C dX11_twoOf_145 1 rfl (E_ineg C dX11_twoOf_146 (E_goto C 153 dX11_twoOf_147 (by decide) (E_iretI C hr hlk dX11_twoOf_153 ?_)))
        refine ⟨?_, rfl⟩
        show -a = (if b = 0 then 0 else a / b)
        rw [if_neg c133, c142, div_m1]
    ·
      refine E_iconst (v := 0) C dX11_twoOf_136 ic_0 (E_goto C 153 dX11_twoOf_137 (by decide) (E_iretI C hr hlk dX11_twoOf_153 ?_))
      refine ⟨?_, rfl⟩
      show 0 = (if b = 0 then 0 else a / b)
      rw [if_pos c133]
  by_cases e1_12 : x = 48
  ·
    subst e1_12
    refine E_tableIn C 218 dX11_twoOf_1 (by decide) (by decide) rfl (by decide) ?_
    exact absurd hx (by decide)
  by_cases e1_13 : x = 49
  ·
    subst e1_13
    refine E_tableIn C 218 dX11_twoOf_1 (by decide) (by decide) rfl (by decide) ?_
    exact absurd hx (by decide)
  by_cases e1_14 : x = 50
  ·
    subst e1_14
    refine E_tableIn C 218 dX11_twoOf_1 (by decide) (by decide) rfl (by decide) ?_
    exact absurd hx (by decide)
  by_cases e1_15 : x = 51
  ·
    subst e1_15
    refine E_tableIn C 218 dX11_twoOf_1 (by decide) (by decide) rfl (by decide) ?_
    exact absurd hx (by decide)
  by_cases e1_16 : x = 52
  ·
    subst e1_16
    refine E_tableIn C 218 dX11_twoOf_1 (by decide) (by decide) rfl (by decide) ?_
    exact absurd hx (by decide)
  by_cases e1_17 : x = 53
  ·
    subst e1_17
    refine E_tableIn C 218 dX11_twoOf_1 (by decide) (by decide) rfl (by decide) ?_
    exact absurd hx (by decide)
  by_cases e1_18 : x = 54
  ·
    subst e1_18
    refine E_tableIn C 218 dX11_twoOf_1 (by decide) (by decide) rfl (by decide) ?_
    exact absurd hx (by decide)
  by_cases e1_19 : x = 55
  ·
    subst e1_19
    refine E_tableIn C 218 dX11_twoOf_1 (by decide) (by decide) rfl (by decide) ?_
    exact absurd hx (by decide)
  by_cases e1_20 : x = 56
  ·
    subst e1_20
    refine E_tableIn C 218 dX11_twoOf_1 (by decide) (by decide) rfl (by decide) ?_
    exact absurd hx (by decide)
  by_cases e1_21 : x = 57
  ·
    subst e1_21
    refine E_tableIn C 218 dX11_twoOf_1 (by decide) (by decide) rfl (by decide) ?_
    exact absurd hx (by decide)
  by_cases e1_22 : x = 58
  ·
    subst e1_22
    refine E_tableIn C 218 dX11_twoOf_1 (by decide) (by decide) rfl (by decide) ?_
    exact absurd hx (by decide)
  by_cases e1_23 : x = 59
  ·
    subst e1_23
    refine E_tableIn C 218 dX11_twoOf_1 (by decide) (by decide) rfl (by decide) ?_
    exact absurd hx (by decide)
  by_cases e1_24 : x = 60
  ·
    subst e1_24
    refine E_tableIn C 171 dX11_twoOf_1 (by decide) (by decide) rfl (by decide) (E_iload_n C dX11_twoOf_171 1 rfl (E_iload_n C dX11_twoOf_172 2 rfl (E_icmp_ge C 180 dX11_twoOf_173 (by decide) (fun c173 => ?_) (fun c173 => ?_))))
    ·
      refine E_iconst (v := 0) C dX11_twoOf_180 ic_0 (E_iretI C hr hlk dX11_twoOf_181 ?_)
      refine ⟨?_, rfl⟩
      show 0 = (if a < b then 1 else 0)
      exact (if_neg (Int32.not_lt.mpr c173)).symm
    ·
      refine E_iconst (v := 1) C dX11_twoOf_176 ic_1 (E_goto C 181 dX11_twoOf_177 (by decide) (E_iretI C hr hlk dX11_twoOf_181 ?_))
      refine ⟨?_, rfl⟩
      show 1 = (if a < b then 1 else 0)
      exact (if_pos (Int32.not_le.mp c173)).symm
  by_cases e1_25 : x = 61
  ·
    subst e1_25
    refine E_tableIn C 182 dX11_twoOf_1 (by decide) (by decide) rfl (by decide) (E_iload_n C dX11_twoOf_182 1 rfl (E_iload_n C dX11_twoOf_183 2 rfl (E_icmp_ne C 191 dX11_twoOf_184 (by decide) (fun c184 => ?_) (fun c184 => ?_))))
    ·
      refine E_iconst (v := 0) C dX11_twoOf_191 ic_0 (E_iretI C hr hlk dX11_twoOf_192 ?_)
      refine ⟨?_, rfl⟩
      show 0 = (if a = b then 1 else 0)
      exact (if_neg c184).symm
    ·
      refine E_iconst (v := 1) C dX11_twoOf_187 ic_1 (E_goto C 192 dX11_twoOf_188 (by decide) (E_iretI C hr hlk dX11_twoOf_192 ?_))
      refine ⟨?_, rfl⟩
      show 1 = (if a = b then 1 else 0)
      exact (if_pos c184).symm
  by_cases e1_26 : x = 62
  ·
    subst e1_26
    refine E_tableIn C 193 dX11_twoOf_1 (by decide) (by decide) rfl (by decide) (E_iload_n C dX11_twoOf_193 1 rfl (E_iload_n C dX11_twoOf_194 2 rfl (E_icmp_le C 202 dX11_twoOf_195 (by decide) (fun c195 => ?_) (fun c195 => ?_))))
    ·
      refine E_iconst (v := 0) C dX11_twoOf_202 ic_0 (E_iretI C hr hlk dX11_twoOf_203 ?_)
      refine ⟨?_, rfl⟩
      show 0 = (if b < a then 1 else 0)
      exact (if_neg (Int32.not_lt.mpr c195)).symm
    ·
      refine E_iconst (v := 1) C dX11_twoOf_198 ic_1 (E_goto C 203 dX11_twoOf_199 (by decide) (E_iretI C hr hlk dX11_twoOf_203 ?_))
      refine ⟨?_, rfl⟩
      show 1 = (if b < a then 1 else 0)
      exact (if_pos (Int32.not_le.mp c195)).symm
  have oe1 := ntoi (n := 37) rfl e1
  have oe1_2 := ntoi (n := 38) rfl e1_2
  have oe1_3 := ntoi (n := 39) rfl e1_3
  have oe1_4 := ntoi (n := 40) rfl e1_4
  have oe1_5 := ntoi (n := 41) rfl e1_5
  have oe1_6 := ntoi (n := 42) rfl e1_6
  have oe1_7 := ntoi (n := 43) rfl e1_7
  have oe1_8 := ntoi (n := 44) rfl e1_8
  have oe1_9 := ntoi (n := 45) rfl e1_9
  have oe1_10 := ntoi (n := 46) rfl e1_10
  have oe1_11 := ntoi (n := 47) rfl e1_11
  have oe1_12 := ntoi (n := 48) rfl e1_12
  have oe1_13 := ntoi (n := 49) rfl e1_13
  have oe1_14 := ntoi (n := 50) rfl e1_14
  have oe1_15 := ntoi (n := 51) rfl e1_15
  have oe1_16 := ntoi (n := 52) rfl e1_16
  have oe1_17 := ntoi (n := 53) rfl e1_17
  have oe1_18 := ntoi (n := 54) rfl e1_18
  have oe1_19 := ntoi (n := 55) rfl e1_19
  have oe1_20 := ntoi (n := 56) rfl e1_20
  have oe1_21 := ntoi (n := 57) rfl e1_21
  have oe1_22 := ntoi (n := 58) rfl e1_22
  have oe1_23 := ntoi (n := 59) rfl e1_23
  have oe1_24 := ntoi (n := 60) rfl e1_24
  have oe1_25 := ntoi (n := 61) rfl e1_25
  have oe1_26 := ntoi (n := 62) rfl e1_26
  refine E_tableOut C 218 dX11_twoOf_1 (by omega) (by decide) ?_
  obtain rfl : x = 124 := by rcases hx with h | h | h | h | h | h | h | h | h | h <;> first | exact h | (subst h; first | exact absurd rfl e1 | exact absurd rfl e1_2 | exact absurd rfl e1_6 | exact absurd rfl e1_7 | exact absurd rfl e1_9 | exact absurd rfl e1_11 | exact absurd rfl e1_24 | exact absurd rfl e1_25 | exact absurd rfl e1_26)
  refine E_iload_n C dX11_twoOf_218 1 rfl (E_if_ne C 226 dX11_twoOf_219 (by decide) (fun c219 => ?_) (fun c219 => ?_))
  ·
    refine E_iconst (v := 1) C dX11_twoOf_226 ic_1 (E_goto C 231 dX11_twoOf_227 (by decide) (E_iretI C hr hlk dX11_twoOf_231 ?_))
    refine ⟨?_, rfl⟩
    show 1 = (if a = 0 then (if b = 0 then 0 else 1) else 1)
    rw [if_neg c219]
  ·
    refine E_iload_n C dX11_twoOf_222 2 rfl (E_if_eq C 230 dX11_twoOf_223 (by decide) (fun c223 => ?_) (fun c223 => ?_))
    ·
      refine E_iconst (v := 0) C dX11_twoOf_230 ic_0 (E_iretI C hr hlk dX11_twoOf_231 ?_)
      refine ⟨?_, rfl⟩
      show 0 = (if a = 0 then (if b = 0 then 0 else 1) else 1)
      rw [if_pos c219, if_pos c223]
    ·
      refine E_iconst (v := 1) C dX11_twoOf_226 ic_1 (E_goto C 231 dX11_twoOf_227 (by decide) (E_iretI C hr hlk dX11_twoOf_231 ?_))
      refine ⟨?_, rfl⟩
      show 1 = (if a = 0 then (if b = 0 then 0 else 1) else 1)
      rw [if_pos c219, if_neg c223]
theorem bnO_I {a : Nat} (h : bnO a = true) : nI a = 37 ∨ nI a = 38 ∨ nI a = 42 ∨ nI a = 43 ∨ nI a = 45 ∨ nI a = 47 ∨ nI a = 60 ∨ nI a = 61 ∨ nI a = 62 ∨ nI a = 124 := by
  rcases of_decide_eq_true h with rfl | rfl | rfl | rfl | rfl | rfl | rfl | rfl | rfl | rfl <;> decide
set_option maxRecDepth 100000 in
set_option maxHeartbeats 4000000 in
theorem m_worked {l : Launch} {D : va_G} {tc tt ad : Nat → Nat} {g : Nat → Int32} {h : Nat → Nat → Int32} {el : Nat → Int64} {u : Nat → Int32} {v : Nat → Nat → Int32} {sf : Nat → Int64} {nm : Nat → Int32} (hnm : ∀ j, j < 5 → v 27 j = nm j) {p0 f0 : Nat} {cd : CD} (hat : AtM h (130 * p0 + f0) cd) (hg : GC cd) (hp0 : p0 ≤ 1) (hfl : f0 + cd.length ≤ 128) : Ct l yX11_worked cX11_worked 7 (some .int) 2 D tc tt [.ref (ad 0), .int (nI p0), .int (nI f0), .int (nI (f0 + cd.length))] (hm ad tc g h el u v sf) (PI fun r w => r = evE nm cd ∧ ∃ v', w = hm ad tc g h el u v' sf ∧ ∀ k, k ≠ 28 → v' k = v k) := by
  refine Ct.of (by decide +kernel) (Nat.le_of_ble_eq_true rfl) ?_
  intro p e R s m args below meth c A C hr hlk
  have K : ∀ (n i : Nat) (L : List Int32) (v1 : Nat → Nat → Int32), i ≤ cd.length → cd.length < i + n → L.length ≤ i → exO nm (cd.drop i) L = some [evE nm cd] → Rpl (v1 28) L → (∀ k, k ≠ 28 → v1 k = v k) → Ev p l e R s m args below meth c 0 0 (EQ below (PI fun r w => r = evE nm cd ∧ ∃ v', w = hm ad tc g h el u v' sf ∧ ∀ k, k ≠ 28 → v' k = v k) args s D A) D A 7 (hm ad tc g h el u v1 sf) 12 [(5, .int (nI (130 * p0 + f0 + i))), (4, .int (nI L.length)), (0, .ref (ad 0)), (1, .int (nI p0)), (2, .int (nI f0)), (3, .int (nI (f0 + cd.length)))] [] := by
    intro n
    induction n with
    | zero =>
      intro i L v1 h1 h2
      exfalso; omega
    | succ n ih =>
      intro i L v1 h1 h2 hlen hex hr1 hv1
      refine E_iload C dX11_worked_12 0 rfl (E_sipush (v := 130) C dX11_worked_14 sp_130 (E_iload_n C dX11_worked_17 3 rfl (E_imul C dX11_worked_18 ?_)))
      refine Ev.seti (show (130 : Int32) * nI p0 = nI (130 * p0) from pk_mul 130 p0) ?_
      refine E_iload_n C dX11_worked_19 5 rfl (E_iadd C dX11_worked_20 ?_)
      refine Ev.seti (nI_add _ _) ?_
      refine E_icmp_ge C 188 dX11_worked_21 (by decide) (fun c21 => ?_) (fun c21 => ?_)
      ·
        have hi : i = cd.length := by
          rcases Nat.lt_or_ge i cd.length with q | q
          · exact absurd (show nI (130 * p0 + (f0 + cd.length)) ≤ nI (130 * p0 + f0 + i) from c21) (nI_ge (by omega) (by omega))
          · omega
        refine E_aload_n C dX11_worked_188 2 rfl (mg_11_28 C dX11_worked_189 f_X11_72 (E_iconst (v := 0) C dX11_worked_192 ic_0 (ma_19 C dX11_worked_193 (vinN (by decide)) (E_iretI C hr hlk dX11_worked_194 ?_))))
        rw [hi, List.drop_length] at hex
        cases hex
        exact ⟨hr1 0 _ rfl, _, rfl, hv1⟩
      ·
        have hi : i < cd.length := by
          rcases Nat.lt_or_ge i cd.length with q | q
          · exact q
          · exact absurd (show nI (130 * p0 + (f0 + cd.length)) ≤ nI (130 * p0 + f0 + i) from nI_le (by omega) (by omega)) c21
        refine E_aload_n C dX11_worked_24 2 rfl (mg_11_22 C dX11_worked_25 f_X11_53 (E_iload C dX11_worked_28 0 rfl (ma_13 C dX11_worked_30 (vinN (by omega)) ?_)))
        rw [nI_clamp (show (130 * p0 + f0 + i) < 2 ^ 31 by omega)]
        obtain ⟨a, b, L1, hab, he1, hnext⟩ := exO_drop hi hex
        obtain ⟨ha, hb⟩ := hat i a b hab
        rw [show 130 * p0 + f0 + i = 130 * p0 + f0 + i from rfl] at ha
        rcases ex1_cases he1 with ⟨rfl, rfl⟩ | ⟨rfl, hb5, rfl⟩ | ⟨rfl, x, q, rfl, rfl⟩ | ⟨rfl, x, q, rfl, rfl⟩ | ⟨hbn, x, y, q, rfl, rfl⟩
        ·
          refine Ev.seti (show _ = (1 : Int32) from ha) ?_
          refine E_istore C dX11_worked_31 (by decide) (E_iload C dX11_worked_33 0 rfl (E_iconst (v := 1) C dX11_worked_35 ic_1 (E_icmp_eq C 45 dX11_worked_36 (by decide) (fun c36 => ?_) (fun c36 => ?_))))
          ·
            refine E_aload_n C dX11_worked_45 3 rfl (mg_11_28 C dX11_worked_46 f_X11_72 (E_iload C dX11_worked_49 2 rfl (E_iload C dX11_worked_51 0 rfl (E_iconst (v := 1) C dX11_worked_53 ic_1 (E_icmp_ne C 67 dX11_worked_54 (by decide) (fun c54 => ?_) (fun c54 => ?_))))))
            ·
              exact absurd rfl c54
            ·
              refine E_aload_n C dX11_worked_57 3 rfl (mg_11_23 C dX11_worked_58 f_X11_56 (E_iload C dX11_worked_61 1 rfl (ma_14 C dX11_worked_63 (vinN (by omega)) ?_)))
              rw [nI_clamp (show (130 * p0 + f0 + i) < 2 ^ 31 by omega)]
              refine Ev.seti hb ?_
              refine E_goto C 79 dX11_worked_64 (by decide) (ms_19 C dX11_worked_79 (vinN (by omega)) ?_)
              rw [nI_clamp (show L.length < 2 ^ 31 by omega)]
              refine E_iinc C dX11_worked_80 2 rfl (nI_1 _) (by decide) (E_goto C 182 dX11_worked_83 (by decide) (E_iinc C dX11_worked_182 2 rfl (nI_1 _) (by decide) (E_goto C 12 dX11_worked_185 (by decide) ?_)))
              exact Ev.sub [0, 1, 3, 4, 5, 6] rfl (ih (i + 1) (nI b :: L) _ (by omega) (by omega) (by first | exact hlen | (simp only [List.length_cons] at hlen ⊢; omega)) hnext (hr1.push (nI b)) (fun k q => (vun q).trans (hv1 k q)))
          ·
            exact absurd rfl c36
        ·
          refine Ev.seti (show _ = (2 : Int32) from ha) ?_
          refine E_istore C dX11_worked_31 (by decide) (E_iload C dX11_worked_33 0 rfl (E_iconst (v := 1) C dX11_worked_35 ic_1 (E_icmp_eq C 45 dX11_worked_36 (by decide) (fun c36 => ?_) (fun c36 => ?_))))
          ·
            exact absurd c36 (by decide)
          ·
            refine E_iload C dX11_worked_39 0 rfl (E_iconst (v := 2) C dX11_worked_41 ic_2 (E_icmp_ne C 86 dX11_worked_42 (by decide) (fun c42 => ?_) (fun c42 => ?_)))
            ·
              exact absurd rfl c42
            ·
              refine E_aload_n C dX11_worked_45 3 rfl (mg_11_28 C dX11_worked_46 f_X11_72 (E_iload C dX11_worked_49 2 rfl (E_iload C dX11_worked_51 0 rfl (E_iconst (v := 1) C dX11_worked_53 ic_1 (E_icmp_ne C 67 dX11_worked_54 (by decide) (fun c54 => ?_) (fun c54 => ?_))))))
              ·
                refine E_aload_n C dX11_worked_67 3 rfl (mg_11_27 C dX11_worked_68 f_X11_69 (E_aload_n C dX11_worked_71 3 rfl (mg_11_23 C dX11_worked_72 f_X11_56 (E_iload C dX11_worked_75 1 rfl (ma_14 C dX11_worked_77 (vinN (by omega)) ?_)))))
                rw [nI_clamp (show (130 * p0 + f0 + i) < 2 ^ 31 by omega)]
                refine Ev.seti hb ?_
                refine ma_18 C dX11_worked_78 (vinN (by omega)) ?_
                rw [nI_clamp (show b < 2 ^ 31 by omega)]
                refine Ev.seti (show v1 27 b = nm b by rw [hv1 27 (by decide)]; exact hnm b hb5) ?_
                refine ms_19 C dX11_worked_79 (vinN (by omega)) ?_
                rw [nI_clamp (show L.length < 2 ^ 31 by omega)]
                refine E_iinc C dX11_worked_80 2 rfl (nI_1 _) (by decide) (E_goto C 182 dX11_worked_83 (by decide) (E_iinc C dX11_worked_182 2 rfl (nI_1 _) (by decide) (E_goto C 12 dX11_worked_185 (by decide) ?_)))
                exact Ev.sub [0, 1, 3, 4, 5, 6] rfl (ih (i + 1) (nm b :: L) _ (by omega) (by omega) (by first | exact hlen | (simp only [List.length_cons] at hlen ⊢; omega)) hnext (hr1.push (nm b)) (fun k q => (vun q).trans (hv1 k q)))
              ·
                exact absurd c54 (by decide)
        ·
          refine Ev.seti (show _ = (3 : Int32) from ha) ?_
          refine E_istore C dX11_worked_31 (by decide) (E_iload C dX11_worked_33 0 rfl (E_iconst (v := 1) C dX11_worked_35 ic_1 (E_icmp_eq C 45 dX11_worked_36 (by decide) (fun c36 => ?_) (fun c36 => ?_))))
          ·
            exact absurd c36 (by decide)
          ·
            refine E_iload C dX11_worked_39 0 rfl (E_iconst (v := 2) C dX11_worked_41 ic_2 (E_icmp_ne C 86 dX11_worked_42 (by decide) (fun c42 => ?_) (fun c42 => ?_)))
            ·
              refine E_iload C dX11_worked_86 0 rfl (E_iconst (v := 3) C dX11_worked_88 ic_3 (E_icmp_ne C 121 dX11_worked_89 (by decide) (fun c89 => ?_) (fun c89 => ?_)))
              ·
                exact absurd rfl c89
              ·
                refine E_aload_n C dX11_worked_92 3 rfl (mg_11_28 C dX11_worked_93 f_X11_72 (E_iload C dX11_worked_96 2 rfl (E_iconst (v := 1) C dX11_worked_98 ic_1 (E_isub C dX11_worked_99 ?_))))
                refine Ev.seti (show nI (x :: q).length - 1 = nI q.length from pk_sub (a := q.length + 1) (b := 1) (by omega)) ?_
                refine E_aload_n C dX11_worked_100 3 rfl (mg_11_28 C dX11_worked_101 f_X11_72 (E_iload C dX11_worked_104 2 rfl (E_iconst (v := 1) C dX11_worked_106 ic_1 (E_isub C dX11_worked_107 ?_))))
                refine Ev.seti (show nI (x :: q).length - 1 = nI q.length from pk_sub (a := q.length + 1) (b := 1) (by omega)) ?_
                refine ma_19 C dX11_worked_108 (vinN (by simp only [List.length_cons] at hlen; omega)) ?_
                rw [nI_clamp (show q.length < 2 ^ 31 by simp only [List.length_cons] at hlen; omega)]
                refine Ev.seti (hr1.top 0).1 ?_
                refine E_if_ne C 116 dX11_worked_109 (by decide) (fun c109 => ?_) (fun c109 => ?_)
                ·
                  rw [if_neg c109] at hnext
                  refine E_iconst (v := 0) C dX11_worked_116 ic_0 (ms_19 C dX11_worked_117 (vinN (by simp only [List.length_cons] at hlen; omega)) ?_)
                  rw [nI_clamp (show q.length < 2 ^ 31 by simp only [List.length_cons] at hlen; omega)]
                  refine E_goto C 182 dX11_worked_118 (by decide) (E_iinc C dX11_worked_182 1 rfl (nI_1 _) (by decide) (E_goto C 12 dX11_worked_185 (by decide) ?_))
                  exact Ev.sub [0, 2, 3, 4, 5, 6] rfl (ih (i + 1) (0 :: q) _ (by omega) (by omega) (by first | exact hlen | (simp only [List.length_cons] at hlen ⊢; omega)) hnext ((hr1.top 0).2) (fun k q => (vun q).trans (hv1 k q)))
                ·
                  rw [if_pos c109] at hnext
                  refine E_iconst (v := 1) C dX11_worked_112 ic_1 (E_goto C 117 dX11_worked_113 (by decide) (ms_19 C dX11_worked_117 (vinN (by simp only [List.length_cons] at hlen; omega)) ?_))
                  rw [nI_clamp (show q.length < 2 ^ 31 by simp only [List.length_cons] at hlen; omega)]
                  refine E_goto C 182 dX11_worked_118 (by decide) (E_iinc C dX11_worked_182 1 rfl (nI_1 _) (by decide) (E_goto C 12 dX11_worked_185 (by decide) ?_))
                  exact Ev.sub [0, 2, 3, 4, 5, 6] rfl (ih (i + 1) (1 :: q) _ (by omega) (by omega) (by first | exact hlen | (simp only [List.length_cons] at hlen ⊢; omega)) hnext ((hr1.top 1).2) (fun k q => (vun q).trans (hv1 k q)))
            ·
              exact absurd c42 (by decide)
        ·
          refine Ev.seti (show _ = (4 : Int32) from ha) ?_
          refine E_istore C dX11_worked_31 (by decide) (E_iload C dX11_worked_33 0 rfl (E_iconst (v := 1) C dX11_worked_35 ic_1 (E_icmp_eq C 45 dX11_worked_36 (by decide) (fun c36 => ?_) (fun c36 => ?_))))
          ·
            exact absurd c36 (by decide)
          ·
            refine E_iload C dX11_worked_39 0 rfl (E_iconst (v := 2) C dX11_worked_41 ic_2 (E_icmp_ne C 86 dX11_worked_42 (by decide) (fun c42 => ?_) (fun c42 => ?_)))
            ·
              refine E_iload C dX11_worked_86 0 rfl (E_iconst (v := 3) C dX11_worked_88 ic_3 (E_icmp_ne C 121 dX11_worked_89 (by decide) (fun c89 => ?_) (fun c89 => ?_)))
              ·
                refine E_iload C dX11_worked_121 0 rfl (E_iconst (v := 4) C dX11_worked_123 ic_4 (E_icmp_ne C 149 dX11_worked_124 (by decide) (fun c124 => ?_) (fun c124 => ?_)))
                ·
                  exact absurd rfl c124
                ·
                  refine E_aload_n C dX11_worked_127 3 rfl (mg_11_28 C dX11_worked_128 f_X11_72 (E_iload C dX11_worked_131 2 rfl (E_iconst (v := 1) C dX11_worked_133 ic_1 (E_isub C dX11_worked_134 ?_))))
                  refine Ev.seti (show nI (x :: q).length - 1 = nI q.length from pk_sub (a := q.length + 1) (b := 1) (by omega)) ?_
                  refine E_aload_n C dX11_worked_135 3 rfl (mg_11_28 C dX11_worked_136 f_X11_72 (E_iload C dX11_worked_139 2 rfl (E_iconst (v := 1) C dX11_worked_141 ic_1 (E_isub C dX11_worked_142 ?_))))
                  refine Ev.seti (show nI (x :: q).length - 1 = nI q.length from pk_sub (a := q.length + 1) (b := 1) (by omega)) ?_
                  refine ma_19 C dX11_worked_143 (vinN (by simp only [List.length_cons] at hlen; omega)) ?_
                  rw [nI_clamp (show q.length < 2 ^ 31 by simp only [List.length_cons] at hlen; omega)]
                  refine Ev.seti (hr1.top 0).1 ?_
                  refine E_ineg C dX11_worked_144 (ms_19 C dX11_worked_145 (vinN (by simp only [List.length_cons] at hlen; omega)) ?_)
                  rw [nI_clamp (show q.length < 2 ^ 31 by simp only [List.length_cons] at hlen; omega)]
                  refine E_goto C 182 dX11_worked_146 (by decide) (E_iinc C dX11_worked_182 1 rfl (nI_1 _) (by decide) (E_goto C 12 dX11_worked_185 (by decide) ?_))
                  exact Ev.sub [0, 2, 3, 4, 5, 6] rfl (ih (i + 1) (-x :: q) _ (by omega) (by omega) (by first | exact hlen | (simp only [List.length_cons] at hlen ⊢; omega)) hnext ((hr1.top (-x)).2) (fun k q => (vun q).trans (hv1 k q)))
              ·
                exact absurd c89 (by decide)
            ·
              exact absurd c42 (by decide)
        ·
          have hbne : ∀ k : Nat, k < 37 → k < 2 ^ 31 → ¬ nI a = nI k := fun k hk hk2 e => by
            have q2 := of_decide_eq_true hbn
            have q3 := (nI_eq (by omega) hk2).mp e
            omega
          have hmo : mop a = nI a := by
            obtain ⟨z1, z2, z3, z4, -⟩ := bnO_ne hbn
            exact (if_neg z1).trans ((if_neg z2).trans ((if_neg z3).trans (if_neg z4)))
          refine Ev.seti (ha.trans hmo) ?_
          refine E_istore C dX11_worked_31 (by decide) (E_iload C dX11_worked_33 0 rfl (E_iconst (v := 1) C dX11_worked_35 ic_1 (E_icmp_eq C 45 dX11_worked_36 (by decide) (fun c36 => ?_) (fun c36 => ?_))))
          ·
            exact absurd c36 (hbne 1 (by decide) (by decide))
          ·
            refine E_iload C dX11_worked_39 0 rfl (E_iconst (v := 2) C dX11_worked_41 ic_2 (E_icmp_ne C 86 dX11_worked_42 (by decide) (fun c42 => ?_) (fun c42 => ?_)))
            ·
              refine E_iload C dX11_worked_86 0 rfl (E_iconst (v := 3) C dX11_worked_88 ic_3 (E_icmp_ne C 121 dX11_worked_89 (by decide) (fun c89 => ?_) (fun c89 => ?_)))
              ·
                refine E_iload C dX11_worked_121 0 rfl (E_iconst (v := 4) C dX11_worked_123 ic_4 (E_icmp_ne C 149 dX11_worked_124 (by decide) (fun c124 => ?_) (fun c124 => ?_)))
                ·
                  refine E_iinc C dX11_worked_149 2 rfl (show nI (y :: x :: q).length + (-1) = nI (q.length + 1) from pk_m1 (q.length + 1)) (by decide) (E_aload_n C dX11_worked_152 3 rfl (mg_11_28 C dX11_worked_153 f_X11_72 (E_iload C dX11_worked_156 0 rfl (E_iconst (v := 1) C dX11_worked_158 ic_1 (E_isub C dX11_worked_159 ?_)))))
                  refine Ev.seti (show nI (q.length + 1) - 1 = nI q.length from pk_sub (a := q.length + 1) (b := 1) (by omega)) ?_
                  refine E_iload C dX11_worked_160 1 rfl (E_aload_n C dX11_worked_162 3 rfl (mg_11_28 C dX11_worked_163 f_X11_72 (E_iload C dX11_worked_166 0 rfl (E_iconst (v := 1) C dX11_worked_168 ic_1 (E_isub C dX11_worked_169 ?_)))))
                  refine Ev.seti (show nI (q.length + 1) - 1 = nI q.length from pk_sub (a := q.length + 1) (b := 1) (by omega)) ?_
                  refine ma_19 C dX11_worked_170 (vinN (by simp only [List.length_cons] at hlen; omega)) ?_
                  rw [nI_clamp (show q.length < 2 ^ 31 by simp only [List.length_cons] at hlen; omega)]
                  refine Ev.seti (hr1.two 0).1 ?_
                  refine E_aload_n C dX11_worked_171 3 rfl (mg_11_28 C dX11_worked_172 f_X11_72 (E_iload C dX11_worked_175 0 rfl (ma_19 C dX11_worked_177 (vinN (by simp only [List.length_cons] at hlen; omega)) ?_)))
                  rw [nI_clamp (show q.length + 1 < 2 ^ 31 by simp only [List.length_cons] at hlen; omega)]
                  refine Ev.seti (hr1.two 0).2.1 ?_
                  refine E_callSI C dX11_worked_178 ms_X11_221 _ (m_twoOf (nI a) x y (bnO_I hbn)) rfl rfl (by decide) (Nat.le_of_ble_eq_true rfl) ?_
                  rintro _ _ ⟨rfl, rfl⟩
                  refine ms_19 C dX11_worked_181 (vinN (by simp only [List.length_cons] at hlen; omega)) ?_
                  rw [nI_clamp (show q.length < 2 ^ 31 by simp only [List.length_cons] at hlen; omega)]
                  refine E_iinc C dX11_worked_182 2 rfl (nI_1 _) (by decide) (E_goto C 12 dX11_worked_185 (by decide) ?_)
                  exact Ev.sub [0, 1, 3, 4, 5, 6] rfl (ih (i + 1) (togF (nI a) x y :: q) _ (by omega) (by omega) (by first | exact hlen | (simp only [List.length_cons] at hlen ⊢; omega)) hnext ((hr1.two (togF (nI a) x y)).2.2) (fun k q => (vun q).trans (hv1 k q)))
                ·
                  exact absurd c124 (hbne 4 (by decide) (by decide))
              ·
                exact absurd c89 (hbne 3 (by decide) (by decide))
            ·
              exact absurd c42 (hbne 2 (by decide) (by decide))
  refine E_iconst (v := 0) C dX11_worked_0 ic_0 (E_istore C dX11_worked_1 (by decide) (E_sipush (v := 130) C dX11_worked_3 sp_130 (E_iload_n C dX11_worked_6 2 rfl (E_imul C dX11_worked_7 ?_))))
  refine Ev.seti (show (130 : Int32) * nI p0 = nI (130 * p0) from pk_mul 130 p0) ?_
  refine E_iload_n C dX11_worked_8 3 rfl (E_iadd C dX11_worked_9 ?_)
  refine Ev.seti (nI_add _ _) ?_
  refine E_istore C dX11_worked_10 (by decide) ?_
  exact Ev.sub [0, 1, 2, 3, 4, 5] rfl (K (cd.length + 1) 0 [] v (Nat.zero_le _) (by omega) (Nat.le_refl _) (gc_ev hg nm []) (fun k x e => by cases e) (fun _ _ => rfl))
