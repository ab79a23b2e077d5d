/-! the class's World: its constructor -/
theorem ff_X9_11 : FLf RX9 11 9 0 (.array (.array .int)) := ⟨_, _, _, _, kc9, by decide, WU_of (mT1 (List.mem_of_getElem? (i := 55) rfl)) rfl, tyX9_ok 0 (by decide), rfl, rfl⟩
theorem ff_X9_19 : FLf RX9 19 9 1 (.object "BackHouse$Law") := ⟨_, _, _, _, kc9, by decide, WU_of (mT1 (List.mem_of_getElem? (i := 56) rfl)) rfl, tyX9_ok 1 (by decide), rfl, rfl⟩
theorem nw_9_16 : NW_ RX9 16 5 5 [.null, .null, .null, .null, .int 0] := ⟨_, _, _, kc5, WU_of (mT1 (List.mem_of_getElem? (i := 32) rfl)) rfl, WU_of (mT1 (List.mem_of_getElem? (i := 33) rfl)) rfl, WU_of (mT1 (List.mem_of_getElem? (i := 3) rfl)) rfl, fun j hj => by rcases (show j = 0 ∨ j = 1 ∨ j = 2 ∨ j = 3 ∨ j = 4 by omega) with rfl | rfl | rfl | rfl | rfl <;> rfl⟩
theorem mln_X5 : MLn yX5_init cX5_init 1 0 := ⟨WU_of (mT1 (List.mem_of_getElem? (i := 36) rfl)) rfl, WU_of (mT1 (List.mem_of_getElem? (i := 3) rfl)) rfl, ⟨by decide +kernel, by decide +kernel, by decide +kernel⟩, by decide⟩
theorem im_X5 : Cond.instanceMethod yX5_init ∈ WU := WU_of (mT1 (List.mem_of_getElem? (i := 35) rfl)) rfl
def fl (x : Int32) (i : Nat) : Nat → Int32 := fun j => if j < i then x else 0
theorem fl_step (x : Int32) (i : Nat) : upd (fl x i) i x = fl x (i + 1) := by
  funext j
  show (if j = i then x else if j < i then x else 0) = if j < i + 1 then x else 0
  by_cases h : j = i
  · rw [if_pos h, if_pos (by omega)]
  · rw [if_neg h]
    by_cases h2 : j < i
    · rw [if_pos h2, if_pos (by omega)]
    · rw [if_neg h2, if_neg (by omega)]
theorem fl_0 (x : Int32) : (fun _ => 0 : Nat → Int32) = fl x 0 := by
  funext j
  exact (if_neg (Nat.not_lt_zero _)).symm
def wW (tc : Nat → Nat) (q0 q1 q10 qa qb qc qd : Nat) (f5 f6 f7 : Nat → Int32) : va_W := [(q0, .inr (9, [.ref q1, .ref q10, .int 0, .int 1])), (q1, .inl (tc 4, 8, .inr (.inr (.inr (.inr (fun j => if j < 8 then some (q1 + 1 + j) else none)))))), (q1 + 1, .inl (tc 0, 8, .inl fun _ => 0)), (q1 + 2, .inl (tc 0, 8, .inl fun _ => 0)), (q1 + 3, .inl (tc 0, 8, .inl fun _ => 0)), (q1 + 4, .inl (tc 0, 8, .inl fun _ => 0)), (q1 + 5, .inl (tc 0, 8, .inl fun _ => 0)), (q1 + 6, .inl (tc 0, 8, .inl f5)), (q1 + 7, .inl (tc 0, 8, .inl f6)), (q1 + 8, .inl (tc 0, 8, .inl f7)), (q10, .inr (5, [.ref qa, .ref qb, .ref qc, .ref qd, .int 0])), (qa, .inl (tc 0, 128, .inl fun _ => 0)), (qb, .inl (tc 0, 128, .inl fun _ => 0)), (qc, .inl (tc 0, 130, .inl fun _ => 0)), (qd, .inl (tc 0, 5, .inl fun _ => 0))]
set_option maxRecDepth 100000 in
set_option maxHeartbeats 4000000 in
theorem c_X9_init {l : Launch} {D : va_G} {tc tt : Nat → Nat} (q0 : Nat) : Cn l yX9_init cX9_init 2 none 2 14 468 D tc tt [.ref q0] [(q0, .inr (9, [.null, .null, .int 0, .int 0]))] (PV fun w => ∃ q1 q10 qa qb qc qd : Nat, w = wW tc q0 q1 q10 qa qb qc qd (fl 2 8) (fl 3 8) (fl 1 8)) := by
  refine Cn.of (by decide +kernel) (Nat.le_of_ble_eq_true rfl) ?_
  intro p e R s m args below meth c A C hr hlk hin hAO hnc hns
  refine E_aload_n C dX9_init_0 0 rfl ?_
  refine E_oinit C dX9_init_1 (WU_of (mT1 (List.mem_of_getElem? (i := 29) rfl)) rfl) (WU_of (mT1 (List.mem_of_getElem? (i := 22) rfl)) rfl) (WU_of (mT1 (List.mem_of_getElem? (i := 23) rfl)) rfl) (by decide) (Nat.le_of_ble_eq_true rfl) ?_
  refine E_aload_n C dX9_init_4 0 rfl (E_bipush (v := 8) C dX9_init_5 bp_8 (E_bipush (v := 8) C dX9_init_7 bp_8 ?_))
  refine E_multi C hAO dX9_init_9 (WU_of (mT1 (List.mem_of_getElem? (i := 30) rfl)) rfl) (le_c hnc rfl) (le_c hns rfl) (fun q1 => ?_)
  refine Ev.to rfl (show _ = (q0, .inr (9, [.null, .null, .int 0, .int 0])) :: rows8 tc q1 from rfl) rfl ?_
  refine F_putf C hin [.ref q1, .null, .int 0, .int 0] dX9_init_13 ff_X9_11 rfl rfl (Nat.le_of_ble_eq_true rfl) rfl ?_
  refine E_aload_n C dX9_init_16 0 rfl ?_
  refine E_new C dX9_init_17 nw_9_16 (le_c hnc rfl) (le_c hns rfl) (fun q10 => ?_)
  refine E_dup C dX9_init_20 rfl ?_
  refine E_initN C hAO dX9_init_21 hAO.2.2.1 mln_X5 rfl im_X5 [] (c_X5_init q10) [10] [0, 1, 2, 3, 4, 5, 6, 7, 8, 9] (wc := [(q10, .inr (5, [.null, .null, .null, .null, .int 0]))]) (wr := (q0, .inr (9, [.ref q1, .null, .int 0, .int 0])) :: rows8 tc q1) rfl rfl rfl (by decide) (by decide) rfl rfl (by decide) (Nat.le_of_ble_eq_true rfl) ⟨le_c hnc rfl, le_c hns rfl⟩ ?_
  rintro _ _ ⟨rfl, qa, qb, qc, qd, rfl⟩
  refine Ev.to rfl (show _ = (q0, .inr (9, [.ref q1, .null, .int 0, .int 0])) :: (rows8 tc q1 ++ [(q10, .inr (5, [.ref qa, .ref qb, .ref qc, .ref qd, .int 0])), (qa, .inl (tc 0, 128, .inl fun _ => 0)), (qb, .inl (tc 0, 128, .inl fun _ => 0)), (qc, .inl (tc 0, 130, .inl fun _ => 0)), (qd, .inl (tc 0, 5, .inl fun _ => 0))]) from rfl) rfl ?_
  refine F_putf C hin [.ref q1, .ref q10, .int 0, .int 0] dX9_init_24 ff_X9_19 rfl rfl (Nat.le_of_ble_eq_true rfl) rfl ?_
  refine E_aload_n C dX9_init_27 0 rfl (E_iconst (v := 1) C dX9_init_28 ic_1 ?_)
  refine F_put C [.ref q1, .ref q10, .int 0, .int 1] dX9_init_29 fw_X9_23 rfl rfl (Nat.le_of_ble_eq_true rfl) rfl ?_
  refine Ev.to rfl (show _ = wW tc q0 q1 q10 qa qb qc qd (fun _ => 0) (fun _ => 0) (fun _ => 0) from rfl) rfl ?_
  have K : ∀ (mm i : Nat), i ≤ 8 → 8 < i + mm → Ev p l e R s m args below meth c (0 + 9 + 1 + 4) (0 + 72 + 5 + 391) (EN below (PV fun w => ∃ q1 q10 qa qb qc qd : Nat, w = wW tc q0 q1 q10 qa qb qc qd (fl 2 8) (fl 3 8) (fl 1 8)) args s D A 14 468) D A 2 (wW tc q0 q1 q10 qa qb qc qd (fl 2 i) (fl 3 i) (fl 1 i)) 34 [(1, .int (nI i)), (0, .ref q0)] [] := by
    intro mm
    induction mm with
    | zero =>
      intro i h1 h2
      exfalso; omega
    | succ mm ih =>
      intro i h1 h2
      refine E_iload_n C dX9_init_34 0 rfl (E_bipush (v := 8) C dX9_init_35 bp_8 (E_icmp_ge C 75 dX9_init_37 (by decide) (fun c37 => ?_) (fun c37 => ?_)))
      · have hi : i = 8 := by
          rcases Nat.lt_or_ge i 8 with q | q
          · exact absurd (show nI 8 ≤ nI i from c37) (nI_ge q (by decide))
          · omega
        subst hi
        exact E_retN C hr hlk dX9_init_75 (Nat.le_of_ble_eq_true rfl) (Nat.le_of_ble_eq_true rfl) ⟨rfl, q1, q10, qa, qb, qc, qd, rfl⟩
      have hi : i < 8 := by
        rcases Nat.lt_or_ge i 8 with q | q
        · exact q
        · exact absurd (show nI 8 ≤ nI i from nI_le q (by omega)) c37
      refine E_aload_n C dX9_init_40 1 rfl (E_get C dX9_init_41 f_X9_11 0 rfl rfl (E_iconst (v := 5) C dX9_init_44 ic_5 (E_aaldT C 4 rfl rfl dX9_init_45 1 rfl (vinN (k := 5) (N := 8) (by decide)) ?_)))
      refine Ev.to rfl rfl (show _ = [Value.ref (q1 + 6)] from rfl) ?_
      refine E_iload_n C dX9_init_46 0 rfl (E_iconst (v := 2) C dX9_init_47 ic_2 (E_iast C dX9_init_48 7 rfl (vinN hi) (show _ = wW tc q0 q1 q10 qa qb qc qd (upd (fl 2 i) (nI i).toNatClampNeg 2) (fl 3 i) (fl 1 i) from rfl) ?_))
      refine E_aload_n C dX9_init_49 1 rfl (E_get C dX9_init_50 f_X9_11 0 rfl rfl (E_bipush (v := 6) C dX9_init_53 bp_6 (E_aaldT C 4 rfl rfl dX9_init_55 1 rfl (vinN (k := 6) (N := 8) (by decide)) ?_)))
      refine Ev.to rfl rfl (show _ = [Value.ref (q1 + 7)] from rfl) ?_
      refine E_iload_n C dX9_init_56 0 rfl (E_iconst (v := 3) C dX9_init_57 ic_3 (E_iast C dX9_init_58 8 rfl (vinN hi) (show _ = wW tc q0 q1 q10 qa qb qc qd (upd (fl 2 i) (nI i).toNatClampNeg 2) (upd (fl 3 i) (nI i).toNatClampNeg 3) (fl 1 i) from rfl) ?_))
      refine E_aload_n C dX9_init_59 1 rfl (E_get C dX9_init_60 f_X9_11 0 rfl rfl (E_bipush (v := 7) C dX9_init_63 bp_7 (E_aaldT C 4 rfl rfl dX9_init_65 1 rfl (vinN (k := 7) (N := 8) (by decide)) ?_)))
      refine Ev.to rfl rfl (show _ = [Value.ref (q1 + 8)] from rfl) ?_
      refine E_iload_n C dX9_init_66 0 rfl (E_iconst (v := 1) C dX9_init_67 ic_1 (E_iast C dX9_init_68 9 rfl (vinN hi) (show _ = wW tc q0 q1 q10 qa qb qc qd (upd (fl 2 i) (nI i).toNatClampNeg 2) (upd (fl 3 i) (nI i).toNatClampNeg 3) (upd (fl 1 i) (nI i).toNatClampNeg 1) from rfl) ?_))
      rw [nI_clamp (show i < 2 ^ 31 by omega), fl_step, fl_step, fl_step]
      exact E_iinc C dX9_init_69 0 rfl (nI_1 i) (by decide) (E_goto C 34 dX9_init_72 (by decide) (ih (i + 1) (by omega) (by omega)))
  refine E_iconst (v := 0) C dX9_init_32 ic_0 (E_istore_n C dX9_init_33 (by decide) ?_)
  refine Ev.to rfl (show _ = wW tc q0 q1 q10 qa qb qc qd (fl 2 0) (fl 3 0) (fl 1 0) by rw [← fl_0 2, ← fl_0 3, ← fl_0 1]) rfl ?_
  exact K 9 0 (by decide) (by decide)
