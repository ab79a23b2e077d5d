/-! the class's constructors that only make arrays -/
theorem ff_X0_11 : FLf RX0 11 0 0 (.array .int) := ⟨_, _, _, _, kc0, by decide, WU_of (mT2 (List.mem_of_getElem? (i := 35) rfl)) rfl, tyX0_ok 0 (by decide), rfl, rfl⟩
theorem ff_X0_15 : FLf RX0 15 0 1 (.array .int) := ⟨_, _, _, _, kc0, by decide, WU_of (mT2 (List.mem_of_getElem? (i := 36) rfl)) rfl, tyX0_ok 1 (by decide), rfl, rfl⟩
set_option maxRecDepth 100000 in
set_option maxHeartbeats 4000000 in
theorem c_X0_init {l : Launch} {D : va_G} {tc tt : Nat → Nat} (q0 : Nat) : Cn l yX0_init cX0_init 1 none 1 2 74 D tc tt [.ref q0] [(q0, .inr (0, [.null, .null, .int 0, .int 0]))] (PV fun w => ∃ q1 q2 : Nat, w = (q0, .inr (0, [.ref q1, .ref q2, .int 0, .int 0])) :: [(q1, .inl (tc 0, 50, (.inl fun _ => 0))), (q2, .inl (tc 0, 24, (.inl fun _ => 0)))]) := by
  refine Cn.of (by decide +kernel) (Nat.le_of_ble_eq_true rfl) ?_
  intro p e R s m args below meth c A C hr hlk hin hAO hnc hns
  refine E_aload_n C dX0_init_0 0 rfl ?_
  refine E_oinit C dX0_init_1 (WU_of (mT2 (List.mem_of_getElem? (i := 34) rfl)) rfl) (WU_of (mT1 (List.mem_of_getElem? (i := 22) rfl)) rfl) (WU_of (mT1 (List.mem_of_getElem? (i := 23) rfl)) rfl) (by decide) (Nat.le_of_ble_eq_true rfl) ?_
  refine E_aload_n C dX0_init_4 0 rfl ?_
  refine E_bipush (v := 50) C dX0_init_5 bp_50 ?_
  refine F_new_int C (N := 50) dX0_init_7 (by decide) rfl (by decide) (le_c hnc rfl) (le_c hns rfl) (fun q1 => ?_)
  refine Ev.to rfl (congrArg (List.cons _) (show _ = [(q1, .inl (tc 0, 50, (.inl fun _ => 0)))] from rfl)) rfl ?_
  refine F_putf C hin [.ref q1, .null, .int 0, .int 0] dX0_init_9 ff_X0_11 rfl rfl (Nat.le_of_ble_eq_true rfl) rfl ?_
  refine E_aload_n C dX0_init_12 0 rfl ?_
  refine E_bipush (v := 24) C dX0_init_13 bp_24 ?_
  refine F_new_int C (N := 24) dX0_init_15 (by decide) rfl (by decide) (le_c hnc rfl) (le_c hns rfl) (fun q2 => ?_)
  refine Ev.to rfl (congrArg (List.cons _) (show _ = [(q1, .inl (tc 0, 50, (.inl fun _ => 0))), (q2, .inl (tc 0, 24, (.inl fun _ => 0)))] from rfl)) rfl ?_
  refine F_putf C hin [.ref q1, .ref q2, .int 0, .int 0] dX0_init_17 ff_X0_15 rfl rfl (Nat.le_of_ble_eq_true rfl) rfl ?_
  refine E_retN C hr hlk dX0_init_20 (Nat.le_of_ble_eq_true rfl) (Nat.le_of_ble_eq_true rfl) ?_
  exact ⟨rfl, q1, q2, rfl⟩
theorem ff_X1_9 : FLf RX1 9 1 0 (.array .int) := ⟨_, _, _, _, kc1, by decide, WU_of (mT1 (List.mem_of_getElem? (i := 79) rfl)) rfl, tyX1_ok 0 (by decide), rfl, rfl⟩
theorem ff_X1_13 : FLf RX1 13 1 1 (.array .int) := ⟨_, _, _, _, kc1, by decide, WU_of (mT1 (List.mem_of_getElem? (i := 80) rfl)) rfl, tyX1_ok 1 (by decide), rfl, rfl⟩
theorem ff_X1_16 : FLf RX1 16 1 2 (.array .int) := ⟨_, _, _, _, kc1, by decide, WU_of (mT1 (List.mem_of_getElem? (i := 81) rfl)) rfl, tyX1_ok 2 (by decide), rfl, rfl⟩
theorem ff_X1_19 : FLf RX1 19 1 3 (.array .int) := ⟨_, _, _, _, kc1, by decide, WU_of (mT1 (List.mem_of_getElem? (i := 82) rfl)) rfl, tyX1_ok 3 (by decide), rfl, rfl⟩
set_option maxRecDepth 100000 in
set_option maxHeartbeats 4000000 in
theorem c_X1_init {l : Launch} {D : va_G} {tc tt : Nat → Nat} (q0 : Nat) : Cn l yX1_init cX1_init 1 none 1 4 160 D tc tt [.ref q0] [(q0, .inr (1, [.null, .null, .null, .null, .int 0, .int 0]))] (PV fun w => ∃ q1 q2 q3 q4 : Nat, w = (q0, .inr (1, [.ref q1, .ref q2, .ref q3, .ref q4, .int 0, .int 0])) :: [(q1, .inl (tc 0, 40, (.inl fun _ => 0))), (q2, .inl (tc 0, 40, (.inl fun _ => 0))), (q3, .inl (tc 0, 40, (.inl fun _ => 0))), (q4, .inl (tc 0, 40, (.inl fun _ => 0)))]) := by
  refine Cn.of (by decide +kernel) (Nat.le_of_ble_eq_true rfl) ?_
  intro p e R s m args below meth c A C hr hlk hin hAO hnc hns
  refine E_aload_n C dX1_init_0 0 rfl ?_
  refine E_oinit C dX1_init_1 (WU_of (mT1 (List.mem_of_getElem? (i := 78) rfl)) rfl) (WU_of (mT1 (List.mem_of_getElem? (i := 22) rfl)) rfl) (WU_of (mT1 (List.mem_of_getElem? (i := 23) rfl)) rfl) (by decide) (Nat.le_of_ble_eq_true rfl) ?_
  refine E_aload_n C dX1_init_4 0 rfl ?_
  refine E_bipush (v := 40) C dX1_init_5 bp_40 ?_
  refine F_new_int C (N := 40) dX1_init_7 (by decide) rfl (by decide) (le_c hnc rfl) (le_c hns rfl) (fun q1 => ?_)
  refine Ev.to rfl (congrArg (List.cons _) (show _ = [(q1, .inl (tc 0, 40, (.inl fun _ => 0)))] from rfl)) rfl ?_
  refine F_putf C hin [.ref q1, .null, .null, .null, .int 0, .int 0] dX1_init_9 ff_X1_9 rfl rfl (Nat.le_of_ble_eq_true rfl) rfl ?_
  refine E_aload_n C dX1_init_12 0 rfl ?_
  refine E_bipush (v := 40) C dX1_init_13 bp_40 ?_
  refine F_new_int C (N := 40) dX1_init_15 (by decide) rfl (by decide) (le_c hnc rfl) (le_c hns rfl) (fun q2 => ?_)
  refine Ev.to rfl (congrArg (List.cons _) (show _ = [(q1, .inl (tc 0, 40, (.inl fun _ => 0))), (q2, .inl (tc 0, 40, (.inl fun _ => 0)))] from rfl)) rfl ?_
  refine F_putf C hin [.ref q1, .ref q2, .null, .null, .int 0, .int 0] dX1_init_17 ff_X1_13 rfl rfl (Nat.le_of_ble_eq_true rfl) rfl ?_
  refine E_aload_n C dX1_init_20 0 rfl ?_
  refine E_bipush (v := 40) C dX1_init_21 bp_40 ?_
  refine F_new_int C (N := 40) dX1_init_23 (by decide) rfl (by decide) (le_c hnc rfl) (le_c hns rfl) (fun q3 => ?_)
  refine Ev.to rfl (congrArg (List.cons _) (show _ = [(q1, .inl (tc 0, 40, (.inl fun _ => 0))), (q2, .inl (tc 0, 40, (.inl fun _ => 0))), (q3, .inl (tc 0, 40, (.inl fun _ => 0)))] from rfl)) rfl ?_
  refine F_putf C hin [.ref q1, .ref q2, .ref q3, .null, .int 0, .int 0] dX1_init_25 ff_X1_16 rfl rfl (Nat.le_of_ble_eq_true rfl) rfl ?_
  refine E_aload_n C dX1_init_28 0 rfl ?_
  refine E_bipush (v := 40) C dX1_init_29 bp_40 ?_
  refine F_new_int C (N := 40) dX1_init_31 (by decide) rfl (by decide) (le_c hnc rfl) (le_c hns rfl) (fun q4 => ?_)
  refine Ev.to rfl (congrArg (List.cons _) (show _ = [(q1, .inl (tc 0, 40, (.inl fun _ => 0))), (q2, .inl (tc 0, 40, (.inl fun _ => 0))), (q3, .inl (tc 0, 40, (.inl fun _ => 0))), (q4, .inl (tc 0, 40, (.inl fun _ => 0)))] from rfl)) rfl ?_
  refine F_putf C hin [.ref q1, .ref q2, .ref q3, .ref q4, .int 0, .int 0] dX1_init_33 ff_X1_19 rfl rfl (Nat.le_of_ble_eq_true rfl) rfl ?_
  refine E_retN C hr hlk dX1_init_36 (Nat.le_of_ble_eq_true rfl) (Nat.le_of_ble_eq_true rfl) ?_
  exact ⟨rfl, q1, q2, q3, q4, rfl⟩
set_option maxRecDepth 100000 in
set_option maxHeartbeats 4000000 in
theorem c_X2_init {l : Launch} {D : va_G} {tc tt : Nat → Nat} (q0 : Nat) : Cn l yX2_init cX2_init 1 none 1 0 0 D tc tt [.ref q0] [(q0, .inr (2, [.int 0]))] (PV fun w => w = (q0, .inr (2, [.int 0])) :: []) := by
  refine Cn.of (by decide +kernel) (Nat.le_of_ble_eq_true rfl) ?_
  intro p e R s m args below meth c A C hr hlk hin hAO hnc hns
  refine E_aload_n C dX2_init_0 0 rfl ?_
  refine E_oinit C dX2_init_1 (WU_of (mT1 (List.mem_of_getElem? (i := 229) rfl)) rfl) (WU_of (mT1 (List.mem_of_getElem? (i := 22) rfl)) rfl) (WU_of (mT1 (List.mem_of_getElem? (i := 23) rfl)) rfl) (by decide) (Nat.le_of_ble_eq_true rfl) ?_
  refine E_retN C hr hlk dX2_init_4 (Nat.le_of_ble_eq_true rfl) (Nat.le_of_ble_eq_true rfl) ?_
  exact ⟨rfl, rfl⟩
theorem ff_X3_9 : FLf RX3 9 3 1 (.array .int) := ⟨_, _, _, _, kc3, by decide, WU_of (mT1 (List.mem_of_getElem? (i := 139) rfl)) rfl, tyX3_ok 1 (by decide), rfl, rfl⟩
theorem ff_X3_15 : FLf RX3 15 3 2 (.array .int) := ⟨_, _, _, _, kc3, by decide, WU_of (mT1 (List.mem_of_getElem? (i := 141) rfl)) rfl, tyX3_ok 2 (by decide), rfl, rfl⟩
theorem ff_X3_18 : FLf RX3 18 3 3 (.array .int) := ⟨_, _, _, _, kc3, by decide, WU_of (mT1 (List.mem_of_getElem? (i := 143) rfl)) rfl, tyX3_ok 3 (by decide), rfl, rfl⟩
theorem ff_X3_21 : FLf RX3 21 3 0 (.object "BackHouse$World") := ⟨_, _, _, _, kc3, by decide, WU_of (mT1 (List.mem_of_getElem? (i := 138) rfl)) rfl, tyX3_ok 0 (by decide), rfl, rfl⟩
set_option maxRecDepth 100000 in
set_option maxHeartbeats 4000000 in
theorem c_X3_init {l : Launch} {D : va_G} {tc tt : Nat → Nat} (q0 : Nat) (wq : Nat) : Cn l yX3_init cX3_init 2 none 1 3 24 D tc tt [.ref q0, .ref wq] [(q0, .inr (3, [.null, .null, .null, .null, .int 0, .int 0, .int 0, .int 0, .int 0, .int 0, .int 0, .int 0, .int 0]))] (PV fun w => ∃ q1 q2 q3 : Nat, w = (q0, .inr (3, [.ref wq, .ref q1, .ref q2, .ref q3, .int 0, .int 0, .int 0, .int 0, .int 0, .int 0, .int 0, .int 0, .int 0])) :: [(q1, .inl (tc 0, 8, (.inl fun _ => 0))), (q2, .inl (tc 0, 8, (.inl fun _ => 0))), (q3, .inl (tc 0, 8, (.inl fun _ => 0)))]) := by
  refine Cn.of (by decide +kernel) (Nat.le_of_ble_eq_true rfl) ?_
  intro p e R s m args below meth c A C hr hlk hin hAO hnc hns
  refine E_aload_n C dX3_init_0 0 rfl ?_
  refine E_oinit C dX3_init_1 (WU_of (mT1 (List.mem_of_getElem? (i := 137) rfl)) rfl) (WU_of (mT1 (List.mem_of_getElem? (i := 22) rfl)) rfl) (WU_of (mT1 (List.mem_of_getElem? (i := 23) rfl)) rfl) (by decide) (Nat.le_of_ble_eq_true rfl) ?_
  refine E_aload_n C dX3_init_4 0 rfl ?_
  refine E_bipush (v := 8) C dX3_init_5 bp_8 ?_
  refine F_new_int C (N := 8) dX3_init_7 (by decide) rfl (by decide) (le_c hnc rfl) (le_c hns rfl) (fun q1 => ?_)
  refine Ev.to rfl (congrArg (List.cons _) (show _ = [(q1, .inl (tc 0, 8, (.inl fun _ => 0)))] from rfl)) rfl ?_
  refine F_putf C hin [.null, .ref q1, .null, .null, .int 0, .int 0, .int 0, .int 0, .int 0, .int 0, .int 0, .int 0, .int 0] dX3_init_9 ff_X3_9 rfl rfl (Nat.le_of_ble_eq_true rfl) rfl ?_
  refine E_aload_n C dX3_init_12 0 rfl ?_
  refine E_bipush (v := 8) C dX3_init_13 bp_8 ?_
  refine F_new_int C (N := 8) dX3_init_15 (by decide) rfl (by decide) (le_c hnc rfl) (le_c hns rfl) (fun q2 => ?_)
  refine Ev.to rfl (congrArg (List.cons _) (show _ = [(q1, .inl (tc 0, 8, (.inl fun _ => 0))), (q2, .inl (tc 0, 8, (.inl fun _ => 0)))] from rfl)) rfl ?_
  refine F_putf C hin [.null, .ref q1, .ref q2, .null, .int 0, .int 0, .int 0, .int 0, .int 0, .int 0, .int 0, .int 0, .int 0] dX3_init_17 ff_X3_15 rfl rfl (Nat.le_of_ble_eq_true rfl) rfl ?_
  refine E_aload_n C dX3_init_20 0 rfl ?_
  refine E_bipush (v := 8) C dX3_init_21 bp_8 ?_
  refine F_new_int C (N := 8) dX3_init_23 (by decide) rfl (by decide) (le_c hnc rfl) (le_c hns rfl) (fun q3 => ?_)
  refine Ev.to rfl (congrArg (List.cons _) (show _ = [(q1, .inl (tc 0, 8, (.inl fun _ => 0))), (q2, .inl (tc 0, 8, (.inl fun _ => 0))), (q3, .inl (tc 0, 8, (.inl fun _ => 0)))] from rfl)) rfl ?_
  refine F_putf C hin [.null, .ref q1, .ref q2, .ref q3, .int 0, .int 0, .int 0, .int 0, .int 0, .int 0, .int 0, .int 0, .int 0] dX3_init_25 ff_X3_18 rfl rfl (Nat.le_of_ble_eq_true rfl) rfl ?_
  refine E_aload_n C dX3_init_28 0 rfl ?_
  refine E_aload_n C dX3_init_29 1 rfl ?_
  refine F_putf C hin [.ref wq, .ref q1, .ref q2, .ref q3, .int 0, .int 0, .int 0, .int 0, .int 0, .int 0, .int 0, .int 0, .int 0] dX3_init_30 ff_X3_21 rfl rfl (Nat.le_of_ble_eq_true rfl) rfl ?_
  refine E_retN C hr hlk dX3_init_33 (Nat.le_of_ble_eq_true rfl) (Nat.le_of_ble_eq_true rfl) ?_
  exact ⟨rfl, q1, q2, q3, rfl⟩
theorem ff_X5_9 : FLf RX5 9 5 0 (.array .int) := ⟨_, _, _, _, kc5, by decide, WU_of (mT1 (List.mem_of_getElem? (i := 38) rfl)) rfl, tyX5_ok 0 (by decide), rfl, rfl⟩
theorem ff_X5_13 : FLf RX5 13 5 1 (.array .int) := ⟨_, _, _, _, kc5, by decide, WU_of (mT1 (List.mem_of_getElem? (i := 39) rfl)) rfl, tyX5_ok 1 (by decide), rfl, rfl⟩
theorem ff_X5_16 : FLf RX5 16 5 2 (.array .int) := ⟨_, _, _, _, kc5, by decide, WU_of (mT1 (List.mem_of_getElem? (i := 40) rfl)) rfl, tyX5_ok 2 (by decide), rfl, rfl⟩
theorem ff_X5_19 : FLf RX5 19 5 3 (.array .int) := ⟨_, _, _, _, kc5, by decide, WU_of (mT1 (List.mem_of_getElem? (i := 41) rfl)) rfl, tyX5_ok 3 (by decide), rfl, rfl⟩
set_option maxRecDepth 100000 in
set_option maxHeartbeats 4000000 in
theorem c_X5_init {l : Launch} {D : va_G} {tc tt : Nat → Nat} (q0 : Nat) : Cn l yX5_init cX5_init 1 none 1 4 391 D tc tt [.ref q0] [(q0, .inr (5, [.null, .null, .null, .null, .int 0]))] (PV fun w => ∃ q1 q2 q3 q4 : Nat, w = (q0, .inr (5, [.ref q1, .ref q2, .ref q3, .ref q4, .int 0])) :: [(q1, .inl (tc 0, 128, (.inl fun _ => 0))), (q2, .inl (tc 0, 128, (.inl fun _ => 0))), (q3, .inl (tc 0, 130, (.inl fun _ => 0))), (q4, .inl (tc 0, 5, (.inl fun _ => 0)))]) := by
  refine Cn.of (by decide +kernel) (Nat.le_of_ble_eq_true rfl) ?_
  intro p e R s m args below meth c A C hr hlk hin hAO hnc hns
  refine E_aload_n C dX5_init_0 0 rfl ?_
  refine E_oinit C dX5_init_1 (WU_of (mT1 (List.mem_of_getElem? (i := 37) rfl)) rfl) (WU_of (mT1 (List.mem_of_getElem? (i := 22) rfl)) rfl) (WU_of (mT1 (List.mem_of_getElem? (i := 23) rfl)) rfl) (by decide) (Nat.le_of_ble_eq_true rfl) ?_
  refine E_aload_n C dX5_init_4 0 rfl ?_
  refine E_sipush (v := 128) C dX5_init_5 sp_128 ?_
  refine F_new_int C (N := 128) dX5_init_8 (by decide) rfl (by decide) (le_c hnc rfl) (le_c hns rfl) (fun q1 => ?_)
  refine Ev.to rfl (congrArg (List.cons _) (show _ = [(q1, .inl (tc 0, 128, (.inl fun _ => 0)))] from rfl)) rfl ?_
  refine F_putf C hin [.ref q1, .null, .null, .null, .int 0] dX5_init_10 ff_X5_9 rfl rfl (Nat.le_of_ble_eq_true rfl) rfl ?_
  refine E_aload_n C dX5_init_13 0 rfl ?_
  refine E_sipush (v := 128) C dX5_init_14 sp_128 ?_
  refine F_new_int C (N := 128) dX5_init_17 (by decide) rfl (by decide) (le_c hnc rfl) (le_c hns rfl) (fun q2 => ?_)
  refine Ev.to rfl (congrArg (List.cons _) (show _ = [(q1, .inl (tc 0, 128, (.inl fun _ => 0))), (q2, .inl (tc 0, 128, (.inl fun _ => 0)))] from rfl)) rfl ?_
  refine F_putf C hin [.ref q1, .ref q2, .null, .null, .int 0] dX5_init_19 ff_X5_13 rfl rfl (Nat.le_of_ble_eq_true rfl) rfl ?_
  refine E_aload_n C dX5_init_22 0 rfl ?_
  refine E_sipush (v := 130) C dX5_init_23 sp_130 ?_
  refine F_new_int C (N := 130) dX5_init_26 (by decide) rfl (by decide) (le_c hnc rfl) (le_c hns rfl) (fun q3 => ?_)
  refine Ev.to rfl (congrArg (List.cons _) (show _ = [(q1, .inl (tc 0, 128, (.inl fun _ => 0))), (q2, .inl (tc 0, 128, (.inl fun _ => 0))), (q3, .inl (tc 0, 130, (.inl fun _ => 0)))] from rfl)) rfl ?_
  refine F_putf C hin [.ref q1, .ref q2, .ref q3, .null, .int 0] dX5_init_28 ff_X5_16 rfl rfl (Nat.le_of_ble_eq_true rfl) rfl ?_
  refine E_aload_n C dX5_init_31 0 rfl ?_
  refine E_iconst (v := 5) C dX5_init_32 ic_5 ?_
  refine F_new_int C (N := 5) dX5_init_33 (by decide) rfl (by decide) (le_c hnc rfl) (le_c hns rfl) (fun q4 => ?_)
  refine Ev.to rfl (congrArg (List.cons _) (show _ = [(q1, .inl (tc 0, 128, (.inl fun _ => 0))), (q2, .inl (tc 0, 128, (.inl fun _ => 0))), (q3, .inl (tc 0, 130, (.inl fun _ => 0))), (q4, .inl (tc 0, 5, (.inl fun _ => 0)))] from rfl)) rfl ?_
  refine F_putf C hin [.ref q1, .ref q2, .ref q3, .ref q4, .int 0] dX5_init_35 ff_X5_19 rfl rfl (Nat.le_of_ble_eq_true rfl) rfl ?_
  refine E_retN C hr hlk dX5_init_38 (Nat.le_of_ble_eq_true rfl) (Nat.le_of_ble_eq_true rfl) ?_
  exact ⟨rfl, q1, q2, q3, q4, rfl⟩
theorem ff_X6_11 : FLf RX6 11 6 0 (.array .int) := ⟨_, _, _, _, kc6, by decide, WU_of (mT1 (List.mem_of_getElem? (i := 106) rfl)) rfl, tyX6_ok 0 (by decide), rfl, rfl⟩
theorem ff_X6_17 : FLf RX6 17 6 1 (.array .int) := ⟨_, _, _, _, kc6, by decide, WU_of (mT1 (List.mem_of_getElem? (i := 107) rfl)) rfl, tyX6_ok 1 (by decide), rfl, rfl⟩
theorem ff_X6_20 : FLf RX6 20 6 2 (.array .int) := ⟨_, _, _, _, kc6, by decide, WU_of (mT1 (List.mem_of_getElem? (i := 109) rfl)) rfl, tyX6_ok 2 (by decide), rfl, rfl⟩
set_option maxRecDepth 100000 in
set_option maxHeartbeats 4000000 in
theorem c_X6_init {l : Launch} {D : va_G} {tc tt : Nat → Nat} (q0 : Nat) : Cn l yX6_init cX6_init 1 none 1 3 376 D tc tt [.ref q0] [(q0, .inr (6, [.null, .null, .null, .int 0, .int 0, .int 0, .int 0]))] (PV fun w => ∃ q1 q2 q3 : Nat, w = (q0, .inr (6, [.ref q1, .ref q2, .ref q3, .int 0, .int 0, .int 0, .int 0])) :: [(q1, .inl (tc 0, 120, (.inl fun _ => 0))), (q2, .inl (tc 0, 128, (.inl fun _ => 0))), (q3, .inl (tc 0, 128, (.inl fun _ => 0)))]) := by
  refine Cn.of (by decide +kernel) (Nat.le_of_ble_eq_true rfl) ?_
  intro p e R s m args below meth c A C hr hlk hin hAO hnc hns
  refine E_aload_n C dX6_init_0 0 rfl ?_
  refine E_oinit C dX6_init_1 (WU_of (mT1 (List.mem_of_getElem? (i := 105) rfl)) rfl) (WU_of (mT1 (List.mem_of_getElem? (i := 22) rfl)) rfl) (WU_of (mT1 (List.mem_of_getElem? (i := 23) rfl)) rfl) (by decide) (Nat.le_of_ble_eq_true rfl) ?_
  refine E_aload_n C dX6_init_4 0 rfl ?_
  refine E_bipush (v := 120) C dX6_init_5 bp_120 ?_
  refine F_new_int C (N := 120) dX6_init_7 (by decide) rfl (by decide) (le_c hnc rfl) (le_c hns rfl) (fun q1 => ?_)
  refine Ev.to rfl (congrArg (List.cons _) (show _ = [(q1, .inl (tc 0, 120, (.inl fun _ => 0)))] from rfl)) rfl ?_
  refine F_putf C hin [.ref q1, .null, .null, .int 0, .int 0, .int 0, .int 0] dX6_init_9 ff_X6_11 rfl rfl (Nat.le_of_ble_eq_true rfl) rfl ?_
  refine E_aload_n C dX6_init_12 0 rfl ?_
  refine E_sipush (v := 128) C dX6_init_13 sp_128 ?_
  refine F_new_int C (N := 128) dX6_init_16 (by decide) rfl (by decide) (le_c hnc rfl) (le_c hns rfl) (fun q2 => ?_)
  refine Ev.to rfl (congrArg (List.cons _) (show _ = [(q1, .inl (tc 0, 120, (.inl fun _ => 0))), (q2, .inl (tc 0, 128, (.inl fun _ => 0)))] from rfl)) rfl ?_
  refine F_putf C hin [.ref q1, .ref q2, .null, .int 0, .int 0, .int 0, .int 0] dX6_init_18 ff_X6_17 rfl rfl (Nat.le_of_ble_eq_true rfl) rfl ?_
  refine E_aload_n C dX6_init_21 0 rfl ?_
  refine E_sipush (v := 128) C dX6_init_22 sp_128 ?_
  refine F_new_int C (N := 128) dX6_init_25 (by decide) rfl (by decide) (le_c hnc rfl) (le_c hns rfl) (fun q3 => ?_)
  refine Ev.to rfl (congrArg (List.cons _) (show _ = [(q1, .inl (tc 0, 120, (.inl fun _ => 0))), (q2, .inl (tc 0, 128, (.inl fun _ => 0))), (q3, .inl (tc 0, 128, (.inl fun _ => 0)))] from rfl)) rfl ?_
  refine F_putf C hin [.ref q1, .ref q2, .ref q3, .int 0, .int 0, .int 0, .int 0] dX6_init_27 ff_X6_20 rfl rfl (Nat.le_of_ble_eq_true rfl) rfl ?_
  refine E_retN C hr hlk dX6_init_30 (Nat.le_of_ble_eq_true rfl) (Nat.le_of_ble_eq_true rfl) ?_
  exact ⟨rfl, q1, q2, q3, rfl⟩
theorem ff_X7_11 : FLf RX7 11 7 0 (.array .long) := ⟨_, _, _, _, kc7, by decide, WU_of (mT2 (List.mem_of_getElem? (i := 58) rfl)) rfl, tyX7_ok 0 (by decide), rfl, rfl⟩
set_option maxRecDepth 100000 in
set_option maxHeartbeats 4000000 in
theorem c_X7_init {l : Launch} {D : va_G} {tc tt : Nat → Nat} (q0 : Nat) : Cn l yX7_init cX7_init 1 none 1 1 60 D tc tt [.ref q0] [(q0, .inr (7, [.null, .int 0, .int 0, .int 0, .int 0]))] (PV fun w => ∃ q1 : Nat, w = (q0, .inr (7, [.ref q1, .int 0, .int 0, .int 0, .int 0])) :: [(q1, .inl (tc 1, 60, (.inr (.inl fun _ => 0))))]) := by
  refine Cn.of (by decide +kernel) (Nat.le_of_ble_eq_true rfl) ?_
  intro p e R s m args below meth c A C hr hlk hin hAO hnc hns
  refine E_aload_n C dX7_init_0 0 rfl ?_
  refine E_oinit C dX7_init_1 (WU_of (mT2 (List.mem_of_getElem? (i := 57) rfl)) rfl) (WU_of (mT1 (List.mem_of_getElem? (i := 22) rfl)) rfl) (WU_of (mT1 (List.mem_of_getElem? (i := 23) rfl)) rfl) (by decide) (Nat.le_of_ble_eq_true rfl) ?_
  refine E_aload_n C dX7_init_4 0 rfl ?_
  refine E_bipush (v := 60) C dX7_init_5 bp_60 ?_
  refine F_new_long C (N := 60) dX7_init_7 (by decide) rfl (by decide) (le_c hnc rfl) (le_c hns rfl) (fun q1 => ?_)
  refine Ev.to rfl (congrArg (List.cons _) (show _ = [(q1, .inl (tc 1, 60, (.inr (.inl fun _ => 0))))] from rfl)) rfl ?_
  refine F_putf C hin [.ref q1, .int 0, .int 0, .int 0, .int 0] dX7_init_9 ff_X7_11 rfl rfl (Nat.le_of_ble_eq_true rfl) rfl ?_
  refine E_retN C hr hlk dX7_init_12 (Nat.le_of_ble_eq_true rfl) (Nat.le_of_ble_eq_true rfl) ?_
  exact ⟨rfl, q1, rfl⟩
