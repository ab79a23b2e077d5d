/-! the class's Table and Journey: their constructors -/
theorem im_X3 : Cond.instanceMethod yX3_init ∈ WU := WU_of (mT1 (List.mem_of_getElem? (i := 135) rfl)) rfl
theorem ff_X8_11 : FLf RX8 11 8 2 (.array .int) := ⟨_, _, _, _, kc8, by decide, WU_of (mT1 (List.mem_of_getElem? (i := 200) rfl)) rfl, tyX8_ok 2 (by decide), rfl, rfl⟩
theorem ff_X8_15 : FLf RX8 15 8 3 (.array .int) := ⟨_, _, _, _, kc8, by decide, WU_of (mT1 (List.mem_of_getElem? (i := 201) rfl)) rfl, tyX8_ok 3 (by decide), rfl, rfl⟩
theorem ff_X8_18 : FLf RX8 18 8 4 (.array .int) := ⟨_, _, _, _, kc8, by decide, WU_of (mT1 (List.mem_of_getElem? (i := 202) rfl)) rfl, tyX8_ok 4 (by decide), rfl, rfl⟩
theorem ff_X8_21 : FLf RX8 21 8 5 (.array .long) := ⟨_, _, _, _, kc8, by decide, WU_of (mT1 (List.mem_of_getElem? (i := 203) rfl)) rfl, tyX8_ok 5 (by decide), rfl, rfl⟩
theorem ff_X8_29 : FLf RX8 29 8 0 (.object "BackHouse$World") := ⟨_, _, _, _, kc8, by decide, WU_of (mT1 (List.mem_of_getElem? (i := 198) rfl)) rfl, tyX8_ok 0 (by decide), rfl, rfl⟩
theorem ff_X8_38 : FLf RX8 38 8 1 (.object "BackHouse$Drive") := ⟨_, _, _, _, kc8, by decide, WU_of (mT1 (List.mem_of_getElem? (i := 199) rfl)) rfl, tyX8_ok 1 (by decide), rfl, rfl⟩
theorem nw_8_33 : NW_ RX8 33 3 13 [.null, .null, .null, .null, .int 0, .int 0, .int 0, .int 0, .int 0, .int 0, .int 0, .int 0, .int 0] := ⟨_, _, _, kc3, WU_of (mT1 (List.mem_of_getElem? (i := 196) rfl)) rfl, WU_of (mT1 (List.mem_of_getElem? (i := 133) rfl)) rfl, WU_of (mT1 (List.mem_of_getElem? (i := 6) rfl)) rfl, fun j hj => by rcases (show j = 0 ∨ j = 1 ∨ j = 2 ∨ j = 3 ∨ j = 4 ∨ j = 5 ∨ j = 6 ∨ j = 7 ∨ j = 8 ∨ j = 9 ∨ j = 10 ∨ j = 11 ∨ j = 12 by omega) with rfl | rfl | rfl | rfl | rfl | rfl | rfl | rfl | rfl | rfl | rfl | rfl | rfl <;> rfl⟩
theorem ml_X8_35 : ML RX8 35 yX3_init cX3_init 2 none 1 := ⟨WU_of (mT1 (List.mem_of_getElem? (i := 197) rfl)) rfl, WU_of (mT1 (List.mem_of_getElem? (i := 136) rfl)) rfl, WU_of (mT1 (List.mem_of_getElem? (i := 6) rfl)) rfl, ⟨by decide +kernel, by decide +kernel, by decide +kernel⟩, by decide⟩
set_option maxRecDepth 100000 in
set_option maxHeartbeats 4000000 in
theorem c_X8_init {l : Launch} {D : va_G} {tc tt : Nat → Nat} (q0 wq : Nat) : Cn l yX8_init cX8_init 2 none 2 8 1061 D tc tt [.ref q0, .ref wq] [(q0, .inr (8, [.null, .null, .null, .null, .null, .null, .long 0, .int 0]))] (PV fun w => ∃ z1 z2 z3 z4 z5 z6 z7 z8 : Nat, w = (q0, .inr (8, [.ref wq, .ref z5, .ref z1, .ref z2, .ref z3, .ref z4, .long 1, .int 0])) :: ([(z1, .inl (tc 0, 256, (.inl fun _ => 0))), (z2, .inl (tc 0, 256, (.inl fun _ => 0))), (z3, .inl (tc 0, 256, (.inl fun _ => 0))), (z4, .inl (tc 1, 256, (.inr (.inl fun _ => 0)))), (z5, .inr (3, [.ref wq, .ref z6, .ref z7, .ref z8, .int 0, .int 0, .int 0, .int 0, .int 0, .int 0, .int 0, .int 0, .int 0])), (z6, .inl (tc 0, 8, (.inl fun _ => 0))), (z7, .inl (tc 0, 8, (.inl fun _ => 0))), (z8, .inl (tc 0, 8, (.inl fun _ => 0)))] : va_W)) := by
  refine Cn.of (by decide +kernel) (Nat.le_of_ble_eq_true rfl) ?_
  intro p e R s m args below meth c A C hr hlk hin hAO hnc hns
  refine E_aload_n C dX8_init_0 0 rfl ?_
  refine E_oinit C dX8_init_1 (WU_of (mT1 (List.mem_of_getElem? (i := 195) rfl)) rfl) (WU_of (mT1 (List.mem_of_getElem? (i := 22) rfl)) rfl) (WU_of (mT1 (List.mem_of_getElem? (i := 23) rfl)) rfl) (by decide) (Nat.le_of_ble_eq_true rfl) ?_
  refine E_aload_n C dX8_init_4 0 rfl ?_
  refine E_sipush (v := 256) C dX8_init_5 sp_256 ?_
  refine F_new_int C (N := 256) dX8_init_8 (by decide) rfl (by decide) (le_c hnc rfl) (le_c hns rfl) (fun z1 => ?_)
  refine Ev.to rfl (show _ = (q0, .inr (8, [.null, .null, .null, .null, .null, .null, .long 0, .int 0])) :: ([(z1, .inl (tc 0, 256, (.inl fun _ => 0)))] : va_W) from rfl) rfl ?_
  refine F_putf C hin [.null, .null, .ref z1, .null, .null, .null, .long 0, .int 0] dX8_init_10 ff_X8_11 rfl rfl (Nat.le_of_ble_eq_true rfl) rfl ?_
  refine E_aload_n C dX8_init_13 0 rfl ?_
  refine E_sipush (v := 256) C dX8_init_14 sp_256 ?_
  refine F_new_int C (N := 256) dX8_init_17 (by decide) rfl (by decide) (le_c hnc rfl) (le_c hns rfl) (fun z2 => ?_)
  refine Ev.to rfl (show _ = (q0, .inr (8, [.null, .null, .ref z1, .null, .null, .null, .long 0, .int 0])) :: ([(z1, .inl (tc 0, 256, (.inl fun _ => 0))), (z2, .inl (tc 0, 256, (.inl fun _ => 0)))] : va_W) from rfl) rfl ?_
  refine F_putf C hin [.null, .null, .ref z1, .ref z2, .null, .null, .long 0, .int 0] dX8_init_19 ff_X8_15 rfl rfl (Nat.le_of_ble_eq_true rfl) rfl ?_
  refine E_aload_n C dX8_init_22 0 rfl ?_
  refine E_sipush (v := 256) C dX8_init_23 sp_256 ?_
  refine F_new_int C (N := 256) dX8_init_26 (by decide) rfl (by decide) (le_c hnc rfl) (le_c hns rfl) (fun z3 => ?_)
  refine Ev.to rfl (show _ = (q0, .inr (8, [.null, .null, .ref z1, .ref z2, .null, .null, .long 0, .int 0])) :: ([(z1, .inl (tc 0, 256, (.inl fun _ => 0))), (z2, .inl (tc 0, 256, (.inl fun _ => 0))), (z3, .inl (tc 0, 256, (.inl fun _ => 0)))] : va_W) from rfl) rfl ?_
  refine F_putf C hin [.null, .null, .ref z1, .ref z2, .ref z3, .null, .long 0, .int 0] dX8_init_28 ff_X8_18 rfl rfl (Nat.le_of_ble_eq_true rfl) rfl ?_
  refine E_aload_n C dX8_init_31 0 rfl ?_
  refine E_sipush (v := 256) C dX8_init_32 sp_256 ?_
  refine F_new_long C (N := 256) dX8_init_35 (by decide) rfl (by decide) (le_c hnc rfl) (le_c hns rfl) (fun z4 => ?_)
  refine Ev.to rfl (show _ = (q0, .inr (8, [.null, .null, .ref z1, .ref z2, .ref z3, .null, .long 0, .int 0])) :: ([(z1, .inl (tc 0, 256, (.inl fun _ => 0))), (z2, .inl (tc 0, 256, (.inl fun _ => 0))), (z3, .inl (tc 0, 256, (.inl fun _ => 0))), (z4, .inl (tc 1, 256, (.inr (.inl fun _ => 0))))] : va_W) from rfl) rfl ?_
  refine F_putf C hin [.null, .null, .ref z1, .ref z2, .ref z3, .ref z4, .long 0, .int 0] dX8_init_37 ff_X8_21 rfl rfl (Nat.le_of_ble_eq_true rfl) rfl ?_
  refine E_aload_n C dX8_init_40 0 rfl ?_
  refine E_lconst (v := 1) C dX8_init_41 rfl ?_
  refine F_put C [.null, .null, .ref z1, .ref z2, .ref z3, .ref z4, .long 1, .int 0] dX8_init_42 fw_X8_25 rfl rfl (Nat.le_of_ble_eq_true rfl) rfl ?_
  refine E_aload_n C dX8_init_45 0 rfl ?_
  refine E_aload_n C dX8_init_46 1 rfl ?_
  refine F_putf C hin [.ref wq, .null, .ref z1, .ref z2, .ref z3, .ref z4, .long 1, .int 0] dX8_init_47 ff_X8_29 rfl rfl (Nat.le_of_ble_eq_true rfl) rfl ?_
  refine E_aload_n C dX8_init_50 0 rfl ?_
  refine E_new C dX8_init_51 nw_8_33 (le_c hnc rfl) (le_c hns rfl) (fun z5 => ?_)
  refine E_dup C dX8_init_54 rfl ?_
  refine E_aload_n C dX8_init_55 1 rfl ?_
  refine E_init C hAO dX8_init_56 ml_X8_35 rfl im_X3 [.ref wq] (c_X3_init z5 wq) [5] [0, 1, 2, 3, 4] (wc := [(z5, .inr (3, [.null, .null, .null, .null, .int 0, .int 0, .int 0, .int 0, .int 0, .int 0, .int 0, .int 0, .int 0]))]) (wr := (q0, .inr (8, [.ref wq, .null, .ref z1, .ref z2, .ref z3, .ref z4, .long 1, .int 0])) :: ([(z1, .inl (tc 0, 256, (.inl fun _ => 0))), (z2, .inl (tc 0, 256, (.inl fun _ => 0))), (z3, .inl (tc 0, 256, (.inl fun _ => 0))), (z4, .inl (tc 1, 256, (.inr (.inl fun _ => 0))))] : va_W)) rfl rfl rfl (by decide) (by decide) rfl rfl (by decide) (Nat.le_of_ble_eq_true rfl) ⟨le_c hnc rfl, le_c hns rfl⟩ ?_
  rintro _ _ ⟨rfl, z6, z7, z8, rfl⟩
  refine Ev.to rfl (show _ = (q0, .inr (8, [.ref wq, .null, .ref z1, .ref z2, .ref z3, .ref z4, .long 1, .int 0])) :: ([(z1, .inl (tc 0, 256, (.inl fun _ => 0))), (z2, .inl (tc 0, 256, (.inl fun _ => 0))), (z3, .inl (tc 0, 256, (.inl fun _ => 0))), (z4, .inl (tc 1, 256, (.inr (.inl fun _ => 0)))), (z5, .inr (3, [.ref wq, .ref z6, .ref z7, .ref z8, .int 0, .int 0, .int 0, .int 0, .int 0, .int 0, .int 0, .int 0, .int 0])), (z6, .inl (tc 0, 8, (.inl fun _ => 0))), (z7, .inl (tc 0, 8, (.inl fun _ => 0))), (z8, .inl (tc 0, 8, (.inl fun _ => 0)))] : va_W) from rfl) rfl ?_
  refine F_putf C hin [.ref wq, .ref z5, .ref z1, .ref z2, .ref z3, .ref z4, .long 1, .int 0] dX8_init_59 ff_X8_38 rfl rfl (Nat.le_of_ble_eq_true rfl) rfl ?_
  refine E_retN C hr hlk dX8_init_62 (Nat.le_of_ble_eq_true rfl) (Nat.le_of_ble_eq_true rfl) ?_
  exact ⟨rfl, z1, z2, z3, z4, z5, z6, z7, z8, rfl⟩
theorem ff_X4_12 : FLf RX4 12 4 0 (.object "BackHouse$Drive") := ⟨_, _, _, _, kc4, by decide, WU_of (mT2 (List.mem_of_getElem? (i := 3) rfl)) rfl, tyX4_ok 0 (by decide), rfl, rfl⟩
theorem ff_X4_18 : FLf RX4 18 4 1 (.object "BackHouse$Drive") := ⟨_, _, _, _, kc4, by decide, WU_of (mT2 (List.mem_of_getElem? (i := 5) rfl)) rfl, tyX4_ok 1 (by decide), rfl, rfl⟩
theorem nw_4_7 : NW_ RX4 7 3 13 [.null, .null, .null, .null, .int 0, .int 0, .int 0, .int 0, .int 0, .int 0, .int 0, .int 0, .int 0] := ⟨_, _, _, kc3, WU_of (mT2 (List.mem_of_getElem? (i := 1) rfl)) rfl, WU_of (mT1 (List.mem_of_getElem? (i := 133) rfl)) rfl, WU_of (mT1 (List.mem_of_getElem? (i := 6) rfl)) rfl, fun j hj => by rcases (show j = 0 ∨ j = 1 ∨ j = 2 ∨ j = 3 ∨ j = 4 ∨ j = 5 ∨ j = 6 ∨ j = 7 ∨ j = 8 ∨ j = 9 ∨ j = 10 ∨ j = 11 ∨ j = 12 by omega) with rfl | rfl | rfl | rfl | rfl | rfl | rfl | rfl | rfl | rfl | rfl | rfl | rfl <;> rfl⟩
theorem ml_X4_9 : ML RX4 9 yX3_init cX3_init 2 none 1 := ⟨WU_of (mT2 (List.mem_of_getElem? (i := 2) rfl)) rfl, WU_of (mT1 (List.mem_of_getElem? (i := 136) rfl)) rfl, WU_of (mT1 (List.mem_of_getElem? (i := 6) rfl)) rfl, ⟨by decide +kernel, by decide +kernel, by decide +kernel⟩, by decide⟩
set_option maxRecDepth 100000 in
set_option maxHeartbeats 4000000 in
theorem c_X4_init {l : Launch} {D : va_G} {tc tt : Nat → Nat} (q0 wq : Nat) : Cn l yX4_init cX4_init 2 none 2 8 74 D tc tt [.ref q0, .ref wq] [(q0, .inr (4, [.null, .null, .int 0, .int 0, .int 0, .int 0, .int 0]))] (PV fun w => ∃ z1 z2 z3 z4 z5 z6 z7 z8 : Nat, w = (q0, .inr (4, [.ref z1, .ref z5, .int 0, .int 0, .int 0, .int 0, .int 0])) :: ([(z1, .inr (3, [.ref wq, .ref z2, .ref z3, .ref z4, .int 0, .int 0, .int 0, .int 0, .int 0, .int 0, .int 0, .int 0, .int 0])), (z2, .inl (tc 0, 8, (.inl fun _ => 0))), (z3, .inl (tc 0, 8, (.inl fun _ => 0))), (z4, .inl (tc 0, 8, (.inl fun _ => 0))), (z5, .inr (3, [.ref wq, .ref z6, .ref z7, .ref z8, .int 0, .int 0, .int 0, .int 0, .int 0, .int 0, .int 0, .int 0, .int 0])), (z6, .inl (tc 0, 8, (.inl fun _ => 0))), (z7, .inl (tc 0, 8, (.inl fun _ => 0))), (z8, .inl (tc 0, 8, (.inl fun _ => 0)))] : va_W)) := by
  refine Cn.of (by decide +kernel) (Nat.le_of_ble_eq_true rfl) ?_
  intro p e R s m args below meth c A C hr hlk hin hAO hnc hns
  refine E_aload_n C dX4_init_0 0 rfl ?_
  refine E_oinit C dX4_init_1 (WU_of (mT2 (List.mem_of_getElem? (i := 0) rfl)) rfl) (WU_of (mT1 (List.mem_of_getElem? (i := 22) rfl)) rfl) (WU_of (mT1 (List.mem_of_getElem? (i := 23) rfl)) rfl) (by decide) (Nat.le_of_ble_eq_true rfl) ?_
  refine E_aload_n C dX4_init_4 0 rfl ?_
  refine E_new C dX4_init_5 nw_4_7 (le_c hnc rfl) (le_c hns rfl) (fun z1 => ?_)
  refine E_dup C dX4_init_8 rfl ?_
  refine E_aload_n C dX4_init_9 1 rfl ?_
  refine E_init C hAO dX4_init_10 ml_X4_9 rfl im_X3 [.ref wq] (c_X3_init z1 wq) [1] [0] (wc := [(z1, .inr (3, [.null, .null, .null, .null, .int 0, .int 0, .int 0, .int 0, .int 0, .int 0, .int 0, .int 0, .int 0]))]) (wr := (q0, .inr (4, [.null, .null, .int 0, .int 0, .int 0, .int 0, .int 0])) :: ([] : va_W)) rfl rfl rfl (by decide) (by decide) rfl rfl (by decide) (Nat.le_of_ble_eq_true rfl) ⟨le_c hnc rfl, le_c hns rfl⟩ ?_
  rintro _ _ ⟨rfl, z2, z3, z4, rfl⟩
  refine Ev.to rfl (show _ = (q0, .inr (4, [.null, .null, .int 0, .int 0, .int 0, .int 0, .int 0])) :: ([(z1, .inr (3, [.ref wq, .ref z2, .ref z3, .ref z4, .int 0, .int 0, .int 0, .int 0, .int 0, .int 0, .int 0, .int 0, .int 0])), (z2, .inl (tc 0, 8, (.inl fun _ => 0))), (z3, .inl (tc 0, 8, (.inl fun _ => 0))), (z4, .inl (tc 0, 8, (.inl fun _ => 0)))] : va_W) from rfl) rfl ?_
  refine F_putf C hin [.ref z1, .null, .int 0, .int 0, .int 0, .int 0, .int 0] dX4_init_13 ff_X4_12 rfl rfl (Nat.le_of_ble_eq_true rfl) rfl ?_
  refine E_aload_n C dX4_init_16 0 rfl ?_
  refine E_new C dX4_init_17 nw_4_7 (le_c hnc rfl) (le_c hns rfl) (fun z5 => ?_)
  refine E_dup C dX4_init_20 rfl ?_
  refine E_aload_n C dX4_init_21 1 rfl ?_
  refine E_init C hAO dX4_init_22 ml_X4_9 rfl im_X3 [.ref wq] (c_X3_init z5 wq) [5] [0, 1, 2, 3, 4] (wc := [(z5, .inr (3, [.null, .null, .null, .null, .int 0, .int 0, .int 0, .int 0, .int 0, .int 0, .int 0, .int 0, .int 0]))]) (wr := (q0, .inr (4, [.ref z1, .null, .int 0, .int 0, .int 0, .int 0, .int 0])) :: ([(z1, .inr (3, [.ref wq, .ref z2, .ref z3, .ref z4, .int 0, .int 0, .int 0, .int 0, .int 0, .int 0, .int 0, .int 0, .int 0])), (z2, .inl (tc 0, 8, (.inl fun _ => 0))), (z3, .inl (tc 0, 8, (.inl fun _ => 0))), (z4, .inl (tc 0, 8, (.inl fun _ => 0)))] : va_W)) rfl rfl rfl (by decide) (by decide) rfl rfl (by decide) (Nat.le_of_ble_eq_true rfl) ⟨le_c hnc rfl, le_c hns rfl⟩ ?_
  rintro _ _ ⟨rfl, z6, z7, z8, rfl⟩
  refine Ev.to rfl (show _ = (q0, .inr (4, [.ref z1, .null, .int 0, .int 0, .int 0, .int 0, .int 0])) :: ([(z1, .inr (3, [.ref wq, .ref z2, .ref z3, .ref z4, .int 0, .int 0, .int 0, .int 0, .int 0, .int 0, .int 0, .int 0, .int 0])), (z2, .inl (tc 0, 8, (.inl fun _ => 0))), (z3, .inl (tc 0, 8, (.inl fun _ => 0))), (z4, .inl (tc 0, 8, (.inl fun _ => 0))), (z5, .inr (3, [.ref wq, .ref z6, .ref z7, .ref z8, .int 0, .int 0, .int 0, .int 0, .int 0, .int 0, .int 0, .int 0, .int 0])), (z6, .inl (tc 0, 8, (.inl fun _ => 0))), (z7, .inl (tc 0, 8, (.inl fun _ => 0))), (z8, .inl (tc 0, 8, (.inl fun _ => 0)))] : va_W) from rfl) rfl ?_
  refine F_putf C hin [.ref z1, .ref z5, .int 0, .int 0, .int 0, .int 0, .int 0] dX4_init_25 ff_X4_18 rfl rfl (Nat.le_of_ble_eq_true rfl) rfl ?_
  refine E_retN C hr hlk dX4_init_28 (Nat.le_of_ble_eq_true rfl) (Nat.le_of_ble_eq_true rfl) ?_
  exact ⟨rfl, z1, z2, z3, z4, z5, z6, z7, z8, rfl⟩
