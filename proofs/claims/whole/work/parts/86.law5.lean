/-! the start: classes, arrays, static tables, as the tables and the given have them -/
theorem st_cls {s : State} {args : Array Value} (hts : ∀ w ∈ lw_tbl, w.before args s = true) : ∃ D : va_G, ∀ (k : Nat) (q : vw_C), vwCl[k]? = some q → u_Kn s q.1 q.2.1 q.2.2 (D.1 k) (D.2 k) := by
  have hU : ∀ w ∈ WU, w.before args s = true := fun w h => hts w (WU_tbl w h)
  obtain ⟨c0, i0, k0⟩ := u_known (C := RX0) (T := TX0) (N := 4) (n := 4) hU kc0.2.1 (hts _ (mT2 (List.mem_of_getElem? (i := 30) rfl)))
  obtain ⟨c1, i1, k1⟩ := u_known (C := RX1) (T := TX1) (N := 6) (n := 6) hU kc1.2.1 (hts _ (mT1 (List.mem_of_getElem? (i := 74) rfl)))
  obtain ⟨c2, i2, k2⟩ := u_known (C := RX2) (T := TX2) (N := 1) (n := 1) hU kc2.2.1 (hts _ (mT1 (List.mem_of_getElem? (i := 225) rfl)))
  obtain ⟨c3, i3, k3⟩ := u_known (C := RX3) (T := TX3) (N := 13) (n := 13) hU kc3.2.1 (hts _ (mT1 (List.mem_of_getElem? (i := 133) rfl)))
  obtain ⟨c4, i4, k4⟩ := u_known (C := RX4) (T := TX4) (N := 7) (n := 7) hU kc4.2.1 (hts _ (mT1 (List.mem_of_getElem? (i := 236) rfl)))
  obtain ⟨c5, i5, k5⟩ := u_known (C := RX5) (T := TX5) (N := 5) (n := 5) hU kc5.2.1 (hts _ (mT1 (List.mem_of_getElem? (i := 33) rfl)))
  obtain ⟨c6, i6, k6⟩ := u_known (C := RX6) (T := TX6) (N := 7) (n := 7) hU kc6.2.1 (hts _ (mT1 (List.mem_of_getElem? (i := 101) rfl)))
  obtain ⟨c7, i7, k7⟩ := u_known (C := RX7) (T := TX7) (N := 5) (n := 5) hU kc7.2.1 (hts _ (mT2 (List.mem_of_getElem? (i := 53) rfl)))
  obtain ⟨c8, i8, k8⟩ := u_known (C := RX8) (T := TX8) (N := 8) (n := 8) hU kc8.2.1 (hts _ (mT1 (List.mem_of_getElem? (i := 191) rfl)))
  obtain ⟨c9, i9, k9⟩ := u_known (C := RX9) (T := TX9) (N := 4) (n := 4) hU kc9.2.1 (hts _ (mT1 (List.mem_of_getElem? (i := 25) rfl)))
  obtain ⟨c10, i10, k10⟩ := u_known (C := RX10) (T := TX10) (N := 9) (n := 9) hU kc10.2.1 (hts _ (mT1 (List.mem_of_getElem? (i := 17) rfl)))
  obtain ⟨c11, i11, k11⟩ := u_known (C := RX11) (T := TX11) (N := 53) (n := 53) hU kc11.2.1 (hts _ (mT4 (List.mem_of_getElem? (i := 153) rfl)))
  refine ⟨(fun k => [c0, c1, c2, c3, c4, c5, c6, c7, c8, c9, c10, c11].getD k 0, fun k => [i0, i1, i2, i3, i4, i5, i6, i7, i8, i9, i10, i11].getD k i0), fun k q hq => ?_⟩
  match k, hq with
  | 0, hq => cases hq; exact k0
  | 1, hq => cases hq; exact k1
  | 2, hq => cases hq; exact k2
  | 3, hq => cases hq; exact k3
  | 4, hq => cases hq; exact k4
  | 5, hq => cases hq; exact k5
  | 6, hq => cases hq; exact k6
  | 7, hq => cases hq; exact k7
  | 8, hq => cases hq; exact k8
  | 9, hq => cases hq; exact k9
  | 10, hq => cases hq; exact k10
  | 11, hq => cases hq; exact k11
  | _ + 12, hq => cases hq
theorem st_arr {s : State} {args : Array Value} (hts : ∀ w ∈ lw_tbl, w.before args s = true) : ∃ tc : Nat → Nat, ∀ (k : Nat) (q : ClassId × FieldType), (TY tc)[k]? = some q → ArrOfT s q.1 q.2 ∧ va_RA s q.1 q.2 := by
  have hU : ∀ w ∈ WU, w.before args s = true := fun w h => hts w (WU_tbl w h)
  obtain ⟨a0, kA0, cp0, f0, g0, h0⟩ := Cond.arrayClass_spec (hU _ w_ac_int)
  obtain ⟨a1, kA1, cp1, f1, g1, h1⟩ := Cond.arrayClass_spec (hU _ w_ac_long)
  obtain ⟨a2, kA2, cp2, f2, g2, h2⟩ := Cond.arrayClass_spec (hU _ w_ac_byte)
  obtain ⟨a3, kA3, cp3, f3, g3, h3⟩ := Cond.arrayClass_spec (hU _ w_ac_short)
  obtain ⟨cp4, a4, kA4, e4, g4, h4, f4⟩ := ao_int_spec (hts _ w_ao_int)
  obtain ⟨cp5, a5, kA5, e5, z5, g5, h5, f5⟩ := Cond.arrayOver_spec (hts _ w_ao_shelf)
  have t0 : ArrOfT s a0 .int ∧ va_RA s a0 .int := ⟨fun n z => ⟨fun k h => (by cases h), kA0, g0, cp0, h0⟩, f0⟩
  have t1 : ArrOfT s a1 .long ∧ va_RA s a1 .long := ⟨fun n z => ⟨fun k h => (by cases h), kA1, g1, cp1, h1⟩, f1⟩
  have t2 : ArrOfT s a2 .byte ∧ va_RA s a2 .byte := ⟨fun n z => ⟨fun k h => (by cases h), kA2, g2, cp2, h2⟩, f2⟩
  have t3 : ArrOfT s a3 .short ∧ va_RA s a3 .short := ⟨fun n z => ⟨fun k h => (by cases h), kA3, g3, cp3, h3⟩, f3⟩
  have t4 : ArrOfT s a4 (.array .int) ∧ va_RA s a4 (.array .int) := ⟨fun n z => ⟨fun k h => (by cases h), kA4, g4, cp4, h4⟩, f4⟩
  have t5 : ArrOfT s a5 (.object "BackHouse$Shelf") ∧ va_RA s a5 (.object "BackHouse$Shelf") := ⟨fun n z => ⟨fun k h => (by cases h), kA5, g5, cp5, h5⟩, ⟨kA5, cp5, g5, h5, e5, f5⟩⟩
  refine ⟨fun k => [a0, a1, a2, a3, a4, a5].getD k 0, fun k q hq => ?_⟩
  match k, hq with
  | 0, hq => cases hq; exact t0
  | 1, hq => cases hq; exact t1
  | 2, hq => cases hq; exact t2
  | 3, hq => cases hq; exact t3
  | 4, hq => cases hq; exact t4
  | 5, hq => cases hq; exact t5
  | _ + 6, hq => cases hq
theorem st_ao {s : State} {args : Array Value} (hts : ∀ w ∈ lw_tbl, w.before args s = true) : AO2 s := ⟨va_AO.of (hts _ w_ao_shelf), (hts _ w_ao_int), va_Nw.of rfl (hts _ (mT1 (List.mem_of_getElem? (i := 34) rfl))), va_Nw.of rfl (hts _ (mT1 (List.mem_of_getElem? (i := 75) rfl))), va_Nw.of rfl (hts _ (mT1 (List.mem_of_getElem? (i := 102) rfl))), va_Nw.of rfl (hts _ (mT1 (List.mem_of_getElem? (i := 226) rfl))), va_Nw.of rfl (hts _ (mT2 (List.mem_of_getElem? (i := 31) rfl))), va_Nw.of rfl (hts _ (mT2 (List.mem_of_getElem? (i := 54) rfl)))⟩
theorem gv_LEAST_a : Cond.arrayOf (Term.static "BackHouse$World" "LEAST" "[I") .int ∈ flatC (Cond.and given_1 narrow_1) := by decide +kernel
theorem gv_LEAST_l : Cond.eq (.length (Term.static "BackHouse$World" "LEAST" "[I")) (.int 8) ∈ flatC (Cond.and given_1 narrow_1) := by decide +kernel
theorem gv_LEAST_e : ∀ j, j < 8 → Cond.eq (.elem (Term.static "BackHouse$World" "LEAST" "[I") (.int (Int32.ofNat j))) (.int (kLeast j)) ∈ flatC (Cond.and given_1 narrow_1) := by decide +kernel
theorem st_LEAST {s : State} {args : Array Value} (hts : ∀ w ∈ lw_tbl, w.before args s = true) (hgv : (Cond.and given_1 narrow_1).before args s = true) {A : Nat → Prop} (hA : ∀ a : Nat, a < s.heap.size → ¬ A a) : ∃ t : Nat, va_Z "BackHouse$World" "LEAST" "[I" (.ref t) A s s.heap ∧ va_T .int t 8 (fun j => .int (kLeast j)) A s s.heap := by
  have hs := flat_of_before _ hgv
  obtain ⟨t, ht, hT⟩ := va_Tof (N := 8) (f := fun j => .int (kLeast j)) (A := A) (by decide) (hs _ gv_LEAST_a) (va_eqt (hs _ gv_LEAST_l)) (fun j hj => va_eqt (hs _ (gv_LEAST_e j hj))) hA
  exact ⟨t, va_Zref (hts _ (mT2 (List.mem_of_getElem? (i := 114) rfl))) (hts _ (mT1 (List.mem_of_getElem? (i := 2) rfl))) ht hA, hT⟩
theorem gv_MOST_a : Cond.arrayOf (Term.static "BackHouse$World" "MOST" "[I") .int ∈ flatC (Cond.and given_1 narrow_1) := by decide +kernel
theorem gv_MOST_l : Cond.eq (.length (Term.static "BackHouse$World" "MOST" "[I")) (.int 8) ∈ flatC (Cond.and given_1 narrow_1) := by decide +kernel
theorem gv_MOST_e : ∀ j, j < 8 → Cond.eq (.elem (Term.static "BackHouse$World" "MOST" "[I") (.int (Int32.ofNat j))) (.int (kMost j)) ∈ flatC (Cond.and given_1 narrow_1) := by decide +kernel
theorem st_MOST {s : State} {args : Array Value} (hts : ∀ w ∈ lw_tbl, w.before args s = true) (hgv : (Cond.and given_1 narrow_1).before args s = true) {A : Nat → Prop} (hA : ∀ a : Nat, a < s.heap.size → ¬ A a) : ∃ t : Nat, va_Z "BackHouse$World" "MOST" "[I" (.ref t) A s s.heap ∧ va_T .int t 8 (fun j => .int (kMost j)) A s s.heap := by
  have hs := flat_of_before _ hgv
  obtain ⟨t, ht, hT⟩ := va_Tof (N := 8) (f := fun j => .int (kMost j)) (A := A) (by decide) (hs _ gv_MOST_a) (va_eqt (hs _ gv_MOST_l)) (fun j hj => va_eqt (hs _ (gv_MOST_e j hj))) hA
  exact ⟨t, va_Zref (hts _ (mT2 (List.mem_of_getElem? (i := 116) rfl))) (hts _ (mT1 (List.mem_of_getElem? (i := 2) rfl))) ht hA, hT⟩
theorem gv_ABOVE_a : Cond.arrayOf (Term.static "BackHouse$Acts" "ABOVE" "[I") .int ∈ flatC (Cond.and given_1 narrow_1) := by decide +kernel
theorem gv_ABOVE_l : Cond.eq (.length (Term.static "BackHouse$Acts" "ABOVE" "[I")) (.int 8) ∈ flatC (Cond.and given_1 narrow_1) := by decide +kernel
theorem gv_ABOVE_e : ∀ j, j < 8 → Cond.eq (.elem (Term.static "BackHouse$Acts" "ABOVE" "[I") (.int (Int32.ofNat j))) (.int (kAbove j)) ∈ flatC (Cond.and given_1 narrow_1) := by decide +kernel
theorem st_ABOVE {s : State} {args : Array Value} (hts : ∀ w ∈ lw_tbl, w.before args s = true) (hgv : (Cond.and given_1 narrow_1).before args s = true) {A : Nat → Prop} (hA : ∀ a : Nat, a < s.heap.size → ¬ A a) : ∃ t : Nat, va_Z "BackHouse$Acts" "ABOVE" "[I" (.ref t) A s s.heap ∧ va_T .int t 8 (fun j => .int (kAbove j)) A s s.heap := by
  have hs := flat_of_before _ hgv
  obtain ⟨t, ht, hT⟩ := va_Tof (N := 8) (f := fun j => .int (kAbove j)) (A := A) (by decide) (hs _ gv_ABOVE_a) (va_eqt (hs _ gv_ABOVE_l)) (fun j hj => va_eqt (hs _ (gv_ABOVE_e j hj))) hA
  exact ⟨t, va_Zref (hts _ (mT4 (List.mem_of_getElem? (i := 91) rfl))) (hts _ (mT1 (List.mem_of_getElem? (i := 10) rfl))) ht hA, hT⟩
theorem gv_OWN_a : Cond.arrayOf (Term.static "BackHouse$Acts" "OWN" "[I") .int ∈ flatC (Cond.and given_1 narrow_1) := by decide +kernel
theorem gv_OWN_l : Cond.eq (.length (Term.static "BackHouse$Acts" "OWN" "[I")) (.int 32) ∈ flatC (Cond.and given_1 narrow_1) := by decide +kernel
theorem gv_OWN_e : ∀ j, j < 32 → Cond.eq (.elem (Term.static "BackHouse$Acts" "OWN" "[I") (.int (Int32.ofNat j))) (.int (kOwn j)) ∈ flatC (Cond.and given_1 narrow_1) := by decide +kernel
theorem st_OWN {s : State} {args : Array Value} (hts : ∀ w ∈ lw_tbl, w.before args s = true) (hgv : (Cond.and given_1 narrow_1).before args s = true) {A : Nat → Prop} (hA : ∀ a : Nat, a < s.heap.size → ¬ A a) : ∃ t : Nat, va_Z "BackHouse$Acts" "OWN" "[I" (.ref t) A s s.heap ∧ va_T .int t 32 (fun j => .int (kOwn j)) A s s.heap := by
  have hs := flat_of_before _ hgv
  obtain ⟨t, ht, hT⟩ := va_Tof (N := 32) (f := fun j => .int (kOwn j)) (A := A) (by decide) (hs _ gv_OWN_a) (va_eqt (hs _ gv_OWN_l)) (fun j hj => va_eqt (hs _ (gv_OWN_e j hj))) hA
  exact ⟨t, va_Zref (hts _ (mT4 (List.mem_of_getElem? (i := 86) rfl))) (hts _ (mT1 (List.mem_of_getElem? (i := 10) rfl))) ht hA, hT⟩
theorem st_gs {s : State} {args : Array Value} (hts : ∀ w ∈ lw_tbl, w.before args s = true) (hgv : (Cond.and given_1 narrow_1).before args s = true) {A : Nat → Prop} (hA : ∀ a : Nat, a < s.heap.size → ¬ A a) : ∃ tt : Nat → Nat, Gs tt A s s.heap := by
  obtain ⟨t0, h0⟩ := st_LEAST hts hgv hA
  obtain ⟨t1, h1⟩ := st_MOST hts hgv hA
  obtain ⟨t2, h2⟩ := st_ABOVE hts hgv hA
  obtain ⟨t3, h3⟩ := st_OWN hts hgv hA
  exact ⟨fun k => [t0, t1, t2, t3].getD k 0, h0, h1, h2, h3⟩
