/-! the law: its loop and its start (its first rows are the kit's starting text) -/
def R_law : String := "BackHouseLaw"
def lw_P (b : Addr) (xs : List Int32) (args : Array Value) (s : State) : Prop := args = #[.ref b] ∧ s.IntsAt b xs ∧ xs.length ≤ 3072 ∧ (Jvm.Cond.and given_1 narrow_1).before args s = true
def lw_Q (_ : Array Value) (s : State) (o : Outcome) (t : State) : Prop := o = .returned (some (.int 1)) ∧ Framed s o t [] 600000 7302250
def lw_Z (below : List Frame) (a : Array Value) (s : State) : State → Prop := fun t => ∃ o, t.status = .running ∧ Ended t below o ∧ lw_Q a s o t
/-- the law's own end, with 1 on the stack, nothing written that was there before, its room as the claim has it -/
theorem lw_ret {p : Program} {l : Launch} {e : Env} {s : State} {m : MethodId} {below : List Frame} {meth : Method} {c : Code} {b : Nat} (hx : p.tables.exec = Jvm.exec) (hb : c.code = code) (hr : meth.sig.returnType = ret) (hlocks : meth.locks = false) {pc : Nat} {H : Heap} {ls : Array Slot} (hdg : decode code pc = .ok (.ireturn, 1)) : W p l e room_1 s m #[Value.ref b] below meth c H [] 600000 7302250 (lw_Z below #[Value.ref b] s) (F0 m pc ls [.int 1]) := by
  intro T hT X
  obtain ⟨fs, hret, hrun, hended, hW, hframe⟩ := X.leave (v := some (.int 1)) (hlocks := hlocks) (fun h => by rw [hr] at h; cases h)
  have hmeth' : T.vm.method? m = some meth := X.method'
  refine ⟨T.setFrames fs, ?_, .returned (some (.int 1)), hrun, hended, rfl, ⟨_, rfl⟩, hW, hframe⟩
  jvm_step X.here [X.here.top, hx, hb, hdg, hmeth', hr, ret, narrow_b1]
  (try refine ⟨rfl, ?_⟩); (try refine ⟨rfl, ?_⟩)
  first | (intro acts; rw [hret _ acts rfl rfl rfl]) | rw [hret _ _ rfl rfl rfl]
  exact Steps.refl _
/-- what holds at the law's entry: the machine, the code, the tables' words (any of lw_tbl by 'hts w (by decide +kernel)'), the script of L ints xs at the cell b, what the Statement gives of the start (any of its parts by flat_of_before) -/
def lw_At (p : Program) (s : State) (m : MethodId) (meth : Method) (c : Code) (b L : Nat) (xs : Nat → Int32) : Prop :=
  p.tables.exec = Jvm.exec ∧ c.code = code ∧ meth.sig.returnType = ret ∧ c.maxLocals = 4 ∧ s.vm.findClass R_law = some m.cls ∧ (∀ w ∈ lw_tbl, w.before #[Value.ref b] s = true) ∧ va_X b L xs s s.heap ∧ b < s.heap.size ∧ meth.locks = false ∧ (Jvm.Cond.and given_1 narrow_1).before #[Value.ref b] s = true
theorem nI6 (t : Nat) : nI (6 * t) + Int32.ofInt 6 = nI (6 * (t + 1)) := by
  rw [show Int32.ofInt 6 = nI 6 from by decide +kernel, nI_add, Nat.mul_succ]
theorem dis_l {n1 n2 : Nat} : ∀ i ∈ List.range n1, i ∉ (List.range n2).map (fun j => n1 + j) := by
  intro i hi hc
  rw [List.mem_map] at hc
  obtain ⟨j, -, rfl⟩ := hc
  rw [List.mem_range] at hi
  omega
theorem E_lend {p : Program} {l : Launch} {e : Env} {s : State} {m : MethodId} {below : List Frame} {meth : Method} {c : Code} {D : va_G} {tc tt : Nat → Nat} {b L : Nat} {xs : Nat → Int32} {ws : va_W} {lv : List (Nat × Value)} {pc : Nat} (K : LC p room_1 s m #[Value.ref b] c D tc tt (fun q : Nat => s.heap.size ≤ q) b L xs) (hr : meth.sig.returnType = ret) (hlocks : meth.locks = false) (hd : decode cL_law pc = .ok (.ireturn, 1)) : Ev p l e room_1 s m #[Value.ref b] below meth c 96 4782 (lw_Z below #[Value.ref b] s) D (fun q : Nat => s.heap.size ≤ q) 4 (ws) pc lv [.int 1] :=
  fun H locs ls hP hD hS hl => va_forget (fun q hq => hS.2.2 q hq) (W.widen (k := 600000) (n := 7302250) (Nat.le_of_ble_eq_true rfl) (Nat.le_of_ble_eq_true rfl) (lw_ret K.1.1 K.1.2.1 hr hlocks hd))
set_option maxHeartbeats 4000000 in
set_option maxRecDepth 100000 in
theorem law_loop {p : Program} {l : Launch} {e : Env} {s : State} {m : MethodId} {below : List Frame} {meth : Method} {c : Code} {D : va_G} {tc tt ad1 ad2 : Nat → Nat} {b L : Nat} {xs : Nat → Int32} (K : LC p room_1 s m #[Value.ref b] c D tc tt (fun q : Nat => s.heap.size ≤ q) b L xs) (hr : meth.sig.returnType = ret) (hlocks : meth.locks = false) : ∀ (n t k : Nat) (S : STT) (w1 w2 : va_W), k ≤ t → 6 * t ≤ L → 513 ≤ t + n → XR ad1 tc S k w1 → MR ad2 tc S w2 → Ev p l e room_1 s m #[Value.ref b] below meth c 96 4782 (lw_Z below #[Value.ref b] s) D (fun q : Nat => s.heap.size ≤ q) 4 (w1 ++ w2) 18 (lvL b (ad1 0) (ad2 0) (nI (6 * t))) [] := by
  have hL := K.2.2.2.2.1
  intro n
  induction n with
  | zero =>
    intro t k S w1 w2 h1 h2 h3
    exact absurd h3 (by omega)
  | succ n ih =>
    intro t k S w1 w2 hkt htL htn hX hM
    refine E_iload_n K.1 dL_law_18 0 rfl ?_
    refine E_aload_n K.1 dL_law_19 3 rfl ?_
    refine E_slen K dL_law_20 ?_
    refine E_bipush (v := 6) K.1 dL_law_21 bp_6 ?_
    refine E_isub K.1 dL_law_23 ?_
    refine E_icmp_gt K.1 1318 dL_law_24 (by decide) (fun _ => ?_) (fun c24 => ?_)
    · refine E_iconst (v := 1) K.1 dL_law_1318 ic_1 ?_
      exact E_lend K hr hlocks dL_law_1319
    · have hj : 6 * t + 5 < L := by
        rw [Int32.lt_iff_toInt_lt, Int32.toInt_sub, nI_toInt (n := L) (by omega), nI_toInt (n := 6 * t) (by omega), show (6 : Int32).toInt = 6 from rfl, Int.bmod_eq_of_le (by omega) (by omega)] at c24
        omega
      have hk : k ≤ 600 := by omega
      have on1 : ∀ (k1 : Nat) (S1 : STT) (v1 v2 : va_W), k1 ≤ t + 1 → XR ad1 tc S1 k1 v1 → MR ad2 tc S1 v2 → Ev p l e room_1 s m #[Value.ref b] below meth c 96 4782 (lw_Z below #[Value.ref b] s) D (fun q : Nat => s.heap.size ≤ q) 4 (v1 ++ v2) 1312 (lvL b (ad1 0) (ad2 0) (nI (6 * t))) [] := fun k1 S1 v1 v2 h0 h1 h2 => by
        refine E_iinc (v := nI (6 * (t + 1))) K.1 dL_law_1312 0 rfl (nI6 t) (by decide) ?_
        refine E_goto K.1 18 dL_law_1315 (by decide) ?_
        exact ih (t + 1) k1 S1 v1 v2 h0 (by omega) (by omega) h1 h2
      have go : ∀ (S1 : STT) (v1 v2 : va_W), XR ad1 tc S1 (k + 1) v1 → MR ad2 tc S1 v2 → Ev p l e room_1 s m #[Value.ref b] below meth c 96 4782 (lw_Z below #[Value.ref b] s) D (fun q : Nat => s.heap.size ≤ q) 4 (v1 ++ v2) 1312 (lvL b (ad1 0) (ad2 0) (nI (6 * t))) [] := fun S1 v1 v2 h1 h2 => on1 (k + 1) S1 v1 v2 (by omega) h1 h2
      refine E_aload_n K.1 dL_law_27 3 rfl ?_
      refine E_iload_n K.1 dL_law_28 0 rfl ?_
      refine E_sld K (vinN (by omega) (by omega)) dL_law_29 ?_
      refine E_bipush (v := 63) K.1 dL_law_30 bp_63 ?_
      refine E_iand K.1 dL_law_32 ?_
      refine Ev.topi (fun x _ => ?_)
      by_cases e0 : x = 0
      · subst e0
        exact E_tableIn K.1 196 dL_law_33 (by decide) (by decide) rfl (by decide) (k_thing K hX hM hk hj go)
      by_cases e1 : x = 1
      · subst e1
        exact E_tableIn K.1 229 dL_law_33 (by decide) (by decide) rfl (by decide) (k_things K hX hM hk hj go)
      by_cases e2 : x = 2
      · subst e2
        exact E_tableIn K.1 272 dL_law_33 (by decide) (by decide) rfl (by decide) (k_mend K hX hM hk hj go)
      by_cases e3 : x = 3
      · subst e3
        exact E_tableIn K.1 315 dL_law_33 (by decide) (by decide) rfl (by decide) (k_of K hX hM hk hj go)
      by_cases e4 : x = 4
      · subst e4
        exact E_tableIn K.1 348 dL_law_33 (by decide) (by decide) rfl (by decide) (k_feed K hX hM hk hj go)
      by_cases e5 : x = 5
      · subst e5
        exact E_tableIn K.1 371 dL_law_33 (by decide) (by decide) rfl (by decide) (k_law K hX hM hk hj go)
      by_cases e6 : x = 6
      · subst e6
        exact E_tableIn K.1 384 dL_law_33 (by decide) (by decide) rfl (by decide) (k_drive K hX hM hk hj go)
      by_cases e7 : x = 7
      · subst e7
        exact E_tableIn K.1 417 dL_law_33 (by decide) (by decide) rfl (by decide) (k_going K hX hM hk hj go)
      by_cases e8 : x = 8
      · subst e8
        exact E_tableIn K.1 460 dL_law_33 (by decide) (by decide) rfl (by decide) (k_mean K hX hM hk hj go)
      by_cases e9 : x = 9
      · subst e9
        exact E_tableIn K.1 484 dL_law_33 (by decide) (by decide) rfl (by decide) (k_likely K hX hM hk hj go)
      by_cases e10 : x = 10
      · subst e10
        exact E_tableIn K.1 518 dL_law_33 (by decide) (by decide) rfl (by decide) (k_aloud K hX hM hk hj go)
      by_cases e11 : x = 11
      · subst e11
        exact E_tableIn K.1 551 dL_law_33 (by decide) (by decide) rfl (by decide) (k_who K hX hM hk hj go)
      by_cases e12 : x = 12
      · subst e12
        exact E_tableIn K.1 574 dL_law_33 (by decide) (by decide) rfl (by decide) (k_doorstep K hX hM hk hj go)
      by_cases e13 : x = 13
      · subst e13
        exact E_tableIn K.1 598 dL_law_33 (by decide) (by decide) rfl (by decide) (k_list K hX hM hk hj go)
      by_cases e14 : x = 14
      · subst e14
        exact E_tableIn K.1 632 dL_law_33 (by decide) (by decide) rfl (by decide) (k_onWith K hX hM hk hj go)
      by_cases e15 : x = 15
      · subst e15
        exact E_tableIn K.1 655 dL_law_33 (by decide) (by decide) rfl (by decide) (k_judge K hX hM hk hj go)
      by_cases e16 : x = 16
      · subst e16
        exact E_tableIn K.1 688 dL_law_33 (by decide) (by decide) rfl (by decide) (k_which K hX hM hk hj go)
      by_cases e17 : x = 17
      · subst e17
        exact E_tableIn K.1 721 dL_law_33 (by decide) (by decide) rfl (by decide) (k_first K hX hM hk hj go)
      by_cases e18 : x = 18
      · subst e18
        exact E_tableIn K.1 744 dL_law_33 (by decide) (by decide) rfl (by decide) (k_chain K hX hM hk hj go)
      by_cases e19 : x = 19
      · subst e19
        exact E_tableIn K.1 767 dL_law_33 (by decide) (by decide) rfl (by decide) (k_drawn K hX hM hk hj go)
      by_cases e20 : x = 20
      · subst e20
        exact E_tableIn K.1 810 dL_law_33 (by decide) (by decide) rfl (by decide) (k_lock K hX hM hk hj go)
      by_cases e21 : x = 21
      · subst e21
        exact E_tableIn K.1 833 dL_law_33 (by decide) (by decide) rfl (by decide) (k_on K hX hM hk hj go)
      by_cases e22 : x = 22
      · subst e22
        exact E_tableIn K.1 846 dL_law_33 (by decide) (by decide) rfl (by decide) (k_led K hX hM hk hj go)
      by_cases e23 : x = 23
      · subst e23
        exact E_tableIn K.1 869 dL_law_33 (by decide) (by decide) rfl (by decide) (k_image K hX hM hk hj go)
      by_cases e24 : x = 24
      · subst e24
        exact E_tableIn K.1 882 dL_law_33 (by decide) (by decide) rfl (by decide) (k_back K hX hM hk hj go)
      by_cases e25 : x = 25
      · subst e25
        exact E_tableIn K.1 895 dL_law_33 (by decide) (by decide) rfl (by decide) (k_undo K hX hM hk hj go)
      by_cases e26 : x = 26
      · subst e26
        exact E_tableIn K.1 908 dL_law_33 (by decide) (by decide) rfl (by decide) (k_redo K hX hM hk hj go)
      by_cases e27 : x = 27
      · subst e27
        exact E_tableIn K.1 921 dL_law_33 (by decide) (by decide) rfl (by decide) (k_body K hX hM hk hj go)
      by_cases e28 : x = 28
      · subst e28
        exact E_tableIn K.1 944 dL_law_33 (by decide) (by decide) rfl (by decide) (k_act K hX hM hk hj go)
      by_cases e29 : x = 29
      · subst e29
        exact E_tableIn K.1 987 dL_law_33 (by decide) (by decide) rfl (by decide) (k_trace K hX hM hk hj go)
      by_cases e30 : x = 30
      · subst e30
        exact E_tableIn K.1 1010 dL_law_33 (by decide) (by decide) rfl (by decide) (k_keep K hX hM hk hj go)
      by_cases e31 : x = 31
      · subst e31
        exact E_tableIn K.1 1043 dL_law_33 (by decide) (by decide) rfl (by decide) (k_row K hX hM hk hj go)
      by_cases e32 : x = 32
      · subst e32
        exact E_tableIn K.1 1086 dL_law_33 (by decide) (by decide) rfl (by decide) (k_put K hX hM hk hj go)
      by_cases e33 : x = 33
      · subst e33
        exact E_tableIn K.1 1159 dL_law_33 (by decide) (by decide) rfl (by decide) (k_element K hX hM hk hj go)
      by_cases e34 : x = 34
      · subst e34
        exact E_tableIn K.1 1193 dL_law_33 (by decide) (by decide) rfl (by decide) (k_shift K hX hM hk hj go)
      by_cases e35 : x = 35
      · subst e35
        exact E_tableIn K.1 1256 dL_law_33 (by decide) (by decide) rfl (by decide) (k_taken K hX hM hk hj go)
      by_cases e36 : x = 36
      · subst e36
        exact E_tableIn K.1 1289 dL_law_33 (by decide) (by decide) rfl (by decide) (k_count K hX hM hk hj go)
      have o0 := ntoi (n := 0) rfl e0
      have o1 := ntoi (n := 1) rfl e1
      have o2 := ntoi (n := 2) rfl e2
      have o3 := ntoi (n := 3) rfl e3
      have o4 := ntoi (n := 4) rfl e4
      have o5 := ntoi (n := 5) rfl e5
      have o6 := ntoi (n := 6) rfl e6
      have o7 := ntoi (n := 7) rfl e7
      have o8 := ntoi (n := 8) rfl e8
      have o9 := ntoi (n := 9) rfl e9
      have o10 := ntoi (n := 10) rfl e10
      have o11 := ntoi (n := 11) rfl e11
      have o12 := ntoi (n := 12) rfl e12
      have o13 := ntoi (n := 13) rfl e13
      have o14 := ntoi (n := 14) rfl e14
      have o15 := ntoi (n := 15) rfl e15
      have o16 := ntoi (n := 16) rfl e16
      have o17 := ntoi (n := 17) rfl e17
      have o18 := ntoi (n := 18) rfl e18
      have o19 := ntoi (n := 19) rfl e19
      have o20 := ntoi (n := 20) rfl e20
      have o21 := ntoi (n := 21) rfl e21
      have o22 := ntoi (n := 22) rfl e22
      have o23 := ntoi (n := 23) rfl e23
      have o24 := ntoi (n := 24) rfl e24
      have o25 := ntoi (n := 25) rfl e25
      have o26 := ntoi (n := 26) rfl e26
      have o27 := ntoi (n := 27) rfl e27
      have o28 := ntoi (n := 28) rfl e28
      have o29 := ntoi (n := 29) rfl e29
      have o30 := ntoi (n := 30) rfl e30
      have o31 := ntoi (n := 31) rfl e31
      have o32 := ntoi (n := 32) rfl e32
      have o33 := ntoi (n := 33) rfl e33
      have o34 := ntoi (n := 34) rfl e34
      have o35 := ntoi (n := 35) rfl e35
      have o36 := ntoi (n := 36) rfl e36
      exact E_tableOut K.1 1312 dL_law_33 (by omega) (by decide) (on1 k S w1 w2 (by omega) hX hM)
set_option maxHeartbeats 4000000 in
set_option maxRecDepth 100000 in
theorem whole_start {p : Program} {e : Env} {s : State} {m : MethodId} {below : List Frame} {meth : Method} {c : Code} (l : Launch) (hflags : l.flags = flags0) {b L : Nat} {xs : Nat → Int32} (hL : L ≤ 3072) (C0 : lw_At p s m meth c b L xs) : W p l e room_1 s m #[Value.ref b] below meth c s.heap [] 0 0 (lw_Z below #[Value.ref b] s) (entryFrame m ([Value.ref b] : List Value).toArray 4) := by
  obtain ⟨hx, hb, hr, hml, hown, hts, hX, hbl, hlocks, hgv⟩ := C0
  obtain ⟨D, hDc⟩ := st_cls hts
  obtain ⟨tc, hTc⟩ := st_arr hts
  obtain ⟨tt, hG⟩ := st_gs (A := fun q : Nat => s.heap.size ≤ q) hts hgv (fun a h => Nat.not_le.mpr h)
  have hAO : AO2 s := st_ao hts
  have C : Cx p room_1 s m #[Value.ref b] c RL cL_law 4 D tc tt (fun q : Nat => s.heap.size ≤ q) 48 := ⟨hx, hb, hml, hown, fun w h => hts w (WU_tbl w h), ⟨hDc, hTc⟩, fun _ h => h, hG, Nat.le_of_ble_eq_true rfl, Nat.le_of_ble_eq_true rfl⟩
  have K : LC p room_1 s m #[Value.ref b] c D tc tt (fun q : Nat => s.heap.size ≤ q) b L xs := ⟨C, hX, hbl, Nat.not_le.mpr hbl, hL, Nat.le_of_ble_eq_true rfl, Nat.le_of_ble_eq_true rfl⟩
  have hP0 : va_P D vwCl [] s.heap := fun k q h => (by cases h)
  have hD0 : va_D (fun q : Nat => s.heap.size ≤ q) [] := ⟨fun i j p q h => (by cases h), fun k q h => (by cases h)⟩
  have hl := lv_entry ([.ref b]) (n := 4) (Nat.le_of_ble_eq_true rfl)
  rw [lg_entry_eq]
  suffices go : Ev p l e room_1 s m #[Value.ref b] below meth c 0 0 (lw_Z below #[Value.ref b] s) D (fun q : Nat => s.heap.size ≤ q) 4 (([] : va_W)) 0 [(0, .ref b)] [] from go s.heap [] _ hP0 hD0 va_S.rf hl
  refine E_new C dL_law_0 nw__7 (Nat.le_of_ble_eq_true rfl) (Nat.le_of_ble_eq_true rfl) (fun q1 => ?_)
  refine E_dup C dL_law_3 rfl ?_
  refine E_init (wr := ([] : va_W)) C hAO dL_law_4 ml_L_9 rfl im_X10 [] (p_init q1) [0] [] rfl rfl rfl rfl (fun i hi => (by cases hi)) rfl rfl (by decide) (Nat.le_of_ble_eq_true rfl) ⟨Nat.le_of_ble_eq_true rfl, Nat.le_of_ble_eq_true rfl⟩ (fun r w1 h1 => ?_)
  obtain ⟨rfl, ad1, had1, hX1⟩ := h1
  refine Ev.to (st' := [.ref q1]) rfl (List.nil_append w1) rfl ?_
  refine E_astore_n C dL_law_7 (by decide) ?_
  refine E_new C dL_law_8 nw__10 (Nat.le_of_ble_eq_true rfl) (Nat.le_of_ble_eq_true rfl) (fun q2 => ?_)
  refine E_dup C dL_law_11 rfl ?_
  refine E_init C hAO dL_law_12 ml_L_12 rfl im_X11 [] (q_init q2) ((List.range 1).map (fun j => 64 + j)) (List.range 64) (rng_r w1 _ hX1.len rfl) rfl (rng_l w1 _ hX1.len) nd_64 dis_l rfl rfl (by decide) (Nat.le_of_ble_eq_true rfl) ⟨Nat.le_of_ble_eq_true rfl, Nat.le_of_ble_eq_true rfl⟩ (fun r w2 h2 => ?_)
  obtain ⟨rfl, ad2, had2, hM1⟩ := h2
  refine Ev.to (st' := [.ref q2]) rfl rfl rfl ?_
  refine E_astore_n C dL_law_15 (by decide) ?_
  refine E_iconst (v := nI (6 * 0)) C dL_law_16 (by decide +kernel) ?_
  refine E_istore_n C dL_law_17 (by decide) ?_
  subst had1
  subst had2
  exact law_loop K hr hlocks 513 0 0 S0 w1 w2 (Nat.le_refl _) (Nat.zero_le _) (Nat.le_refl _) hX1 hM1
