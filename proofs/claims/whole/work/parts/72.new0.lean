/-! methods that make cells; calls with a part of the world -/
theorem w_ac_int : Cond.arrayClass .int ∈ WU := WU_of (mT1 (List.mem_of_getElem? (i := 54) rfl)) rfl
theorem w_ac_long : Cond.arrayClass .long ∈ WU := WU_of (mT1 (List.mem_of_getElem? (i := 223) rfl)) rfl
theorem w_ac_byte : Cond.arrayClass .byte ∈ WU := WU_of (mT5 (List.mem_of_getElem? (i := 77) rfl)) rfl
theorem w_ac_short : Cond.arrayClass .short ∈ WU := WU_of (mT5 (List.mem_of_getElem? (i := 78) rfl)) rfl
theorem w_ao_int : Cond.arrayOver (.array .int) ∈ lw_tbl := mT1 (List.mem_of_getElem? (i := 31) rfl)
theorem w_ao_shelf : Cond.arrayOver (.object "BackHouse$Shelf") ∈ lw_tbl := mT2 (List.mem_of_getElem? (i := 52) rfl)
/-- the classes of the arrays of arrays and of shelves are there -/
def AO2 (U : State) : Prop := va_AO "BackHouse$Shelf" U ∧ (Cond.arrayOver (.array .int)).before #[] U = true ∧ va_Nw (.methodLinkNest RX9 18 yX5_init "BackHouse") U ∧ va_Nw (.methodLinkNest RX10 18 yX1_init "BackHouse") U ∧ va_Nw (.methodLinkNest RX10 25 yX6_init "BackHouse") U ∧ va_Nw (.methodLinkNest RX10 48 yX2_init "BackHouse") U ∧ va_Nw (.methodLinkNest RX10 62 yX0_init "BackHouse") U ∧ va_Nw (.methodLinkNest RX10 73 yX7_init "BackHouse") U
theorem AO2.warm {s U : State} (hW : s.WarmedH U.vm) (h : AO2 s) : AO2 U := ⟨h.1.moved hW.alike, Cond.overAtom_setVm hW.alike (.arrayOver (.array .int)) rfl h.2.1, h.2.2.1.warmM hW, h.2.2.2.1.warmM hW, h.2.2.2.2.1.warmM hW, h.2.2.2.2.2.1.warmM hW, h.2.2.2.2.2.2.1.warmM hW, h.2.2.2.2.2.2.2.warmM hW⟩
theorem AO2.same {u U : State} (hv : u.vm = U.vm) (h : AO2 u) : AO2 U := have hA : u.vm.Alike U.vm := hv ▸ Vm.Alike.refl u.vm; ⟨h.1.moved hA, Cond.overAtom_setVm (s := u) hA (.arrayOver (.array .int)) rfl h.2.1, h.2.2.1.same rfl hv, h.2.2.2.1.same rfl hv, h.2.2.2.2.1.same rfl hv, h.2.2.2.2.2.1.same rfl hv, h.2.2.2.2.2.2.1.same rfl hv, h.2.2.2.2.2.2.2.same rfl hv⟩
def rmN (d nc ns : Nat) : Room := { frames := d, cells := nc, slots := ns, locals := 64 * d }
/-- a contract of a method that makes nc cells with ns slots -/
def Cn (l : Launch) (y : MethodName) (b : ByteArray) (n : Nat) (ret : Option FieldType) (d nc ns : Nat) (D : va_G) (tc tt : Nat → Nat) (av : List Value) (ws : va_W) (post : Option Value → va_W → Prop) : Prop :=
  ∀ sz : Nat, Met l y (Cond.code y b n ret :: WU) (rmN d nc ns) (va_Pc av (fun U => U.heap.size = sz ∧ va_P D vwCl ws U.heap ∧ va_K D vwCl (TY tc) U ∧ va_D (fun _ => True) ws ∧ Gs tt (va_A ws sz) U U.heap ∧ AO2 U))
    (fun _ st o t => (∃ (r : Option Value) (ws' : va_W), o = .returned r ∧ post r ws' ∧ va_P D vwCl ws' t.heap ∧ va_D (va_A ws sz) ws') ∧ va_F (va_A ws sz) st t) nc ns (va_A ws sz)
def EN (below : List Frame) (post : Option Value → va_W → Prop) (args : Array Value) (s : State) (D : va_G) (A : Nat → Prop) (nc ns : Nat) : State → Prop :=
  MQ below (fun _ st o t => (∃ (r : Option Value) (ws' : va_W), o = .returned r ∧ post r ws' ∧ va_P D vwCl ws' t.heap ∧ va_D A ws') ∧ va_F A st t) args s nc ns A
theorem fm_of {α β : Type} {f : α → Option β} : ∀ {is : List α} {w : List β}, is.map f = w.map some → is.filterMap f = w
  | [], [], _ => rfl
  | [], _ :: _, h => by cases h
  | _ :: _, [], h => by cases h
  | i :: is, q :: w, h => by
    rw [List.map_cons, List.map_cons] at h
    injection h with h1 h2
    rw [List.filterMap_cons, h1, fm_of h2]
section NEW
variable {p : Program} {l : Launch} {e : Env} {R : Room} {s : State} {m : MethodId} {args : Array Value} {below : List Frame} {meth : Method} {c : Code} {cells slots : Nat} {Q : State → Prop} {D : va_G} {tc tt : Nat → Nat} {A : Nat → Prop} {own : String} {cc : ByteArray} {nL d pc : Nat} {ws : va_W} {lv : List (Nat × Value)} {rest : List Value} {a : Nat}
theorem Cn.of {y : MethodName} {b : ByteArray} {n nc ns : Nat} {ret : Option FieldType} {av : List Value} {post : Option Value → va_W → Prop} (hy : plainName y.cls = true) (hn : (lg_sl av).length ≤ n)
    (body : ∀ (p : Program) (e : Env) (R : Room) (s : State) (m : MethodId) (args : Array Value) (below : List Frame) (meth : Method) (c : Code) (A : Nat → Prop), Cx p R s m args c y.cls b n D tc tt A d → meth.sig.returnType = ret → meth.locks = false → meth.name = y.name → AO2 s → nc ≤ R.cells → ns ≤ R.slots → Ev p l e R s m args below meth c 0 0 (EN below post args s D A nc ns) D A n ws 0 (lv_args 0 av) []) : Cn l y b n ret d nc ns D tc tt av ws post := by
  intro sz
  refine Met.ofW (cc := b) (maxL := n) (ret := ret) hy rfl ?_
  intro p e s m args below meth c s₁ B hml hv
  obtain ⟨rfl, hsz, hP, hK, hD0, hG, hAO⟩ := hv
  have hts := atoms_spec (ws := Cond.code y b n ret :: WU) B.pre
  have hown : s.vm.findClass y.cls = some m.cls := findClass_of_methodNamed B.named
  subst hsz
  have hD := hD0.self (sz := s.heap.size)
  have C0 : Cx p (headSpec (Cond.code y b n ret :: WU) (rmN d nc ns)).room s m av.toArray c y.cls b n D tc tt (va_A ws s.heap.size) d :=
    ⟨B.exec, B.bytes, hml, hown, fun w h => hts w (List.mem_cons_of_mem _ h), hK, fun q h => Or.inr h, hG, Nat.le_refl _, Nat.le_refl _⟩
  have hl := lv_entry av (n := n) hn
  rw [lg_entry_eq]
  exact body p e _ s m av.toArray below meth c (va_A ws s.heap.size) C0 B.returns B.notSynchronized (name_of_methodNamed B.named B.method).1 hAO (Nat.le_refl _) (Nat.le_refl _) s.heap [] _ hP hD va_S.rf hl
/-- the world in another order, or less of it -/
theorem Ev.pick {ws' : va_W} (is : List Nat) (hs : is.map (fun i => ws[i]?) = ws'.map some) (hn : va_nd is = true) (k : Ev p l e R s m args below meth c cells slots Q D A nL ws' pc lv rest) : Ev p l e R s m args below meth c cells slots Q D A nL ws pc lv rest :=
  fun H locs ls hP hD hS hl => k H locs ls (hP.sub is (fm_of hs)) (hD.sub is hn hs) hS hl
theorem Ev.callF {st0 : List Value} {post : Option Value → va_W → Prop} {H : Heap} {locs : List Loc} {ls : Array Slot} {wc wr : va_W} {mc ms : Nat} (isC isR : List Nat) (hC : isC.map (fun i => ws[i]?) = wc.map some) (hR : isR.map (fun i => ws[i]?) = wr.map some) (hn : va_nd isR = true) (hdis : ∀ i ∈ isR, i ∉ isC) (hP : va_P D vwCl ws H) (hD : va_D A ws) (hS : va_S A s.heap H locs) (hl : lv_has ls nL lv) (hf : ∀ q, va_A wc H.size q → A q)
    (hr : va_Run p l e R s m args below meth c H locs cells slots mc ms (F0 m pc ls st0) rest (fun st o t => (∃ (r : Option Value) (ws' : va_W), o = .returned r ∧ post r ws' ∧ va_P D vwCl ws' t.heap ∧ va_D (va_A wc H.size) ws') ∧ va_F (va_A wc H.size) st t) (va_A wc H.size))
    (kk : ∀ (r : Option Value) (ws' : va_W), post r ws' → Ev p l e R s m args below meth c (cells + mc) (slots + ms) Q D A nL (wr ++ ws') (pc + 3) lv (r.toList ++ rest)) : W p l e R s m args below meth c H locs cells slots Q (F0 m pc ls st0) := by
  intro T hT X
  obtain ⟨v, st₀, t, T', L, h0, X', hL, e1, e2, ⟨⟨r, ws', hv, hp, hP', hD'⟩, hz, hk⟩, st⟩ := hr T hT X
  cases hv
  rw [h0] at hz hk
  obtain ⟨hPj, hDj⟩ := va_join hP hD isC isR hC hR hn hdis hk hf hP' hD'
  obtain ⟨t2, a1, b1⟩ := kk v ws' hp T'.heap (locs ++ L) ls (by rw [e1]; exact hPj) hDj
    ⟨Nat.le_trans hS.1 (by rw [e1]; exact hz), fun q h1 h2 => by rw [e1, hk q (Nat.lt_of_lt_of_le h1 hS.1) (fun z => h2 (hf q z))]; exact hS.2.1 q h1 h2, fun q hq => by
      rcases List.mem_append.mp hq with h | h
      · exact hS.2.2 q h
      · exact hf _ (hL q h)⟩ hl T' rfl X'
  exact ⟨t2, st t2 a1, b1⟩
theorem callBN {idx n np d' mc ms : Nat} {y : MethodName} {b : ByteArray} {ret : Option FieldType} (C : Cx p R s m args c own cc nL D tc tt A d) (L : ML own idx y b n ret np) (hdp : d' + 1 ≤ d) : CallB R s args own idx y b n ret (Cond.code y b n ret :: WU) (rmN d' mc ms) mc ms np :=
  callB_of np C.2.2.2.2.1 (goodIn_WU L.2.1 (WU_good _ L.2.1) (fun _ h => h)) rfl rfl rfl (C.2.2.2.2.1 _ L.2.2.1) (C.2.2.2.2.1 _ L.1) L.2.2.2.1 ⟨Nat.le_trans hdp C.2.2.2.2.2.2.2.2.1, Nat.le_trans (by show 8 + (n + 11) + 64 * d' ≤ 64 * d; have := L.2.2.2.2; omega) C.2.2.2.2.2.2.2.2.2⟩
theorem preF {av : List Value} {H : Heap} {locs : List Loc} {wc : va_W} (C : Cx p R s m args c own cc nL D tc tt A d) (hPc : va_P D vwCl wc H) (hDc : va_D A wc) (hS : va_S A s.heap H locs) : ∀ U : State, U.heap = H → s.WarmedH U.vm → (va_Pc av (fun U => U.heap.size = H.size ∧ va_P D vwCl wc U.heap ∧ va_K D vwCl (TY tc) U ∧ va_D (fun _ => True) wc ∧ Gs tt (va_A wc H.size) U U.heap)) av.toArray U := preC C hPc hDc hS
theorem blindN {av : List Value} {sz : Nat} : FrameBlind (va_Pc av (fun U => U.heap.size = sz ∧ va_P D vwCl ws U.heap ∧ va_K D vwCl (TY tc) U ∧ va_D (fun _ => True) ws ∧ Gs tt (va_A ws sz) U U.heap ∧ AO2 U)) := fun a U g mk q => by
  obtain ⟨q0, q1, qP, qK, qD, qG, qO⟩ := q
  exact ⟨q0, q1, qP, va_K.moved (u := U) (U := U.calling g mk a) (Vm.Alike.refl U.vm) qK, qD, Gs.moved (u := U) (U := U.calling g mk a) (Vm.Alike.refl U.vm) qG, AO2.same (u := U) (U := U.calling g mk a) rfl qO⟩
theorem preN {av : List Value} {H : Heap} {locs : List Loc} {wc : va_W} (C : Cx p R s m args c own cc nL D tc tt A d) (hAO : AO2 s) (hPc : va_P D vwCl wc H) (hDc : va_D A wc) (hS : va_S A s.heap H locs) : ∀ U : State, U.heap = H → s.WarmedH U.vm → (va_Pc av (fun U => U.heap.size = H.size ∧ va_P D vwCl wc U.heap ∧ va_K D vwCl (TY tc) U ∧ va_D (fun _ => True) wc ∧ Gs tt (va_A wc H.size) U U.heap ∧ AO2 U)) av.toArray U := fun U hU hW => by
  obtain ⟨z1, z2, z3, z4, z5, z6⟩ := preC (av := av) C hPc hDc hS U hU hW
  exact ⟨z1, z2, z3, z4, z5, z6, hAO.warm hW⟩
/-- a constructor's call -/
theorem E_init (C : Cx p R s m args c own cc nL D tc tt A d) (hAO : AO2 s) {idx n np mc ms : Nat} {y : MethodName} {b : ByteArray} {st : List Value} {post : Option Value → va_W → Prop} {wc wr : va_W} (hd : decode cc pc = .ok (.invokespecial idx, 3)) (L : ML own idx y b n none np) (hy : y.name = "<init>") (hi : Cond.instanceMethod y ∈ WU) {d' : Nat} (As : List Value) (hc : Cn l y b n none d' mc ms D tc tt (.ref a :: As) wc post) (isC isR : List Nat) (hC : isC.map (fun i => ws[i]?) = wc.map some) (hnC : va_nd isC = true) (hR : isR.map (fun i => ws[i]?) = wr.map some) (hn : va_nd isR = true) (hdis : ∀ i ∈ isR, i ∉ isC) (hst : st = As.reverse ++ .ref a :: rest) (hnp : As.length = np) (hdp : d' + 1 ≤ d) (hrs : (rest.map fun v => v.category).sum ≤ 8) (hcs : cells + mc ≤ R.cells ∧ slots + ms ≤ R.slots)
    (kk : ∀ (r : Option Value) (ws' : va_W), post r ws' → Ev p l e R s m args below meth c (cells + mc) (slots + ms) Q D A nL (wr ++ ws') (pc + 3) lv (r.toList ++ rest)) : Ev p l e R s m args below meth c cells slots Q D A nL ws pc lv st := by
  intro H locs ls hP hD hS hl
  have hPc := hP.sub isC (fm_of hC)
  have hDc := hD.sub isC hnC hC
  exact Ev.callF isC isR hC hR hn hdis hP hD hS hl (va_free hD hS C.2.2.2.2.2.2.1 isC hC)
    (va_runI (As := As) (rest := rest) ⟨C.1, C.2.1, C.2.2.1, C.2.2.2.1, C.2.2.2.2.1⟩ (hc H.size) ⟨callBN C L hdp, hy, C.2.2.2.2.1 _ hi⟩ ⟨blindN, preN C hAO hPc hDc hS⟩ rfl hnp hl.1 hst (lv_room hrs) hd hcs) kk
def MLn (y : MethodName) (b : ByteArray) (n np : Nat) : Prop := Cond.code y b n none ∈ WU ∧ Cond.initialized y.cls ∈ WU ∧ (y.cls ≠ "java/lang/invoke/MethodHandle" ∧ y.cls ≠ "java/lang/invoke/VarHandle" ∧ (parseMethodDescriptor y.desc).map (fun d => d.parameters.length) = some np) ∧ n ≤ 45
/-- the same within a nest -/
theorem E_initN (C : Cx p R s m args c own cc nL D tc tt A d) (hAO : AO2 s) {idx n np mc ms : Nat} {y : MethodName} {host : String} {b : ByteArray} {st : List Value} {post : Option Value → va_W → Prop} {wc wr : va_W} (hd : decode cc pc = .ok (.invokespecial idx, 3)) (hnl : va_Nw (.methodLinkNest own idx y host) s) (L : MLn y b n np) (hy : y.name = "<init>") (hi : Cond.instanceMethod y ∈ WU) {d' : Nat} (As : List Value) (hc : Cn l y b n none d' mc ms D tc tt (.ref a :: As) wc post) (isC isR : List Nat) (hC : isC.map (fun i => ws[i]?) = wc.map some) (hnC : va_nd isC = true) (hR : isR.map (fun i => ws[i]?) = wr.map some) (hn : va_nd isR = true) (hdis : ∀ i ∈ isR, i ∉ isC) (hst : st = As.reverse ++ .ref a :: rest) (hnp : As.length = np) (hdp : d' + 1 ≤ d) (hrs : (rest.map fun v => v.category).sum ≤ 8) (hcs : cells + mc ≤ R.cells ∧ slots + ms ≤ R.slots)
    (kk : ∀ (r : Option Value) (ws' : va_W), post r ws' → Ev p l e R s m args below meth c (cells + mc) (slots + ms) Q D A nL (wr ++ ws') (pc + 3) lv (r.toList ++ rest)) : Ev p l e R s m args below meth c cells slots Q D A nL ws pc lv st := by
  intro H locs ls hP hD hS hl
  have hPc := hP.sub isC (fm_of hC)
  have hDc := hD.sub isC hnC hC
  exact Ev.callF isC isR hC hR hn hdis hP hD hS hl (va_free hD hS C.2.2.2.2.2.2.1 isC hC)
    (va_runIN (As := As) (rest := rest) ⟨C.1, C.2.1, C.2.2.1, C.2.2.2.1, C.2.2.2.2.1⟩ (hc H.size) ⟨va_cnB np C.2.2.2.2.1 (goodIn_WU L.1 (WU_good _ L.1) (fun _ h => h)) rfl rfl rfl hnl (C.2.2.2.2.1 _ L.2.1) L.2.2.1 ⟨Nat.le_trans hdp C.2.2.2.2.2.2.2.2.1, Nat.le_trans (by show 8 + (n + 11) + 64 * d' ≤ 64 * d; have := L.2.2.2; omega) C.2.2.2.2.2.2.2.2.2⟩, hy, C.2.2.2.2.1 _ hi⟩ ⟨blindN, preN C hAO hPc hDc hS⟩ rfl hnp hl.1 hst (lv_room hrs) hd hcs) kk
/-- a virtual call with a part of the world -/
theorem E_callF (C : Cx p R s m args c own cc nL D tc tt A d) {idx ci n np : Nat} {y : MethodName} {b : ByteArray} {ret : Option FieldType} {fs st : List Value} {post : Option Value → va_W → Prop} {wc wr : va_W} (hd : decode cc pc = .ok (.invokevirtual idx, 3)) (L : MV own idx ci y b n ret np) (q0 : Nat) {d' : Nat} (As : List Value) (hc : Ct l y b n ret d' D tc tt (.ref a :: As) wc post) (he : ws[q0]? = some (a, .inr (ci, fs))) (isC isR : List Nat) (hC : isC.map (fun i => ws[i]?) = wc.map some) (hnC : va_nd isC = true) (hR : isR.map (fun i => ws[i]?) = wr.map some) (hn : va_nd isR = true) (hdis : ∀ i ∈ isR, i ∉ isC) (hst : st = As.reverse ++ .ref a :: rest) (hnp : As.length = np) (hdp : d' + 1 ≤ d) (hrs : (rest.map fun v => v.category).sum ≤ 8) (hcs : cells ≤ R.cells ∧ slots ≤ R.slots)
    (kk : ∀ (r : Option Value) (ws' : va_W), post r ws' → Ev p l e R s m args below meth c cells slots Q D A nL (wr ++ ws') (pc + 3) lv (r.toList ++ rest)) : Ev p l e R s m args below meth c cells slots Q D A nL ws pc lv st := by
  intro H locs ls hP hD hS hl
  have hPc := hP.sub isC (fm_of hC)
  have hDc := hD.sub isC hnC hC
  obtain ⟨L1, hi, hse, T, N, hcl⟩ := L
  exact Ev.callF isC isR hC hR hn hdis hP hD hS hl (va_free hD hS C.2.2.2.2.2.2.1 isC hC)
    (va_runV (As := As) (rest := rest) ⟨C.1, C.2.1, C.2.2.1, C.2.2.2.1, C.2.2.2.2.1⟩ (hc H.size) ⟨callBC C L1 hdp, C.2.2.2.2.1 _ hi, C.2.2.2.2.1 _ hse⟩ ⟨blindC, va_recv C.2.2.2.2.2.1 hP hcl he, preF C hPc hDc hS⟩ rfl hnp hl.1 hst (lv_room hrs) hd hcs) kk
theorem E_oinit (C : Cx p R s m args c own cc nL D tc tt A d) {idx : Nat} {x : Nat} (hd : decode cc pc = .ok (.invokespecial idx, 3)) (h1 : Cond.methodLink own idx Lib.objectInit ∈ WU) (h2 : Cond.instanceMethod Lib.objectInit ∈ WU) (h3 : Cond.code Lib.objectInit ⟨#[0xb1]⟩ 1 none ∈ WU) (hd1 : 1 ≤ d) (hrs : (rest.map fun v => v.category).sum ≤ 8) (k : Ev p l e R s m args below meth c cells slots Q D A nL ws (pc + 3) lv rest) : Ev p l e R s m args below meth c cells slots Q D A nL ws pc lv (.ref x :: rest) := by
  intro H locs ls hP hD hS hl
  refine W.objInit C.1 C.2.1 C.2.2.2.1 (C.2.2.2.2.1 _ h1) (C.2.2.2.2.1 _ h2) (C.2.2.2.2.1 _ h3) rfl (by rw [C.2.2.1]; exact hl.1) rfl hd (Nat.le_trans hd1 C.2.2.2.2.2.2.2.2.1) ?_ ?_
  · have h8 := C.2.2.2.2.2.2.2.2.2
    show 2 * 0 + (rest.map fun v => v.category).sum + 12 ≤ R.locals
    omega
  · exact k H locs ls hP hD hS hl
def NW_ (own : String) (idx ci N : Nat) (fs : List Value) : Prop := ∃ (C : String) (T : u_T) (ty0 : Nat → FieldType), KC ci C T N ty0 ∧ Cond.classLink own idx C ∈ WU ∧ Cond.instantiable C N ∈ WU ∧ Cond.initialized C ∈ WU ∧ ∀ j, j < N → defaultValue (ty0 j) = vp_V fs j
theorem E_new (C : Cx p R s m args c own cc nL D tc tt A d) {idx ci N : Nat} {fs : List Value} (hd : decode cc pc = .ok (.new idx, 3)) (F : NW_ own idx ci N fs) (h1 : cells + 1 ≤ R.cells) (h2 : slots + N ≤ R.slots) (k : ∀ q : Nat, Ev p l e R s m args below meth c (cells + 1) (slots + N) Q D A nL (ws ++ [(q, .inr (ci, fs))]) (pc + 3) lv (.ref q :: rest)) : Ev p l e R s m args below meth c cells slots Q D A nL ws pc lv rest := by
  intro H locs ls hP hD hS hl
  obtain ⟨Cn, T, ty0, ⟨k1, k2, k3, -⟩, k4, k5, k6, k7⟩ := F
  exact va_new C.1 C.2.1 C.2.2.2.2.1 k2 ty0 k3 C.2.2.2.1 (C.2.2.2.2.1 _ k4) (C.2.2.2.2.1 _ k5) (C.2.2.2.2.1 _ k6) C.2.2.2.2.2.1 hP hD hS C.2.2.2.2.2.2.1 k1 k7 h1 h2 hd (fun q H1 hP1 hD1 hS1 => k q H1 locs ls hP1 hD1 hS1 hl)
theorem E_new_int (C : Cx p R s m args c own cc nL D tc tt A d) {n : Int32} {N : Nat} (hd : decode cc pc = .ok (.newarray .int, 2)) (hn : ¬ n < 0) (hN : n.toNatClampNeg = N) (hN2 : N ≤ 1000) (h1 : cells + 1 ≤ R.cells) (h2 : slots + N ≤ R.slots) (k : ∀ q : Nat, Ev p l e R s m args below meth c (cells + 1) (slots + N) Q D A nL (ws ++ [(q, .inl (tc 0, N, (.inl fun _ => 0)))]) (pc + 2) lv (.ref q :: rest)) : Ev p l e R s m args below meth c cells slots Q D A nL ws pc lv (.int n :: rest) := by
  intro H locs ls hP hD hS hl
  refine va_newa (atype := .int) (ty := .int) C.1 C.2.1 (C.2.2.2.2.1 _ w_ac_int) rfl C.2.2.2.2.2.1 hP hD hS C.2.2.2.2.2.2.1 (a0 := (N, (.inl fun _ => 0))) (fun cA => rfl) hn hN (by show N * 4 ≤ 536870912; omega) h1 h2 hd (fun q cA H1 hK1 hP1 hD1 hS1 => ?_)
  have z1 : s.vm.findClass ("[" ++ (FieldType.int).toString) = some cA := (hK1.2 6 (cA, .int) rfl).2
  have z2 : s.vm.findClass ("[" ++ (FieldType.int).toString) = some (tc 0) := (C.2.2.2.2.2.1.2 0 (tc 0, .int) rfl).2
  obtain rfl : tc 0 = cA := Option.some.inj (z2.symm.trans z1)
  exact k q H1 locs ls hP1 hD1 hS1 hl
theorem E_new_long (C : Cx p R s m args c own cc nL D tc tt A d) {n : Int32} {N : Nat} (hd : decode cc pc = .ok (.newarray .long, 2)) (hn : ¬ n < 0) (hN : n.toNatClampNeg = N) (hN2 : N ≤ 1000) (h1 : cells + 1 ≤ R.cells) (h2 : slots + N ≤ R.slots) (k : ∀ q : Nat, Ev p l e R s m args below meth c (cells + 1) (slots + N) Q D A nL (ws ++ [(q, .inl (tc 1, N, (.inr (.inl fun _ => 0))))]) (pc + 2) lv (.ref q :: rest)) : Ev p l e R s m args below meth c cells slots Q D A nL ws pc lv (.int n :: rest) := by
  intro H locs ls hP hD hS hl
  refine va_newa (atype := .long) (ty := .long) C.1 C.2.1 (C.2.2.2.2.1 _ w_ac_long) rfl C.2.2.2.2.2.1 hP hD hS C.2.2.2.2.2.2.1 (a0 := (N, (.inr (.inl fun _ => 0)))) (fun cA => rfl) hn hN (by show N * 8 ≤ 536870912; omega) h1 h2 hd (fun q cA H1 hK1 hP1 hD1 hS1 => ?_)
  have z1 : s.vm.findClass ("[" ++ (FieldType.long).toString) = some cA := (hK1.2 6 (cA, .long) rfl).2
  have z2 : s.vm.findClass ("[" ++ (FieldType.long).toString) = some (tc 1) := (C.2.2.2.2.2.1.2 1 (tc 1, .long) rfl).2
  obtain rfl : tc 1 = cA := Option.some.inj (z2.symm.trans z1)
  exact k q H1 locs ls hP1 hD1 hS1 hl
theorem E_new_byte (C : Cx p R s m args c own cc nL D tc tt A d) {n : Int32} {N : Nat} (hd : decode cc pc = .ok (.newarray .byte, 2)) (hn : ¬ n < 0) (hN : n.toNatClampNeg = N) (hN2 : N ≤ 1000) (h1 : cells + 1 ≤ R.cells) (h2 : slots + N ≤ R.slots) (k : ∀ q : Nat, Ev p l e R s m args below meth c (cells + 1) (slots + N) Q D A nL (ws ++ [(q, .inl (tc 2, N, (.inl fun _ => 0)))]) (pc + 2) lv (.ref q :: rest)) : Ev p l e R s m args below meth c cells slots Q D A nL ws pc lv (.int n :: rest) := by
  intro H locs ls hP hD hS hl
  refine va_newa (atype := .byte) (ty := .byte) C.1 C.2.1 (C.2.2.2.2.1 _ w_ac_byte) rfl C.2.2.2.2.2.1 hP hD hS C.2.2.2.2.2.2.1 (a0 := (N, (.inl fun _ => 0))) (fun cA => rfl) hn hN (by show N * 1 ≤ 536870912; omega) h1 h2 hd (fun q cA H1 hK1 hP1 hD1 hS1 => ?_)
  have z1 : s.vm.findClass ("[" ++ (FieldType.byte).toString) = some cA := (hK1.2 6 (cA, .byte) rfl).2
  have z2 : s.vm.findClass ("[" ++ (FieldType.byte).toString) = some (tc 2) := (C.2.2.2.2.2.1.2 2 (tc 2, .byte) rfl).2
  obtain rfl : tc 2 = cA := Option.some.inj (z2.symm.trans z1)
  exact k q H1 locs ls hP1 hD1 hS1 hl
theorem E_new_short (C : Cx p R s m args c own cc nL D tc tt A d) {n : Int32} {N : Nat} (hd : decode cc pc = .ok (.newarray .short, 2)) (hn : ¬ n < 0) (hN : n.toNatClampNeg = N) (hN2 : N ≤ 1000) (h1 : cells + 1 ≤ R.cells) (h2 : slots + N ≤ R.slots) (k : ∀ q : Nat, Ev p l e R s m args below meth c (cells + 1) (slots + N) Q D A nL (ws ++ [(q, .inl (tc 3, N, (.inl fun _ => 0)))]) (pc + 2) lv (.ref q :: rest)) : Ev p l e R s m args below meth c cells slots Q D A nL ws pc lv (.int n :: rest) := by
  intro H locs ls hP hD hS hl
  refine va_newa (atype := .short) (ty := .short) C.1 C.2.1 (C.2.2.2.2.1 _ w_ac_short) rfl C.2.2.2.2.2.1 hP hD hS C.2.2.2.2.2.2.1 (a0 := (N, (.inl fun _ => 0))) (fun cA => rfl) hn hN (by show N * 2 ≤ 536870912; omega) h1 h2 hd (fun q cA H1 hK1 hP1 hD1 hS1 => ?_)
  have z1 : s.vm.findClass ("[" ++ (FieldType.short).toString) = some cA := (hK1.2 6 (cA, .short) rfl).2
  have z2 : s.vm.findClass ("[" ++ (FieldType.short).toString) = some (tc 3) := (C.2.2.2.2.2.1.2 3 (tc 3, .short) rfl).2
  obtain rfl : tc 3 = cA := Option.some.inj (z2.symm.trans z1)
  exact k q H1 locs ls hP1 hD1 hS1 hl
def FLf (own : String) (idx ci k : Nat) (ty : FieldType) : Prop := ∃ (C : String) (T : u_T) (N : Nat) (ty0 : Nat → FieldType), KC ci C T N ty0 ∧ k < N ∧ Cond.fieldLink own idx (T k).1 (T k).2.1 (T k).2.2.1 ∈ WU ∧ parseFieldDescriptor (T k).2.2.1 = some ty ∧ (T k).2.2.2 = true ∧ (T k).1 = own
/-- a final field, in its class's constructor -/
theorem E_putf (C : Cx p R s m args c own cc nL D tc tt A d) (hin : meth.name = "<init>") {idx ci k : Nat} {ty : FieldType} {fs : List Value} {v : Value} (hd : decode cc pc = .ok (.putfield idx, 3)) (F : FLf own idx ci k ty) (q0 : Nat) (he : ws[q0]? = some (a, .inr (ci, fs))) (hn : narrow ty v = v) (hfit : fits ty v = true) (hl0 : k < fs.length) {ws' : va_W} (hw : ws.set q0 (a, .inr (ci, fs.set k v)) = ws') (kk : Ev p l e R s m args below meth c cells slots Q D A nL ws' (pc + 3) lv rest) : Ev p l e R s m args below meth c cells slots Q D A nL ws pc lv (v :: .ref a :: rest) := by
  obtain ⟨Cn, T, N, ty0, ⟨h1, h2, h5, h6⟩, h3, h4, h7, h8, h9⟩ := F
  subst hw
  exact fun H locs ls hP hD hS hl => va_putF C.1 C.2.1 C.2.2.2.2.1 h2 ty0 h5 h6 C.2.2.2.1 C.2.2.2.2.2.1 hP hD hS q0 he h1 k h3 (C.2.2.2.2.1 _ h4) (fun _ h => h) h8 hin h9 h7 hn hfit hl0 hd (fun H1 locs1 hP1 hD1 hS1 => kk H1 locs1 ls hP1 hD1 hS1 hl)
theorem E_retN (C : Cx p R s m args c own cc nL D tc tt A d) {nc ns : Nat} {post : Option Value → va_W → Prop} (hr : meth.sig.returnType = none) (hlocks : meth.locks = false) (hd : decode cc pc = .ok (.return_, 1)) (h1 : cells ≤ nc) (h2 : slots ≤ ns) (h : post none ws) : Ev p l e R s m args below meth c cells slots (EN below post args s D A nc ns) D A nL ws pc lv [] :=
  fun H locs ls hP hD hS hl => W.widen h1 h2 (W.vret C.1 C.2.1 hr (fun t ht hW => ⟨⟨none, ws, rfl, h, by rw [ht]; exact hP, hD⟩, hS.F ht⟩) hS.2.2 hd (hlocks := hlocks))
theorem E_newq (C : Cx p R s m args c own cc nL D tc tt A d) (hAO : AO2 s) {idx : Nat} {n : Int32} {N : Nat} (hd : decode cc pc = .ok (.anewarray idx, 3)) (hw : Cond.classLink own idx "BackHouse$Shelf" ∈ WU) (hn : ¬ n < 0) (hN : n.toNatClampNeg = N) (hN2 : N ≤ 1000) (h1 : cells + 1 ≤ R.cells) (h2 : slots + N ≤ R.slots) (k : ∀ q : Nat, Ev p l e R s m args below meth c (cells + 1) (slots + N) Q D A nL (ws ++ [(q, .inl (tc 5, N, .inr (.inr (.inr (.inr (fun _ => none))))))]) (pc + 3) lv (.ref q :: rest)) : Ev p l e R s m args below meth c cells slots Q D A nL ws pc lv (.int n :: rest) := by
  intro H locs ls hP hD hS hl
  refine va_newq C.1 C.2.1 C.2.2.2.1 (C.2.2.2.2.1 _ hw) hAO.1 C.2.2.2.2.2.1 hP hD hS C.2.2.2.2.2.2.1 hn hN (by omega) h1 h2 hd (fun q cA H1 hK1 hP1 hD1 hS1 => ?_)
  obtain ⟨-, -, -, -, -, z1⟩ := (hK1.2 6 (cA, .object "BackHouse$Shelf") rfl).2
  obtain ⟨-, -, -, -, -, z2⟩ := (C.2.2.2.2.2.1.2 5 (tc 5, .object "BackHouse$Shelf") rfl).2
  obtain rfl : tc 5 = cA := Option.some.inj (z2.symm.trans z1)
  exact k q H1 locs ls hP1 hD1 hS1 hl
theorem E_aast (C : Cx p R s m args c own cc nL D tc tt A d) {n v : Nat} {vs : List Value} {f : Nat → Option Nat} {i : Int32} (hd : decode cc pc = .ok (.aastore, 1)) (q0 qk : Nat) (ha : ws[q0]? = some (a, .inl (tc 5, n, .inr (.inr (.inr (.inr f)))))) (hv : ws[qk]? = some (v, .inr (7, vs))) (hin : vp_in i n) {ws' : va_W} (hw : ws.set q0 (a, .inl (tc 5, n, .inr (.inr (.inr (.inr (va_up f i.toNatClampNeg (some v))))))) = ws') (kk : Ev p l e R s m args below meth c cells slots Q D A nL ws' (pc + 1) lv rest) : Ev p l e R s m args below meth c cells slots Q D A nL ws pc lv (.ref v :: .int i :: .ref a :: rest) := by
  subst hw
  exact fun H locs ls hP hD hS hl => va_astq C.1 C.2.1 C.2.2.2.2.2.1 hP hD hS q0 5 qk 7 (r := (RX7, TX7, 5)) ha rfl hv rfl hin hd (fun H1 locs1 hP1 hD1 hS1 => kk H1 locs1 ls hP1 hD1 hS1 hl)
end NEW
theorem le_c {a n r : Nat} (h : n ≤ r) (h1 : Nat.ble a n = true) : a ≤ r := Nat.le_trans (Nat.le_of_ble_eq_true h1) h
section NEWF
variable {p : Program} {l : Launch} {e : Env} {R : Room} {s : State} {m : MethodId} {args : Array Value} {below : List Frame} {meth : Method} {c : Code} {cells slots : Nat} {Q : State → Prop} {D : va_G} {tc tt : Nat → Nat} {A : Nat → Prop} {own : String} {cc : ByteArray} {nL d pc : Nat} {X : Nat × va_E} {ws : va_W} {lv : List (Nat × Value)} {rest : List Value} {a : Nat}
theorem set_last {α : Type} (w : List α) (x y : α) : (w ++ [x]).set w.length y = w ++ [y] := by
  induction w with
  | nil => rfl
  | cons a w ih => exact congrArg (List.cons a) ih
theorem get_last {α : Type} (w : List α) (x : α) : (w ++ [x])[w.length]? = some x := by
  induction w with
  | nil => rfl
  | cons a w ih => exact ih
/-- a store into the array that was made last -/
theorem F_iast (C : Cx p R s m args c own cc nL D tc tt A d) {q n : Nat} {f : Nat → Int32} {i x : Int32} (hd : decode cc pc = .ok (.iastore, 1)) (hin : vp_in i n) (k : Ev p l e R s m args below meth c cells slots Q D A nL (X :: (ws ++ [(q, .inl (tc 0, n, .inl (upd f i.toNatClampNeg x)))])) (pc + 1) lv rest) : Ev p l e R s m args below meth c cells slots Q D A nL (X :: (ws ++ [(q, .inl (tc 0, n, .inl f))])) pc lv (.int x :: .int i :: .ref q :: rest) :=
  E_iast C hd (ws.length + 1) (get_last ws _) hin (congrArg (List.cons X) (set_last ws _ _)) k
theorem F_putf (C : Cx p R s m args c own cc nL D tc tt A d) (hin : meth.name = "<init>") {idx ci k : Nat} {ty : FieldType} {fs : List Value} (fs' : List Value) {v : Value} (hd : decode cc pc = .ok (.putfield idx, 3)) (F : FLf own idx ci k ty) (hn : narrow ty v = v) (hfit : fits ty v = true) (hl0 : k < fs.length) (hw : fs.set k v = fs') (kk : Ev p l e R s m args below meth c cells slots Q D A nL ((a, .inr (ci, fs')) :: ws) (pc + 3) lv rest) : Ev p l e R s m args below meth c cells slots Q D A nL ((a, .inr (ci, fs)) :: ws) pc lv (v :: .ref a :: rest) := by
  subst hw
  exact E_putf C hin hd F 0 rfl hn hfit hl0 rfl kk
theorem F_put (C : Cx p R s m args c own cc nL D tc tt A d) {idx ci k : Nat} {ty : FieldType} {fs : List Value} (fs' : List Value) {v : Value} (hd : decode cc pc = .ok (.putfield idx, 3)) (F : FLw own idx ci k ty) (hn : narrow ty v = v) (hfit : fits ty v = true) (hl0 : k < fs.length) (hw : fs.set k v = fs') (kk : Ev p l e R s m args below meth c cells slots Q D A nL ((a, .inr (ci, fs')) :: ws) (pc + 3) lv rest) : Ev p l e R s m args below meth c cells slots Q D A nL ((a, .inr (ci, fs)) :: ws) pc lv (v :: .ref a :: rest) := by
  subst hw
  exact E_put C hd F 0 rfl hn hfit hl0 rfl kk
theorem F_new_int (C : Cx p R s m args c own cc nL D tc tt A d) {n : Int32} {N : Nat} (hd : decode cc pc = .ok (.newarray .int, 2)) (hn : ¬ n < 0) (hN : n.toNatClampNeg = N) (hN2 : N ≤ 1000) (h1 : cells + 1 ≤ R.cells) (h2 : slots + N ≤ R.slots) (k : ∀ q : Nat, Ev p l e R s m args below meth c (cells + 1) (slots + N) Q D A nL (X :: (ws ++ [(q, .inl (tc 0, N, (.inl fun _ => 0)))])) (pc + 2) lv (.ref q :: rest)) : Ev p l e R s m args below meth c cells slots Q D A nL (X :: ws) pc lv (.int n :: rest) := E_new_int C hd hn hN hN2 h1 h2 k
theorem F_new_long (C : Cx p R s m args c own cc nL D tc tt A d) {n : Int32} {N : Nat} (hd : decode cc pc = .ok (.newarray .long, 2)) (hn : ¬ n < 0) (hN : n.toNatClampNeg = N) (hN2 : N ≤ 1000) (h1 : cells + 1 ≤ R.cells) (h2 : slots + N ≤ R.slots) (k : ∀ q : Nat, Ev p l e R s m args below meth c (cells + 1) (slots + N) Q D A nL (X :: (ws ++ [(q, .inl (tc 1, N, (.inr (.inl fun _ => 0))))])) (pc + 2) lv (.ref q :: rest)) : Ev p l e R s m args below meth c cells slots Q D A nL (X :: ws) pc lv (.int n :: rest) := E_new_long C hd hn hN hN2 h1 h2 k
theorem F_new_byte (C : Cx p R s m args c own cc nL D tc tt A d) {n : Int32} {N : Nat} (hd : decode cc pc = .ok (.newarray .byte, 2)) (hn : ¬ n < 0) (hN : n.toNatClampNeg = N) (hN2 : N ≤ 1000) (h1 : cells + 1 ≤ R.cells) (h2 : slots + N ≤ R.slots) (k : ∀ q : Nat, Ev p l e R s m args below meth c (cells + 1) (slots + N) Q D A nL (X :: (ws ++ [(q, .inl (tc 2, N, (.inl fun _ => 0)))])) (pc + 2) lv (.ref q :: rest)) : Ev p l e R s m args below meth c cells slots Q D A nL (X :: ws) pc lv (.int n :: rest) := E_new_byte C hd hn hN hN2 h1 h2 k
theorem F_new_short (C : Cx p R s m args c own cc nL D tc tt A d) {n : Int32} {N : Nat} (hd : decode cc pc = .ok (.newarray .short, 2)) (hn : ¬ n < 0) (hN : n.toNatClampNeg = N) (hN2 : N ≤ 1000) (h1 : cells + 1 ≤ R.cells) (h2 : slots + N ≤ R.slots) (k : ∀ q : Nat, Ev p l e R s m args below meth c (cells + 1) (slots + N) Q D A nL (X :: (ws ++ [(q, .inl (tc 3, N, (.inl fun _ => 0)))])) (pc + 2) lv (.ref q :: rest)) : Ev p l e R s m args below meth c cells slots Q D A nL (X :: ws) pc lv (.int n :: rest) := E_new_short C hd hn hN hN2 h1 h2 k
end NEWF
/-- the array of eight arrays -/
theorem outer8 (cA : ClassId) (h0 : Nat) : Jvm.Free.Multi.outerC cA 8 h0 8 = vp_cell cA (8, .inr (.inr (.inr (.inr (fun j => if j < 8 then some (h0 + 1 + j) else none))))) := by
  rfl
