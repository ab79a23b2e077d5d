/-! contracts: their beginning, calls, static tables -/
def ML (own : String) (idx : Nat) (y : MethodName) (b : ByteArray) (n : Nat) (ret : Option FieldType) (np : Nat) : Prop :=
  Cond.methodLink own idx y ∈ WU ∧ Cond.code y b n ret ∈ WU ∧ Cond.initialized y.cls ∈ WU ∧ (y.cls ≠ "java/lang/invoke/MethodHandle" ∧ y.cls ≠ "java/lang/invoke/VarHandle" ∧ (parseMethodDescriptor y.desc).map (fun d => d.parameters.length) = some np) ∧ n ≤ 45
def MV (own : String) (idx ci : Nat) (y : MethodName) (b : ByteArray) (n : Nat) (ret : Option FieldType) (np : Nat) : Prop :=
  ML own idx y b n ret np ∧ Cond.instanceMethod y ∈ WU ∧ Cond.selects y.cls y y ∈ WU ∧ ∃ (T : u_T) (N : Nat), vwCl[ci]? = some (y.cls, T, N)
def MS (own : String) (idx : Nat) (y : MethodName) (b : ByteArray) (n : Nat) (ret : Option FieldType) (np : Nat) : Prop :=
  ML own idx y b n ret np ∧ Cond.static y ∈ WU
/-- the addresses of a world, and which it may write -/
theorem vaA_sub {A : Nat → Prop} {ws : va_W} {s0 H : Heap} {locs : List Loc} (hD : va_D A ws) (hA : ∀ q : Nat, s0.size ≤ q → A q) (hS : va_S A s0 H locs) : ∀ q, va_A ws H.size q → A q := by
  intro q h
  rcases h with ⟨k, e, h⟩ | h
  · exact hD.2 k (q, e) h
  · exact hA q (Nat.le_trans hS.1 h)
section EV3
variable {p : Program} {l : Launch} {e : Env} {R : Room} {s : State} {m : MethodId} {args : Array Value} {below : List Frame} {meth : Method} {c : Code} {cells slots : Nat} {Q : State → Prop} {D : va_G} {tc tt : Nat → Nat} {A : Nat → Prop} {own : String} {cc : ByteArray} {nL d pc : Nat} {ws : va_W} {lv : List (Nat × Value)} {rest : List Value} {a : Nat}
theorem Ct.of {y : MethodName} {b : ByteArray} {n : Nat} {ret : Option FieldType} {av : List Value} {post : Option Value → va_W → Prop} (hy : plainName y.cls = true) (hn : (lg_sl av).length ≤ n)
    (body : ∀ (p : Program) (e : Env) (R : Room) (s : State) (m : MethodId) (args : Array Value) (below : List Frame) (meth : Method) (c : Code) (A : Nat → Prop), Cx p R s m args c y.cls b n D tc tt A d → meth.sig.returnType = ret → meth.locks = false → Ev p l e R s m args below meth c 0 0 (EQ below post args s D A) D A n ws 0 (lv_args 0 av) []) : Ct l y b n ret d D tc tt av ws post := by
  intro sz
  refine Met.ofW (cc := b) (maxL := n) (ret := ret) hy rfl ?_
  intro p e s m args below meth c s₁ B hml hv
  obtain ⟨rfl, hsz, hP, hK, hD0, hG⟩ := hv
  have hts := atoms_spec (ws := Cond.code y b n ret :: WU) B.pre
  have hown : s.vm.findClass y.cls = some m.cls := findClass_of_methodNamed B.named
  subst hsz
  have hD := hD0.self (sz := s.heap.size)
  have C0 : Cx p (headSpec (Cond.code y b n ret :: WU) (rmD d)).room s m av.toArray c y.cls b n D tc tt (va_A ws s.heap.size) d :=
    ⟨B.exec, B.bytes, hml, hown, fun w h => hts w (List.mem_cons_of_mem _ h), hK, fun q h => Or.inr h, hG, Nat.le_refl _, Nat.le_refl _⟩
  have hl := lv_entry av (n := n) hn
  rw [lg_entry_eq]
  exact body p e _ s m av.toArray below meth c (va_A ws s.heap.size) C0 B.returns B.notSynchronized s.heap [] _ hP hD va_S.rf hl
/-- a call that has run goes on, by its contract -/
theorem Ev.call {st0 : List Value} {post : Option Value → va_W → Prop} {H : Heap} {locs : List Loc} {ls : Array Slot} (hP : va_P D vwCl ws H) (hD : va_D A ws) (hS : va_S A s.heap H locs) (hl : lv_has ls nL lv) (hf : ∀ q, va_A ws H.size q → A q)
    (hr : va_Run p l e R s m args below meth c H locs cells slots 0 0 (F0 m pc ls st0) rest (fun st o t => (∃ (r : Option Value) (ws' : va_W), o = .returned r ∧ post r ws' ∧ va_P D vwCl ws' t.heap ∧ va_D (va_A ws H.size) ws') ∧ va_F (va_A ws H.size) st t) (va_A ws H.size))
    (kk : ∀ (r : Option Value) (ws' : va_W), post r ws' → Ev p l e R s m args below meth c cells slots Q D A nL ws' (pc + 3) lv (r.toList ++ rest)) : W p l e R s m args below meth c H locs cells slots Q (F0 m pc ls st0) := by
  intro T hT X
  obtain ⟨v, st₀, t, T', L, h0, X', hL, e1, e2, ⟨⟨r, ws', hv, hp, hP', hD'⟩, hz, hk⟩, st⟩ := hr T hT X
  cases hv
  rw [h0] at hz hk
  obtain ⟨t2, a1, b1⟩ := kk v ws' hp T'.heap (locs ++ L) ls (by rw [e1]; exact hP') (hD'.weaken (fun k q _ h => hf q.1 h))
    ⟨Nat.le_trans hS.1 (by rw [e1]; exact hz), fun q h1 h2 => by rw [e1, hk q (Nat.lt_of_lt_of_le h1 hS.1) (fun z => h2 (hf q z))]; exact hS.2.1 q h1 h2, fun q hq => by
      rcases List.mem_append.mp hq with h | h
      · exact hS.2.2 q h
      · exact hf _ (hL q h)⟩ hl T' rfl X'
  exact ⟨t2, st t2 a1, b1⟩
theorem blindC {av : List Value} {sz : Nat} : FrameBlind (va_Pc av (fun U => U.heap.size = sz ∧ va_P D vwCl ws U.heap ∧ va_K D vwCl (TY tc) U ∧ va_D (fun _ => True) ws ∧ Gs tt (va_A ws sz) U U.heap)) := fun a U g mk q => by
  obtain ⟨q0, q1, qP, qK, qD, qG⟩ := q
  exact ⟨q0, q1, qP, va_K.moved (u := U) (U := U.calling g mk a) (Vm.Alike.refl U.vm) qK, qD, Gs.moved (u := U) (U := U.calling g mk a) (Vm.Alike.refl U.vm) qG⟩
theorem preC {av : List Value} {H : Heap} {locs : List Loc} (C : Cx p R s m args c own cc nL D tc tt A d) (hP : va_P D vwCl ws H) (hD : va_D A ws) (hS : va_S A s.heap H locs) : ∀ U : State, U.heap = H → s.WarmedH U.vm → (va_Pc av (fun U => U.heap.size = H.size ∧ va_P D vwCl ws U.heap ∧ va_K D vwCl (TY tc) U ∧ va_D (fun _ => True) ws ∧ Gs tt (va_A ws H.size) U U.heap)) av.toArray U := fun U hU hW =>
  ⟨rfl, by rw [hU], by rw [hU]; exact hP, va_K.moved hW.alike C.2.2.2.2.2.1, hD.weaken (fun _ _ _ _ => trivial), by rw [hU]; exact (((C.2.2.2.2.2.2.2.1).kept hS.2.1).narrow (vaA_sub hD C.2.2.2.2.2.2.1 hS)).moved hW.alike⟩
theorem callBC {idx n np d' : Nat} {y : MethodName} {b : ByteArray} {ret : Option FieldType} (C : Cx p R s m args c own cc nL D tc tt A d) (L : ML own idx y b n ret np) (hdp : d' + 1 ≤ d) : CallB R s args own idx y b n ret (Cond.code y b n ret :: WU) (rmD d') 0 0 np :=
  callB_of np C.2.2.2.2.1 (goodIn_WU L.2.1 (WU_good _ L.2.1) (fun _ h => h)) rfl rfl rfl (C.2.2.2.2.1 _ L.2.2.1) (C.2.2.2.2.1 _ L.1) L.2.2.2.1 ⟨Nat.le_trans hdp C.2.2.2.2.2.2.2.2.1, Nat.le_trans (by show 8 + (n + 11) + 64 * d' ≤ 64 * d; have := L.2.2.2.2; omega) C.2.2.2.2.2.2.2.2.2⟩
theorem E_callV (C : Cx p R s m args c own cc nL D tc tt A d) {idx ci n np : Nat} {y : MethodName} {b : ByteArray} {ret : Option FieldType} {fs : List Value} {st : List Value} {post : Option Value → va_W → Prop} (hd : decode cc pc = .ok (.invokevirtual idx, 3)) (L : MV own idx ci y b n ret np) (q0 : Nat) {d' : Nat} (As : List Value) (hc : Ct l y b n ret d' D tc tt (.ref a :: As) ws post) (he : ws[q0]? = some (a, .inr (ci, fs))) (hst : st = As.reverse ++ .ref a :: rest) (hn : As.length = np) (hdp : d' + 1 ≤ d) (hrs : (rest.map fun v => v.category).sum ≤ 8)
    (kk : ∀ (r : Option Value) (ws' : va_W), post r ws' → Ev p l e R s m args below meth c cells slots Q D A nL ws' (pc + 3) lv (r.toList ++ rest)) (hcs : cells ≤ R.cells ∧ slots ≤ R.slots := by exact ⟨Nat.zero_le _, Nat.zero_le _⟩) : Ev p l e R s m args below meth c cells slots Q D A nL ws pc lv st := by
  intro H locs ls hP hD hS hl
  obtain ⟨L1, hi, hse, T, N, hcl⟩ := L
  exact Ev.call hP hD hS hl (vaA_sub hD C.2.2.2.2.2.2.1 hS)
    (va_runV (As := As) (rest := rest) ⟨C.1, C.2.1, C.2.2.1, C.2.2.2.1, C.2.2.2.2.1⟩ (hc H.size) ⟨callBC C L1 hdp, C.2.2.2.2.1 _ hi, C.2.2.2.2.1 _ hse⟩ ⟨blindC, va_recv C.2.2.2.2.2.1 hP hcl he, preC C hP hD hS⟩ rfl hn hl.1 hst (lv_room hrs) hd hcs) kk
theorem E_callS (C : Cx p R s m args c own cc nL D tc tt A d) {idx n np : Nat} {y : MethodName} {b : ByteArray} {ret : Option FieldType} {st : List Value} {post : Option Value → va_W → Prop} (hd : decode cc pc = .ok (.invokestatic idx, 3)) (L : MS own idx y b n ret np) {d' : Nat} (As : List Value) (hc : Ct l y b n ret d' D tc tt As ws post) (hst : st = As.reverse ++ rest) (hn : As.length = np) (hdp : d' + 1 ≤ d) (hrs : (rest.map fun v => v.category).sum ≤ 8)
    (kk : ∀ (r : Option Value) (ws' : va_W), post r ws' → Ev p l e R s m args below meth c cells slots Q D A nL ws' (pc + 3) lv (r.toList ++ rest)) (hcs : cells ≤ R.cells ∧ slots ≤ R.slots := by exact ⟨Nat.zero_le _, Nat.zero_le _⟩) : Ev p l e R s m args below meth c cells slots Q D A nL ws pc lv st := by
  intro H locs ls hP hD hS hl
  obtain ⟨L1, hs⟩ := L
  exact Ev.call hP hD hS hl (vaA_sub hD C.2.2.2.2.2.2.1 hS)
    (va_runS (As := As) (rest := rest) ⟨C.1, C.2.1, C.2.2.1, C.2.2.2.1, C.2.2.2.2.1⟩ (hc H.size) ⟨callBC C L1 hdp, C.2.2.2.2.1 _ hs⟩ ⟨blindC, preC C hP hD hS⟩ rfl hn hl.1 hst (lv_room hrs) hd hcs) kk
/-- private constructors and the like aside: fields read of static tables -/
def ST (own : String) (idx : Nat) (C n : String) : Prop := Cond.fieldLink own idx C n "[I" ∈ WU
theorem E_gets (C : Cx p R s m args c own cc nL D tc tt A d) {idx t : Nat} {Cn n : String} (hd : decode cc pc = .ok (.getstatic idx, 3)) (L : ST own idx Cn n) (hZ : va_Z Cn n "[I" (.ref t) A s s.heap) (k : Ev p l e R s m args below meth c cells slots Q D A nL ws (pc + 3) lv (.ref t :: rest)) : Ev p l e R s m args below meth c cells slots Q D A nL ws pc lv rest :=
  fun H locs ls hP hD hS hl => va_gets C.1 C.2.1 hZ hS C.2.2.2.1 (C.2.2.2.2.1 _ L) (fun _ h => h) hd (k H locs ls hP hD hS hl)
theorem E_tald (C : Cx p R s m args c own cc nL D tc tt A d) {t N : Nat} {f : Nat → Int32} {i : Int32} (hd : decode cc pc = .ok (.iaload, 1)) (hT : va_T .int t N (fun j => .int (f j)) A s s.heap) (hin : vp_in i N) (k : Ev p l e R s m args below meth c cells slots Q D A nL ws (pc + 1) lv (.int (f i.toNatClampNeg) :: rest)) : Ev p l e R s m args below meth c cells slots Q D A nL ws pc lv (.int i :: .ref t :: rest) :=
  fun H locs ls hP hD hS hl => va_ti C.1 C.2.1 hT hS hin rfl hd (k H locs ls hP hD hS hl)
theorem E_tlen (C : Cx p R s m args c own cc nL D tc tt A d) {t N : Nat} {f : Nat → Int32} (hd : decode cc pc = .ok (.arraylength, 1)) (hT : va_T .int t N (fun j => .int (f j)) A s s.heap) {v : Int32} (hv : Int32.ofNat N = v) (k : Ev p l e R s m args below meth c cells slots Q D A nL ws (pc + 1) lv (.int v :: rest)) : Ev p l e R s m args below meth c cells slots Q D A nL ws pc lv (.ref t :: rest) :=
  fun H locs ls hP hD hS hl => va_tlen C.1 C.2.1 hT hS hv hd (k H locs ls hP hD hS hl)
theorem E_aaldT (C : Cx p R s m args c own cc nL D tc tt A d) {n : Nat} {f : Nat → Option Nat} {i : Int32} {ty : FieldType} {cA : ClassId} (j : Nat) (hj : (TY tc)[j]? = some (cA, ty)) (hty : ty.isReference = true) (hd : decode cc pc = .ok (.aaload, 1)) (q0 : Nat) (ha : ws[q0]? = some (a, .inl (cA, n, .inr (.inr (.inr (.inr f)))))) (hin : vp_in i n) (kk : Ev p l e R s m args below meth c cells slots Q D A nL ws (pc + 1) lv (va_rf (f i.toNatClampNeg) :: rest)) : Ev p l e R s m args below meth c cells slots Q D A nL ws pc lv (.int i :: .ref a :: rest) := by
  intro H locs ls hP hD hS hl
  have hlt : i.toNatClampNeg < n := Nat.not_le.mp fun q => hin (Or.inr q)
  exact W.aald (v := va_rf (f i.toNatClampNeg)) (ty := ty) C.1 C.2.1 (hP q0 _ ha) ((C.2.2.2.2.2.1.2 j _ hj).1 n (fun j => va_rf (f j))) hty (fun q => by cases q) (by show ¬ (i < 0 ∨ (arrV _ _ _).slots.size ≤ _); rw [arrV_size]; exact hin) (by show (arrV _ _ _).slots[_]? = _; rw [arrV_read _ _ hlt]) rfl rfl hd (kk H locs ls hP hD hS hl)
theorem E_aret (C : Cx p R s m args c own cc nL D tc tt A d) {post : Option Value → va_W → Prop} {v : Value} {rt : FieldType} (hr : meth.sig.returnType = some rt) (hrt : (∃ n, rt = .object n) ∨ ∃ t, rt = .array t) (hv : v = .null ∨ ∃ a, v = .ref a) (hlocks : meth.locks = false) (hd : decode cc pc = .ok (.areturn, 1)) (h : post (some v) ws) : Ev p l e R s m args below meth c 0 0 (EQ below post args s D A) D A nL ws pc lv [v] :=
  fun H locs ls hP hD hS hl => W.aret C.1 C.2.1 hr hrt hv (fun t ht hW => ⟨⟨_, ws, rfl, h, by rw [ht]; exact hP, hD⟩, hS.F ht⟩) hS.2.2 hd (hlocks := hlocks)
end EV3
