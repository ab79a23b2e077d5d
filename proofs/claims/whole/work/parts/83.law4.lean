/-! the law's own body: its script, its calls with two worlds side by side -/
theorem XR.len {ad tc : Nat → Nat} {S : STT} {k : Nat} {w : va_W} (h : XR ad tc S k w) : w.length = 64 := by
  obtain ⟨W, g, h, Dv, Sh, u, v, z, y, rfl, -⟩ := h
  rfl
theorem XR.head {ad tc : Nat → Nat} {S : STT} {k : Nat} {w : va_W} (h : XR ad tc S k w) : ∃ fs : List Value, w[0]? = some (ad 0, .inr (10, fs)) := by
  obtain ⟨W, g, h, Dv, Sh, u, v, z, y, rfl, -⟩ := h
  exact ⟨_, rfl⟩
theorem MR.len {ad tc : Nat → Nat} {S : STT} {w : va_W} (h : MR ad tc S w) : w.length = 32 := by
  obtain ⟨g, h, el, u, v, sf, rfl, -⟩ := h
  rfl
theorem MR.head {ad tc : Nat → Nat} {S : STT} {w : va_W} (h : MR ad tc S w) : ∃ fs : List Value, w[0]? = some (ad 0, .inr (11, fs)) := by
  obtain ⟨g, h, el, u, v, sf, rfl, -⟩ := h
  exact ⟨_, rfl⟩
theorem nd_64 : va_nd (List.range 64) = true := by decide +kernel
theorem nd_32 : va_nd (List.range 32) = true := by decide +kernel
theorem nd_a : va_nd ((List.range 32).map (fun j => 64 + j)) = true := by decide +kernel
theorem nd_b : va_nd ((List.range 64).map (fun j => 32 + j)) = true := by decide +kernel
theorem lg_cmp_self (x : Int64) : lg_cmp x x = 0 := by
  unfold lg_cmp
  first | (rw [if_neg (Int64.lt_irrefl x), if_pos rfl]; done) | (simp; done) | (simp [Int64.lt_irrefl]; done)
section LAW4
variable {p : Program} {l : Launch} {e : Env} {R : Room} {s : State} {m : MethodId} {args : Array Value} {below : List Frame} {meth : Method} {c : Code} {cells slots : Nat} {Q : State → Prop} {D : va_G} {tc tt : Nat → Nat} {A : Nat → Prop} {own : String} {cc : ByteArray} {nL d pc : Nat} {ws : va_W} {lv : List (Nat × Value)} {rest : List Value} {a : Nat}
theorem dis_r {n1 n2 : Nat} : ∀ i ∈ (List.range n2).map (fun j => n1 + j), i ∉ List.range n1 := by
  intro i hi hc
  rw [List.mem_map] at hi
  obtain ⟨j, -, rfl⟩ := hi
  rw [List.mem_range] at hc
  omega
theorem L_callI (C : Cx p R s m args c own cc nL D tc tt A d) {idx ci n np n1 n2 : Nat} {y : MethodName} {b : ByteArray} {ret : Option FieldType} {st : List Value} {P : Int32 → va_W → Prop} {wc wr : va_W} (hd : decode cc pc = .ok (.invokevirtual idx, 3)) (L : MV own idx ci y b n ret np) {d' : Nat} (As : List Value) (hc : Ct l y b n ret d' D tc tt (.ref a :: As) wc (PI P)) (he : ∃ fs : List Value, wc[0]? = some (a, .inr (ci, fs))) (h1 : wc.length = n1) (h2 : wr.length = n2) (hn1 : va_nd (List.range n1) = true) (hn2 : va_nd ((List.range n2).map (fun j => n1 + j)) = true) (h0 : 0 < n1) (hst : st = As.reverse ++ .ref a :: rest) (hnp : As.length = np) (hdp : d' + 1 ≤ d) (hrs : (rest.map fun v => v.category).sum ≤ 8) (hcs : cells ≤ R.cells ∧ slots ≤ R.slots)
    (kk : ∀ (x : Int32) (ws' : va_W), P x ws' → Ev p l e R s m args below meth c cells slots Q D A nL (wr ++ ws') (pc + 3) lv (.int x :: rest)) : Ev p l e R s m args below meth c cells slots Q D A nL (wc ++ wr) pc lv st := by
  obtain ⟨fs, he⟩ := he
  exact E_callFI C hd L 0 As hc (by rw [List.getElem?_append_left (by omega)]; exact he) (List.range n1) ((List.range n2).map (fun j => n1 + j)) (rng_l wc wr h1) hn1 (rng_r wc wr h1 h2) hn2 dis_r hst hnp hdp hrs hcs kk
theorem L_callL (C : Cx p R s m args c own cc nL D tc tt A d) {idx ci n np n1 n2 : Nat} {y : MethodName} {b : ByteArray} {ret : Option FieldType} {st : List Value} {P : Int64 → va_W → Prop} {wc wr : va_W} (hd : decode cc pc = .ok (.invokevirtual idx, 3)) (L : MV own idx ci y b n ret np) {d' : Nat} (As : List Value) (hc : Ct l y b n ret d' D tc tt (.ref a :: As) wc (PL P)) (he : ∃ fs : List Value, wc[0]? = some (a, .inr (ci, fs))) (h1 : wc.length = n1) (h2 : wr.length = n2) (hn1 : va_nd (List.range n1) = true) (hn2 : va_nd ((List.range n2).map (fun j => n1 + j)) = true) (h0 : 0 < n1) (hst : st = As.reverse ++ .ref a :: rest) (hnp : As.length = np) (hdp : d' + 1 ≤ d) (hrs : (rest.map fun v => v.category).sum ≤ 8) (hcs : cells ≤ R.cells ∧ slots ≤ R.slots)
    (kk : ∀ (x : Int64) (ws' : va_W), P x ws' → Ev p l e R s m args below meth c cells slots Q D A nL (wr ++ ws') (pc + 3) lv (.long x :: rest)) : Ev p l e R s m args below meth c cells slots Q D A nL (wc ++ wr) pc lv st := by
  obtain ⟨fs, he⟩ := he
  exact E_callFL C hd L 0 As hc (by rw [List.getElem?_append_left (by omega)]; exact he) (List.range n1) ((List.range n2).map (fun j => n1 + j)) (rng_l wc wr h1) hn1 (rng_r wc wr h1 h2) hn2 dis_r hst hnp hdp hrs hcs kk
/-- the law's standing: its frame, its script of L ints xs at b -/
def LC (p : Program) (R : Room) (s : State) (m : MethodId) (args : Array Value) (c : Code) (D : va_G) (tc tt : Nat → Nat) (A : Nat → Prop) (b L : Nat) (xs : Nat → Int32) : Prop := Cx p R s m args c RL cL_law 4 D tc tt A 48 ∧ va_X b L xs s s.heap ∧ b < s.heap.size ∧ ¬ A b ∧ L ≤ 3072 ∧ 96 ≤ R.cells ∧ 4782 ≤ R.slots
/-- the law's locals -/
abbrev lvL (b q1 q2 : Nat) (i : Int32) : List (Nat × Value) := [(3, .int i), (2, .ref q2), (1, .ref q1), (0, .ref b)]
theorem E_slen {b L : Nat} {xs : Nat → Int32} (K : LC p R s m args c D tc tt A b L xs) (hd : decode cL_law pc = .ok (.arraylength, 1)) (k : Ev p l e R s m args below meth c cells slots Q D A 4 ws (pc + 1) lv (.int (nI L) :: rest)) : Ev p l e R s m args below meth c cells slots Q D A 4 ws pc lv (.ref b :: rest) :=
  fun H locs ls hP hD hS hl => va_slen K.1.1 K.1.2.1 K.2.1 K.2.2.1 K.2.2.2.1 hS hd (k H locs ls hP hD hS hl)
theorem E_sld {b L : Nat} {xs : Nat → Int32} (K : LC p R s m args c D tc tt A b L xs) {i : Int32} (hin : vp_in i L) (hd : decode cL_law pc = .ok (.iaload, 1)) (k : Ev p l e R s m args below meth c cells slots Q D A 4 ws (pc + 1) lv (.int (xs i.toNatClampNeg) :: rest)) : Ev p l e R s m args below meth c cells slots Q D A 4 ws pc lv (.int i :: .ref b :: rest) :=
  fun H locs ls hP hD hS hl => va_sld K.1.1 K.1.2.1 K.2.1 K.2.2.1 K.2.2.2.1 hS hin hd (k H locs ls hP hD hS hl)
/-- script[i + k] -/
theorem E_scr {b L q1 q2 j : Nat} {xs : Nat → Int32} (K : LC p R s m args c D tc tt A b L xs) (hj : j + 5 < L) (k : Nat) {n : Int} (h0 : decode cL_law pc = .ok (.aload_n 0, 1)) (h1 : decode cL_law (pc + 1) = .ok (.iload_n 3, 1)) (h2 : decode cL_law (pc + 2) = .ok (.iconst n, 1)) (h3 : decode cL_law (pc + 3) = .ok (.iadd, 1)) (h4 : decode cL_law (pc + 4) = .ok (.iaload, 1)) (hn : Int32.ofInt n = nI k) (hk : k ≤ 5) (kk : Ev p l e R s m args below meth c cells slots Q D A 4 ws (pc + 5) (lvL b q1 q2 (nI j)) (.int (xs (j + k)) :: rest)) : Ev p l e R s m args below meth c cells slots Q D A 4 ws pc (lvL b q1 q2 (nI j)) rest := by
  have hL := K.2.2.2.2.1
  refine E_aload_n K.1 h0 3 rfl ?_
  refine E_iload_n K.1 h1 0 rfl ?_
  refine E_iconst K.1 h2 hn ?_
  refine E_iadd K.1 h3 ?_
  rw [nI_add]
  refine E_sld K (vinN (by omega) (by omega)) h4 ?_
  rw [nI_clamp (by omega)]
  exact kk
end LAW4
