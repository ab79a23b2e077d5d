/-! calls of the law: two worlds side by side -/
section LAW2
variable {p : Program} {l : Launch} {e : Env} {R : Room} {s : State} {m : MethodId} {args : Array Value} {below : List Frame} {meth : Method} {c : Code} {cells slots : Nat} {Q : State → Prop} {D : va_G} {tc tt : Nat → Nat} {A : Nat → Prop} {own : String} {cc : ByteArray} {nL d pc : Nat} {ws : va_W} {lv : List (Nat × Value)} {rest : List Value} {a : Nat}
theorem E_callFI (C : Cx p R s m args c own cc nL D tc tt A d) {idx ci n np : Nat} {y : MethodName} {b : ByteArray} {ret : Option FieldType} {fs st : List Value} {P : Int32 → va_W → Prop} {wc wr : va_W} (hd : decode cc pc = .ok (.invokevirtual idx, 3)) (L : MV own idx ci y b n ret np) (q0 : Nat) {d' : Nat} (As : List Value) (hc : Ct l y b n ret d' D tc tt (.ref a :: As) wc (PI P)) (he : ws[q0]? = some (a, .inr (ci, fs))) (isC isR : List Nat) (hC : isC.map (fun i => ws[i]?) = wc.map some) (hnC : va_nd isC = true) (hR : isR.map (fun i => ws[i]?) = wr.map some) (hn : va_nd isR = true) (hdis : ∀ i ∈ isR, i ∉ isC) (hst : st = As.reverse ++ .ref a :: rest) (hnp : As.length = np) (hdp : d' + 1 ≤ d) (hrs : (rest.map fun v => v.category).sum ≤ 8) (hcs : cells ≤ R.cells ∧ slots ≤ R.slots)
    (kk : ∀ (x : Int32) (ws' : va_W), P x ws' → Ev p l e R s m args below meth c cells slots Q D A nL (wr ++ ws') (pc + 3) lv (.int x :: rest)) : Ev p l e R s m args below meth c cells slots Q D A nL ws pc lv st :=
  E_callF C hd L q0 As hc he isC isR hC hnC hR hn hdis hst hnp hdp hrs hcs (fun r ws' h => by
    obtain ⟨x, rfl, h⟩ := h
    exact kk x ws' h)
theorem E_callFL (C : Cx p R s m args c own cc nL D tc tt A d) {idx ci n np : Nat} {y : MethodName} {b : ByteArray} {ret : Option FieldType} {fs st : List Value} {P : Int64 → va_W → Prop} {wc wr : va_W} (hd : decode cc pc = .ok (.invokevirtual idx, 3)) (L : MV own idx ci y b n ret np) (q0 : Nat) {d' : Nat} (As : List Value) (hc : Ct l y b n ret d' D tc tt (.ref a :: As) wc (PL P)) (he : ws[q0]? = some (a, .inr (ci, fs))) (isC isR : List Nat) (hC : isC.map (fun i => ws[i]?) = wc.map some) (hnC : va_nd isC = true) (hR : isR.map (fun i => ws[i]?) = wr.map some) (hn : va_nd isR = true) (hdis : ∀ i ∈ isR, i ∉ isC) (hst : st = As.reverse ++ .ref a :: rest) (hnp : As.length = np) (hdp : d' + 1 ≤ d) (hrs : (rest.map fun v => v.category).sum ≤ 8) (hcs : cells ≤ R.cells ∧ slots ≤ R.slots)
    (kk : ∀ (x : Int64) (ws' : va_W), P x ws' → Ev p l e R s m args below meth c cells slots Q D A nL (wr ++ ws') (pc + 3) lv (.long x :: rest)) : Ev p l e R s m args below meth c cells slots Q D A nL ws pc lv st :=
  E_callF C hd L q0 As hc he isC isR hC hnC hR hn hdis hst hnp hdp hrs hcs (fun r ws' h => by
    obtain ⟨x, rfl, h⟩ := h
    exact kk x ws' h)
end LAW2
