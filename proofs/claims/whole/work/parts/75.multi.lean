/-! the array of arrays that World makes -/
section MULTI
variable {p : Program} {l : Launch} {e : Env} {R : Room} {s : State} {m : MethodId} {args : Array Value} {below : List Frame} {meth : Method} {c : Code} {cells slots : Nat} {Q : State → Prop} {D : va_G} {tc tt : Nat → Nat} {A : Nat → Prop} {own : String} {cc : ByteArray} {nL d pc : Nat} {ws : va_W} {lv : List (Nat × Value)} {rest : List Value} {a : Nat}
def rows8 (tc : Nat → Nat) (q : Nat) : va_W := [(q, .inl (tc 4, 8, .inr (.inr (.inr (.inr (fun j => if j < 8 then some (q + 1 + j) else none)))))), (q + 1, .inl (tc 0, 8, .inl fun _ => 0)), (q + 2, .inl (tc 0, 8, .inl fun _ => 0)), (q + 3, .inl (tc 0, 8, .inl fun _ => 0)), (q + 4, .inl (tc 0, 8, .inl fun _ => 0)), (q + 5, .inl (tc 0, 8, .inl fun _ => 0)), (q + 6, .inl (tc 0, 8, .inl fun _ => 0)), (q + 7, .inl (tc 0, 8, .inl fun _ => 0)), (q + 8, .inl (tc 0, 8, .inl fun _ => 0))]
theorem rows8_at {tc : Nat → Nat} {q : Nat} : ∀ (k : Nat) (x : Nat × va_E), (rows8 tc q)[k]? = some x → k < 9 ∧ x.1 = q + k ∧ (k = 0 → x.2 = .inl (tc 4, 8, .inr (.inr (.inr (.inr (fun j => if j < 8 then some (q + 1 + j) else none)))))) ∧ (k ≠ 0 → x.2 = .inl (tc 0, 8, .inl fun _ => 0))
  | 0, _, h => by cases h; exact ⟨by decide, rfl, fun _ => rfl, fun z => absurd rfl z⟩
  | 1, _, h => by cases h; exact ⟨by decide, rfl, fun z => (by cases z), fun _ => rfl⟩
  | 2, _, h => by cases h; exact ⟨by decide, rfl, fun z => (by cases z), fun _ => rfl⟩
  | 3, _, h => by cases h; exact ⟨by decide, rfl, fun z => (by cases z), fun _ => rfl⟩
  | 4, _, h => by cases h; exact ⟨by decide, rfl, fun z => (by cases z), fun _ => rfl⟩
  | 5, _, h => by cases h; exact ⟨by decide, rfl, fun z => (by cases z), fun _ => rfl⟩
  | 6, _, h => by cases h; exact ⟨by decide, rfl, fun z => (by cases z), fun _ => rfl⟩
  | 7, _, h => by cases h; exact ⟨by decide, rfl, fun z => (by cases z), fun _ => rfl⟩
  | 8, _, h => by cases h; exact ⟨by decide, rfl, fun z => (by cases z), fun _ => rfl⟩
  | _ + 9, _, h => by cases h
theorem E_multi (C : Cx p R s m args c own cc nL D tc tt A d) (hAO : AO2 s) {idx : Nat} (hd : decode cc pc = .ok (.multianewarray idx 2, 4)) (hw : Cond.classLink own idx ("[" ++ (FieldType.array .int).toString) ∈ WU) (h1 : cells + 9 ≤ R.cells) (h2 : slots + 72 ≤ R.slots) (k : ∀ q : Nat, Ev p l e R s m args below meth c (cells + 9) (slots + 72) Q D A nL (ws ++ rows8 tc q) (pc + 4) lv (.ref q :: rest)) : Ev p l e R s m args below meth c cells slots Q D A nL ws pc lv (.int 8 :: .int 8 :: rest) := by
  intro H locs ls hP hD hS hl T hT X
  obtain ⟨vm₁, cA, comp, hW, hfA, hfC, hO, hI, X1, step⟩ := X.multianewarray2F (ty := .int) (n := 8) (k := 8) (rest := rest) C.1 (own := own) C.2.2.2.1 (C.2.2.2.2.1 _ hw) hAO.2.1 (C.2.2.2.2.1 _ w_ac_int) (g := F0 m pc ls (.int 8 :: .int 8 :: rest)) rfl (by rw [C.2.1]; exact hd) rfl (by decide) (by decide) (by decide) (by decide) (by decide) rfl rfl h1 h2
  have z1 : s.vm.findClass ("[" ++ (FieldType.array .int).toString) = some (tc 4) := (C.2.2.2.2.2.1.2 4 (tc 4, .array .int) rfl).2
  have z2 : s.vm.findClass ("[" ++ (FieldType.int).toString) = some (tc 0) := (C.2.2.2.2.2.1.2 0 (tc 0, .int) rfl).2
  obtain rfl : tc 4 = cA := Option.some.inj (z1.symm.trans hfA)
  obtain rfl : tc 0 = comp := Option.some.inj (z2.symm.trans hfC)
  have f1 := Jvm.Free.Multi.fill_facts (T.setVm vm₁) (tc 4) (tc 0) 8 8 (.int 0) 8
  have f2 := Jvm.Free.Multi.fill_inner (T.setVm vm₁) (tc 4) (tc 0) 8 8 (.int 0) 8
  have f3 := fun (q : Nat) (hq : q < H.size) => Jvm.Free.Multi.fill_old (T.setVm vm₁) (tc 4) (tc 0) 8 8 (.int 0) (a := q) (by show q < T.heap.size; rw [hT]; exact hq) 8
  have hsz : (T.setVm vm₁).heap.size = H.size := by show T.heap.size = _; rw [hT]
  have hhp : (T.setVm vm₁).heap = H := hT
  have X2 : Stand p l e R s m args below meth c (Jvm.Free.Multi.fill (T.setVm vm₁) (tc 4) (tc 0) 8 8 (.int 0) 8) locs (cells + 9) (slots + 72) := X1
  have st2 : ∀ target, Steps p.tables e below ((Jvm.Free.Multi.fill (T.setVm vm₁) (tc 4) (tc 0) 8 8 (.int 0) 8).setTop (F0 m (pc + 4) ls (.ref T.heap.size :: rest))) target → Steps p.tables e below (T.setTop (F0 m pc ls (.int 8 :: .int 8 :: rest))) target := step
  rw [hsz] at f1 f2
  rw [hT] at st2
  generalize Jvm.Free.Multi.fill (T.setVm vm₁) (tc 4) (tc 0) 8 8 (.int 0) 8 = T1 at f1 f2 f3 X2 st2
  obtain ⟨g1, g2, -, -⟩ := f1
  have hk : ∀ (k : Nat) (x : Nat × va_E), ws[k]? = some x → T1.heap[x.1]? = H[x.1]? := fun k x hx => (f3 x.1 ((hP k x hx).lt)).trans (by rw [hhp])
  have hP1 : va_P D vwCl (ws ++ rows8 tc H.size) T1.heap := by
    refine (hP.kept hk).app (fun k x hx => ?_)
    obtain ⟨y1, y2, y3, y4⟩ := rows8_at k x hx
    obtain ⟨xa, xe⟩ := x
    cases k with
    | zero =>
      obtain rfl : xa = H.size := y2
      have y5 := y3 rfl
      dsimp only at y5
      subst y5
      show T1.heap[H.size]? = some (vp_cell _ _)
      rw [g2, outer8]
    | succ j =>
      obtain rfl : xa = H.size + (j + 1) := y2
      have y5 := y4 (by omega)
      dsimp only at y5
      subst y5
      show T1.heap[H.size + (j + 1)]? = some (vp_cell _ _)
      rw [show H.size + (j + 1) = H.size + 1 + j by omega, f2 j (by omega)]
      rfl
  have hD1 : va_D A (ws ++ rows8 tc H.size) := by
    refine va_D.app hD ⟨fun i j x y hx hy hxy => ?_, fun k x hx => ?_⟩ (fun i j x y hx hy hxy => ?_)
    · have q1 := (rows8_at i x hx).2.1
      have q2 := (rows8_at j y hy).2.1
      omega
    · have q1 := (rows8_at k x hx).2.1
      rw [q1]
      exact C.2.2.2.2.2.2.1 _ (Nat.le_trans hS.1 (Nat.le_add_right _ _))
    · have q1 := (hP i x hx).lt
      have q2 := (rows8_at j y hy).2.1
      omega
  have hS1 : va_S A s.heap T1.heap locs := ⟨by rw [g1]; exact Nat.le_trans hS.1 (by omega), fun q h1 h2 => ((f3 q (Nat.lt_of_lt_of_le h1 hS.1)).trans (by rw [hhp])).trans (hS.2.1 q h1 h2), hS.2.2⟩
  obtain ⟨t, a1, b1⟩ := k H.size T1.heap locs ls hP1 hD1 hS1 hl T1 rfl X2
  exact ⟨t, st2 t a1, b1⟩
end MULTI
