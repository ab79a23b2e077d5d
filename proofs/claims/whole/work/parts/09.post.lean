/-! ends and calls by the kind of the answer; small constants; comparisons as numbers -/
def PI (P : Int32 → va_W → Prop) : Option Value → va_W → Prop := fun r w => ∃ x : Int32, r = some (.int x) ∧ P x w
def PL (P : Int64 → va_W → Prop) : Option Value → va_W → Prop := fun r w => ∃ x : Int64, r = some (.long x) ∧ P x w
def PV (P : va_W → Prop) : Option Value → va_W → Prop := fun r w => r = none ∧ P w
def PR (P : Value → va_W → Prop) : Option Value → va_W → Prop := fun r w => ∃ x : Value, r = some x ∧ P x w
section POST
variable {p : Program} {l : Launch} {e : Env} {R : Room} {s : State} {m : MethodId} {args : Array Value} {below : List Frame} {meth : Method} {c : Code} {cells slots : Nat} {Q : State → Prop} {D : va_G} {tc tt : Nat → Nat} {A : Nat → Prop} {own : String} {cc : ByteArray} {nL d pc : Nat} {lv : List (Nat × Value)} {rest : List Value} {ad : Nat → Nat} {ws : va_W} {a : Nat}
theorem E_callVI (C : Cx p R s m args c own cc nL D tc tt A d) {idx ci n np : Nat} {y : MethodName} {b : ByteArray} {ret : Option FieldType} {fs : List Value} {st : List Value} {P : Int32 → va_W → Prop} (hd : decode cc pc = .ok (.invokevirtual idx, 3)) (L : MV own idx ci y b n ret np) (q0 : Nat) {d' : Nat} (As : List Value) (hc : Ct l y b n ret d' D tc tt (.ref a :: As) ws (PI P)) (he : ws[q0]? = some (a, .inr (ci, fs))) (hst : st = As.reverse ++ .ref a :: rest) (hn : As.length = np) (hdp : d' + 1 ≤ d) (hrs : (rest.map fun v => v.category).sum ≤ 8)
    (kk : ∀ (x : Int32) (w : va_W), P x w → Ev p l e R s m args below meth c cells slots Q D A nL w (pc + 3) lv (.int x :: rest)) (hcs : cells ≤ R.cells ∧ slots ≤ R.slots := by exact ⟨Nat.zero_le _, Nat.zero_le _⟩) : Ev p l e R s m args below meth c cells slots Q D A nL ws pc lv st :=
  E_callV C hd L q0 As hc he hst hn hdp hrs (fun r w hp => by obtain ⟨x, rfl, h⟩ := hp; exact kk x w h) hcs
theorem E_callSI (C : Cx p R s m args c own cc nL D tc tt A d) {idx n np : Nat} {y : MethodName} {b : ByteArray} {ret : Option FieldType} {st : List Value} {P : Int32 → va_W → Prop} (hd : decode cc pc = .ok (.invokestatic idx, 3)) (L : MS own idx y b n ret np) {d' : Nat} (As : List Value) (hc : Ct l y b n ret d' D tc tt As ws (PI P)) (hst : st = As.reverse ++ rest) (hn : As.length = np) (hdp : d' + 1 ≤ d) (hrs : (rest.map fun v => v.category).sum ≤ 8)
    (kk : ∀ (x : Int32) (w : va_W), P x w → Ev p l e R s m args below meth c cells slots Q D A nL w (pc + 3) lv (.int x :: rest)) (hcs : cells ≤ R.cells ∧ slots ≤ R.slots := by exact ⟨Nat.zero_le _, Nat.zero_le _⟩) : Ev p l e R s m args below meth c cells slots Q D A nL ws pc lv st :=
  E_callS C hd L As hc hst hn hdp hrs (fun r w hp => by obtain ⟨x, rfl, h⟩ := hp; exact kk x w h) hcs
theorem E_callVL (C : Cx p R s m args c own cc nL D tc tt A d) {idx ci n np : Nat} {y : MethodName} {b : ByteArray} {ret : Option FieldType} {fs : List Value} {st : List Value} {P : Int64 → va_W → Prop} (hd : decode cc pc = .ok (.invokevirtual idx, 3)) (L : MV own idx ci y b n ret np) (q0 : Nat) {d' : Nat} (As : List Value) (hc : Ct l y b n ret d' D tc tt (.ref a :: As) ws (PL P)) (he : ws[q0]? = some (a, .inr (ci, fs))) (hst : st = As.reverse ++ .ref a :: rest) (hn : As.length = np) (hdp : d' + 1 ≤ d) (hrs : (rest.map fun v => v.category).sum ≤ 8)
    (kk : ∀ (x : Int64) (w : va_W), P x w → Ev p l e R s m args below meth c cells slots Q D A nL w (pc + 3) lv (.long x :: rest)) (hcs : cells ≤ R.cells ∧ slots ≤ R.slots := by exact ⟨Nat.zero_le _, Nat.zero_le _⟩) : Ev p l e R s m args below meth c cells slots Q D A nL ws pc lv st :=
  E_callV C hd L q0 As hc he hst hn hdp hrs (fun r w hp => by obtain ⟨x, rfl, h⟩ := hp; exact kk x w h) hcs
theorem E_callSL (C : Cx p R s m args c own cc nL D tc tt A d) {idx n np : Nat} {y : MethodName} {b : ByteArray} {ret : Option FieldType} {st : List Value} {P : Int64 → va_W → Prop} (hd : decode cc pc = .ok (.invokestatic idx, 3)) (L : MS own idx y b n ret np) {d' : Nat} (As : List Value) (hc : Ct l y b n ret d' D tc tt As ws (PL P)) (hst : st = As.reverse ++ rest) (hn : As.length = np) (hdp : d' + 1 ≤ d) (hrs : (rest.map fun v => v.category).sum ≤ 8)
    (kk : ∀ (x : Int64) (w : va_W), P x w → Ev p l e R s m args below meth c cells slots Q D A nL w (pc + 3) lv (.long x :: rest)) (hcs : cells ≤ R.cells ∧ slots ≤ R.slots := by exact ⟨Nat.zero_le _, Nat.zero_le _⟩) : Ev p l e R s m args below meth c cells slots Q D A nL ws pc lv st :=
  E_callS C hd L As hc hst hn hdp hrs (fun r w hp => by obtain ⟨x, rfl, h⟩ := hp; exact kk x w h) hcs
theorem E_callVR (C : Cx p R s m args c own cc nL D tc tt A d) {idx ci n np : Nat} {y : MethodName} {b : ByteArray} {ret : Option FieldType} {fs : List Value} {st : List Value} {P : Value → va_W → Prop} (hd : decode cc pc = .ok (.invokevirtual idx, 3)) (L : MV own idx ci y b n ret np) (q0 : Nat) {d' : Nat} (As : List Value) (hc : Ct l y b n ret d' D tc tt (.ref a :: As) ws (PR P)) (he : ws[q0]? = some (a, .inr (ci, fs))) (hst : st = As.reverse ++ .ref a :: rest) (hn : As.length = np) (hdp : d' + 1 ≤ d) (hrs : (rest.map fun v => v.category).sum ≤ 8)
    (kk : ∀ (x : Value) (w : va_W), P x w → Ev p l e R s m args below meth c cells slots Q D A nL w (pc + 3) lv (x :: rest)) (hcs : cells ≤ R.cells ∧ slots ≤ R.slots := by exact ⟨Nat.zero_le _, Nat.zero_le _⟩) : Ev p l e R s m args below meth c cells slots Q D A nL ws pc lv st :=
  E_callV C hd L q0 As hc he hst hn hdp hrs (fun r w hp => by obtain ⟨x, rfl, h⟩ := hp; exact kk x w h) hcs
theorem E_callSR (C : Cx p R s m args c own cc nL D tc tt A d) {idx n np : Nat} {y : MethodName} {b : ByteArray} {ret : Option FieldType} {st : List Value} {P : Value → va_W → Prop} (hd : decode cc pc = .ok (.invokestatic idx, 3)) (L : MS own idx y b n ret np) {d' : Nat} (As : List Value) (hc : Ct l y b n ret d' D tc tt As ws (PR P)) (hst : st = As.reverse ++ rest) (hn : As.length = np) (hdp : d' + 1 ≤ d) (hrs : (rest.map fun v => v.category).sum ≤ 8)
    (kk : ∀ (x : Value) (w : va_W), P x w → Ev p l e R s m args below meth c cells slots Q D A nL w (pc + 3) lv (x :: rest)) (hcs : cells ≤ R.cells ∧ slots ≤ R.slots := by exact ⟨Nat.zero_le _, Nat.zero_le _⟩) : Ev p l e R s m args below meth c cells slots Q D A nL ws pc lv st :=
  E_callS C hd L As hc hst hn hdp hrs (fun r w hp => by obtain ⟨x, rfl, h⟩ := hp; exact kk x w h) hcs
theorem E_callVV (C : Cx p R s m args c own cc nL D tc tt A d) {idx ci n np : Nat} {y : MethodName} {b : ByteArray} {ret : Option FieldType} {fs : List Value} {st : List Value} {P : va_W → Prop} (hd : decode cc pc = .ok (.invokevirtual idx, 3)) (L : MV own idx ci y b n ret np) (q0 : Nat) {d' : Nat} (As : List Value) (hc : Ct l y b n ret d' D tc tt (.ref a :: As) ws (PV P)) (he : ws[q0]? = some (a, .inr (ci, fs))) (hst : st = As.reverse ++ .ref a :: rest) (hn : As.length = np) (hdp : d' + 1 ≤ d) (hrs : (rest.map fun v => v.category).sum ≤ 8)
    (kk : ∀ (w : va_W), P w → Ev p l e R s m args below meth c cells slots Q D A nL w (pc + 3) lv rest) (hcs : cells ≤ R.cells ∧ slots ≤ R.slots := by exact ⟨Nat.zero_le _, Nat.zero_le _⟩) : Ev p l e R s m args below meth c cells slots Q D A nL ws pc lv st :=
  E_callV C hd L q0 As hc he hst hn hdp hrs (fun r w hp => by obtain ⟨rfl, h⟩ := hp; exact kk w h) hcs
theorem E_callSV (C : Cx p R s m args c own cc nL D tc tt A d) {idx n np : Nat} {y : MethodName} {b : ByteArray} {ret : Option FieldType} {st : List Value} {P : va_W → Prop} (hd : decode cc pc = .ok (.invokestatic idx, 3)) (L : MS own idx y b n ret np) {d' : Nat} (As : List Value) (hc : Ct l y b n ret d' D tc tt As ws (PV P)) (hst : st = As.reverse ++ rest) (hn : As.length = np) (hdp : d' + 1 ≤ d) (hrs : (rest.map fun v => v.category).sum ≤ 8)
    (kk : ∀ (w : va_W), P w → Ev p l e R s m args below meth c cells slots Q D A nL w (pc + 3) lv rest) (hcs : cells ≤ R.cells ∧ slots ≤ R.slots := by exact ⟨Nat.zero_le _, Nat.zero_le _⟩) : Ev p l e R s m args below meth c cells slots Q D A nL ws pc lv st :=
  E_callS C hd L As hc hst hn hdp hrs (fun r w hp => by obtain ⟨rfl, h⟩ := hp; exact kk w h) hcs
theorem E_iretI (C : Cx p R s m args c own cc nL D tc tt A d) {P : Int32 → va_W → Prop} {x : Int32} (hr : meth.sig.returnType = some .int) (hlocks : meth.locks = false) (hd : decode cc pc = .ok (.ireturn, 1)) (h : P x ws) : Ev p l e R s m args below meth c 0 0 (EQ below (PI P) args s D A) D A nL ws pc lv [.int x] := E_iret C hr hlocks hd ⟨x, rfl, h⟩
theorem E_zretI (C : Cx p R s m args c own cc nL D tc tt A d) {P : Int32 → va_W → Prop} {x : Int32} (hr : meth.sig.returnType = some .boolean) (hlocks : meth.locks = false) (hd : decode cc pc = .ok (.ireturn, 1)) (hn : narrow .boolean (.int x) = .int x) (h : P x ws) : Ev p l e R s m args below meth c 0 0 (EQ below (PI P) args s D A) D A nL ws pc lv [.int x] := E_zret C hr hlocks hd hn ⟨x, rfl, h⟩
theorem E_lretL (C : Cx p R s m args c own cc nL D tc tt A d) {P : Int64 → va_W → Prop} {x : Int64} (hr : meth.sig.returnType = some .long) (hlocks : meth.locks = false) (hd : decode cc pc = .ok (.lreturn, 1)) (h : P x ws) : Ev p l e R s m args below meth c 0 0 (EQ below (PL P) args s D A) D A nL ws pc lv [.long x] := E_lret C hr hlocks hd ⟨x, rfl, h⟩
theorem E_vretV (C : Cx p R s m args c own cc nL D tc tt A d) {P : va_W → Prop} (hr : meth.sig.returnType = none) (hlocks : meth.locks = false) (hd : decode cc pc = .ok (.return_, 1)) (h : P ws) : Ev p l e R s m args below meth c 0 0 (EQ below (PV P) args s D A) D A nL ws pc lv [] := E_vret C hr hlocks hd ⟨rfl, h⟩
theorem E_aretR (C : Cx p R s m args c own cc nL D tc tt A d) {P : Value → va_W → Prop} {v : Value} {rt : FieldType} (hr : meth.sig.returnType = some rt) (hrt : (∃ n, rt = .object n) ∨ ∃ t, rt = .array t) (hv : v = .null ∨ ∃ a, v = .ref a) (hlocks : meth.locks = false) (hd : decode cc pc = .ok (.areturn, 1)) (h : P v ws) : Ev p l e R s m args below meth c 0 0 (EQ below (PR P) args s D A) D A nL ws pc lv [v] := E_aret C hr hrt hv hlocks hd ⟨v, rfl, h⟩
end POST
theorem ic_m1 : Int32.ofInt (-1) = (-1 : Int32) := by decide
theorem ic_0 : Int32.ofInt (0) = (0 : Int32) := by decide
theorem ic_1 : Int32.ofInt (1) = (1 : Int32) := by decide
theorem ic_2 : Int32.ofInt (2) = (2 : Int32) := by decide
theorem ic_3 : Int32.ofInt (3) = (3 : Int32) := by decide
theorem ic_4 : Int32.ofInt (4) = (4 : Int32) := by decide
theorem ic_5 : Int32.ofInt (5) = (5 : Int32) := by decide
theorem bp_m100 : (Int8.ofInt (-100)).toInt32 = (-100 : Int32) := by decide
theorem bp_m14 : (Int8.ofInt (-14)).toInt32 = (-14 : Int32) := by decide
theorem bp_m13 : (Int8.ofInt (-13)).toInt32 = (-13 : Int32) := by decide
theorem bp_m12 : (Int8.ofInt (-12)).toInt32 = (-12 : Int32) := by decide
theorem bp_m11 : (Int8.ofInt (-11)).toInt32 = (-11 : Int32) := by decide
theorem bp_m5 : (Int8.ofInt (-5)).toInt32 = (-5 : Int32) := by decide
theorem bp_m3 : (Int8.ofInt (-3)).toInt32 = (-3 : Int32) := by decide
theorem bp_m2 : (Int8.ofInt (-2)).toInt32 = (-2 : Int32) := by decide
theorem bp_6 : (Int8.ofInt (6)).toInt32 = (6 : Int32) := by decide
theorem bp_7 : (Int8.ofInt (7)).toInt32 = (7 : Int32) := by decide
theorem bp_8 : (Int8.ofInt (8)).toInt32 = (8 : Int32) := by decide
theorem bp_9 : (Int8.ofInt (9)).toInt32 = (9 : Int32) := by decide
theorem bp_10 : (Int8.ofInt (10)).toInt32 = (10 : Int32) := by decide
theorem bp_11 : (Int8.ofInt (11)).toInt32 = (11 : Int32) := by decide
theorem bp_12 : (Int8.ofInt (12)).toInt32 = (12 : Int32) := by decide
theorem bp_16 : (Int8.ofInt (16)).toInt32 = (16 : Int32) := by decide
theorem bp_20 : (Int8.ofInt (20)).toInt32 = (20 : Int32) := by decide
theorem bp_24 : (Int8.ofInt (24)).toInt32 = (24 : Int32) := by decide
theorem bp_30 : (Int8.ofInt (30)).toInt32 = (30 : Int32) := by decide
theorem bp_32 : (Int8.ofInt (32)).toInt32 = (32 : Int32) := by decide
theorem bp_33 : (Int8.ofInt (33)).toInt32 = (33 : Int32) := by decide
theorem bp_37 : (Int8.ofInt (37)).toInt32 = (37 : Int32) := by decide
theorem bp_38 : (Int8.ofInt (38)).toInt32 = (38 : Int32) := by decide
theorem bp_39 : (Int8.ofInt (39)).toInt32 = (39 : Int32) := by decide
theorem bp_40 : (Int8.ofInt (40)).toInt32 = (40 : Int32) := by decide
theorem bp_41 : (Int8.ofInt (41)).toInt32 = (41 : Int32) := by decide
theorem bp_42 : (Int8.ofInt (42)).toInt32 = (42 : Int32) := by decide
theorem bp_43 : (Int8.ofInt (43)).toInt32 = (43 : Int32) := by decide
theorem bp_45 : (Int8.ofInt (45)).toInt32 = (45 : Int32) := by decide
theorem bp_47 : (Int8.ofInt (47)).toInt32 = (47 : Int32) := by decide
theorem bp_48 : (Int8.ofInt (48)).toInt32 = (48 : Int32) := by decide
theorem bp_50 : (Int8.ofInt (50)).toInt32 = (50 : Int32) := by decide
theorem bp_57 : (Int8.ofInt (57)).toInt32 = (57 : Int32) := by decide
theorem bp_59 : (Int8.ofInt (59)).toInt32 = (59 : Int32) := by decide
theorem bp_60 : (Int8.ofInt (60)).toInt32 = (60 : Int32) := by decide
theorem bp_61 : (Int8.ofInt (61)).toInt32 = (61 : Int32) := by decide
theorem bp_62 : (Int8.ofInt (62)).toInt32 = (62 : Int32) := by decide
theorem bp_63 : (Int8.ofInt (63)).toInt32 = (63 : Int32) := by decide
theorem bp_70 : (Int8.ofInt (70)).toInt32 = (70 : Int32) := by decide
theorem bp_80 : (Int8.ofInt (80)).toInt32 = (80 : Int32) := by decide
theorem bp_81 : (Int8.ofInt (81)).toInt32 = (81 : Int32) := by decide
theorem bp_99 : (Int8.ofInt (99)).toInt32 = (99 : Int32) := by decide
theorem bp_100 : (Int8.ofInt (100)).toInt32 = (100 : Int32) := by decide
theorem bp_110 : (Int8.ofInt (110)).toInt32 = (110 : Int32) := by decide
theorem bp_120 : (Int8.ofInt (120)).toInt32 = (120 : Int32) := by decide
theorem bp_122 : (Int8.ofInt (122)).toInt32 = (122 : Int32) := by decide
theorem bp_124 : (Int8.ofInt (124)).toInt32 = (124 : Int32) := by decide
theorem bp_126 : (Int8.ofInt (126)).toInt32 = (126 : Int32) := by decide
theorem sp_128 : (Int16.ofInt (128)).toInt32 = (128 : Int32) := by decide
theorem sp_130 : (Int16.ofInt (130)).toInt32 = (130 : Int32) := by decide
theorem sp_144 : (Int16.ofInt (144)).toInt32 = (144 : Int32) := by decide
theorem sp_200 : (Int16.ofInt (200)).toInt32 = (200 : Int32) := by decide
theorem sp_255 : (Int16.ofInt (255)).toInt32 = (255 : Int32) := by decide
theorem sp_256 : (Int16.ofInt (256)).toInt32 = (256 : Int32) := by decide
theorem sp_260 : (Int16.ofInt (260)).toInt32 = (260 : Int32) := by decide
theorem sp_360 : (Int16.ofInt (360)).toInt32 = (360 : Int32) := by decide
theorem sp_12345 : (Int16.ofInt (12345)).toInt32 = (12345 : Int32) := by decide
theorem tl_m100 : (-100 : Int32).toInt = -100 := by decide
theorem tl_m14 : (-14 : Int32).toInt = -14 := by decide
theorem tl_m13 : (-13 : Int32).toInt = -13 := by decide
theorem tl_m12 : (-12 : Int32).toInt = -12 := by decide
theorem tl_m11 : (-11 : Int32).toInt = -11 := by decide
theorem tl_m5 : (-5 : Int32).toInt = -5 := by decide
theorem tl_m3 : (-3 : Int32).toInt = -3 := by decide
theorem tl_m2 : (-2 : Int32).toInt = -2 := by decide
theorem tl_m1 : (-1 : Int32).toInt = -1 := by decide
theorem tl_0 : (0 : Int32).toInt = 0 := by decide
theorem tl_1 : (1 : Int32).toInt = 1 := by decide
theorem tl_2 : (2 : Int32).toInt = 2 := by decide
theorem tl_3 : (3 : Int32).toInt = 3 := by decide
theorem tl_4 : (4 : Int32).toInt = 4 := by decide
theorem tl_5 : (5 : Int32).toInt = 5 := by decide
theorem tl_6 : (6 : Int32).toInt = 6 := by decide
theorem tl_7 : (7 : Int32).toInt = 7 := by decide
theorem tl_8 : (8 : Int32).toInt = 8 := by decide
theorem tl_9 : (9 : Int32).toInt = 9 := by decide
theorem tl_10 : (10 : Int32).toInt = 10 := by decide
theorem tl_11 : (11 : Int32).toInt = 11 := by decide
theorem tl_12 : (12 : Int32).toInt = 12 := by decide
theorem tl_13 : (13 : Int32).toInt = 13 := by decide
theorem tl_14 : (14 : Int32).toInt = 14 := by decide
theorem tl_15 : (15 : Int32).toInt = 15 := by decide
theorem tl_16 : (16 : Int32).toInt = 16 := by decide
theorem tl_17 : (17 : Int32).toInt = 17 := by decide
theorem tl_18 : (18 : Int32).toInt = 18 := by decide
theorem tl_19 : (19 : Int32).toInt = 19 := by decide
theorem tl_20 : (20 : Int32).toInt = 20 := by decide
theorem tl_21 : (21 : Int32).toInt = 21 := by decide
theorem tl_22 : (22 : Int32).toInt = 22 := by decide
theorem tl_23 : (23 : Int32).toInt = 23 := by decide
theorem tl_24 : (24 : Int32).toInt = 24 := by decide
theorem tl_25 : (25 : Int32).toInt = 25 := by decide
theorem tl_26 : (26 : Int32).toInt = 26 := by decide
theorem tl_27 : (27 : Int32).toInt = 27 := by decide
theorem tl_28 : (28 : Int32).toInt = 28 := by decide
theorem tl_29 : (29 : Int32).toInt = 29 := by decide
theorem tl_30 : (30 : Int32).toInt = 30 := by decide
theorem tl_31 : (31 : Int32).toInt = 31 := by decide
theorem tl_32 : (32 : Int32).toInt = 32 := by decide
theorem tl_33 : (33 : Int32).toInt = 33 := by decide
theorem tl_34 : (34 : Int32).toInt = 34 := by decide
theorem tl_35 : (35 : Int32).toInt = 35 := by decide
theorem tl_36 : (36 : Int32).toInt = 36 := by decide
theorem tl_37 : (37 : Int32).toInt = 37 := by decide
theorem tl_38 : (38 : Int32).toInt = 38 := by decide
theorem tl_39 : (39 : Int32).toInt = 39 := by decide
theorem tl_40 : (40 : Int32).toInt = 40 := by decide
theorem tl_41 : (41 : Int32).toInt = 41 := by decide
theorem tl_42 : (42 : Int32).toInt = 42 := by decide
theorem tl_43 : (43 : Int32).toInt = 43 := by decide
theorem tl_44 : (44 : Int32).toInt = 44 := by decide
theorem tl_45 : (45 : Int32).toInt = 45 := by decide
theorem tl_46 : (46 : Int32).toInt = 46 := by decide
theorem tl_47 : (47 : Int32).toInt = 47 := by decide
theorem tl_48 : (48 : Int32).toInt = 48 := by decide
theorem tl_49 : (49 : Int32).toInt = 49 := by decide
theorem tl_50 : (50 : Int32).toInt = 50 := by decide
theorem tl_51 : (51 : Int32).toInt = 51 := by decide
theorem tl_52 : (52 : Int32).toInt = 52 := by decide
theorem tl_53 : (53 : Int32).toInt = 53 := by decide
theorem tl_54 : (54 : Int32).toInt = 54 := by decide
theorem tl_55 : (55 : Int32).toInt = 55 := by decide
theorem tl_56 : (56 : Int32).toInt = 56 := by decide
theorem tl_57 : (57 : Int32).toInt = 57 := by decide
theorem tl_58 : (58 : Int32).toInt = 58 := by decide
theorem tl_59 : (59 : Int32).toInt = 59 := by decide
theorem tl_60 : (60 : Int32).toInt = 60 := by decide
theorem tl_61 : (61 : Int32).toInt = 61 := by decide
theorem tl_62 : (62 : Int32).toInt = 62 := by decide
theorem tl_63 : (63 : Int32).toInt = 63 := by decide
theorem tl_64 : (64 : Int32).toInt = 64 := by decide
theorem tl_70 : (70 : Int32).toInt = 70 := by decide
theorem tl_80 : (80 : Int32).toInt = 80 := by decide
theorem tl_81 : (81 : Int32).toInt = 81 := by decide
theorem tl_99 : (99 : Int32).toInt = 99 := by decide
theorem tl_100 : (100 : Int32).toInt = 100 := by decide
theorem tl_110 : (110 : Int32).toInt = 110 := by decide
theorem tl_120 : (120 : Int32).toInt = 120 := by decide
theorem tl_122 : (122 : Int32).toInt = 122 := by decide
theorem tl_124 : (124 : Int32).toInt = 124 := by decide
theorem tl_126 : (126 : Int32).toInt = 126 := by decide
theorem tl_128 : (128 : Int32).toInt = 128 := by decide
theorem tl_130 : (130 : Int32).toInt = 130 := by decide
theorem tl_144 : (144 : Int32).toInt = 144 := by decide
theorem tl_200 : (200 : Int32).toInt = 200 := by decide
theorem tl_255 : (255 : Int32).toInt = 255 := by decide
theorem tl_256 : (256 : Int32).toInt = 256 := by decide
theorem tl_260 : (260 : Int32).toInt = 260 := by decide
theorem tl_360 : (360 : Int32).toInt = 360 := by decide
theorem tl_12345 : (12345 : Int32).toInt = 12345 := by decide
theorem ntoi {x k : Int32} {n : Int} (hk : k.toInt = n) (h : ¬ x = k) : ¬ x.toInt = n := fun q => h (Int32.toInt_inj.mp (q.trans hk.symm))
theorem i32_eq {a b : Int32} : a = b ↔ a.toInt = b.toInt := Int32.toInt_inj.symm
theorem vinN {k N : Nat} (h : k < N) (hN : N < 2 ^ 31 := by decide) : vp_in (nI k) N := vp_in_nI h hN
theorem clN {k : Nat} (h : k < 2 ^ 31) : (nI k).toNatClampNeg = k := nI_clamp h
