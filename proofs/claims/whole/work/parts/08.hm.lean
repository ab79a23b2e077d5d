/-! the reference's world: registers by the numbers of its fields; g h el last, u v sf each call makes anew -/
def hm (ad tc : Nat → Nat) (g : Nat → Int32) (h : Nat → Nat → Int32) (el : Nat → Int64) (u : Nat → Int32) (v : Nat → Nat → Int32) (sf : Nat → Int64) : va_W :=
  [(ad 0, .inr (11, [.int (g 0), .int (g 1), .ref (ad 1), .ref (ad 2), .ref (ad 3), .ref (ad 4), .ref (ad 5), .ref (ad 6), .ref (ad 7), .int (g 9), .int (g 10), .int (g 11), .ref (ad 8), .ref (ad 9), .ref (ad 10), .ref (ad 11), .ref (ad 12), .int (g 17), .int (u 18), .int (u 19), .int (u 20), .int (u 21), .ref (ad 13), .ref (ad 14), .ref (ad 15), .ref (ad 16), .ref (ad 17), .ref (ad 18), .ref (ad 19), .int (g 29), .int (u 30), .int (u 31), .int (u 32), .int (u 33), .int (u 34), .int (u 35), .int (u 36), .ref (ad 20), .ref (ad 21), .ref (ad 22), .ref (ad 23), .int (u 41), .ref (ad 24), .ref (ad 25), .int (g 44), .int (g 45), .ref (ad 26), .int (g 47), .ref (ad 27), .ref (ad 28), .ref (ad 29), .ref (ad 30), .ref (ad 31)])),
   (ad 1, .inl (tc 0, 8, .inl (h 2))),
   (ad 2, .inl (tc 0, 8, .inl (h 3))),
   (ad 3, .inl (tc 0, 8, .inl (h 4))),
   (ad 4, .inl (tc 0, 8, .inl (h 5))),
   (ad 5, .inl (tc 0, 8, .inl (h 6))),
   (ad 6, .inl (tc 0, 6, .inl (h 7))),
   (ad 7, .inl (tc 0, 6, .inl (h 8))),
   (ad 8, .inl (tc 0, 40, .inl (h 12))),
   (ad 9, .inl (tc 0, 40, .inl (h 13))),
   (ad 10, .inl (tc 0, 40, .inl (h 14))),
   (ad 11, .inl (tc 0, 40, .inl (h 15))),
   (ad 12, .inl (tc 2, 120, .inl (h 16))),
   (ad 13, .inl (tc 2, 260, .inl (h 22))),
   (ad 14, .inl (tc 0, 260, .inl (h 23))),
   (ad 15, .inl (tc 0, 2, .inl (h 24))),
   (ad 16, .inl (tc 3, 122, .inl (h 25))),
   (ad 17, .inl (tc 3, 122, .inl (h 26))),
   (ad 18, .inl (tc 0, 5, .inl (v 27))),
   (ad 19, .inl (tc 0, 130, .inl (v 28))),
   (ad 20, .inl (tc 0, 8, .inl (v 37))),
   (ad 21, .inl (tc 0, 8, .inl (v 38))),
   (ad 22, .inl (tc 0, 8, .inl (v 39))),
   (ad 23, .inl (tc 0, 256, .inl (v 40))),
   (ad 24, .inl (tc 0, 9, .inl (h 42))),
   (ad 25, .inl (tc 0, 9, .inl (h 43))),
   (ad 26, .inl (tc 0, 50, .inl (h 46))),
   (ad 27, .inl (tc 0, 24, .inl (h 48))),
   (ad 28, .inl (tc 0, 6, .inl (h 49))),
   (ad 29, .inl (tc 0, 6, .inl (h 50))),
   (ad 30, .inl (tc 1, 360, .inr (.inl (el)))),
   (ad 31, .inl (tc 1, 60, .inr (.inl (sf))))]
section WORLD
variable {p : Program} {l : Launch} {e : Env} {R : Room} {s : State} {m : MethodId} {args : Array Value} {below : List Frame} {meth : Method} {c : Code} {cells slots : Nat} {Q : State → Prop} {D : va_G} {tc tt : Nat → Nat} {A : Nat → Prop} {own : String} {cc : ByteArray} {nL d pc : Nat} {lv : List (Nat × Value)} {rest : List Value} {ad : Nat → Nat} {g : Nat → Int32} {h : Nat → Nat → Int32} {el : Nat → Int64} {u : Nat → Int32} {v : Nat → Nat → Int32} {sf : Nat → Int64}
theorem mg_11_0 (C : Cx p R s m args c own cc nL D tc tt A d) {idx : Nat} {ty : FieldType} (hd : decode cc pc = .ok (.getfield idx, 3)) (F : FL own idx 11 0 ty) (k : Ev p l e R s m args below meth c cells slots Q D A nL (hm ad tc g h el u v sf) (pc + 3) lv (.int (g 0) :: rest)) : Ev p l e R s m args below meth c cells slots Q D A nL (hm ad tc g h el u v sf) pc lv (.ref (ad 0) :: rest) :=
  E_get C hd F 0 rfl rfl k
theorem mp_11_0 (C : Cx p R s m args c own cc nL D tc tt A d) {idx : Nat} {w : Int32} (hd : decode cc pc = .ok (.putfield idx, 3)) (F : FLw own idx 11 0 .int) (k : Ev p l e R s m args below meth c cells slots Q D A nL (hm ad tc (va_up g 0 w) h el u v sf) (pc + 3) lv rest) : Ev p l e R s m args below meth c cells slots Q D A nL (hm ad tc g h el u v sf) pc lv (.int w :: .ref (ad 0) :: rest) :=
  E_put C hd F 0 rfl rfl rfl (Nat.le_of_ble_eq_true rfl) rfl k
theorem mg_11_1 (C : Cx p R s m args c own cc nL D tc tt A d) {idx : Nat} {ty : FieldType} (hd : decode cc pc = .ok (.getfield idx, 3)) (F : FL own idx 11 1 ty) (k : Ev p l e R s m args below meth c cells slots Q D A nL (hm ad tc g h el u v sf) (pc + 3) lv (.int (g 1) :: rest)) : Ev p l e R s m args below meth c cells slots Q D A nL (hm ad tc g h el u v sf) pc lv (.ref (ad 0) :: rest) :=
  E_get C hd F 0 rfl rfl k
theorem mp_11_1 (C : Cx p R s m args c own cc nL D tc tt A d) {idx : Nat} {w : Int32} (hd : decode cc pc = .ok (.putfield idx, 3)) (F : FLw own idx 11 1 .int) (k : Ev p l e R s m args below meth c cells slots Q D A nL (hm ad tc (va_up g 1 w) h el u v sf) (pc + 3) lv rest) : Ev p l e R s m args below meth c cells slots Q D A nL (hm ad tc g h el u v sf) pc lv (.int w :: .ref (ad 0) :: rest) :=
  E_put C hd F 0 rfl rfl rfl (Nat.le_of_ble_eq_true rfl) rfl k
theorem mg_11_2 (C : Cx p R s m args c own cc nL D tc tt A d) {idx : Nat} {ty : FieldType} (hd : decode cc pc = .ok (.getfield idx, 3)) (F : FL own idx 11 2 ty) (k : Ev p l e R s m args below meth c cells slots Q D A nL (hm ad tc g h el u v sf) (pc + 3) lv (.ref (ad 1) :: rest)) : Ev p l e R s m args below meth c cells slots Q D A nL (hm ad tc g h el u v sf) pc lv (.ref (ad 0) :: rest) :=
  E_get C hd F 0 rfl rfl k
theorem mg_11_3 (C : Cx p R s m args c own cc nL D tc tt A d) {idx : Nat} {ty : FieldType} (hd : decode cc pc = .ok (.getfield idx, 3)) (F : FL own idx 11 3 ty) (k : Ev p l e R s m args below meth c cells slots Q D A nL (hm ad tc g h el u v sf) (pc + 3) lv (.ref (ad 2) :: rest)) : Ev p l e R s m args below meth c cells slots Q D A nL (hm ad tc g h el u v sf) pc lv (.ref (ad 0) :: rest) :=
  E_get C hd F 0 rfl rfl k
theorem mg_11_4 (C : Cx p R s m args c own cc nL D tc tt A d) {idx : Nat} {ty : FieldType} (hd : decode cc pc = .ok (.getfield idx, 3)) (F : FL own idx 11 4 ty) (k : Ev p l e R s m args below meth c cells slots Q D A nL (hm ad tc g h el u v sf) (pc + 3) lv (.ref (ad 3) :: rest)) : Ev p l e R s m args below meth c cells slots Q D A nL (hm ad tc g h el u v sf) pc lv (.ref (ad 0) :: rest) :=
  E_get C hd F 0 rfl rfl k
theorem mg_11_5 (C : Cx p R s m args c own cc nL D tc tt A d) {idx : Nat} {ty : FieldType} (hd : decode cc pc = .ok (.getfield idx, 3)) (F : FL own idx 11 5 ty) (k : Ev p l e R s m args below meth c cells slots Q D A nL (hm ad tc g h el u v sf) (pc + 3) lv (.ref (ad 4) :: rest)) : Ev p l e R s m args below meth c cells slots Q D A nL (hm ad tc g h el u v sf) pc lv (.ref (ad 0) :: rest) :=
  E_get C hd F 0 rfl rfl k
theorem mg_11_6 (C : Cx p R s m args c own cc nL D tc tt A d) {idx : Nat} {ty : FieldType} (hd : decode cc pc = .ok (.getfield idx, 3)) (F : FL own idx 11 6 ty) (k : Ev p l e R s m args below meth c cells slots Q D A nL (hm ad tc g h el u v sf) (pc + 3) lv (.ref (ad 5) :: rest)) : Ev p l e R s m args below meth c cells slots Q D A nL (hm ad tc g h el u v sf) pc lv (.ref (ad 0) :: rest) :=
  E_get C hd F 0 rfl rfl k
theorem mg_11_7 (C : Cx p R s m args c own cc nL D tc tt A d) {idx : Nat} {ty : FieldType} (hd : decode cc pc = .ok (.getfield idx, 3)) (F : FL own idx 11 7 ty) (k : Ev p l e R s m args below meth c cells slots Q D A nL (hm ad tc g h el u v sf) (pc + 3) lv (.ref (ad 6) :: rest)) : Ev p l e R s m args below meth c cells slots Q D A nL (hm ad tc g h el u v sf) pc lv (.ref (ad 0) :: rest) :=
  E_get C hd F 0 rfl rfl k
theorem mg_11_8 (C : Cx p R s m args c own cc nL D tc tt A d) {idx : Nat} {ty : FieldType} (hd : decode cc pc = .ok (.getfield idx, 3)) (F : FL own idx 11 8 ty) (k : Ev p l e R s m args below meth c cells slots Q D A nL (hm ad tc g h el u v sf) (pc + 3) lv (.ref (ad 7) :: rest)) : Ev p l e R s m args below meth c cells slots Q D A nL (hm ad tc g h el u v sf) pc lv (.ref (ad 0) :: rest) :=
  E_get C hd F 0 rfl rfl k
theorem mg_11_9 (C : Cx p R s m args c own cc nL D tc tt A d) {idx : Nat} {ty : FieldType} (hd : decode cc pc = .ok (.getfield idx, 3)) (F : FL own idx 11 9 ty) (k : Ev p l e R s m args below meth c cells slots Q D A nL (hm ad tc g h el u v sf) (pc + 3) lv (.int (g 9) :: rest)) : Ev p l e R s m args below meth c cells slots Q D A nL (hm ad tc g h el u v sf) pc lv (.ref (ad 0) :: rest) :=
  E_get C hd F 0 rfl rfl k
theorem mp_11_9 (C : Cx p R s m args c own cc nL D tc tt A d) {idx : Nat} {w : Int32} (hd : decode cc pc = .ok (.putfield idx, 3)) (F : FLw own idx 11 9 .int) (k : Ev p l e R s m args below meth c cells slots Q D A nL (hm ad tc (va_up g 9 w) h el u v sf) (pc + 3) lv rest) : Ev p l e R s m args below meth c cells slots Q D A nL (hm ad tc g h el u v sf) pc lv (.int w :: .ref (ad 0) :: rest) :=
  E_put C hd F 0 rfl rfl rfl (Nat.le_of_ble_eq_true rfl) rfl k
theorem mg_11_10 (C : Cx p R s m args c own cc nL D tc tt A d) {idx : Nat} {ty : FieldType} (hd : decode cc pc = .ok (.getfield idx, 3)) (F : FL own idx 11 10 ty) (k : Ev p l e R s m args below meth c cells slots Q D A nL (hm ad tc g h el u v sf) (pc + 3) lv (.int (g 10) :: rest)) : Ev p l e R s m args below meth c cells slots Q D A nL (hm ad tc g h el u v sf) pc lv (.ref (ad 0) :: rest) :=
  E_get C hd F 0 rfl rfl k
theorem mp_11_10 (C : Cx p R s m args c own cc nL D tc tt A d) {idx : Nat} {w : Int32} (hd : decode cc pc = .ok (.putfield idx, 3)) (F : FLw own idx 11 10 .int) (k : Ev p l e R s m args below meth c cells slots Q D A nL (hm ad tc (va_up g 10 w) h el u v sf) (pc + 3) lv rest) : Ev p l e R s m args below meth c cells slots Q D A nL (hm ad tc g h el u v sf) pc lv (.int w :: .ref (ad 0) :: rest) :=
  E_put C hd F 0 rfl rfl rfl (Nat.le_of_ble_eq_true rfl) rfl k
theorem mg_11_11 (C : Cx p R s m args c own cc nL D tc tt A d) {idx : Nat} {ty : FieldType} (hd : decode cc pc = .ok (.getfield idx, 3)) (F : FL own idx 11 11 ty) (k : Ev p l e R s m args below meth c cells slots Q D A nL (hm ad tc g h el u v sf) (pc + 3) lv (.int (g 11) :: rest)) : Ev p l e R s m args below meth c cells slots Q D A nL (hm ad tc g h el u v sf) pc lv (.ref (ad 0) :: rest) :=
  E_get C hd F 0 rfl rfl k
theorem mp_11_11 (C : Cx p R s m args c own cc nL D tc tt A d) {idx : Nat} {w : Int32} (hd : decode cc pc = .ok (.putfield idx, 3)) (F : FLw own idx 11 11 .int) (k : Ev p l e R s m args below meth c cells slots Q D A nL (hm ad tc (va_up g 11 w) h el u v sf) (pc + 3) lv rest) : Ev p l e R s m args below meth c cells slots Q D A nL (hm ad tc g h el u v sf) pc lv (.int w :: .ref (ad 0) :: rest) :=
  E_put C hd F 0 rfl rfl rfl (Nat.le_of_ble_eq_true rfl) rfl k
theorem mg_11_12 (C : Cx p R s m args c own cc nL D tc tt A d) {idx : Nat} {ty : FieldType} (hd : decode cc pc = .ok (.getfield idx, 3)) (F : FL own idx 11 12 ty) (k : Ev p l e R s m args below meth c cells slots Q D A nL (hm ad tc g h el u v sf) (pc + 3) lv (.ref (ad 8) :: rest)) : Ev p l e R s m args below meth c cells slots Q D A nL (hm ad tc g h el u v sf) pc lv (.ref (ad 0) :: rest) :=
  E_get C hd F 0 rfl rfl k
theorem mg_11_13 (C : Cx p R s m args c own cc nL D tc tt A d) {idx : Nat} {ty : FieldType} (hd : decode cc pc = .ok (.getfield idx, 3)) (F : FL own idx 11 13 ty) (k : Ev p l e R s m args below meth c cells slots Q D A nL (hm ad tc g h el u v sf) (pc + 3) lv (.ref (ad 9) :: rest)) : Ev p l e R s m args below meth c cells slots Q D A nL (hm ad tc g h el u v sf) pc lv (.ref (ad 0) :: rest) :=
  E_get C hd F 0 rfl rfl k
theorem mg_11_14 (C : Cx p R s m args c own cc nL D tc tt A d) {idx : Nat} {ty : FieldType} (hd : decode cc pc = .ok (.getfield idx, 3)) (F : FL own idx 11 14 ty) (k : Ev p l e R s m args below meth c cells slots Q D A nL (hm ad tc g h el u v sf) (pc + 3) lv (.ref (ad 10) :: rest)) : Ev p l e R s m args below meth c cells slots Q D A nL (hm ad tc g h el u v sf) pc lv (.ref (ad 0) :: rest) :=
  E_get C hd F 0 rfl rfl k
theorem mg_11_15 (C : Cx p R s m args c own cc nL D tc tt A d) {idx : Nat} {ty : FieldType} (hd : decode cc pc = .ok (.getfield idx, 3)) (F : FL own idx 11 15 ty) (k : Ev p l e R s m args below meth c cells slots Q D A nL (hm ad tc g h el u v sf) (pc + 3) lv (.ref (ad 11) :: rest)) : Ev p l e R s m args below meth c cells slots Q D A nL (hm ad tc g h el u v sf) pc lv (.ref (ad 0) :: rest) :=
  E_get C hd F 0 rfl rfl k
theorem mg_11_16 (C : Cx p R s m args c own cc nL D tc tt A d) {idx : Nat} {ty : FieldType} (hd : decode cc pc = .ok (.getfield idx, 3)) (F : FL own idx 11 16 ty) (k : Ev p l e R s m args below meth c cells slots Q D A nL (hm ad tc g h el u v sf) (pc + 3) lv (.ref (ad 12) :: rest)) : Ev p l e R s m args below meth c cells slots Q D A nL (hm ad tc g h el u v sf) pc lv (.ref (ad 0) :: rest) :=
  E_get C hd F 0 rfl rfl k
theorem mg_11_17 (C : Cx p R s m args c own cc nL D tc tt A d) {idx : Nat} {ty : FieldType} (hd : decode cc pc = .ok (.getfield idx, 3)) (F : FL own idx 11 17 ty) (k : Ev p l e R s m args below meth c cells slots Q D A nL (hm ad tc g h el u v sf) (pc + 3) lv (.int (g 17) :: rest)) : Ev p l e R s m args below meth c cells slots Q D A nL (hm ad tc g h el u v sf) pc lv (.ref (ad 0) :: rest) :=
  E_get C hd F 0 rfl rfl k
theorem mp_11_17 (C : Cx p R s m args c own cc nL D tc tt A d) {idx : Nat} {w : Int32} (hd : decode cc pc = .ok (.putfield idx, 3)) (F : FLw own idx 11 17 .int) (k : Ev p l e R s m args below meth c cells slots Q D A nL (hm ad tc (va_up g 17 w) h el u v sf) (pc + 3) lv rest) : Ev p l e R s m args below meth c cells slots Q D A nL (hm ad tc g h el u v sf) pc lv (.int w :: .ref (ad 0) :: rest) :=
  E_put C hd F 0 rfl rfl rfl (Nat.le_of_ble_eq_true rfl) rfl k
theorem mg_11_18 (C : Cx p R s m args c own cc nL D tc tt A d) {idx : Nat} {ty : FieldType} (hd : decode cc pc = .ok (.getfield idx, 3)) (F : FL own idx 11 18 ty) (k : Ev p l e R s m args below meth c cells slots Q D A nL (hm ad tc g h el u v sf) (pc + 3) lv (.int (u 18) :: rest)) : Ev p l e R s m args below meth c cells slots Q D A nL (hm ad tc g h el u v sf) pc lv (.ref (ad 0) :: rest) :=
  E_get C hd F 0 rfl rfl k
theorem mp_11_18 (C : Cx p R s m args c own cc nL D tc tt A d) {idx : Nat} {w : Int32} (hd : decode cc pc = .ok (.putfield idx, 3)) (F : FLw own idx 11 18 .int) (k : Ev p l e R s m args below meth c cells slots Q D A nL (hm ad tc g h el (va_up u 18 w) v sf) (pc + 3) lv rest) : Ev p l e R s m args below meth c cells slots Q D A nL (hm ad tc g h el u v sf) pc lv (.int w :: .ref (ad 0) :: rest) :=
  E_put C hd F 0 rfl rfl rfl (Nat.le_of_ble_eq_true rfl) rfl k
theorem mg_11_19 (C : Cx p R s m args c own cc nL D tc tt A d) {idx : Nat} {ty : FieldType} (hd : decode cc pc = .ok (.getfield idx, 3)) (F : FL own idx 11 19 ty) (k : Ev p l e R s m args below meth c cells slots Q D A nL (hm ad tc g h el u v sf) (pc + 3) lv (.int (u 19) :: rest)) : Ev p l e R s m args below meth c cells slots Q D A nL (hm ad tc g h el u v sf) pc lv (.ref (ad 0) :: rest) :=
  E_get C hd F 0 rfl rfl k
theorem mp_11_19 (C : Cx p R s m args c own cc nL D tc tt A d) {idx : Nat} {w : Int32} (hd : decode cc pc = .ok (.putfield idx, 3)) (F : FLw own idx 11 19 .int) (k : Ev p l e R s m args below meth c cells slots Q D A nL (hm ad tc g h el (va_up u 19 w) v sf) (pc + 3) lv rest) : Ev p l e R s m args below meth c cells slots Q D A nL (hm ad tc g h el u v sf) pc lv (.int w :: .ref (ad 0) :: rest) :=
  E_put C hd F 0 rfl rfl rfl (Nat.le_of_ble_eq_true rfl) rfl k
theorem mg_11_20 (C : Cx p R s m args c own cc nL D tc tt A d) {idx : Nat} {ty : FieldType} (hd : decode cc pc = .ok (.getfield idx, 3)) (F : FL own idx 11 20 ty) (k : Ev p l e R s m args below meth c cells slots Q D A nL (hm ad tc g h el u v sf) (pc + 3) lv (.int (u 20) :: rest)) : Ev p l e R s m args below meth c cells slots Q D A nL (hm ad tc g h el u v sf) pc lv (.ref (ad 0) :: rest) :=
  E_get C hd F 0 rfl rfl k
theorem mp_11_20 (C : Cx p R s m args c own cc nL D tc tt A d) {idx : Nat} {w : Int32} (hd : decode cc pc = .ok (.putfield idx, 3)) (F : FLw own idx 11 20 .int) (k : Ev p l e R s m args below meth c cells slots Q D A nL (hm ad tc g h el (va_up u 20 w) v sf) (pc + 3) lv rest) : Ev p l e R s m args below meth c cells slots Q D A nL (hm ad tc g h el u v sf) pc lv (.int w :: .ref (ad 0) :: rest) :=
  E_put C hd F 0 rfl rfl rfl (Nat.le_of_ble_eq_true rfl) rfl k
theorem mg_11_21 (C : Cx p R s m args c own cc nL D tc tt A d) {idx : Nat} {ty : FieldType} (hd : decode cc pc = .ok (.getfield idx, 3)) (F : FL own idx 11 21 ty) (k : Ev p l e R s m args below meth c cells slots Q D A nL (hm ad tc g h el u v sf) (pc + 3) lv (.int (u 21) :: rest)) : Ev p l e R s m args below meth c cells slots Q D A nL (hm ad tc g h el u v sf) pc lv (.ref (ad 0) :: rest) :=
  E_get C hd F 0 rfl rfl k
theorem mp_11_21 (C : Cx p R s m args c own cc nL D tc tt A d) {idx : Nat} {w : Int32} (hd : decode cc pc = .ok (.putfield idx, 3)) (F : FLw own idx 11 21 .int) (k : Ev p l e R s m args below meth c cells slots Q D A nL (hm ad tc g h el (va_up u 21 w) v sf) (pc + 3) lv rest) : Ev p l e R s m args below meth c cells slots Q D A nL (hm ad tc g h el u v sf) pc lv (.int w :: .ref (ad 0) :: rest) :=
  E_put C hd F 0 rfl rfl rfl (Nat.le_of_ble_eq_true rfl) rfl k
theorem mg_11_22 (C : Cx p R s m args c own cc nL D tc tt A d) {idx : Nat} {ty : FieldType} (hd : decode cc pc = .ok (.getfield idx, 3)) (F : FL own idx 11 22 ty) (k : Ev p l e R s m args below meth c cells slots Q D A nL (hm ad tc g h el u v sf) (pc + 3) lv (.ref (ad 13) :: rest)) : Ev p l e R s m args below meth c cells slots Q D A nL (hm ad tc g h el u v sf) pc lv (.ref (ad 0) :: rest) :=
  E_get C hd F 0 rfl rfl k
theorem mg_11_23 (C : Cx p R s m args c own cc nL D tc tt A d) {idx : Nat} {ty : FieldType} (hd : decode cc pc = .ok (.getfield idx, 3)) (F : FL own idx 11 23 ty) (k : Ev p l e R s m args below meth c cells slots Q D A nL (hm ad tc g h el u v sf) (pc + 3) lv (.ref (ad 14) :: rest)) : Ev p l e R s m args below meth c cells slots Q D A nL (hm ad tc g h el u v sf) pc lv (.ref (ad 0) :: rest) :=
  E_get C hd F 0 rfl rfl k
theorem mg_11_24 (C : Cx p R s m args c own cc nL D tc tt A d) {idx : Nat} {ty : FieldType} (hd : decode cc pc = .ok (.getfield idx, 3)) (F : FL own idx 11 24 ty) (k : Ev p l e R s m args below meth c cells slots Q D A nL (hm ad tc g h el u v sf) (pc + 3) lv (.ref (ad 15) :: rest)) : Ev p l e R s m args below meth c cells slots Q D A nL (hm ad tc g h el u v sf) pc lv (.ref (ad 0) :: rest) :=
  E_get C hd F 0 rfl rfl k
theorem mg_11_25 (C : Cx p R s m args c own cc nL D tc tt A d) {idx : Nat} {ty : FieldType} (hd : decode cc pc = .ok (.getfield idx, 3)) (F : FL own idx 11 25 ty) (k : Ev p l e R s m args below meth c cells slots Q D A nL (hm ad tc g h el u v sf) (pc + 3) lv (.ref (ad 16) :: rest)) : Ev p l e R s m args below meth c cells slots Q D A nL (hm ad tc g h el u v sf) pc lv (.ref (ad 0) :: rest) :=
  E_get C hd F 0 rfl rfl k
theorem mg_11_26 (C : Cx p R s m args c own cc nL D tc tt A d) {idx : Nat} {ty : FieldType} (hd : decode cc pc = .ok (.getfield idx, 3)) (F : FL own idx 11 26 ty) (k : Ev p l e R s m args below meth c cells slots Q D A nL (hm ad tc g h el u v sf) (pc + 3) lv (.ref (ad 17) :: rest)) : Ev p l e R s m args below meth c cells slots Q D A nL (hm ad tc g h el u v sf) pc lv (.ref (ad 0) :: rest) :=
  E_get C hd F 0 rfl rfl k
theorem mg_11_27 (C : Cx p R s m args c own cc nL D tc tt A d) {idx : Nat} {ty : FieldType} (hd : decode cc pc = .ok (.getfield idx, 3)) (F : FL own idx 11 27 ty) (k : Ev p l e R s m args below meth c cells slots Q D A nL (hm ad tc g h el u v sf) (pc + 3) lv (.ref (ad 18) :: rest)) : Ev p l e R s m args below meth c cells slots Q D A nL (hm ad tc g h el u v sf) pc lv (.ref (ad 0) :: rest) :=
  E_get C hd F 0 rfl rfl k
theorem mg_11_28 (C : Cx p R s m args c own cc nL D tc tt A d) {idx : Nat} {ty : FieldType} (hd : decode cc pc = .ok (.getfield idx, 3)) (F : FL own idx 11 28 ty) (k : Ev p l e R s m args below meth c cells slots Q D A nL (hm ad tc g h el u v sf) (pc + 3) lv (.ref (ad 19) :: rest)) : Ev p l e R s m args below meth c cells slots Q D A nL (hm ad tc g h el u v sf) pc lv (.ref (ad 0) :: rest) :=
  E_get C hd F 0 rfl rfl k
theorem mg_11_29 (C : Cx p R s m args c own cc nL D tc tt A d) {idx : Nat} {ty : FieldType} (hd : decode cc pc = .ok (.getfield idx, 3)) (F : FL own idx 11 29 ty) (k : Ev p l e R s m args below meth c cells slots Q D A nL (hm ad tc g h el u v sf) (pc + 3) lv (.int (g 29) :: rest)) : Ev p l e R s m args below meth c cells slots Q D A nL (hm ad tc g h el u v sf) pc lv (.ref (ad 0) :: rest) :=
  E_get C hd F 0 rfl rfl k
theorem mp_11_29 (C : Cx p R s m args c own cc nL D tc tt A d) {idx : Nat} {w : Int32} (hd : decode cc pc = .ok (.putfield idx, 3)) (F : FLw own idx 11 29 .boolean) (hn : narrow .boolean (.int w) = .int w) (hf : fits .boolean (.int w) = true) (k : Ev p l e R s m args below meth c cells slots Q D A nL (hm ad tc (va_up g 29 w) h el u v sf) (pc + 3) lv rest) : Ev p l e R s m args below meth c cells slots Q D A nL (hm ad tc g h el u v sf) pc lv (.int w :: .ref (ad 0) :: rest) :=
  E_put C hd F 0 rfl hn hf (Nat.le_of_ble_eq_true rfl) rfl k
theorem mg_11_30 (C : Cx p R s m args c own cc nL D tc tt A d) {idx : Nat} {ty : FieldType} (hd : decode cc pc = .ok (.getfield idx, 3)) (F : FL own idx 11 30 ty) (k : Ev p l e R s m args below meth c cells slots Q D A nL (hm ad tc g h el u v sf) (pc + 3) lv (.int (u 30) :: rest)) : Ev p l e R s m args below meth c cells slots Q D A nL (hm ad tc g h el u v sf) pc lv (.ref (ad 0) :: rest) :=
  E_get C hd F 0 rfl rfl k
theorem mp_11_30 (C : Cx p R s m args c own cc nL D tc tt A d) {idx : Nat} {w : Int32} (hd : decode cc pc = .ok (.putfield idx, 3)) (F : FLw own idx 11 30 .int) (k : Ev p l e R s m args below meth c cells slots Q D A nL (hm ad tc g h el (va_up u 30 w) v sf) (pc + 3) lv rest) : Ev p l e R s m args below meth c cells slots Q D A nL (hm ad tc g h el u v sf) pc lv (.int w :: .ref (ad 0) :: rest) :=
  E_put C hd F 0 rfl rfl rfl (Nat.le_of_ble_eq_true rfl) rfl k
theorem mg_11_31 (C : Cx p R s m args c own cc nL D tc tt A d) {idx : Nat} {ty : FieldType} (hd : decode cc pc = .ok (.getfield idx, 3)) (F : FL own idx 11 31 ty) (k : Ev p l e R s m args below meth c cells slots Q D A nL (hm ad tc g h el u v sf) (pc + 3) lv (.int (u 31) :: rest)) : Ev p l e R s m args below meth c cells slots Q D A nL (hm ad tc g h el u v sf) pc lv (.ref (ad 0) :: rest) :=
  E_get C hd F 0 rfl rfl k
theorem mp_11_31 (C : Cx p R s m args c own cc nL D tc tt A d) {idx : Nat} {w : Int32} (hd : decode cc pc = .ok (.putfield idx, 3)) (F : FLw own idx 11 31 .int) (k : Ev p l e R s m args below meth c cells slots Q D A nL (hm ad tc g h el (va_up u 31 w) v sf) (pc + 3) lv rest) : Ev p l e R s m args below meth c cells slots Q D A nL (hm ad tc g h el u v sf) pc lv (.int w :: .ref (ad 0) :: rest) :=
  E_put C hd F 0 rfl rfl rfl (Nat.le_of_ble_eq_true rfl) rfl k
theorem mg_11_32 (C : Cx p R s m args c own cc nL D tc tt A d) {idx : Nat} {ty : FieldType} (hd : decode cc pc = .ok (.getfield idx, 3)) (F : FL own idx 11 32 ty) (k : Ev p l e R s m args below meth c cells slots Q D A nL (hm ad tc g h el u v sf) (pc + 3) lv (.int (u 32) :: rest)) : Ev p l e R s m args below meth c cells slots Q D A nL (hm ad tc g h el u v sf) pc lv (.ref (ad 0) :: rest) :=
  E_get C hd F 0 rfl rfl k
theorem mp_11_32 (C : Cx p R s m args c own cc nL D tc tt A d) {idx : Nat} {w : Int32} (hd : decode cc pc = .ok (.putfield idx, 3)) (F : FLw own idx 11 32 .int) (k : Ev p l e R s m args below meth c cells slots Q D A nL (hm ad tc g h el (va_up u 32 w) v sf) (pc + 3) lv rest) : Ev p l e R s m args below meth c cells slots Q D A nL (hm ad tc g h el u v sf) pc lv (.int w :: .ref (ad 0) :: rest) :=
  E_put C hd F 0 rfl rfl rfl (Nat.le_of_ble_eq_true rfl) rfl k
theorem mg_11_33 (C : Cx p R s m args c own cc nL D tc tt A d) {idx : Nat} {ty : FieldType} (hd : decode cc pc = .ok (.getfield idx, 3)) (F : FL own idx 11 33 ty) (k : Ev p l e R s m args below meth c cells slots Q D A nL (hm ad tc g h el u v sf) (pc + 3) lv (.int (u 33) :: rest)) : Ev p l e R s m args below meth c cells slots Q D A nL (hm ad tc g h el u v sf) pc lv (.ref (ad 0) :: rest) :=
  E_get C hd F 0 rfl rfl k
theorem mp_11_33 (C : Cx p R s m args c own cc nL D tc tt A d) {idx : Nat} {w : Int32} (hd : decode cc pc = .ok (.putfield idx, 3)) (F : FLw own idx 11 33 .int) (k : Ev p l e R s m args below meth c cells slots Q D A nL (hm ad tc g h el (va_up u 33 w) v sf) (pc + 3) lv rest) : Ev p l e R s m args below meth c cells slots Q D A nL (hm ad tc g h el u v sf) pc lv (.int w :: .ref (ad 0) :: rest) :=
  E_put C hd F 0 rfl rfl rfl (Nat.le_of_ble_eq_true rfl) rfl k
theorem mg_11_34 (C : Cx p R s m args c own cc nL D tc tt A d) {idx : Nat} {ty : FieldType} (hd : decode cc pc = .ok (.getfield idx, 3)) (F : FL own idx 11 34 ty) (k : Ev p l e R s m args below meth c cells slots Q D A nL (hm ad tc g h el u v sf) (pc + 3) lv (.int (u 34) :: rest)) : Ev p l e R s m args below meth c cells slots Q D A nL (hm ad tc g h el u v sf) pc lv (.ref (ad 0) :: rest) :=
  E_get C hd F 0 rfl rfl k
theorem mp_11_34 (C : Cx p R s m args c own cc nL D tc tt A d) {idx : Nat} {w : Int32} (hd : decode cc pc = .ok (.putfield idx, 3)) (F : FLw own idx 11 34 .int) (k : Ev p l e R s m args below meth c cells slots Q D A nL (hm ad tc g h el (va_up u 34 w) v sf) (pc + 3) lv rest) : Ev p l e R s m args below meth c cells slots Q D A nL (hm ad tc g h el u v sf) pc lv (.int w :: .ref (ad 0) :: rest) :=
  E_put C hd F 0 rfl rfl rfl (Nat.le_of_ble_eq_true rfl) rfl k
theorem mg_11_35 (C : Cx p R s m args c own cc nL D tc tt A d) {idx : Nat} {ty : FieldType} (hd : decode cc pc = .ok (.getfield idx, 3)) (F : FL own idx 11 35 ty) (k : Ev p l e R s m args below meth c cells slots Q D A nL (hm ad tc g h el u v sf) (pc + 3) lv (.int (u 35) :: rest)) : Ev p l e R s m args below meth c cells slots Q D A nL (hm ad tc g h el u v sf) pc lv (.ref (ad 0) :: rest) :=
  E_get C hd F 0 rfl rfl k
theorem mp_11_35 (C : Cx p R s m args c own cc nL D tc tt A d) {idx : Nat} {w : Int32} (hd : decode cc pc = .ok (.putfield idx, 3)) (F : FLw own idx 11 35 .int) (k : Ev p l e R s m args below meth c cells slots Q D A nL (hm ad tc g h el (va_up u 35 w) v sf) (pc + 3) lv rest) : Ev p l e R s m args below meth c cells slots Q D A nL (hm ad tc g h el u v sf) pc lv (.int w :: .ref (ad 0) :: rest) :=
  E_put C hd F 0 rfl rfl rfl (Nat.le_of_ble_eq_true rfl) rfl k
theorem mg_11_36 (C : Cx p R s m args c own cc nL D tc tt A d) {idx : Nat} {ty : FieldType} (hd : decode cc pc = .ok (.getfield idx, 3)) (F : FL own idx 11 36 ty) (k : Ev p l e R s m args below meth c cells slots Q D A nL (hm ad tc g h el u v sf) (pc + 3) lv (.int (u 36) :: rest)) : Ev p l e R s m args below meth c cells slots Q D A nL (hm ad tc g h el u v sf) pc lv (.ref (ad 0) :: rest) :=
  E_get C hd F 0 rfl rfl k
theorem mp_11_36 (C : Cx p R s m args c own cc nL D tc tt A d) {idx : Nat} {w : Int32} (hd : decode cc pc = .ok (.putfield idx, 3)) (F : FLw own idx 11 36 .int) (k : Ev p l e R s m args below meth c cells slots Q D A nL (hm ad tc g h el (va_up u 36 w) v sf) (pc + 3) lv rest) : Ev p l e R s m args below meth c cells slots Q D A nL (hm ad tc g h el u v sf) pc lv (.int w :: .ref (ad 0) :: rest) :=
  E_put C hd F 0 rfl rfl rfl (Nat.le_of_ble_eq_true rfl) rfl k
theorem mg_11_37 (C : Cx p R s m args c own cc nL D tc tt A d) {idx : Nat} {ty : FieldType} (hd : decode cc pc = .ok (.getfield idx, 3)) (F : FL own idx 11 37 ty) (k : Ev p l e R s m args below meth c cells slots Q D A nL (hm ad tc g h el u v sf) (pc + 3) lv (.ref (ad 20) :: rest)) : Ev p l e R s m args below meth c cells slots Q D A nL (hm ad tc g h el u v sf) pc lv (.ref (ad 0) :: rest) :=
  E_get C hd F 0 rfl rfl k
theorem mg_11_38 (C : Cx p R s m args c own cc nL D tc tt A d) {idx : Nat} {ty : FieldType} (hd : decode cc pc = .ok (.getfield idx, 3)) (F : FL own idx 11 38 ty) (k : Ev p l e R s m args below meth c cells slots Q D A nL (hm ad tc g h el u v sf) (pc + 3) lv (.ref (ad 21) :: rest)) : Ev p l e R s m args below meth c cells slots Q D A nL (hm ad tc g h el u v sf) pc lv (.ref (ad 0) :: rest) :=
  E_get C hd F 0 rfl rfl k
theorem mg_11_39 (C : Cx p R s m args c own cc nL D tc tt A d) {idx : Nat} {ty : FieldType} (hd : decode cc pc = .ok (.getfield idx, 3)) (F : FL own idx 11 39 ty) (k : Ev p l e R s m args below meth c cells slots Q D A nL (hm ad tc g h el u v sf) (pc + 3) lv (.ref (ad 22) :: rest)) : Ev p l e R s m args below meth c cells slots Q D A nL (hm ad tc g h el u v sf) pc lv (.ref (ad 0) :: rest) :=
  E_get C hd F 0 rfl rfl k
theorem mg_11_40 (C : Cx p R s m args c own cc nL D tc tt A d) {idx : Nat} {ty : FieldType} (hd : decode cc pc = .ok (.getfield idx, 3)) (F : FL own idx 11 40 ty) (k : Ev p l e R s m args below meth c cells slots Q D A nL (hm ad tc g h el u v sf) (pc + 3) lv (.ref (ad 23) :: rest)) : Ev p l e R s m args below meth c cells slots Q D A nL (hm ad tc g h el u v sf) pc lv (.ref (ad 0) :: rest) :=
  E_get C hd F 0 rfl rfl k
theorem mg_11_41 (C : Cx p R s m args c own cc nL D tc tt A d) {idx : Nat} {ty : FieldType} (hd : decode cc pc = .ok (.getfield idx, 3)) (F : FL own idx 11 41 ty) (k : Ev p l e R s m args below meth c cells slots Q D A nL (hm ad tc g h el u v sf) (pc + 3) lv (.int (u 41) :: rest)) : Ev p l e R s m args below meth c cells slots Q D A nL (hm ad tc g h el u v sf) pc lv (.ref (ad 0) :: rest) :=
  E_get C hd F 0 rfl rfl k
theorem mp_11_41 (C : Cx p R s m args c own cc nL D tc tt A d) {idx : Nat} {w : Int32} (hd : decode cc pc = .ok (.putfield idx, 3)) (F : FLw own idx 11 41 .int) (k : Ev p l e R s m args below meth c cells slots Q D A nL (hm ad tc g h el (va_up u 41 w) v sf) (pc + 3) lv rest) : Ev p l e R s m args below meth c cells slots Q D A nL (hm ad tc g h el u v sf) pc lv (.int w :: .ref (ad 0) :: rest) :=
  E_put C hd F 0 rfl rfl rfl (Nat.le_of_ble_eq_true rfl) rfl k
theorem mg_11_42 (C : Cx p R s m args c own cc nL D tc tt A d) {idx : Nat} {ty : FieldType} (hd : decode cc pc = .ok (.getfield idx, 3)) (F : FL own idx 11 42 ty) (k : Ev p l e R s m args below meth c cells slots Q D A nL (hm ad tc g h el u v sf) (pc + 3) lv (.ref (ad 24) :: rest)) : Ev p l e R s m args below meth c cells slots Q D A nL (hm ad tc g h el u v sf) pc lv (.ref (ad 0) :: rest) :=
  E_get C hd F 0 rfl rfl k
theorem mg_11_43 (C : Cx p R s m args c own cc nL D tc tt A d) {idx : Nat} {ty : FieldType} (hd : decode cc pc = .ok (.getfield idx, 3)) (F : FL own idx 11 43 ty) (k : Ev p l e R s m args below meth c cells slots Q D A nL (hm ad tc g h el u v sf) (pc + 3) lv (.ref (ad 25) :: rest)) : Ev p l e R s m args below meth c cells slots Q D A nL (hm ad tc g h el u v sf) pc lv (.ref (ad 0) :: rest) :=
  E_get C hd F 0 rfl rfl k
theorem mg_11_44 (C : Cx p R s m args c own cc nL D tc tt A d) {idx : Nat} {ty : FieldType} (hd : decode cc pc = .ok (.getfield idx, 3)) (F : FL own idx 11 44 ty) (k : Ev p l e R s m args below meth c cells slots Q D A nL (hm ad tc g h el u v sf) (pc + 3) lv (.int (g 44) :: rest)) : Ev p l e R s m args below meth c cells slots Q D A nL (hm ad tc g h el u v sf) pc lv (.ref (ad 0) :: rest) :=
  E_get C hd F 0 rfl rfl k
theorem mp_11_44 (C : Cx p R s m args c own cc nL D tc tt A d) {idx : Nat} {w : Int32} (hd : decode cc pc = .ok (.putfield idx, 3)) (F : FLw own idx 11 44 .boolean) (hn : narrow .boolean (.int w) = .int w) (hf : fits .boolean (.int w) = true) (k : Ev p l e R s m args below meth c cells slots Q D A nL (hm ad tc (va_up g 44 w) h el u v sf) (pc + 3) lv rest) : Ev p l e R s m args below meth c cells slots Q D A nL (hm ad tc g h el u v sf) pc lv (.int w :: .ref (ad 0) :: rest) :=
  E_put C hd F 0 rfl hn hf (Nat.le_of_ble_eq_true rfl) rfl k
theorem mg_11_45 (C : Cx p R s m args c own cc nL D tc tt A d) {idx : Nat} {ty : FieldType} (hd : decode cc pc = .ok (.getfield idx, 3)) (F : FL own idx 11 45 ty) (k : Ev p l e R s m args below meth c cells slots Q D A nL (hm ad tc g h el u v sf) (pc + 3) lv (.int (g 45) :: rest)) : Ev p l e R s m args below meth c cells slots Q D A nL (hm ad tc g h el u v sf) pc lv (.ref (ad 0) :: rest) :=
  E_get C hd F 0 rfl rfl k
theorem mp_11_45 (C : Cx p R s m args c own cc nL D tc tt A d) {idx : Nat} {w : Int32} (hd : decode cc pc = .ok (.putfield idx, 3)) (F : FLw own idx 11 45 .int) (k : Ev p l e R s m args below meth c cells slots Q D A nL (hm ad tc (va_up g 45 w) h el u v sf) (pc + 3) lv rest) : Ev p l e R s m args below meth c cells slots Q D A nL (hm ad tc g h el u v sf) pc lv (.int w :: .ref (ad 0) :: rest) :=
  E_put C hd F 0 rfl rfl rfl (Nat.le_of_ble_eq_true rfl) rfl k
theorem mg_11_46 (C : Cx p R s m args c own cc nL D tc tt A d) {idx : Nat} {ty : FieldType} (hd : decode cc pc = .ok (.getfield idx, 3)) (F : FL own idx 11 46 ty) (k : Ev p l e R s m args below meth c cells slots Q D A nL (hm ad tc g h el u v sf) (pc + 3) lv (.ref (ad 26) :: rest)) : Ev p l e R s m args below meth c cells slots Q D A nL (hm ad tc g h el u v sf) pc lv (.ref (ad 0) :: rest) :=
  E_get C hd F 0 rfl rfl k
theorem mg_11_47 (C : Cx p R s m args c own cc nL D tc tt A d) {idx : Nat} {ty : FieldType} (hd : decode cc pc = .ok (.getfield idx, 3)) (F : FL own idx 11 47 ty) (k : Ev p l e R s m args below meth c cells slots Q D A nL (hm ad tc g h el u v sf) (pc + 3) lv (.int (g 47) :: rest)) : Ev p l e R s m args below meth c cells slots Q D A nL (hm ad tc g h el u v sf) pc lv (.ref (ad 0) :: rest) :=
  E_get C hd F 0 rfl rfl k
theorem mp_11_47 (C : Cx p R s m args c own cc nL D tc tt A d) {idx : Nat} {w : Int32} (hd : decode cc pc = .ok (.putfield idx, 3)) (F : FLw own idx 11 47 .int) (k : Ev p l e R s m args below meth c cells slots Q D A nL (hm ad tc (va_up g 47 w) h el u v sf) (pc + 3) lv rest) : Ev p l e R s m args below meth c cells slots Q D A nL (hm ad tc g h el u v sf) pc lv (.int w :: .ref (ad 0) :: rest) :=
  E_put C hd F 0 rfl rfl rfl (Nat.le_of_ble_eq_true rfl) rfl k
theorem mg_11_48 (C : Cx p R s m args c own cc nL D tc tt A d) {idx : Nat} {ty : FieldType} (hd : decode cc pc = .ok (.getfield idx, 3)) (F : FL own idx 11 48 ty) (k : Ev p l e R s m args below meth c cells slots Q D A nL (hm ad tc g h el u v sf) (pc + 3) lv (.ref (ad 27) :: rest)) : Ev p l e R s m args below meth c cells slots Q D A nL (hm ad tc g h el u v sf) pc lv (.ref (ad 0) :: rest) :=
  E_get C hd F 0 rfl rfl k
theorem mg_11_49 (C : Cx p R s m args c own cc nL D tc tt A d) {idx : Nat} {ty : FieldType} (hd : decode cc pc = .ok (.getfield idx, 3)) (F : FL own idx 11 49 ty) (k : Ev p l e R s m args below meth c cells slots Q D A nL (hm ad tc g h el u v sf) (pc + 3) lv (.ref (ad 28) :: rest)) : Ev p l e R s m args below meth c cells slots Q D A nL (hm ad tc g h el u v sf) pc lv (.ref (ad 0) :: rest) :=
  E_get C hd F 0 rfl rfl k
theorem mg_11_50 (C : Cx p R s m args c own cc nL D tc tt A d) {idx : Nat} {ty : FieldType} (hd : decode cc pc = .ok (.getfield idx, 3)) (F : FL own idx 11 50 ty) (k : Ev p l e R s m args below meth c cells slots Q D A nL (hm ad tc g h el u v sf) (pc + 3) lv (.ref (ad 29) :: rest)) : Ev p l e R s m args below meth c cells slots Q D A nL (hm ad tc g h el u v sf) pc lv (.ref (ad 0) :: rest) :=
  E_get C hd F 0 rfl rfl k
theorem mg_11_51 (C : Cx p R s m args c own cc nL D tc tt A d) {idx : Nat} {ty : FieldType} (hd : decode cc pc = .ok (.getfield idx, 3)) (F : FL own idx 11 51 ty) (k : Ev p l e R s m args below meth c cells slots Q D A nL (hm ad tc g h el u v sf) (pc + 3) lv (.ref (ad 30) :: rest)) : Ev p l e R s m args below meth c cells slots Q D A nL (hm ad tc g h el u v sf) pc lv (.ref (ad 0) :: rest) :=
  E_get C hd F 0 rfl rfl k
theorem mg_11_52 (C : Cx p R s m args c own cc nL D tc tt A d) {idx : Nat} {ty : FieldType} (hd : decode cc pc = .ok (.getfield idx, 3)) (F : FL own idx 11 52 ty) (k : Ev p l e R s m args below meth c cells slots Q D A nL (hm ad tc g h el u v sf) (pc + 3) lv (.ref (ad 31) :: rest)) : Ev p l e R s m args below meth c cells slots Q D A nL (hm ad tc g h el u v sf) pc lv (.ref (ad 0) :: rest) :=
  E_get C hd F 0 rfl rfl k
theorem ma_1 (C : Cx p R s m args c own cc nL D tc tt A d) {i : Int32} (hd : decode cc pc = .ok (.iaload, 1)) (hin : vp_in i 8) (k : Ev p l e R s m args below meth c cells slots Q D A nL (hm ad tc g h el u v sf) (pc + 1) lv (.int (h 2 i.toNatClampNeg) :: rest)) : Ev p l e R s m args below meth c cells slots Q D A nL (hm ad tc g h el u v sf) pc lv (.int i :: .ref (ad 1) :: rest) :=
  E_iald C hd 1 rfl hin k
theorem ms_1 (C : Cx p R s m args c own cc nL D tc tt A d) {i : Int32} {w : Int32} (hd : decode cc pc = .ok (.iastore, 1)) (hin : vp_in i 8) (k : Ev p l e R s m args below meth c cells slots Q D A nL (hm ad tc g (va_up h 2 (upd (h 2) i.toNatClampNeg w)) el u v sf) (pc + 1) lv rest) : Ev p l e R s m args below meth c cells slots Q D A nL (hm ad tc g h el u v sf) pc lv (.int w :: .int i :: .ref (ad 1) :: rest) :=
  E_iast C hd 1 rfl hin rfl k
theorem mn_1 (C : Cx p R s m args c own cc nL D tc tt A d) (hd : decode cc pc = .ok (.arraylength, 1)) (k : Ev p l e R s m args below meth c cells slots Q D A nL (hm ad tc g h el u v sf) (pc + 1) lv (.int 8 :: rest)) : Ev p l e R s m args below meth c cells slots Q D A nL (hm ad tc g h el u v sf) pc lv (.ref (ad 1) :: rest) :=
  E_alen C hd 1 0 rfl rfl rfl k
theorem ma_2 (C : Cx p R s m args c own cc nL D tc tt A d) {i : Int32} (hd : decode cc pc = .ok (.iaload, 1)) (hin : vp_in i 8) (k : Ev p l e R s m args below meth c cells slots Q D A nL (hm ad tc g h el u v sf) (pc + 1) lv (.int (h 3 i.toNatClampNeg) :: rest)) : Ev p l e R s m args below meth c cells slots Q D A nL (hm ad tc g h el u v sf) pc lv (.int i :: .ref (ad 2) :: rest) :=
  E_iald C hd 2 rfl hin k
theorem ms_2 (C : Cx p R s m args c own cc nL D tc tt A d) {i : Int32} {w : Int32} (hd : decode cc pc = .ok (.iastore, 1)) (hin : vp_in i 8) (k : Ev p l e R s m args below meth c cells slots Q D A nL (hm ad tc g (va_up h 3 (upd (h 3) i.toNatClampNeg w)) el u v sf) (pc + 1) lv rest) : Ev p l e R s m args below meth c cells slots Q D A nL (hm ad tc g h el u v sf) pc lv (.int w :: .int i :: .ref (ad 2) :: rest) :=
  E_iast C hd 2 rfl hin rfl k
theorem mn_2 (C : Cx p R s m args c own cc nL D tc tt A d) (hd : decode cc pc = .ok (.arraylength, 1)) (k : Ev p l e R s m args below meth c cells slots Q D A nL (hm ad tc g h el u v sf) (pc + 1) lv (.int 8 :: rest)) : Ev p l e R s m args below meth c cells slots Q D A nL (hm ad tc g h el u v sf) pc lv (.ref (ad 2) :: rest) :=
  E_alen C hd 2 0 rfl rfl rfl k
theorem ma_3 (C : Cx p R s m args c own cc nL D tc tt A d) {i : Int32} (hd : decode cc pc = .ok (.iaload, 1)) (hin : vp_in i 8) (k : Ev p l e R s m args below meth c cells slots Q D A nL (hm ad tc g h el u v sf) (pc + 1) lv (.int (h 4 i.toNatClampNeg) :: rest)) : Ev p l e R s m args below meth c cells slots Q D A nL (hm ad tc g h el u v sf) pc lv (.int i :: .ref (ad 3) :: rest) :=
  E_iald C hd 3 rfl hin k
theorem ms_3 (C : Cx p R s m args c own cc nL D tc tt A d) {i : Int32} {w : Int32} (hd : decode cc pc = .ok (.iastore, 1)) (hin : vp_in i 8) (k : Ev p l e R s m args below meth c cells slots Q D A nL (hm ad tc g (va_up h 4 (upd (h 4) i.toNatClampNeg w)) el u v sf) (pc + 1) lv rest) : Ev p l e R s m args below meth c cells slots Q D A nL (hm ad tc g h el u v sf) pc lv (.int w :: .int i :: .ref (ad 3) :: rest) :=
  E_iast C hd 3 rfl hin rfl k
theorem mn_3 (C : Cx p R s m args c own cc nL D tc tt A d) (hd : decode cc pc = .ok (.arraylength, 1)) (k : Ev p l e R s m args below meth c cells slots Q D A nL (hm ad tc g h el u v sf) (pc + 1) lv (.int 8 :: rest)) : Ev p l e R s m args below meth c cells slots Q D A nL (hm ad tc g h el u v sf) pc lv (.ref (ad 3) :: rest) :=
  E_alen C hd 3 0 rfl rfl rfl k
theorem ma_4 (C : Cx p R s m args c own cc nL D tc tt A d) {i : Int32} (hd : decode cc pc = .ok (.iaload, 1)) (hin : vp_in i 8) (k : Ev p l e R s m args below meth c cells slots Q D A nL (hm ad tc g h el u v sf) (pc + 1) lv (.int (h 5 i.toNatClampNeg) :: rest)) : Ev p l e R s m args below meth c cells slots Q D A nL (hm ad tc g h el u v sf) pc lv (.int i :: .ref (ad 4) :: rest) :=
  E_iald C hd 4 rfl hin k
theorem ms_4 (C : Cx p R s m args c own cc nL D tc tt A d) {i : Int32} {w : Int32} (hd : decode cc pc = .ok (.iastore, 1)) (hin : vp_in i 8) (k : Ev p l e R s m args below meth c cells slots Q D A nL (hm ad tc g (va_up h 5 (upd (h 5) i.toNatClampNeg w)) el u v sf) (pc + 1) lv rest) : Ev p l e R s m args below meth c cells slots Q D A nL (hm ad tc g h el u v sf) pc lv (.int w :: .int i :: .ref (ad 4) :: rest) :=
  E_iast C hd 4 rfl hin rfl k
theorem mn_4 (C : Cx p R s m args c own cc nL D tc tt A d) (hd : decode cc pc = .ok (.arraylength, 1)) (k : Ev p l e R s m args below meth c cells slots Q D A nL (hm ad tc g h el u v sf) (pc + 1) lv (.int 8 :: rest)) : Ev p l e R s m args below meth c cells slots Q D A nL (hm ad tc g h el u v sf) pc lv (.ref (ad 4) :: rest) :=
  E_alen C hd 4 0 rfl rfl rfl k
theorem ma_5 (C : Cx p R s m args c own cc nL D tc tt A d) {i : Int32} (hd : decode cc pc = .ok (.iaload, 1)) (hin : vp_in i 8) (k : Ev p l e R s m args below meth c cells slots Q D A nL (hm ad tc g h el u v sf) (pc + 1) lv (.int (h 6 i.toNatClampNeg) :: rest)) : Ev p l e R s m args below meth c cells slots Q D A nL (hm ad tc g h el u v sf) pc lv (.int i :: .ref (ad 5) :: rest) :=
  E_iald C hd 5 rfl hin k
theorem ms_5 (C : Cx p R s m args c own cc nL D tc tt A d) {i : Int32} {w : Int32} (hd : decode cc pc = .ok (.iastore, 1)) (hin : vp_in i 8) (k : Ev p l e R s m args below meth c cells slots Q D A nL (hm ad tc g (va_up h 6 (upd (h 6) i.toNatClampNeg w)) el u v sf) (pc + 1) lv rest) : Ev p l e R s m args below meth c cells slots Q D A nL (hm ad tc g h el u v sf) pc lv (.int w :: .int i :: .ref (ad 5) :: rest) :=
  E_iast C hd 5 rfl hin rfl k
theorem mn_5 (C : Cx p R s m args c own cc nL D tc tt A d) (hd : decode cc pc = .ok (.arraylength, 1)) (k : Ev p l e R s m args below meth c cells slots Q D A nL (hm ad tc g h el u v sf) (pc + 1) lv (.int 8 :: rest)) : Ev p l e R s m args below meth c cells slots Q D A nL (hm ad tc g h el u v sf) pc lv (.ref (ad 5) :: rest) :=
  E_alen C hd 5 0 rfl rfl rfl k
theorem ma_6 (C : Cx p R s m args c own cc nL D tc tt A d) {i : Int32} (hd : decode cc pc = .ok (.iaload, 1)) (hin : vp_in i 6) (k : Ev p l e R s m args below meth c cells slots Q D A nL (hm ad tc g h el u v sf) (pc + 1) lv (.int (h 7 i.toNatClampNeg) :: rest)) : Ev p l e R s m args below meth c cells slots Q D A nL (hm ad tc g h el u v sf) pc lv (.int i :: .ref (ad 6) :: rest) :=
  E_iald C hd 6 rfl hin k
theorem ms_6 (C : Cx p R s m args c own cc nL D tc tt A d) {i : Int32} {w : Int32} (hd : decode cc pc = .ok (.iastore, 1)) (hin : vp_in i 6) (k : Ev p l e R s m args below meth c cells slots Q D A nL (hm ad tc g (va_up h 7 (upd (h 7) i.toNatClampNeg w)) el u v sf) (pc + 1) lv rest) : Ev p l e R s m args below meth c cells slots Q D A nL (hm ad tc g h el u v sf) pc lv (.int w :: .int i :: .ref (ad 6) :: rest) :=
  E_iast C hd 6 rfl hin rfl k
theorem mn_6 (C : Cx p R s m args c own cc nL D tc tt A d) (hd : decode cc pc = .ok (.arraylength, 1)) (k : Ev p l e R s m args below meth c cells slots Q D A nL (hm ad tc g h el u v sf) (pc + 1) lv (.int 6 :: rest)) : Ev p l e R s m args below meth c cells slots Q D A nL (hm ad tc g h el u v sf) pc lv (.ref (ad 6) :: rest) :=
  E_alen C hd 6 0 rfl rfl rfl k
theorem ma_7 (C : Cx p R s m args c own cc nL D tc tt A d) {i : Int32} (hd : decode cc pc = .ok (.iaload, 1)) (hin : vp_in i 6) (k : Ev p l e R s m args below meth c cells slots Q D A nL (hm ad tc g h el u v sf) (pc + 1) lv (.int (h 8 i.toNatClampNeg) :: rest)) : Ev p l e R s m args below meth c cells slots Q D A nL (hm ad tc g h el u v sf) pc lv (.int i :: .ref (ad 7) :: rest) :=
  E_iald C hd 7 rfl hin k
theorem ms_7 (C : Cx p R s m args c own cc nL D tc tt A d) {i : Int32} {w : Int32} (hd : decode cc pc = .ok (.iastore, 1)) (hin : vp_in i 6) (k : Ev p l e R s m args below meth c cells slots Q D A nL (hm ad tc g (va_up h 8 (upd (h 8) i.toNatClampNeg w)) el u v sf) (pc + 1) lv rest) : Ev p l e R s m args below meth c cells slots Q D A nL (hm ad tc g h el u v sf) pc lv (.int w :: .int i :: .ref (ad 7) :: rest) :=
  E_iast C hd 7 rfl hin rfl k
theorem mn_7 (C : Cx p R s m args c own cc nL D tc tt A d) (hd : decode cc pc = .ok (.arraylength, 1)) (k : Ev p l e R s m args below meth c cells slots Q D A nL (hm ad tc g h el u v sf) (pc + 1) lv (.int 6 :: rest)) : Ev p l e R s m args below meth c cells slots Q D A nL (hm ad tc g h el u v sf) pc lv (.ref (ad 7) :: rest) :=
  E_alen C hd 7 0 rfl rfl rfl k
theorem ma_8 (C : Cx p R s m args c own cc nL D tc tt A d) {i : Int32} (hd : decode cc pc = .ok (.iaload, 1)) (hin : vp_in i 40) (k : Ev p l e R s m args below meth c cells slots Q D A nL (hm ad tc g h el u v sf) (pc + 1) lv (.int (h 12 i.toNatClampNeg) :: rest)) : Ev p l e R s m args below meth c cells slots Q D A nL (hm ad tc g h el u v sf) pc lv (.int i :: .ref (ad 8) :: rest) :=
  E_iald C hd 8 rfl hin k
theorem ms_8 (C : Cx p R s m args c own cc nL D tc tt A d) {i : Int32} {w : Int32} (hd : decode cc pc = .ok (.iastore, 1)) (hin : vp_in i 40) (k : Ev p l e R s m args below meth c cells slots Q D A nL (hm ad tc g (va_up h 12 (upd (h 12) i.toNatClampNeg w)) el u v sf) (pc + 1) lv rest) : Ev p l e R s m args below meth c cells slots Q D A nL (hm ad tc g h el u v sf) pc lv (.int w :: .int i :: .ref (ad 8) :: rest) :=
  E_iast C hd 8 rfl hin rfl k
theorem mn_8 (C : Cx p R s m args c own cc nL D tc tt A d) (hd : decode cc pc = .ok (.arraylength, 1)) (k : Ev p l e R s m args below meth c cells slots Q D A nL (hm ad tc g h el u v sf) (pc + 1) lv (.int 40 :: rest)) : Ev p l e R s m args below meth c cells slots Q D A nL (hm ad tc g h el u v sf) pc lv (.ref (ad 8) :: rest) :=
  E_alen C hd 8 0 rfl rfl rfl k
theorem ma_9 (C : Cx p R s m args c own cc nL D tc tt A d) {i : Int32} (hd : decode cc pc = .ok (.iaload, 1)) (hin : vp_in i 40) (k : Ev p l e R s m args below meth c cells slots Q D A nL (hm ad tc g h el u v sf) (pc + 1) lv (.int (h 13 i.toNatClampNeg) :: rest)) : Ev p l e R s m args below meth c cells slots Q D A nL (hm ad tc g h el u v sf) pc lv (.int i :: .ref (ad 9) :: rest) :=
  E_iald C hd 9 rfl hin k
theorem ms_9 (C : Cx p R s m args c own cc nL D tc tt A d) {i : Int32} {w : Int32} (hd : decode cc pc = .ok (.iastore, 1)) (hin : vp_in i 40) (k : Ev p l e R s m args below meth c cells slots Q D A nL (hm ad tc g (va_up h 13 (upd (h 13) i.toNatClampNeg w)) el u v sf) (pc + 1) lv rest) : Ev p l e R s m args below meth c cells slots Q D A nL (hm ad tc g h el u v sf) pc lv (.int w :: .int i :: .ref (ad 9) :: rest) :=
  E_iast C hd 9 rfl hin rfl k
theorem mn_9 (C : Cx p R s m args c own cc nL D tc tt A d) (hd : decode cc pc = .ok (.arraylength, 1)) (k : Ev p l e R s m args below meth c cells slots Q D A nL (hm ad tc g h el u v sf) (pc + 1) lv (.int 40 :: rest)) : Ev p l e R s m args below meth c cells slots Q D A nL (hm ad tc g h el u v sf) pc lv (.ref (ad 9) :: rest) :=
  E_alen C hd 9 0 rfl rfl rfl k
theorem ma_10 (C : Cx p R s m args c own cc nL D tc tt A d) {i : Int32} (hd : decode cc pc = .ok (.iaload, 1)) (hin : vp_in i 40) (k : Ev p l e R s m args below meth c cells slots Q D A nL (hm ad tc g h el u v sf) (pc + 1) lv (.int (h 14 i.toNatClampNeg) :: rest)) : Ev p l e R s m args below meth c cells slots Q D A nL (hm ad tc g h el u v sf) pc lv (.int i :: .ref (ad 10) :: rest) :=
  E_iald C hd 10 rfl hin k
theorem ms_10 (C : Cx p R s m args c own cc nL D tc tt A d) {i : Int32} {w : Int32} (hd : decode cc pc = .ok (.iastore, 1)) (hin : vp_in i 40) (k : Ev p l e R s m args below meth c cells slots Q D A nL (hm ad tc g (va_up h 14 (upd (h 14) i.toNatClampNeg w)) el u v sf) (pc + 1) lv rest) : Ev p l e R s m args below meth c cells slots Q D A nL (hm ad tc g h el u v sf) pc lv (.int w :: .int i :: .ref (ad 10) :: rest) :=
  E_iast C hd 10 rfl hin rfl k
theorem mn_10 (C : Cx p R s m args c own cc nL D tc tt A d) (hd : decode cc pc = .ok (.arraylength, 1)) (k : Ev p l e R s m args below meth c cells slots Q D A nL (hm ad tc g h el u v sf) (pc + 1) lv (.int 40 :: rest)) : Ev p l e R s m args below meth c cells slots Q D A nL (hm ad tc g h el u v sf) pc lv (.ref (ad 10) :: rest) :=
  E_alen C hd 10 0 rfl rfl rfl k
theorem ma_11 (C : Cx p R s m args c own cc nL D tc tt A d) {i : Int32} (hd : decode cc pc = .ok (.iaload, 1)) (hin : vp_in i 40) (k : Ev p l e R s m args below meth c cells slots Q D A nL (hm ad tc g h el u v sf) (pc + 1) lv (.int (h 15 i.toNatClampNeg) :: rest)) : Ev p l e R s m args below meth c cells slots Q D A nL (hm ad tc g h el u v sf) pc lv (.int i :: .ref (ad 11) :: rest) :=
  E_iald C hd 11 rfl hin k
theorem ms_11 (C : Cx p R s m args c own cc nL D tc tt A d) {i : Int32} {w : Int32} (hd : decode cc pc = .ok (.iastore, 1)) (hin : vp_in i 40) (k : Ev p l e R s m args below meth c cells slots Q D A nL (hm ad tc g (va_up h 15 (upd (h 15) i.toNatClampNeg w)) el u v sf) (pc + 1) lv rest) : Ev p l e R s m args below meth c cells slots Q D A nL (hm ad tc g h el u v sf) pc lv (.int w :: .int i :: .ref (ad 11) :: rest) :=
  E_iast C hd 11 rfl hin rfl k
theorem mn_11 (C : Cx p R s m args c own cc nL D tc tt A d) (hd : decode cc pc = .ok (.arraylength, 1)) (k : Ev p l e R s m args below meth c cells slots Q D A nL (hm ad tc g h el u v sf) (pc + 1) lv (.int 40 :: rest)) : Ev p l e R s m args below meth c cells slots Q D A nL (hm ad tc g h el u v sf) pc lv (.ref (ad 11) :: rest) :=
  E_alen C hd 11 0 rfl rfl rfl k
theorem ma_12 (C : Cx p R s m args c own cc nL D tc tt A d) {i : Int32} (hd : decode cc pc = .ok (.baload, 1)) (hin : vp_in i 120) (k : Ev p l e R s m args below meth c cells slots Q D A nL (hm ad tc g h el u v sf) (pc + 1) lv (.int (h 16 i.toNatClampNeg) :: rest)) : Ev p l e R s m args below meth c cells slots Q D A nL (hm ad tc g h el u v sf) pc lv (.int i :: .ref (ad 12) :: rest) :=
  E_bald C hd 12 rfl hin k
theorem ms_12 (C : Cx p R s m args c own cc nL D tc tt A d) {i : Int32} {w : Int32} (hd : decode cc pc = .ok (.bastore, 1)) (hin : vp_in i 120) (k : Ev p l e R s m args below meth c cells slots Q D A nL (hm ad tc g (va_up h 16 (upd (h 16) i.toNatClampNeg (vp_nar .byte w))) el u v sf) (pc + 1) lv rest) : Ev p l e R s m args below meth c cells slots Q D A nL (hm ad tc g h el u v sf) pc lv (.int w :: .int i :: .ref (ad 12) :: rest) :=
  E_bast C hd 12 rfl hin rfl k
theorem mn_12 (C : Cx p R s m args c own cc nL D tc tt A d) (hd : decode cc pc = .ok (.arraylength, 1)) (k : Ev p l e R s m args below meth c cells slots Q D A nL (hm ad tc g h el u v sf) (pc + 1) lv (.int 120 :: rest)) : Ev p l e R s m args below meth c cells slots Q D A nL (hm ad tc g h el u v sf) pc lv (.ref (ad 12) :: rest) :=
  E_alen C hd 12 2 rfl rfl rfl k
theorem ma_13 (C : Cx p R s m args c own cc nL D tc tt A d) {i : Int32} (hd : decode cc pc = .ok (.baload, 1)) (hin : vp_in i 260) (k : Ev p l e R s m args below meth c cells slots Q D A nL (hm ad tc g h el u v sf) (pc + 1) lv (.int (h 22 i.toNatClampNeg) :: rest)) : Ev p l e R s m args below meth c cells slots Q D A nL (hm ad tc g h el u v sf) pc lv (.int i :: .ref (ad 13) :: rest) :=
  E_bald C hd 13 rfl hin k
theorem ms_13 (C : Cx p R s m args c own cc nL D tc tt A d) {i : Int32} {w : Int32} (hd : decode cc pc = .ok (.bastore, 1)) (hin : vp_in i 260) (k : Ev p l e R s m args below meth c cells slots Q D A nL (hm ad tc g (va_up h 22 (upd (h 22) i.toNatClampNeg (vp_nar .byte w))) el u v sf) (pc + 1) lv rest) : Ev p l e R s m args below meth c cells slots Q D A nL (hm ad tc g h el u v sf) pc lv (.int w :: .int i :: .ref (ad 13) :: rest) :=
  E_bast C hd 13 rfl hin rfl k
theorem mn_13 (C : Cx p R s m args c own cc nL D tc tt A d) (hd : decode cc pc = .ok (.arraylength, 1)) (k : Ev p l e R s m args below meth c cells slots Q D A nL (hm ad tc g h el u v sf) (pc + 1) lv (.int 260 :: rest)) : Ev p l e R s m args below meth c cells slots Q D A nL (hm ad tc g h el u v sf) pc lv (.ref (ad 13) :: rest) :=
  E_alen C hd 13 2 rfl rfl rfl k
theorem ma_14 (C : Cx p R s m args c own cc nL D tc tt A d) {i : Int32} (hd : decode cc pc = .ok (.iaload, 1)) (hin : vp_in i 260) (k : Ev p l e R s m args below meth c cells slots Q D A nL (hm ad tc g h el u v sf) (pc + 1) lv (.int (h 23 i.toNatClampNeg) :: rest)) : Ev p l e R s m args below meth c cells slots Q D A nL (hm ad tc g h el u v sf) pc lv (.int i :: .ref (ad 14) :: rest) :=
  E_iald C hd 14 rfl hin k
theorem ms_14 (C : Cx p R s m args c own cc nL D tc tt A d) {i : Int32} {w : Int32} (hd : decode cc pc = .ok (.iastore, 1)) (hin : vp_in i 260) (k : Ev p l e R s m args below meth c cells slots Q D A nL (hm ad tc g (va_up h 23 (upd (h 23) i.toNatClampNeg w)) el u v sf) (pc + 1) lv rest) : Ev p l e R s m args below meth c cells slots Q D A nL (hm ad tc g h el u v sf) pc lv (.int w :: .int i :: .ref (ad 14) :: rest) :=
  E_iast C hd 14 rfl hin rfl k
theorem mn_14 (C : Cx p R s m args c own cc nL D tc tt A d) (hd : decode cc pc = .ok (.arraylength, 1)) (k : Ev p l e R s m args below meth c cells slots Q D A nL (hm ad tc g h el u v sf) (pc + 1) lv (.int 260 :: rest)) : Ev p l e R s m args below meth c cells slots Q D A nL (hm ad tc g h el u v sf) pc lv (.ref (ad 14) :: rest) :=
  E_alen C hd 14 0 rfl rfl rfl k
theorem ma_15 (C : Cx p R s m args c own cc nL D tc tt A d) {i : Int32} (hd : decode cc pc = .ok (.iaload, 1)) (hin : vp_in i 2) (k : Ev p l e R s m args below meth c cells slots Q D A nL (hm ad tc g h el u v sf) (pc + 1) lv (.int (h 24 i.toNatClampNeg) :: rest)) : Ev p l e R s m args below meth c cells slots Q D A nL (hm ad tc g h el u v sf) pc lv (.int i :: .ref (ad 15) :: rest) :=
  E_iald C hd 15 rfl hin k
theorem ms_15 (C : Cx p R s m args c own cc nL D tc tt A d) {i : Int32} {w : Int32} (hd : decode cc pc = .ok (.iastore, 1)) (hin : vp_in i 2) (k : Ev p l e R s m args below meth c cells slots Q D A nL (hm ad tc g (va_up h 24 (upd (h 24) i.toNatClampNeg w)) el u v sf) (pc + 1) lv rest) : Ev p l e R s m args below meth c cells slots Q D A nL (hm ad tc g h el u v sf) pc lv (.int w :: .int i :: .ref (ad 15) :: rest) :=
  E_iast C hd 15 rfl hin rfl k
theorem mn_15 (C : Cx p R s m args c own cc nL D tc tt A d) (hd : decode cc pc = .ok (.arraylength, 1)) (k : Ev p l e R s m args below meth c cells slots Q D A nL (hm ad tc g h el u v sf) (pc + 1) lv (.int 2 :: rest)) : Ev p l e R s m args below meth c cells slots Q D A nL (hm ad tc g h el u v sf) pc lv (.ref (ad 15) :: rest) :=
  E_alen C hd 15 0 rfl rfl rfl k
theorem ma_16 (C : Cx p R s m args c own cc nL D tc tt A d) {i : Int32} (hd : decode cc pc = .ok (.saload, 1)) (hin : vp_in i 122) (k : Ev p l e R s m args below meth c cells slots Q D A nL (hm ad tc g h el u v sf) (pc + 1) lv (.int (h 25 i.toNatClampNeg) :: rest)) : Ev p l e R s m args below meth c cells slots Q D A nL (hm ad tc g h el u v sf) pc lv (.int i :: .ref (ad 16) :: rest) :=
  E_sald C hd 16 rfl hin k
theorem ms_16 (C : Cx p R s m args c own cc nL D tc tt A d) {i : Int32} {w : Int32} (hd : decode cc pc = .ok (.sastore, 1)) (hin : vp_in i 122) (k : Ev p l e R s m args below meth c cells slots Q D A nL (hm ad tc g (va_up h 25 (upd (h 25) i.toNatClampNeg (vp_nar .short w))) el u v sf) (pc + 1) lv rest) : Ev p l e R s m args below meth c cells slots Q D A nL (hm ad tc g h el u v sf) pc lv (.int w :: .int i :: .ref (ad 16) :: rest) :=
  E_sast C hd 16 rfl hin rfl k
theorem mn_16 (C : Cx p R s m args c own cc nL D tc tt A d) (hd : decode cc pc = .ok (.arraylength, 1)) (k : Ev p l e R s m args below meth c cells slots Q D A nL (hm ad tc g h el u v sf) (pc + 1) lv (.int 122 :: rest)) : Ev p l e R s m args below meth c cells slots Q D A nL (hm ad tc g h el u v sf) pc lv (.ref (ad 16) :: rest) :=
  E_alen C hd 16 3 rfl rfl rfl k
theorem ma_17 (C : Cx p R s m args c own cc nL D tc tt A d) {i : Int32} (hd : decode cc pc = .ok (.saload, 1)) (hin : vp_in i 122) (k : Ev p l e R s m args below meth c cells slots Q D A nL (hm ad tc g h el u v sf) (pc + 1) lv (.int (h 26 i.toNatClampNeg) :: rest)) : Ev p l e R s m args below meth c cells slots Q D A nL (hm ad tc g h el u v sf) pc lv (.int i :: .ref (ad 17) :: rest) :=
  E_sald C hd 17 rfl hin k
theorem ms_17 (C : Cx p R s m args c own cc nL D tc tt A d) {i : Int32} {w : Int32} (hd : decode cc pc = .ok (.sastore, 1)) (hin : vp_in i 122) (k : Ev p l e R s m args below meth c cells slots Q D A nL (hm ad tc g (va_up h 26 (upd (h 26) i.toNatClampNeg (vp_nar .short w))) el u v sf) (pc + 1) lv rest) : Ev p l e R s m args below meth c cells slots Q D A nL (hm ad tc g h el u v sf) pc lv (.int w :: .int i :: .ref (ad 17) :: rest) :=
  E_sast C hd 17 rfl hin rfl k
theorem mn_17 (C : Cx p R s m args c own cc nL D tc tt A d) (hd : decode cc pc = .ok (.arraylength, 1)) (k : Ev p l e R s m args below meth c cells slots Q D A nL (hm ad tc g h el u v sf) (pc + 1) lv (.int 122 :: rest)) : Ev p l e R s m args below meth c cells slots Q D A nL (hm ad tc g h el u v sf) pc lv (.ref (ad 17) :: rest) :=
  E_alen C hd 17 3 rfl rfl rfl k
theorem ma_18 (C : Cx p R s m args c own cc nL D tc tt A d) {i : Int32} (hd : decode cc pc = .ok (.iaload, 1)) (hin : vp_in i 5) (k : Ev p l e R s m args below meth c cells slots Q D A nL (hm ad tc g h el u v sf) (pc + 1) lv (.int (v 27 i.toNatClampNeg) :: rest)) : Ev p l e R s m args below meth c cells slots Q D A nL (hm ad tc g h el u v sf) pc lv (.int i :: .ref (ad 18) :: rest) :=
  E_iald C hd 18 rfl hin k
theorem ms_18 (C : Cx p R s m args c own cc nL D tc tt A d) {i : Int32} {w : Int32} (hd : decode cc pc = .ok (.iastore, 1)) (hin : vp_in i 5) (k : Ev p l e R s m args below meth c cells slots Q D A nL (hm ad tc g h el u (va_up v 27 (upd (v 27) i.toNatClampNeg w)) sf) (pc + 1) lv rest) : Ev p l e R s m args below meth c cells slots Q D A nL (hm ad tc g h el u v sf) pc lv (.int w :: .int i :: .ref (ad 18) :: rest) :=
  E_iast C hd 18 rfl hin rfl k
theorem mn_18 (C : Cx p R s m args c own cc nL D tc tt A d) (hd : decode cc pc = .ok (.arraylength, 1)) (k : Ev p l e R s m args below meth c cells slots Q D A nL (hm ad tc g h el u v sf) (pc + 1) lv (.int 5 :: rest)) : Ev p l e R s m args below meth c cells slots Q D A nL (hm ad tc g h el u v sf) pc lv (.ref (ad 18) :: rest) :=
  E_alen C hd 18 0 rfl rfl rfl k
theorem ma_19 (C : Cx p R s m args c own cc nL D tc tt A d) {i : Int32} (hd : decode cc pc = .ok (.iaload, 1)) (hin : vp_in i 130) (k : Ev p l e R s m args below meth c cells slots Q D A nL (hm ad tc g h el u v sf) (pc + 1) lv (.int (v 28 i.toNatClampNeg) :: rest)) : Ev p l e R s m args below meth c cells slots Q D A nL (hm ad tc g h el u v sf) pc lv (.int i :: .ref (ad 19) :: rest) :=
  E_iald C hd 19 rfl hin k
theorem ms_19 (C : Cx p R s m args c own cc nL D tc tt A d) {i : Int32} {w : Int32} (hd : decode cc pc = .ok (.iastore, 1)) (hin : vp_in i 130) (k : Ev p l e R s m args below meth c cells slots Q D A nL (hm ad tc g h el u (va_up v 28 (upd (v 28) i.toNatClampNeg w)) sf) (pc + 1) lv rest) : Ev p l e R s m args below meth c cells slots Q D A nL (hm ad tc g h el u v sf) pc lv (.int w :: .int i :: .ref (ad 19) :: rest) :=
  E_iast C hd 19 rfl hin rfl k
theorem mn_19 (C : Cx p R s m args c own cc nL D tc tt A d) (hd : decode cc pc = .ok (.arraylength, 1)) (k : Ev p l e R s m args below meth c cells slots Q D A nL (hm ad tc g h el u v sf) (pc + 1) lv (.int 130 :: rest)) : Ev p l e R s m args below meth c cells slots Q D A nL (hm ad tc g h el u v sf) pc lv (.ref (ad 19) :: rest) :=
  E_alen C hd 19 0 rfl rfl rfl k
theorem ma_20 (C : Cx p R s m args c own cc nL D tc tt A d) {i : Int32} (hd : decode cc pc = .ok (.iaload, 1)) (hin : vp_in i 8) (k : Ev p l e R s m args below meth c cells slots Q D A nL (hm ad tc g h el u v sf) (pc + 1) lv (.int (v 37 i.toNatClampNeg) :: rest)) : Ev p l e R s m args below meth c cells slots Q D A nL (hm ad tc g h el u v sf) pc lv (.int i :: .ref (ad 20) :: rest) :=
  E_iald C hd 20 rfl hin k
theorem ms_20 (C : Cx p R s m args c own cc nL D tc tt A d) {i : Int32} {w : Int32} (hd : decode cc pc = .ok (.iastore, 1)) (hin : vp_in i 8) (k : Ev p l e R s m args below meth c cells slots Q D A nL (hm ad tc g h el u (va_up v 37 (upd (v 37) i.toNatClampNeg w)) sf) (pc + 1) lv rest) : Ev p l e R s m args below meth c cells slots Q D A nL (hm ad tc g h el u v sf) pc lv (.int w :: .int i :: .ref (ad 20) :: rest) :=
  E_iast C hd 20 rfl hin rfl k
theorem mn_20 (C : Cx p R s m args c own cc nL D tc tt A d) (hd : decode cc pc = .ok (.arraylength, 1)) (k : Ev p l e R s m args below meth c cells slots Q D A nL (hm ad tc g h el u v sf) (pc + 1) lv (.int 8 :: rest)) : Ev p l e R s m args below meth c cells slots Q D A nL (hm ad tc g h el u v sf) pc lv (.ref (ad 20) :: rest) :=
  E_alen C hd 20 0 rfl rfl rfl k
theorem ma_21 (C : Cx p R s m args c own cc nL D tc tt A d) {i : Int32} (hd : decode cc pc = .ok (.iaload, 1)) (hin : vp_in i 8) (k : Ev p l e R s m args below meth c cells slots Q D A nL (hm ad tc g h el u v sf) (pc + 1) lv (.int (v 38 i.toNatClampNeg) :: rest)) : Ev p l e R s m args below meth c cells slots Q D A nL (hm ad tc g h el u v sf) pc lv (.int i :: .ref (ad 21) :: rest) :=
  E_iald C hd 21 rfl hin k
theorem ms_21 (C : Cx p R s m args c own cc nL D tc tt A d) {i : Int32} {w : Int32} (hd : decode cc pc = .ok (.iastore, 1)) (hin : vp_in i 8) (k : Ev p l e R s m args below meth c cells slots Q D A nL (hm ad tc g h el u (va_up v 38 (upd (v 38) i.toNatClampNeg w)) sf) (pc + 1) lv rest) : Ev p l e R s m args below meth c cells slots Q D A nL (hm ad tc g h el u v sf) pc lv (.int w :: .int i :: .ref (ad 21) :: rest) :=
  E_iast C hd 21 rfl hin rfl k
theorem mn_21 (C : Cx p R s m args c own cc nL D tc tt A d) (hd : decode cc pc = .ok (.arraylength, 1)) (k : Ev p l e R s m args below meth c cells slots Q D A nL (hm ad tc g h el u v sf) (pc + 1) lv (.int 8 :: rest)) : Ev p l e R s m args below meth c cells slots Q D A nL (hm ad tc g h el u v sf) pc lv (.ref (ad 21) :: rest) :=
  E_alen C hd 21 0 rfl rfl rfl k
theorem ma_22 (C : Cx p R s m args c own cc nL D tc tt A d) {i : Int32} (hd : decode cc pc = .ok (.iaload, 1)) (hin : vp_in i 8) (k : Ev p l e R s m args below meth c cells slots Q D A nL (hm ad tc g h el u v sf) (pc + 1) lv (.int (v 39 i.toNatClampNeg) :: rest)) : Ev p l e R s m args below meth c cells slots Q D A nL (hm ad tc g h el u v sf) pc lv (.int i :: .ref (ad 22) :: rest) :=
  E_iald C hd 22 rfl hin k
theorem ms_22 (C : Cx p R s m args c own cc nL D tc tt A d) {i : Int32} {w : Int32} (hd : decode cc pc = .ok (.iastore, 1)) (hin : vp_in i 8) (k : Ev p l e R s m args below meth c cells slots Q D A nL (hm ad tc g h el u (va_up v 39 (upd (v 39) i.toNatClampNeg w)) sf) (pc + 1) lv rest) : Ev p l e R s m args below meth c cells slots Q D A nL (hm ad tc g h el u v sf) pc lv (.int w :: .int i :: .ref (ad 22) :: rest) :=
  E_iast C hd 22 rfl hin rfl k
theorem mn_22 (C : Cx p R s m args c own cc nL D tc tt A d) (hd : decode cc pc = .ok (.arraylength, 1)) (k : Ev p l e R s m args below meth c cells slots Q D A nL (hm ad tc g h el u v sf) (pc + 1) lv (.int 8 :: rest)) : Ev p l e R s m args below meth c cells slots Q D A nL (hm ad tc g h el u v sf) pc lv (.ref (ad 22) :: rest) :=
  E_alen C hd 22 0 rfl rfl rfl k
theorem ma_23 (C : Cx p R s m args c own cc nL D tc tt A d) {i : Int32} (hd : decode cc pc = .ok (.iaload, 1)) (hin : vp_in i 256) (k : Ev p l e R s m args below meth c cells slots Q D A nL (hm ad tc g h el u v sf) (pc + 1) lv (.int (v 40 i.toNatClampNeg) :: rest)) : Ev p l e R s m args below meth c cells slots Q D A nL (hm ad tc g h el u v sf) pc lv (.int i :: .ref (ad 23) :: rest) :=
  E_iald C hd 23 rfl hin k
theorem ms_23 (C : Cx p R s m args c own cc nL D tc tt A d) {i : Int32} {w : Int32} (hd : decode cc pc = .ok (.iastore, 1)) (hin : vp_in i 256) (k : Ev p l e R s m args below meth c cells slots Q D A nL (hm ad tc g h el u (va_up v 40 (upd (v 40) i.toNatClampNeg w)) sf) (pc + 1) lv rest) : Ev p l e R s m args below meth c cells slots Q D A nL (hm ad tc g h el u v sf) pc lv (.int w :: .int i :: .ref (ad 23) :: rest) :=
  E_iast C hd 23 rfl hin rfl k
theorem mn_23 (C : Cx p R s m args c own cc nL D tc tt A d) (hd : decode cc pc = .ok (.arraylength, 1)) (k : Ev p l e R s m args below meth c cells slots Q D A nL (hm ad tc g h el u v sf) (pc + 1) lv (.int 256 :: rest)) : Ev p l e R s m args below meth c cells slots Q D A nL (hm ad tc g h el u v sf) pc lv (.ref (ad 23) :: rest) :=
  E_alen C hd 23 0 rfl rfl rfl k
theorem ma_24 (C : Cx p R s m args c own cc nL D tc tt A d) {i : Int32} (hd : decode cc pc = .ok (.iaload, 1)) (hin : vp_in i 9) (k : Ev p l e R s m args below meth c cells slots Q D A nL (hm ad tc g h el u v sf) (pc + 1) lv (.int (h 42 i.toNatClampNeg) :: rest)) : Ev p l e R s m args below meth c cells slots Q D A nL (hm ad tc g h el u v sf) pc lv (.int i :: .ref (ad 24) :: rest) :=
  E_iald C hd 24 rfl hin k
theorem ms_24 (C : Cx p R s m args c own cc nL D tc tt A d) {i : Int32} {w : Int32} (hd : decode cc pc = .ok (.iastore, 1)) (hin : vp_in i 9) (k : Ev p l e R s m args below meth c cells slots Q D A nL (hm ad tc g (va_up h 42 (upd (h 42) i.toNatClampNeg w)) el u v sf) (pc + 1) lv rest) : Ev p l e R s m args below meth c cells slots Q D A nL (hm ad tc g h el u v sf) pc lv (.int w :: .int i :: .ref (ad 24) :: rest) :=
  E_iast C hd 24 rfl hin rfl k
theorem mn_24 (C : Cx p R s m args c own cc nL D tc tt A d) (hd : decode cc pc = .ok (.arraylength, 1)) (k : Ev p l e R s m args below meth c cells slots Q D A nL (hm ad tc g h el u v sf) (pc + 1) lv (.int 9 :: rest)) : Ev p l e R s m args below meth c cells slots Q D A nL (hm ad tc g h el u v sf) pc lv (.ref (ad 24) :: rest) :=
  E_alen C hd 24 0 rfl rfl rfl k
theorem ma_25 (C : Cx p R s m args c own cc nL D tc tt A d) {i : Int32} (hd : decode cc pc = .ok (.iaload, 1)) (hin : vp_in i 9) (k : Ev p l e R s m args below meth c cells slots Q D A nL (hm ad tc g h el u v sf) (pc + 1) lv (.int (h 43 i.toNatClampNeg) :: rest)) : Ev p l e R s m args below meth c cells slots Q D A nL (hm ad tc g h el u v sf) pc lv (.int i :: .ref (ad 25) :: rest) :=
  E_iald C hd 25 rfl hin k
theorem ms_25 (C : Cx p R s m args c own cc nL D tc tt A d) {i : Int32} {w : Int32} (hd : decode cc pc = .ok (.iastore, 1)) (hin : vp_in i 9) (k : Ev p l e R s m args below meth c cells slots Q D A nL (hm ad tc g (va_up h 43 (upd (h 43) i.toNatClampNeg w)) el u v sf) (pc + 1) lv rest) : Ev p l e R s m args below meth c cells slots Q D A nL (hm ad tc g h el u v sf) pc lv (.int w :: .int i :: .ref (ad 25) :: rest) :=
  E_iast C hd 25 rfl hin rfl k
theorem mn_25 (C : Cx p R s m args c own cc nL D tc tt A d) (hd : decode cc pc = .ok (.arraylength, 1)) (k : Ev p l e R s m args below meth c cells slots Q D A nL (hm ad tc g h el u v sf) (pc + 1) lv (.int 9 :: rest)) : Ev p l e R s m args below meth c cells slots Q D A nL (hm ad tc g h el u v sf) pc lv (.ref (ad 25) :: rest) :=
  E_alen C hd 25 0 rfl rfl rfl k
theorem ma_26 (C : Cx p R s m args c own cc nL D tc tt A d) {i : Int32} (hd : decode cc pc = .ok (.iaload, 1)) (hin : vp_in i 50) (k : Ev p l e R s m args below meth c cells slots Q D A nL (hm ad tc g h el u v sf) (pc + 1) lv (.int (h 46 i.toNatClampNeg) :: rest)) : Ev p l e R s m args below meth c cells slots Q D A nL (hm ad tc g h el u v sf) pc lv (.int i :: .ref (ad 26) :: rest) :=
  E_iald C hd 26 rfl hin k
theorem ms_26 (C : Cx p R s m args c own cc nL D tc tt A d) {i : Int32} {w : Int32} (hd : decode cc pc = .ok (.iastore, 1)) (hin : vp_in i 50) (k : Ev p l e R s m args below meth c cells slots Q D A nL (hm ad tc g (va_up h 46 (upd (h 46) i.toNatClampNeg w)) el u v sf) (pc + 1) lv rest) : Ev p l e R s m args below meth c cells slots Q D A nL (hm ad tc g h el u v sf) pc lv (.int w :: .int i :: .ref (ad 26) :: rest) :=
  E_iast C hd 26 rfl hin rfl k
theorem mn_26 (C : Cx p R s m args c own cc nL D tc tt A d) (hd : decode cc pc = .ok (.arraylength, 1)) (k : Ev p l e R s m args below meth c cells slots Q D A nL (hm ad tc g h el u v sf) (pc + 1) lv (.int 50 :: rest)) : Ev p l e R s m args below meth c cells slots Q D A nL (hm ad tc g h el u v sf) pc lv (.ref (ad 26) :: rest) :=
  E_alen C hd 26 0 rfl rfl rfl k
theorem ma_27 (C : Cx p R s m args c own cc nL D tc tt A d) {i : Int32} (hd : decode cc pc = .ok (.iaload, 1)) (hin : vp_in i 24) (k : Ev p l e R s m args below meth c cells slots Q D A nL (hm ad tc g h el u v sf) (pc + 1) lv (.int (h 48 i.toNatClampNeg) :: rest)) : Ev p l e R s m args below meth c cells slots Q D A nL (hm ad tc g h el u v sf) pc lv (.int i :: .ref (ad 27) :: rest) :=
  E_iald C hd 27 rfl hin k
theorem ms_27 (C : Cx p R s m args c own cc nL D tc tt A d) {i : Int32} {w : Int32} (hd : decode cc pc = .ok (.iastore, 1)) (hin : vp_in i 24) (k : Ev p l e R s m args below meth c cells slots Q D A nL (hm ad tc g (va_up h 48 (upd (h 48) i.toNatClampNeg w)) el u v sf) (pc + 1) lv rest) : Ev p l e R s m args below meth c cells slots Q D A nL (hm ad tc g h el u v sf) pc lv (.int w :: .int i :: .ref (ad 27) :: rest) :=
  E_iast C hd 27 rfl hin rfl k
theorem mn_27 (C : Cx p R s m args c own cc nL D tc tt A d) (hd : decode cc pc = .ok (.arraylength, 1)) (k : Ev p l e R s m args below meth c cells slots Q D A nL (hm ad tc g h el u v sf) (pc + 1) lv (.int 24 :: rest)) : Ev p l e R s m args below meth c cells slots Q D A nL (hm ad tc g h el u v sf) pc lv (.ref (ad 27) :: rest) :=
  E_alen C hd 27 0 rfl rfl rfl k
theorem ma_28 (C : Cx p R s m args c own cc nL D tc tt A d) {i : Int32} (hd : decode cc pc = .ok (.iaload, 1)) (hin : vp_in i 6) (k : Ev p l e R s m args below meth c cells slots Q D A nL (hm ad tc g h el u v sf) (pc + 1) lv (.int (h 49 i.toNatClampNeg) :: rest)) : Ev p l e R s m args below meth c cells slots Q D A nL (hm ad tc g h el u v sf) pc lv (.int i :: .ref (ad 28) :: rest) :=
  E_iald C hd 28 rfl hin k
theorem ms_28 (C : Cx p R s m args c own cc nL D tc tt A d) {i : Int32} {w : Int32} (hd : decode cc pc = .ok (.iastore, 1)) (hin : vp_in i 6) (k : Ev p l e R s m args below meth c cells slots Q D A nL (hm ad tc g (va_up h 49 (upd (h 49) i.toNatClampNeg w)) el u v sf) (pc + 1) lv rest) : Ev p l e R s m args below meth c cells slots Q D A nL (hm ad tc g h el u v sf) pc lv (.int w :: .int i :: .ref (ad 28) :: rest) :=
  E_iast C hd 28 rfl hin rfl k
theorem mn_28 (C : Cx p R s m args c own cc nL D tc tt A d) (hd : decode cc pc = .ok (.arraylength, 1)) (k : Ev p l e R s m args below meth c cells slots Q D A nL (hm ad tc g h el u v sf) (pc + 1) lv (.int 6 :: rest)) : Ev p l e R s m args below meth c cells slots Q D A nL (hm ad tc g h el u v sf) pc lv (.ref (ad 28) :: rest) :=
  E_alen C hd 28 0 rfl rfl rfl k
theorem ma_29 (C : Cx p R s m args c own cc nL D tc tt A d) {i : Int32} (hd : decode cc pc = .ok (.iaload, 1)) (hin : vp_in i 6) (k : Ev p l e R s m args below meth c cells slots Q D A nL (hm ad tc g h el u v sf) (pc + 1) lv (.int (h 50 i.toNatClampNeg) :: rest)) : Ev p l e R s m args below meth c cells slots Q D A nL (hm ad tc g h el u v sf) pc lv (.int i :: .ref (ad 29) :: rest) :=
  E_iald C hd 29 rfl hin k
theorem ms_29 (C : Cx p R s m args c own cc nL D tc tt A d) {i : Int32} {w : Int32} (hd : decode cc pc = .ok (.iastore, 1)) (hin : vp_in i 6) (k : Ev p l e R s m args below meth c cells slots Q D A nL (hm ad tc g (va_up h 50 (upd (h 50) i.toNatClampNeg w)) el u v sf) (pc + 1) lv rest) : Ev p l e R s m args below meth c cells slots Q D A nL (hm ad tc g h el u v sf) pc lv (.int w :: .int i :: .ref (ad 29) :: rest) :=
  E_iast C hd 29 rfl hin rfl k
theorem mn_29 (C : Cx p R s m args c own cc nL D tc tt A d) (hd : decode cc pc = .ok (.arraylength, 1)) (k : Ev p l e R s m args below meth c cells slots Q D A nL (hm ad tc g h el u v sf) (pc + 1) lv (.int 6 :: rest)) : Ev p l e R s m args below meth c cells slots Q D A nL (hm ad tc g h el u v sf) pc lv (.ref (ad 29) :: rest) :=
  E_alen C hd 29 0 rfl rfl rfl k
theorem ma_30 (C : Cx p R s m args c own cc nL D tc tt A d) {i : Int32} (hd : decode cc pc = .ok (.laload, 1)) (hin : vp_in i 360) (k : Ev p l e R s m args below meth c cells slots Q D A nL (hm ad tc g h el u v sf) (pc + 1) lv (.long (el i.toNatClampNeg) :: rest)) : Ev p l e R s m args below meth c cells slots Q D A nL (hm ad tc g h el u v sf) pc lv (.int i :: .ref (ad 30) :: rest) :=
  E_lald C hd 30 rfl hin k
theorem ms_30 (C : Cx p R s m args c own cc nL D tc tt A d) {i : Int32} {w : Int64} (hd : decode cc pc = .ok (.lastore, 1)) (hin : vp_in i 360) (k : Ev p l e R s m args below meth c cells slots Q D A nL (hm ad tc g h ((vp_updL (el) i.toNatClampNeg w)) u v sf) (pc + 1) lv rest) : Ev p l e R s m args below meth c cells slots Q D A nL (hm ad tc g h el u v sf) pc lv (.long w :: .int i :: .ref (ad 30) :: rest) :=
  E_last C hd 30 rfl hin rfl k
theorem mn_30 (C : Cx p R s m args c own cc nL D tc tt A d) (hd : decode cc pc = .ok (.arraylength, 1)) (k : Ev p l e R s m args below meth c cells slots Q D A nL (hm ad tc g h el u v sf) (pc + 1) lv (.int 360 :: rest)) : Ev p l e R s m args below meth c cells slots Q D A nL (hm ad tc g h el u v sf) pc lv (.ref (ad 30) :: rest) :=
  E_alen C hd 30 1 rfl rfl rfl k
theorem ma_31 (C : Cx p R s m args c own cc nL D tc tt A d) {i : Int32} (hd : decode cc pc = .ok (.laload, 1)) (hin : vp_in i 60) (k : Ev p l e R s m args below meth c cells slots Q D A nL (hm ad tc g h el u v sf) (pc + 1) lv (.long (sf i.toNatClampNeg) :: rest)) : Ev p l e R s m args below meth c cells slots Q D A nL (hm ad tc g h el u v sf) pc lv (.int i :: .ref (ad 31) :: rest) :=
  E_lald C hd 31 rfl hin k
theorem ms_31 (C : Cx p R s m args c own cc nL D tc tt A d) {i : Int32} {w : Int64} (hd : decode cc pc = .ok (.lastore, 1)) (hin : vp_in i 60) (k : Ev p l e R s m args below meth c cells slots Q D A nL (hm ad tc g h el u v ((vp_updL (sf) i.toNatClampNeg w))) (pc + 1) lv rest) : Ev p l e R s m args below meth c cells slots Q D A nL (hm ad tc g h el u v sf) pc lv (.long w :: .int i :: .ref (ad 31) :: rest) :=
  E_last C hd 31 rfl hin rfl k
theorem mn_31 (C : Cx p R s m args c own cc nL D tc tt A d) (hd : decode cc pc = .ok (.arraylength, 1)) (k : Ev p l e R s m args below meth c cells slots Q D A nL (hm ad tc g h el u v sf) (pc + 1) lv (.int 60 :: rest)) : Ev p l e R s m args below meth c cells slots Q D A nL (hm ad tc g h el u v sf) pc lv (.ref (ad 31) :: rest) :=
  E_alen C hd 31 1 rfl rfl rfl k
end WORLD
