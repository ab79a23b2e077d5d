/-! bits (begun with kit/laws/BITS.to-paste) and the pure functions of a drive -/
def bt (x : Int32) (i : Nat) : Bool := x.toBitVec.getLsbD i
theorem b_ext {x y : Int32} (h : ∀ i, i < 32 → bt x i = bt y i) : x = y := Int32.toBitVec_inj.mp (BitVec.eq_of_getLsbD_eq (fun i hi => h i hi))
theorem b_or (x y : Int32) (i : Nat) : bt (x ||| y) i = (bt x i || bt y i) := by unfold bt; rw [Int32.toBitVec_or, BitVec.getLsbD_or]
theorem b_and (x y : Int32) (i : Nat) : bt (x &&& y) i = (bt x i && bt y i) := by unfold bt; rw [Int32.toBitVec_and, BitVec.getLsbD_and]
theorem b_xor (x y : Int32) (i : Nat) : bt (x ^^^ y) i = (bt x i ^^ bt y i) := by unfold bt; rw [Int32.toBitVec_xor, BitVec.getLsbD_xor]
theorem b_big {x : Int32} {i : Nat} (h : 32 ≤ i) : bt x i = false := BitVec.getLsbD_of_ge _ _ h
theorem b_255 (i : Nat) : bt 255 i = decide (i < 8) := by
  rcases Nat.lt_or_ge i 32 with h | h
  · exact (by decide +kernel : ∀ i, i < 32 → bt 255 i = decide (i < 8)) i h
  · rw [b_big h, decide_eq_false (by omega)]
theorem b_65535 (i : Nat) : bt 65535 i = decide (i < 16) := by
  rcases Nat.lt_or_ge i 32 with h | h
  · exact (by decide +kernel : ∀ i, i < 32 → bt 65535 i = decide (i < 16)) i h
  · rw [b_big h, decide_eq_false (by omega)]
theorem b_m1 : ∀ i, i < 32 → bt (-1) i = true := by decide +kernel
theorem b_0 (i : Nat) : bt 0 i = false := BitVec.getLsbD_zero
theorem s_l : ∀ n, n < 32 → ((nI n &&& 31).toBitVec.smod 32).toNat = n := by decide +kernel
theorem s_u : ∀ n, n < 32 → (((nI n).toUInt32 &&& Int32.toUInt32 31).toBitVec % 32).toNat = n := by decide +kernel
theorem b_shl (n : Nat) (hn : n < 32) (x : Int32) {i : Nat} (hi : i < 32) : bt (x <<< (nI n &&& 31)) i = (decide (n ≤ i) && bt x (i - n)) := by
  unfold bt
  rw [Int32.toBitVec_shiftLeft]
  show (x.toBitVec <<< ((nI n &&& 31).toBitVec.smod 32).toNat).getLsbD i = _
  rw [s_l n hn, BitVec.getLsbD_shiftLeft]
  rcases Nat.lt_or_ge i n with h | h
  · simp [h, Nat.not_le.mpr h]
  · simp [hi, h, Nat.not_lt.mpr h]
theorem b_ushr (n : Nat) (hn : n < 32) (x : Int32) (i : Nat) : bt ((x.toUInt32 >>> ((nI n).toUInt32 &&& Int32.toUInt32 31)).toInt32) i = bt x (n + i) := by
  show (x.toUInt32 >>> ((nI n).toUInt32 &&& Int32.toUInt32 31)).toBitVec.getLsbD i = x.toUInt32.toBitVec.getLsbD (n + i)
  rw [UInt32.toBitVec_shiftRight]
  show (x.toUInt32.toBitVec >>> (((nI n).toUInt32 &&& Int32.toUInt32 31).toBitVec % 32).toNat).getLsbD i = _
  rw [s_u n hn, BitVec.getLsbD_ushiftRight]
theorem b_sshr (n : Nat) (hn : n < 32) (x : Int32) {i : Nat} (hi : i < 32) : bt (x >>> (nI n &&& 31)) i = if n + i < 32 then bt x (n + i) else bt x 31 := by
  unfold bt
  rw [Int32.toBitVec_shiftRight]
  show (x.toBitVec.sshiftRight ((nI n &&& 31).toBitVec.smod 32).toNat).getLsbD i = _
  rw [s_l n hn, BitVec.getLsbD_sshiftRight, BitVec.msb_eq_getLsbD_last]
  simp [hi]
theorem b_shl8 (x : Int32) {i : Nat} (hi : i < 32) : bt (x <<< ((8 : Int32) &&& 31)) i = (decide (8 ≤ i) && bt x (i - 8)) := b_shl 8 (by omega) x hi
theorem b_shl16 (x : Int32) {i : Nat} (hi : i < 32) : bt (x <<< ((16 : Int32) &&& 31)) i = (decide (16 ≤ i) && bt x (i - 16)) := b_shl 16 (by omega) x hi
theorem b_shl24 (x : Int32) {i : Nat} (hi : i < 32) : bt (x <<< ((24 : Int32) &&& 31)) i = (decide (24 ≤ i) && bt x (i - 24)) := b_shl 24 (by omega) x hi
theorem b_sshr8 (x : Int32) {i : Nat} (hi : i < 32) : bt (x >>> ((8 : Int32) &&& 31)) i = if 8 + i < 32 then bt x (8 + i) else bt x 31 := b_sshr 8 (by omega) x hi
theorem nx_and (a b : Nat) : nI a &&& nI b = nI (a &&& b) := by
  apply Int32.toBitVec_inj.1
  show BitVec.ofNat 32 a &&& BitVec.ofNat 32 b = BitVec.ofNat 32 (a &&& b)
  apply BitVec.eq_of_getLsbD_eq
  intro i hi
  simp [hi]
theorem nx_xor (a b : Nat) : nI a ^^^ nI b = nI (a ^^^ b) := by
  apply Int32.toBitVec_inj.1
  show BitVec.ofNat 32 a ^^^ BitVec.ofNat 32 b = BitVec.ofNat 32 (a ^^^ b)
  apply BitVec.eq_of_getLsbD_eq
  intro i hi
  simp [hi]
theorem nx_or (a b : Nat) : nI a ||| nI b = nI (a ||| b) := by
  apply Int32.toBitVec_inj.1
  show BitVec.ofNat 32 a ||| BitVec.ofNat 32 b = BitVec.ofNat 32 (a ||| b)
  apply BitVec.eq_of_getLsbD_eq
  intro i hi
  simp [hi]
theorem bt_nI (a i : Nat) (hi : i < 32) : bt (nI a) i = a.testBit i := by
  show (BitVec.ofNat 32 a).getLsbD i = _
  rw [BitVec.getLsbD_ofNat, decide_eq_true hi, Bool.true_and]
theorem nx_sub (x : Int32) {m : Nat} (hm : m ≤ 32) (h : ∀ i, m ≤ i → i < 32 → bt x i = false) : ∃ k, k < 2 ^ m ∧ x = nI k := by
  refine ⟨x.toBitVec.toNat % 2 ^ m, Nat.mod_lt _ (Nat.two_pow_pos m), b_ext fun i hi => ?_⟩
  rw [bt_nI _ _ hi, Nat.testBit_mod_two_pow]
  rcases Nat.lt_or_ge i m with q | q
  · simp only [q, decide_true, Bool.true_and]
    rfl
  · rw [h i q hi, decide_eq_false (by omega), Bool.false_and]
theorem nx_andn (a b : Nat) (ha : a < 256) : nI a &&& (nI b ^^^ (-1)) = nI (a &&& (255 ^^^ b)) := by
  refine b_ext fun i hi => ?_
  rw [b_and, b_xor, b_m1 i hi, bt_nI _ _ hi, bt_nI _ _ hi, bt_nI _ _ hi, Nat.testBit_and, Nat.testBit_xor]
  rcases Nat.lt_or_ge i 8 with q | q
  · rw [show (255 : Nat).testBit i = true from (by decide : ∀ i, i < 8 → (255 : Nat).testBit i = true) i q]
    cases a.testBit i <;> cases b.testBit i <;> rfl
  · rw [Nat.testBit_lt_two_pow (Nat.lt_of_lt_of_le ha (show 2 ^ 8 ≤ 2 ^ i from Nat.pow_le_pow_right (by decide) q))]
    rfl
theorem nx_bitI (σ i : Nat) (hσ : σ < 2 ^ 31) (hi : i < 31) : (nI σ >>> (nI i &&& 31)) &&& 1 = if σ.testBit i then 1 else 0 := by
  rw [pk_shrN hσ _ i (s_l i (by omega))]
  show nI (σ / 2 ^ i) &&& nI 1 = _
  rw [nx_and, Nat.and_one_is_mod, Nat.testBit_eq_decide_div_mod_eq]
  generalize σ / 2 ^ i = q
  rcases Nat.mod_two_eq_zero_or_one q with h | h <;> rw [h] <;> rfl
theorem nx_bitE (σ i : Nat) (hσ : σ < 2 ^ 31) (hi : i < 31) : ((nI σ >>> (nI i &&& 31)) &&& 1 = 1) ↔ σ.testBit i = true := by
  rw [nx_bitI σ i hσ hi]
  cases σ.testBit i <;> decide
theorem nx_bitZ (σ i : Nat) (hσ : σ < 2 ^ 31) (hi : i < 31) : ((nI σ >>> (nI i &&& 31)) &&& 1 = 0) ↔ σ.testBit i = false := by
  rw [nx_bitI σ i hσ hi]
  cases σ.testBit i <;> decide
theorem nx_one (i : Nat) (hi : i < 31) : (1 : Int32) <<< (nI i &&& 31) = nI (2 ^ i) := by
  have h := pk_shlN (n := 1) (nI i &&& 31) i (s_l i (by omega)) (by rw [Nat.one_mul]; exact Nat.pow_lt_pow_right (by decide) (by omega))
  rw [Nat.one_mul] at h
  exact h
/-- sets of things: bits below 256 -/
def pop (σ : Nat) : Nat := (σ.testBit 0).toNat + (σ.testBit 1).toNat + (σ.testBit 2).toNat + (σ.testBit 3).toNat + (σ.testBit 4).toNat + (σ.testBit 5).toNat + (σ.testBit 6).toNat + (σ.testBit 7).toNat
/-- the least of a set -/
def lst (σ : Nat) : Nat := if σ.testBit 0 then 0 else if σ.testBit 1 then 1 else if σ.testBit 2 then 2 else if σ.testBit 3 then 3 else if σ.testBit 4 then 4 else if σ.testBit 5 then 5 else if σ.testBit 6 then 6 else if σ.testBit 7 then 7 else 0
def opn (fo hd le : Nat) : Nat := fo &&& (255 ^^^ hd) &&& (255 ^^^ le)
def mndF (N : Nat → Nat → Nat) (s : Nat) : Nat → Nat
  | 0 => 0
  | i + 1 => mndF N s i ||| (if N 2 i = s then 2 ^ i else 0)
def wsum (N : Nat → Nat → Nat) (σ : Nat) : Nat → Nat
  | 0 => 0
  | i + 1 => wsum N σ i + (if σ.testBit i then N 3 i else 0)
def tsum (N : Nat → Nat → Nat) : Nat → Nat
  | 0 => 0
  | i + 1 => tsum N i + N 6 i
abbrev GL : Type := List (Nat × Nat × Nat)
/-- goings at a stop: had, minutes, the goings so far -/
def gof (N : Nat → Nat → Nat) (L : Nat → Nat → Nat → Nat → Nat → Nat) (s fo le : Nat) : Nat → Nat → Nat → GL → Nat → Nat × Nat × GL
  | 0, hd, mi, gl, _ => (hd, mi, gl)
  | k + 1, hd, mi, gl, m => if m = 0 then (hd, mi, gl) else
      gof N L s fo le k (hd ||| 2 ^ lst m) (mi + L 1 (N 5 (N 0 (lst m))) gl.length (N 3 (lst m)) s) (gl ++ [(N 0 (lst m), lst m, L 1 (N 5 (N 0 (lst m))) gl.length (N 3 (lst m)) s)]) ((m ||| N 4 (lst m)) &&& opn fo (hd ||| 2 ^ lst m) le)
/-- a drive as far as it has come: had, left, minutes, goings, turns, the last turn -/
abbrev DT : Type := Nat × Nat × Nat × GL × Nat × Nat
def minded (N : Nat → Nat → Nat) (s fo hd le : Nat) : Nat := mndF N s 8 &&& opn fo hd le
def stopAt (N : Nat → Nat → Nat) (L : Nat → Nat → Nat → Nat → Nat → Nat) (s fo : Nat) (q : DT) : DT :=
  if s = 0 then
    ((gof N L s fo q.2.1 8 q.1 q.2.2.1 q.2.2.2.1 (minded N s fo q.1 q.2.1)).1, q.2.1, (gof N L s fo q.2.1 8 q.1 q.2.2.1 q.2.2.2.1 (minded N s fo q.1 q.2.1)).2.1, (gof N L s fo q.2.1 8 q.1 q.2.2.1 q.2.2.2.1 (minded N s fo q.1 q.2.1)).2.2, q.2.2.2.2.1, q.2.2.2.2.2)
  else if N 7 0 * (2 * tsum N s) < wsum N (minded N s fo q.1 q.2.1) 8 then
    ((gof N L s fo q.2.1 8 q.1 (q.2.2.1 + 2 * tsum N s) q.2.2.2.1 (minded N s fo q.1 q.2.1)).1, q.2.1, (gof N L s fo q.2.1 8 q.1 (q.2.2.1 + 2 * tsum N s) q.2.2.2.1 (minded N s fo q.1 q.2.1)).2.1, (gof N L s fo q.2.1 8 q.1 (q.2.2.1 + 2 * tsum N s) q.2.2.2.1 (minded N s fo q.1 q.2.1)).2.2, q.2.2.2.2.1 + 1, s)
  else (q.1, q.2.1 ||| minded N s fo q.1 q.2.1, q.2.2.1, q.2.2.2.1, q.2.2.2.2.1, q.2.2.2.2.2)
def addWay (N : Nat → Nat → Nat) (s : Nat) (q : DT) : DT := if s < 6 then (q.1, q.2.1, q.2.2.1 + N 6 s, q.2.2.2.1, q.2.2.2.2.1, q.2.2.2.2.2) else q
def onStop (N : Nat → Nat → Nat) (L : Nat → Nat → Nat → Nat → Nat → Nat) (s fo : Nat) (q : DT) : DT := addWay N s (stopAt N L s fo q)
def goStops (N : Nat → Nat → Nat) (L : Nat → Nat → Nat → Nat → Nat → Nat) (fo : Nat) : Nat → DT
  | 0 => (0, 0, 0, [], 0, 0)
  | s + 1 => onStop N L s fo (goStops N L fo s)
/-- a whole drive with the told things forgotten -/
def whole (N : Nat → Nat → Nat) (L : Nat → Nat → Nat → Nat → Nat → Nat) (fo : Nat) : DT := goStops N L fo 7
def costT (N : Nat → Nat → Nat) (q : DT) : Nat := N 7 0 * q.2.2.1 + wsum N q.2.1 8
theorem wsum_step {N : Nat → Nat → Nat} {σ i : Nat} {x : Int32} (hσ : σ < 256) (hi : i < 8) (hx : x = nI (N 3 i)) : nI (wsum N σ i) + ((nI σ >>> (nI i &&& 31)) &&& 1) * x = nI (wsum N σ (i + 1)) := by
  rw [nx_bitI σ i (by omega) (by omega), hx]
  show _ = nI (wsum N σ i + (if σ.testBit i then N 3 i else 0))
  cases σ.testBit i
  · simp only [Bool.false_eq_true, if_false]
    rw [← nI_add, show (0 : Int32) * nI (N 3 i) = nI 0 from by rw [show (0 : Int32) = nI 0 from rfl, pk_mul, Nat.zero_mul]]
  · simp only [if_true]
    rw [← nI_add, show (1 : Int32) * nI (N 3 i) = nI (N 3 i) from by rw [show (1 : Int32) = nI 1 from rfl, pk_mul, Nat.one_mul]]
theorem tsum_step {N : Nat → Nat → Nat} {i : Nat} {x : Int32} (hx : x = nI (N 6 i)) : nI (tsum N i) + x = nI (tsum N (i + 1)) := by
  rw [hx, nI_add]
  rfl
section SETI
variable {p : Program} {l : Launch} {e : Env} {R : Room} {s : State} {m : MethodId} {args : Array Value} {below : List Frame} {meth : Method} {c : Code} {cells slots : Nat} {Q : State → Prop} {D : va_G} {A : Nat → Prop} {nL pc : Nat} {ws : va_W} {lv : List (Nat × Value)} {rest : List Value}
theorem Ev.seti {x y : Int32} (h : x = y) (k : Ev p l e R s m args below meth c cells slots Q D A nL ws pc lv (.int y :: rest)) : Ev p l e R s m args below meth c cells slots Q D A nL ws pc lv (.int x :: rest) := h ▸ k
theorem Ev.setl {x y : Int64} (h : x = y) (k : Ev p l e R s m args below meth c cells slots Q D A nL ws pc lv (.long y :: rest)) : Ev p l e R s m args below meth c cells slots Q D A nL ws pc lv (.long x :: rest) := h ▸ k
theorem Ev.setw {ws' : va_W} (h : ws = ws') (k : Ev p l e R s m args below meth c cells slots Q D A nL ws' pc lv rest) : Ev p l e R s m args below meth c cells slots Q D A nL ws pc lv rest := h ▸ k
end SETI
