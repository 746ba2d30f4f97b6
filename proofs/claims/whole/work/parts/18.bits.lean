/-! bits (first family pasted), worlds, a few more rows -/
def bt (x : Int32) (i : Nat) : Bool := x.toBitVec.getLsbD i
theorem b_ext {x y : Int32} (h : ∀ i, i < 32 → bt x i = bt y i) : x = y := Int32.toBitVec_inj.mp (BitVec.eq_of_getLsbD_eq (fun i hi => h i hi))
theorem b_or (x y : Int32) (i : Nat) : bt (x ||| y) i = (bt x i || bt y i) := by unfold bt; rw [Int32.toBitVec_or, BitVec.getLsbD_or]
theorem b_and (x y : Int32) (i : Nat) : bt (x &&& y) i = (bt x i && bt y i) := by unfold bt; rw [Int32.toBitVec_and, BitVec.getLsbD_and]
theorem b_xor (x y : Int32) (i : Nat) : bt (x ^^^ y) i = (bt x i ^^ bt y i) := by unfold bt; rw [Int32.toBitVec_xor, BitVec.getLsbD_xor]
theorem b_big {x : Int32} {i : Nat} (h : 32 ≤ i) : bt x i = false := BitVec.getLsbD_of_ge _ _ h
theorem b_255 (i : Nat) : bt 255 i = decide (i < 8) := by
  rcases Nat.lt_or_ge i 32 with h | h
  · exact (by decide +kernel : ∀ i, i < 32 → bt 255 i = decide (i < 8)) i h
  · rw [b_big h, decide_eq_false (by omega)]
theorem b_65535 (i : Nat) : bt 65535 i = decide (i < 16) := by
  rcases Nat.lt_or_ge i 32 with h | h
  · exact (by decide +kernel : ∀ i, i < 32 → bt 65535 i = decide (i < 16)) i h
  · rw [b_big h, decide_eq_false (by omega)]
theorem b_m1 : ∀ i, i < 32 → bt (-1) i = true := by decide +kernel
theorem b_0 (i : Nat) : bt 0 i = false := BitVec.getLsbD_zero
theorem s_l : ∀ n, n < 32 → ((nI n &&& 31).toBitVec.smod 32).toNat = n := by decide +kernel
theorem s_u : ∀ n, n < 32 → (((nI n).toUInt32 &&& Int32.toUInt32 31).toBitVec % 32).toNat = n := by decide +kernel
theorem b_shl (n : Nat) (hn : n < 32) (x : Int32) {i : Nat} (hi : i < 32) : bt (x <<< (nI n &&& 31)) i = (decide (n ≤ i) && bt x (i - n)) := by
  unfold bt
  rw [Int32.toBitVec_shiftLeft]
  show (x.toBitVec <<< ((nI n &&& 31).toBitVec.smod 32).toNat).getLsbD i = _
  rw [s_l n hn, BitVec.getLsbD_shiftLeft]
  rcases Nat.lt_or_ge i n with h | h
  · simp [h, Nat.not_le.mpr h]
  · simp [hi, h, Nat.not_lt.mpr h]
theorem b_ushr (n : Nat) (hn : n < 32) (x : Int32) (i : Nat) : bt ((x.toUInt32 >>> ((nI n).toUInt32 &&& Int32.toUInt32 31)).toInt32) i = bt x (n + i) := by
  show (x.toUInt32 >>> ((nI n).toUInt32 &&& Int32.toUInt32 31)).toBitVec.getLsbD i = x.toUInt32.toBitVec.getLsbD (n + i)
  rw [UInt32.toBitVec_shiftRight]
  show (x.toUInt32.toBitVec >>> (((nI n).toUInt32 &&& Int32.toUInt32 31).toBitVec % 32).toNat).getLsbD i = _
  rw [s_u n hn, BitVec.getLsbD_ushiftRight]
theorem b_sshr (n : Nat) (hn : n < 32) (x : Int32) {i : Nat} (hi : i < 32) : bt (x >>> (nI n &&& 31)) i = if n + i < 32 then bt x (n + i) else bt x 31 := by
  unfold bt
  rw [Int32.toBitVec_shiftRight]
  show (x.toBitVec.sshiftRight ((nI n &&& 31).toBitVec.smod 32).toNat).getLsbD i = _
  rw [s_l n hn, BitVec.getLsbD_sshiftRight, BitVec.msb_eq_getLsbD_last]
  simp [hi]
theorem b_shl8 (x : Int32) {i : Nat} (hi : i < 32) : bt (x <<< ((8 : Int32) &&& 31)) i = (decide (8 ≤ i) && bt x (i - 8)) := b_shl 8 (by omega) x hi
theorem b_shl16 (x : Int32) {i : Nat} (hi : i < 32) : bt (x <<< ((16 : Int32) &&& 31)) i = (decide (16 ≤ i) && bt x (i - 16)) := b_shl 16 (by omega) x hi
theorem b_shl24 (x : Int32) {i : Nat} (hi : i < 32) : bt (x <<< ((24 : Int32) &&& 31)) i = (decide (24 ≤ i) && bt x (i - 24)) := b_shl 24 (by omega) x hi
theorem b_sshr8 (x : Int32) {i : Nat} (hi : i < 32) : bt (x >>> ((8 : Int32) &&& 31)) i = if 8 + i < 32 then bt x (8 + i) else bt x 31 := b_sshr 8 (by omega) x hi
def bitI (p : Nat) : Int32 := (1 : Int32) <<< (nI p &&& 31)
theorem bt_one : ∀ i, i < 32 → bt 1 i = decide (i = 0) := by decide +kernel
theorem b_bit {p i : Nat} (hp : p < 32) : bt (bitI p) i = decide (i = p) := by
  rcases Nat.lt_or_ge i 32 with hi | hi
  · unfold bitI
    rw [b_shl p hp 1 hi, bt_one _ (by omega)]
    by_cases h : i = p
    · subst h; simp
    · rcases Nat.lt_or_ge i p with h1 | h1
      · simp [h, Nat.not_le.mpr h1]
      · simp [h, h1, show i - p ≠ 0 by omega]
  · rw [b_big hi, decide_eq_false (by omega)]
theorem b_not {x : Int32} {i : Nat} (hi : i < 32) : bt (x ^^^ (-1)) i = !bt x i := by rw [b_xor, b_m1 i hi]; simp
theorem and1_iff {x : Int32} : (x &&& 1 = 0 ↔ bt x 0 = false) ∧ (x &&& 1 = 1 ↔ bt x 0 = true) := by
  have h : ∀ i, i < 32 → bt (x &&& 1) i = (bt x i && decide (i = 0)) := fun i hi => by rw [b_and, bt_one i hi]
  cases hb : bt x 0 with
  | false =>
    have e : x &&& 1 = 0 := b_ext fun i hi => by
      rw [h i hi, b_0]
      by_cases h0 : i = 0
      · subst h0; simp [hb]
      · simp [h0]
    rw [e]; decide
  | true =>
    have e : x &&& 1 = 1 := b_ext fun i hi => by
      rw [h i hi, bt_one i hi]
      by_cases h0 : i = 0
      · subst h0; simp [hb]
      · simp [h0]
    rw [e]; decide
theorem tU (x : Int32) {p : Nat} (hp : p < 32) : (((x.toUInt32 >>> ((nI p).toUInt32 &&& Int32.toUInt32 31)).toInt32 &&& 1 = 0) ↔ bt x p = false) := by
  rw [and1_iff.1, b_ushr p hp x 0]; rfl
theorem tS0 (x : Int32) {p : Nat} (hp : p < 32) : ((x >>> (nI p &&& 31)) &&& 1 = 0 ↔ bt x p = false) := by
  rw [and1_iff.1, b_sshr p hp x (by omega)]; simp [hp]
theorem tS1 (x : Int32) {p : Nat} (hp : p < 32) : ((x >>> (nI p &&& 31)) &&& 1 = 1 ↔ bt x p = true) := by
  rw [and1_iff.2, b_sshr p hp x (by omega)]; simp [hp]
def zI (b : Bool) : Int32 := if b then 1 else 0
theorem zI_nar (b : Bool) : narrow .boolean (.int (zI b)) = .int (zI b) := by cases b <;> rfl
theorem zI_0 {b : Bool} : zI b = 0 ↔ b = false := by cases b <;> decide
-- worlds
abbrev sh {α : Type} (b : Nat) (f : Nat → α) : Nat → α := fun i => f (b + i)
abbrev tyL (k : Nat → ClassId) : List (ClassId × FieldType) := [(k 0, .int), (k 1, .boolean), (k 2, .array .int), (k 3, .object RX0)]
abbrev aI (k : Nat → ClassId) (n : Nat) (f : Nat → Int32) : va_E := .inl (k 0, n, .inl f)
abbrev aZ (k : Nat → ClassId) (n : Nat) (f : Nat → Int32) : va_E := .inl (k 1, n, .inl f)
abbrev aR (c : ClassId) (n : Nat) (f : Nat → Option Nat) : va_E := .inl (c, n, .inr (.inr (.inr (.inr f))))
abbrev wM (k : Nat → ClassId) (ad : Nat → Nat) (V : St) : va_W := [(ad 0, .inr (0, [.ref (ad 1), .ref (ad 2), .ref (ad 3), .ref (ad 4), .ref (ad 5), .int (V 0 5), .int (V 0 6), .int (V 0 7), .int (V 0 8)])), (ad 1, aI k 8 (V 1)), (ad 2, aI k 32 (V 2)), (ad 3, aI k 4 (V 3)), (ad 4, aI k 4 (V 4)), (ad 5, aI k 100 (V 5))]
abbrev wP (k : Nat → ClassId) (ad : Nat → Nat) (V : St) : va_W := [(ad 0, .inr (1, [.ref (ad 1), .ref (ad 2), .ref (ad 3), .ref (ad 4), .ref (ad 5), .ref (ad 6), .ref (ad 7), .int (V 0 7)])), (ad 1, aI k 24 (V 1)), (ad 2, aI k 24 (V 2)), (ad 3, aI k 24 (V 3)), (ad 4, aI k 24 (V 4)), (ad 5, aI k 4 (V 5)), (ad 6, aZ k 4 (V 6)), (ad 7, aI k 4 (V 7))]
abbrev wR (k : Nat → ClassId) (ad : Nat → Nat) (V : St) : va_W := [(ad 0, .inr (2, [.int (V 0 0), .ref (ad 1), .ref (ad 2), .ref (ad 3), .ref (ad 4), .ref (ad 5), .ref (ad 6), .ref (ad 7), .ref (ad 8), .ref (ad 9)])), (ad 1, aI k 24 (V 1)), (ad 2, aI k 24 (V 2)), (ad 3, aI k 24 (V 3)), (ad 4, aR (k 2) 5 (fun i => some (ad (10 + i)))), (ad 5, aI k 24 (V 5)), (ad 6, aI k 24 (V 6)), (ad 7, aI k 24 (V 7)), (ad 8, aI k 24 (V 8)), (ad 9, aI k 24 (V 9)), (ad 10, aI k 24 (V 10)), (ad 11, aI k 24 (V 11)), (ad 12, aI k 24 (V 12)), (ad 13, aI k 24 (V 13)), (ad 14, aI k 24 (V 14))]
abbrev wS0 (k : Nat → ClassId) (ad : Nat → Nat) (V : St) : va_W := [(ad 0, .inr (3, [.ref (ad 8), .ref (ad 16), .int (V 0 2), .ref (ad 1), .ref (ad 2), .int (V 0 5), .ref (ad 31), .int (V 0 7), .ref (ad 3), .ref (ad 55), .ref (ad 4), .int (V 0 11)])), (ad 1, aI k 4 (V 1)), (ad 2, aR (k 2) 3 (fun i => some (ad (5 + i)))), (ad 3, aR (k 3) 3 (fun i => some (ad (37 + 6 * i)))), (ad 4, aI k 24 (V 4)), (ad 5, aI k 4 (V 5)), (ad 6, aI k 4 (V 6)), (ad 7, aI k 4 (V 7))]
abbrev wS (k : Nat → ClassId) (ad : Nat → Nat) (V : St) : va_W := wS0 k ad V ++ (wP k (sh 8 ad) (sh 8 V) ++ (wR k (sh 16 ad) (sh 16 V) ++ (wM k (sh 31 ad) (sh 31 V) ++ (wM k (sh 37 ad) (sh 37 V) ++ (wM k (sh 43 ad) (sh 43 V) ++ (wM k (sh 49 ad) (sh 49 V) ++ wM k (sh 55 ad) (sh 55 V)))))))
abbrev wQ (k : Nat → ClassId) (ad : Nat → Nat) (V : St) : va_W := [(ad 0, .inr (4, [.int (V 0 0), .ref (ad 1), .ref (ad 2), .ref (ad 3), .ref (ad 4), .ref (ad 5), .ref (ad 6), .ref (ad 7), .ref (ad 8), .int (V 0 9), .ref (ad 9), .int (V 0 11), .int (V 0 12), .ref (ad 10), .int (V 0 14), .int (V 0 15), .ref (ad 11), .int (V 0 17), .ref (ad 12), .ref (ad 13), .ref (ad 14), .ref (ad 15), .int (V 0 22), .ref (ad 16), .ref (ad 17), .ref (ad 18), .ref (ad 19), .ref (ad 20), .int (V 0 28), .int (V 0 29), .int (V 0 30), .ref (ad 21), .int (V 0 32), .int (V 0 33), .ref (ad 22)])), (ad 1, aI k 24 (V 1)), (ad 2, aI k 24 (V 2)), (ad 3, aI k 24 (V 3)), (ad 4, aI k 24 (V 4)), (ad 5, aI k 4 (V 5)), (ad 6, aI k 4 (V 6)), (ad 7, aZ k 4 (V 7)), (ad 8, aI k 4 (V 8)), (ad 9, aI k 12 (V 9)), (ad 10, aI k 100 (V 10)), (ad 11, aI k 8 (V 11)), (ad 12, aI k 24 (V 12)), (ad 13, aI k 24 (V 13)), (ad 14, aI k 96 (V 14)), (ad 15, aI k 72 (V 15)), (ad 16, aI k 24 (V 16)), (ad 17, aI k 8 (V 17)), (ad 18, aI k 32 (V 18)), (ad 19, aI k 4 (V 19)), (ad 20, aI k 4 (V 20)), (ad 21, aI k 100 (V 21)), (ad 22, aI k 100 (V 22))]
section B3
variable {p : Program} {l : Launch} {e : Env} {R : Room} {s : State} {m : MethodId} {args : Array Value} {below : List Frame} {meth : Method} {c : Code} {H : Heap} {locs : List Loc} {cells slots : Nat} {Q : State → Prop}
variable {cc : ByteArray} {pc : Nat} {ls : Array Slot} {rest : List Value} {D : va_G} {A : Nat → Prop} {a : Nat} {tys : List (ClassId × FieldType)} {w : va_W} {H0 : Heap}
theorem topv {x : Int32} (v : Int32) (h : x = v) (k : W p l e R s m args below meth c H locs cells slots Q (F0 m pc ls (.int v :: rest))) : W p l e R s m args below meth c H locs cells slots Q (F0 m pc ls (.int x :: rest)) := by
  rw [h]; exact k
theorem ldq (hx : p.tables.exec = Jvm.exec) (hb : c.code = cc) (hK : va_K D vwCl tys s) (hP : va_P D vwCl w H) (q0 t0 : Nat) {cA : ClassId} {ty : FieldType} (hty : ty.isReference = true) {n : Nat} {f : Nat → Option Nat} (ha : w[q0]? = some (a, .inl (cA, n, .inr (.inr (.inr (.inr f)))))) (ht : tys[t0]? = some (cA, ty)) {j x : Nat} (hj : j < n) (hn : n < 2 ^ 31) (hf : f j = some x) (hdg : decode cc pc = .ok (.aaload, 1))
    (kk : W p l e R s m args below meth c H locs cells slots Q (F0 m (pc + 1) ls (.ref x :: rest))) : W p l e R s m args below meth c H locs cells slots Q (F0 m pc ls (.int (nI j) :: .ref a :: rest)) := by
  have hlt : (nI j).toNatClampNeg < n := by rw [nI_clamp (Nat.lt_trans hj hn)]; exact hj
  refine W.aald (v := .ref x) (ty := ty) hx hb (hP q0 _ ha) ((hK.2 t0 _ ht).1 n (fun j => va_rf (f j))) hty (fun q => by cases q) (by show ¬ (nI j < 0 ∨ (arrV _ _ _).slots.size ≤ _); rw [arrV_size]; exact vp_in_nI hj hn) (by show (arrV _ _ _).slots[_]? = _; rw [arrV_read _ _ hlt, nI_clamp (Nat.lt_trans hj hn), hf]; rfl) rfl rfl hdg kk
/-- a loop of a read-only method -/
theorem loopR {σ : Type} (I : σ → Array Slot → Prop) (μ : σ → Nat) {stk : List Value}
    (body : ∀ (x : σ) (ls : Array Slot), I x ls → (∀ (y : σ) (ls1 : Array Slot), I y ls1 → μ y < μ x → W p l e R s m args below meth c H locs cells slots Q (F0 m pc ls1 stk)) → W p l e R s m args below meth c H locs cells slots Q (F0 m pc ls stk))
    (x : σ) (h : I x ls) : W p l e R s m args below meth c H locs cells slots Q (F0 m pc ls stk) := by
  have key : ∀ (n : Nat) (x : σ) (ls : Array Slot), μ x < n → I x ls → W p l e R s m args below meth c H locs cells slots Q (F0 m pc ls stk) := by
    intro n
    induction n with
    | zero => intro x ls h; exact absurd h (Nat.not_lt_zero _)
    | succ n ih => intro x ls hn hI; exact body x ls hI (fun y ls1 hy hlt => ih y ls1 (by omega) hy)
  exact key _ x ls (Nat.lt_succ_self _) h
/-- a place where ways meet -/
theorem cutR {σ : Type} (pcJ : Nat) (I : σ → Array Slot → Prop) (stk : σ → List Value) (body : ∀ (x : σ) (ls : Array Slot), I x ls → W p l e R s m args below meth c H locs cells slots Q (F0 m pcJ ls (stk x)))
    (kk : (∀ (x : σ) (ls : Array Slot), I x ls → W p l e R s m args below meth c H locs cells slots Q (F0 m pcJ ls (stk x))) → W p l e R s m args below meth c H locs cells slots Q (F0 m pc ls rest)) : W p l e R s m args below meth c H locs cells slots Q (F0 m pc ls rest) := kk body
theorem cutW {σ : Type} (pcJ : Nat) (I : σ → Heap → List Loc → Array Slot → Prop) (stk : σ → List Value) (body : ∀ (x : σ) (H : Heap) (locs : List Loc) (ls : Array Slot), I x H locs ls → W p l e R s m args below meth c H locs cells slots Q (F0 m pcJ ls (stk x)))
    (kk : (∀ (x : σ) (H : Heap) (locs : List Loc) (ls : Array Slot), I x H locs ls → W p l e R s m args below meth c H locs cells slots Q (F0 m pcJ ls (stk x))) → W p l e R s m args below meth c H locs cells slots Q (F0 m pc ls rest)) : W p l e R s m args below meth c H locs cells slots Q (F0 m pc ls rest) := kk body
end B3
