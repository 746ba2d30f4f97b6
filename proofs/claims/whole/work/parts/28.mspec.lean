/-! What a run does, in numbers -/
def bc1 (x : Int32) : Int32 := x - ((x.toUInt32 >>> ((1 : Int32).toUInt32 &&& Int32.toUInt32 31)).toInt32 &&& 1431655765)
def bc2 (x : Int32) : Int32 := (x &&& 858993459) + ((x.toUInt32 >>> ((2 : Int32).toUInt32 &&& Int32.toUInt32 31)).toInt32 &&& 858993459)
def bc3 (x : Int32) : Int32 := (x + (x.toUInt32 >>> ((4 : Int32).toUInt32 &&& Int32.toUInt32 31)).toInt32) &&& 252645135
def bc4 (x : Int32) : Int32 := x + (x.toUInt32 >>> ((8 : Int32).toUInt32 &&& Int32.toUInt32 31)).toInt32
def bc5 (x : Int32) : Int32 := x + (x.toUInt32 >>> ((16 : Int32).toUInt32 &&& Int32.toUInt32 31)).toInt32
/-- Integer.bitCount as it reckons -/
def bcI (x : Int32) : Int32 := bc5 (bc4 (bc3 (bc2 (bc1 x)))) &&& 63
theorem bcI_15 : ∀ x, x < 16 → bcI (nI x) = nI (cntN 4 (nI x)) := by decide +kernel
theorem cntN_15 (x : Nat) (h1 : 1 ≤ x) (h2 : x < 16) : 1 ≤ cntN 4 (nI x) := (by decide +kernel : ∀ x, x < 16 → 1 ≤ x → 1 ≤ cntN 4 (nI x)) x h2 h1
/-- the row that a name m is of, by input 3 -/
def chR (m y : Int32) : Nat := (kthS (bt m) 4 0 (ix (y &&& 2147483647) % cntN 4 m)).getD 0
theorem kth_lt (f : Nat → Bool) : ∀ (m i c r : Nat), kthS f m i c = some r → r < i + m
  | 0, _, _, _, h => by cases h
  | m + 1, i, c, r, h => by
    have h0 : (if f i = true then (if c = 0 then some i else kthS f m (i + 1) (c - 1)) else kthS f m (i + 1) c) = some r := h
    split at h0
    · split at h0
      · cases h0; omega
      · have := kth_lt f m (i + 1) (c - 1) r h0; omega
    · have := kth_lt f m (i + 1) c r h0; omega
theorem chR_lt (m y : Int32) : chR m y < 4 := by
  unfold chR
  cases h : kthS (bt m) 4 0 (ix (y &&& 2147483647) % cntN 4 m) with
  | none => show (0 : Nat) < 4; omega
  | some r => have := kth_lt _ _ _ _ _ h; show r < 4; omega
theorem and_max (y : Int32) : ∃ a, a < 2 ^ 31 ∧ y &&& 2147483647 = nI a := by
  obtain ⟨a, h, e⟩ := pk_andE y (m := 2147483647) 31 (by decide)
  exact ⟨a, h, e⟩
def itI (o y : Int32) : Int32 := o * 8 + (y &&& 7)
theorem itI_in {o y : Int32} (h : ∃ i, i < 4 ∧ o = nI i) : vp_in (itI o y) 32 := by
  obtain ⟨i, hi, rfl⟩ := h
  obtain ⟨j, hj, e⟩ := pk_andE y (m := 7) 3 (by decide)
  unfold itI
  rw [e, show (8 : Int32) = nI 8 from rfl, pk_mul, nI_add]
  exact vp_in_nI (by omega) (by omega)
def stF (Pv : St) (r : Nat → Int32) (p : Nat) : Bool := (kd Pv p == 6 && decide (r (ix (Pv 4 p)) = 0)) || fgB Pv p
/-- the value of a kind that sets a register -/
def vlS (j : Nat) (b c : Int32) (I r t g o : Nat → Int32) : Int32 :=
  if j = 1 then b else if j = 2 then I (ix b) else if j = 3 then r (ix b) + r (ix c) else if j = 4 then (if r (ix b) < r (ix c) then 1 else 0) else if j = 5 then r (ix b) * r (ix c) else if j = 6 then (if r (ix c) = 0 then 0 else r (ix b) / r (ix c)) else if j = 8 then t (ix (itI (o (ix c)) (r (ix b)))) else if j = 9 then g (ix b) else 0
/-- what a place tells -/
def tlS (Pv : St) (I r t g o : Nat → Int32) (p : Nat) : Int32 :=
  if stF Pv r p = true then 1000000007 else if kd Pv p = 7 ∨ kd Pv p = 10 then r (ix (Pv 2 p)) else if kd Pv p = 11 then (if r (ix (Pv 2 p)) = 0 then 1 else 0) else if kd Pv p = 0 ∨ kd Pv p = 12 ∨ kd Pv p = 13 then 0 else vlS (kd Pv p) (Pv 3 p) (Pv 4 p) I r t g o
def reS (Pv : St) (I r t g o : Nat → Int32) (p : Nat) : Nat → Int32 := if stF Pv r p = true then r else if kd Pv p = 0 ∨ kd Pv p = 7 ∨ kd Pv p = 10 ∨ kd Pv p = 11 ∨ kd Pv p = 12 ∨ kd Pv p = 13 then r else upd r (ix (Pv 2 p)) (tlS Pv I r t g o p)
def tiS (Pv : St) (I r t g o : Nat → Int32) (p : Nat) : Nat → Int32 := if stF Pv r p = true then t else if kd Pv p = 7 then upd t (ix (itI (o (ix (Pv 4 p))) (r (ix (Pv 3 p))))) (tlS Pv I r t g o p) else t
def glS (Pv : St) (I r t g o : Nat → Int32) (p : Nat) : Nat → Int32 := if stF Pv r p = true then g else if kd Pv p = 10 then upd g (ix (Pv 3 p)) (tlS Pv I r t g o p) else g
/-- where it goes on (the end: 24) -/
def nwS (Pv : St) (r : Nat → Int32) (p : Nat) : Nat := if stF Pv r p = true then 24 else if kd Pv p = 11 then (if r (ix (Pv 2 p)) = 0 then ix (Pv 3 p) else p + 1) else if kd Pv p = 12 then ix (Pv 3 p) else if kd Pv p = 13 then 24 else p + 1
/-- a run's state: registers, items, globals, what was told, how often, steps -/
abbrev RS : Type := (Nat → Int32) × (Nat → Int32) × (Nat → Int32) × (Nat → Int32) × Nat × Nat
def rsS (Pv : St) (I o : Nat → Int32) (w p : Nat) (z : RS) : RS :=
  (reS Pv I z.1 z.2.1 z.2.2.1 o p, tiS Pv I z.1 z.2.1 z.2.2.1 o p, glS Pv I z.1 z.2.1 z.2.2.1 o p, if p = w then upd z.2.2.2.1 z.2.2.2.2.1 (tlS Pv I z.1 z.2.1 z.2.2.1 o p) else z.2.2.2.1, if p = w then z.2.2.2.2.1 + 1 else z.2.2.2.2.1, z.2.2.2.2.2 + 1)
def ffS (x : Int32) (n p : Nat) : Nat := firstB (bt x) (n - p) p
/-- a run with so many steps left, come to place p: how it ended, where it failed, its state -/
def rnS (Pv : St) (I o : Nat → Int32) (x : Int32) (w n : Nat) : Nat → Nat → RS → Nat × Int32 × RS
  | 0, p, z => (if p < n then 2 else 0, -4, z)
  | m + 1, p, z => if p < n then (if stF Pv z.1 p = true then (1, nI p, rsS Pv I o w p z) else rnS Pv I o x w n m (ffS x n (nwS Pv z.1 p)) (rsS Pv I o w p z)) else (0, -4, z)
theorem rn_end {Pv : St} {I o : Nat → Int32} {x : Int32} {w n m p : Nat} {z : RS} (h : ¬ p < n) : rnS Pv I o x w n m p z = (0, -4, z) := by
  cases m with
  | zero => show (ite _ _ _, _) = _; rw [if_neg h]
  | succ m => show ite _ _ _ = _; rw [if_neg h]
theorem rn_fail {Pv : St} {I o : Nat → Int32} {x : Int32} {w n m p : Nat} {z : RS} (hm : 0 < m) (h : p < n) (hF : stF Pv z.1 p = true) : rnS Pv I o x w n m p z = (1, nI p, rsS Pv I o w p z) := by
  cases m with
  | zero => omega
  | succ m => show ite _ _ _ = _; rw [if_pos h, if_pos hF]
theorem rn_go {Pv : St} {I o : Nat → Int32} {x : Int32} {w n m p : Nat} {z : RS} (hm : 0 < m) (h : p < n) (hF : stF Pv z.1 p = false) : rnS Pv I o x w n m p z = rnS Pv I o x w n (m - 1) (ffS x n (nwS Pv z.1 p)) (rsS Pv I o w p z) := by
  cases m with
  | zero => omega
  | succ m => show ite _ _ _ = _; rw [if_pos h, if_neg (by rw [hF]; decide)]; rfl
theorem nI_m4 {a : Nat} (h : a < 2 ^ 31) : ¬ nI a = -4 := fun e => by
  have h1 := nI_toInt h
  rw [e] at h1
  have : ((-4 : Int32)).toInt = -4 := by decide
  omega
theorem nI_ix {n : Nat} {x : Int32} (h : lim n x) (h0 : 0 < n) (hn : n < 2 ^ 31) : x = nI (ix x) := by
  obtain ⟨i, hi, rfl⟩ := lim_nI h h0
  rw [ix_nI (by omega)]
theorem ffS_le {x : Int32} {n p : Nat} (hn : n ≤ 24) (hp : p ≤ 24) : ffS x n p ≤ 24 := by
  have := firstB_le (bt x) (n - p) p
  unfold ffS; omega
