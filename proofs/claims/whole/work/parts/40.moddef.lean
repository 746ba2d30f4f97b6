/-! The reference: its program as wP would hold it; its ranges -/
def pq (V : St) : St := fun i => if i = 0 then (fun j => if j = 7 then V 0 0 else 0) else if i = 1 then V 1 else if i = 2 then V 2 else if i = 3 then V 3 else if i = 4 then V 4 else if i = 5 then V 6 else if i = 6 then V 7 else if i = 7 then V 8 else fun _ => 0
theorem lg_lt (x y : Int64) : lg_cmp x y < 0 ↔ x < y := by
  unfold lg_cmp
  rcases Int.lt_trichotomy x.toInt y.toInt with h | h | h
  · have h1 : ¬ y < x := by rw [Int64.lt_iff_toInt_lt]; omega
    have h2 : x < y := Int64.lt_iff_toInt_lt.mpr h
    have h3 : ¬ x = y := fun z => by subst z; omega
    simp [h1, h2, h3]
  · have h3 : x = y := Int64.toInt_inj.mp h
    have h1 : ¬ y < x := by rw [Int64.lt_iff_toInt_lt]; omega
    have h2 : ¬ x < y := by rw [Int64.lt_iff_toInt_lt]; omega
    simp [h1, h2, h3]
  · have h1 : y < x := Int64.lt_iff_toInt_lt.mpr h
    have h2 : ¬ x < y := by rw [Int64.lt_iff_toInt_lt]; omega
    simp [h1, h2]
theorem lg_gt (x y : Int64) : 0 < lg_cmp x y ↔ y < x := by
  unfold lg_cmp
  rcases Int.lt_trichotomy x.toInt y.toInt with h | h | h
  · have h1 : ¬ y < x := by rw [Int64.lt_iff_toInt_lt]; omega
    have h3 : ¬ x = y := fun z => by subst z; omega
    simp [h1, h3]
  · have h3 : x = y := Int64.toInt_inj.mp h
    have h1 : ¬ y < x := by rw [Int64.lt_iff_toInt_lt]; omega
    simp [h1, h3]
  · have h1 : y < x := Int64.lt_iff_toInt_lt.mpr h
    simp [h1]
/-- in(v, low, high) -/
def inB (v lo hi : Int64) : Bool := decide (¬ v < lo ∧ ¬ hi < v)
theorem l_ti (x : Int32) : x.toInt64.toInt = x.toInt := Int32.toInt_toInt64 x
theorem inB_rgt {x : Int32} {lo hi : Int64} {n : Nat} (hn : n < 2 ^ 31) (h0 : lo.toInt = 0) (h1 : hi.toInt = (n : Int) - 1) : inB x.toInt64 lo hi = true ↔ rgt x n := by
  unfold inB
  rw [decide_eq_true_eq, Int64.lt_iff_toInt_lt, Int64.lt_iff_toInt_lt, l_ti, h0, h1]
  constructor
  · rintro ⟨a, b⟩
    have h2 : ¬ x < 0 := by rw [Int32.lt_iff_toInt_lt]; have : (0 : Int32).toInt = 0 := (by decide); omega
    refine rgt_yes hn h2 (fun z => ?_)
    rw [Int32.le_iff_toInt_le, nI_toInt hn] at z
    omega
  · rintro ⟨q, hq, rfl⟩
    rw [nI_toInt (by omega)]
    omega
theorem wn_eq {n : Nat} {P : St} {q : Nat} (h1 : ¬ kd P q = 12) (h2 : ¬ kd P q = 13) : wnI n P q = nxI n P q := by
  refine b_ext fun i hi => ?_
  unfold wnI nxI
  rw [if_neg h1, if_neg h2]
  rw [b_or]
  split
  · rw [b_or]; cases bt (plI n (q + 1)) i <;> simp
  · split
    · rw [b_or]; cases bt (plI n (q + 1)) i <;> simp
    · cases bt (plI n (q + 1)) i <;> simp
