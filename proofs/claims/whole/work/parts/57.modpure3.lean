/-! Small words: numbers of a line; counts of masks by four; the k-th out of 96 -/
theorem sw14 (x : Int32) : x = 0 ∨ x = 1 ∨ x = 2 ∨ x = 3 ∨ x = 4 ∨ x = 5 ∨ x = 6 ∨ x = 7 ∨ x = 8 ∨ x = 9 ∨ x = 10 ∨ x = 11 ∨ x = 12 ∨ x = 13 ∨ ((x.toInt < 0 ∨ 13 < x.toInt) ∧ ¬ rgt x 14) := by
  rcases pk_ix x (n := 14) (by decide) with h | h | ⟨q, hq, rfl⟩
  · have h' := rgt_neg (x := x) (N := 14) (by decide) h
    rw [Int32.lt_iff_toInt_lt] at h
    have : (0 : Int32).toInt = 0 := by decide
    have h2 : (x.toInt < 0 ∨ 13 < x.toInt) ∧ ¬ rgt x 14 := ⟨Or.inl (by omega), h'⟩
    simp only [h2]; simp
  · have h' := rgt_big (x := x) (N := 14) (by decide) h
    rw [Int32.le_iff_toInt_le, nI_toInt (by decide)] at h
    have h2 : (x.toInt < 0 ∨ 13 < x.toInt) ∧ ¬ rgt x 14 := ⟨Or.inr (by omega), h'⟩
    simp only [h2]; simp
  · rcases (show q = 0 ∨ q = 1 ∨ q = 2 ∨ q = 3 ∨ q = 4 ∨ q = 5 ∨ q = 6 ∨ q = 7 ∨ q = 8 ∨ q = 9 ∨ q = 10 ∨ q = 11 ∨ q = 12 ∨ q = 13 by omega) with rfl | rfl | rfl | rfl | rfl | rfl | rfl | rfl | rfl | rfl | rfl | rfl | rfl | rfl
    all_goals (repeat (first | exact Or.inl rfl | apply Or.inr))
theorem lim_rgt {n : Nat} {x : Int32} (h : 0 < n) : lim n x ↔ rgt x n := ⟨fun z => lim_nI z h, fun z => Or.inr z⟩
theorem lim_z {x : Int32} : lim 0 x := Or.inl rfl
theorem in_pt {y : Int32} : inB y.toInt64 1 15 = true ↔ rgt y 16 ∧ ¬ y = 0 := by
  have h0 : (1 : Int64).toInt = 1 := by decide
  have h1 : (15 : Int64).toInt = 15 := by decide
  unfold inB
  rw [decide_eq_true_eq, Int64.lt_iff_toInt_lt, Int64.lt_iff_toInt_lt, l_ti, h0, h1]
  constructor
  · rintro ⟨a, b⟩
    have h2 : ¬ y < 0 := by rw [Int32.lt_iff_toInt_lt]; have : (0 : Int32).toInt = 0 := (by decide); omega
    refine ⟨rgt_yes (by decide) h2 (fun z => ?_), fun z => ?_⟩
    · rw [Int32.le_iff_toInt_le, nI_toInt (by decide)] at z
      omega
    · rw [z] at a; exact a (by decide)
  · rintro ⟨⟨q, hq, rfl⟩, hz⟩
    rw [nI_toInt (by omega)]
    have : ¬ q = 0 := fun e => hz (by rw [e]; rfl)
    omega
theorem in_29 {x : Int32} : inB x.toInt64 2 9 = true ↔ ∃ q, q < 8 ∧ x = nI (q + 2) := by
  have h0 : (2 : Int64).toInt = 2 := by decide
  have h1 : (9 : Int64).toInt = 9 := by decide
  unfold inB
  rw [decide_eq_true_eq, Int64.lt_iff_toInt_lt, Int64.lt_iff_toInt_lt, l_ti, h0, h1]
  constructor
  · rintro ⟨a, b⟩
    have h2 : ¬ x < 0 := by rw [Int32.lt_iff_toInt_lt]; have : (0 : Int32).toInt = 0 := (by decide); omega
    obtain ⟨q, hq, rfl⟩ := rgt_yes (N := 10) (by decide) h2 (fun z => by
      rw [Int32.le_iff_toInt_le, nI_toInt (by decide)] at z
      omega)
    rw [nI_toInt (by omega)] at a b
    exact ⟨q - 2, by omega, by rw [show q - 2 + 2 = q by omega]⟩
  · rintro ⟨q, hq, rfl⟩
    rw [nI_toInt (by omega)]
    omega
theorem left_no2 {x : Int32} (h0 : ¬ x = 0) (h1 : ¬ x = 1) (h2 : ¬ ∃ q, q < 8 ∧ x = nI (q + 2)) : ¬ rgt x 10 := by
  rintro ⟨q, hq, rfl⟩
  rcases (show q = 0 ∨ q = 1 ∨ 2 ≤ q by omega) with rfl | rfl | h
  · exact h0 rfl
  · exact h1 rfl
  · exact h2 ⟨q - 2, by omega, by rw [show q - 2 + 2 = q by omega]⟩
/-- place q written anew in the reference -/
def wrQ (q n : Nat) (V U : St) (x a b c : Int32) : Prop := (∀ i, ¬ i = 0 → ¬ (1 ≤ i ∧ i < 5) → U i = V i) ∧ (∀ j, ¬ j = 0 → ¬ j = 22 → U 0 j = V 0 j) ∧ U 0 22 = 0 ∧ U 0 0 = nI n ∧ U 1 = upd (V 1) q x ∧ U 2 = upd (V 2) q a ∧ U 3 = upd (V 3) q b ∧ U 4 = upd (V 4) q c
theorem and3 : ∀ i, i < 96 → nI i &&& 3 = nI (i % 4) := by decide +kernel
theorem shr2 : ∀ i, i < 96 → nI i >>> ((2 : Int32) &&& 31) = nI (i / 4) := by decide +kernel
theorem bt_nI (m : Int32) {i : Nat} (hi : i < 32) : (m >>> (nI i &&& 31)) &&& 1 = nI (if bt m i = true then 1 else 0) := by
  cases hb : bt m i with
  | true => rw [(tS1 m hi).mpr hb]; rfl
  | false => rw [(tS0 m hi).mpr hb]; rfl
theorem cnt_step (m : Int32) {i : Nat} (hi : i < 32) : nI (cntN i m) + ((m >>> (nI i &&& 31)) &&& 1) = nI (cntN (i + 1) m) := by
  rw [bt_nI m hi, nI_add]; rfl
/-- how many of the first i of the bits of four masks, taken in turn -/
def cq4 (M : Nat → Int32) : Nat → Nat
  | 0 => 0
  | i + 1 => cq4 M i + (if bt (M (i % 4)) (i / 4) = true then 1 else 0)
theorem cq4_step (M : Nat → Int32) {i : Nat} (hi : i < 96) : nI (cq4 M i) + ((M (i % 4) >>> (nI (i / 4) &&& 31)) &&& 1) = nI (cq4 M (i + 1)) := by
  rw [bt_nI _ (by omega), nI_add]; rfl
theorem cq4_sum (M : Nat → Int32) : ∀ j, cq4 M (4 * j) = cntN j (M 0) + cntN j (M 1) + cntN j (M 2) + cntN j (M 3)
  | 0 => rfl
  | j + 1 => by
    have ih := cq4_sum M j
    have e : 4 * (j + 1) = 4 * j + 1 + 1 + 1 + 1 := by omega
    rw [e]
    show cq4 M (4 * j) + _ + _ + _ + _ = (cntN j (M 0) + _) + (cntN j (M 1) + _) + (cntN j (M 2) + _) + (cntN j (M 3) + _)
    rw [ih, show (4 * j) % 4 = 0 by omega, show (4 * j) / 4 = j by omega, show (4 * j + 1) % 4 = 1 by omega, show (4 * j + 1) / 4 = j by omega, show (4 * j + 1 + 1) % 4 = 2 by omega, show (4 * j + 1 + 1) / 4 = j by omega, show (4 * j + 1 + 1 + 1) % 4 = 3 by omega, show (4 * j + 1 + 1 + 1) / 4 = j by omega]
    omega
theorem kth_none {f : Nat → Bool} : ∀ (m i c : Nat), (∀ j, i ≤ j → f j = false) → kthS f m i c = none
  | 0, _, _, _ => rfl
  | m + 1, i, c, h => by
    rw [kth_f (h i (Nat.le_refl _)) (by omega)]
    exact kth_none m (i + 1) c (fun j hj => h j (by omega))
theorem kth_more {f : Nat → Bool} : ∀ (m d i c : Nat), (∀ j, i + m ≤ j → f j = false) → kthS f (m + d) i c = kthS f m i c
  | 0, d, i, c, h => by rw [kth_none _ _ _ (fun j hj => h j (by omega))]; rfl
  | m + 1, d, i, c, h => by
    have ih := fun c => kth_more m d (i + 1) c (fun j hj => h j (by omega))
    rw [show m + 1 + d = (m + d) + 1 by omega]
    show (if f i = true then (if c = 0 then some i else kthS f (m + d) (i + 1) (c - 1)) else kthS f (m + d) (i + 1) c) = (if f i = true then (if c = 0 then some i else kthS f m (i + 1) (c - 1)) else kthS f m (i + 1) c)
    rw [ih, ih]
theorem MG.row {n : Nat} {P V : St} (h : MG n P V) (hv : okV n P) {v : Nat} (hvn : v < n) {k : Nat} (hk : k < 4) : isM (V 14 (4 * v + k)) (pH n P k v) := by
  have hf := (h.2 v hvn).1
  rcases (show k = 0 ∨ k = 1 ∨ k = 2 ∨ k = 3 by omega) with rfl | rfl | rfl | rfl
  · exact fun j => (hf.1 j).trans (g1_pH hv hvn)
  · exact fun j => (hf.2.1 j).trans g2_pH
  · exact fun j => (hf.2.2.1 j).trans (g3_pH hv hvn)
  · exact hf.2.2.2
theorem pH_lt {n : Nat} {P : St} {k v u : Nat} (h : pH n P k v u) : u < n := h.1
/-- how many causes -/
def csR (n : Nat) (P : St) (x r : Int32) : Prop := (¬ rgt x n ∧ r = -1) ∨ (∃ q, q < n ∧ x = nI q ∧ ∃ M : Nat → Int32, (∀ k, k < 4 → isM (M k) (pH n P k q)) ∧ r = nI (cntN 24 (M 0) + cntN 24 (M 1) + cntN 24 (M 2) + cntN 24 (M 3)))
def fqB (U : St) (q i : Nat) : Bool := bt (U 14 (4 * q + i % 4)) (i / 4)
