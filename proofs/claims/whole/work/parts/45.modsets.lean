/-! The reference: what a place sets and reads -/
def rrI (P : St) (q : Nat) (w : Bool) : Int32 := if 3 ≤ kd P q ∧ kd P q ≤ 6 then bitI (ix (P 3 q)) ||| bitI (ix (P 4 q)) else if kd P q = 7 then (if w = true then bitI (ix (P 2 q)) else bitI (ix (P 2 q)) ||| bitI (ix (P 3 q))) else if kd P q = 8 then (if w = true then 0 else bitI (ix (P 3 q))) else if kd P q = 10 then bitI (ix (P 2 q)) else if kd P q = 11 then (if w = true then 0 else bitI (ix (P 2 q))) else 0
def stI (P : St) (q : Nat) : Int32 := if (1 ≤ kd P q ∧ kd P q ≤ 6) ∨ kd P q = 8 ∨ kd P q = 9 then P 2 q else -4
theorem in16 : ∀ j, j < 14 → inB (nI j).toInt64 1 6 = decide (1 ≤ j ∧ j ≤ 6) := by decide +kernel
theorem bitI_inj {a b : Nat} (ha : a < 32) (hb : b < 32) : bitI a = bitI b ↔ a = b := by
  constructor
  · intro h
    have h1 : bt (bitI a) a = true := by rw [b_bit ha]; simp
    rw [h, b_bit hb] at h1
    exact of_decide_eq_true h1
  · intro h; rw [h]
theorem bitI_0 {a : Nat} (ha : a < 32) : ¬ bitI a = 0 := fun h => by
  have h1 : bt (bitI a) a = true := by rw [b_bit ha]; simp
  rw [h, b_0] at h1; cases h1
theorem set_reg {P : St} {q x : Nat} (hk : ∃ j, P 1 q = nI j ∧ okN j (P 2 q) (P 3 q) (P 4 q)) (hx : x < 8) : stI P q = nI x ↔ setI P q = bitI x := by
  obtain ⟨j, hk, hj, hA, hB, hC⟩ := hk
  unfold stI setI
  rw [kd_of hk hj]
  by_cases h1 : (1 ≤ j ∧ j ≤ 6) ∨ j = 8 ∨ j = 9
  · rw [if_pos h1, if_pos h1]
    have h8 : lim 8 (P 2 q) := by
      have : LA.getD j 0 = 8 := by
        rcases (show j = 1 ∨ j = 2 ∨ j = 3 ∨ j = 4 ∨ j = 5 ∨ j = 6 ∨ j = 8 ∨ j = 9 by omega) with rfl | rfl | rfl | rfl | rfl | rfl | rfl | rfl <;> rfl
      rw [this] at hA; exact hA
    obtain ⟨a, ha, e⟩ := lim_nI h8 (by decide)
    rw [e, ix_nI (by omega), nI_eq (by omega) (by omega), bitI_inj (by omega) (by omega)]
  · rw [if_neg h1, if_neg h1]
    constructor
    · intro h; exact absurd h.symm (nI_m4 (by omega))
    · intro h
      exfalso
      by_cases h2 : j = 10
      · rw [if_pos h2] at h
        have h4 : lim 4 (P 3 q) := by subst h2; exact hB
        obtain ⟨b, hb, e⟩ := lim_nI h4 (by decide)
        rw [e, ix_nI (by omega), bitI_inj (by omega) (by omega)] at h
        omega
      · rw [if_neg h2] at h
        exact bitI_0 (by omega) h.symm
theorem set_glo {P : St} {q x : Nat} (hk : ∃ j, P 1 q = nI j ∧ okN j (P 2 q) (P 3 q) (P 4 q)) (hx : x < 4) : (kd P q = 10 ∧ P 3 q = nI x) ↔ setI P q = bitI (8 + x) := by
  obtain ⟨j, hk, hj, hA, hB, hC⟩ := hk
  unfold setI
  rw [kd_of hk hj]
  by_cases h1 : (1 ≤ j ∧ j ≤ 6) ∨ j = 8 ∨ j = 9
  · rw [if_pos h1]
    have h8 : lim 8 (P 2 q) := by
      have : LA.getD j 0 = 8 := by
        rcases (show j = 1 ∨ j = 2 ∨ j = 3 ∨ j = 4 ∨ j = 5 ∨ j = 6 ∨ j = 8 ∨ j = 9 by omega) with rfl | rfl | rfl | rfl | rfl | rfl | rfl | rfl <;> rfl
      rw [this] at hA; exact hA
    obtain ⟨a, ha, e⟩ := lim_nI h8 (by decide)
    rw [e, ix_nI (by omega), bitI_inj (by omega) (by omega)]
    constructor
    · rintro ⟨h, -⟩; omega
    · intro h; omega
  · rw [if_neg h1]
    by_cases h2 : j = 10
    · rw [if_pos h2]
      have h4 : lim 4 (P 3 q) := by subst h2; exact hB
      obtain ⟨b, hb, e⟩ := lim_nI h4 (by decide)
      rw [e, ix_nI (by omega), nI_eq (by omega) (by omega), bitI_inj (by omega) (by omega)]
      omega
    · rw [if_neg h2]
      constructor
      · rintro ⟨h, -⟩; omega
      · intro h; exact absurd h.symm (bitI_0 (by omega))
