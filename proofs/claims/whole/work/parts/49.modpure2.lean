/-! From the target back, and from the source on: the same -/
def srcP (n : Nat) (nx : Nat → Int32) (st : Nat → Bool) (v : Nat) : Nat → Prop := Cl (fun u => u < n ∧ bt (nx u) v = true) (fun s1 u => u < n ∧ s1 < n ∧ bt (nx u) s1 = true ∧ st s1 = false)
theorem src_RC {n : Nat} {nx : Nat → Int32} {st : Nat → Bool} {m : Int32} {u v : Nat} (hu : u < n) (hm : ∀ y, y < n → bt m y = st y) : srcP n nx st v u ↔ RC n nx m u v := by
  constructor
  · intro h
    have h1 := h (fun a => a < n ∧ ((a = u ∨ (st a = false ∧ RC n nx m u a)) → RC n nx m u v)) (fun a ha => ⟨ha.1, fun z => by
      rcases z with rfl | ⟨z1, z2⟩
      · exact Cl.base ha.2
      · exact Cl.step z2 ⟨ha.1, by rw [hm a ha.1]; exact z1, ha.2⟩⟩) (fun s1 a hs hr => ⟨hr.1, fun z => by
      refine hs.2 (Or.inr ⟨hr.2.2.2, ?_⟩)
      rcases z with rfl | ⟨z1, z2⟩
      · exact Cl.base hr.2.2.1
      · exact Cl.step z2 ⟨hr.1, by rw [hm a hr.1]; exact z1, hr.2.2.1⟩⟩)
    exact h1.2 (Or.inl rfl)
  · intro h
    have h1 := h (fun z => (z = v ∨ (z < n ∧ st z = false ∧ srcP n nx st v z)) → srcP n nx st v u) (fun z hz g => by
      rcases g with rfl | ⟨g1, g2, g3⟩
      · exact Cl.base ⟨hu, hz⟩
      · exact Cl.step g3 ⟨hu, g1, hz, g2⟩) (fun y z hy hr g => by
      refine hy (Or.inr ⟨hr.1, by rw [← hm y hr.1]; exact hr.2.1, ?_⟩)
      rcases g with rfl | ⟨g1, g2, g3⟩
      · exact Cl.base ⟨hr.1, hr.2.2⟩
      · exact Cl.step g3 ⟨hr.1, g1, hr.2.2, g2⟩)
    exact h1 (Or.inl rfl)
theorem src_lt {n : Nat} {nx : Nat → Int32} {st : Nat → Bool} {v u : Nat} (h : srcP n nx st v u) : u < n := h (fun a => a < n) (fun _ z => z.1) (fun _ _ _ z => z.1)
theorem b_stops {n : Nat} (hn : n ≤ 24) {P : St} {x : Int32} (y : Nat) (hy : y < n) : bt (mkM n (fun p => decide (setI P p = x))) y = decide (setI P y = x) := by
  rw [b_mkM _ n (by omega) y, decide_eq_true hy]; rfl
/-- the registers that the reference says are read are the class's bits below 8 -/
theorem rr_rd {P : St} {q x : Nat} (hk : okQ P q) (hx : x < 8) : bt (rrI P q false) x = bt (rdI P q) x ∧ bt (rrI P q true) x = bt (thrI P q) x := by
  obtain ⟨j, hk, hj, hA, hB, hC⟩ := hk
  unfold rrI rdI thrI
  rw [kd_of hk hj]
  rcases (show j = 0 ∨ j = 1 ∨ j = 2 ∨ j = 3 ∨ j = 4 ∨ j = 5 ∨ j = 6 ∨ j = 7 ∨ j = 8 ∨ j = 9 ∨ j = 10 ∨ j = 11 ∨ j = 12 ∨ j = 13 by omega) with rfl | rfl | rfl | rfl | rfl | rfl | rfl | rfl | rfl | rfl | rfl | rfl | rfl | rfl
  case inr.inr.inr.inr.inr.inr.inr.inr.inr.inl =>
    obtain ⟨b, hb, e⟩ := lim_nI (n := 4) hB (by decide)
    rw [e, ix_nI (by omega)]
    simp [b_0, b_bit (show 8 + b < 32 by omega)]
    omega
  all_goals simp
theorem set_and {r : Int32} {x : Nat} (hx : x < 32) : (¬ r &&& bitI x = 0) ↔ bt r x = true := by
  rw [and_ne0]
  constructor
  · rintro ⟨i, h1, h2⟩
    rw [b_bit hx, decide_eq_true_eq] at h2
    subst h2; exact h1
  · intro h
    exact ⟨x, h, by rw [b_bit hx]; simp⟩
/-- a register is set, or a global, or nothing -/
theorem set_cases {P : St} {q : Nat} (hk : okQ P q) : setI P q = 0 ∨ (∃ x, x < 8 ∧ setI P q = bitI x) ∨ (∃ x, x < 4 ∧ setI P q = bitI (8 + x)) := by
  obtain ⟨j, hk, hj, hA, hB, hC⟩ := hk
  unfold setI
  rw [kd_of hk hj]
  by_cases h1 : (1 ≤ j ∧ j ≤ 6) ∨ j = 8 ∨ j = 9
  · rw [if_pos h1]
    have h8 : lim 8 (P 2 q) := by
      have : LA.getD j 0 = 8 := by
        rcases (show j = 1 ∨ j = 2 ∨ j = 3 ∨ j = 4 ∨ j = 5 ∨ j = 6 ∨ j = 8 ∨ j = 9 by omega) with rfl | rfl | rfl | rfl | rfl | rfl | rfl | rfl <;> rfl
      rw [this] at hA; exact hA
    obtain ⟨a, ha, e⟩ := lim_nI h8 (by decide)
    rw [e, ix_nI (by omega)]
    exact Or.inr (Or.inl ⟨a, ha, rfl⟩)
  · rw [if_neg h1]
    by_cases h2 : j = 10
    · rw [if_pos h2]
      have h4 : lim 4 (P 3 q) := by subst h2; exact hB
      obtain ⟨b, hb, e⟩ := lim_nI h4 (by decide)
      rw [e, ix_nI (by omega)]
      exact Or.inr (Or.inr ⟨b, hb, rfl⟩)
    · rw [if_neg h2]; exact Or.inl rfl
theorem reg_256 : ∀ x, x < 8 → ¬ (256 : Int32) ≤ bitI x := by decide +kernel
theorem glo_256 : ∀ x, x < 4 → (256 : Int32) ≤ bitI (8 + x) := by decide +kernel
theorem z_256 : ¬ (256 : Int32) ≤ 0 := by decide
