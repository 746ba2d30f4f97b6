/-! What the reference finds by kinds is what the words of 32 say -/
theorem rd_glo {P : St} {q x : Nat} (hk : okQ P q) (hx : x < 4) : (bt (rdI P q) (8 + x) = true ↔ kd P q = 9 ∧ ix (P 3 q) = x) ∧ (bt (thrI P q) (8 + x) = true ↔ kd P q = 9 ∧ ix (P 3 q) = x) := by
  obtain ⟨j, hk, hj, hA, hB, hC⟩ := hk
  unfold rdI thrI
  rw [kd_of hk hj]
  have hb : ∀ a, a < 8 → bt (bitI a) (8 + x) = false := fun a ha => by rw [b_bit (by omega)]; exact decide_eq_false (by omega)
  have la : ∀ {z : Int32}, lim 8 z → ix z < 8 := fun {z} h => by
    obtain ⟨i, hi, rfl⟩ := lim_nI h (by decide)
    rw [ix_nI (by omega)]; exact hi
  rcases (show j = 0 ∨ j = 1 ∨ j = 2 ∨ j = 3 ∨ j = 4 ∨ j = 5 ∨ j = 6 ∨ j = 7 ∨ j = 8 ∨ j = 9 ∨ j = 10 ∨ j = 11 ∨ j = 12 ∨ j = 13 by omega) with rfl | rfl | rfl | rfl | rfl | rfl | rfl | rfl | rfl | rfl | rfl | rfl | rfl | rfl
  case inr.inr.inr.inr.inr.inr.inr.inr.inr.inl =>
    obtain ⟨b, hb1, e⟩ := lim_nI (n := 4) hB (by decide)
    have hb1 : b < 4 := hb1
    rw [e, ix_nI (by omega)]
    simp [b_bit (show 8 + b < 32 by omega)]
    omega
  case inl => simp [b_0]
  case inr.inl => simp [b_0]
  case inr.inr.inl => simp [b_0]
  case inr.inr.inr.inl => simp [b_or, hb _ (la (z := P 3 q) hB), hb _ (la (z := P 4 q) hC)]
  case inr.inr.inr.inr.inl => simp [b_or, hb _ (la (z := P 3 q) hB), hb _ (la (z := P 4 q) hC)]
  case inr.inr.inr.inr.inr.inl => simp [b_or, hb _ (la (z := P 3 q) hB), hb _ (la (z := P 4 q) hC)]
  case inr.inr.inr.inr.inr.inr.inl => simp [b_or, hb _ (la (z := P 3 q) hB), hb _ (la (z := P 4 q) hC)]
  case inr.inr.inr.inr.inr.inr.inr.inl => simp [b_or, hb _ (la (z := P 2 q) hA), hb _ (la (z := P 3 q) hB)]
  case inr.inr.inr.inr.inr.inr.inr.inr.inl => simp [b_0, hb _ (la (z := P 3 q) hB)]
  case inr.inr.inr.inr.inr.inr.inr.inr.inr.inr.inl => simp [hb _ (la (z := P 2 q) hA)]
  case inr.inr.inr.inr.inr.inr.inr.inr.inr.inr.inr.inl => simp [b_0, hb _ (la (z := P 2 q) hA)]
  case inr.inr.inr.inr.inr.inr.inr.inr.inr.inr.inr.inr.inl => simp [b_0]
  case inr.inr.inr.inr.inr.inr.inr.inr.inr.inr.inr.inr.inr => simp [b_0]
section HP
variable {n : Nat} {P : St} (hv : okV n P) {v u : Nat}
theorem g_src {x : Nat} (hn : n ≤ 24) (hu : u < n) (e : setI P u = bitI x) : srcP n (nxI n P) (fun s1 => decide (setI P s1 = bitI x)) v u ↔ RC n (nxI n P) (mkM n (fun p => decide (setI P p = setI P u))) u v :=
  src_RC hu (fun y hy => by rw [b_stops hn y hy, e])
theorem g1_DQ (w : Bool) (rd : St → Nat → Int32) (hv : okV n P) (hvn : v < n) (hrd : ∀ x, x < 8 → bt (rrI P v w) x = bt (rd P v) x) : g1M n P v w u ↔ u < n ∧ ¬ (256 : Int32) ≤ setI P u ∧ DQ n (nxI n P) P rd v u := by
  have hn := hv.1
  unfold g1M DQ
  refine and_congr_right fun hu => ?_
  constructor
  · rintro ⟨x, hx, h1, h2, e⟩
    refine ⟨by rw [e]; exact reg_256 x hx, by rw [e]; exact bitI_0 (by omega), (g_src hn hu e).mp h2, ?_⟩
    rw [e, set_and (by omega), ← hrd x hx]; exact h1
  · rintro ⟨h0, h1, h2, h3⟩
    rcases set_cases (hv.2.2.1 u (by omega)) with e | ⟨x, hx, e⟩ | ⟨x, hx, e⟩
    · exact absurd e h1
    · refine ⟨x, hx, ?_, (g_src hn hu e).mpr h2, e⟩
      rw [e, set_and (by omega)] at h3
      rw [hrd x hx]; exact h3
    · rw [e] at h0; exact absurd (glo_256 x hx) h0
theorem g2_N : g2M n P v u ↔ u < n ∧ hqN n (nxI n P) P v u := by
  unfold g2M hqN
  refine and_congr_right fun hu => ?_
  rw [src_RC (m := 0) hu (fun y _ => b_0 y)]
  constructor
  · rintro ⟨a, b, c, d⟩; exact ⟨c, a, b, d⟩
  · rintro ⟨c, a, b, d⟩; exact ⟨a, b, c, d⟩
theorem g3_DQ (rd : St → Nat → Int32) (hv : okV n P) (hvn : v < n) (hrd : ∀ x, x < 4 → (bt (rd P v) (8 + x) = true ↔ kd P v = 9 ∧ ix (P 3 v) = x)) : g3M n P v u ↔ u < n ∧ (256 : Int32) ≤ setI P u ∧ DQ n (nxI n P) P rd v u := by
  have hn := hv.1
  unfold g3M DQ
  refine and_congr_right fun hu => ?_
  constructor
  · rintro ⟨h9, h2, e⟩
    have hb : ix (P 3 v) < 4 := by
      obtain ⟨j, hk, hj, hA, hB, hC⟩ := hv.2.2.1 v (by omega)
      rw [kd_of hk hj] at h9
      subst h9
      obtain ⟨b, hb1, e1⟩ := lim_nI (n := 4) hB (by decide)
      rw [e1, ix_nI (by omega)]; exact hb1
    refine ⟨by rw [e]; exact glo_256 _ hb, by rw [e]; exact bitI_0 (by omega), (g_src hn hu e).mp h2, ?_⟩
    rw [e, set_and (by omega)]
    exact (hrd _ hb).mpr ⟨h9, rfl⟩
  · rintro ⟨h0, h1, h2, h3⟩
    rcases set_cases (hv.2.2.1 u (by omega)) with e | ⟨x, hx, e⟩ | ⟨x, hx, e⟩
    · exact absurd e h1
    · rw [e] at h0; exact absurd h0 (reg_256 x hx)
    · rw [e, set_and (by omega)] at h3
      obtain ⟨h9, hx3⟩ := (hrd x hx).mp h3
      subst hx3
      exact ⟨h9, (g_src hn hu e).mpr h2, e⟩
end HP
theorem g1_pH {n : Nat} {P : St} (hv : okV n P) {v u : Nat} (hvn : v < n) : g1M n P v false u ↔ pH n P 0 v u := by
  have hn := hv.1
  rw [g1_DQ false rdI hv hvn (fun x hx => (rr_rd (hv.2.2.1 v (by omega)) hx).1)]
  exact Iff.rfl
theorem g2_pH {n : Nat} {P : St} {v u : Nat} : g2M n P v u ↔ pH n P 1 v u := by rw [g2_N]; exact Iff.rfl
theorem g3_pH {n : Nat} {P : St} (hv : okV n P) {v u : Nat} (hvn : v < n) : g3M n P v u ↔ pH n P 2 v u := by
  have hn := hv.1
  rw [g3_DQ rdI hv hvn (fun x hx => (rd_glo (hv.2.2.1 v (by omega)) hx).1)]
  exact Iff.rfl
theorem thin_HT {n : Nat} {P : St} (hv : okV n P) {v u : Nat} (hvn : v < n) : (g1M n P v true u ∨ g2M n P v u ∨ g3M n P v u) ↔ HT n P v u := by
  have hn := hv.1
  rw [g1_DQ true thrI hv hvn (fun x hx => (rr_rd (hv.2.2.1 v (by omega)) hx).2), g2_N, g3_DQ thrI hv hvn (fun x hx => (rd_glo (hv.2.2.1 v (by omega)) hx).2)]
  unfold HT hqT
  constructor
  · rintro (⟨a, b, c⟩ | ⟨a, b⟩ | ⟨a, b, c⟩)
    · exact ⟨a, Or.inl c⟩
    · exact ⟨a, Or.inr b⟩
    · exact ⟨a, Or.inl c⟩
  · rintro ⟨a, b | b⟩
    · rcases Classical.em ((256 : Int32) ≤ setI P u) with h | h
      · exact Or.inr (Or.inr ⟨a, h, b⟩)
      · exact Or.inl ⟨a, h, b⟩
    · exact Or.inr (Or.inl ⟨a, b⟩)
