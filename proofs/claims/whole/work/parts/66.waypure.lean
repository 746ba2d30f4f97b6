/-! Shortest ways: the class's levels and the reference's distances are the same -/
/-- the causes of a place as a mask -/
noncomputable def hA (n : Nat) (P : St) (p : Nat) : Int32 := mkM n (fun u => @decide (HA n P p u) (Classical.propDecidable _))
theorem hA_M {n : Nat} {P : St} (hn : n ≤ 24) (p : Nat) : isM (hA n P p) (HA n P p) := fun j => by
  unfold hA
  rw [b_mkM _ n (by omega) j, Bool.and_eq_true, decide_eq_true_eq, @decide_eq_true_iff _ (Classical.propDecidable _)]
  exact ⟨fun h => h.2, fun h => ⟨HA_lt h, h⟩⟩
theorem aw_0 {n u p : Nat} {h5 : Nat → Int32} (hu : u < 32) : bt (awS n h5 u 0) p = true ↔ p = u := by
  show bt (bitI u) p = true ↔ _
  rw [b_bit hu, decide_eq_true_eq]
theorem aw_s {n u p d : Nat} {h5 : Nat → Int32} (hn : n ≤ 24) : bt (awS n h5 u (d + 1)) p = true ↔ p < n ∧ ∃ q, bt (h5 p) q = true ∧ bt (awS n h5 u d) q = true := by
  show bt (mkM n (fun p => decide (¬ h5 p &&& awS n h5 u d = 0))) p = true ↔ _
  rw [b_mkM _ n (by omega) p, Bool.and_eq_true, decide_eq_true_eq, decide_eq_true_eq, and_ne0]
theorem aw_c {n u : Nat} {h5 h6 : Nat → Int32} (h : ∀ p, p < n → h5 p = h6 p) : ∀ d, awS n h5 u d = awS n h6 u d
  | 0 => rfl
  | d + 1 => by
    show mkM n (fun p => decide (¬ h5 p &&& awS n h5 u d = 0)) = mkM n (fun p => decide (¬ h6 p &&& awS n h6 u d = 0))
    rw [aw_c h d]
    exact mkM_congr n (fun i hi => by rw [h i hi])
theorem ds_c {n u v : Nat} {h5 h6 : Nat → Int32} (h : ∀ p, p < n → h5 p = h6 p) : dsS n h5 v u = dsS n h6 v u := by
  unfold dsS
  rw [show (fun d => bt (awS n h5 u d) v) = (fun d => bt (awS n h6 u d) v) from funext fun d => by rw [aw_c h d]]
theorem firstB_at {f : Nat → Bool} : ∀ (m i q : Nat), i ≤ q → q ≤ i + m → (f q = true ∨ q = i + m) → (∀ j, i ≤ j → j < q → f j = false) → firstB f m i = q
  | 0, i, q, h1, h2, _, _ => by show i = q; omega
  | m + 1, i, q, h1, h2, h3, h4 => by
    by_cases e : i = q
    · subst e
      rcases h3 with h3 | h3
      · exact firstB_t h3
      · omega
    · rw [firstB_f (h4 i (Nat.le_refl _) (by omega)) (by omega)]
      exact firstB_at m (i + 1) q (by omega) (by omega) (h3.imp id (fun z => by omega)) (fun j a b => h4 j (by omega) b)
theorem firstB_sp {f : Nat → Bool} : ∀ (m i : Nat), (∃ j, i ≤ j ∧ j ≤ i + m ∧ f j = true) → f (firstB f m i) = true ∧ firstB f m i ≤ i + m ∧ ∀ j, i ≤ j → j < firstB f m i → f j = false
  | 0, i, ⟨j, h1, h2, h3⟩ => by
    have e : j = i := by omega
    rw [e] at h3
    exact ⟨h3, Nat.le_refl _, fun j a b => absurd b (by show ¬ j < i; omega)⟩
  | m + 1, i, ⟨j, h1, h2, h3⟩ => by
    cases hf : f i with
    | true => rw [firstB_t hf]; exact ⟨hf, by omega, fun j a b => by omega⟩
    | false =>
      rw [firstB_f hf (by omega)]
      have hne : ¬ j = i := fun e => by rw [e, hf] at h3; cases h3
      obtain ⟨a, b, c⟩ := firstB_sp m (i + 1) ⟨j, by omega, by omega, h3⟩
      refine ⟨a, by show firstB f m (i + 1) ≤ _; omega, fun j' a' b' => ?_⟩
      by_cases e : j' = i
      · rw [e]; exact hf
      · exact c j' (by omega) b'
theorem b_m24 : ∀ i, i < 32 → bt (16777215 : Int32) i = decide (i < 24) := by decide +kernel
theorem cnt_24 {x : Int32} (h : ∀ i, bt x i = true → i < 24) : cnt x ≤ 24 := by
  have h1 : cnt x ≤ cnt 16777215 := cntN_mono 32 (fun i hi hb => by rw [b_m24 i hi]; exact decide_eq_true (h i hb))
  have h2 : cnt (16777215 : Int32) = 24 := by decide +kernel
  omega
def RM (n : Nat) (h5 : Nat → Int32) (u : Nat) : Nat → Int32
  | 0 => bitI u
  | d + 1 => RM n h5 u d ||| awS n h5 u (d + 1)
theorem b_RM {n : Nat} {h5 : Nat → Int32} {u : Nat} (p : Nat) : ∀ d, bt (RM n h5 u d) p = true ↔ ∃ i, i ≤ d ∧ bt (awS n h5 u i) p = true
  | 0 => ⟨fun h => ⟨0, Nat.le_refl _, h⟩, fun ⟨i, hi, h⟩ => by have e : i = 0 := (by omega); rw [e] at h; exact h⟩
  | d + 1 => by
    show bt (RM n h5 u d ||| awS n h5 u (d + 1)) p = true ↔ _
    rw [b_or, Bool.or_eq_true, b_RM p d]
    constructor
    · rintro (⟨i, hi, h⟩ | h)
      · exact ⟨i, by omega, h⟩
      · exact ⟨d + 1, Nat.le_refl _, h⟩
    · rintro ⟨i, hi, h⟩
      by_cases e : i = d + 1
      · rw [e] at h; exact Or.inr h
      · exact Or.inl ⟨i, by omega, h⟩
theorem RM_cl {n : Nat} {h5 : Nat → Int32} {u : Nat} (hn : n ≤ 24) (hu : u < n) : ∀ d, d + 1 ≤ cnt (RM n h5 u d) ∨ ∀ y z, y < n → bt (h5 y) z = true → bt (RM n h5 u d) z = true → bt (RM n h5 u d) y = true
  | 0 => Or.inl (cnt_pos (fun e => by
      have h : bt (RM n h5 u 0) u = true := (aw_0 (n := n) (h5 := h5) (by omega)).mpr rfl
      have e : RM n h5 u 0 = 0 := e
      rw [e, b_0] at h; cases h))
  | d + 1 => by
    have hs : ∀ y z, y < n → bt (h5 y) z = true → bt (RM n h5 u d) z = true → bt (RM n h5 u (d + 1)) y = true := fun y z hy hz h => by
      obtain ⟨i, hi, h⟩ := (b_RM z d).mp h
      exact (b_RM y (d + 1)).mpr ⟨i + 1, by omega, (aw_s hn).mpr ⟨hy, z, hz, h⟩⟩
    by_cases e : RM n h5 u (d + 1) = RM n h5 u d
    · exact Or.inr (fun y z hy hz h => hs y z hy hz (by rw [← e]; exact h))
    · rcases RM_cl (h5 := h5) hn hu d with h | h
      · have := cnt_lt (x := RM n h5 u d) (y := RM n h5 u (d + 1)) (fun i hi => by show bt (RM n h5 u d ||| _) i = true; rw [b_or, hi]; rfl) e
        exact Or.inl (by omega)
      · refine absurd (b_ext' fun p => ?_) e
        constructor
        · intro h1
          obtain ⟨i, hi, h1⟩ := (b_RM p (d + 1)).mp h1
          by_cases e1 : i = d + 1
          · rw [e1] at h1
            obtain ⟨hp, q, hq, hq2⟩ := (aw_s hn).mp h1
            exact h p q hp hq ((b_RM q d).mpr ⟨d, Nat.le_refl _, hq2⟩)
          · exact (b_RM p d).mpr ⟨i, by omega, h1⟩
        · intro h1
          obtain ⟨i, hi, h1⟩ := (b_RM p d).mp h1
          exact (b_RM p (d + 1)).mpr ⟨i, by omega, h1⟩
theorem aw_lt {n u p d : Nat} {h5 : Nat → Int32} (hn : n ≤ 24) (hu : u < n) (h : bt (awS n h5 u d) p = true) : p < n := by
  cases d with
  | zero => rw [(aw_0 (by omega)).mp h]; exact hu
  | succ d => exact ((aw_s hn).mp h).1
theorem RM_23 {n : Nat} {h5 : Nat → Int32} {u : Nat} (hn : n ≤ 24) (hu : u < n) : ∀ y z, y < n → bt (h5 y) z = true → bt (RM n h5 u 23) z = true → bt (RM n h5 u 23) y = true := by
  rcases RM_cl (h5 := h5) hn hu 23 with h | h
  · intro y z hy hz hb
    refine Classical.byContradiction fun hno => ?_
    have h1 := cnt_lt (x := RM n h5 u 23) (y := RM n h5 u 23 ||| bitI y) (fun i hi => by rw [b_or, hi]; rfl) (fun e => hno (by rw [← e, b_or, b_bit (by omega)]; simp))
    have h2 := cnt_24 (x := RM n h5 u 23 ||| bitI y) (fun i hi => by
      rw [b_or, Bool.or_eq_true, b_bit (by omega), decide_eq_true_eq] at hi
      rcases hi with hi | hi
      · obtain ⟨d, _, hd⟩ := (b_RM i 23).mp hi
        have := aw_lt hn hu hd
        omega
      · omega)
    omega
  · exact h
theorem Bk_aw {n : Nat} {P : St} {v u : Nat} (hn : n ≤ 24) (hv : v < n) (hu : u < n) : Bk n P v u ↔ ∃ d, d ≤ 23 ∧ bt (awS n (hA n P) u d) v = true := by
  constructor
  · intro h
    have hS := h (fun z => bt (RM n (hA n P) u 23) z = true → bt (RM n (hA n P) u 23) v = true) (fun y hy hb => by rw [hy] at hb; exact hb) (fun y z hy hr hb => hy (RM_23 hn hu y z hr.1 ((hA_M hn y z).mpr hr.2) hb))
    exact (b_RM v 23).mp (hS ((b_RM u 23).mpr ⟨0, by omega, (aw_0 (by omega)).mpr rfl⟩))
  · rintro ⟨d, _, h⟩
    have key : ∀ d v, bt (awS n (hA n P) u d) v = true → Bk n P v u := by
      intro d
      induction d with
      | zero => intro v h; exact Cl.base ((aw_0 (by omega)).mp h).symm
      | succ d ih =>
        intro v h
        obtain ⟨hv, q, hq, hq2⟩ := (aw_s hn).mp h
        have h1 := ih q hq2
        have hr := (hA_M hn v q).mp hq
        exact fun S h0 hs => h1 S (fun y hy => by rw [hy]; exact hs v q (h0 v rfl) ⟨hv, hr⟩) hs
    exact key d v h
/-- the reference's number of a place: its distance up to d, or 99 -/
def FarD (n : Nat) (P : St) (u d p v : Nat) : Prop := (v ≤ d ∧ bt (awS n (hA n P) u v) p = true ∧ ∀ i, i < v → ¬ bt (awS n (hA n P) u i) p = true) ∨ (v = 99 ∧ ∀ i, i ≤ d → ¬ bt (awS n (hA n P) u i) p = true)
section FAR
variable {n : Nat} {P : St} {u d p v : Nat}
theorem far_0 (hu : u < 32) (p : Nat) : FarD n P u 0 p (if p = u then 0 else 99) := by
  by_cases e : p = u
  · rw [if_pos e]; exact Or.inl ⟨Nat.le_refl _, (aw_0 hu).mpr e, fun i hi => absurd hi (Nat.not_lt_zero _)⟩
  · rw [if_neg e]; exact Or.inr ⟨rfl, fun i hi h => by have e0 : i = 0 := (by omega); rw [e0] at h; exact e ((aw_0 hu).mp h)⟩
theorem FarD.keep (h : FarD n P u d p v) (hv : ¬ v = 99) : FarD n P u (d + 1) p v := by
  rcases h with ⟨a, b, c⟩ | ⟨a, _⟩
  · exact Or.inl ⟨by omega, b, c⟩
  · exact absurd a hv
theorem FarD.le (h : FarD n P u d p v) (hv : ¬ v = 99) : v ≤ d := by
  rcases h with ⟨a, b, c⟩ | ⟨a, _⟩
  · exact a
  · exact absurd a hv
theorem FarD.set (hn : n ≤ 24) (hd : d < 99) (h : FarD n P u d p 99) (hp : p < n) {q : Nat} (hq : HA n P p q) (hf : FarD n P u d q d) : FarD n P u (d + 1) p (d + 1) := by
  rcases h with ⟨a, _, _⟩ | ⟨_, c⟩
  · omega
  · rcases hf with ⟨_, b, _⟩ | ⟨a, _⟩
    · exact Or.inl ⟨Nat.le_refl _, (aw_s hn).mpr ⟨hp, q, (hA_M hn p q).mpr hq, b⟩, fun i hi => c i (by omega)⟩
    · omega
theorem FarD.none (hn : n ≤ 24) (hd : d < 99) (h : FarD n P u d p 99) {f : Nat → Nat} (hf : ∀ q, q < n → FarD n P u d q (f q)) (hq : ∀ q, q < n → ¬ (HA n P p q ∧ f q = d)) : FarD n P u (d + 1) p 99 := by
  rcases h with ⟨a, _, _⟩ | ⟨_, c⟩
  · omega
  · refine Or.inr ⟨rfl, fun i hi hA1 => ?_⟩
    by_cases e : i = d + 1
    · rw [e] at hA1
      obtain ⟨hp, q, h1, h2⟩ := (aw_s hn).mp hA1
      have h1 := (hA_M hn p q).mp h1
      have hqn := HA_lt h1
      rcases hf q hqn with ⟨a, b, _⟩ | ⟨_, b⟩
      · have h3 : ¬ f q + 1 ≤ d := fun z => c (f q + 1) z ((aw_s hn).mpr ⟨hp, q, (hA_M hn p q).mpr h1, b⟩)
        exact hq q hqn ⟨h1, by omega⟩
      · exact b d (Nat.le_refl _) h2
    · exact c i (by omega) hA1
theorem FarD.u0 (hu : u < 32) (h : FarD n P u d p 0) : p = u := by
  rcases h with ⟨_, b, _⟩ | ⟨a, _⟩
  · exact (aw_0 hu).mp b
  · omega
theorem FarD.at (hu : u < 32) (h : FarD n P u d u v) : v = 0 := by
  rcases h with ⟨a, b, c⟩ | ⟨_, c⟩
  · rcases Nat.eq_zero_or_pos v with z | z
    · exact z
    · exact absurd ((aw_0 hu).mpr rfl) (c 0 z)
  · exact absurd ((aw_0 hu).mpr rfl) (c 0 (Nat.zero_le _))
/-- the length less one of a shortest way, and its places -/
noncomputable def dF (n : Nat) (P : St) (v u : Nat) : Nat := dsS n (hA n P) v u
noncomputable def wF (n : Nat) (P : St) (v u j : Nat) : Nat := wyS n (hA n P) v u j
theorem far_ds (h : FarD n P u 23 p v) (hv : ¬ v = 99) : v = dF n P p u := by
  rcases h with ⟨a, b, c⟩ | ⟨a, _⟩
  · exact (firstB_at (f := fun d => bt (awS n (hA n P) u d) p) 23 0 v (Nat.zero_le _) (by omega) (Or.inl b) (fun j _ hj => Bool.eq_false_iff.mpr (c j hj))).symm
  · exact absurd a hv
theorem far_Bk (hn : n ≤ 24) (hp : p < n) (hu : u < n) (h : FarD n P u 23 p v) : v = 99 ↔ ¬ Bk n P p u := by
  rw [Bk_aw hn hp hu]
  rcases h with ⟨a, b, c⟩ | ⟨a, c⟩
  · exact ⟨fun e => by omega, fun z => absurd ⟨v, a, b⟩ z⟩
  · exact ⟨fun _ ⟨d, hd, h⟩ => c d hd h, fun _ => a⟩
/-- a cause one nearer, least so, is the way's next -/
theorem far_cause (hn : n ≤ 24) {q e a : Nat} (hat : FarD n P u 23 p (e + 1)) (he : e + 1 ≤ 23) (hp : p < n) (hq : FarD n P u 23 q a) : (HA n P p q ∧ a = e) ↔ bt (hA n P p &&& awS n (hA n P) u e) q = true := by
  rw [b_and, Bool.and_eq_true, hA_M hn p q]
  rcases hat with ⟨_, b1, c1⟩ | ⟨z, _⟩
  · constructor
    · rintro ⟨h1, h2⟩
      rcases hq with ⟨_, b, _⟩ | ⟨z, _⟩
      · rw [h2] at b; exact ⟨h1, b⟩
      · omega
    · rintro ⟨h1, h2⟩
      refine ⟨h1, ?_⟩
      rcases hq with ⟨_, b, c⟩ | ⟨_, c⟩
      · have h3 : ¬ a + 1 < e + 1 := fun z => c1 (a + 1) z ((aw_s hn).mpr ⟨hp, q, (hA_M hn p q).mpr h1, b⟩)
        have h4 : ¬ e < a := fun z => c e z h2
        omega
      · exact absurd h2 (c e (by omega))
  · omega
theorem far_ex (hn : n ≤ 24) {e : Nat} (hat : FarD n P u 23 p (e + 1)) (he : e + 1 ≤ 23) : ∃ q, q < n ∧ bt (hA n P p &&& awS n (hA n P) u e) q = true := by
  rcases hat with ⟨_, b1, c1⟩ | ⟨z, _⟩
  · obtain ⟨_, q, h1, h2⟩ := (aw_s hn).mp b1
    exact ⟨q, HA_lt ((hA_M hn p q).mp h1), by rw [b_and, h1, h2]; rfl⟩
  · omega
end FAR
theorem wF_next {n : Nat} {P : St} {v u k at1 q : Nat} (hat : at1 = wF n P v u k) (hq : q < 24) (h1 : bt (hA n P at1 &&& awS n (hA n P) u (dF n P v u - (k + 1))) q = true) (h2 : ∀ j, j < q → ¬ bt (hA n P at1 &&& awS n (hA n P) u (dF n P v u - (k + 1))) j = true) : q = wF n P v u (k + 1) := by
  rw [hat] at h1 h2
  exact (firstB_at (f := bt (hA n P (wF n P v u k) &&& awS n (hA n P) u (dF n P v u - (k + 1)))) 23 0 q (Nat.zero_le _) (by omega) (Or.inl h1) (fun j _ hj => Bool.eq_false_iff.mpr (h2 j hj))).symm
theorem ds_le {n : Nat} {P : St} {v u : Nat} : dF n P v u ≤ 23 := dsS_le n _ v u
/-- the class's levels are over the same masks -/
theorem wy_c {n u v : Nat} {P : St} {h5 : Nat → Int32} (hn : n ≤ 24) (hv : v < n) (hu : u < n) (h : ∀ p, p < n → h5 p = hA n P p) (hb : Bk n P v u) : dsS n h5 v u = dF n P v u ∧ ∀ j, j ≤ dF n P v u → wyS n h5 v u j = wF n P v u j ∧ wF n P v u j < n ∧ bt (awS n (hA n P) u (dF n P v u - j)) (wF n P v u j) = true := by
  have hd := ds_c (u := u) (v := v) h
  refine ⟨hd, fun j => ?_⟩
  induction j with
  | zero =>
    intro _
    refine ⟨rfl, hv, ?_⟩
    obtain ⟨d, hd9, hd8⟩ := (Bk_aw hn hv hu).mp hb
    exact (firstB_sp (f := fun d => bt (awS n (hA n P) u d) v) 23 0 ⟨d, by omega, by omega, hd8⟩).1
  | succ j ih =>
    intro hj
    obtain ⟨e1, e2, e3⟩ := ih (by omega)
    rw [show dF n P v u - j = (dF n P v u - (j + 1)) + 1 by omega] at e3
    obtain ⟨_, q, h1, h2⟩ := (aw_s hn).mp e3
    have hqn := HA_lt ((hA_M hn _ q).mp h1)
    have hs := firstB_sp (f := bt (hA n P (wF n P v u j) &&& awS n (hA n P) u (dF n P v u - (j + 1)))) 23 0 ⟨q, by omega, by omega, by rw [b_and, h1, h2]; rfl⟩
    have e4 : wyS n h5 v u (j + 1) = wF n P v u (j + 1) := by
      show firstB (bt (h5 (wyS n h5 v u j) &&& awS n h5 u (dsS n h5 v u - (j + 1)))) 23 0 = firstB (bt (hA n P (wF n P v u j) &&& awS n (hA n P) u (dF n P v u - (j + 1)))) 23 0
      rw [e1, h _ e2, aw_c h, hd]
      rfl
    have h3 : bt (hA n P (wF n P v u j) &&& awS n (hA n P) u (dF n P v u - (j + 1))) (wF n P v u (j + 1)) = true := hs.1
    rw [b_and, Bool.and_eq_true] at h3
    exact ⟨e4, HA_lt ((hA_M hn _ _).mp h3.1), h3.2⟩
/-- the answer of way: the new length and places -/
def wayR (n : Nat) (P : St) (x y r : Int32) (l0 l1 : Int32) (W0 W1 : Nat → Int32) : Prop := (¬ (rgt x n ∧ rgt y n) ∧ r = -1 ∧ l1 = l0 ∧ W1 = W0) ∨ (∃ v u, v < n ∧ u < n ∧ x = nI v ∧ y = nI u ∧ ((¬ Bk n P v u ∧ r = -4 ∧ l1 = l0 ∧ W1 = W0) ∨ (Bk n P v u ∧ r = nI (dF n P v u + 1) ∧ l1 = r ∧ ∀ j, j < dF n P v u + 1 → W1 j = nI (wF n P v u j))))
