/-! The reference's loops that run till nothing more comes: their measure; there and back -/
theorem satmu {x b x1 : Int32} (h : ¬ x = b) (hs : ∀ j, bt x j = true → bt x1 j = true) : (if x1 = x then 0 else 33 - cnt x1) < (if x = b then 0 else 33 - cnt x) := by
  rw [if_neg h]
  have h1 : cnt x ≤ 32 := cntN_le 32 x
  by_cases e : x1 = x
  · rw [if_pos e]; omega
  · rw [if_neg e]
    have h2 := cnt_lt hs e
    have h3 : cnt x1 ≤ 32 := cntN_le 32 x1
    omega
theorem b_andnot {a : Int32} {v z : Nat} (hv : v < 32) : bt (a &&& (bitI v ^^^ (-1))) z = true ↔ bt a z = true ∧ ¬ z = v := by
  rw [b_and, Bool.and_eq_true]
  refine and_congr_right fun h => ?_
  rw [b_not (bt_lt h), b_bit hv]
  simp
theorem sh1_f {x : Int32} {i : Nat} (hi : i < 32) (h : ¬ (x >>> (nI i &&& 31)) &&& 1 = 1) : bt x i = false := by
  cases hb9 : bt x i with
  | false => rfl
  | true => exact absurd ((tS1 x hi).mpr hb9) h
theorem fwbw {n u v : Nat} {wn : Nat → Int32} (huv : ¬ u = v) (hv : v < 24) : Cl (fun j => j = u ∧ ¬ j = v) (fun y z => y < n ∧ ¬ z = v ∧ bt (wn y) z = true) 24 ↔ Cl (fun j => j = 24) (fun y z => z < n ∧ ¬ z = v ∧ bt (wn z) y = true) u := by
  constructor
  · intro h
    have h1 := h (fun z => ¬ z = v ∧ (Cl (fun j => j = 24) (fun y z => z < n ∧ ¬ z = v ∧ bt (wn z) y = true) z → Cl (fun j => j = 24) (fun y z => z < n ∧ ¬ z = v ∧ bt (wn z) y = true) u)) (fun y hy => ⟨hy.2, fun c => hy.1 ▸ c⟩) (fun y z hy hr => ⟨hr.2.1, fun c => hy.2 (c.step ⟨hr.1, hy.1, hr.2.2⟩)⟩)
    exact h1.2 (Cl.base rfl)
  · intro h
    have h1 := h (fun z => ¬ z = v ∧ (Cl (fun j => j = u ∧ ¬ j = v) (fun y z => y < n ∧ ¬ z = v ∧ bt (wn y) z = true) z → Cl (fun j => j = u ∧ ¬ j = v) (fun y z => y < n ∧ ¬ z = v ∧ bt (wn y) z = true) 24)) (fun y hy => ⟨by omega, fun c => hy ▸ c⟩) (fun y z hy hr => ⟨hr.2.1, fun c => hy.2 (c.step ⟨hr.1, hy.1, hr.2.2⟩)⟩)
    exact h1.2 (Cl.base ⟨rfl, huv⟩)
theorem hqF_eq {n u v : Nat} {wn : Nat → Int32} : hqF n wn u v ↔ ¬ u = v ∧ ¬ Cl (fun j => j = 24) (fun y z => z < n ∧ ¬ z = v ∧ bt (wn z) y = true) u := Iff.rfl
theorem and24 {x : Int32} : x &&& 16777216 = 0 ↔ bt x 24 = false := by
  have e : (16777216 : Int32) = bitI 24 := by decide
  rw [e]
  constructor
  · intro h
    cases hb : bt x 24 with
    | false => rfl
    | true => exact absurd h (and_ne0.mpr ⟨24, hb, by rw [b_bit (by omega)]; rfl⟩)
  · intro h
    refine Classical.byContradiction fun hn => ?_
    obtain ⟨i, h1, h2⟩ := and_ne0.mp hn
    rw [b_bit (by omega)] at h2
    obtain rfl := of_decide_eq_true h2
    rw [h] at h1; cases h1
