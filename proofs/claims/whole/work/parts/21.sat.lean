/-! Masks made in a loop; closures; loops that run till nothing more comes -/
def mkM : Nat → (Nat → Bool) → Int32
  | 0, _ => 0
  | n + 1, f => if f n = true then mkM n f ||| bitI n else mkM n f
theorem mkM_t {n : Nat} {f : Nat → Bool} (h : f n = true) : mkM n f ||| bitI n = mkM (n + 1) f := by show _ = ite _ _ _; rw [if_pos h]
theorem mkM_f {n : Nat} {f : Nat → Bool} (h : f n = false) : mkM n f = mkM (n + 1) f := by show _ = ite _ _ _; rw [if_neg (by rw [h]; decide)]
theorem b_mkM (f : Nat → Bool) : ∀ (n : Nat), n ≤ 32 → ∀ i, bt (mkM n f) i = (decide (i < n) && f i)
  | 0, _, i => by show bt 0 i = _; rw [b_0]; simp
  | n + 1, h, i => by
    have ih := b_mkM f n (by omega) i
    cases hf : f n with
    | true =>
      rw [← mkM_t hf, b_or, ih, b_bit (by omega)]
      by_cases e : i = n
      · subst e; simp [hf]
      · rcases Nat.lt_or_ge i n with h1 | h1
        · simp [h1, e, show i < n + 1 by omega]
        · simp [e, Nat.not_lt.mpr h1, show ¬ i < n + 1 by omega]
    | false =>
      rw [← mkM_f hf, ih]
      by_cases e : i = n
      · subst e; simp [hf]
      · rcases Nat.lt_or_ge i n with h1 | h1
        · simp [h1, show i < n + 1 by omega]
        · simp [Nat.not_lt.mpr h1, show ¬ i < n + 1 by omega]
theorem mkM_congr {f g : Nat → Bool} : ∀ (n : Nat), (∀ i, i < n → f i = g i) → mkM n f = mkM n g
  | 0, _ => rfl
  | n + 1, h => by
    show ite _ _ _ = ite _ _ _
    rw [mkM_congr n (fun i hi => h i (by omega)), h n (by omega)]
def Cl (X0 : Nat → Prop) (Rr : Nat → Nat → Prop) : Nat → Prop := fun x => ∀ S : Nat → Prop, (∀ y, X0 y → S y) → (∀ y z, S y → Rr y z → S z) → S x
theorem Cl.base {X0 : Nat → Prop} {Rr : Nat → Nat → Prop} {x : Nat} (h : X0 x) : Cl X0 Rr x := fun _ h0 _ => h0 x h
theorem Cl.step {X0 : Nat → Prop} {Rr : Nat → Nat → Prop} {x z : Nat} (h : Cl X0 Rr x) (hr : Rr x z) : Cl X0 Rr z := fun S h0 h1 => h1 x z (h S h0 h1) hr
theorem Cl.mono {X0 X1 : Nat → Prop} {R0 R1 : Nat → Nat → Prop} {x : Nat} (h : Cl X0 R0 x) (hX : ∀ y, X0 y → X1 y) (hR : ∀ y z, R0 y z → R1 y z) : Cl X1 R1 x := fun S h0 h1 => h S (fun y hy => h0 y (hX y hy)) (fun y z hy hr => h1 y z hy (hR y z hr))
/-- found x, before b -/
def Sat (X0 : Nat → Prop) (Rr : Nat → Nat → Prop) (x b : Int32) : Prop := (∀ i, bt x i = true → Cl X0 Rr i) ∧ (x = b → (∀ i, X0 i → bt x i = true) ∧ ∀ y z, bt x y = true → Rr y z → bt x z = true)
theorem Sat.done {X0 : Nat → Prop} {Rr : Nat → Nat → Prop} {x b : Int32} (h : Sat X0 Rr x b) (e : x = b) (i : Nat) : bt x i = true ↔ Cl X0 Rr i := ⟨h.1 i, fun c => c (fun j => bt x j = true) (h.2 e).1 (h.2 e).2⟩
/-- within a pass over sources: b at its begin, x now, those below i looked at -/
def Inn (X0 : Nat → Prop) (Rr : Nat → Nat → Prop) (b x : Int32) (i : Nat) : Prop := (∀ j, bt x j = true → Cl X0 Rr j) ∧ (∀ j, bt b j = true → bt x j = true) ∧ (∀ y, y < i → bt b y = true → ∀ z, Rr y z → bt x z = true)
theorem Inn.start {X0 : Nat → Prop} {Rr : Nat → Nat → Prop} {b : Int32} (h : ∀ j, bt b j = true → Cl X0 Rr j) : Inn X0 Rr b b 0 := ⟨h, fun _ h => h, fun y hy => absurd hy (Nat.not_lt_zero _)⟩
theorem Inn.yes {X0 : Nat → Prop} {Rr : Nat → Nat → Prop} {b x a : Int32} {i : Nat} (h : Inn X0 Rr b x i) (hi : bt x i = true) (ha : ∀ z, bt a z = true ↔ Rr i z) : Inn X0 Rr b (x ||| a) (i + 1) := by
  refine ⟨fun j hj => ?_, fun j hj => by rw [b_or, h.2.1 j hj]; rfl, fun y hy hb z hz => ?_⟩
  · rw [b_or, Bool.or_eq_true] at hj
    rcases hj with hj | hj
    · exact h.1 j hj
    · exact (h.1 i hi).step ((ha j).mp hj)
  · rw [b_or, Bool.or_eq_true]
    rcases Nat.lt_or_ge y i with h1 | h1
    · exact Or.inl (h.2.2 y h1 hb z hz)
    · have e : y = i := by omega
      subst e
      exact Or.inr ((ha z).mpr hz)
theorem Inn.no {X0 : Nat → Prop} {Rr : Nat → Nat → Prop} {b x : Int32} {i : Nat} (h : Inn X0 Rr b x i) (hi : bt x i = true → ∀ z, ¬ Rr i z) : Inn X0 Rr b x (i + 1) := by
  refine ⟨h.1, h.2.1, fun y hy hb z hz => ?_⟩
  rcases Nat.lt_or_ge y i with h1 | h1
  · exact h.2.2 y h1 hb z hz
  · have e : y = i := by omega
    subst e
    exact absurd hz (hi (h.2.1 y hb) z)
theorem Inn.sat {X0 : Nat → Prop} {Rr : Nat → Nat → Prop} {b x : Int32} {n : Nat} (h : Inn X0 Rr b x n) (hX : ∀ i, X0 i → bt b i = true) (hR : ∀ y z, Rr y z → y < n) : Sat X0 Rr x b := by
  refine ⟨h.1, fun e => ⟨fun i hi => h.2.1 i (hX i hi), fun y z hy hr => ?_⟩⟩
  subst e
  exact h.2.2 y (hR y z hr) hy z hr
/-- within a pass over targets: 'did u': u was looked at -/
def InT (X0 : Nat → Prop) (Rr : Nat → Nat → Prop) (b x : Int32) (did : Nat → Prop) : Prop := (∀ j, bt x j = true → Cl X0 Rr j) ∧ (∀ j, bt b j = true → bt x j = true) ∧ (∀ u, did u → (X0 u ∨ ∃ y, bt b y = true ∧ Rr y u) → bt x u = true)
theorem InT.start {X0 : Nat → Prop} {Rr : Nat → Nat → Prop} {b : Int32} {did : Nat → Prop} (h : ∀ j, bt b j = true → Cl X0 Rr j) (hd : ∀ u, ¬ did u) : InT X0 Rr b b did := ⟨h, fun _ h => h, fun u hu => absurd hu (hd u)⟩
theorem InT.yes {X0 : Nat → Prop} {Rr : Nat → Nat → Prop} {b x : Int32} {did did' : Nat → Prop} {i : Nat} (h : InT X0 Rr b x did) (hi : i < 32) (hc : X0 i ∨ ∃ y, bt x y = true ∧ Rr y i) (hd : ∀ u, did' u → did u ∨ u = i) : InT X0 Rr b (x ||| bitI i) did' := by
  refine ⟨fun j hj => ?_, fun j hj => by rw [b_or, h.2.1 j hj]; rfl, fun u hu hw => ?_⟩
  · rw [b_or, Bool.or_eq_true, b_bit hi, decide_eq_true_eq] at hj
    rcases hj with hj | rfl
    · exact h.1 j hj
    · rcases hc with hc | ⟨y, hy, hr⟩
      · exact Cl.base hc
      · exact (h.1 y hy).step hr
  · rw [b_or, Bool.or_eq_true, b_bit hi, decide_eq_true_eq]
    rcases hd u hu with h1 | h1
    · exact Or.inl (h.2.2 u h1 hw)
    · exact Or.inr h1
theorem InT.no {X0 : Nat → Prop} {Rr : Nat → Nat → Prop} {b x : Int32} {did did' : Nat → Prop} {i : Nat} (h : InT X0 Rr b x did) (hc : ¬ (X0 i ∨ ∃ y, bt x y = true ∧ Rr y i)) (hd : ∀ u, did' u → did u ∨ u = i) : InT X0 Rr b x did' := by
  refine ⟨h.1, h.2.1, fun u hu hw => ?_⟩
  rcases hd u hu with h1 | h1
  · exact h.2.2 u h1 hw
  · subst h1
    exact absurd (hw.imp id (fun ⟨y, hy, hr⟩ => ⟨y, h.2.1 y hy, hr⟩)) hc
theorem InT.sat {X0 : Nat → Prop} {Rr : Nat → Nat → Prop} {b x : Int32} {did : Nat → Prop} (h : InT X0 Rr b x did) (hX : ∀ i, X0 i → bt b i = true ∨ did i) (hR : ∀ y z, Rr y z → did z) : Sat X0 Rr x b := by
  refine ⟨h.1, fun e => ?_⟩
  subst e
  exact ⟨fun i hi => (hX i hi).elim id (fun hd => h.2.2 i hd (Or.inl hi)), fun y z hy hr => h.2.2 z (hR y z hr) (Or.inr ⟨y, hy, hr⟩)⟩
-- how many bits
def cntN : Nat → Int32 → Nat
  | 0, _ => 0
  | n + 1, x => cntN n x + (if bt x n = true then 1 else 0)
abbrev cnt (x : Int32) : Nat := cntN 32 x
theorem cntN_le : ∀ (n : Nat) (x : Int32), cntN n x ≤ n
  | 0, _ => Nat.le_refl _
  | n + 1, x => by
    have := cntN_le n x
    show cntN n x + _ ≤ _
    split <;> omega
theorem cntN_mono {x y : Int32} : ∀ (n : Nat), (∀ i, i < n → bt x i = true → bt y i = true) → cntN n x ≤ cntN n y
  | 0, _ => Nat.le_refl _
  | n + 1, h => by
    have h1 := cntN_mono n (fun i hi => h i (by omega))
    have h2 := h n (by omega)
    show cntN n x + _ ≤ cntN n y + _
    by_cases hb : bt x n = true
    · rw [if_pos hb, if_pos (h2 hb)]; omega
    · rw [if_neg hb]; omega
theorem cntN_lt {x y : Int32} : ∀ (n : Nat), (∀ i, i < n → bt x i = true → bt y i = true) → (∃ i, i < n ∧ bt y i = true ∧ ¬ bt x i = true) → cntN n x < cntN n y
  | 0, _, ⟨i, hi, _⟩ => absurd hi (Nat.not_lt_zero _)
  | n + 1, h, ⟨i, hi, h1, h2⟩ => by
    have h3 := cntN_mono n (fun i hi => h i (by omega))
    have h4 := h n (by omega)
    show cntN n x + _ < cntN n y + _
    by_cases e : i = n
    · subst e; rw [if_neg h2, if_pos h1]; omega
    · have h5 := cntN_lt n (fun i hi => h i (by omega)) ⟨i, by omega, h1, h2⟩
      by_cases hb : bt x n = true
      · rw [if_pos hb, if_pos (h4 hb)]; omega
      · rw [if_neg hb]; omega
theorem cnt_lt {x y : Int32} (h : ∀ i, bt x i = true → bt y i = true) (hne : ¬ y = x) : cnt x < cnt y := by
  refine cntN_lt 32 (fun i _ => h i) ?_
  refine Classical.byContradiction fun hn => hne (b_ext fun i hi => ?_)
  cases hy : bt y i with
  | true =>
    cases hx : bt x i with
    | true => rfl
    | false => exact absurd ⟨i, hi, hy, by rw [hx]; decide⟩ hn
  | false =>
    cases hx : bt x i with
    | true => rw [h i hx] at hy; cases hy
    | false => rfl
theorem cnt_pos {x : Int32} (h : ¬ x = 0) : 1 ≤ cnt x := by
  have := cnt_lt (x := 0) (y := x) (fun i hi => by rw [b_0] at hi; cases hi) h
  omega
theorem b_m25 : ∀ i, i < 32 → bt (33554431 : Int32) i = decide (i < 25) := by decide +kernel
theorem cnt_25 {x : Int32} (h : ∀ i, bt x i = true → i < 25) : cnt x ≤ 25 := by
  have h1 : cnt x ≤ cnt 33554431 := cntN_mono 32 (fun i hi hb => by rw [b_m25 i hi]; exact decide_eq_true (h i hb))
  have h2 : cnt (33554431 : Int32) = 25 := by decide +kernel
  omega
theorem and_ne0 {x y : Int32} : ¬ x &&& y = 0 ↔ ∃ i, bt x i = true ∧ bt y i = true := by
  constructor
  · intro h
    refine Classical.byContradiction fun hn => h (b_ext fun i _ => ?_)
    rw [b_and, b_0]
    cases hx : bt x i with
    | false => rfl
    | true =>
      cases hy : bt y i with
      | false => rfl
      | true => exact absurd ⟨i, hx, hy⟩ hn
  · rintro ⟨i, h1, h2⟩ e
    have h3 := b_and x y i
    rw [e, b_0, h1, h2] at h3
    cases h3
theorem bt_lt {x : Int32} {i : Nat} (h : bt x i = true) : i < 32 := by
  rcases Nat.lt_or_ge i 32 with h1 | h1
  · exact h1
  · rw [b_big h1] at h; cases h
theorem b_ext' {x y : Int32} (h : ∀ i, bt x i = true ↔ bt y i = true) : x = y := b_ext fun i _ => by
  cases hx : bt x i with
  | true => exact ((h i).mp hx).symm
  | false =>
    cases hy : bt y i with
    | true => rw [(h i).mpr hy] at hx; cases hx
    | false => rfl
