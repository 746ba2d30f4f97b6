/-! Frames of states; rows of masks filled bit by bit; the k-th of a sequence -/
def Fr (cs : List Nat) (V U : St) : Prop := ∀ c, c ∉ cs → U c = V c
theorem Fr.rf {cs : List Nat} {V : St} : Fr cs V V := fun _ _ => rfl
theorem Fr.up {cs : List Nat} {V U : St} {j : Nat} {f : Nat → Int32} (h : Fr cs V U) (hj : j ∈ cs) : Fr cs V (va_up U j f) := fun c hc => by
  have hne : ¬ c = j := fun e => hc (e ▸ hj)
  show (if c = j then f else U c) = V c
  rw [if_neg hne]; exact h c hc
theorem Fr.trans {cs : List Nat} {V U X : St} (h : Fr cs V U) (h2 : Fr cs U X) : Fr cs V X := fun c hc => (h2 c hc).trans (h c hc)
theorem Fr.mono {cs ds : List Nat} {V U : St} (h : Fr cs V U) (hs : ∀ c, c ∈ cs → c ∈ ds) : Fr ds V U := fun c hc => h c (fun z => hc (hs c z))
theorem Fr.at {cs : List Nat} {V U : St} (h : Fr cs V U) (c : Nat) (hc : c ∉ cs) (j : Nat) : U c j = V c j := by rw [h c hc]
theorem up_s {V : St} {j : Nat} {f : Nat → Int32} : va_up V j f j = f := if_pos rfl
theorem up_n {V : St} {j c : Nat} {f : Nat → Int32} (h : ¬ c = j) : va_up V j f c = V c := if_neg h
theorem upd_s {f : Nat → Int32} {j : Nat} {x : Int32} : upd f j x j = x := if_pos rfl
theorem upd_n {f : Nat → Int32} {j c : Nat} {x : Int32} (h : ¬ c = j) : upd f j x c = f c := if_neg h
theorem rowbit {f : Nat → Int32} {i v : Nat} (hv : v < 32) (u w : Nat) : bt (upd f i (f i ||| bitI v) u) w = true ↔ bt (f u) w = true ∨ (u = i ∧ w = v) := by
  by_cases e : u = i
  · subst e
    rw [upd_s, b_or, Bool.or_eq_true, b_bit hv, decide_eq_true_eq]
    simp
  · rw [upd_n e]
    simp [e]
/-- row u's bits below v are as Q says, bit v for the rows below i -/
def Grid (n v i : Nat) (Q : Nat → Nat → Prop) (f : Nat → Int32) : Prop := ∀ u, u < n → ∀ w, bt (f u) w = true ↔ (w < v ∨ (w = v ∧ u < i)) ∧ Q u w
theorem Grid.yes {n v i : Nat} {Q : Nat → Nat → Prop} {f : Nat → Int32} (h : Grid n v i Q f) (hv : v < 32) (hq : Q i v) : Grid n v (i + 1) Q (upd f i (f i ||| bitI v)) := fun u hu w => by
  rw [rowbit hv, h u hu w]
  constructor
  · rintro (⟨h1, h2⟩ | ⟨rfl, rfl⟩)
    · exact ⟨h1.imp id (fun z => ⟨z.1, by omega⟩), h2⟩
    · exact ⟨Or.inr ⟨rfl, by omega⟩, hq⟩
  · rintro ⟨h1 | ⟨rfl, h1⟩, h2⟩
    · exact Or.inl ⟨Or.inl h1, h2⟩
    · by_cases e : u = i
      · exact Or.inr ⟨e, rfl⟩
      · exact Or.inl ⟨Or.inr ⟨rfl, by omega⟩, h2⟩
theorem Grid.no {n v i : Nat} {Q : Nat → Nat → Prop} {f : Nat → Int32} (h : Grid n v i Q f) (hq : ¬ Q i v) : Grid n v (i + 1) Q f := fun u hu w => by
  rw [h u hu w]
  constructor
  · rintro ⟨h1, h2⟩
    exact ⟨h1.imp id (fun z => ⟨z.1, by omega⟩), h2⟩
  · rintro ⟨h1 | ⟨rfl, h1⟩, h2⟩
    · exact ⟨Or.inl h1, h2⟩
    · by_cases e : u = i
      · subst e; exact absurd h2 hq
      · exact ⟨Or.inr ⟨rfl, by omega⟩, h2⟩
theorem Grid.next {n v : Nat} {Q : Nat → Nat → Prop} {f : Nat → Int32} (h : Grid n v n Q f) : Grid n (v + 1) 0 Q f := fun u hu w => by
  rw [h u hu w]
  refine and_congr_left fun _ => ⟨fun z => Or.inl (by omega), fun z => ?_⟩
  rcases z with z | z
  · by_cases e : w = v
    · exact Or.inr ⟨e, hu⟩
    · exact Or.inl (by omega)
  · omega
theorem Grid.skip {n v : Nat} {Q : Nat → Nat → Prop} {f : Nat → Int32} (h : Grid n v 0 Q f) (hq : ∀ u, u < n → ¬ Q u v) : Grid n (v + 1) 0 Q f := fun u hu w => by
  rw [h u hu w]
  constructor
  · rintro ⟨h1, h2⟩
    exact ⟨Or.inl (by omega), h2⟩
  · rintro ⟨h1, h2⟩
    have : ¬ w = v := fun e => by subst e; exact hq u hu h2
    exact ⟨Or.inl (by omega), h2⟩
theorem Grid.start {n : Nat} {Q : Nat → Nat → Prop} {f : Nat → Int32} (h : ∀ u, u < n → f u = 0) : Grid n 0 0 Q f := fun u hu w => by
  rw [h u hu, b_0]
  constructor
  · intro z; cases z
  · rintro ⟨h1, -⟩; omega
theorem Grid.done {n : Nat} {Q : Nat → Nat → Prop} {f : Nat → Int32} (h : Grid n n 0 Q f) (u : Nat) (hu : u < n) (w : Nat) : bt (f u) w = true ↔ w < n ∧ Q u w := by
  rw [h u hu w]
  exact and_congr_left fun _ => ⟨fun z => by omega, fun z => Or.inl z⟩
theorem Grid.to {n v i : Nat} {Q Q' : Nat → Nat → Prop} {f : Nat → Int32} (h : Grid n v i Q f) (hq : ∀ u w, u < n → (Q u w ↔ Q' u w)) : Grid n v i Q' f := fun u hu w => (h u hu w).trans (and_congr_right fun _ => hq u w hu)
def kthS (f : Nat → Bool) : Nat → Nat → Nat → Option Nat
  | 0, _, _ => none
  | m + 1, i, c => if f i = true then (if c = 0 then some i else kthS f m (i + 1) (c - 1)) else kthS f m (i + 1) c
theorem kth_f {f : Nat → Bool} {m i c : Nat} (h : f i = false) (hm : 0 < m) : kthS f m i c = kthS f (m - 1) (i + 1) c := by
  cases m with
  | zero => omega
  | succ m => show ite _ _ _ = _; rw [if_neg (by rw [h]; decide)]; rfl
theorem kth_z {f : Nat → Bool} {m i : Nat} (h : f i = true) (hm : 0 < m) : kthS f m i 0 = some i := by
  cases m with
  | zero => omega
  | succ m => show ite _ _ _ = _; rw [if_pos h]; rfl
theorem kth_s {f : Nat → Bool} {m i c : Nat} (h : f i = true) (hm : 0 < m) (hc : ¬ c = 0) : kthS f m i c = kthS f (m - 1) (i + 1) (c - 1) := by
  cases m with
  | zero => omega
  | succ m => show ite _ _ _ = _; rw [if_pos h, if_neg hc]; rfl
theorem hang_row {k : Nat → ClassId} {ad : Nat → Nat} {V : St} {t : Nat} (ht : t < 5) : (wR k ad V)[10 + t]? = some (ad (10 + t), aI k 24 (V (10 + t))) := by
  rcases (show t = 0 ∨ t = 1 ∨ t = 2 ∨ t = 3 ∨ t = 4 by omega) with rfl | rfl | rfl | rfl | rfl <;> rfl
theorem i_m1 (x : Int32) : x + (-1) = x - 1 := by rw [Int32.sub_eq_add_neg]
theorem pre1 {m : Nat} (h : m < 2 ^ 31) : nI m - 1 < 0 ↔ m = 0 := by
  cases m with
  | zero => exact ⟨fun _ => rfl, fun _ => by decide⟩
  | succ m => rw [nI_pred]; exact ⟨fun z => absurd z (nI_pos (by omega)), fun z => by omega⟩
