/-! A run as a function: how it ends, how often it tells, what; sets that tests agree on; the least one -/
def runF (P : St) (I : Nat → Int32) (x : Int32) (w n : Nat) : Nat × Int32 × RS := rnS P I (fun j => nI (chR (P 7 j) (I 3))) x w n 100 (ffS x n 0) (fun _ => 0, fun _ => 0, P 5, fun _ => 0, 0, 0)
def hwF (P : St) (I : Nat → Int32) (x : Int32) (w n : Nat) : Nat := (runF P I x w n).1
def tcF (P : St) (I : Nat → Int32) (x : Int32) (w n : Nat) : Nat := (runF P I x w n).2.2.2.2.2.2.1
def tdF (P : St) (I : Nat → Int32) (x : Int32) (w n : Nat) : Nat → Int32 := (runF P I x w n).2.2.2.2.2.1
theorem rn_le2 {P : St} {I o : Nat → Int32} {x : Int32} {w n : Nat} : ∀ (m p : Nat) (z : RS), (rnS P I o x w n m p z).1 ≤ 2
  | 0, p, z => by show (if p < n then 2 else 0) ≤ 2; split <;> omega
  | m + 1, p, z => by
    by_cases hp : p < n
    · cases hF : stF P z.1 p with
      | true => rw [rn_fail (Nat.succ_pos m) hp hF]; exact Nat.le_succ 1
      | false => rw [rn_go (Nat.succ_pos m) hp hF]; exact rn_le2 m _ _
    · rw [rn_end hp]; exact Nat.zero_le _
theorem hw_le {P : St} {I : Nat → Int32} {x : Int32} {w n : Nat} : hwF P I x w n ≤ 2 := rn_le2 100 _ _
theorem hw_2 {P : St} {I : Nat → Int32} {x : Int32} {w n : Nat} : nI (hwF P I x w n) = 2 ↔ hwF P I x w n = 2 := by
  have := hw_le (P := P) (I := I) (x := x) (w := w) (n := n)
  exact nI_eq (a := hwF P I x w n) (b := 2) (by omega) (by omega)
theorem run_ag {P : St} {n w : Nat} {I I' : Nat → Int32} {x x' : Int32} (hv : okV n P) (eI : ∀ j, j < 4 → I j = I' j) (hx : ∀ j, j < n → bt x j = bt x' j) : hwF P I x w n = hwF P I' x' w n ∧ tcF P I x w n = tcF P I' x' w n ∧ ∀ j, j < tcF P I x w n → tdF P I x w n j = tdF P I' x' w n j := by
  have hz : RSe (fun _ => 0, fun _ => 0, P 5, fun _ => 0, 0, 0) (fun _ => 0, fun _ => 0, P 5, fun _ => 0, 0, 0) := ⟨fun _ _ => rfl, fun _ _ => rfl, fun _ _ => rfl, fun _ _ => rfl, rfl⟩
  have hR := rn_ag (w := w) hv eI (o := fun j => nI (chR (P 7 j) (I 3))) (o' := fun j => nI (chR (P 7 j) (I' 3))) (fun j _ => by show nI (chR (P 7 j) (I 3)) = nI (chR (P 7 j) (I' 3)); rw [eI 3 (by decide)]) (fun d _ => ⟨_, chR_lt _ _, rfl⟩) hx 100 (ffS x n 0) _ _ hz
  obtain ⟨e1, _, _, _, _, ed, ec⟩ := hR
  rw [ff_ag hx] at e1 ed ec
  rw [← ff_ag hx] at e1 ed ec
  have q : ∀ {a b : Nat}, a = b → a = b := fun h => h
  unfold hwF tcF tdF runF
  rw [← ff_ag hx]
  exact ⟨e1, congrArg Prod.fst ec, ed⟩
theorem pf_F {P : St} {n w : Nat} {I : Nat → Int32} {x r : Int32} {T : St} (hv : okV n P) (h : pfS P I x w n r T) : r = nI (hwF P I x w n) ∧ T 0 5 = nI (tcF P I x w n) ∧ tcF P I x w n ≤ 100 ∧ ∀ j, j < tcF P I x w n → T 5 j = tdF P I x w n j := by
  obtain ⟨U0, c, s, m, b1, hc, hs, hr, h5, h7, hrn⟩ := h
  have eo : ∀ j, j < 4 → U0 4 j = (fun j => nI (chR (P 7 j) (I 3))) j := fun j hj => b1.2.2.2 j hj
  have ho : ∀ d, d < 4 → ∃ i, i < 4 ∧ (fun j => nI (chR (P 7 j) (I 3))) d = nI i := fun d hd => ⟨_, chR_lt _ _, rfl⟩
  have hz : RSe (U0 1, U0 2, U0 3, U0 5, 0, 0) (fun _ => 0, fun _ => 0, P 5, fun _ => 0, 0, 0) := ⟨fun j hj => b1.1 j hj, fun j hj => b1.2.1 j hj, fun j hj => b1.2.2.1 j hj, fun j hj => absurd hj (Nat.not_lt_zero _), rfl⟩
  have hR := rn_ag (w := w) (x := x) (x' := x) hv (I := I) (I' := I) (fun _ _ => rfl) eo ho (fun _ _ => rfl) 100 (ffS x n 0) _ _ hz
  rw [hrn] at hR
  obtain ⟨e1, _, _, _, _, ed, ec⟩ := hR
  have e1 : m = hwF P I x w n := e1
  have ec1 : c = tcF P I x w n := congrArg Prod.fst ec
  have ed : ∀ j, j < c → T 5 j = tdF P I x w n j := ed
  rw [ec1] at ed h5 hc
  exact ⟨by rw [hr, e1], h5, hc, ed⟩
/-- two sets tell alike at w -/
def lkB (P : St) (I : Nat → Int32) (x x' : Int32) (w n : Nat) : Bool := decide (tcF P I x w n = tcF P I x' w n ∧ ∀ j, j < tcF P I x w n → tdF P I x w n j = tdF P I x' w n j)
theorem lk_of {P : St} {I : Nat → Int32} {x x' : Int32} {w n : Nat} {b : Bool} (h : b = true ↔ tcF P I x w n = tcF P I x' w n ∧ ∀ j, j < tcF P I x w n → tdF P I x w n j = tdF P I x' w n j) : b = lkB P I x x' w n := by
  unfold lkB
  cases hb : b with
  | true => exact (decide_eq_true (h.mp hb)).symm
  | false => exact (decide_eq_false (fun z => by rw [h.mpr z] at hb; cases hb)).symm
theorem lk_I {P : St} {n w : Nat} {I I' : Nat → Int32} {x x' : Int32} (hv : okV n P) (eI : ∀ j, j < 4 → I j = I' j) : lkB P I x x' w n = lkB P I' x x' w n := by
  obtain ⟨_, b1, c1⟩ := run_ag (w := w) (x := x) (x' := x) hv eI (fun _ _ => rfl)
  obtain ⟨_, b2, c2⟩ := run_ag (w := w) (x := x') (x' := x') hv eI (fun _ _ => rfl)
  refine lk_of ?_
  unfold lkB
  rw [decide_eq_true_eq]
  constructor
  · rintro ⟨h1, h2⟩
    exact ⟨by rw [← b1, ← b2, h1], fun j hj => by rw [← b1] at hj; rw [← c1 j hj, ← c2 j (by omega)]; exact h2 j hj⟩
  · rintro ⟨h1, h2⟩
    exact ⟨by rw [b1, b2, h1], fun j hj => by rw [c1 j hj, c2 j (by omega)]; exact h2 j (by omega)⟩
/-- what told of two runs' leavings says -/
theorem told_lk {P : St} {n w : Nat} {I : Nat → Int32} {x x' r r' : Int32} {T T' : St} {b : Bool} (hv : okV n P) (h : pfS P I x w n r T) (h' : pfS P I x' w n r' T') (hb : b = true ↔ tcF P I x w n = tcF P I x' w n ∧ ∀ j, j < tcF P I x w n → T 5 j = T' 5 j) : b = lkB P I x x' w n := by
  obtain ⟨_, _, _, d1⟩ := pf_F hv h
  obtain ⟨_, _, _, d2⟩ := pf_F hv h'
  refine lk_of (hb.trans ?_)
  constructor
  · rintro ⟨h1, h2⟩
    exact ⟨h1, fun j hj => by rw [← d1 j hj, ← d2 j (by omega)]; exact h2 j hj⟩
  · rintro ⟨h1, h2⟩
    exact ⟨h1, fun j hj => by rw [d1 j hj, d2 j (by omega)]; exact h2 j hj⟩
/-- the answer of same -/
def smR (n : Nat) (P : St) (I : Nat → Int32) (x r : Int32) : Prop := (¬ rgt x n ∧ r = -1) ∨ (∃ q, q < n ∧ x = nI q ∧ ((hwF P I (-1) q n = 2 ∧ r = 2) ∨ (¬ hwF P I (-1) q n = 2 ∧ ∃ m, isM m (Bk n P q) ∧ r = zI (lkB P I m (-1) q n))))
/-- the tests agree on a set -/
def agB (P : St) (Is : Nat → Nat → Int32) (t : Nat) (x : Int32) (w n : Nat) : Bool := decide (∀ j, j < t → ¬ hwF P (Is j) x w n = 2 ∧ lkB P (Is j) x (-1) w n = true)
/-- the whole is spent in none -/
def nsB (P : St) (Is : Nat → Nat → Int32) (t : Nat) (w n : Nat) : Bool := decide (∀ j, j < t → ¬ hwF P (Is j) (-1) w n = 2)
theorem agB_I {P : St} {n w t : Nat} {Is Is' : Nat → Nat → Int32} {x : Int32} (hv : okV n P) (eI : ∀ i, i < t → ∀ j, j < 4 → Is i j = Is' i j) : agB P Is t x w n = agB P Is' t x w n := by
  unfold agB
  refine decide_eq_decide.mpr ⟨fun h j hj => ?_, fun h j hj => ?_⟩
  · have e := run_ag (w := w) (x := x) (x' := x) hv (eI j hj) (fun _ _ => rfl)
    rw [← e.1, ← lk_I hv (eI j hj)]; exact h j hj
  · have e := run_ag (w := w) (x := x) (x' := x) hv (eI j hj) (fun _ _ => rfl)
    rw [e.1, lk_I hv (eI j hj)]; exact h j hj
theorem nsB_I {P : St} {n w t : Nat} {Is Is' : Nat → Nat → Int32} (hv : okV n P) (eI : ∀ i, i < t → ∀ j, j < 4 → Is i j = Is' i j) : nsB P Is t w n = nsB P Is' t w n := by
  unfold nsB
  refine decide_eq_decide.mpr ⟨fun h j hj => ?_, fun h j hj => ?_⟩
  · have e := run_ag (w := w) (x := -1) (x' := -1) hv (eI j hj) (fun _ _ => rfl)
    rw [← e.1]; exact h j hj
  · have e := run_ag (w := w) (x := -1) (x' := -1) hv (eI j hj) (fun _ _ => rfl)
    rw [e.1]; exact h j hj
def clr (x : Int32) (i : Nat) : Int32 := x &&& (bitI i ^^^ (-1))
theorem b_clr {x : Int32} {i j : Nat} (hi : i < 32) : bt (clr x i) j = (bt x j && !decide (j = i)) := by
  unfold clr
  rw [b_and]
  by_cases hj : j < 32
  · rw [b_not hj, b_bit hi]
  · rw [b_big (x := x) (by omega)]; rfl
/-- what one round takes away, from place i - 1 down -/
def psF (G : Int32 → Bool) (w : Nat) : Nat → Int32 → Int32
  | 0, x => x
  | i + 1, x => psF G w i (if ¬ i = w ∧ bt x i = true ∧ G (clr x i) = true then clr x i else x)
theorem ps_yes {G : Int32 → Bool} {w i : Nat} {x : Int32} (h1 : ¬ i = w) (h2 : bt x i = true) (h3 : G (clr x i) = true) : psF G w (i + 1) x = psF G w i (clr x i) := by
  show psF G w i (ite _ _ _) = _; rw [if_pos ⟨h1, h2, h3⟩]
theorem ps_no {G : Int32 → Bool} {w i : Nat} {x : Int32} (h : ¬ (¬ i = w ∧ bt x i = true ∧ G (clr x i) = true)) : psF G w (i + 1) x = psF G w i x := by
  show psF G w i (ite _ _ _) = _; rw [if_neg h]
theorem ps_sub {G : Int32 → Bool} {w : Nat} : ∀ (i : Nat) (x : Int32), i ≤ 32 → ∀ j, bt (psF G w i x) j = true → bt x j = true
  | 0, _, _, _, h => h
  | i + 1, x, hi, j, h => by
    by_cases hc : ¬ i = w ∧ bt x i = true ∧ G (clr x i) = true
    · rw [ps_yes hc.1 hc.2.1 hc.2.2] at h
      have h2 := ps_sub i _ (by omega) j h
      rw [b_clr (by omega)] at h2
      cases hx : bt x j with
      | true => rfl
      | false => rw [hx] at h2; cases h2
    · rw [ps_no hc] at h; exact ps_sub i x (by omega) j h
theorem ps_0 {G : Int32 → Bool} {w : Nat} (i : Nat) (hi : i ≤ 32) : psF G w i 0 = 0 := b_ext fun j hj => by
  cases h : bt (psF G w i 0) j with
  | false => rw [b_0]
  | true => exact (ps_sub i 0 hi j h).symm
theorem ps_G {G G' : Int32 → Bool} {w : Nat} (h : ∀ x, G x = G' x) (i : Nat) (x : Int32) : psF G w i x = psF G' w i x := by rw [show G = G' from funext h]
def itr (f : Int32 → Int32) : Nat → Int32 → Int32
  | 0, x => x
  | k + 1, x => f (itr f k x)
theorem itr_add {f : Int32 → Int32} {x r : Int32} {k : Nat} (h : r = itr f k x) (hr : f r = r) : ∀ d, itr f (k + d) x = r
  | 0 => h.symm
  | d + 1 => by show f (itr f (k + d) x) = r; rw [itr_add h hr d, hr]
theorem itr_one {f : Int32 → Int32} {x r r' : Int32} {k k' : Nat} (h : r = itr f k x) (hr : f r = r) (h' : r' = itr f k' x) (hr' : f r' = r') : r = r' := by
  have h1 := itr_add h hr k'
  have h2 := itr_add h' hr' k
  rw [Nat.add_comm] at h2
  rw [← h1, ← h2]
/-- the answer of least -/
def leR (n : Nat) (P : St) (Is : Nat → Nat → Int32) (t : Nat) (x r : Int32) : Prop := (¬ rgt x n ∧ r = -1) ∨ (∃ q, q < n ∧ x = nI q ∧ (((t = 0 ∨ nsB P Is t q n = false) ∧ r = -3) ∨ (¬ t = 0 ∧ nsB P Is t q n = true ∧ ∃ m k, isM m (Bk n P q) ∧ r = itr (psF (fun y => agB P Is t y q n) q n) k m ∧ psF (fun y => agB P Is t y q n) q n r = r)))
theorem isM_u {r r' : Int32} {Q : Nat → Prop} (h : isM r Q) (h' : isM r' Q) : r = r' := b_ext' (fun i => (h i).trans (h' i).symm)
theorem leR_u {n t : Nat} {P : St} {Is Is' : Nat → Nat → Int32} {x r r' : Int32} (hv : okV n P) (eI : ∀ i, i < t → ∀ j, j < 4 → Is i j = Is' i j) (h : leR n P Is t x r) (h' : leR n P Is' t x r') : r = r' := by
  have hn := hv.1
  rcases h with ⟨h1, h2⟩ | ⟨q, hq, hx, h⟩
  · rcases h' with ⟨h3, h4⟩ | ⟨q', hq', hx', h'⟩
    · rw [h2, h4]
    · exact absurd ⟨q', hq', hx'⟩ h1
  · rcases h' with ⟨h3, h4⟩ | ⟨q', hq', hx', h'⟩
    · exact absurd ⟨q, hq, hx⟩ h3
    · have eq : q = q' := (nI_eq (a := q) (b := q') (by omega) (by omega)).mp (hx.symm.trans hx')
      rw [← eq] at h'
      have eG : (fun y => agB P Is t y q n) = (fun y => agB P Is' t y q n) := funext fun y => agB_I hv eI
      rw [← nsB_I (w := q) hv eI, ← eG] at h'
      rcases h with ⟨h1, h2⟩ | ⟨t1, s1, m, k, hm, hr, hf⟩
      · rcases h' with ⟨h3, h4⟩ | ⟨t2, s2, _⟩
        · rw [h2, h4]
        · rcases h1 with h1 | h1
          · exact absurd h1 t2
          · rw [h1] at s2; cases s2
      · rcases h' with ⟨h3, h4⟩ | ⟨t2, s2, m', k', hm', hr', hf'⟩
        · rcases h3 with h3 | h3
          · exact absurd h3 t1
          · rw [h3] at s1; cases s1
        · rw [isM_u hm' hm] at hr'
          exact itr_one hr hf hr' hf'
theorem smR_u {n : Nat} {P : St} {I I' : Nat → Int32} {x r r' : Int32} (hv : okV n P) (eI : ∀ j, j < 4 → I j = I' j) (h : smR n P I x r) (h' : smR n P I' x r') : r = r' := by
  have hn := hv.1
  rcases h with ⟨h1, h2⟩ | ⟨q, hq, hx, h⟩
  · rcases h' with ⟨h3, h4⟩ | ⟨q', hq', hx', h'⟩
    · rw [h2, h4]
    · exact absurd ⟨q', hq', hx'⟩ h1
  · rcases h' with ⟨h3, h4⟩ | ⟨q', hq', hx', h'⟩
    · exact absurd ⟨q, hq, hx⟩ h3
    · have eq : q = q' := (nI_eq (a := q) (b := q') (by omega) (by omega)).mp (hx.symm.trans hx')
      rw [← eq] at h'
      have e := (run_ag (w := q) (x := -1) (x' := -1) hv eI (fun _ _ => rfl)).1
      rw [← e] at h'
      rcases h with ⟨h1, h2⟩ | ⟨h1, m, hm, h2⟩
      · rcases h' with ⟨h3, h4⟩ | ⟨h3, _⟩
        · rw [h2, h4]
        · exact absurd h1 h3
      · rcases h' with ⟨h3, h4⟩ | ⟨h3, m', hm', h4⟩
        · exact absurd h3 h1
        · rw [h2, h4, ← lk_I hv eI, isM_u hm' hm]
