/-! The reference's run: words for begin, does, go -/
theorem lft {m : Int32} {c row : Nat} (hr : row < 32) (h : 0 < c ∨ bt m row = false) : nI c - ((m >>> (nI row &&& 31)) &&& 1) = nI (c - if bt m row = true then 1 else 0) := by
  rw [bt_nI m hr]
  refine pk_sub ?_
  rcases h with h | h
  · split <;> omega
  · rw [h]; exact Nat.zero_le _
theorem lftk {f : Nat → Bool} {c row R : Nat} (he : kthS f (4 - row) row c = some R) (h : 0 < c ∨ f row = false) : row < 4 ∧ kthS f (4 - (row + 1)) (row + 1) (c - if f row = true then 1 else 0) = some R := by
  have h4 : row < 4 := by
    rcases Nat.lt_or_ge row 4 with h | h
    · exact h
    · rw [show 4 - row = 0 by omega] at he; cases he
  refine ⟨h4, ?_⟩
  cases hf : f row with
  | true =>
    have hc : 0 < c := by
      rcases h with h | h
      · exact h
      · rw [hf] at h; cases h
    rw [kth_s hf (by omega) (by omega), Nat.sub_sub] at he
    exact he
  | false =>
    rw [kth_f hf (by omega), Nat.sub_sub] at he
    exact he
theorem lfte {f : Nat → Bool} {row R : Nat} (he : kthS f (4 - row) row 0 = some R) (hf : f row = true) : row < 4 ∧ R = row := by
  have h4 : row < 4 := by
    rcases Nat.lt_or_ge row 4 with h | h
    · exact h
    · rw [show 4 - row = 0 by omega] at he; cases he
  refine ⟨h4, ?_⟩
  rw [kth_z hf (by omega)] at he
  exact (Option.some.inj he).symm
theorem kth_some : ∀ x, x < 16 → ∀ c, c < cntN 4 (nI x) → ∃ z, kthS (bt (nI x)) 4 0 c = some z := by
  have h : ∀ x, x < 16 → ∀ c, c < 4 → c < cntN 4 (nI x) → (kthS (bt (nI x)) 4 0 c).isSome = true := by decide +kernel
  intro x hx c hc
  have := cntN_le 4 (nI x)
  exact Option.isSome_iff_exists.mp (h x hx c (by omega) hc)
theorem div_l {x y : Int32} : (x.toInt64 / y.toInt64).toInt32 = x / y := by
  apply Int32.toInt_inj.mp
  rw [Int64.toInt_toInt32, Int64.toInt_div, Int32.toInt_div, l_ti, l_ti]
  exact Int.bmod_bmod_of_dvd (by decide)
theorem l_ne {y : Int32} (h : ¬ y = 0) : ¬ y.toInt64 = 0 := fun e => h (by
  have h1 := congrArg Int64.toInt e
  rw [l_ti] at h1
  exact Int32.toInt_inj.mp (by rw [h1]; decide))
theorem ff_t {x : Int32} {n p : Nat} (h : bt x p = true) : ffS x n p = p := firstB_t h
theorem ff_f {x : Int32} {n p : Nat} (hp : p < n) (h : bt x p = false) : ffS x n p = ffS x n (p + 1) := by
  unfold ffS; rw [firstB_f h (by omega), Nat.sub_sub]
theorem ff_end {x : Int32} {n p : Nat} (h : n ≤ p) : ffS x n p = p := by
  unfold ffS; rw [show n - p = 0 by omega]; rfl
theorem rn_out {Pv : St} {I o : Nat → Int32} {x : Int32} {w n m p p' : Nat} {z : RS} (h : n ≤ p) (h' : n ≤ p') : rnS Pv I o x w n m (ffS x n p) z = rnS Pv I o x w n m (ffS x n p') z := by
  rw [ff_end h, ff_end h', rn_end (by omega), rn_end (by omega)]
section NW
variable {P : St} {I r t g o : Nat → Int32} {p : Nat}
theorem nw_go (hF : stF P r p = false) (h : kd P p = 12) : nwS P r p = ix (P 3 p) := by unfold nwS; rw [hF, h]; rfl
theorem nw_stop (hF : stF P r p = false) (h : kd P p = 13) : nwS P r p = 24 := by unfold nwS; rw [hF, h]; rfl
theorem tl_if (hF : stF P r p = false) (h : kd P p = 11) : tlS P I r t g o p = if r (ix (P 2 p)) = 0 then 1 else 0 := by unfold tlS; rw [hF, h]; rfl
theorem nw_if1 (hF : stF P r p = false) (h : kd P p = 11) (hT : tlS P I r t g o p = 1) : nwS P r p = ix (P 3 p) := by
  rw [tl_if hF h] at hT
  unfold nwS; rw [hF, h]
  show (if r (ix (P 2 p)) = 0 then ix (P 3 p) else p + 1) = _
  by_cases e : r (ix (P 2 p)) = 0
  · rw [if_pos e]
  · rw [if_neg e] at hT; exact absurd hT (by decide)
theorem nw_if0 (hF : stF P r p = false) (h : kd P p = 11) (hT : ¬ tlS P I r t g o p = 1) : nwS P r p = p + 1 := by
  rw [tl_if hF h] at hT
  unfold nwS; rw [hF, h]
  show (if r (ix (P 2 p)) = 0 then ix (P 3 p) else p + 1) = _
  by_cases e : r (ix (P 2 p)) = 0
  · rw [if_pos e] at hT; exact absurd rfl hT
  · rw [if_neg e]
theorem nw_els (hF : stF P r p = false) (h1 : ¬ kd P p = 11) (h2 : ¬ kd P p = 12) (h3 : ¬ kd P p = 13) : nwS P r p = p + 1 := by
  unfold nwS; rw [hF]
  rw [if_neg (by decide), if_neg h1, if_neg h2, if_neg h3]
end NW
/-- the reference's run in Machine's layout -/
def tq (U : St) : St := fun i => if i = 0 then (fun j => if j = 5 then U 0 30 else if j = 7 then U 0 28 else if j = 8 then U 0 29 else 0) else if i = 1 then U 17 else if i = 2 then U 18 else if i = 3 then U 19 else if i = 4 then U 20 else if i = 5 then U 21 else fun _ => 0
/-- what a run of the reference leaves but the run itself -/
def FrG (V U : St) : Prop := Fr [0, 17, 18, 19, 20, 21] V U ∧ ∀ j, ¬ (28 ≤ j ∧ j < 31) → ¬ j = 32 → U 0 j = V 0 j
theorem FrG.pq {V U : St} (h : FrG V U) : pq U = pq V := pq_eq (h.2 0 (by decide) (by decide)) (fun i _ _ => h.1 i (by simp; omega))
section TL
variable {P : St} {I r t g o : Nat → Int32} {p j : Nat} {b c : Int32}
theorem vl_1 : vlS 1 b c I r t g o = b := by unfold vlS; rw [if_pos rfl]
theorem vl_2 : vlS 2 b c I r t g o = I (ix b) := by unfold vlS; rw [if_neg (by decide), if_pos rfl]
theorem vl_3 : vlS 3 b c I r t g o = r (ix b) + r (ix c) := by unfold vlS; rw [if_neg (by decide), if_neg (by decide), if_pos rfl]
theorem vl_4 : vlS 4 b c I r t g o = if r (ix b) < r (ix c) then 1 else 0 := by unfold vlS; rw [if_neg (by decide), if_neg (by decide), if_neg (by decide), if_pos rfl]
theorem vl_5 : vlS 5 b c I r t g o = r (ix b) * r (ix c) := by unfold vlS; rw [if_neg (by decide), if_neg (by decide), if_neg (by decide), if_neg (by decide), if_pos rfl]
theorem vl_6 : vlS 6 b c I r t g o = if r (ix c) = 0 then 0 else r (ix b) / r (ix c) := by unfold vlS; rw [if_neg (by decide), if_neg (by decide), if_neg (by decide), if_neg (by decide), if_neg (by decide), if_pos rfl]
theorem vl_8 : vlS 8 b c I r t g o = t (ix (itI (o (ix c)) (r (ix b)))) := by unfold vlS; rw [if_neg (by decide), if_neg (by decide), if_neg (by decide), if_neg (by decide), if_neg (by decide), if_neg (by decide), if_pos rfl]
theorem vl_9 : vlS 9 b c I r t g o = g (ix b) := by unfold vlS; rw [if_neg (by decide), if_neg (by decide), if_neg (by decide), if_neg (by decide), if_neg (by decide), if_neg (by decide), if_neg (by decide), if_pos rfl]
theorem tl_F (hF : stF P r p = true) : tlS P I r t g o p = 1000000007 := by unfold tlS; rw [if_pos hF]
theorem tl_v (hF : stF P r p = false) (h : kd P p = j) (h1 : ¬ (j = 7 ∨ j = 10)) (h2 : ¬ j = 11) (h3 : ¬ (j = 0 ∨ j = 12 ∨ j = 13)) : tlS P I r t g o p = vlS j (P 3 p) (P 4 p) I r t g o := by
  unfold tlS; rw [hF, h, if_neg (by decide), if_neg h1, if_neg h2, if_neg h3]
theorem tl_r (hF : stF P r p = false) (h : kd P p = j) (h1 : j = 7 ∨ j = 10) : tlS P I r t g o p = r (ix (P 2 p)) := by
  unfold tlS; rw [hF, h, if_neg (by decide), if_pos h1]
theorem tl_0 (hF : stF P r p = false) (h : kd P p = j) (h1 : j = 0 ∨ j = 12 ∨ j = 13) : tlS P I r t g o p = 0 := by
  unfold tlS; rw [hF, h, if_neg (by decide), if_neg (by omega), if_neg (by omega), if_pos h1]
theorem re_F (hF : stF P r p = true) : reS P I r t g o p = r := by unfold reS; rw [if_pos hF]
theorem re_n (hF : stF P r p = false) (h : kd P p = j) (h1 : j = 0 ∨ j = 7 ∨ j = 10 ∨ j = 11 ∨ j = 12 ∨ j = 13) : reS P I r t g o p = r := by unfold reS; rw [hF, h, if_neg (by decide), if_pos h1]
theorem re_u (hF : stF P r p = false) (h : kd P p = j) (h1 : ¬ (j = 0 ∨ j = 7 ∨ j = 10 ∨ j = 11 ∨ j = 12 ∨ j = 13)) : reS P I r t g o p = upd r (ix (P 2 p)) (tlS P I r t g o p) := by unfold reS; rw [hF, h, if_neg (by decide), if_neg h1]
theorem ti_F (hF : stF P r p = true) : tiS P I r t g o p = t := by unfold tiS; rw [if_pos hF]
theorem ti_n (hF : stF P r p = false) (h : kd P p = j) (h1 : ¬ j = 7) : tiS P I r t g o p = t := by unfold tiS; rw [hF, h, if_neg (by decide), if_neg h1]
theorem ti_u (hF : stF P r p = false) (h : kd P p = 7) : tiS P I r t g o p = upd t (ix (itI (o (ix (P 4 p))) (r (ix (P 3 p))))) (tlS P I r t g o p) := by unfold tiS; rw [hF, h, if_neg (by decide), if_pos rfl]
theorem gl_F (hF : stF P r p = true) : glS P I r t g o p = g := by unfold glS; rw [if_pos hF]
theorem gl_n (hF : stF P r p = false) (h : kd P p = j) (h1 : ¬ j = 10) : glS P I r t g o p = g := by unfold glS; rw [hF, h, if_neg (by decide), if_neg h1]
theorem gl_u (hF : stF P r p = false) (h : kd P p = 10) : glS P I r t g o p = upd g (ix (P 3 p)) (tlS P I r t g o p) := by unfold glS; rw [hF, h, if_neg (by decide), if_pos rfl]
end TL
