/-! A run hangs only on what it can read: starts that agree there, and masks that agree below n, run alike -/
theorem ltl {m : Nat} {x : Int32} (h : lim m x) (h0 : 0 < m) (hm : m < 2 ^ 31) : ix x < m := by
  obtain ⟨i, hi, rfl⟩ := lim_nI h h0
  rw [ix_nI (by omega)]; exact hi
theorem okL {n : Nat} {P : St} {q : Nat} (hv : okV n P) (hq : q < 24) : kd P q < 14 ∧ lim (LA.getD (kd P q) 0) (P 2 q) ∧ lim (LB.getD (kd P q) 0) (P 3 q) ∧ lim (LC.getD (kd P q) 0) (P 4 q) := by
  obtain ⟨j, hk, hj, hlA, hlB, hlC⟩ := hv.2.2.1 q hq
  rw [kd_of hk hj]
  exact ⟨hj, hlA, hlB, hlC⟩
theorem itI_ix {o y : Int32} (h : ∃ i, i < 4 ∧ o = nI i) : ix (itI o y) < 32 := by
  obtain ⟨i, hi, rfl⟩ := h
  obtain ⟨j, hj, e⟩ := pk_andE y (m := 7) 3 (by decide)
  unfold itI
  rw [e, show (8 : Int32) = nI 8 from rfl, pk_mul, nI_add, ix_nI (by omega)]
  omega
theorem upd_ag {m a : Nat} {v : Int32} {f g : Nat → Int32} (h : ∀ j, j < m → f j = g j) : ∀ j, j < m → upd f a v j = upd g a v j := fun j hj => by
  by_cases e : j = a
  · subst e; rw [upd_s, upd_s]
  · rw [upd_n e, upd_n e]; exact h j hj
section AG
variable {P : St} {n p : Nat} {I I' r r' t t' g g' o o' : Nat → Int32}
theorem ag_F (hv : okV n P) (hp : p < 24) (er : ∀ j, j < 8 → r j = r' j) : stF P r p = stF P r' p := by
  obtain ⟨h14, hA, hB, hC⟩ := okL hv hp
  unfold stF
  by_cases hk : kd P p = 6
  · rw [hk] at hC
    rw [er _ (ltl (m := 8) hC (by decide) (by decide))]
  · have : (kd P p == 6) = false := by simp [hk]
    rw [this]; rfl
theorem ag_T (hv : okV n P) (hp : p < 24) (eI : ∀ j, j < 4 → I j = I' j) (er : ∀ j, j < 8 → r j = r' j) (et : ∀ j, j < 32 → t j = t' j) (eg : ∀ j, j < 4 → g j = g' j) (eo : ∀ j, j < 4 → o j = o' j) (ho : ∀ d, d < 4 → ∃ i, i < 4 ∧ o' d = nI i) : tlS P I r t g o p = tlS P I' r' t' g' o' p := by
  obtain ⟨h14, hA, hB, hC⟩ := okL hv hp
  have eF := ag_F hv hp er
  cases hF : stF P r' p with
  | true => rw [tl_F (eF.trans hF), tl_F hF]
  | false =>
    have hF' := eF.trans hF
    generalize hk : kd P p = j at h14 hA hB hC
    rcases (show j = 0 ∨ j = 1 ∨ j = 2 ∨ j = 3 ∨ j = 4 ∨ j = 5 ∨ j = 6 ∨ j = 7 ∨ j = 8 ∨ j = 9 ∨ j = 10 ∨ j = 11 ∨ j = 12 ∨ j = 13 by omega) with rfl | rfl | rfl | rfl | rfl | rfl | rfl | rfl | rfl | rfl | rfl | rfl | rfl | rfl
    · rw [tl_0 hF' hk (by decide), tl_0 hF hk (by decide)]
    · rw [tl_v hF' hk (by decide) (by decide) (by decide), tl_v hF hk (by decide) (by decide) (by decide), vl_1, vl_1]
    · rw [tl_v hF' hk (by decide) (by decide) (by decide), tl_v hF hk (by decide) (by decide) (by decide), vl_2, vl_2]; exact eI _ (ltl (m := 4) hB (by decide) (by decide))
    · rw [tl_v hF' hk (by decide) (by decide) (by decide), tl_v hF hk (by decide) (by decide) (by decide), vl_3, vl_3]; rw [er _ (ltl (m := 8) hB (by decide) (by decide)), er _ (ltl (m := 8) hC (by decide) (by decide))]
    · rw [tl_v hF' hk (by decide) (by decide) (by decide), tl_v hF hk (by decide) (by decide) (by decide), vl_4, vl_4]; rw [er _ (ltl (m := 8) hB (by decide) (by decide)), er _ (ltl (m := 8) hC (by decide) (by decide))]
    · rw [tl_v hF' hk (by decide) (by decide) (by decide), tl_v hF hk (by decide) (by decide) (by decide), vl_5, vl_5]; rw [er _ (ltl (m := 8) hB (by decide) (by decide)), er _ (ltl (m := 8) hC (by decide) (by decide))]
    · rw [tl_v hF' hk (by decide) (by decide) (by decide), tl_v hF hk (by decide) (by decide) (by decide), vl_6, vl_6]; rw [er _ (ltl (m := 8) hB (by decide) (by decide)), er _ (ltl (m := 8) hC (by decide) (by decide))]
    · rw [tl_r hF' hk (by decide), tl_r hF hk (by decide)]; exact er _ (ltl (m := 8) hA (by decide) (by decide))
    · rw [tl_v hF' hk (by decide) (by decide) (by decide), tl_v hF hk (by decide) (by decide) (by decide), vl_8, vl_8]; rw [er _ (ltl (m := 8) hB (by decide) (by decide)), eo _ (ltl (m := 4) hC (by decide) (by decide))]; exact et _ (itI_ix (ho _ (ltl (m := 4) hC (by decide) (by decide))))
    · rw [tl_v hF' hk (by decide) (by decide) (by decide), tl_v hF hk (by decide) (by decide) (by decide), vl_9, vl_9]; exact eg _ (ltl (m := 4) hB (by decide) (by decide))
    · rw [tl_r hF' hk (by decide), tl_r hF hk (by decide)]; exact er _ (ltl (m := 8) hA (by decide) (by decide))
    · rw [tl_if hF' hk, tl_if hF hk, er _ (ltl (m := 8) hA (by decide) (by decide))]
    · rw [tl_0 hF' hk (by decide), tl_0 hF hk (by decide)]
    · rw [tl_0 hF' hk (by decide), tl_0 hF hk (by decide)]
theorem ag_re (hv : okV n P) (hp : p < 24) (eI : ∀ j, j < 4 → I j = I' j) (er : ∀ j, j < 8 → r j = r' j) (et : ∀ j, j < 32 → t j = t' j) (eg : ∀ j, j < 4 → g j = g' j) (eo : ∀ j, j < 4 → o j = o' j) (ho : ∀ d, d < 4 → ∃ i, i < 4 ∧ o' d = nI i) : ∀ j, j < 8 → reS P I r t g o p j = reS P I' r' t' g' o' p j := by
  unfold reS
  rw [ag_F hv hp er, ag_T hv hp eI er et eg eo ho]
  split
  · exact er
  · split
    · exact er
    · exact upd_ag er
theorem ag_ti (hv : okV n P) (hp : p < 24) (eI : ∀ j, j < 4 → I j = I' j) (er : ∀ j, j < 8 → r j = r' j) (et : ∀ j, j < 32 → t j = t' j) (eg : ∀ j, j < 4 → g j = g' j) (eo : ∀ j, j < 4 → o j = o' j) (ho : ∀ d, d < 4 → ∃ i, i < 4 ∧ o' d = nI i) : ∀ j, j < 32 → tiS P I r t g o p j = tiS P I' r' t' g' o' p j := by
  obtain ⟨h14, hA, hB, hC⟩ := okL hv hp
  unfold tiS
  rw [ag_F hv hp er, ag_T hv hp eI er et eg eo ho]
  split
  · exact et
  · split
    · rename_i hk
      rw [hk] at hB hC
      rw [er _ (ltl (m := 8) hB (by decide) (by decide)), eo _ (ltl (m := 4) hC (by decide) (by decide))]
      exact upd_ag et
    · exact et
theorem ag_gl (hv : okV n P) (hp : p < 24) (eI : ∀ j, j < 4 → I j = I' j) (er : ∀ j, j < 8 → r j = r' j) (et : ∀ j, j < 32 → t j = t' j) (eg : ∀ j, j < 4 → g j = g' j) (eo : ∀ j, j < 4 → o j = o' j) (ho : ∀ d, d < 4 → ∃ i, i < 4 ∧ o' d = nI i) : ∀ j, j < 4 → glS P I r t g o p j = glS P I' r' t' g' o' p j := by
  unfold glS
  rw [ag_F hv hp er, ag_T hv hp eI er et eg eo ho]
  split
  · exact eg
  · split
    · exact upd_ag eg
    · exact eg
theorem ag_nw (hv : okV n P) (hp : p < 24) (er : ∀ j, j < 8 → r j = r' j) : nwS P r p = nwS P r' p := by
  obtain ⟨h14, hA, hB, hC⟩ := okL hv hp
  unfold nwS
  rw [ag_F hv hp er]
  by_cases hk : kd P p = 11
  · rw [hk] at hA
    rw [er _ (ltl (m := 8) hA (by decide) (by decide))]
  · rw [if_neg hk, if_neg hk]
end AG
theorem firstB_ag {f g : Nat → Bool} : ∀ (m i : Nat), (∀ j, i ≤ j → j < i + m → f j = g j) → firstB f m i = firstB g m i
  | 0, _, _ => rfl
  | m + 1, i, h => by
    show (if f i = true then i else firstB f m (i + 1)) = (if g i = true then i else firstB g m (i + 1))
    rw [h i (Nat.le_refl _) (by omega), firstB_ag m (i + 1) (fun j h1 h2 => h j (by omega) (by omega))]
theorem ff_ag {x x' : Int32} {n : Nat} (h : ∀ j, j < n → bt x j = bt x' j) (p : Nat) : ffS x n p = ffS x' n p := firstB_ag _ _ (fun j h1 h2 => h j (by omega))
/-- two runs' states agree in what can be read -/
def RSe (z z' : RS) : Prop := (∀ j, j < 8 → z.1 j = z'.1 j) ∧ (∀ j, j < 32 → z.2.1 j = z'.2.1 j) ∧ (∀ j, j < 4 → z.2.2.1 j = z'.2.2.1 j) ∧ (∀ j, j < z.2.2.2.2.1 → z.2.2.2.1 j = z'.2.2.2.1 j) ∧ z.2.2.2.2 = z'.2.2.2.2
theorem rs_ag {P : St} {n p w : Nat} {I I' o o' : Nat → Int32} (hv : okV n P) (hp : p < 24) (eI : ∀ j, j < 4 → I j = I' j) (eo : ∀ j, j < 4 → o j = o' j) (ho : ∀ d, d < 4 → ∃ i, i < 4 ∧ o' d = nI i) {z z' : RS} (h : RSe z z') : RSe (rsS P I o w p z) (rsS P I' o' w p z') := by
  obtain ⟨er, et, eg, ed, ec⟩ := h
  refine ⟨ag_re hv hp eI er et eg eo ho, ag_ti hv hp eI er et eg eo ho, ag_gl hv hp eI er et eg eo ho, ?_, ?_⟩
  · show ∀ j, j < (if p = w then z.2.2.2.2.1 + 1 else z.2.2.2.2.1) → (if p = w then upd z.2.2.2.1 z.2.2.2.2.1 (tlS P I z.1 z.2.1 z.2.2.1 o p) else z.2.2.2.1) j = (if p = w then upd z'.2.2.2.1 z'.2.2.2.2.1 (tlS P I' z'.1 z'.2.1 z'.2.2.1 o' p) else z'.2.2.2.1) j
    rw [ag_T hv hp eI er et eg eo ho, ec]
    by_cases e : p = w
    · rw [if_pos e, if_pos e, if_pos e]
      rw [ec] at ed
      intro j hj
      by_cases e2 : j = z'.2.2.2.2.1
      · rw [e2, upd_s, upd_s]
      · rw [upd_n e2, upd_n e2]; exact ed j (by omega)
    · rw [if_neg e, if_neg e, if_neg e]
      rw [ec] at ed
      exact ed
  · show (if p = w then z.2.2.2.2.1 + 1 else z.2.2.2.2.1, z.2.2.2.2.2 + 1) = (if p = w then z'.2.2.2.2.1 + 1 else z'.2.2.2.2.1, z'.2.2.2.2.2 + 1)
    rw [ec]
theorem rn_ag {P : St} {n w : Nat} {I I' o o' : Nat → Int32} {x x' : Int32} (hv : okV n P) (eI : ∀ j, j < 4 → I j = I' j) (eo : ∀ j, j < 4 → o j = o' j) (ho : ∀ d, d < 4 → ∃ i, i < 4 ∧ o' d = nI i) (hx : ∀ j, j < n → bt x j = bt x' j) : ∀ (m p : Nat) (z z' : RS), RSe z z' → (rnS P I o x w n m p z).1 = (rnS P I' o' x' w n m p z').1 ∧ (rnS P I o x w n m p z).2.1 = (rnS P I' o' x' w n m p z').2.1 ∧ RSe (rnS P I o x w n m p z).2.2 (rnS P I' o' x' w n m p z').2.2
  | 0, p, z, z', h => ⟨rfl, rfl, h⟩
  | m + 1, p, z, z', h => by
    by_cases hpn : p < n
    · have hp : p < 24 := by have := hv.1; omega
      have eF := ag_F hv hp h.1
      have hs := rs_ag (w := w) hv hp eI eo ho h
      by_cases hF : stF P z'.1 p = true
      · rw [rn_fail (Nat.succ_pos m) hpn (eF.trans hF), rn_fail (Nat.succ_pos m) hpn hF]
        exact ⟨rfl, rfl, hs⟩
      · have hF : stF P z'.1 p = false := by cases h0 : stF P z'.1 p with | true => exact absurd h0 hF | false => rfl
        rw [rn_go (Nat.succ_pos m) hpn (eF.trans hF), rn_go (Nat.succ_pos m) hpn hF, ag_nw hv hp h.1, ff_ag hx]
        exact rn_ag hv eI eo ho hx m _ _ _ hs
    · rw [rn_end hpn, rn_end hpn]
      exact ⟨rfl, rfl, h⟩
/-- what two runs that ran alike left -/
def sameT (T T' : St) : Prop := T 0 5 = T' 0 5 ∧ T 0 7 = T' 0 7 ∧ T 0 8 = T' 0 8 ∧ (∀ j, j < 8 → T 1 j = T' 1 j) ∧ ∃ c, c ≤ 100 ∧ T 0 5 = nI c ∧ ∀ j, j < c → T 5 j = T' 5 j
theorem pf_ag {P : St} {n w : Nat} {I I' : Nat → Int32} {x x' r r' : Int32} {T T' : St} (hv : okV n P) (eI : ∀ j, j < 4 → I j = I' j) (hx : ∀ j, j < n → bt x j = bt x' j) (h : pfS P I x w n r T) (h' : pfS P I' x' w n r' T') : r = r' ∧ sameT T T' := by
  obtain ⟨U0, c, s, m, b1, hc, hs, hr, h5, h7, hrn⟩ := h
  obtain ⟨U0', c', s', m', b1', hc', hs', hr', h5', h7', hrn'⟩ := h'
  have eo : ∀ j, j < 4 → U0 4 j = U0' 4 j := fun j hj => by rw [b1.2.2.2 j hj, b1'.2.2.2 j hj, eI 3 (by decide)]
  have ho : ∀ d, d < 4 → ∃ i, i < 4 ∧ U0' 4 d = nI i := fun d hd => ⟨_, chR_lt _ _, b1'.2.2.2 d hd⟩
  have hz : RSe (U0 1, U0 2, U0 3, U0 5, 0, 0) (U0' 1, U0' 2, U0' 3, U0' 5, 0, 0) := ⟨fun j hj => (b1.1 j hj).trans (b1'.1 j hj).symm, fun j hj => (b1.2.1 j hj).trans (b1'.2.1 j hj).symm, fun j hj => (b1.2.2.1 j hj).trans (b1'.2.2.1 j hj).symm, fun j hj => absurd hj (Nat.not_lt_zero _), rfl⟩
  have hR := rn_ag (w := w) hv eI eo ho hx 100 (ffS x n 0) _ _ hz
  rw [hrn, ff_ag hx, hrn'] at hR
  obtain ⟨e1, e2, er, _, _, ed, ec⟩ := hR
  have e1 : m = m' := e1
  have e2 : T 0 8 = T' 0 8 := e2
  have ec : (c, s) = (c', s') := ec
  have ec1 : c = c' := congrArg Prod.fst ec
  have ec2 : s = s' := congrArg Prod.snd ec
  refine ⟨by rw [hr, hr', e1], by rw [h5, h5', ec1], by rw [h7, h7', ec2], e2, er, c, hc, h5, ed⟩
