/-! The class's state and the reference's, side by side: what every call keeps, and that it answers alike -/
def RelP (n : Nat) (V Q : St) : Prop := okV n (pj V) ∧ pj V = pq Q ∧ Ca n V ∧ Cq n Q
def RelT (t : Nat) (V Q : St) : Prop := V 0 5 = nI t ∧ Q 0 9 = nI t ∧ t ≤ 3 ∧ ∀ j, j < t → ∀ i, i < 4 → V (5 + j) i = Q 9 (4 * j + i)
def RelL (c : Nat) (V Q : St) : Prop := V 31 5 = nI c ∧ Q 0 12 = nI c ∧ c ≤ 100 ∧ (∀ j, j < c → V 36 j = Q 10 j) ∧ V 31 7 = Q 0 14 ∧ V 31 8 = Q 0 15 ∧ ∀ j, j < 8 → V 32 j = Q 11 j
def RelW (wl : Nat) (V Q : St) : Prop := V 0 11 = nI wl ∧ Q 0 17 = nI wl ∧ wl ≤ 24 ∧ ∀ j, j < wl → V 4 j = Q 12 j
def Rel (n t c wl : Nat) (V Q : St) : Prop := RelP n V Q ∧ V 1 = Q 5 ∧ RelT t V Q ∧ V 0 7 = Q 0 11 ∧ RelL c V Q ∧ RelW wl V Q
section REL
variable {n n' t c wl : Nat} {V V' Q Q' : St}
theorem RelT.to (h : RelT t V Q) (f0 : V' 0 5 = V 0 5) (f : ∀ j, j < 3 → V' (5 + j) = V (5 + j)) (g0 : Q' 0 9 = Q 0 9) (g : Q' 9 = Q 9) : RelT t V' Q' := ⟨f0.trans h.1, g0.trans h.2.1, h.2.2.1, fun j hj i hi => by rw [f j (by have := h.2.2.1; omega), g]; exact h.2.2.2 j hj i hi⟩
theorem RelL.to (h : RelL c V Q) (f : ∀ i, 31 ≤ i → i < 37 → V' i = V i) (g : ∀ i, 10 ≤ i → i < 12 → Q' i = Q i) (g0 : ∀ j, j = 12 ∨ j = 14 ∨ j = 15 → Q' 0 j = Q 0 j) : RelL c V' Q' := by
  obtain ⟨a1, a2, a3, a4, a5, a6, a7⟩ := h
  unfold RelL
  rw [f 31 (by omega) (by omega), f 36 (by omega) (by omega), f 32 (by omega) (by omega), g 10 (by omega) (by omega), g 11 (by omega) (by omega), g0 12 (by omega), g0 14 (by omega), g0 15 (by omega)]
  exact ⟨a1, a2, a3, a4, a5, a6, a7⟩
theorem RelW.to (h : RelW wl V Q) (f0 : V' 0 11 = V 0 11) (f : V' 4 = V 4) (g0 : Q' 0 17 = Q 0 17) (g : Q' 12 = Q 12) : RelW wl V' Q' := by
  unfold RelW
  rw [f0, f, g0, g]; exact h
theorem Rel.q (h : Rel n t c wl V Q) (hP : RelP n' V' Q') (fV : ∀ i, i = 1 ∨ (4 ≤ i ∧ i < 8) ∨ (31 ≤ i ∧ i < 37) → V' i = V i) (gV : ∀ j, j = 5 ∨ j = 7 ∨ j = 11 → V' 0 j = V 0 j) (fQ : ∀ i, i = 5 ∨ (9 ≤ i ∧ i < 13) → Q' i = Q i) (gQ : ∀ j, j = 9 ∨ j = 11 ∨ j = 12 ∨ j = 14 ∨ j = 15 ∨ j = 17 → Q' 0 j = Q 0 j) : Rel n' t c wl V' Q' :=
  ⟨hP, by rw [fV 1 (by omega), fQ 5 (by omega)]; exact h.2.1, h.2.2.1.to (gV 5 (by omega)) (fun j hj => fV (5 + j) (by omega)) (gQ 9 (by omega)) (fQ 9 (by omega)), by rw [gV 7 (by omega), gQ 11 (by omega)]; exact h.2.2.2.1,
    h.2.2.2.2.1.to (fun i a b => fV i (by omega)) (fun i a b => fQ i (by omega)) (fun j hj => gQ j (by omega)), h.2.2.2.2.2.to (gV 11 (by omega)) (fV 4 (by omega)) (gQ 17 (by omega)) (fQ 12 (by omega))⟩
theorem pjq : pj V = pq Q ↔ V 8 7 = Q 0 0 ∧ V 9 = Q 1 ∧ V 10 = Q 2 ∧ V 11 = Q 3 ∧ V 12 = Q 4 ∧ V 13 = Q 6 ∧ V 14 = Q 7 ∧ V 15 = Q 8 := by
  constructor
  · intro h
    have e : ∀ i, pj V i = pq Q i := fun i => by rw [h]
    exact ⟨congrFun (e 0) 7, e 1, e 2, e 3, e 4, e 5, e 6, e 7⟩
  · rintro ⟨h0, h1, h2, h3, h4, h5, h6, h7⟩
    funext i
    rcases (show i = 0 ∨ i = 1 ∨ i = 2 ∨ i = 3 ∨ i = 4 ∨ i = 5 ∨ i = 6 ∨ i = 7 ∨ 8 ≤ i by omega) with rfl | rfl | rfl | rfl | rfl | rfl | rfl | rfl | h
    · show (fun j => if j = 7 then V 8 7 else 0) = (fun j => if j = 7 then Q 0 0 else 0)
      rw [h0]
    · exact h1
    · exact h2
    · exact h3
    · exact h4
    · exact h5
    · exact h6
    · exact h7
    · unfold pj pq
      rw [if_neg (by omega), if_neg (by omega), if_neg (by omega), if_neg (by omega), if_neg (by omega), if_neg (by omega), if_neg (by omega), if_neg (by omega), if_neg (by omega), if_neg (by omega)]
theorem RelP.of (h : RelP n V Q) (e1 : pj V' = pj V) (e2 : pq Q' = pq Q) (h1 : Ca n V') (h2 : Cq n Q') : RelP n V' Q' := ⟨by rw [e1]; exact h.1, by rw [e1, e2]; exact h.2.1, h1, h2⟩
theorem Rel.view (h : Rel n t c wl V Q) (f : CaS n V V') (g : CqS n Q Q') : Rel n t c wl V' Q' := h.q (h.1.of f.1.pj g.1.pq f.2 g.2) (fun i hi => f.1.1 i (by omega) (by omega)) (fun j hj => f.1.2 j (by omega)) (fun i hi => g.1.1 i (by omega) (by omega)) (fun j hj => g.1.2 j (by omega))
theorem Rel.viewF (h : Rel n t c wl V Q) (f : CaS n V V') : Rel n t c wl V' Q := h.view f (CqS.rf h.1.2.2.2)
end REL
section UNI
variable {n : Nat} {P : St} {x y z r r' : Int32}
theorem q_u {q q' : Nat} (hn : n ≤ 24) (hq : q < n) (hq' : q' < n) (h : x = nI q) (h' : x = nI q') : q = q' := nI_inj (by omega) (by omega) (h.symm.trans h')
theorem slR_u (hn : n ≤ 24) (h : slR n P x y r) (h' : slR n P x y r') : r = r' := by
  rcases h with ⟨h1, h2⟩ | ⟨q, hq, hx, h⟩
  · rcases h' with ⟨h3, h4⟩ | ⟨q', hq', hx', h'⟩
    · rw [h2, h4]
    · exact absurd ⟨q', hq', hx'⟩ h1
  · rcases h' with ⟨h3, h4⟩ | ⟨q', hq', hx', h'⟩
    · exact absurd ⟨q, hq, hx⟩ h3
    · have e := q_u hn hq hq' hx hx'
      rw [← e] at h'
      have r0 : rgt (0 : Int32) 4 := ⟨0, by omega, rfl⟩
      have r1 : rgt (1 : Int32) 4 := ⟨1, by omega, rfl⟩
      have r2 : rgt (2 : Int32) 4 := ⟨2, by omega, rfl⟩
      have r3 : rgt (3 : Int32) 4 := ⟨3, by omega, rfl⟩
      rcases h with ⟨e1, m1⟩ | ⟨e1, m1⟩ | ⟨e1, m1⟩ | ⟨e1, m1⟩ | ⟨e1, m1⟩ <;> rcases h' with ⟨e2, m2⟩ | ⟨e2, m2⟩ | ⟨e2, m2⟩ | ⟨e2, m2⟩ | ⟨e2, m2⟩ <;>
        first
        | exact isM_u m1 m2
        | (rw [m1, m2]; done)
        | (rw [e1] at e2; exact absurd e2 (by decide))
        | (rw [e1] at e2; exact absurd (by assumption) e2)
        | (rw [e2] at e1; exact absurd (by assumption) e1)
theorem flR_u (hn : n ≤ 24) (h : flR n P x r) (h' : flR n P x r') : r = r' := by
  rcases h with ⟨h1, h2⟩ | ⟨q, hq, hx, h⟩
  · rcases h' with ⟨h3, h4⟩ | ⟨q', hq', hx', h'⟩
    · rw [h2, h4]
    · exact absurd ⟨q', hq', hx'⟩ h1
  · rcases h' with ⟨h3, h4⟩ | ⟨q', hq', hx', h'⟩
    · exact absurd ⟨q, hq, hx⟩ h3
    · rw [← q_u hn hq hq' hx hx'] at h'
      exact isM_u h h'
theorem chpR_u (hn : n ≤ 24) (h : chpR n P x y r) (h' : chpR n P x y r') : r = r' := by
  rcases h with ⟨h1, h2⟩ | ⟨q, v, hq, hv, hx, hy, h⟩
  · rcases h' with ⟨h3, h4⟩ | ⟨q', v', hq', hv', hx', hy', h'⟩
    · rw [h2, h4]
    · exact absurd ⟨⟨q', hq', hx'⟩, ⟨v', hv', hy'⟩⟩ h1
  · rcases h' with ⟨h3, h4⟩ | ⟨q', v', hq', hv', hx', hy', h'⟩
    · exact absurd ⟨⟨q, hq, hx⟩, ⟨v, hv, hy⟩⟩ h3
    · rw [← q_u hn hq hq' hx hx', ← q_u hn hv hv' hy hy'] at h'
      exact isM_u h h'
theorem cuR_u (hn : n ≤ 24) (h : cuR n P x y z r) (h' : cuR n P x y z r') : r = r' := by
  rcases h with ⟨h1, h2⟩ | ⟨q, kk, hq, hx, hk, hy, hz, f, hf, h⟩
  · rcases h' with ⟨h3, h4⟩ | ⟨q', kk', hq', hx', hk', hy', hz', f', hf', h'⟩
    · rw [h2, h4]
    · exact absurd ⟨⟨q', hq', hx'⟩, by rw [hy']; exact nI_pos (by omega), hz'⟩ h1
  · rcases h' with ⟨h3, h4⟩ | ⟨q', kk', hq', hx', hk', hy', hz', f', hf', h'⟩
    · exact absurd ⟨⟨q, hq, hx⟩, by rw [hy]; exact nI_pos (by omega), hz⟩ h3
    · have e1 := q_u hn hq hq' hx hx'
      have e2 : kk = kk' := nI_inj hk hk' (hy.symm.trans hy')
      rw [← e1] at hf'
      have e3 : f = f' := funext fun i => by
        have := (hf i).trans (hf' i).symm
        cases h1 : f i <;> cases h2 : f' i <;> simp_all
      rw [← e2, ← e3] at h'
      rw [h, h']
theorem csR_u (hn : n ≤ 24) (h : csR n P x r) (h' : csR n P x r') : r = r' := by
  rcases h with ⟨h1, h2⟩ | ⟨q, hq, hx, M, hM, h⟩
  · rcases h' with ⟨h3, h4⟩ | ⟨q', hq', hx', h'⟩
    · rw [h2, h4]
    · exact absurd ⟨q', hq', hx'⟩ h1
  · rcases h' with ⟨h3, h4⟩ | ⟨q', hq', hx', M', hM', h'⟩
    · exact absurd ⟨q, hq, hx⟩ h3
    · rw [← q_u hn hq hq' hx hx'] at hM'
      rw [h, h', isM_u (hM 0 (by decide)) (hM' 0 (by decide)), isM_u (hM 1 (by decide)) (hM' 1 (by decide)), isM_u (hM 2 (by decide)) (hM' 2 (by decide)), isM_u (hM 3 (by decide)) (hM' 3 (by decide))]
end UNI
/-! each call: the answers are alike, and what is kept -/
section OPS
variable {n t c wl : Nat} {V V' Q Q' : St} {r r' x y z y0 y1 y2 y3 : Int32}
theorem op_saw (h : Rel n t c wl V Q) (h1 : (∃ q, q < c ∧ x = nI q ∧ r = V 36 q) ∨ (¬ rgt x c ∧ r = 0)) (h2 : (∃ q, q < c ∧ x = nI q ∧ r' = Q 10 q) ∨ (¬ rgt x c ∧ r' = 0)) : r = r' := by
  obtain ⟨_, _, _, _, hL, _⟩ := h
  have hc := hL.2.2.1
  rcases h1 with ⟨q, hq, hx, hr⟩ | ⟨h1, hr⟩
  · rcases h2 with ⟨q', hq', hx', hr'⟩ | ⟨h2, _⟩
    · have e : q = q' := nI_inj (by omega) (by omega) (hx.symm.trans hx')
      rw [hr, hr', ← e]; exact hL.2.2.2.1 q hq
    · exact absurd ⟨q, hq, hx⟩ h2
  · rcases h2 with ⟨q', hq', hx', hr'⟩ | ⟨h2, hr'⟩
    · exact absurd ⟨q', hq', hx'⟩ h1
    · rw [hr, hr']
theorem op_on (h : Rel n t c wl V Q) (h1 : (∃ q, q < wl ∧ x = nI q ∧ r = V 4 q) ∨ (¬ rgt x wl ∧ r = -4)) (h2 : (∃ q, q < wl ∧ x = nI q ∧ r' = Q 12 q) ∨ (¬ rgt x wl ∧ r' = -4)) : r = r' := by
  obtain ⟨_, _, _, _, _, hW⟩ := h
  have hc := hW.2.2.1
  rcases h1 with ⟨q, hq, hx, hr⟩ | ⟨h1, hr⟩
  · rcases h2 with ⟨q', hq', hx', hr'⟩ | ⟨h2, _⟩
    · have e : q = q' := nI_inj (by omega) (by omega) (hx.symm.trans hx')
      rw [hr, hr', ← e]; exact hW.2.2.2 q hq
    · exact absurd ⟨q, hq, hx⟩ h2
  · rcases h2 with ⟨q', hq', hx', hr'⟩ | ⟨h2, hr'⟩
    · exact absurd ⟨q', hq', hx'⟩ h1
    · rw [hr, hr']
theorem op_seen (h : Rel n t c wl V Q) (h1 : r = V 31 5) (h2 : r' = Q 0 12) : r = r' := by
  rw [h1, h2, h.2.2.2.2.1.1, h.2.2.2.2.1.2.1]
theorem op_left (h : Rel n t c wl V Q) (h1 : (x = 0 ∧ r = V 31 7) ∨ (x = 1 ∧ r = V 31 8) ∨ (∃ q, q < 8 ∧ x = nI (q + 2) ∧ r = V 32 q) ∨ (¬ rgt x 10 ∧ r = 0)) (h2 : (x = 0 ∧ r' = Q 0 14) ∨ (x = 1 ∧ r' = Q 0 15) ∨ (∃ q, q < 8 ∧ x = nI (q + 2) ∧ r' = Q 11 q) ∨ (¬ rgt x 10 ∧ r' = 0)) : r = r' := by
  obtain ⟨_, _, _, _, ⟨_, _, _, _, e7, e8, e9⟩, _⟩ := h
  have k0 : x = 0 → rgt x 10 := fun e => ⟨0, by omega, e⟩
  have k1 : x = 1 → rgt x 10 := fun e => ⟨1, by omega, e⟩
  have k2 : ∀ q, q < 8 → x = nI (q + 2) → rgt x 10 := fun q hq e => ⟨q + 2, by omega, e⟩
  have d0 : ∀ q, q < 8 → x = nI (q + 2) → ¬ x = 0 := fun q hq e e0 => absurd (nI_inj (a := q + 2) (b := 0) (by omega) (by omega) (e.symm.trans e0)) (by omega)
  have d1 : ∀ q, q < 8 → x = nI (q + 2) → ¬ x = 1 := fun q hq e e0 => absurd (nI_inj (a := q + 2) (b := 1) (by omega) (by omega) (e.symm.trans e0)) (by omega)
  have d01 : x = 0 → ¬ x = 1 := fun e e0 => by rw [e] at e0; exact absurd e0 (by decide)
  rcases h1 with ⟨e, hr⟩ | ⟨e, hr⟩ | ⟨q, hq, e, hr⟩ | ⟨e, hr⟩
  · rcases h2 with ⟨e', hr'⟩ | ⟨e', hr'⟩ | ⟨q', hq', e', hr'⟩ | ⟨e', hr'⟩
    · rw [hr, hr', e7]
    · exact absurd e' (d01 e)
    · exact absurd e (d0 q' hq' e')
    · exact absurd (k0 e) e'
  · rcases h2 with ⟨e', hr'⟩ | ⟨e', hr'⟩ | ⟨q', hq', e', hr'⟩ | ⟨e', hr'⟩
    · exact absurd e (d01 e')
    · rw [hr, hr', e8]
    · exact absurd e (d1 q' hq' e')
    · exact absurd (k1 e) e'
  · rcases h2 with ⟨e', hr'⟩ | ⟨e', hr'⟩ | ⟨q', hq', e', hr'⟩ | ⟨e', hr'⟩
    · exact absurd e' (d0 q hq e)
    · exact absurd e' (d1 q hq e)
    · have eq : q + 2 = q' + 2 := nI_inj (by omega) (by omega) (e.symm.trans e')
      rw [hr, hr', show q' = q by omega]; exact e9 q hq
    · exact absurd (k2 q hq e) e'
  · rcases h2 with ⟨e', hr'⟩ | ⟨e', hr'⟩ | ⟨q', hq', e', hr'⟩ | ⟨e', hr'⟩
    · exact absurd (k0 e') e
    · exact absurd (k1 e') e
    · exact absurd (k2 q' hq' e') e
    · rw [hr, hr']
theorem op_count (h : Rel n t c wl V Q) (h1 : (x = 0 ∧ r = V 8 7) ∨ (x = 1 ∧ r = V 0 5) ∨ (x = 2 ∧ r = V 0 7) ∨ (¬ rgt x 3 ∧ r = -1)) (h2 : (x = 0 ∧ r' = Q 0 0) ∨ (x = 1 ∧ r' = Q 0 9) ∨ (x = 2 ∧ r' = Q 0 11) ∨ (¬ rgt x 3 ∧ r' = -1)) : r = r' := by
  have a0 := (pjq.mp h.1.2.1).1
  have a1 : V 0 5 = Q 0 9 := h.2.2.1.1.trans h.2.2.1.2.1.symm
  have a2 := h.2.2.2.1
  have r0 : rgt (0 : Int32) 3 := ⟨0, by omega, rfl⟩
  have r1 : rgt (1 : Int32) 3 := ⟨1, by omega, rfl⟩
  have r2 : rgt (2 : Int32) 3 := ⟨2, by omega, rfl⟩
  rcases h1 with ⟨e1, m1⟩ | ⟨e1, m1⟩ | ⟨e1, m1⟩ | ⟨e1, m1⟩ <;> rcases h2 with ⟨e2, m2⟩ | ⟨e2, m2⟩ | ⟨e2, m2⟩ | ⟨e2, m2⟩ <;>
    first
    | (rw [m1, m2, a0]; done)
    | (rw [m1, m2, a1]; done)
    | (rw [m1, m2, a2]; done)
    | (rw [m1, m2]; done)
    | (rw [e1] at e2; exact absurd e2 (by decide))
    | (rw [e1] at e2; exact absurd (by assumption) e2)
    | (rw [e2] at e1; exact absurd (by assumption) e1)
theorem pq_eq5 (h0 : Q' 0 0 = Q 0 0) (h : ∀ i, 1 ≤ i → i < 9 → ¬ i = 5 → Q' i = Q i) : pq Q' = pq Q := by
  funext i
  unfold pq
  rw [h0, h 1 (by omega) (by omega) (by omega), h 2 (by omega) (by omega) (by omega), h 3 (by omega) (by omega) (by omega), h 4 (by omega) (by omega) (by omega), h 6 (by omega) (by omega) (by omega), h 7 (by omega) (by omega) (by omega), h 8 (by omega) (by omega) (by omega)]
theorem Cq.to (h : Cq n Q) (e : pq Q' = pq Q) (h22 : Q' 0 22 = Q 0 22) (h13 : Q' 13 = Q 13) (h14 : Q' 14 = Q 14) (h15 : Q' 15 = Q 15) : Cq n Q' := by
  rcases h with h | ⟨h1, h2⟩
  · exact Or.inl (h22.trans h)
  · exact Or.inr ⟨h22.trans h1, by rw [e]; exact h2.eq h13 h14 h15⟩
theorem op_input (h : Rel n t c wl V Q) (h1 : (¬ rgt x 4 ∧ r = -1 ∧ V' = V) ∨ (∃ q, q < 4 ∧ x = nI q ∧ r = 1 ∧ V' = va_up V 1 (upd (V 1) q y))) (h2 : (¬ rgt x 4 ∧ r' = -1 ∧ Q' = Q) ∨ (∃ q, q < 4 ∧ x = nI q ∧ r' = 1 ∧ Q' = va_up Q 5 (upd (Q 5) q y))) : r = r' ∧ Rel n t c wl V' Q' := by
  rcases h1 with ⟨a, b, d⟩ | ⟨q, hq, hx, b, d⟩
  · rcases h2 with ⟨a', b', d'⟩ | ⟨q', hq', hx', b', d'⟩
    · rw [b, b', d, d']; exact ⟨rfl, h⟩
    · exact absurd ⟨q', hq', hx'⟩ a
  · rcases h2 with ⟨a', b', d'⟩ | ⟨q', hq', hx', b', d'⟩
    · exact absurd ⟨q, hq, hx⟩ a'
    · have e : q = q' := nI_inj (by omega) (by omega) (hx.symm.trans hx')
      rw [← e] at d'
      refine ⟨by rw [b, b'], ?_⟩
      rw [d, d']
      obtain ⟨hP, hI, hT, hR, hL, hW⟩ := h
      have f : FrX [1] [] V (va_up V 1 (upd (V 1) q y)) := FrX.rf.up (by decide) (by decide)
      have g : pq (va_up Q 5 (upd (Q 5) q y)) = pq Q := pq_eq5 (by rw [up_n (by decide)]) (fun i a b e => up_n e)
      refine ⟨?_, ?_, ?_, ?_, ?_, ?_⟩
      · exact hP.of (f.pj (by intro i hi; simp; omega)) g (f.ca (by intro i hi; simp; omega) (by simp) hP.2.2.1) (hP.2.2.2.to g (by rw [up_n (by decide)]) (up_n (by decide)) (up_n (by decide)) (up_n (by decide)))
      · rw [up_s, up_s, hI]
      · exact hT.to (by rw [up_n (by decide)]) (fun j hj => up_n (by omega)) (by rw [up_n (by decide)]) (up_n (by decide))
      · rw [up_n (by decide), up_n (by decide)]; exact hR
      · exact hL.to (fun i a b => up_n (by omega)) (fun i a b => up_n (by omega)) (fun j hj => by rw [up_n (by decide)])
      · exact hW.to (by rw [up_n (by decide)]) (up_n (by decide)) (by rw [up_n (by decide)]) (up_n (by decide))
theorem op_untest (h : Rel n t c wl V Q) (h1 : r = V 0 5 ∧ V' = va_up V 0 (upd (V 0) 5 0)) (h2 : r' = Q 0 9 ∧ Q' = va_up Q 0 (upd (Q 0) 9 0)) : r = r' ∧ Rel n 0 c wl V' Q' := by
  obtain ⟨hP, hI, hT, hR, hL, hW⟩ := h
  refine ⟨by rw [h1.1, h2.1, hT.1, hT.2.1], ?_⟩
  rw [h1.2, h2.2]
  have f : FrX [0] [5] V (va_up V 0 (upd (V 0) 5 0)) := FrX.rf.u0 (by decide) (by decide)
  have g : FrX [0] [9] Q (va_up Q 0 (upd (Q 0) 9 0)) := FrX.rf.u0 (by decide) (by decide)
  have g9 : pq (va_up Q 0 (upd (Q 0) 9 0)) = pq Q := g.pq (by intro i a b; simp; omega) (by decide)
  refine ⟨hP.of (f.pj (by intro i hi; simp)) g9 (f.ca (by intro i hi; simp) (by decide) hP.2.2.1) (hP.2.2.2.to g9 (g.2 22 (by decide)) (g.1 13 (by decide)) (g.1 14 (by decide)) (g.1 15 (by decide))), ?_, ⟨rfl, rfl, by omega, fun j hj => absurd hj (Nat.not_lt_zero _)⟩, ?_, ?_, ?_⟩
  · rw [f.1 1 (by decide), g.1 5 (by decide)]; exact hI
  · rw [f.2 7 (by decide), g.2 11 (by decide)]; exact hR
  · exact hL.to (fun i a b => f.1 i (by simp; omega)) (fun i a b => g.1 i (by simp; omega)) (fun j hj => g.2 j (by simp; omega))
  · exact hW.to (f.2 11 (by decide)) (f.1 4 (by decide)) (g.2 17 (by decide)) (g.1 12 (by decide))
theorem op_test (h : Rel n t c wl V Q) (h1 : (t = 3 ∧ r = -2 ∧ V' = V) ∨ (t < 3 ∧ r = nI t ∧ (∀ i, ¬ i = 0 → ¬ i = 5 + t → V' i = V i) ∧ (∀ j, ¬ j = 5 → V' 0 j = V 0 j) ∧ V' 0 5 = nI (t + 1) ∧ ∀ j, j < 4 → V' (5 + t) j = V 1 j)) (h2 : (t = 3 ∧ r' = -2 ∧ Q' = Q) ∨ (t < 3 ∧ r' = nI t ∧ (∀ i, ¬ i = 0 → ¬ i = 9 → Q' i = Q i) ∧ (∀ j, ¬ j = 9 → Q' 0 j = Q 0 j) ∧ Q' 0 9 = nI (t + 1) ∧ (∀ j, j < 4 → Q' 9 (4 * t + j) = Q 5 j) ∧ ∀ j, j < 4 * t → Q' 9 j = Q 9 j)) : r = r' ∧ ∃ t', Rel n t' c wl V' Q' := by
  rcases h1 with ⟨a, b, d⟩ | ⟨a, b, f, g, k5, kI⟩
  · rcases h2 with ⟨a', b', d'⟩ | ⟨a', _⟩
    · rw [b, b', d, d']; exact ⟨rfl, t, h⟩
    · omega
  · rcases h2 with ⟨a', b', d'⟩ | ⟨a', b', f', g', k9, kJ, kO⟩
    · omega
    · refine ⟨by rw [b, b'], t + 1, ?_⟩
      obtain ⟨hP, hI, hT, hR, hL, hW⟩ := h
      have fx : FrX [0, 5, 6, 7] [5] V V' := ⟨fun i hi => f i (by simp at hi; omega) (by simp at hi; omega), fun j hj => g j (by simp at hj; omega)⟩
      have gx : FrX [0, 9] [9] Q Q' := ⟨fun i hi => f' i (by simp at hi; omega) (by simp at hi; omega), fun j hj => g' j (by simp at hj; omega)⟩
      have g9 : pq Q' = pq Q := gx.pq (by intro i a b; simp; omega) (by decide)
      refine ⟨hP.of (fx.pj (by intro i hi; simp; omega)) g9 (fx.ca (by intro i hi; simp; omega) (by decide) hP.2.2.1) (hP.2.2.2.to g9 (gx.2 22 (by decide)) (gx.1 13 (by decide)) (gx.1 14 (by decide)) (gx.1 15 (by decide))), ?_, ⟨k5, k9, by omega, fun j hj i hi => ?_⟩, ?_, ?_, ?_⟩
      · rw [fx.1 1 (by decide), gx.1 5 (by decide)]; exact hI
      · by_cases e : j = t
        · rw [e, kI i hi, kJ i hi, hI]
        · rw [f (5 + j) (by omega) (by omega), kO (4 * j + i) (by omega)]; exact hT.2.2.2 j (by omega) i hi
      · rw [fx.2 7 (by decide), gx.2 11 (by decide)]; exact hR
      · exact hL.to (fun i a b => fx.1 i (by simp; omega)) (fun i a b => gx.1 i (by simp; omega)) (fun j hj => gx.2 j (by simp; omega))
      · exact hW.to (fx.2 11 (by decide)) (fx.1 4 (by decide)) (gx.2 17 (by decide)) (gx.1 12 (by decide))
/-- a changed program -/
theorem Rel.prog (h : Rel n t c wl V Q) {n' : Nat} (fV : ∀ i, ¬ i = 0 → ¬ (8 ≤ i ∧ i < 16) → V' i = V i) (gV : ∀ j, ¬ j = 2 → V' 0 j = V 0 j) (hV : V' 0 2 = 1) (fQ : ∀ i, ¬ i = 0 → ¬ (1 ≤ i ∧ i < 9 ∧ ¬ i = 5) → Q' i = Q i) (gQ : ∀ j, ¬ j = 0 → ¬ j = 22 → Q' 0 j = Q 0 j) (hQ : Q' 0 22 = 0) (hok : okV n' (pj V')) (he : pj V' = pq Q') : Rel n' t c wl V' Q' :=
  h.q ⟨hok, he, Or.inl hV, Or.inl hQ⟩ (fun i hi => fV i (by omega) (by omega)) (fun j hj => gV j (by omega)) (fun i hi => fQ i (by omega) (by omega)) (fun j hj => gQ j (by omega) (by omega))
theorem okQ_pj {q : Nat} : okQ (pj V) q ↔ ∃ j, V 9 q = nI j ∧ okN j (V 10 q) (V 11 q) (V 12 q) := Iff.rfl
theorem op_drop (h : Rel n t c wl V Q) (h1 : (n = 0 ∧ r = -3 ∧ V' = V) ∨ (0 < n ∧ r = nI (n - 1) ∧ V' = oldS (va_up V 8 (upd (V 8) 7 (nI (n - 1)))))) (h2 : (n = 0 ∧ r' = -3 ∧ Q' = Q) ∨ (0 < n ∧ r' = nI (n - 1) ∧ Q' = va_up (va_up Q 0 (upd (Q 0) 0 (nI (n - 1)))) 0 (upd (upd (Q 0) 0 (nI (n - 1))) 22 0))) : r = r' ∧ ∃ n', Rel n' t c wl V' Q' := by
  rcases h1 with ⟨a, b, d⟩ | ⟨a, b, d⟩
  · rcases h2 with ⟨a', b', d'⟩ | ⟨a', _⟩
    · rw [b, b', d, d']; exact ⟨rfl, n, h⟩
    · omega
  · rcases h2 with ⟨a', b', d'⟩ | ⟨a', b', d'⟩
    · omega
    · refine ⟨by rw [b, b'], n - 1, ?_⟩
      obtain ⟨hv, hpq, _, _⟩ := h.1
      obtain ⟨e0, e1, e2, e3, e4, e5, e6, e7⟩ := pjq.mp hpq
      rw [d, d']
      refine h.prog (fun i a b => ?_) (fun j a => ?_) rfl (fun i a b => ?_) (fun j a b => ?_) rfl ?_ (pjq.mpr ⟨rfl, e1, e2, e3, e4, e5, e6, e7⟩)
      · unfold oldS; rw [up_n a, up_n (by omega)]
      · unfold oldS; rw [up_s, upd_n a, up_n (by decide)]
      · rw [up_n a, up_n a]
      · rw [up_s, upd_n b, upd_n a]
      · exact ⟨by have := hv.1; omega, rfl, hv.2.2.1, hv.2.2.2.1, hv.2.2.2.2⟩
theorem nar_z (w : Bool) : vp_nar .boolean (zI w) = zI w := by cases w <;> decide
theorem op_start {w : Bool} (h : Rel n t c wl V Q) (h1 : (¬ rgt x 4 ∧ r = -1 ∧ V' = V) ∨ (∃ q, q < 4 ∧ x = nI q ∧ r = 1 ∧ V' = oldS (va_up (va_up V 13 (upd (V 13) q y)) 14 (upd (V 14) q (vp_nar .boolean (zI w)))))) (h2 : (¬ rgt x 4 ∧ r' = -1 ∧ Q' = Q) ∨ (∃ q, q < 4 ∧ x = nI q ∧ r' = 1 ∧ Q' = va_up (va_up (va_up Q 6 (upd (Q 6) q y)) 7 (upd (Q 7) q (vp_nar .boolean (zI w)))) 0 (upd (Q 0) 22 0))) : r = r' ∧ Rel n t c wl V' Q' := by
  rcases h1 with ⟨a, b, d⟩ | ⟨q, hq, hx, b, d⟩
  · rcases h2 with ⟨a', b', d'⟩ | ⟨q', hq', hx', b', d'⟩
    · rw [b, b', d, d']; exact ⟨rfl, h⟩
    · exact absurd ⟨q', hq', hx'⟩ a
  · rcases h2 with ⟨a', b', d'⟩ | ⟨q', hq', hx', b', d'⟩
    · exact absurd ⟨q, hq, hx⟩ a'
    · have e : q = q' := nI_inj (by omega) (by omega) (hx.symm.trans hx')
      rw [← e] at d'
      refine ⟨by rw [b, b'], ?_⟩
      obtain ⟨hv, hpq, _, _⟩ := h.1
      obtain ⟨e0, e1, e2, e3, e4, e5, e6, e7⟩ := pjq.mp hpq
      rw [d, d']
      refine h.prog (fun i a b => ?_) (fun j a => ?_) rfl (fun i a b => ?_) (fun j a b => ?_) rfl ?_ (pjq.mpr ⟨e0, e1, e2, e3, e4, ?_, ?_, e7⟩)
      · unfold oldS; rw [up_n a, up_n (by omega), up_n (by omega)]
      · unfold oldS; rw [up_s, upd_n a, up_n (by decide), up_n (by decide)]
      · rw [up_n a, up_n (by omega), up_n (by omega)]
      · rw [up_s, upd_n b]
      · refine ⟨hv.1, hv.2.1, hv.2.2.1, fun g hg => ?_, hv.2.2.2.2⟩
        show ∃ b : Bool, upd (V 14) q (vp_nar .boolean (zI w)) g = zI b
        by_cases eg : g = q
        · rw [eg, upd_s, nar_z]; exact ⟨w, rfl⟩
        · rw [upd_n eg]; exact hv.2.2.2.1 g hg
      · show upd (V 13) q y = upd (Q 6) q y
        rw [e5]
      · show upd (V 14) q (vp_nar .boolean (zI w)) = upd (Q 7) q (vp_nar .boolean (zI w))
        rw [e6]
theorem op_points (h : Rel n t c wl V Q) (h1 : (¬ (rgt x 4 ∧ rgt y 16 ∧ ¬ y = 0) ∧ r = -1 ∧ V' = V) ∨ (∃ q, q < 4 ∧ x = nI q ∧ (rgt y 16 ∧ ¬ y = 0) ∧ r = V 15 q ∧ V' = oldS (va_up V 15 (upd (V 15) q y)))) (h2 : (¬ (rgt x 4 ∧ rgt y 16 ∧ ¬ y = 0) ∧ r' = -1 ∧ Q' = Q) ∨ (∃ q, q < 4 ∧ x = nI q ∧ (rgt y 16 ∧ ¬ y = 0) ∧ r' = Q 8 q ∧ Q' = va_up (va_up Q 8 (upd (Q 8) q y)) 0 (upd (Q 0) 22 0))) : r = r' ∧ Rel n t c wl V' Q' := by
  rcases h1 with ⟨a, b, d⟩ | ⟨q, hq, hx, hy, b, d⟩
  · rcases h2 with ⟨a', b', d'⟩ | ⟨q', hq', hx', hy', b', d'⟩
    · rw [b, b', d, d']; exact ⟨rfl, h⟩
    · exact absurd ⟨⟨q', hq', hx'⟩, hy'⟩ a
  · rcases h2 with ⟨a', b', d'⟩ | ⟨q', hq', hx', hy', b', d'⟩
    · exact absurd ⟨⟨q, hq, hx⟩, hy⟩ a'
    · have e : q = q' := nI_inj (by omega) (by omega) (hx.symm.trans hx')
      rw [← e] at d' b'
      obtain ⟨hv, hpq, _, _⟩ := h.1
      obtain ⟨e0, e1, e2, e3, e4, e5, e6, e7⟩ := pjq.mp hpq
      refine ⟨by rw [b, b', e7], ?_⟩
      rw [d, d']
      refine h.prog (fun i a b => ?_) (fun j a => ?_) rfl (fun i a b => ?_) (fun j a b => ?_) rfl ?_ (pjq.mpr ⟨e0, e1, e2, e3, e4, e5, e6, ?_⟩)
      · unfold oldS; rw [up_n a, up_n (by omega)]
      · unfold oldS; rw [up_s, upd_n a, up_n (by decide)]
      · rw [up_n a, up_n (by omega)]
      · rw [up_s, upd_n b]
      · refine ⟨hv.1, hv.2.1, hv.2.2.1, hv.2.2.2.1, fun g hg => ?_⟩
        show ∃ x, 1 ≤ x ∧ x ≤ 15 ∧ upd (V 15) q y g = nI x
        by_cases eg : g = q
        · obtain ⟨⟨p, hp, hpe⟩, hp0⟩ := hy
          rw [eg, upd_s]
          exact ⟨p, by rcases Nat.eq_zero_or_pos p with z | z; (rw [z] at hpe; exact absurd hpe hp0); exact z, by omega, hpe⟩
        · rw [upd_n eg]; exact hv.2.2.2.2 g hg
      · show upd (V 15) q y = upd (Q 8) q y
        rw [e7]
theorem wr_rel {q n' : Nat} (h : Rel n t c wl V Q) (hq : q < 24) (hn' : n' ≤ 24) (hal : alR y0 y1 y2 y3) (h1 : wrS q n' V V' y0 y1 y2 y3) (h2 : wrQ q n' Q Q' y0 y1 y2 y3) : Rel n' t c wl V' Q' := by
  obtain ⟨hv, hpq, _, _⟩ := h.1
  obtain ⟨e0, e1, e2, e3, e4, e5, e6, e7⟩ := pjq.mp hpq
  obtain ⟨f, g, g2, k0, k1, k2, k3, k4⟩ := h1
  obtain ⟨f', g', g2', k0', k1', k2', k3', k4'⟩ := h2
  refine h.prog (fun i a b => f i a (by omega)) g g2 (fun i a b => ?_) g' g2' ?_ (pjq.mpr ⟨k0.trans k0'.symm, by rw [k1, k1', e1], by rw [k2, k2', e2], by rw [k3, k3', e3], by rw [k4, k4', e4], ?_, ?_, ?_⟩)
  · exact f' i a (fun z => b ⟨z.1, by omega, by omega⟩)
  · refine ⟨hn', k0, fun p hp => ?_, ?_, ?_⟩
    · rw [okQ_pj, k1, k2, k3, k4]
      by_cases e : p = q
      · rw [e, upd_s, upd_s, upd_s, upd_s]; exact hal
      · rw [upd_n e, upd_n e, upd_n e, upd_n e]; exact hv.2.2.1 p hp
    · intro g9 hg9
      show ∃ b : Bool, V' 14 g9 = zI b
      rw [f 14 (by decide) (by decide)]; exact hv.2.2.2.1 g9 hg9
    · intro g9 hg9
      show ∃ x, 1 ≤ x ∧ x ≤ 15 ∧ V' 15 g9 = nI x
      rw [f 15 (by decide) (by decide)]; exact hv.2.2.2.2 g9 hg9
  · rw [f 13 (by decide) (by decide), f' 6 (by decide) (by decide)]; exact e5
  · rw [f 14 (by decide) (by decide), f' 7 (by decide) (by decide)]; exact e6
  · rw [f 15 (by decide) (by decide), f' 8 (by decide) (by decide)]; exact e7
theorem op_line (h : Rel n t c wl V Q) (h1 : (¬ alR y0 y1 y2 y3 ∧ r = -1 ∧ V' = V) ∨ (alR y0 y1 y2 y3 ∧ n = 24 ∧ r = -2 ∧ V' = V) ∨ (alR y0 y1 y2 y3 ∧ n < 24 ∧ r = nI n ∧ wrS n (n + 1) V V' y0 y1 y2 y3)) (h2 : (¬ alR y0 y1 y2 y3 ∧ r' = -1 ∧ Q' = Q) ∨ (alR y0 y1 y2 y3 ∧ n = 24 ∧ r' = -2 ∧ Q' = Q) ∨ (alR y0 y1 y2 y3 ∧ n < 24 ∧ r' = nI n ∧ wrQ n (n + 1) Q Q' y0 y1 y2 y3)) : r = r' ∧ ∃ n', Rel n' t c wl V' Q' := by
  rcases h1 with ⟨a, b, d⟩ | ⟨a, a2, b, d⟩ | ⟨a, a2, b, d⟩
  · rcases h2 with ⟨a', b', d'⟩ | ⟨a', _⟩ | ⟨a', _⟩
    · rw [b, b', d, d']; exact ⟨rfl, n, h⟩
    · exact absurd a' a
    · exact absurd a' a
  · rcases h2 with ⟨a', b', d'⟩ | ⟨a', a2', b', d'⟩ | ⟨a', a2', _⟩
    · exact absurd a a'
    · rw [b, b', d, d']; exact ⟨rfl, n, h⟩
    · omega
  · rcases h2 with ⟨a', b', d'⟩ | ⟨a', a2', b', d'⟩ | ⟨a', a2', b', d'⟩
    · exact absurd a a'
    · omega
    · exact ⟨by rw [b, b'], n + 1, wr_rel h a2 (by omega) a d d'⟩
theorem op_change (h : Rel n t c wl V Q) (h1 : (¬ (rgt x n ∧ alR y0 y1 y2 y3) ∧ r = -1 ∧ V' = V) ∨ (∃ q, q < n ∧ x = nI q ∧ alR y0 y1 y2 y3 ∧ r = V 9 q ∧ wrS q n V V' y0 y1 y2 y3)) (h2 : (¬ (rgt x n ∧ alR y0 y1 y2 y3) ∧ r' = -1 ∧ Q' = Q) ∨ (∃ q, q < n ∧ x = nI q ∧ alR y0 y1 y2 y3 ∧ r' = Q 1 q ∧ wrQ q n Q Q' y0 y1 y2 y3)) : r = r' ∧ Rel n t c wl V' Q' := by
  have hn := h.1.1.1
  rcases h1 with ⟨a, b, d⟩ | ⟨q, hq, hx, a, b, d⟩
  · rcases h2 with ⟨a', b', d'⟩ | ⟨q', hq', hx', a', b', d'⟩
    · rw [b, b', d, d']; exact ⟨rfl, h⟩
    · exact absurd ⟨⟨q', hq', hx'⟩, a'⟩ a
  · rcases h2 with ⟨a', b', d'⟩ | ⟨q', hq', hx', a', b', d'⟩
    · exact absurd ⟨⟨q, hq, hx⟩, a⟩ a'
    · have e := q_u hn hq hq' hx hx'
      rw [← e] at d' b'
      obtain ⟨_, e1, _⟩ := pjq.mp h.1.2.1
      exact ⟨by rw [b, b', e1], wr_rel h (by omega) hn a d d'⟩
theorem op_run (h : Rel n t c wl V Q) (h1 : (¬ (rgt y n ∧ (x = -4 ∨ rgt x n)) ∧ r = -1 ∧ V' = V) ∨ (∃ w m, w < n ∧ y = nI w ∧ seR n (pj V) x m ∧ pfS (pj V) (V 1) m w n r (tr 31 6 V') ∧ FrR n V V')) (h2 : (¬ (rgt y n ∧ (x = -4 ∨ rgt x n)) ∧ r' = -1 ∧ Q' = Q) ∨ (∃ w m, w < n ∧ y = nI w ∧ seR n (pq Q) x m ∧ (∃ T, pfS (pq Q) (Q 5) m w n r' T ∧ Q' 0 12 = T 0 5 ∧ Q' 0 14 = T 0 7 ∧ Q' 0 15 = T 0 8 ∧ (∀ c, T 0 5 = nI c → c ≤ 100 → ∀ j, j < c → Q' 10 j = T 5 j) ∧ ∀ j, j < 8 → Q' 11 j = T 1 j) ∧ FrN Q Q' ∧ Q' 0 11 = Q 0 11 + 1 ∧ Cq n Q')) : r = r' ∧ ∃ c', Rel n t c' wl V' Q' := by
  have hn := h.1.1.1
  have sx : ∀ m, seR n (pj V) x m → x = -4 ∨ rgt x n := fun m hm => by
    rcases hm with ⟨e, _⟩ | ⟨q, hq, e, _⟩
    · exact Or.inl e
    · exact Or.inr ⟨q, hq, e⟩
  have hpq := h.1.2.1
  rcases h1 with ⟨a, b, d⟩ | ⟨w, m, hw, hy, hs, hpf, hfr⟩
  · rcases h2 with ⟨a', b', d'⟩ | ⟨w', m', hw', hy', hs', _⟩
    · rw [b, b', d, d']; exact ⟨rfl, c, h⟩
    · rw [← hpq] at hs'
      exact absurd ⟨⟨w', hw', hy'⟩, sx m' hs'⟩ a
  · rcases h2 with ⟨a', b', d'⟩ | ⟨w', m', hw', hy', hs', ⟨T, hT, t5, t7, t8, tT, tR⟩, hfr', h11, hcq⟩
    · exact absurd ⟨⟨w, hw, hy⟩, sx m hs⟩ a'
    · have e := q_u hn hw hw' hy hy'
      rw [← hpq] at hs' hT
      rw [← e] at hT
      have hm : ∀ j, j < n → bt m j = bt m' j := by
        rcases hs with ⟨e4, hb⟩ | ⟨q, hq, e4, hb⟩
        · rcases hs' with ⟨_, hb'⟩ | ⟨q', hq', e4', _⟩
          · intro j hj; rw [hb j hj, hb' j hj]
          · rw [e4] at e4'; exact absurd e4'.symm (nI_m4 (by omega))
        · rcases hs' with ⟨e4', _⟩ | ⟨q', hq', e4', hb'⟩
          · rw [e4] at e4'; exact absurd e4' (nI_m4 (by omega))
          · rw [← q_u hn hq hq' e4 e4'] at hb'
            intro j _; rw [isM_u hb hb']
      obtain ⟨hP, hI, hTt, hR, hL, hW⟩ := h
      obtain ⟨er, s5, s7, s8, s1, cc, hcc, hc5, sT⟩ := pf_ag hP.1 (fun j _ => by rw [hI]) hm hpf hT
      have s5 : V' 31 5 = T 0 5 := s5
      have s7 : V' 31 7 = T 0 7 := s7
      have s8 : V' 31 8 = T 0 8 := s8
      have s1 : ∀ j, j < 8 → V' 32 j = T 1 j := s1
      have hc5 : V' 31 5 = nI cc := hc5
      have sT : ∀ j, j < cc → V' 36 j = T 5 j := sT
      obtain ⟨f, g, g7, hca⟩ := hfr
      have g9 : pq Q' = pq Q := hfr'.pq (by intro i a b; simp; omega) (by decide)
      refine ⟨er, cc, hP.of (pj_eq (fun i hi => f (8 + i) (by omega) (by omega))) g9 hca hcq, ?_, hTt.to (g 5 (by decide) (by decide)) (fun j hj => f (5 + j) (by omega) (by omega)) (hfr'.2 9 (by decide)) (hfr'.1 9 (by decide)), by rw [g7, h11, hR], ⟨hc5, by rw [t5, ← s5, hc5], hcc, fun j hj => by rw [sT j hj, tT cc (by rw [← s5, hc5]) hcc j hj], by rw [s7, t7], by rw [s8, t8], fun j hj => by rw [s1 j hj, tR j hj]⟩, hW.to (g 11 (by decide) (by decide)) (f 4 (by omega) (by omega)) (hfr'.2 17 (by decide)) (hfr'.1 12 (by decide))⟩
      rw [f 1 (by omega) (by omega), hfr'.1 5 (by decide)]; exact hI
theorem op_same {cs : List Nat} (h : Rel n t c wl V Q) (hcs : ∀ i, i ∈ cs → ¬ (i = 1 ∨ (4 ≤ i ∧ i < 16) ∨ (31 ≤ i ∧ i < 37))) (h1 : smR n (pj V) (V 1) x r ∧ FrX cs [2] V V' ∧ Ca n V') (h2 : smR n (pq Q) (Q 5) x r' ∧ FrL Q Q' ∧ Cq n Q') : r = r' ∧ Rel n t c wl V' Q' := by
  have hpq := h.1.2.1
  obtain ⟨a1, f, hca⟩ := h1
  obtain ⟨a2, g, hcq⟩ := h2
  rw [← hpq] at a2
  refine ⟨smR_u h.1.1 (fun j _ => by rw [h.2.1]) a1 a2, h.q (h.1.of (f.pj (fun i hi z => hcs _ z (by omega))) g.lpq hca hcq) (fun i hi => f.1 i (fun z => hcs i z (by omega))) (fun j hj => f.2 j (by simp; omega)) (fun i hi => g.1 i (by simp; omega)) (fun j hj => g.2 j (by simp; omega))⟩
theorem op_least {cs : List Nat} (h : Rel n t c wl V Q) (hcs : ∀ i, i ∈ cs → ¬ (i = 1 ∨ (4 ≤ i ∧ i < 16) ∨ (31 ≤ i ∧ i < 37))) (h1 : leR n (pj V) (fun i => V (5 + i)) t x r ∧ FrX cs [2] V V' ∧ Ca n V') (h2 : leR n (pq Q) (fun i j => Q 9 (4 * i + j)) t x r' ∧ FrL Q Q' ∧ Cq n Q') : r = r' ∧ Rel n t c wl V' Q' := by
  have hpq := h.1.2.1
  obtain ⟨a1, f, hca⟩ := h1
  obtain ⟨a2, g, hcq⟩ := h2
  rw [← hpq] at a2
  refine ⟨leR_u h.1.1 (fun i hi j hj => h.2.2.1.2.2.2 i hi j hj) a1 a2, h.q (h.1.of (f.pj (fun i hi z => hcs _ z (by omega))) g.lpq hca hcq) (fun i hi => f.1 i (fun z => hcs i z (by omega))) (fun j hj => f.2 j (by simp; omega)) (fun i hi => g.1 i (by simp; omega)) (fun j hj => g.2 j (by simp; omega))⟩
theorem op_way {cs : List Nat} (h : Rel n t c wl V Q) (hcs : ∀ i, i ∈ cs → ¬ (i = 1 ∨ (5 ≤ i ∧ i < 16) ∨ (31 ≤ i ∧ i < 37))) (h1 : wayR n (pj V) x y r (V 0 11) (V' 0 11) (V 4) (V' 4) ∧ FrX cs [2, 11] V V' ∧ Ca n V') (h2 : wayR n (pq Q) x y r' (Q 0 17) (Q' 0 17) (Q 12) (Q' 12) ∧ FrY Q Q' ∧ Cq n Q') : r = r' ∧ ∃ wl', Rel n t c wl' V' Q' := by
  have hn := h.1.1.1
  have hpq := h.1.2.1
  obtain ⟨a1, f, hca⟩ := h1
  obtain ⟨a2, g, hcq⟩ := h2
  rw [← hpq] at a2
  have key : ∀ wl', RelW wl' V' Q' → Rel n t c wl' V' Q' := fun wl' hw => by
    obtain ⟨hP, hI, hT, hR, hL, _⟩ := h
    exact ⟨hP.of (f.pj (fun i hi z => hcs _ z (by omega))) (g.pq (by intro i a b; simp; omega) (by decide)) hca hcq, by rw [f.1 1 (fun z => hcs 1 z (by omega)), g.1 5 (by decide)]; exact hI, hT.to (f.2 5 (by decide)) (fun j hj => f.1 (5 + j) (fun z => hcs _ z (by omega))) (g.2 9 (by decide)) (g.1 9 (by decide)), by rw [f.2 7 (by decide), g.2 11 (by decide)]; exact hR, hL.to (fun i a b => f.1 i (fun z => hcs i z (by omega))) (fun i a b => g.1 i (by simp; omega)) (fun j hj => g.2 j (by simp; omega)), hw⟩
  have hW := h.2.2.2.2.2
  rcases a1 with ⟨n1, r1, l1, w1⟩ | ⟨v, u, hv, hu, hx, hy, a1⟩
  · rcases a2 with ⟨n2, r2, l2, w2⟩ | ⟨v', u', hv', hu', hx', hy', a2⟩
    · exact ⟨by rw [r1, r2], wl, key wl (hW.to l1 w1 l2 w2)⟩
    · exact absurd ⟨⟨v', hv', hx'⟩, ⟨u', hu', hy'⟩⟩ n1
  · rcases a2 with ⟨n2, r2, l2, w2⟩ | ⟨v', u', hv', hu', hx', hy', a2⟩
    · exact absurd ⟨⟨v, hv, hx⟩, ⟨u, hu, hy⟩⟩ n2
    · rw [← q_u hn hv hv' hx hx', ← q_u hn hu hu' hy hy'] at a2
      rcases a1 with ⟨n1, r1, l1, w1⟩ | ⟨n1, r1, l1, w1⟩
      · rcases a2 with ⟨n2, r2, l2, w2⟩ | ⟨n2, _⟩
        · exact ⟨by rw [r1, r2], wl, key wl (hW.to l1 w1 l2 w2)⟩
        · exact absurd n2 n1
      · rcases a2 with ⟨n2, _⟩ | ⟨n2, r2, l2, w2⟩
        · exact absurd n1 n2
        · have hd := ds_le (n := n) (P := pj V) (v := v) (u := u)
          exact ⟨by rw [r1, r2], dF n (pj V) v u + 1, key _ ⟨by rw [l1, r1], by rw [l2, r2], by omega, fun j hj => by rw [w1 j hj, w2 j hj]⟩⟩
end OPS
