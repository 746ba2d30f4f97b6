/-! What hangs on what, of a program alone (P as wP holds it): both sides are held to these words -/
def pF (n : Nat) (P : St) (u w : Nat) : Prop := w < n ∧ hqF n (wnI n P) u w
def pC (n : Nat) (P : St) (v u : Nat) : Prop := (bt (wnI n P u) v = true ∨ ∃ s, s < n ∧ bt (wnI n P u) s = true ∧ pF n P s v) ∧ ¬ pF n P u v
/-- v hangs on u, by kind 0 .. 3 -/
def pH (n : Nat) (P : St) (k v u : Nat) : Prop := u < n ∧ (if k = 0 then hqR n (nxI n P) P v u else if k = 1 then hqN n (nxI n P) P v u else if k = 2 then hqG n (nxI n P) P v u else pC n P v u)
def HA (n : Nat) (P : St) (v u : Nat) : Prop := pH n P 0 v u ∨ pH n P 1 v u ∨ pH n P 2 v u ∨ pH n P 3 v u
def HT (n : Nat) (P : St) (v u : Nat) : Prop := u < n ∧ (hqT n (nxI n P) P v u ∨ hqN n (nxI n P) P v u)
def Bk (n : Nat) (P : St) (p j : Nat) : Prop := Cl (fun j => j = p) (fun y z => y < n ∧ HA n P y z) j
def Tn (n : Nat) (P : St) (p j : Nat) : Prop := Cl (fun j => j = p) (fun y z => y < n ∧ HT n P y z) j
def isM (r : Int32) (Q : Nat → Prop) : Prop := ∀ j, bt r j = true ↔ Q j
theorem isM.eq {r r' : Int32} {Q : Nat → Prop} (h : isM r Q) (h' : isM r' Q) : r = r' := b_ext' fun j => (h j).trans (h' j).symm
theorem RC_congr {n : Nat} {a b : Nat → Int32} {st : Int32} {u v : Nat} (h : ∀ p, p < n → a p = b p) (hu : u < n) : RC n a st u v ↔ RC n b st u v := by
  unfold RC
  constructor
  · intro z
    exact z.mono (fun y hy => by rw [← h u hu]; exact hy) (fun y z hz => ⟨hz.1, hz.2.1, by rw [← h y hz.1]; exact hz.2.2⟩)
  · intro z
    exact z.mono (fun y hy => by rw [h u hu]; exact hy) (fun y z hz => ⟨hz.1, hz.2.1, by rw [h y hz.1]; exact hz.2.2⟩)
theorem DQ_congr {n : Nat} {a b : Nat → Int32} {P : St} {rd : St → Nat → Int32} {v u : Nat} (h : ∀ p, p < n → a p = b p) (hu : u < n) : DQ n a P rd v u ↔ DQ n b P rd v u := by
  unfold DQ
  rw [RC_congr h hu]
theorem hqF_congr {n : Nat} {a b : Nat → Int32} {u w : Nat} (h : ∀ p, p < n → a p = b p) : hqF n a u w ↔ hqF n b u w := by
  unfold hqF
  refine and_congr_right fun _ => not_congr ?_
  constructor
  · intro z
    exact z.mono (fun _ hy => hy) (fun y z hz => ⟨hz.1, hz.2.1, by rw [← h z hz.1]; exact hz.2.2⟩)
  · intro z
    exact z.mono (fun _ hy => hy) (fun y z hz => ⟨hz.1, hz.2.1, by rw [h z hz.1]; exact hz.2.2⟩)
theorem Cl_congr {X : Nat → Prop} {R0 R1 : Nat → Nat → Prop} (h : ∀ y z, R0 y z ↔ R1 y z) (j : Nat) : Cl X R0 j ↔ Cl X R1 j := ⟨fun z => z.mono (fun _ h => h) (fun y z => (h y z).mp), fun z => z.mono (fun _ h => h) (fun y z => (h y z).mpr)⟩
section RGS
variable {n : Nat} {P V : St}
theorem RG.fol (h : RG n P V) {u : Nat} (hu : u < n) (w : Nat) : bt (V 3 u) w = true ↔ pF n P u w := by
  rw [h.2.2.1 u hu w]
  unfold pF
  rw [hqF_congr (fun p hp => (h.2.1 p hp).2)]
theorem RG.row (h : RG n P V) {v : Nat} (hv : v < n) {k : Nat} (hk : k < 4) (u : Nat) : bt (V (11 + k) v) u = true ↔ pH n P k v u := by
  have hr := h.2.2.2.1 v hv u
  have h1 : ∀ p, p < n → V 1 p = nxI n P p := fun p hp => (h.2.1 p hp).1
  have h2 : ∀ p, p < n → V 2 p = wnI n P p := fun p hp => (h.2.1 p hp).2
  rcases (show k = 0 ∨ k = 1 ∨ k = 2 ∨ k = 3 by omega) with rfl | rfl | rfl | rfl
  · rw [hr.1]; unfold pH
    refine and_congr_right fun hu => ?_
    show _ ↔ hqR _ _ _ _ _
    unfold hqR; rw [DQ_congr h1 hu]
  · rw [hr.2.1]; unfold pH
    refine and_congr_right fun hu => ?_
    show _ ↔ hqN _ _ _ _ _
    unfold hqN; rw [RC_congr h1 hu]
  · rw [hr.2.2.1]; unfold pH
    refine and_congr_right fun hu => ?_
    show _ ↔ hqG _ _ _ _ _
    unfold hqG; rw [DQ_congr h1 hu]
  · rw [hr.2.2.2]; unfold pH
    refine and_congr_right fun hu => ?_
    show _ ↔ pC _ _ _ _
    unfold hqC pC
    rw [h2 u hu, h.fol hu v]
    refine and_congr_left fun _ => or_congr Iff.rfl ⟨fun ⟨s, a, b, c⟩ => ⟨s, a, b, (h.fol a v).mp c⟩, fun ⟨s, a, b, c⟩ => ⟨s, a, b, (h.fol a v).mpr c⟩⟩
theorem RG.all (h : RG n P V) {v : Nat} (hv : v < n) (u : Nat) : bt (V 5 v) u = true ↔ HA n P v u := by
  rw [h.2.2.2.2.1 v hv, b_or, b_or, b_or]
  simp only [Bool.or_eq_true]
  unfold HA
  rw [← h.row hv (k := 0) (by omega) u, ← h.row hv (k := 1) (by omega) u, ← h.row hv (k := 2) (by omega) u, ← h.row hv (k := 3) (by omega) u, or_assoc, or_assoc]
theorem RG.thin (h : RG n P V) {v : Nat} (hv : v < n) (u : Nat) : bt (V 6 v) u = true ↔ HT n P v u := by
  have h1 : ∀ p, p < n → V 1 p = nxI n P p := fun p hp => (h.2.1 p hp).1
  rw [h.2.2.2.2.2.1 v hv u]
  unfold HT
  refine and_congr_right fun hu => ?_
  unfold hqT hqN
  rw [DQ_congr h1 hu, RC_congr h1 hu]
theorem RG.back (h : RG n P V) {p : Nat} (hp : p < n) : isM (V 7 p) (Bk n P p) := fun j => by
  rw [(h.2.2.2.2.2.2 p hp).1 j]
  exact Cl_congr (fun y z => and_congr_right fun hy => h.all hy z) j
theorem RG.thn (h : RG n P V) {p : Nat} (hp : p < n) : isM (V 8 p) (Tn n P p) := fun j => by
  rw [(h.2.2.2.2.2.2 p hp).2 j]
  exact Cl_congr (fun y z => and_congr_right fun hy => h.thin hy z) j
theorem RG.congr {U : St} (h : RG n P V) (e : ∀ i, i < 15 → U i = V i) : RG n P U := by
  unfold RG
  rw [e 0 (by omega), e 1 (by omega), e 2 (by omega), e 3 (by omega), e 5 (by omega), e 6 (by omega), e 7 (by omega), e 8 (by omega), e 11 (by omega), e 12 (by omega), e 13 (by omega), e 14 (by omega)]
  exact h
end RGS
theorem HA_lt {n : Nat} {P : St} {v u : Nat} (h : HA n P v u) : u < n := by rcases h with h | h | h | h <;> exact h.1
theorem Bk_lt {n : Nat} {P : St} {p j : Nat} (hp : p < n) (h : Bk n P p j) : j < n := h (fun j => j < n) (fun y hy => by omega) (fun y z _ hr => HA_lt hr.2)
