/-! What the reference's look() leaves -/
theorem pq_eq {V U : St} (h0 : U 0 0 = V 0 0) (h : ∀ i, 1 ≤ i → i < 9 → U i = V i) : pq U = pq V := by
  funext i
  unfold pq
  rw [h0, h 1 (by omega) (by omega), h 2 (by omega) (by omega), h 3 (by omega) (by omega), h 4 (by omega) (by omega), h 6 (by omega) (by omega), h 7 (by omega) (by omega), h 8 (by omega) (by omega)]
theorem pq_up {V : St} {j : Nat} {f : Nat → Int32} (h : 9 ≤ j) : pq (va_up V j f) = pq V := pq_eq (by rw [up_n (by omega)]) (fun i _ hi => up_n (by omega))
theorem upd4 {f : Nat → Int32} {v : Nat} {r1 r2 r3 r4 : Int32} {g : Nat → Int32} (e : g = upd (upd (upd (upd f (4 * v + 1 - 1) r1) (4 * v + 2 - 1) r2) (4 * v + 3 - 1) r3) (4 * v + 4 - 1) r4) : g (4 * v) = r1 ∧ g (4 * v + 1) = r2 ∧ g (4 * v + 2) = r3 ∧ g (4 * v + 3) = r4 ∧ ∀ j, j < 4 * v → g j = f j := by
  subst e
  refine ⟨?_, ?_, ?_, ?_, fun j hj => ?_⟩
  · rw [upd_n (by omega), upd_n (by omega), upd_n (by omega), show 4 * v + 1 - 1 = 4 * v by omega, upd_s]
  · rw [upd_n (by omega), upd_n (by omega), show 4 * v + 2 - 1 = 4 * v + 1 by omega, upd_s]
  · rw [upd_n (by omega), show 4 * v + 3 - 1 = 4 * v + 2 by omega, upd_s]
  · rw [show 4 * v + 4 - 1 = 4 * v + 3 by omega, upd_s]
  · rw [upd_n (by omega), upd_n (by omega), upd_n (by omega), upd_n (by omega)]
theorem upd3 {f : Nat → Int32} {v : Nat} {r1 r2 r3 : Int32} {g : Nat → Int32} (e : g = upd (upd (upd f (3 * v + 1 - 1) r1) (3 * v + 2 - 1) r2) (3 * v + 3 - 1) r3) : g (3 * v) = r1 ∧ g (3 * v + 1) = r2 ∧ g (3 * v + 2) = r3 ∧ ∀ j, j < 3 * v → g j = f j := by
  subst e
  refine ⟨?_, ?_, ?_, fun j hj => ?_⟩
  · rw [upd_n (by omega), upd_n (by omega), show 3 * v + 1 - 1 = 3 * v by omega, upd_s]
  · rw [upd_n (by omega), show 3 * v + 2 - 1 = 3 * v + 1 by omega, upd_s]
  · rw [show 3 * v + 3 - 1 = 3 * v + 2 by omega, upd_s]
  · rw [upd_n (by omega), upd_n (by omega), upd_n (by omega)]
def fatM (n : Nat) (P : St) (f g : Nat → Int32) (v : Nat) : Prop := (isM (f (4 * v)) (g1M n P v false) ∧ isM (f (4 * v + 1)) (g2M n P v) ∧ isM (f (4 * v + 2)) (g3M n P v) ∧ isM (f (4 * v + 3)) (pH n P 3 v)) ∧ (isM (g (3 * v)) (g1M n P v true) ∧ isM (g (3 * v + 1)) (g2M n P v) ∧ isM (g (3 * v + 2)) (g3M n P v))
/-- what look() has found -/
def MG (n : Nat) (P V : St) : Prop := (∀ s1, s1 < n → isM (V 13 s1) (pF n P s1)) ∧ ∀ v, v < n → fatM n P (V 14) (V 15) v
def Cq (n : Nat) (V : St) : Prop := V 0 22 = 0 ∨ (V 0 22 = 1 ∧ MG n (pq V) V)
/-- nothing but what look() finds has changed -/
def FrQ (V U : St) : Prop := (∀ c, ¬ (13 ≤ c ∧ c < 16) → ¬ c = 0 → U c = V c) ∧ ∀ j, ¬ j = 22 → U 0 j = V 0 j
theorem FrQ.rf {V : St} : FrQ V V := ⟨fun _ _ _ => rfl, fun _ _ => rfl⟩
theorem FrQ.pq {V U : St} (h : FrQ V U) : pq U = pq V := pq_eq (h.2 0 (by decide)) (fun i _ hi => h.1 i (by omega) (by omega))
