/-! The class's static tables; what line and change write -/
def Sta (B : Nat → Prop) (U : State) (H : Heap) : Prop := ∃ t0 t1 t2 : Nat, (va_Z "SliceWhy" "A_LIMITS" "[I" (.ref t0) B U H ∧ va_T .int t0 14 (fun j => .int (nI (LA.getD j 0))) B U H) ∧ (va_Z "SliceWhy" "B_LIMITS" "[I" (.ref t1) B U H ∧ va_T .int t1 14 (fun j => .int (nI (LB.getD j 0))) B U H) ∧ (va_Z "SliceWhy" "C_LIMITS" "[I" (.ref t2) B U H ∧ va_T .int t2 14 (fun j => .int (nI (LC.getD j 0))) B U H)
theorem Sta.moved {B : Nat → Prop} {u U : State} {H : Heap} (hvm : u.vm.Alike U.vm) (h : Sta B u H) : Sta B U H := by
  obtain ⟨t0, t1, t2, ⟨a0, b0⟩, ⟨a1, b1⟩, ⟨a2, b2⟩⟩ := h
  exact ⟨t0, t1, t2, ⟨a0.moved hvm, b0.moved hvm⟩, ⟨a1.moved hvm, b1.moved hvm⟩, ⟨a2.moved hvm, b2.moved hvm⟩⟩
def staX (U : State) : Prop := Sta (fun _ => False) U U.heap
theorem staX_b : ∀ (U : State) (g : JFrame) (mk : MethodId) (a : Array Value), staX U → staX (U.calling g mk a) := fun U g mk a h => Sta.moved (u := U) (U := U.calling g mk a) (Vm.Alike.refl U.vm) h
theorem staX_at {s : State} (h : staX s) : ∀ U : State, U.heap = s.heap → s.WarmedH U.vm → staX U := fun U hU hW => by
  unfold staX
  rw [hU]
  exact Sta.moved hW.alike h
/-- the numbers of a line are as told -/
def alR (x a b c : Int32) : Prop := ∃ j, x = nI j ∧ okN j a b c
theorem lim_iff {q : Nat} {x : Int32} (hq : q < 2 ^ 31) : decide (q = 0 ∨ (0 ≤ x ∧ x < nI q)) = true ↔ lim q x := by
  rw [decide_eq_true_eq, in_iff hq]
  exact Iff.rfl
theorem LA_le : ∀ j, j < 14 → LA.getD j 0 < 2 ^ 31 := by decide
theorem LB_le : ∀ j, j < 14 → LB.getD j 0 < 2 ^ 31 := by decide
theorem LC_le : ∀ j, j < 14 → LC.getD j 0 < 2 ^ 31 := by decide
theorem nI_inj {a b : Nat} (ha : a < 2 ^ 31) (hb : b < 2 ^ 31) (h : nI a = nI b) : a = b := (nI_eq ha hb).mp h
theorem al_no {x a b c : Int32} (h : ¬ rgt x 14) : ¬ alR x a b c := fun ⟨j, e, hj, _⟩ => h ⟨j, hj, e⟩
theorem al_iff {j : Nat} {a b c : Int32} (hj : j < 14) : alR (nI j) a b c ↔ lim (LA.getD j 0) a ∧ lim (LB.getD j 0) b ∧ lim (LC.getD j 0) c := by
  constructor
  · rintro ⟨i, e, hi, h⟩
    obtain rfl := nI_inj (by omega) (by omega) e
    exact h
  · intro h
    exact ⟨j, rfl, hj, h⟩
/-- place q written anew, the reasons old, how many places: n -/
def wrS (q n : Nat) (V U : St) (x a b c : Int32) : Prop := (∀ i, ¬ i = 0 → ¬ (8 ≤ i ∧ i < 13) → U i = V i) ∧ (∀ j, ¬ j = 2 → U 0 j = V 0 j) ∧ U 0 2 = 1 ∧ U 8 7 = nI n ∧ U 9 = upd (V 9) q x ∧ U 10 = upd (V 10) q a ∧ U 11 = upd (V 11) q b ∧ U 12 = upd (V 12) q c
