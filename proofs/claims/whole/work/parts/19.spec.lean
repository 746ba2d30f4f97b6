/-! What a program is, in numbers: the cells of wP: 0 (slot 7: how many places), 1 kinds, 2 as, 3 bs, 4 cs, 5 starts, 6 failing, 7 mayBe -/
abbrev ix (x : Int32) : Nat := x.toNatClampNeg
def lim (n : Nat) (x : Int32) : Prop := n = 0 ∨ ∃ i, i < n ∧ x = nI i
def LA : List Nat := [0, 8, 8, 8, 8, 8, 8, 8, 8, 8, 8, 8, 0, 0]
def LB : List Nat := [0, 0, 4, 8, 8, 8, 8, 8, 8, 4, 4, 25, 25, 0]
def LC : List Nat := [0, 0, 0, 8, 8, 8, 8, 4, 4, 0, 0, 0, 0, 0]
/-- a place's numbers are as told -/
def okN (j : Nat) (a b c : Int32) : Prop := j < 14 ∧ lim (LA.getD j 0) a ∧ lim (LB.getD j 0) b ∧ lim (LC.getD j 0) c
def okQ (V : St) (q : Nat) : Prop := ∃ j, V 1 q = nI j ∧ okN j (V 2 q) (V 3 q) (V 4 q)
/-- a program as it must be: n places, each as told; failing 0 or 1; mayBe 1 .. 15 -/
def okV (n : Nat) (V : St) : Prop := n ≤ 24 ∧ V 0 7 = nI n ∧ (∀ q, q < 24 → okQ V q) ∧ (∀ g, g < 4 → ∃ b : Bool, V 6 g = zI b) ∧ (∀ g, g < 4 → ∃ x, 1 ≤ x ∧ x ≤ 15 ∧ V 7 g = nI x)
def kd (V : St) (q : Nat) : Nat := ix (V 1 q)
theorem ix_nI {j : Nat} (h : j < 2 ^ 31) : ix (nI j) = j := nI_clamp h
theorem kd_of {V : St} {q j : Nat} (h : V 1 q = nI j) (hj : j < 14) : kd V q = j := by unfold kd; rw [h]; exact ix_nI (by omega)
def plI (n p : Nat) : Int32 := if p < n then bitI p else bitI 24
def fgB (V : St) (q : Nat) : Bool := (kd V q == 9 || kd V q == 10) && decide (V 6 (ix (V 3 q)) ≠ 0)
def nxI (n : Nat) (V : St) (q : Nat) : Int32 := if kd V q = 11 then plI n (q + 1) ||| plI n (ix (V 3 q)) else if kd V q = 12 then plI n (ix (V 3 q)) else if kd V q = 13 then bitI 24 else if kd V q = 6 ∨ fgB V q = true then plI n (q + 1) ||| bitI 24 else plI n (q + 1)
def wnI (n : Nat) (V : St) (q : Nat) : Int32 := nxI n V q ||| plI n (q + 1)
/-- the bit of what a place sets: registers 0 .. 7, globals 8 .. 11; 0 none -/
def setI (V : St) (q : Nat) : Int32 := if (1 ≤ kd V q ∧ kd V q ≤ 6) ∨ kd V q = 8 ∨ kd V q = 9 then bitI (ix (V 2 q)) else if kd V q = 10 then bitI (8 + ix (V 3 q)) else 0
def thrI (V : St) (q : Nat) : Int32 := if 3 ≤ kd V q ∧ kd V q ≤ 6 then bitI (ix (V 3 q)) ||| bitI (ix (V 4 q)) else if kd V q = 7 ∨ kd V q = 10 then bitI (ix (V 2 q)) else if kd V q = 9 then bitI (8 + ix (V 3 q)) else 0
def rdI (V : St) (q : Nat) : Int32 := if kd V q = 7 then bitI (ix (V 2 q)) ||| bitI (ix (V 3 q)) else if kd V q = 8 then bitI (ix (V 3 q)) else if kd V q = 11 then bitI (ix (V 2 q)) else thrI V q
def shB (V : St) (q v : Nat) : Bool := decide (V 7 (ix (V 4 q)) &&& V 7 (ix (V 4 v)) ≠ 0)
theorem vp_lim {x : Int32} {n : Nat} (h : lim n x) (h0 : 0 < n) (hn : n < 2 ^ 31) : vp_in x n := by
  rcases h with h | ⟨i, hi, rfl⟩
  · omega
  · exact vp_in_nI hi hn
theorem lim_nI {x : Int32} {n : Nat} (h : lim n x) (h0 : 0 < n) : ∃ i, i < n ∧ x = nI i := by
  rcases h with h | h
  · omega
  · exact h
theorem in_iff {p : Int32} {n : Nat} (hn : n < 2 ^ 31) : (0 ≤ p ∧ p < nI n) ↔ ∃ q, q < n ∧ p = nI q := by
  constructor
  · rintro ⟨h1, h2⟩
    obtain ⟨j, hj, rfl⟩ := nI_of (x := p) (by rw [Int32.lt_iff_toInt_lt]; rw [Int32.le_iff_toInt_le] at h1; omega)
    exact ⟨j, (nI_ltI hj hn).mp h2, rfl⟩
  · rintro ⟨q, h, rfl⟩
    exact ⟨nI_pos' (by omega), nI_lt h hn⟩
section B4
variable {p : Program} {l : Launch} {e : Env} {R : Room} {s : State} {m : MethodId} {args : Array Value} {below : List Frame} {meth : Method} {c : Code} {H : Heap} {locs : List Loc} {cells slots : Nat} {Q : State → Prop}
variable {cc : ByteArray} {pc : Nat} {ls : Array Slot} {rest : List Value} {D : va_G} {A : Nat → Prop} {a : Nat} {tys : List (ClassId × FieldType)} {w : va_W} {H0 : Heap}
theorem stzx (hx : p.tables.exec = Jvm.exec) (hb : c.code = cc) (hK : va_K D vwCl tys s) (hh : Hd D A w H0 H locs) (q0 t0 : Nat) {cA : ClassId} {n : Nat} {f : Nat → Int32} (ha : w[q0]? = some (a, .inl (cA, n, .inl f))) (ht : tys[t0]? = some (cA, .boolean)) {i x : Int32} (hin : vp_in i n) (hdg : decode cc pc = .ok (.bastore, 1)) (w' : va_W) (hw' : w.set q0 (a, .inl (cA, n, .inl (upd f i.toNatClampNeg (vp_nar .boolean x)))) = w')
    (kk : ∀ (H1 : Heap) (locs1 : List Loc), Hd D A w' H0 H1 locs1 → W p l e R s m args below meth c H1 locs1 cells slots Q (F0 m (pc + 1) ls rest)) : W p l e R s m args below meth c H locs cells slots Q (F0 m pc ls (.int x :: .int i :: .ref a :: rest)) :=
  va_zast hx hb hK hh.1 hh.2.1 hh.2.2 q0 t0 ha ht hin hdg (fun H1 locs1 h1 h2 h3 => kk H1 locs1 (hw' ▸ ⟨h1, h2, h3⟩))
end B4
theorem zI_ne {b : Bool} (h : ¬ zI b = 0) : b = true := by cases b with | false => exact absurd rfl h | true => rfl
