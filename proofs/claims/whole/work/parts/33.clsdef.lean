/-! The class's own state: cut out of wS's cells; frames; ranges -/
def tr (b m : Nat) (V : St) : St := fun i => if i < m then V (b + i) else fun _ => 0
def pj (V : St) : St := fun i => if i = 0 then (fun j => if j = 7 then V 8 7 else 0) else if i < 8 then V (8 + i) else fun _ => 0
def put (b m : Nat) (V u : St) : St := fun i => if b ≤ i ∧ i < b + m then u (i - b) else V i
theorem tr_in {b m : Nat} {V : St} {i : Nat} (h : i < m) : tr b m V i = V (b + i) := if_pos h
theorem put_in {b m : Nat} {V u : St} {i : Nat} (h : i < m) : put b m V u (b + i) = u i := by
  unfold put; rw [if_pos (by omega), Nat.add_sub_cancel_left]
theorem put_out {b m : Nat} {V u : St} {i : Nat} (h : ¬ (b ≤ i ∧ i < b + m)) : put b m V u i = V i := if_neg h
theorem pj_eq {V U : St} (h : ∀ i, i < 8 → U (8 + i) = V (8 + i)) : pj U = pj V := by
  funext i
  unfold pj
  by_cases h0 : i = 0
  · rw [if_pos h0, if_pos h0]
    have := h 0 (by omega)
    funext j
    show (if j = 7 then U 8 7 else 0) = (if j = 7 then V 8 7 else 0)
    rw [show U 8 = V 8 from this]
  · rw [if_neg h0, if_neg h0]
    by_cases h8 : i < 8
    · rw [if_pos h8, if_pos h8, h i h8]
    · rw [if_neg h8, if_neg h8]
theorem tr_eq {b m : Nat} {V U : St} (h : ∀ i, i < m → U (b + i) = V (b + i)) : tr b m U = tr b m V := by
  funext i
  unfold tr
  by_cases h8 : i < m
  · rw [if_pos h8, if_pos h8, h i h8]
  · rw [if_neg h8, if_neg h8]
/-- the reasons are old, or right -/
def Ca (n : Nat) (V : St) : Prop := V 0 2 = 1 ∨ (V 0 2 = 0 ∧ RG n (pj V) (tr 16 15 V))
/-- nothing but the reasons has changed -/
def FrS (V U : St) : Prop := (∀ c, ¬ (16 ≤ c ∧ c < 31) → ¬ c = 0 → U c = V c) ∧ ∀ j, ¬ j = 2 → U 0 j = V 0 j
theorem FrS.rf {V : St} : FrS V V := ⟨fun _ _ _ => rfl, fun _ _ => rfl⟩
theorem FrS.pj {V U : St} (h : FrS V U) : pj U = pj V := pj_eq fun i hi => h.1 (8 + i) (by omega) (by omega)
theorem FrS.trans {V U X : St} (h : FrS V U) (h2 : FrS U X) : FrS V X := ⟨fun c a b => (h2.1 c a b).trans (h.1 c a b), fun j a => (h2.2 j a).trans (h.2 j a)⟩
def rgt (x : Int32) (N : Nat) : Prop := ∃ q, q < N ∧ x = nI q
theorem rgt_yes {x : Int32} {N : Nat} (hN : N < 2 ^ 31) (h1 : ¬ x < 0) (h2 : ¬ nI N ≤ x) : rgt x N := by
  rcases pk_ix x hN with h | h | h
  · exact absurd h h1
  · exact absurd h h2
  · exact h
theorem rgt_neg {x : Int32} {N : Nat} (hN : N < 2 ^ 31) (h1 : x < 0) : ¬ rgt x N := by
  rintro ⟨q, hq, rfl⟩
  exact nI_pos (by omega) h1
theorem rgt_big {x : Int32} {N : Nat} (hN : N < 2 ^ 31) (h1 : nI N ≤ x) : ¬ rgt x N := by
  rintro ⟨q, hq, rfl⟩
  exact absurd ((nI_leI (by omega) (by omega)).mp h1) (by omega)
theorem i_nlt {x y : Int32} : ¬ x < y ↔ y ≤ x := by rw [Int32.lt_iff_toInt_lt, Int32.le_iff_toInt_le]; omega
theorem i_nle {x y : Int32} : ¬ x ≤ y ↔ y < x := by rw [Int32.lt_iff_toInt_lt, Int32.le_iff_toInt_le]; omega
theorem has_iff {n : Nat} {P : St} (hv : okV n P) (x : Int32) : (decide (0 ≤ x ∧ x < P 0 7) = true) ↔ rgt x n := by
  have := hv.1
  rw [decide_eq_true_eq, hv.2.1, in_iff (by omega)]
  exact Iff.rfl
theorem has_no {n : Nat} {P : St} {x : Int32} (hv : okV n P) (h : zI (decide (0 ≤ x ∧ x < P 0 7)) = 0) : ¬ rgt x n := fun z => by
  rw [(has_iff hv x).mpr z] at h; exact absurd h (by decide)
theorem has_yes {n : Nat} {P : St} {x : Int32} (hv : okV n P) (h : ¬ zI (decide (0 ≤ x ∧ x < P 0 7)) = 0) : rgt x n := (has_iff hv x).mp (zI_ne h)
section B5
variable {p : Program} {l : Launch} {e : Env} {R : Room} {s : State} {m : MethodId} {args : Array Value} {below : List Frame} {meth : Method} {c : Code} {H : Heap} {locs : List Loc} {cells slots : Nat} {Q : State → Prop}
variable {cc : ByteArray} {pc : Nat} {ls : Array Slot} {D : va_G} {A : Nat → Prop} {a : Nat} {tys : List (ClassId × FieldType)} {w : va_W} {H0 : Heap} {X : State → Prop}
variable {st0 : List Value}
theorem retA {S : Type} {Wd : S → va_W} {post : S → Prop} {a0 : Nat} {C : String} (u : S) (hx : p.tables.exec = Jvm.exec) (hb : c.code = cc) (hr : meth.sig.returnType = some (.object C)) (hlocks : meth.locks = false) (hdg : decode cc pc = .ok (.areturn, 1)) (hh : Hd D A (Wd u) s.heap H locs) (hp : post u) : W p l e R s m args below meth c H locs 0 0 (MQ below (qA D Wd post a0 A) args s 0 0 A) (F0 m pc ls [.ref a0]) :=
  W.aret (v := .ref a0) hx hb hr (Or.inl ⟨_, rfl⟩) (Or.inr ⟨_, rfl⟩) (fun t ht _ => ⟨⟨u, a0, rfl, hp, rfl, by rw [ht]; exact hh.1, hh.2.1⟩, hh.2.2.F ht⟩) hh.2.2.2.2 hdg hlocks
theorem callWA {S : Type} {Wd : S → va_W} {post : S → Prop} {a0 : Nat} {rest : List Value} {av : Array Value} {wc wr : va_W} {wn : S → va_W} (hr : va_Run p l e R s m args below meth c H locs cells slots 0 0 (F0 m pc ls st0) rest (qA D Wd post a0 (va_A wc H.size) av) (va_A wc H.size))
    (hA : ∀ q, s.heap.size ≤ q → A q) (hh : Hd D A w s.heap H locs) (isC isR pm : List Nat) (hC : isC.map (fun i => w[i]?) = wc.map some) (hR : isR.map (fun i => w[i]?) = wr.map some) (hn : va_nd isR = true) (hdis : ∀ i ∈ isR, i ∉ isC) (hpn : va_nd pm = true) (hpm : ∀ u, pm.map (fun i => (wr ++ Wd u)[i]?) = (wn u).map some)
    (kk : ∀ (u : S) (H1 : Heap) (locs1 : List Loc), post u → Hd D A (wn u) s.heap H1 locs1 → W p l e R s m args below meth c H1 locs1 cells slots Q (F0 m (pc + 3) ls (.ref a0 :: rest))) : W p l e R s m args below meth c H locs cells slots Q (F0 m pc ls st0) :=
  va_callr hr hh.2.2 (fun q _ h => hh.free hA isC hC q h) (hh.free hA isC hC) (fun u ra t H1 locs1 ht _ hp hB _ hk hS => by
    obtain ⟨rfl, hB1, hB2⟩ := hB
    exact kk u H1 locs1 hp (hh.join hA isC isR pm hC hR hn hdis hpn (hpm u) hk (ht ▸ hB1) hB2 hS))
end B5
section B6
variable {p : Program} {l : Launch} {e : Env} {R : Room} {s : State} {m : MethodId} {args : Array Value} {below : List Frame} {meth : Method} {c : Code} {H : Heap} {locs : List Loc} {cells slots : Nat} {Q : State → Prop}
variable {cc : ByteArray} {pc : Nat} {ls : Array Slot} {rest : List Value} {D : va_G} {A : Nat → Prop} {a : Nat} {tys : List (ClassId × FieldType)} {w : va_W} {H0 : Heap}
theorem stzn (hx : p.tables.exec = Jvm.exec) (hb : c.code = cc) (hK : va_K D vwCl tys s) (hh : Hd D A w H0 H locs) (q0 t0 : Nat) {cA : ClassId} {n : Nat} {f : Nat → Int32} (ha : w[q0]? = some (a, .inl (cA, n, .inl f))) (ht : tys[t0]? = some (cA, .boolean)) {j : Nat} {x : Int32} (hj : j < n) (hn : n < 2 ^ 31) (hdg : decode cc pc = .ok (.bastore, 1)) (w' : va_W) (hw' : w.set q0 (a, .inl (cA, n, .inl (upd f j (vp_nar .boolean x)))) = w')
    (kk : ∀ (H1 : Heap) (locs1 : List Loc), Hd D A w' H0 H1 locs1 → W p l e R s m args below meth c H1 locs1 cells slots Q (F0 m (pc + 1) ls rest)) : W p l e R s m args below meth c H locs cells slots Q (F0 m pc ls (.int x :: .int (nI j) :: .ref a :: rest)) := by
  refine stzx hx hb hK hh q0 t0 ha ht (vp_in_nI hj hn) hdg w' ?_ kk
  rw [nI_clamp (Nat.lt_trans hj hn)]
  exact hw'
end B6
def oldS (V : St) : St := va_up V 0 (upd (V 0) 2 1)
theorem left_ix {x : Int32} (h1 : ¬ x < 2) (h2 : ¬ (10 : Int32) ≤ x) : ∃ q, q < 8 ∧ x = nI (q + 2) := by
  have h0 : ¬ x < 0 := fun z => h1 (by rw [Int32.lt_iff_toInt_lt] at *; have : (0 : Int32).toInt = 0 := by decide
                                       have : (2 : Int32).toInt = 2 := by decide
                                       omega)
  obtain ⟨q, hq, rfl⟩ := rgt_yes (N := 10) (by decide) h0 h2
  have h3 : ¬ q < 2 := fun z => h1 ((nI_ltI (b := 2) (by omega) (by omega)).mpr z)
  exact ⟨q - 2, by omega, by rw [show q - 2 + 2 = q by omega]⟩
theorem left_no {x : Int32} (h0 : ¬ x = 0) (h1 : ¬ x = 1) (h2 : x < 2) : ¬ rgt x 10 := by
  rintro ⟨q, hq, rfl⟩
  have h3 : q < 2 := (nI_ltI (b := 2) (by omega) (by omega)).mp h2
  rcases (show q = 0 ∨ q = 1 by omega) with rfl | rfl
  · exact h0 rfl
  · exact h1 rfl
theorem sw3 (x : Int32) : x = 0 ∨ x = 1 ∨ x = 2 ∨ ((x.toInt < 0 ∨ 2 < x.toInt) ∧ ¬ rgt x 3) := by
  rcases pk_ix x (n := 3) (by decide) with h | h | ⟨q, hq, rfl⟩
  · refine Or.inr (Or.inr (Or.inr ⟨Or.inl ?_, rgt_neg (by decide) h⟩))
    rw [Int32.lt_iff_toInt_lt] at h
    have : (0 : Int32).toInt = 0 := by decide
    omega
  · refine Or.inr (Or.inr (Or.inr ⟨Or.inr ?_, rgt_big (by decide) h⟩))
    rw [Int32.le_iff_toInt_le, nI_toInt (by decide)] at h
    omega
  · rcases (show q = 0 ∨ q = 1 ∨ q = 2 by omega) with rfl | rfl | rfl
    · exact Or.inl rfl
    · exact Or.inr (Or.inl rfl)
    · exact Or.inr (Or.inr (Or.inl rfl))
theorem sw4 (x : Int32) : x = 0 ∨ x = 1 ∨ x = 2 ∨ x = 3 ∨ ((x.toInt < 0 ∨ 3 < x.toInt) ∧ ¬ rgt x 4) := by
  rcases pk_ix x (n := 4) (by decide) with h | h | ⟨q, hq, rfl⟩
  · refine Or.inr (Or.inr (Or.inr (Or.inr ⟨Or.inl ?_, rgt_neg (by decide) h⟩)))
    rw [Int32.lt_iff_toInt_lt] at h
    have : (0 : Int32).toInt = 0 := by decide
    omega
  · refine Or.inr (Or.inr (Or.inr (Or.inr ⟨Or.inr ?_, rgt_big (by decide) h⟩)))
    rw [Int32.le_iff_toInt_le, nI_toInt (by decide)] at h
    omega
  · rcases (show q = 0 ∨ q = 1 ∨ q = 2 ∨ q = 3 by omega) with rfl | rfl | rfl | rfl
    · exact Or.inl rfl
    · exact Or.inr (Or.inl rfl)
    · exact Or.inr (Or.inr (Or.inl rfl))
    · exact Or.inr (Or.inr (Or.inr (Or.inl rfl)))
