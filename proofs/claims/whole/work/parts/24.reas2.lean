/-! the class Reasons: endReachedWithout, kthCause -/
abbrev rmX2_endReachedWithout : Room := { frames := 0, cells := 0, slots := 0, locals := 0 }
theorem lk_X2_endReachedWithout : Lk yX2_endReachedWithout 1 := by decide +kernel
set_option maxHeartbeats 4000000 in
set_option maxRecDepth 100000 in
/-- endReachedWithout(v) -/
theorem c_X2_endReachedWithout (l : Launch) (D : va_G) (k : Nat → ClassId) (ad : Nat → Nat) (V : St) {n : Nat} (hn : V 0 0 = nI n) (hn24 : n ≤ 24) {v : Nat} (hv : v < 24) : CtR noX l yX2_endReachedWithout cX2_endReachedWithout 6 (some .int) rmX2_endReachedWithout D (tyL k) (wR k ad V) [.ref (ad 0), .int (nI v)] (fun r => ∀ j, bt r j = true ↔ Cl (fun j => j = 24) (fun y z => z < n ∧ ¬ z = v ∧ bt (V 2 z) y = true) j) := by
  refine CtR.mk (by decide) (Nat.le_of_ble_eq_true rfl) ?_
  intro p e s m below meth c hx hb hml hown hg hr hlocks hK hN hX H hH hP ls hl
  have hl : lv_has ls 6 [(0, .ref (ad 0)), (1, .int (nI v))] := hl
  refine lv_ldc (v := 16777216) hx hb hown (hg _ wd_322) dX2_endReachedWithout_0 ?_
  refine topv (bitI 24) (by decide) ?_
  refine lv_istore_n (lv' := [(2, .int (bitI 24)), (0, .ref (ad 0)), (1, .int (nI v))]) hx hb dX2_endReachedWithout_2 rfl hl (by decide) rfl (fun ls hl => ?_)
  refine lv_iconst (v := 0) hx hb dX2_endReachedWithout_3 (by decide) ?_
  refine lv_istore_n (lv' := [(3, .int 0), (2, .int (bitI 24)), (0, .ref (ad 0)), (1, .int (nI v))]) hx hb dX2_endReachedWithout_4 rfl hl (by decide) rfl (fun ls hl => ?_)
  refine lv_iconst (v := 0) hx hb dX2_endReachedWithout_5 (by decide) ?_
  refine lv_istore (lv' := [(4, .int 0), (3, .int 0), (2, .int (bitI 24)), (0, .ref (ad 0)), (1, .int (nI v))]) hx hb dX2_endReachedWithout_6 hl (by decide) rfl (fun ls hl => ?_)
  refine loopR (σ := Int32 × Int32 × Nat) (fun zz9 ls => match zz9 with | (x, b, t) => lv_has ls 6 [(0, .ref (ad 0)), (1, .int (nI v)), (2, .int x), (3, .int b), (4, .int (nI t))] ∧ (Sat (fun j => j = 24) (fun y z => z < n ∧ ¬ z = v ∧ bt (V 2 z) y = true) x b) ∧ (∀ j, bt x j = true → j < 25) ∧ (∀ j, (fun j => j = 24) j → bt x j = true) ∧ (t ≤ 25) ∧ (x = b ∨ t + 1 ≤ cnt x)) (fun zz9 => match zz9 with | (x, b, t) => 25 - t) ?_ (bitI 24, 0, 0) ⟨(lv_sub hl [3, 4, 2, 1, 0] rfl), ⟨fun j hj => Cl.base (by rw [b_bit (by omega)] at hj; exact of_decide_eq_true hj), fun e => absurd e (by decide)⟩, (fun j hj => by rw [b_bit (by omega)] at hj; have := of_decide_eq_true hj; omega), (fun j hj => by subst hj; rw [b_bit (by omega)]; simp), (by omega), (Or.inr (by decide))⟩
  intro zz9 ls hI ih
  obtain ⟨x, b, t⟩ := zz9
  obtain ⟨hl, hs, h25, hX, ht, hc⟩ := hI
  have iho := ih; clear ih
  refine lv_iload_n hx hb dX2_endReachedWithout_8 rfl (lv_at hl 2 rfl) ?_
  refine lv_iload_n hx hb dX2_endReachedWithout_9 rfl (lv_at hl 3 rfl) ?_
  refine lv_icmp_eq (tgt := 72) hx hb dX2_endReachedWithout_10 (by decide) (fun c_10 => ?_) (fun c_10 => ?_)
  · refine lv_iload_n hx hb dX2_endReachedWithout_72 rfl (lv_at hl 2 rfl) ?_
    exact retRI (v := x) hx hb hr hlocks hH dX2_endReachedWithout_73 (fun j => hs.done (by first | exact c_10 | (rcases hc with e | e; exact e; have := cnt_25 h25; omega)) j)
  · refine lv_iload hx hb dX2_endReachedWithout_13 (lv_at hl 4 rfl) ?_
    refine lv_bipush (v := 24) hx hb dX2_endReachedWithout_15 (by decide) ?_
    refine lv_icmp_gt (tgt := 72) hx hb dX2_endReachedWithout_17 (by decide) (fun c_17 => ?_) (fun c_17 => ?_)
    · have c_17 : 24 < t := (nI_ltI (a := 24) (b := t) (by omega) (by omega)).mp c_17
      refine lv_iload_n hx hb dX2_endReachedWithout_72 rfl (lv_at hl 2 rfl) ?_
      exact retRI (v := x) hx hb hr hlocks hH dX2_endReachedWithout_73 (fun j => hs.done (by first | exact c_10 | (rcases hc with e | e; exact e; have := cnt_25 h25; omega)) j)
    · have c_17 : ¬ 24 < t := fun z => c_17 ((nI_ltI (a := 24) (b := t) (by omega) (by omega)).mpr z)
      refine lv_iload_n hx hb dX2_endReachedWithout_20 rfl (lv_at hl 2 rfl) ?_
      refine lv_istore_n (lv' := [(3, .int x), (0, .ref (ad 0)), (1, .int (nI v)), (2, .int x), (4, .int (nI t))]) hx hb dX2_endReachedWithout_21 rfl hl (by decide) rfl (fun ls hl => ?_)
      refine lv_aload_n hx hb dX2_endReachedWithout_22 rfl (lv_at hl 1 rfl) ?_
      refine gfl hx hb hg inX2 hown hK hP 0 (ci := 2) rfl rfl 0 (by decide) wd_119 rfl dX2_endReachedWithout_23 ?_
      refine topv (nI n) hn ?_
      refine lv_iconst (v := 1) hx hb dX2_endReachedWithout_26 (by decide) ?_
      refine lv_isub hx hb dX2_endReachedWithout_27 ?_
      refine lv_istore (lv' := [(5, .int ((nI n) - 1)), (3, .int x), (0, .ref (ad 0)), (1, .int (nI v)), (2, .int x), (4, .int (nI t))]) hx hb dX2_endReachedWithout_28 hl (by decide) rfl (fun ls hl => ?_)
      refine loopR (σ := Int32 × Nat) (fun zz9 ls => match zz9 with | (x1, m1) => lv_has ls 6 [(0, .ref (ad 0)), (1, .int (nI v)), (2, .int x1), (3, .int x), (4, .int (nI t)), (5, .int (nI m1 - 1))] ∧ (InT (fun j => j = 24) (fun y z => z < n ∧ ¬ z = v ∧ bt (V 2 z) y = true) x x1 (fun z => m1 ≤ z ∧ z < n)) ∧ (m1 ≤ n) ∧ (∀ j, bt x1 j = true → j < 25)) (fun zz9 => match zz9 with | (x1, m1) => m1) ?_ (x, n) ⟨(lv_sub hl [2, 3, 4, 1, 5, 0] rfl), (InT.start hs.1 (fun z hz => by omega)), (by omega), h25⟩
      intro zz9 ls hI ih
      obtain ⟨x1, m1⟩ := zz9
      obtain ⟨hl, hI, hi, h25⟩ := hI
      refine lv_iload hx hb dX2_endReachedWithout_30 (lv_at hl 5 rfl) ?_
      refine lv_if_lt (tgt := 66) hx hb dX2_endReachedWithout_32 (by decide) (fun c_32 => ?_) (fun c_32 => ?_)
      · refine lv_iinc (v := nI (t + 1)) (lv' := [(4, .int (nI (t + 1))), (0, .ref (ad 0)), (1, .int (nI v)), (2, .int x1), (3, .int x), (5, .int (nI m1 - 1))]) hx hb dX2_endReachedWithout_66 hl (k := 4) rfl (nI_succ t).symm (by decide) rfl (fun ls hl => ?_)
        refine lv_goto (tgt := 8) hx hb dX2_endReachedWithout_69 (by decide) ?_
        have hcx : t + 1 ≤ cnt x := hc.resolve_left c_10
        obtain rfl : m1 = 0 := (pre1 (by omega)).mp c_32
        exact iho (x1, x, t + 1) _ ⟨(lv_sub hl [1, 2, 3, 4, 0] rfl), (hI.sat (fun j hj => Or.inl (hX j hj)) (fun y z h => ⟨by omega, h.1⟩)), h25, (fun j hj => hI.2.1 j (hX j hj)), (by omega), (by rcases Classical.em (x1 = x) with e | e; exact Or.inl e; exact Or.inr (by have := cnt_lt hI.2.1 e; omega))⟩ (by dsimp only; omega)
      · obtain ⟨i, rfl⟩ : ∃ i, m1 = i + 1 := ⟨m1 - 1, by have : ¬ m1 = 0 := fun z => c_32 ((pre1 (by omega)).mpr z); omega⟩
        rw [nI_pred i] at hl
        refine lv_iload hx hb dX2_endReachedWithout_35 (lv_at hl 5 rfl) ?_
        refine lv_iload_n hx hb dX2_endReachedWithout_37 rfl (lv_at hl 1 rfl) ?_
        refine lv_icmp_eq (tgt := 60) hx hb dX2_endReachedWithout_38 (by decide) (fun c_38 => ?_) (fun c_38 => ?_)
        · have c_38 : i = v := (nI_eq (a := i) (b := v) (by omega) (by omega)).mp c_38
          refine lv_iinc (v := nI i - 1) (lv' := [(5, .int (nI i - 1)), (0, .ref (ad 0)), (1, .int (nI v)), (2, .int x1), (3, .int x), (4, .int (nI t))]) hx hb dX2_endReachedWithout_60 hl (k := 5) rfl (i_m1 _) (by decide) rfl (fun ls hl => ?_)
          refine lv_goto (tgt := 30) hx hb dX2_endReachedWithout_63 (by decide) ?_
          exact ih (x1, i) _ ⟨(lv_sub hl [1, 2, 3, 4, 5, 0] rfl), (hI.no (i := i) (fun hz => by rcases hz with z | ⟨y, h1, h2, h3, h4⟩; omega; first | exact h3 c_38 | exact absurd c_50 (and_ne0.mpr ⟨y, h4, h1⟩)) (fun z hz => by omega)), (by omega), h25⟩ (by dsimp only; omega)
        · have c_38 : ¬ i = v := fun z => c_38 ((nI_eq (a := i) (b := v) (by omega) (by omega)).mpr z)
          refine lv_aload_n hx hb dX2_endReachedWithout_41 rfl (lv_at hl 0 rfl) ?_
          refine gfl hx hb hg inX2 hown hK hP 0 (ci := 2) rfl rfl 2 (by decide) wd_121 rfl dX2_endReachedWithout_42 ?_
          refine lv_iload hx hb dX2_endReachedWithout_45 (lv_at hl 5 rfl) ?_
          refine ldn hx hb hK hP 2 0 rfl rfl (by omega) (by decide) dX2_endReachedWithout_47 ?_
          refine lv_iload_n hx hb dX2_endReachedWithout_48 rfl (lv_at hl 2 rfl) ?_
          refine lv_iand hx hb dX2_endReachedWithout_49 ?_
          refine lv_if_eq (tgt := 60) hx hb dX2_endReachedWithout_50 (by decide) (fun c_50 => ?_) (fun c_50 => ?_)
          · refine lv_iinc (v := nI i - 1) (lv' := [(5, .int (nI i - 1)), (0, .ref (ad 0)), (1, .int (nI v)), (2, .int x1), (3, .int x), (4, .int (nI t))]) hx hb dX2_endReachedWithout_60 hl (k := 5) rfl (i_m1 _) (by decide) rfl (fun ls hl => ?_)
            refine lv_goto (tgt := 30) hx hb dX2_endReachedWithout_63 (by decide) ?_
            exact ih (x1, i) _ ⟨(lv_sub hl [1, 2, 3, 4, 5, 0] rfl), (hI.no (i := i) (fun hz => by rcases hz with z | ⟨y, h1, h2, h3, h4⟩; omega; first | exact h3 c_38 | exact absurd c_50 (and_ne0.mpr ⟨y, h4, h1⟩)) (fun z hz => by omega)), (by omega), h25⟩ (by dsimp only; omega)
          · refine lv_iload_n hx hb dX2_endReachedWithout_53 rfl (lv_at hl 2 rfl) ?_
            refine lv_iconst (v := 1) hx hb dX2_endReachedWithout_54 (by decide) ?_
            refine lv_iload hx hb dX2_endReachedWithout_55 (lv_at hl 5 rfl) ?_
            refine lv_ishl hx hb dX2_endReachedWithout_57 ?_
            refine topv (bitI i) rfl ?_
            refine lv_ior hx hb dX2_endReachedWithout_58 ?_
            refine lv_istore_n (lv' := [(2, .int (x1 ||| (bitI i))), (0, .ref (ad 0)), (1, .int (nI v)), (3, .int x), (4, .int (nI t)), (5, .int (nI i))]) hx hb dX2_endReachedWithout_59 rfl hl (by decide) rfl (fun ls hl => ?_)
            refine lv_iinc (v := nI i - 1) (lv' := [(5, .int (nI i - 1)), (2, .int (x1 ||| (bitI i))), (0, .ref (ad 0)), (1, .int (nI v)), (3, .int x), (4, .int (nI t))]) hx hb dX2_endReachedWithout_60 hl (k := 5) rfl (i_m1 _) (by decide) rfl (fun ls hl => ?_)
            refine lv_goto (tgt := 30) hx hb dX2_endReachedWithout_63 (by decide) ?_
            exact ih (x1 ||| bitI i, i) _ ⟨(lv_sub hl [2, 3, 1, 4, 5, 0] rfl), (hI.yes (i := i) (by omega) (Or.inr (by obtain ⟨y, h1, h2⟩ := and_ne0.mp c_50; exact ⟨y, h2, by omega, c_38, h1⟩)) (fun z hz => by omega)), (by omega), (fun j hj => by rw [b_or, Bool.or_eq_true, b_bit (by omega)] at hj; rcases hj with z | z; exact h25 j z; have := of_decide_eq_true z; omega)⟩ (by dsimp only; omega)
def hgF (V : St) (q : Nat) : Nat → Bool := fun i => bt (V (11 + i % 4) q) (i / 4)
abbrev rmX2_kthCause : Room := { frames := 1, cells := 0, slots := 0, locals := 21 }
theorem lk_X2_kthCause : Lk yX2_kthCause 3 := by decide +kernel
set_option maxHeartbeats 4000000 in
set_option maxRecDepth 100000 in
/-- kthCause(p, k, kindWanted) -/
theorem c_X2_kthCause (l : Launch) (D : va_G) (k : Nat → ClassId) (ad : Nat → Nat) (V : St) {n : Nat} (hn : V 0 0 = nI n) (hn24 : n ≤ 24) {q : Nat} (hq : q < 24) {kk : Nat} (hkk : kk < 2 ^ 31) (w : Bool) : CtR noX l yX2_kthCause cX2_kthCause 7 (some .int) rmX2_kthCause D (tyL k) (wR k ad V) [.ref (ad 0), .int (nI q), .int (nI kk), .int (zI w)] (fun r => r = match kthS (hgF V q) (4 * n) 0 kk with | none => -4 | some i => if w = true then nI (1 + i % 4) else nI (i / 4)) := by
  refine CtR.mk (by decide) (Nat.le_of_ble_eq_true rfl) ?_
  intro p e s m below meth c hx hb hml hown hg hr hlocks hK hN hX H hH hP ls hl
  have hl : lv_has ls 7 [(0, .ref (ad 0)), (1, .int (nI q)), (2, .int (nI kk)), (3, .int (zI w))] := hl
  refine lv_iload_n hx hb dX2_kthCause_0 rfl (lv_at hl 2 rfl) ?_
  refine lv_istore (lv' := [(4, .int (nI kk)), (0, .ref (ad 0)), (1, .int (nI q)), (2, .int (nI kk)), (3, .int (zI w))]) hx hb dX2_kthCause_1 hl (by decide) rfl (fun ls hl => ?_)
  refine lv_iconst (v := 0) hx hb dX2_kthCause_3 (by decide) ?_
  refine lv_istore (lv' := [(5, .int 0), (4, .int (nI kk)), (0, .ref (ad 0)), (1, .int (nI q)), (2, .int (nI kk)), (3, .int (zI w))]) hx hb dX2_kthCause_4 hl (by decide) rfl (fun ls hl => ?_)
  refine loopR (σ := Nat × Nat) (fun zz9 ls => match zz9 with | (u, c) => lv_has ls 7 [(0, .ref (ad 0)), (1, .int (nI q)), (2, .int (nI kk)), (3, .int (zI w)), (4, .int (nI c)), (5, .int (nI u))] ∧ (u ≤ n) ∧ (c < 2 ^ 31) ∧ (kthS (hgF V q) (4 * n - 4 * u) (4 * u) c = kthS (hgF V q) (4 * n) 0 kk)) (fun zz9 => match zz9 with | (u, c) => n - u) ?_ (0, kk) ⟨(lv_sub hl [2, 3, 4, 5, 1, 0] rfl), (by omega), hkk, rfl⟩
  intro zz9 ls hI ih
  obtain ⟨u, c⟩ := zz9
  obtain ⟨hl, hu, hc, he0⟩ := hI
  have iho := ih; clear ih
  refine lv_iload hx hb dX2_kthCause_6 (lv_at hl 5 rfl) ?_
  refine lv_aload_n hx hb dX2_kthCause_8 rfl (lv_at hl 0 rfl) ?_
  refine gfl hx hb hg inX2 hown hK hP 0 (ci := 2) rfl rfl 0 (by decide) wd_119 rfl dX2_kthCause_9 ?_
  refine topv (nI n) hn ?_
  refine lv_icmp_ge (tgt := 73) hx hb dX2_kthCause_12 (by decide) (fun c_12 => ?_) (fun c_12 => ?_)
  · have c_12 : n ≤ u := (nI_leI (a := n) (b := u) (by omega) (by omega)).mp c_12
    refine lv_bipush (v := (-4)) hx hb dX2_kthCause_73 (by decide) ?_
    exact retRI (v := (-4)) hx hb hr hlocks hH dX2_kthCause_75 (by rw [← he0, show 4 * n - 4 * u = 0 by omega]; rfl)
  · have c_12 : ¬ n ≤ u := fun z => c_12 ((nI_leI (a := n) (b := u) (by omega) (by omega)).mpr z)
    refine lv_iconst (v := 1) hx hb dX2_kthCause_15 (by decide) ?_
    refine lv_istore (lv' := [(6, .int 1), (0, .ref (ad 0)), (1, .int (nI q)), (2, .int (nI kk)), (3, .int (zI w)), (4, .int (nI c)), (5, .int (nI u))]) hx hb dX2_kthCause_16 hl (by decide) rfl (fun ls hl => ?_)
    refine loopR (σ := Nat × Nat) (fun zz9 ls => match zz9 with | (t, c1) => lv_has ls 7 [(0, .ref (ad 0)), (1, .int (nI q)), (2, .int (nI kk)), (3, .int (zI w)), (4, .int (nI c1)), (5, .int (nI u)), (6, .int (nI t))] ∧ (1 ≤ t) ∧ (t ≤ 5) ∧ (c1 < 2 ^ 31) ∧ (kthS (hgF V q) (4 * n - (4 * u + (t - 1))) (4 * u + (t - 1)) c1 = kthS (hgF V q) (4 * n) 0 kk)) (fun zz9 => match zz9 with | (t, c1) => 5 - t) ?_ (1, c) ⟨(lv_sub hl [1, 2, 3, 4, 5, 6, 0] rfl), (by omega), (by omega), hc, he0⟩
    intro zz9 ls hI ih
    obtain ⟨t, c1⟩ := zz9
    obtain ⟨hl, h1, h5, hc1, he⟩ := hI
    refine lv_iload hx hb dX2_kthCause_18 (lv_at hl 6 rfl) ?_
    refine lv_iconst (v := 4) hx hb dX2_kthCause_20 (by decide) ?_
    refine lv_icmp_gt (tgt := 67) hx hb dX2_kthCause_21 (by decide) (fun c_21 => ?_) (fun c_21 => ?_)
    · have c_21 : 4 < t := (nI_ltI (a := 4) (b := t) (by omega) (by omega)).mp c_21
      refine lv_iinc (v := nI (u + 1)) (lv' := [(5, .int (nI (u + 1))), (0, .ref (ad 0)), (1, .int (nI q)), (2, .int (nI kk)), (3, .int (zI w)), (4, .int (nI c1)), (6, .int (nI t))]) hx hb dX2_kthCause_67 hl (k := 5) rfl (nI_succ u).symm (by decide) rfl (fun ls hl => ?_)
      refine lv_goto (tgt := 6) hx hb dX2_kthCause_70 (by decide) ?_
      exact iho (u + 1, c1) _ ⟨(lv_sub hl [1, 2, 3, 4, 5, 0] rfl), (by omega), (by omega), (by rw [← he]; congr 1 <;> omega)⟩ (by dsimp only; omega)
    · have c_21 : ¬ 4 < t := fun z => c_21 ((nI_ltI (a := 4) (b := t) (by omega) (by omega)).mpr z)
      refine lv_aload_n hx hb dX2_kthCause_24 rfl (lv_at hl 0 rfl) ?_
      refine gfl hx hb hg inX2 hown hK hP 0 (ci := 2) rfl rfl 4 (by decide) wd_123 rfl dX2_kthCause_25 ?_
      refine lv_iload hx hb dX2_kthCause_28 (lv_at hl 6 rfl) ?_
      refine ldq (x := ad (10 + t)) hx hb hK hP 4 2 rfl rfl rfl (by omega) (by decide) rfl dX2_kthCause_30 ?_
      refine lv_iload_n hx hb dX2_kthCause_31 rfl (lv_at hl 1 rfl) ?_
      refine ldn hx hb hK hP (10 + t) 0 (hang_row (t := t) (by omega)) rfl (by omega) (by decide) dX2_kthCause_32 ?_
      have hf : (hgF V q) (4 * u + (t - 1)) = bt (V (10 + t) q) u := by show bt (V (11 + (4 * u + (t - 1)) % 4) q) ((4 * u + (t - 1)) / 4) = _; rw [show 11 + (4 * u + (t - 1)) % 4 = 10 + t by omega, show (4 * u + (t - 1)) / 4 = u by omega]
      refine lv_iload hx hb dX2_kthCause_33 (lv_at hl 5 rfl) ?_
      refine callR (runSN hx hb hg hown hml hl.1 hN (c_X3_holds l D k ((V (10 + t)) q) (q := u) (by omega)) [.int ((V (10 + t)) q), .int (nI u)] [] (preR (mapSome_sub hP [] rfl) hK hN xb0 x0) 323 nst_323 wd_324 wd_49 wd_325 lk_X3_holds ⟨rfl, rfl⟩ ⟨by decide, by decide⟩ ⟨Nat.zero_le _, Nat.zero_le _⟩ rfl (Nat.le_of_ble_eq_true rfl) dX2_kthCause_35) (fun r_35 q_35 => ?_)
      obtain rfl := q_35
      refine lv_if_eq (tgt := 61) hx hb dX2_kthCause_38 (by decide) (fun c_38 => ?_) (fun c_38 => ?_)
      · have c_38 := zI_0.mp c_38
        refine lv_iinc (v := nI (t + 1)) (lv' := [(6, .int (nI (t + 1))), (0, .ref (ad 0)), (1, .int (nI q)), (2, .int (nI kk)), (3, .int (zI w)), (4, .int (nI c1)), (5, .int (nI u))]) hx hb dX2_kthCause_61 hl (k := 6) rfl (nI_succ t).symm (by decide) rfl (fun ls hl => ?_)
        refine lv_goto (tgt := 18) hx hb dX2_kthCause_64 (by decide) ?_
        exact ih (t + 1, c1) _ ⟨(lv_sub hl [1, 2, 3, 4, 5, 6, 0] rfl), (by omega), (by omega), (by omega), (by rw [← he, kth_f (hf.trans c_38) (by omega)]; congr 1 <;> omega)⟩ (by dsimp only; omega)
      · have c_38 := zI_ne c_38
        refine lv_iload hx hb dX2_kthCause_41 (lv_at hl 4 rfl) ?_
        refine lv_if_ne (tgt := 58) hx hb dX2_kthCause_43 (by decide) (fun c_43 => ?_) (fun c_43 => ?_)
        · have c_43 : ¬ c1 = 0 := fun z => c_43 ((nI_eq (a := c1) (b := 0) (by omega) (by omega)).mpr z)
          refine lv_iinc (v := nI (c1 - 1)) (lv' := [(4, .int (nI (c1 - 1))), (0, .ref (ad 0)), (1, .int (nI q)), (2, .int (nI kk)), (3, .int (zI w)), (5, .int (nI u)), (6, .int (nI t))]) hx hb dX2_kthCause_58 hl (k := 4) rfl (by rw [show (Int32.ofInt (-1)) = -1 from rfl, i_m1]; exact pk_sub (b := 1) (by omega)) (by decide) rfl (fun ls hl => ?_)
          refine lv_iinc (v := nI (t + 1)) (lv' := [(6, .int (nI (t + 1))), (4, .int (nI (c1 - 1))), (0, .ref (ad 0)), (1, .int (nI q)), (2, .int (nI kk)), (3, .int (zI w)), (5, .int (nI u))]) hx hb dX2_kthCause_61 hl (k := 6) rfl (nI_succ t).symm (by decide) rfl (fun ls hl => ?_)
          refine lv_goto (tgt := 18) hx hb dX2_kthCause_64 (by decide) ?_
          exact ih (t + 1, c1 - 1) _ ⟨(lv_sub hl [2, 3, 4, 5, 1, 6, 0] rfl), (by omega), (by omega), (by omega), (by rw [← he, kth_s (hf.trans c_38) (by omega) c_43]; congr 1 <;> omega)⟩ (by dsimp only; omega)
        · have c_43 : c1 = 0 := (nI_eq (a := c1) (b := 0) (by omega) (by omega)).mp c_43
          refine lv_iload_n hx hb dX2_kthCause_46 rfl (lv_at hl 3 rfl) ?_
          refine lv_if_eq (tgt := 55) hx hb dX2_kthCause_47 (by decide) (fun c_47 => ?_) (fun c_47 => ?_)
          · have c_47 := zI_0.mp c_47
            refine lv_iload hx hb dX2_kthCause_55 (lv_at hl 5 rfl) ?_
            exact retRI (v := nI u) hx hb hr hlocks hH dX2_kthCause_57 (by obtain rfl := c_43; rw [← he, kth_z (hf.trans c_38) (by omega)]; dsimp only; rw [c_47]; first | (rw [if_pos rfl]; congr 1; omega) | (rw [if_neg (by decide)]; congr 1; omega))
          · have c_47 := zI_ne c_47
            refine lv_iload hx hb dX2_kthCause_50 (lv_at hl 6 rfl) ?_
            refine lv_goto (tgt := 57) hx hb dX2_kthCause_52 (by decide) ?_
            exact retRI (v := nI t) hx hb hr hlocks hH dX2_kthCause_57 (by obtain rfl := c_43; rw [← he, kth_z (hf.trans c_38) (by omega)]; dsimp only; rw [c_47]; first | (rw [if_pos rfl]; congr 1; omega) | (rw [if_neg (by decide)]; congr 1; omega))
