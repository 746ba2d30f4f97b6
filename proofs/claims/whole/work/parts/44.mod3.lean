/-! the reference: reach, followers -/
abbrev rmX4_reach : Room := { frames := 2, cells := 0, slots := 0, locals := 45 }
theorem lk_X4_reach : Lk yX4_reach 3 := by decide +kernel
set_option maxHeartbeats 4000000 in
set_option maxRecDepth 100000 in
/-- reach(1 << u, 1 << v, true) -/
theorem c_X4_reach (l : Launch) (D : va_G) (k : Nat → ClassId) (ad : Nat → Nat) (V : St) {n : Nat} (hv : okV n (pq V)) {u : Nat} (hu : u < n) {v : Nat} (hv24 : v < 24) : CtR noX l yX4_reach cX4_reach 7 (some .int) rmX4_reach D (tyL k) (wQ k ad V) [.ref (ad 0), .int (bitI u), .int (bitI v), .int (zI true)] (fun r => ∀ j, bt r j = true ↔ Cl (fun j => j = u ∧ ¬ j = v) (fun y z => y < n ∧ ¬ z = v ∧ bt (wnI n (pq V) y) z = true) j) := by
  refine CtR.mk (by decide) (Nat.le_of_ble_eq_true rfl) ?_
  intro p e s m below meth c hx hb hml hown hg hr hlocks hK hN hX H hH hP ls hl
  have hl : lv_has ls 7 [(0, .ref (ad 0)), (1, .int (bitI u)), (2, .int (bitI v)), (3, .int (zI true))] := hl
  have h00 : V 0 0 = nI n := hv.2.1
  have hn24 := hv.1
  refine lv_iload_n hx hb dX4_reach_0 rfl (lv_at hl 1 rfl) ?_
  refine lv_iload_n hx hb dX4_reach_1 rfl (lv_at hl 2 rfl) ?_
  refine lv_iconst (v := (-1)) hx hb dX4_reach_2 (by decide) ?_
  refine lv_ixor hx hb dX4_reach_3 ?_
  refine lv_iand hx hb dX4_reach_4 ?_
  refine lv_istore (lv' := [(4, .int ((bitI u) &&& ((bitI v) ^^^ (-1)))), (0, .ref (ad 0)), (1, .int (bitI u)), (2, .int (bitI v)), (3, .int (zI true))]) hx hb dX4_reach_5 hl (by decide) rfl (fun ls hl => ?_)
  refine lv_iconst (v := 0) hx hb dX4_reach_7 (by decide) ?_
  refine lv_istore (lv' := [(5, .int 0), (4, .int ((bitI u) &&& ((bitI v) ^^^ (-1)))), (0, .ref (ad 0)), (1, .int (bitI u)), (2, .int (bitI v)), (3, .int (zI true))]) hx hb dX4_reach_8 hl (by decide) rfl (fun ls hl => ?_)
  refine loopR (σ := Int32 × Int32) (fun zz9 ls => match zz9 with | (x, b) => lv_has ls 7 [(0, .ref (ad 0)), (1, .int (bitI u)), (2, .int (bitI v)), (3, .int (zI true)), (4, .int x), (5, .int b)] ∧ (Sat (fun j => j = u ∧ ¬ j = v) (fun y z => y < n ∧ ¬ z = v ∧ bt (wnI n (pq V) y) z = true) x b) ∧ (∀ j, (fun j => j = u ∧ ¬ j = v) j → bt x j = true)) (fun zz9 => match zz9 with | (x, b) => if x = b then 0 else 33 - cnt x) ?_ ((bitI u &&& (bitI v ^^^ (-1))), 0) ⟨(lv_sub hl [2, 3, 4, 5, 1, 0] rfl), ⟨fun j hj => Cl.base (by rw [b_andnot (by omega), b_bit (by omega), decide_eq_true_eq] at hj; exact hj), fun e => ⟨fun j hj => by rw [b_andnot (by omega), b_bit (by omega), decide_eq_true_eq]; exact hj, fun y z hy _ => by rw [e, b_0] at hy; cases hy⟩⟩, (fun j hj => by rw [b_andnot (by omega), b_bit (by omega), decide_eq_true_eq]; exact hj)⟩
  intro zz9 ls hI ih
  obtain ⟨x, b⟩ := zz9
  obtain ⟨hl, hs, hX0⟩ := hI
  have iho := ih; clear ih
  refine lv_iload hx hb dX4_reach_10 (lv_at hl 4 rfl) ?_
  refine lv_iload hx hb dX4_reach_12 (lv_at hl 5 rfl) ?_
  refine lv_icmp_eq (tgt := 69) hx hb dX4_reach_14 (by decide) (fun c_14 => ?_) (fun c_14 => ?_)
  · refine lv_iload hx hb dX4_reach_69 (lv_at hl 4 rfl) ?_
    exact retRI (v := x) hx hb hr hlocks hH dX4_reach_71 (fun j => hs.done c_14 j)
  · refine lv_iload hx hb dX4_reach_17 (lv_at hl 4 rfl) ?_
    refine lv_istore (lv' := [(5, .int x), (0, .ref (ad 0)), (1, .int (bitI u)), (2, .int (bitI v)), (3, .int (zI true)), (4, .int x)]) hx hb dX4_reach_19 hl (by decide) rfl (fun ls hl => ?_)
    refine lv_iconst (v := 0) hx hb dX4_reach_21 (by decide) ?_
    refine lv_istore (lv' := [(6, .int 0), (5, .int x), (0, .ref (ad 0)), (1, .int (bitI u)), (2, .int (bitI v)), (3, .int (zI true)), (4, .int x)]) hx hb dX4_reach_22 hl (by decide) rfl (fun ls hl => ?_)
    refine loopR (σ := Int32 × Nat) (fun zz9 ls => match zz9 with | (x1, i) => lv_has ls 7 [(0, .ref (ad 0)), (1, .int (bitI u)), (2, .int (bitI v)), (3, .int (zI true)), (4, .int x1), (5, .int x), (6, .int (nI i))] ∧ (Inn (fun j => j = u ∧ ¬ j = v) (fun y z => y < n ∧ ¬ z = v ∧ bt (wnI n (pq V) y) z = true) x x1 i) ∧ (i ≤ n)) (fun zz9 => match zz9 with | (x1, i) => n - i) ?_ (x, 0) ⟨(lv_sub hl [2, 3, 4, 5, 6, 1, 0] rfl), (Inn.start hs.1), (by omega)⟩
    intro zz9 ls hI ih
    obtain ⟨x1, i⟩ := zz9
    obtain ⟨hl, hI, hi⟩ := hI
    refine lv_iload hx hb dX4_reach_24 (lv_at hl 6 rfl) ?_
    refine lv_aload_n hx hb dX4_reach_26 rfl (lv_at hl 0 rfl) ?_
    refine gfl hx hb hg inX4 hown hK hP 0 (ci := 4) rfl rfl 0 (by decide) wd_551 rfl dX4_reach_27 ?_
    refine topv (nI n) h00 ?_
    refine lv_icmp_ge (tgt := 66) hx hb dX4_reach_30 (by decide) (fun c_30 => ?_) (fun c_30 => ?_)
    · have c_30 : n ≤ i := (nI_leI (a := n) (b := i) (by omega) (by omega)).mp c_30
      refine lv_goto (tgt := 10) hx hb dX4_reach_66 (by decide) ?_
      have ei : i = n := by omega
      exact iho (x1, x) _ ⟨(lv_sub hl [0, 1, 2, 3, 4, 5] rfl), (hI.sat hX0 (fun y z h => by have := h.1; omega)), (fun j hj => hI.2.1 j (hX0 j hj))⟩ (satmu c_14 hI.2.1)
    · have c_30 : ¬ n ≤ i := fun z => c_30 ((nI_leI (a := n) (b := i) (by omega) (by omega)).mpr z)
      refine lv_iload hx hb dX4_reach_33 (lv_at hl 4 rfl) ?_
      refine lv_iload hx hb dX4_reach_35 (lv_at hl 6 rfl) ?_
      refine lv_ishr hx hb dX4_reach_37 ?_
      refine lv_iconst (v := 1) hx hb dX4_reach_38 (by decide) ?_
      refine lv_iand hx hb dX4_reach_39 ?_
      refine lv_iconst (v := 1) hx hb dX4_reach_40 (by decide) ?_
      refine lv_icmp_ne (tgt := 60) hx hb dX4_reach_41 (by decide) (fun c_41 => ?_) (fun c_41 => ?_)
      · have c_41 := sh1_f (x := x1) (i := i) (by omega) c_41
        refine lv_iinc (v := nI (i + 1)) (lv' := [(6, .int (nI (i + 1))), (0, .ref (ad 0)), (1, .int (bitI u)), (2, .int (bitI v)), (3, .int (zI true)), (4, .int x1), (5, .int x)]) hx hb dX4_reach_60 hl (k := 6) rfl (nI_succ i).symm (by decide) rfl (fun ls hl => ?_)
        refine lv_goto (tgt := 24) hx hb dX4_reach_63 (by decide) ?_
        exact ih (x1, i + 1) _ ⟨(lv_sub hl [1, 2, 3, 4, 5, 6, 0] rfl), (hI.no (fun hi z hz => by rw [hi] at c_41; cases c_41)), (by omega)⟩ (by dsimp only; omega)
      · have c_41 := (tS1 x1 (p := i) (by omega)).mp c_41
        refine lv_iload hx hb dX4_reach_44 (lv_at hl 4 rfl) ?_
        refine lv_aload_n hx hb dX4_reach_46 rfl (lv_at hl 0 rfl) ?_
        refine lv_iload hx hb dX4_reach_47 (lv_at hl 6 rfl) ?_
        refine lv_iload_n hx hb dX4_reach_49 rfl (lv_at hl 3 rfl) ?_
        refine callR (runV hx hb hg hown hml hl.1 (c_X4_nexts l D k ad V hv (q := i) (by omega) true) [.int (nI i), .int (zI true)] [.int x1] (preR (mapSome_sub hP [0, 1, 2, 3, 4, 5, 6, 7, 8, 9, 10, 11, 12, 13, 14, 15, 16, 17, 18, 19, 20, 21, 22] rfl) hK hN xb0 x0) (va_recv hK hP (ci := 4) (q0 := 0) rfl rfl) wd_714 wd_716 wd_28 wd_53 wd_717 lk_X4_nexts ⟨rfl, rfl⟩ ⟨by decide, by decide⟩ ⟨Nat.zero_le _, Nat.zero_le _⟩ rfl (Nat.le_of_ble_eq_true rfl) dX4_reach_50) (fun r_50 q_50 => ?_)
        obtain rfl := q_50
        refine lv_iload_n hx hb dX4_reach_53 rfl (lv_at hl 2 rfl) ?_
        refine lv_iconst (v := (-1)) hx hb dX4_reach_54 (by decide) ?_
        refine lv_ixor hx hb dX4_reach_55 ?_
        refine lv_iand hx hb dX4_reach_56 ?_
        refine lv_ior hx hb dX4_reach_57 ?_
        refine lv_istore (lv' := [(4, .int (x1 ||| ((wnI n (pq V) i) &&& ((bitI v) ^^^ (-1))))), (0, .ref (ad 0)), (1, .int (bitI u)), (2, .int (bitI v)), (3, .int (zI true)), (5, .int x), (6, .int (nI i))]) hx hb dX4_reach_58 hl (by decide) rfl (fun ls hl => ?_)
        refine lv_iinc (v := nI (i + 1)) (lv' := [(6, .int (nI (i + 1))), (4, .int (x1 ||| ((wnI n (pq V) i) &&& ((bitI v) ^^^ (-1))))), (0, .ref (ad 0)), (1, .int (bitI u)), (2, .int (bitI v)), (3, .int (zI true)), (5, .int x)]) hx hb dX4_reach_60 hl (k := 6) rfl (nI_succ i).symm (by decide) rfl (fun ls hl => ?_)
        refine lv_goto (tgt := 24) hx hb dX4_reach_63 (by decide) ?_
        exact ih (x1 ||| ((wnI n (pq V) i) &&& ((bitI v) ^^^ (-1))), i + 1) _ ⟨(lv_sub hl [2, 3, 4, 5, 1, 6, 0] rfl), (hI.yes c_41 (fun z => by rw [b_andnot (by omega)]; exact ⟨fun h => ⟨by omega, h.2, h.1⟩, fun h => ⟨h.2.2, h.2.1⟩⟩)), (by omega)⟩ (by dsimp only; omega)
abbrev rmX4_followers : Room := { frames := 3, cells := 0, slots := 0, locals := 71 }
theorem lk_X4_followers : Lk yX4_followers 1 := by decide +kernel
set_option maxHeartbeats 4000000 in
set_option maxRecDepth 100000 in
/-- followers(u) -/
theorem c_X4_followers (l : Launch) (D : va_G) (k : Nat → ClassId) (ad : Nat → Nat) (V : St) {n : Nat} (hv : okV n (pq V)) {u : Nat} (hu : u < n) : CtR noX l yX4_followers cX4_followers 5 (some .int) rmX4_followers D (tyL k) (wQ k ad V) [.ref (ad 0), .int (nI u)] (fun r => isM r (pF n (pq V) u)) := by
  refine CtR.mk (by decide) (Nat.le_of_ble_eq_true rfl) ?_
  intro p e s m below meth c hx hb hml hown hg hr hlocks hK hN hX H hH hP ls hl
  have hl : lv_has ls 5 [(0, .ref (ad 0)), (1, .int (nI u))] := hl
  have h00 : V 0 0 = nI n := hv.2.1
  have hn24 := hv.1
  refine lv_iconst (v := 0) hx hb dX4_followers_0 (by decide) ?_
  refine lv_istore_n (lv' := [(2, .int 0), (0, .ref (ad 0)), (1, .int (nI u))]) hx hb dX4_followers_1 rfl hl (by decide) rfl (fun ls hl => ?_)
  refine lv_iconst (v := 0) hx hb dX4_followers_2 (by decide) ?_
  refine lv_istore_n (lv' := [(3, .int 0), (2, .int 0), (0, .ref (ad 0)), (1, .int (nI u))]) hx hb dX4_followers_3 rfl hl (by decide) rfl (fun ls hl => ?_)
  refine loopR (σ := Nat × Int32) (fun zz9 ls => match zz9 with | (v, x) => lv_has ls 5 [(0, .ref (ad 0)), (1, .int (nI u)), (2, .int x), (3, .int (nI v))] ∧ (v ≤ n) ∧ (∀ w, bt x w = true ↔ w < v ∧ pF n (pq V) u w)) (fun zz9 => match zz9 with | (v, x) => n - v) ?_ (0, 0) ⟨(lv_sub hl [2, 3, 1, 0] rfl), (by omega), (fun w => by rw [b_0]; exact ⟨fun z => (by cases z), fun z => absurd z.1 (Nat.not_lt_zero _)⟩)⟩
  intro zz9 ls hI ih
  obtain ⟨v, x⟩ := zz9
  obtain ⟨hl, hvn, hL⟩ := hI
  refine lv_iload_n hx hb dX4_followers_4 rfl (lv_at hl 3 rfl) ?_
  refine lv_aload_n hx hb dX4_followers_5 rfl (lv_at hl 0 rfl) ?_
  refine gfl hx hb hg inX4 hown hK hP 0 (ci := 4) rfl rfl 0 (by decide) wd_551 rfl dX4_followers_6 ?_
  refine topv (nI n) h00 ?_
  refine lv_icmp_ge (tgt := 62) hx hb dX4_followers_9 (by decide) (fun c_9 => ?_) (fun c_9 => ?_)
  · have c_9 : n ≤ v := (nI_leI (a := n) (b := v) (by omega) (by omega)).mp c_9
    refine lv_iload_n hx hb dX4_followers_62 rfl (lv_at hl 2 rfl) ?_
    exact retRI (v := x) hx hb hr hlocks hH dX4_followers_63 (fun w => by rw [hL w, show v = n by omega]; exact ⟨fun z => z.2, fun z => ⟨z.1, z⟩⟩)
  · have c_9 : ¬ n ≤ v := fun z => c_9 ((nI_leI (a := n) (b := v) (by omega) (by omega)).mpr z)
    refine lv_aload_n hx hb dX4_followers_12 rfl (lv_at hl 0 rfl) ?_
    refine lv_iconst (v := 1) hx hb dX4_followers_13 (by decide) ?_
    refine lv_iload_n hx hb dX4_followers_14 rfl (lv_at hl 1 rfl) ?_
    refine lv_ishl hx hb dX4_followers_15 ?_
    refine topv (bitI u) rfl ?_
    refine lv_iconst (v := 1) hx hb dX4_followers_16 (by decide) ?_
    refine lv_iload_n hx hb dX4_followers_17 rfl (lv_at hl 3 rfl) ?_
    refine lv_ishl hx hb dX4_followers_18 ?_
    refine topv (bitI v) rfl ?_
    refine lv_iconst (v := 1) hx hb dX4_followers_19 (by decide) ?_
    refine callR (runV hx hb hg hown hml hl.1 (c_X4_reach l D k ad V hv (u := u) hu (v := v) (by omega)) [.int (bitI u), .int (bitI v), .int 1] [] (preR (mapSome_sub hP [0, 1, 2, 3, 4, 5, 6, 7, 8, 9, 10, 11, 12, 13, 14, 15, 16, 17, 18, 19, 20, 21, 22] rfl) hK hN xb0 x0) (va_recv hK hP (ci := 4) (q0 := 0) rfl rfl) wd_710 wd_712 wd_27 wd_53 wd_713 lk_X4_reach ⟨rfl, rfl⟩ ⟨by decide, by decide⟩ ⟨Nat.zero_le _, Nat.zero_le _⟩ rfl (Nat.le_of_ble_eq_true rfl) dX4_followers_20) (fun r_20 q_20 => ?_)
    refine lv_ldc (v := 16777216) hx hb hown (hg _ wd_722) dX4_followers_23 ?_
    refine lv_iand hx hb dX4_followers_25 ?_
    refine lv_if_eq (tgt := 33) hx hb dX4_followers_26 (by decide) (fun c_26 => ?_) (fun c_26 => ?_)
    · have c_26 := and24.mp c_26
      refine lv_iconst (v := 0) hx hb dX4_followers_33 (by decide) ?_
      refine lv_istore (lv' := [(4, .int 0), (0, .ref (ad 0)), (1, .int (nI u)), (2, .int x), (3, .int (nI v))]) hx hb dX4_followers_34 hl (by decide) rfl (fun ls hl => ?_)
      refine lv_iload_n hx hb dX4_followers_36 rfl (lv_at hl 4 rfl) ?_
      refine lv_iload_n hx hb dX4_followers_37 rfl (lv_at hl 2 rfl) ?_
      refine lv_icmp_eq (tgt := 54) hx hb dX4_followers_38 (by decide) (fun c_38 => ?_) (fun c_38 => ?_)
      · have c_38 : v = u := (nI_eq (a := v) (b := u) (by omega) (by omega)).mp c_38
        refine lv_iload_n hx hb dX4_followers_54 rfl (lv_at hl 3 rfl) ?_
        refine lv_istore_n (lv' := [(2, .int x), (4, .int 0), (0, .ref (ad 0)), (1, .int (nI u)), (3, .int (nI v))]) hx hb dX4_followers_55 rfl hl (by decide) rfl (fun ls hl => ?_)
        refine lv_iinc (v := nI (v + 1)) (lv' := [(3, .int (nI (v + 1))), (2, .int x), (4, .int 0), (0, .ref (ad 0)), (1, .int (nI u))]) hx hb dX4_followers_56 hl (k := 4) rfl (nI_succ v).symm (by decide) rfl (fun ls hl => ?_)
        refine lv_goto (tgt := 4) hx hb dX4_followers_59 (by decide) ?_
        exact ih (v + 1, x) _ ⟨(lv_sub hl [3, 4, 1, 0] rfl), (by omega), (fun w => by rw [hL w]; exact ⟨fun z => ⟨by omega, z.2⟩, fun z => by rcases Classical.em (w = v) with e | e; (subst e; exfalso; exact z.2.2.1 c_38.symm); exact ⟨by omega, z.2⟩⟩)⟩ (by dsimp only; omega)
      · have c_38 : ¬ v = u := fun z => c_38 ((nI_eq (a := v) (b := u) (by omega) (by omega)).mpr z)
        refine lv_iload hx hb dX4_followers_41 (lv_at hl 0 rfl) ?_
        refine lv_if_ne (tgt := 54) hx hb dX4_followers_43 (by decide) (fun c_43 => ?_) (fun c_43 => ?_)
        · exact absurd (show ¬ (0 : Int32) = (0 : Int32) from c_43) (by decide)
        · refine lv_iload_n hx hb dX4_followers_46 rfl (lv_at hl 3 rfl) ?_
          refine lv_iconst (v := 1) hx hb dX4_followers_47 (by decide) ?_
          refine lv_iload_n hx hb dX4_followers_48 rfl (lv_at hl 4 rfl) ?_
          refine lv_ishl hx hb dX4_followers_49 ?_
          refine topv (bitI v) rfl ?_
          refine lv_ior hx hb dX4_followers_50 ?_
          refine lv_goto (tgt := 55) hx hb dX4_followers_51 (by decide) ?_
          refine lv_istore_n (lv' := [(2, .int (x ||| (bitI v))), (4, .int 0), (0, .ref (ad 0)), (1, .int (nI u)), (3, .int (nI v))]) hx hb dX4_followers_55 rfl hl (by decide) rfl (fun ls hl => ?_)
          refine lv_iinc (v := nI (v + 1)) (lv' := [(3, .int (nI (v + 1))), (2, .int (x ||| (bitI v))), (4, .int 0), (0, .ref (ad 0)), (1, .int (nI u))]) hx hb dX4_followers_56 hl (k := 4) rfl (nI_succ v).symm (by decide) rfl (fun ls hl => ?_)
          refine lv_goto (tgt := 4) hx hb dX4_followers_59 (by decide) ?_
          exact ih (v + 1, x ||| (bitI v)) _ ⟨(lv_sub hl [3, 4, 1, 0] rfl), (by omega), (fun w => by rw [b_or, Bool.or_eq_true, b_bit (by omega), decide_eq_true_eq, hL w]; exact ⟨fun z => z.elim (fun z => ⟨by omega, z.2⟩) (fun z => by subst z; exact ⟨by omega, by omega, fun e => c_38 e.symm, fun z => by rw [(q_20 24).mpr ((fwbw (fun e => c_38 e.symm) (by omega)).mpr z)] at c_26; cases c_26⟩), fun z => by rcases Classical.em (w = v) with e | e; exact Or.inr e; exact Or.inl ⟨by omega, z.2⟩⟩)⟩ (by dsimp only; omega)
    · have c_26 : bt r_20 24 = true := by cases hb9 : bt r_20 24 with | true => rfl | false => exact absurd (and24.mpr hb9) c_26
      refine lv_iconst (v := 1) hx hb dX4_followers_29 (by decide) ?_
      refine lv_goto (tgt := 34) hx hb dX4_followers_30 (by decide) ?_
      refine lv_istore (lv' := [(4, .int 1), (0, .ref (ad 0)), (1, .int (nI u)), (2, .int x), (3, .int (nI v))]) hx hb dX4_followers_34 hl (by decide) rfl (fun ls hl => ?_)
      refine lv_iload_n hx hb dX4_followers_36 rfl (lv_at hl 4 rfl) ?_
      refine lv_iload_n hx hb dX4_followers_37 rfl (lv_at hl 2 rfl) ?_
      refine lv_icmp_eq (tgt := 54) hx hb dX4_followers_38 (by decide) (fun c_38 => ?_) (fun c_38 => ?_)
      · have c_38 : v = u := (nI_eq (a := v) (b := u) (by omega) (by omega)).mp c_38
        refine lv_iload_n hx hb dX4_followers_54 rfl (lv_at hl 3 rfl) ?_
        refine lv_istore_n (lv' := [(2, .int x), (4, .int 1), (0, .ref (ad 0)), (1, .int (nI u)), (3, .int (nI v))]) hx hb dX4_followers_55 rfl hl (by decide) rfl (fun ls hl => ?_)
        refine lv_iinc (v := nI (v + 1)) (lv' := [(3, .int (nI (v + 1))), (2, .int x), (4, .int 1), (0, .ref (ad 0)), (1, .int (nI u))]) hx hb dX4_followers_56 hl (k := 4) rfl (nI_succ v).symm (by decide) rfl (fun ls hl => ?_)
        refine lv_goto (tgt := 4) hx hb dX4_followers_59 (by decide) ?_
        exact ih (v + 1, x) _ ⟨(lv_sub hl [3, 4, 1, 0] rfl), (by omega), (fun w => by rw [hL w]; exact ⟨fun z => ⟨by omega, z.2⟩, fun z => by rcases Classical.em (w = v) with e | e; (subst e; exfalso; exact z.2.2.1 c_38.symm); exact ⟨by omega, z.2⟩⟩)⟩ (by dsimp only; omega)
      · have c_38 : ¬ v = u := fun z => c_38 ((nI_eq (a := v) (b := u) (by omega) (by omega)).mpr z)
        refine lv_iload hx hb dX4_followers_41 (lv_at hl 0 rfl) ?_
        refine lv_if_ne (tgt := 54) hx hb dX4_followers_43 (by decide) (fun c_43 => ?_) (fun c_43 => ?_)
        · refine lv_iload_n hx hb dX4_followers_54 rfl (lv_at hl 3 rfl) ?_
          refine lv_istore_n (lv' := [(2, .int x), (4, .int 1), (0, .ref (ad 0)), (1, .int (nI u)), (3, .int (nI v))]) hx hb dX4_followers_55 rfl hl (by decide) rfl (fun ls hl => ?_)
          refine lv_iinc (v := nI (v + 1)) (lv' := [(3, .int (nI (v + 1))), (2, .int x), (4, .int 1), (0, .ref (ad 0)), (1, .int (nI u))]) hx hb dX4_followers_56 hl (k := 4) rfl (nI_succ v).symm (by decide) rfl (fun ls hl => ?_)
          refine lv_goto (tgt := 4) hx hb dX4_followers_59 (by decide) ?_
          exact ih (v + 1, x) _ ⟨(lv_sub hl [3, 4, 1, 0] rfl), (by omega), (fun w => by rw [hL w]; exact ⟨fun z => ⟨by omega, z.2⟩, fun z => by rcases Classical.em (w = v) with e | e; (subst e; exfalso; exact z.2.2.2 ((fwbw (fun e => c_38 e.symm) (by omega)).mp ((q_20 24).mp c_26))); exact ⟨by omega, z.2⟩⟩)⟩ (by dsimp only; omega)
        · exact absurd (show (1 : Int32) = (0 : Int32) from c_43) (by decide)
