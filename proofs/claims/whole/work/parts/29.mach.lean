/-! the class Machine -/
abbrev rmJ6_bitCount_0f7a4 : Room := { frames := 0, cells := 0, slots := 0, locals := 0 }
theorem lk_J6_bitCount_0f7a4 : Lk yJ6_bitCount_0f7a4 1 := by decide +kernel
set_option maxHeartbeats 4000000 in
set_option maxRecDepth 100000 in
/-- Integer.bitCount(x) -/
theorem c_J6_bitCount_0f7a4 (l : Launch) (D : va_G) (k : Nat → ClassId) (x : Int32) : CtR noX l yJ6_bitCount_0f7a4 cJ6_bitCount_0f7a4 1 (some .int) rmJ6_bitCount_0f7a4 D (tyL k) ([]) [.int x] (fun r => r = bcI x) := by
  refine CtR.mk (by decide) (Nat.le_of_ble_eq_true rfl) ?_
  intro p e s m below meth c hx hb hml hown hg hr hlocks hK hN hX H hH hP ls hl
  have hl : lv_has ls 1 [(0, .int x)] := hl
  refine lv_iload_n hx hb dJ6_bitCount_0f7a4_0 rfl (lv_at hl 0 rfl) ?_
  refine lv_iload_n hx hb dJ6_bitCount_0f7a4_1 rfl (lv_at hl 0 rfl) ?_
  refine lv_iconst (v := 1) hx hb dJ6_bitCount_0f7a4_2 (by decide) ?_
  refine lv_iushr (v := (x.toUInt32 >>> ((1 : Int32).toUInt32 &&& Int32.toUInt32 31)).toInt32) hx hb dJ6_bitCount_0f7a4_3 rfl ?_
  refine lv_ldcw (v := 1431655765) hx hb hown (hg _ wd_396) dJ6_bitCount_0f7a4_4 ?_
  refine lv_iand hx hb dJ6_bitCount_0f7a4_7 ?_
  refine lv_isub hx hb dJ6_bitCount_0f7a4_8 ?_
  refine lv_topi (fun x1 ex1 => ?_)
  refine lv_istore_n (lv' := [(0, .int x1)]) hx hb dJ6_bitCount_0f7a4_9 rfl hl (by decide) rfl (fun ls hl => ?_)
  refine lv_iload_n hx hb dJ6_bitCount_0f7a4_10 rfl (lv_at hl 0 rfl) ?_
  refine lv_ldcw (v := 858993459) hx hb hown (hg _ wd_397) dJ6_bitCount_0f7a4_11 ?_
  refine lv_iand hx hb dJ6_bitCount_0f7a4_14 ?_
  refine lv_iload_n hx hb dJ6_bitCount_0f7a4_15 rfl (lv_at hl 0 rfl) ?_
  refine lv_iconst (v := 2) hx hb dJ6_bitCount_0f7a4_16 (by decide) ?_
  refine lv_iushr (v := (x1.toUInt32 >>> ((2 : Int32).toUInt32 &&& Int32.toUInt32 31)).toInt32) hx hb dJ6_bitCount_0f7a4_17 rfl ?_
  refine lv_ldcw (v := 858993459) hx hb hown (hg _ wd_397) dJ6_bitCount_0f7a4_18 ?_
  refine lv_iand hx hb dJ6_bitCount_0f7a4_21 ?_
  refine lv_iadd hx hb dJ6_bitCount_0f7a4_22 ?_
  refine lv_topi (fun x2 ex2 => ?_)
  refine lv_istore_n (lv' := [(0, .int x2)]) hx hb dJ6_bitCount_0f7a4_23 rfl hl (by decide) rfl (fun ls hl => ?_)
  refine lv_iload_n hx hb dJ6_bitCount_0f7a4_24 rfl (lv_at hl 0 rfl) ?_
  refine lv_iload_n hx hb dJ6_bitCount_0f7a4_25 rfl (lv_at hl 0 rfl) ?_
  refine lv_iconst (v := 4) hx hb dJ6_bitCount_0f7a4_26 (by decide) ?_
  refine lv_iushr (v := (x2.toUInt32 >>> ((4 : Int32).toUInt32 &&& Int32.toUInt32 31)).toInt32) hx hb dJ6_bitCount_0f7a4_27 rfl ?_
  refine lv_iadd hx hb dJ6_bitCount_0f7a4_28 ?_
  refine lv_ldcw (v := 252645135) hx hb hown (hg _ wd_398) dJ6_bitCount_0f7a4_29 ?_
  refine lv_iand hx hb dJ6_bitCount_0f7a4_32 ?_
  refine lv_topi (fun x3 ex3 => ?_)
  refine lv_istore_n (lv' := [(0, .int x3)]) hx hb dJ6_bitCount_0f7a4_33 rfl hl (by decide) rfl (fun ls hl => ?_)
  refine lv_iload_n hx hb dJ6_bitCount_0f7a4_34 rfl (lv_at hl 0 rfl) ?_
  refine lv_iload_n hx hb dJ6_bitCount_0f7a4_35 rfl (lv_at hl 0 rfl) ?_
  refine lv_bipush (v := 8) hx hb dJ6_bitCount_0f7a4_36 (by decide) ?_
  refine lv_iushr (v := (x3.toUInt32 >>> ((8 : Int32).toUInt32 &&& Int32.toUInt32 31)).toInt32) hx hb dJ6_bitCount_0f7a4_38 rfl ?_
  refine lv_iadd hx hb dJ6_bitCount_0f7a4_39 ?_
  refine lv_topi (fun x4 ex4 => ?_)
  refine lv_istore_n (lv' := [(0, .int x4)]) hx hb dJ6_bitCount_0f7a4_40 rfl hl (by decide) rfl (fun ls hl => ?_)
  refine lv_iload_n hx hb dJ6_bitCount_0f7a4_41 rfl (lv_at hl 0 rfl) ?_
  refine lv_iload_n hx hb dJ6_bitCount_0f7a4_42 rfl (lv_at hl 0 rfl) ?_
  refine lv_bipush (v := 16) hx hb dJ6_bitCount_0f7a4_43 (by decide) ?_
  refine lv_iushr (v := (x4.toUInt32 >>> ((16 : Int32).toUInt32 &&& Int32.toUInt32 31)).toInt32) hx hb dJ6_bitCount_0f7a4_45 rfl ?_
  refine lv_iadd hx hb dJ6_bitCount_0f7a4_46 ?_
  refine lv_topi (fun x5 ex5 => ?_)
  refine lv_istore_n (lv' := [(0, .int x5)]) hx hb dJ6_bitCount_0f7a4_47 rfl hl (by decide) rfl (fun ls hl => ?_)
  refine lv_iload_n hx hb dJ6_bitCount_0f7a4_48 rfl (lv_at hl 0 rfl) ?_
  refine lv_bipush (v := 63) hx hb dJ6_bitCount_0f7a4_49 (by decide) ?_
  refine lv_iand hx hb dJ6_bitCount_0f7a4_51 ?_
  exact retRI (v := x5 &&& 63) hx hb hr hlocks hH dJ6_bitCount_0f7a4_52 (by rw [ex5, ex4, ex3, ex2, ex1]; rfl)
abbrev rmX0_firstFrom : Room := { frames := 1, cells := 0, slots := 0, locals := 21 }
theorem lk_X0_firstFrom : Lk yX0_firstFrom 3 := by decide +kernel
set_option maxHeartbeats 4000000 in
set_option maxRecDepth 100000 in
/-- firstFrom(place, set, size) -/
theorem c_X0_firstFrom (l : Launch) (D : va_G) (k : Nat → ClassId) {a : Nat} (ha : a ≤ 25) (x : Int32) {n : Nat} (hn24 : n ≤ 24) : CtR noX l yX0_firstFrom cX0_firstFrom 4 (some .int) rmX0_firstFrom D (tyL k) ([]) [.int (nI a), .int x, .int (nI n)] (fun r => r = nI (firstB (bt x) (n - a) a)) := by
  refine CtR.mk (by decide) (Nat.le_of_ble_eq_true rfl) ?_
  intro p e s m below meth c hx hb hml hown hg hr hlocks hK hN hX H hH hP ls hl
  have hl : lv_has ls 4 [(0, .int (nI a)), (1, .int x), (2, .int (nI n))] := hl
  refine lv_iload_n hx hb dX0_firstFrom_0 rfl (lv_at hl 0 rfl) ?_
  refine lv_istore_n (lv' := [(3, .int (nI a)), (0, .int (nI a)), (1, .int x), (2, .int (nI n))]) hx hb dX0_firstFrom_1 rfl hl (by decide) rfl (fun ls hl => ?_)
  refine loopR (σ := Nat) (fun i ls => lv_has ls 4 [(0, .int (nI a)), (1, .int x), (2, .int (nI n)), (3, .int (nI i))] ∧ (a ≤ i) ∧ (i ≤ n ∨ i = a) ∧ (firstB (bt x) (n - i) i = firstB (bt x) (n - a) a)) (fun i => n - i) ?_ (a) ⟨(lv_sub hl [1, 2, 3, 0] rfl), (by omega), (by omega), rfl⟩
  intro zz9 ls hI ih
  obtain ⟨i, rfl⟩ : ∃ z, z = zz9 := ⟨_, rfl⟩
  obtain ⟨hl, h0, hi, he⟩ := hI
  refine lv_iload_n hx hb dX0_firstFrom_2 rfl (lv_at hl 3 rfl) ?_
  refine lv_iload_n hx hb dX0_firstFrom_3 rfl (lv_at hl 2 rfl) ?_
  refine lv_icmp_ge (tgt := 21) hx hb dX0_firstFrom_4 (by decide) (fun c_4 => ?_) (fun c_4 => ?_)
  · have c_4 : n ≤ i := (nI_leI (a := n) (b := i) (by omega) (by omega)).mp c_4
    refine lv_iload_n hx hb dX0_firstFrom_21 rfl (lv_at hl 3 rfl) ?_
    exact retRI (v := nI i) hx hb hr hlocks hH dX0_firstFrom_22 (by rw [← he]; first | (rw [show n - i = 0 by omega]; rfl) | rw [firstB_t c_12])
  · have c_4 : ¬ n ≤ i := fun z => c_4 ((nI_leI (a := n) (b := i) (by omega) (by omega)).mpr z)
    refine lv_iload_n hx hb dX0_firstFrom_7 rfl (lv_at hl 1 rfl) ?_
    refine lv_iload_n hx hb dX0_firstFrom_8 rfl (lv_at hl 3 rfl) ?_
    refine callR (runSN hx hb hg hown hml hl.1 hN (c_X3_holds l D k (x) (q := i) (by omega)) [.int x, .int (nI i)] [] (preR (mapSome_sub hP [] rfl) hK hN xb0 x0) 399 nst_399 wd_324 wd_49 wd_325 lk_X3_holds ⟨rfl, rfl⟩ ⟨by decide, by decide⟩ ⟨Nat.zero_le _, Nat.zero_le _⟩ rfl (Nat.le_of_ble_eq_true rfl) dX0_firstFrom_9) (fun r_9 q_9 => ?_)
    obtain rfl := q_9
    refine lv_if_ne (tgt := 21) hx hb dX0_firstFrom_12 (by decide) (fun c_12 => ?_) (fun c_12 => ?_)
    · have c_12 := zI_ne c_12
      refine lv_iload_n hx hb dX0_firstFrom_21 rfl (lv_at hl 3 rfl) ?_
      exact retRI (v := nI i) hx hb hr hlocks hH dX0_firstFrom_22 (by rw [← he]; first | (rw [show n - i = 0 by omega]; rfl) | rw [firstB_t c_12])
    · have c_12 := zI_0.mp c_12
      refine lv_iinc (v := nI (i + 1)) (lv' := [(3, .int (nI (i + 1))), (0, .int (nI a)), (1, .int x), (2, .int (nI n))]) hx hb dX0_firstFrom_15 hl (k := 3) rfl (nI_succ i).symm (by decide) rfl (fun ls hl => ?_)
      refine lv_goto (tgt := 2) hx hb dX0_firstFrom_18 (by decide) ?_
      exact ih (i + 1) _ ⟨(lv_sub hl [1, 2, 3, 0] rfl), (by omega), (by omega), (by rw [← he, firstB_f c_12 (by omega), Nat.sub_sub])⟩ (by omega)
abbrev rmX0_chosenRow : Room := { frames := 1, cells := 0, slots := 0, locals := 21 }
theorem lk_X0_chosenRow : Lk yX0_chosenRow 2 := by decide +kernel
set_option maxHeartbeats 4000000 in
set_option maxRecDepth 100000 in
/-- chosenRow(rows, choice) -/
theorem c_X0_chosenRow (l : Launch) (D : va_G) (k : Nat → ClassId) {x : Nat} (h1 : 1 ≤ x) (h15 : x < 16) {a : Nat} (ha : a < 2 ^ 31) : CtR noX l yX0_chosenRow cX0_chosenRow 5 (some .int) rmX0_chosenRow D (tyL k) ([]) [.int (nI x), .int (nI a)] (fun r => r = nI ((kthS (bt (nI x)) 4 0 (a % cntN 4 (nI x))).getD 0)) := by
  refine CtR.mk (by decide) (Nat.le_of_ble_eq_true rfl) ?_
  intro p e s m below meth c hx hb hml hown hg hr hlocks hK hN hX H hH hP ls hl
  have hl : lv_has ls 5 [(0, .int (nI x)), (1, .int (nI a))] := hl
  have hc1 := cntN_15 x h1 h15
  have hc4 := cntN_le 4 (nI x)
  refine lv_iload_n hx hb dX0_chosenRow_0 rfl (lv_at hl 0 rfl) ?_
  refine callR (runS hx hb hg hown hml hl.1 (c_J6_bitCount_0f7a4 l D k (nI x)) [.int (nI x)] [] (preR (mapSome_sub hP [] rfl) hK hN xb0 x0) wd_393 wd_394 wd_54 wd_395 lk_J6_bitCount_0f7a4 ⟨rfl, rfl⟩ ⟨by decide, by decide⟩ ⟨Nat.zero_le _, Nat.zero_le _⟩ rfl (Nat.le_of_ble_eq_true rfl) dX0_chosenRow_1) (fun r_1 q_1 => ?_)
  obtain rfl := q_1
  rw [bcI_15 x h15]
  refine lv_istore_n (lv' := [(2, .int (nI (cntN 4 (nI x)))), (0, .int (nI x)), (1, .int (nI a))]) hx hb dX0_chosenRow_4 rfl hl (by decide) rfl (fun ls hl => ?_)
  refine lv_iload_n hx hb dX0_chosenRow_5 rfl (lv_at hl 0 rfl) ?_
  refine lv_if_ne (tgt := 13) hx hb dX0_chosenRow_6 (by decide) (fun c_6 => ?_) (fun c_6 => ?_)
  · have c_6 : ¬ cntN 4 (nI x) = 0 := fun z => c_6 ((nI_eq (a := cntN 4 (nI x)) (b := 0) (by omega) (by omega)).mpr z)
    refine lv_iload_n hx hb dX0_chosenRow_13 rfl (lv_at hl 2 rfl) ?_
    refine lv_iload_n hx hb dX0_chosenRow_14 rfl (lv_at hl 0 rfl) ?_
    refine lv_irem hx hb dX0_chosenRow_15 (fun z => absurd ((nI_eq (a := cntN 4 (nI x)) (b := 0) (by omega) (by omega)).mp z) (by omega)) ?_
    refine topv (nI (a % cntN 4 (nI x))) (pk_rem ha (by omega) (by omega)) ?_
    refine lv_istore_n (lv' := [(3, .int (nI (a % cntN 4 (nI x)))), (2, .int (nI (cntN 4 (nI x)))), (0, .int (nI x)), (1, .int (nI a))]) hx hb dX0_chosenRow_16 rfl hl (by decide) rfl (fun ls hl => ?_)
    refine lv_iconst (v := 0) hx hb dX0_chosenRow_17 (by decide) ?_
    refine lv_istore (lv' := [(4, .int 0), (3, .int (nI (a % cntN 4 (nI x)))), (2, .int (nI (cntN 4 (nI x)))), (0, .int (nI x)), (1, .int (nI a))]) hx hb dX0_chosenRow_18 hl (by decide) rfl (fun ls hl => ?_)
    refine loopR (σ := Nat × Nat) (fun zz9 ls => match zz9 with | (i, c) => lv_has ls 5 [(0, .int (nI x)), (1, .int (nI a)), (2, .int (nI (cntN 4 (nI x)))), (3, .int (nI c)), (4, .int (nI i))] ∧ (i ≤ 4) ∧ (c < 2 ^ 31) ∧ (kthS (bt (nI x)) (4 - i) i c = kthS (bt (nI x)) 4 0 (a % cntN 4 (nI x)))) (fun zz9 => match zz9 with | (i, c) => 4 - i) ?_ (0, a % cntN 4 (nI x)) ⟨(lv_sub hl [3, 4, 2, 1, 0] rfl), (by omega), (by have := Nat.mod_lt a (show 0 < cntN 4 (nI x) by omega); omega), rfl⟩
    intro zz9 ls hI ih
    obtain ⟨i, c⟩ := zz9
    obtain ⟨hl, hi, hc, he⟩ := hI
    refine lv_iload hx hb dX0_chosenRow_20 (lv_at hl 4 rfl) ?_
    refine lv_iconst (v := 4) hx hb dX0_chosenRow_22 (by decide) ?_
    refine lv_icmp_ge (tgt := 51) hx hb dX0_chosenRow_23 (by decide) (fun c_23 => ?_) (fun c_23 => ?_)
    · have c_23 : 4 ≤ i := (nI_leI (a := 4) (b := i) (by omega) (by omega)).mp c_23
      refine lv_iconst (v := 0) hx hb dX0_chosenRow_51 (by decide) ?_
      exact retRI (v := 0) hx hb hr hlocks hH dX0_chosenRow_52 (by rw [← he, show 4 - i = 0 by omega]; rfl)
    · have c_23 : ¬ 4 ≤ i := fun z => c_23 ((nI_leI (a := 4) (b := i) (by omega) (by omega)).mpr z)
      refine lv_iload_n hx hb dX0_chosenRow_26 rfl (lv_at hl 0 rfl) ?_
      refine lv_iload hx hb dX0_chosenRow_27 (lv_at hl 4 rfl) ?_
      refine callR (runSN hx hb hg hown hml hl.1 hN (c_X3_holds l D k (nI x) (q := i) (by omega)) [.int (nI x), .int (nI i)] [] (preR (mapSome_sub hP [] rfl) hK hN xb0 x0) 399 nst_399 wd_324 wd_49 wd_325 lk_X3_holds ⟨rfl, rfl⟩ ⟨by decide, by decide⟩ ⟨Nat.zero_le _, Nat.zero_le _⟩ rfl (Nat.le_of_ble_eq_true rfl) dX0_chosenRow_29) (fun r_29 q_29 => ?_)
      obtain rfl := q_29
      refine lv_if_eq (tgt := 45) hx hb dX0_chosenRow_32 (by decide) (fun c_32 => ?_) (fun c_32 => ?_)
      · have c_32 := zI_0.mp c_32
        refine lv_iinc (v := nI (i + 1)) (lv' := [(4, .int (nI (i + 1))), (0, .int (nI x)), (1, .int (nI a)), (2, .int (nI (cntN 4 (nI x)))), (3, .int (nI c))]) hx hb dX0_chosenRow_45 hl (k := 4) rfl (nI_succ i).symm (by decide) rfl (fun ls hl => ?_)
        refine lv_goto (tgt := 20) hx hb dX0_chosenRow_48 (by decide) ?_
        exact ih (i + 1, c) _ ⟨(lv_sub hl [1, 2, 3, 4, 0] rfl), (by omega), hc, (by rw [← he, kth_f c_32 (by omega), Nat.sub_sub])⟩ (by dsimp only; omega)
      · have c_32 := zI_ne c_32
        refine lv_iload_n hx hb dX0_chosenRow_35 rfl (lv_at hl 3 rfl) ?_
        refine lv_if_ne (tgt := 42) hx hb dX0_chosenRow_36 (by decide) (fun c_36 => ?_) (fun c_36 => ?_)
        · have c_36 : ¬ c = 0 := fun z => c_36 ((nI_eq (a := c) (b := 0) (by omega) (by omega)).mpr z)
          refine lv_iinc (v := nI (c - 1)) (lv' := [(3, .int (nI (c - 1))), (0, .int (nI x)), (1, .int (nI a)), (2, .int (nI (cntN 4 (nI x)))), (4, .int (nI i))]) hx hb dX0_chosenRow_42 hl (k := 3) rfl (by rw [show (Int32.ofInt (-1)) = -1 from rfl, i_m1]; exact pk_sub (a := c) (b := 1) (by omega)) (by decide) rfl (fun ls hl => ?_)
          refine lv_iinc (v := nI (i + 1)) (lv' := [(4, .int (nI (i + 1))), (3, .int (nI (c - 1))), (0, .int (nI x)), (1, .int (nI a)), (2, .int (nI (cntN 4 (nI x))))]) hx hb dX0_chosenRow_45 hl (k := 4) rfl (nI_succ i).symm (by decide) rfl (fun ls hl => ?_)
          refine lv_goto (tgt := 20) hx hb dX0_chosenRow_48 (by decide) ?_
          exact ih (i + 1, c - 1) _ ⟨(lv_sub hl [2, 3, 4, 1, 0] rfl), (by omega), (by omega), (by rw [← he, kth_s c_32 (by omega) c_36, Nat.sub_sub])⟩ (by dsimp only; omega)
        · have c_36 : c = 0 := (nI_eq (a := c) (b := 0) (by omega) (by omega)).mp c_36
          refine lv_iload hx hb dX0_chosenRow_39 (lv_at hl 4 rfl) ?_
          exact retRI (v := nI i) hx hb hr hlocks hH dX0_chosenRow_41 (by obtain rfl := c_36; rw [← he, kth_z c_32 (by omega)]; rfl)
  · have c_6 : cntN 4 (nI x) = 0 := (nI_eq (a := cntN 4 (nI x)) (b := 0) (by omega) (by omega)).mp c_6
    exact absurd c_6 (by omega)
abbrev rmX0_itemOf : Room := { frames := 0, cells := 0, slots := 0, locals := 0 }
theorem lk_X0_itemOf : Lk yX0_itemOf 2 := by decide +kernel
set_option maxHeartbeats 4000000 in
set_option maxRecDepth 100000 in
/-- itemOf(register, name) -/
theorem c_X0_itemOf (l : Launch) (D : va_G) (k : Nat → ClassId) (ad : Nat → Nat) (V : St) {b : Nat} (hb8 : b < 8) {d : Nat} (hd4 : d < 4) : CtR noX l yX0_itemOf cX0_itemOf 3 (some .int) rmX0_itemOf D (tyL k) (wM k ad V) [.ref (ad 0), .int (nI b), .int (nI d)] (fun r => r = itI (V 4 d) (V 1 b)) := by
  refine CtR.mk (by decide) (Nat.le_of_ble_eq_true rfl) ?_
  intro p e s m below meth c hx hb hml hown hg hr hlocks hK hN hX H hH hP ls hl
  have hl : lv_has ls 3 [(0, .ref (ad 0)), (1, .int (nI b)), (2, .int (nI d))] := hl
  refine lv_aload_n hx hb dX0_itemOf_0 rfl (lv_at hl 0 rfl) ?_
  refine gfl hx hb hg inX0 hown hK hP 0 (ci := 0) rfl rfl 3 (by decide) wd_161 rfl dX0_itemOf_1 ?_
  refine lv_iload_n hx hb dX0_itemOf_4 rfl (lv_at hl 2 rfl) ?_
  refine ldn hx hb hK hP 4 0 rfl rfl (by omega) (by decide) dX0_itemOf_5 ?_
  refine lv_bipush (v := 8) hx hb dX0_itemOf_6 (by decide) ?_
  refine lv_imul hx hb dX0_itemOf_8 ?_
  refine lv_aload_n hx hb dX0_itemOf_9 rfl (lv_at hl 0 rfl) ?_
  refine gfl hx hb hg inX0 hown hK hP 0 (ci := 0) rfl rfl 0 (by decide) wd_157 rfl dX0_itemOf_10 ?_
  refine lv_iload_n hx hb dX0_itemOf_13 rfl (lv_at hl 1 rfl) ?_
  refine ldn hx hb hK hP 1 0 rfl rfl (by omega) (by decide) dX0_itemOf_14 ?_
  refine lv_bipush (v := 7) hx hb dX0_itemOf_15 (by decide) ?_
  refine lv_iand hx hb dX0_itemOf_17 ?_
  refine lv_iadd hx hb dX0_itemOf_18 ?_
  exact retRI (v := (((V 4) d) * 8) + (((V 1) b) &&& 7)) hx hb hr hlocks hH dX0_itemOf_19 (rfl)
abbrev rmX0_failsAt : Room := { frames := 1, cells := 0, slots := 0, locals := 21 }
theorem lk_X0_failsAt : Lk yX0_failsAt 2 := by decide +kernel
set_option maxHeartbeats 4000000 in
set_option maxRecDepth 100000 in
/-- failsAt(program, p) -/
theorem c_X0_failsAt (l : Launch) (D : va_G) (k : Nat → ClassId) (ad : Nat → Nat) (V : St) (bd : Nat → Nat) (Pv : St) {n : Nat} (hv : okV n Pv) {q : Nat} (hq : q < 24) : CtR noX l yX0_failsAt cX0_failsAt 3 (some .boolean) rmX0_failsAt D (tyL k) ((wM k ad V) ++ (wP k bd Pv)) [.ref (ad 0), .ref (bd 0), .int (nI q)] (fun r => r = zI (stF Pv (V 1) q)) := by
  refine CtR.mk (by decide) (Nat.le_of_ble_eq_true rfl) ?_
  intro p e s m below meth c hx hb hml hown hg hr hlocks hK hN hX H hH hP ls hl
  have hl : lv_has ls 3 [(0, .ref (ad 0)), (1, .ref (bd 0)), (2, .int (nI q))] := hl
  obtain ⟨j, hk, hj, hlA, hlB, hlC⟩ := hv.2.2.1 q hq
  refine lv_aload_n hx hb dX0_failsAt_0 rfl (lv_at hl 1 rfl) ?_
  refine gflN hx hb hg hN inX1 hown hK hP 6 (ci := 1) rfl rfl 0 (by decide) 72 nst_72 rfl dX0_failsAt_1 ?_
  refine lv_iload_n hx hb dX0_failsAt_4 rfl (lv_at hl 2 rfl) ?_
  refine ldn hx hb hK hP 7 0 rfl rfl (by omega) (by decide) dX0_failsAt_5 ?_
  refine topv (nI j) hk ?_
  refine lv_bipush (v := 6) hx hb dX0_failsAt_6 (by decide) ?_
  refine lv_icmp_ne (tgt := 25) hx hb dX0_failsAt_8 (by decide) (fun c_8 => ?_) (fun c_8 => ?_)
  · have c_8 : ¬ j = 6 := fun z => c_8 ((nI_eq (a := j) (b := 6) (by omega) (by omega)).mpr z)
    refine lv_aload_n hx hb dX0_failsAt_25 rfl (lv_at hl 1 rfl) ?_
    refine lv_iload_n hx hb dX0_failsAt_26 rfl (lv_at hl 2 rfl) ?_
    refine callR (runV hx hb hg hown hml hl.1 (c_X1_isOfFailingGlobal l D k bd Pv hv hq) [.int (nI q)] [] (preR (mapSome_sub hP [6, 7, 8, 9, 10, 11, 12, 13] rfl) hK hN xb0 x0) (va_recv hK hP (ci := 1) (q0 := 6) rfl rfl) wd_411 wd_302 wd_303 wd_50 wd_304 lk_X1_isOfFailingGlobal ⟨rfl, rfl⟩ ⟨by decide, by decide⟩ ⟨Nat.zero_le _, Nat.zero_le _⟩ rfl (Nat.le_of_ble_eq_true rfl) dX0_failsAt_27) (fun r_27 q_27 => ?_)
    obtain rfl := q_27
    refine lv_if_eq (tgt := 37) hx hb dX0_failsAt_30 (by decide) (fun c_30 => ?_) (fun c_30 => ?_)
    · have c_30 := zI_0.mp c_30
      refine lv_iconst (v := 0) hx hb dX0_failsAt_37 (by decide) ?_
      exact retRZ (v := 0) hx hb hr hlocks hH rfl dX0_failsAt_38 (by unfold stF; rw [kd_of hk hj]; first | (simp [c_8, c_22, zI]; done) | (simp [c_8, c_22, c_30, zI]; done) | (simp [c_8, c_30, zI]; done))
    · have c_30 := zI_ne c_30
      refine lv_iconst (v := 1) hx hb dX0_failsAt_33 (by decide) ?_
      refine lv_goto (tgt := 38) hx hb dX0_failsAt_34 (by decide) ?_
      exact retRZ (v := 1) hx hb hr hlocks hH rfl dX0_failsAt_38 (by unfold stF; rw [kd_of hk hj]; first | (simp [c_8, c_22, zI]; done) | (simp [c_8, c_22, c_30, zI]; done) | (simp [c_8, c_30, zI]; done))
  · have c_8 : j = 6 := (nI_eq (a := j) (b := 6) (by omega) (by omega)).mp c_8
    refine lv_aload_n hx hb dX0_failsAt_11 rfl (lv_at hl 0 rfl) ?_
    refine gfl hx hb hg inX0 hown hK hP 0 (ci := 0) rfl rfl 0 (by decide) wd_157 rfl dX0_failsAt_12 ?_
    refine lv_aload_n hx hb dX0_failsAt_15 rfl (lv_at hl 1 rfl) ?_
    refine gflN hx hb hg hN inX1 hown hK hP 6 (ci := 1) rfl rfl 3 (by decide) 79 nst_79 rfl dX0_failsAt_16 ?_
    refine lv_iload_n hx hb dX0_failsAt_19 rfl (lv_at hl 2 rfl) ?_
    refine ldn hx hb hK hP 10 0 rfl rfl (by omega) (by decide) dX0_failsAt_20 ?_
    refine ldx hx hb hK hP 1 0 rfl rfl (vp_lim (n := 8) (by rw [c_8] at hlC; exact hlC) (by decide) (by decide)) dX0_failsAt_21 ?_
    refine lv_if_eq (tgt := 33) hx hb dX0_failsAt_22 (by decide) (fun c_22 => ?_) (fun c_22 => ?_)
    · have c_22 : V 1 (ix (Pv 4 q)) = 0 := c_22
      refine lv_iconst (v := 1) hx hb dX0_failsAt_33 (by decide) ?_
      refine lv_goto (tgt := 38) hx hb dX0_failsAt_34 (by decide) ?_
      exact retRZ (v := 1) hx hb hr hlocks hH rfl dX0_failsAt_38 (by unfold stF; rw [kd_of hk hj]; first | (simp [c_8, c_22, zI]; done) | (simp [c_8, c_22, c_30, zI]; done) | (simp [c_8, c_30, zI]; done))
    · have c_22 : ¬ V 1 (ix (Pv 4 q)) = 0 := c_22
      refine lv_aload_n hx hb dX0_failsAt_25 rfl (lv_at hl 1 rfl) ?_
      refine lv_iload_n hx hb dX0_failsAt_26 rfl (lv_at hl 2 rfl) ?_
      refine callR (runV hx hb hg hown hml hl.1 (c_X1_isOfFailingGlobal l D k bd Pv hv hq) [.int (nI q)] [] (preR (mapSome_sub hP [6, 7, 8, 9, 10, 11, 12, 13] rfl) hK hN xb0 x0) (va_recv hK hP (ci := 1) (q0 := 6) rfl rfl) wd_411 wd_302 wd_303 wd_50 wd_304 lk_X1_isOfFailingGlobal ⟨rfl, rfl⟩ ⟨by decide, by decide⟩ ⟨Nat.zero_le _, Nat.zero_le _⟩ rfl (Nat.le_of_ble_eq_true rfl) dX0_failsAt_27) (fun r_27 q_27 => ?_)
      obtain rfl := q_27
      refine lv_if_eq (tgt := 37) hx hb dX0_failsAt_30 (by decide) (fun c_30 => ?_) (fun c_30 => ?_)
      · have c_30 := zI_0.mp c_30
        refine lv_iconst (v := 0) hx hb dX0_failsAt_37 (by decide) ?_
        exact retRZ (v := 0) hx hb hr hlocks hH rfl dX0_failsAt_38 (by unfold stF; rw [kd_of hk hj]; first | (simp [c_8, c_22, zI]; done) | (simp [c_8, c_22, c_30, zI]; done) | (simp [c_8, c_30, zI]; done))
      · have c_30 := zI_ne c_30
        refine lv_iconst (v := 1) hx hb dX0_failsAt_33 (by decide) ?_
        refine lv_goto (tgt := 38) hx hb dX0_failsAt_34 (by decide) ?_
        exact retRZ (v := 1) hx hb hr hlocks hH rfl dX0_failsAt_38 (by unfold stF; rw [kd_of hk hj]; first | (simp [c_8, c_22, zI]; done) | (simp [c_8, c_22, c_30, zI]; done) | (simp [c_8, c_30, zI]; done))
abbrev rmX0_valueOf : Room := { frames := 1, cells := 0, slots := 0, locals := 22 }
theorem lk_X0_valueOf : Lk yX0_valueOf 4 := by decide +kernel
set_option maxHeartbeats 4000000 in
set_option maxRecDepth 100000 in
/-- valueOf(kind, b, c, inputs) -/
theorem c_X0_valueOf (l : Launch) (D : va_G) (k : Nat → ClassId) (ad : Nat → Nat) (V : St) (bd : Nat) (I : Nat → Int32) {j : Nat} (hj8 : j = 1 ∨ j = 2 ∨ j = 3 ∨ j = 4 ∨ j = 5 ∨ j = 6 ∨ j = 8 ∨ j = 9) (b c9 : Int32) (hlB : lim (LB.getD j 0) b) (hlC : lim (LC.getD j 0) c9) (hrow : ∀ d, d < 4 → ∃ i, i < 4 ∧ V 4 d = nI i) : CtR noX l yX0_valueOf cX0_valueOf 6 (some .int) rmX0_valueOf D (tyL k) ((wM k ad V) ++ ([(bd, aI k 4 I)])) [.ref (ad 0), .int (nI j), .int b, .int c9, .ref bd] (fun r => r = vlS j b c9 I (V 1) (V 2) (V 3) (V 4)) := by
  refine CtR.mk (by decide) (Nat.le_of_ble_eq_true rfl) ?_
  intro p e s m below meth c hx hb hml hown hg hr hlocks hK hN hX H hH hP ls hl
  have hl : lv_has ls 6 [(0, .ref (ad 0)), (1, .int (nI j)), (2, .int b), (3, .int c9), (4, .ref bd)] := hl
  refine lv_iload_n hx hb dX0_valueOf_0 rfl (lv_at hl 1 rfl) ?_
  rcases hj8 with rfl | rfl | rfl | rfl | rfl | rfl | rfl | rfl
  · refine lv_tableIn (off := 51) (tgt := 52) hx hb dX0_valueOf_1 (by decide) (by decide) (by rfl) (by decide) ?_
    refine lv_iload_n hx hb dX0_valueOf_52 rfl (lv_at hl 2 rfl) ?_
    exact retRI (v := b) hx hb hr hlocks hH dX0_valueOf_53 (by first | rfl | (unfold vlS; simp [c_85]; done) | (unfold vlS; simp [c_118]; done) | (unfold vlS; simp [hbe, hce, ix_nI (show b1 < 2 ^ 31 by omega), ix_nI (show d1 < 2 ^ 31 by omega)]; done))
  · have hlB : lim 4 b := hlB
    refine lv_tableIn (off := 53) (tgt := 54) hx hb dX0_valueOf_1 (by decide) (by decide) (by rfl) (by decide) ?_
    refine lv_aload hx hb dX0_valueOf_54 (lv_at hl 4 rfl) ?_
    refine lv_iload_n hx hb dX0_valueOf_56 rfl (lv_at hl 2 rfl) ?_
    refine ldx hx hb hK hP 6 0 rfl rfl (vp_lim hlB (by decide) (by decide)) dX0_valueOf_57 ?_
    exact retRI (v := I b.toNatClampNeg) hx hb hr hlocks hH dX0_valueOf_58 (by first | rfl | (unfold vlS; simp [c_85]; done) | (unfold vlS; simp [c_118]; done) | (unfold vlS; simp [hbe, hce, ix_nI (show b1 < 2 ^ 31 by omega), ix_nI (show d1 < 2 ^ 31 by omega)]; done))
  · have hlB : lim 8 b := hlB
    have hlC : lim 8 c9 := hlC
    refine lv_tableIn (off := 58) (tgt := 59) hx hb dX0_valueOf_1 (by decide) (by decide) (by rfl) (by decide) ?_
    refine lv_aload_n hx hb dX0_valueOf_59 rfl (lv_at hl 0 rfl) ?_
    refine gfl hx hb hg inX0 hown hK hP 0 (ci := 0) rfl rfl 0 (by decide) wd_157 rfl dX0_valueOf_60 ?_
    refine lv_iload_n hx hb dX0_valueOf_63 rfl (lv_at hl 2 rfl) ?_
    refine ldx hx hb hK hP 1 0 rfl rfl (vp_lim hlB (by decide) (by decide)) dX0_valueOf_64 ?_
    refine lv_aload_n hx hb dX0_valueOf_65 rfl (lv_at hl 0 rfl) ?_
    refine gfl hx hb hg inX0 hown hK hP 0 (ci := 0) rfl rfl 0 (by decide) wd_157 rfl dX0_valueOf_66 ?_
    refine lv_iload_n hx hb dX0_valueOf_69 rfl (lv_at hl 3 rfl) ?_
    refine ldx hx hb hK hP 1 0 rfl rfl (vp_lim hlC (by decide) (by decide)) dX0_valueOf_70 ?_
    refine lv_iadd hx hb dX0_valueOf_71 ?_
    exact retRI (v := ((V 1) b.toNatClampNeg) + ((V 1) c9.toNatClampNeg)) hx hb hr hlocks hH dX0_valueOf_72 (by first | rfl | (unfold vlS; simp [c_85]; done) | (unfold vlS; simp [c_118]; done) | (unfold vlS; simp [hbe, hce, ix_nI (show b1 < 2 ^ 31 by omega), ix_nI (show d1 < 2 ^ 31 by omega)]; done))
  · have hlB : lim 8 b := hlB
    have hlC : lim 8 c9 := hlC
    refine lv_tableIn (off := 72) (tgt := 73) hx hb dX0_valueOf_1 (by decide) (by decide) (by rfl) (by decide) ?_
    refine lv_aload_n hx hb dX0_valueOf_73 rfl (lv_at hl 0 rfl) ?_
    refine gfl hx hb hg inX0 hown hK hP 0 (ci := 0) rfl rfl 0 (by decide) wd_157 rfl dX0_valueOf_74 ?_
    refine lv_iload_n hx hb dX0_valueOf_77 rfl (lv_at hl 2 rfl) ?_
    refine ldx hx hb hK hP 1 0 rfl rfl (vp_lim hlB (by decide) (by decide)) dX0_valueOf_78 ?_
    refine lv_aload_n hx hb dX0_valueOf_79 rfl (lv_at hl 0 rfl) ?_
    refine gfl hx hb hg inX0 hown hK hP 0 (ci := 0) rfl rfl 0 (by decide) wd_157 rfl dX0_valueOf_80 ?_
    refine lv_iload_n hx hb dX0_valueOf_83 rfl (lv_at hl 3 rfl) ?_
    refine ldx hx hb hK hP 1 0 rfl rfl (vp_lim hlC (by decide) (by decide)) dX0_valueOf_84 ?_
    refine lv_icmp_ge (tgt := 92) hx hb dX0_valueOf_85 (by decide) (fun c_85 => ?_) (fun c_85 => ?_)
    · have c_85 : ¬ V 1 (ix b) < V 1 (ix c9) := fun z => by rw [Int32.lt_iff_toInt_lt] at z; rw [Int32.le_iff_toInt_le] at c_85; exact absurd z (Int.not_lt.mpr c_85)
      refine lv_iconst (v := 0) hx hb dX0_valueOf_92 (by decide) ?_
      exact retRI (v := 0) hx hb hr hlocks hH dX0_valueOf_93 (by first | rfl | (unfold vlS; simp [c_85]; done) | (unfold vlS; simp [c_118]; done) | (unfold vlS; simp [hbe, hce, ix_nI (show b1 < 2 ^ 31 by omega), ix_nI (show d1 < 2 ^ 31 by omega)]; done))
    · have c_85 : V 1 (ix b) < V 1 (ix c9) := by rw [Int32.lt_iff_toInt_lt]; rw [Int32.le_iff_toInt_le] at c_85; exact Int.not_le.mp c_85
      refine lv_iconst (v := 1) hx hb dX0_valueOf_88 (by decide) ?_
      refine lv_goto (tgt := 93) hx hb dX0_valueOf_89 (by decide) ?_
      exact retRI (v := 1) hx hb hr hlocks hH dX0_valueOf_93 (by first | rfl | (unfold vlS; simp [c_85]; done) | (unfold vlS; simp [c_118]; done) | (unfold vlS; simp [hbe, hce, ix_nI (show b1 < 2 ^ 31 by omega), ix_nI (show d1 < 2 ^ 31 by omega)]; done))
  · have hlB : lim 8 b := hlB
    have hlC : lim 8 c9 := hlC
    refine lv_tableIn (off := 93) (tgt := 94) hx hb dX0_valueOf_1 (by decide) (by decide) (by rfl) (by decide) ?_
    refine lv_aload_n hx hb dX0_valueOf_94 rfl (lv_at hl 0 rfl) ?_
    refine gfl hx hb hg inX0 hown hK hP 0 (ci := 0) rfl rfl 0 (by decide) wd_157 rfl dX0_valueOf_95 ?_
    refine lv_iload_n hx hb dX0_valueOf_98 rfl (lv_at hl 2 rfl) ?_
    refine ldx hx hb hK hP 1 0 rfl rfl (vp_lim hlB (by decide) (by decide)) dX0_valueOf_99 ?_
    refine lv_aload_n hx hb dX0_valueOf_100 rfl (lv_at hl 0 rfl) ?_
    refine gfl hx hb hg inX0 hown hK hP 0 (ci := 0) rfl rfl 0 (by decide) wd_157 rfl dX0_valueOf_101 ?_
    refine lv_iload_n hx hb dX0_valueOf_104 rfl (lv_at hl 3 rfl) ?_
    refine ldx hx hb hK hP 1 0 rfl rfl (vp_lim hlC (by decide) (by decide)) dX0_valueOf_105 ?_
    refine lv_imul hx hb dX0_valueOf_106 ?_
    exact retRI (v := ((V 1) b.toNatClampNeg) * ((V 1) c9.toNatClampNeg)) hx hb hr hlocks hH dX0_valueOf_107 (by first | rfl | (unfold vlS; simp [c_85]; done) | (unfold vlS; simp [c_118]; done) | (unfold vlS; simp [hbe, hce, ix_nI (show b1 < 2 ^ 31 by omega), ix_nI (show d1 < 2 ^ 31 by omega)]; done))
  · have hlB : lim 8 b := hlB
    have hlC : lim 8 c9 := hlC
    refine lv_tableIn (off := 107) (tgt := 108) hx hb dX0_valueOf_1 (by decide) (by decide) (by rfl) (by decide) ?_
    refine lv_aload_n hx hb dX0_valueOf_108 rfl (lv_at hl 0 rfl) ?_
    refine gfl hx hb hg inX0 hown hK hP 0 (ci := 0) rfl rfl 0 (by decide) wd_157 rfl dX0_valueOf_109 ?_
    refine lv_iload_n hx hb dX0_valueOf_112 rfl (lv_at hl 3 rfl) ?_
    refine ldx hx hb hK hP 1 0 rfl rfl (vp_lim hlC (by decide) (by decide)) dX0_valueOf_113 ?_
    refine lv_istore (lv' := [(5, .int ((V 1) c9.toNatClampNeg)), (0, .ref (ad 0)), (1, .int (nI 6)), (2, .int b), (3, .int c9), (4, .ref bd)]) hx hb dX0_valueOf_114 hl (by decide) rfl (fun ls hl => ?_)
    refine lv_iload hx hb dX0_valueOf_116 (lv_at hl 0 rfl) ?_
    refine lv_if_ne (tgt := 125) hx hb dX0_valueOf_118 (by decide) (fun c_118 => ?_) (fun c_118 => ?_)
    · have c_118 : ¬ V 1 (ix c9) = 0 := c_118
      refine lv_aload_n hx hb dX0_valueOf_125 rfl (lv_at hl 1 rfl) ?_
      refine gfl hx hb hg inX0 hown hK hP 0 (ci := 0) rfl rfl 0 (by decide) wd_157 rfl dX0_valueOf_126 ?_
      refine lv_iload_n hx hb dX0_valueOf_129 rfl (lv_at hl 3 rfl) ?_
      refine ldx hx hb hK hP 1 0 rfl rfl (vp_lim hlB (by decide) (by decide)) dX0_valueOf_130 ?_
      refine lv_iload hx hb dX0_valueOf_131 (lv_at hl 0 rfl) ?_
      refine lv_idiv hx hb dX0_valueOf_133 c_118 ?_
      exact retRI (v := ((V 1) b.toNatClampNeg) / ((V 1) c9.toNatClampNeg)) hx hb hr hlocks hH dX0_valueOf_134 (by first | rfl | (unfold vlS; simp [c_85]; done) | (unfold vlS; simp [c_118]; done) | (unfold vlS; simp [hbe, hce, ix_nI (show b1 < 2 ^ 31 by omega), ix_nI (show d1 < 2 ^ 31 by omega)]; done))
    · have c_118 : V 1 (ix c9) = 0 := c_118
      refine lv_iconst (v := 0) hx hb dX0_valueOf_121 (by decide) ?_
      refine lv_goto (tgt := 134) hx hb dX0_valueOf_122 (by decide) ?_
      exact retRI (v := 0) hx hb hr hlocks hH dX0_valueOf_134 (by first | rfl | (unfold vlS; simp [c_85]; done) | (unfold vlS; simp [c_118]; done) | (unfold vlS; simp [hbe, hce, ix_nI (show b1 < 2 ^ 31 by omega), ix_nI (show d1 < 2 ^ 31 by omega)]; done))
  · have hlB : lim 8 b := hlB
    have hlC : lim 4 c9 := hlC
    refine lv_tableIn (off := 134) (tgt := 135) hx hb dX0_valueOf_1 (by decide) (by decide) (by rfl) (by decide) ?_
    obtain ⟨b1, hb1, hbe⟩ := lim_nI hlB (by decide)
    obtain ⟨d1, hd1, hce⟩ := lim_nI hlC (by decide)
    refine lv_aload_n hx hb dX0_valueOf_135 rfl (lv_at hl 0 rfl) ?_
    refine gfl hx hb hg inX0 hown hK hP 0 (ci := 0) rfl rfl 1 (by decide) wd_159 rfl dX0_valueOf_136 ?_
    refine lv_aload_n hx hb dX0_valueOf_139 rfl (lv_at hl 0 rfl) ?_
    refine lv_iload_n hx hb dX0_valueOf_140 rfl (lv_at hl 2 rfl) ?_
    refine topv (nI b1) hbe ?_
    refine lv_iload_n hx hb dX0_valueOf_141 rfl (lv_at hl 3 rfl) ?_
    refine topv (nI d1) hce ?_
    refine callR (runV hx hb hg hown hml hl.1 (c_X0_itemOf l D k ad V (b := b1) hb1 (d := d1) hd1) [.int (nI b1), .int (nI d1)] [.ref (ad 2)] (preR (mapSome_sub hP [0, 1, 2, 3, 4, 5] rfl) hK hN xb0 x0) (va_recv hK hP (ci := 0) (q0 := 0) rfl rfl) wd_413 wd_415 wd_16 wd_52 wd_416 lk_X0_itemOf ⟨rfl, rfl⟩ ⟨by decide, by decide⟩ ⟨Nat.zero_le _, Nat.zero_le _⟩ rfl (Nat.le_of_ble_eq_true rfl) dX0_valueOf_142) (fun r_142 q_142 => ?_)
    obtain rfl := q_142
    refine ldx hx hb hK hP 2 0 rfl rfl (itI_in (hrow d1 hd1)) dX0_valueOf_145 ?_
    exact retRI (v := (V 2) (itI (V 4 d1) (V 1 b1)).toNatClampNeg) hx hb hr hlocks hH dX0_valueOf_146 (by first | rfl | (unfold vlS; simp [c_85]; done) | (unfold vlS; simp [c_118]; done) | (unfold vlS; simp [hbe, hce, ix_nI (show b1 < 2 ^ 31 by omega), ix_nI (show d1 < 2 ^ 31 by omega)]; done))
  · have hlB : lim 4 b := hlB
    refine lv_tableIn (off := 146) (tgt := 147) hx hb dX0_valueOf_1 (by decide) (by decide) (by rfl) (by decide) ?_
    refine lv_aload_n hx hb dX0_valueOf_147 rfl (lv_at hl 0 rfl) ?_
    refine gfl hx hb hg inX0 hown hK hP 0 (ci := 0) rfl rfl 2 (by decide) wd_160 rfl dX0_valueOf_148 ?_
    refine lv_iload_n hx hb dX0_valueOf_151 rfl (lv_at hl 2 rfl) ?_
    refine ldx hx hb hK hP 3 0 rfl rfl (vp_lim hlB (by decide) (by decide)) dX0_valueOf_152 ?_
    exact retRI (v := (V 3) b.toNatClampNeg) hx hb hr hlocks hH dX0_valueOf_153 (by first | rfl | (unfold vlS; simp [c_85]; done) | (unfold vlS; simp [c_118]; done) | (unfold vlS; simp [hbe, hce, ix_nI (show b1 < 2 ^ 31 by omega), ix_nI (show d1 < 2 ^ 31 by omega)]; done))
