/-! the reference: small calls -/
abbrev rmX4_seen : Room := { frames := 0, cells := 0, slots := 0, locals := 0 }
theorem lk_X4_seen : Lk yX4_seen 0 := by decide +kernel
set_option maxHeartbeats 4000000 in
set_option maxRecDepth 100000 in
/-- seen() -/
theorem c_X4_seen (l : Launch) (D : va_G) (k : Nat → ClassId) (ad : Nat → Nat) (V : St) : CtR noX l yX4_seen cX4_seen 1 (some .int) rmX4_seen D (tyL k) (wQ k ad V) [.ref (ad 0)] (fun r => r = V 0 12) := by
  refine CtR.mk (by decide) (Nat.le_of_ble_eq_true rfl) ?_
  intro p e s m below meth c hx hb hml hown hg hr hlocks hK hN hX H hH hP ls hl
  have hl : lv_has ls 1 [(0, .ref (ad 0))] := hl
  refine lv_aload_n hx hb dX4_seen_0 rfl (lv_at hl 0 rfl) ?_
  refine gfl hx hb hg inX4 hown hK hP 0 (ci := 4) rfl rfl 12 (by decide) wd_563 rfl dX4_seen_1 ?_
  exact retRI (v := V 0 12) hx hb hr hlocks hH dX4_seen_4 (rfl)
abbrev rmX4_count : Room := { frames := 0, cells := 0, slots := 0, locals := 0 }
theorem lk_X4_count : Lk yX4_count 1 := by decide +kernel
set_option maxHeartbeats 4000000 in
set_option maxRecDepth 100000 in
/-- count(what) -/
theorem c_X4_count (l : Launch) (D : va_G) (k : Nat → ClassId) (ad : Nat → Nat) (V : St) (x : Int32) : CtR noX l yX4_count cX4_count 2 (some .int) rmX4_count D (tyL k) (wQ k ad V) [.ref (ad 0), .int x] (fun r => (x = 0 ∧ r = V 0 0) ∨ (x = 1 ∧ r = V 0 9) ∨ (x = 2 ∧ r = V 0 11) ∨ (¬ rgt x 3 ∧ r = -1)) := by
  refine CtR.mk (by decide) (Nat.le_of_ble_eq_true rfl) ?_
  intro p e s m below meth c hx hb hml hown hg hr hlocks hK hN hX H hH hP ls hl
  have hl : lv_has ls 2 [(0, .ref (ad 0)), (1, .int x)] := hl
  refine lv_iload_n hx hb dX4_count_0 rfl (lv_at hl 1 rfl) ?_
  refine lv_if_ne (tgt := 11) hx hb dX4_count_1 (by decide) (fun c_1 => ?_) (fun c_1 => ?_)
  · refine lv_iload_n hx hb dX4_count_11 rfl (lv_at hl 1 rfl) ?_
    refine lv_iconst (v := 1) hx hb dX4_count_12 (by decide) ?_
    refine lv_icmp_ne (tgt := 23) hx hb dX4_count_13 (by decide) (fun c_13 => ?_) (fun c_13 => ?_)
    · refine lv_iload_n hx hb dX4_count_23 rfl (lv_at hl 1 rfl) ?_
      refine lv_iconst (v := 2) hx hb dX4_count_24 (by decide) ?_
      refine lv_icmp_ne (tgt := 35) hx hb dX4_count_25 (by decide) (fun c_25 => ?_) (fun c_25 => ?_)
      · refine lv_iconst (v := (-1)) hx hb dX4_count_35 (by decide) ?_
        exact retRI (v := (-1)) hx hb hr hlocks hH dX4_count_36 (Or.inr (Or.inr (Or.inr ⟨by rcases sw3 x with h | h | h | h; exact absurd h c_1; exact absurd h c_13; exact absurd h c_25; exact h.2, rfl⟩)))
      · refine lv_aload_n hx hb dX4_count_28 rfl (lv_at hl 0 rfl) ?_
        refine gfl hx hb hg inX4 hown hK hP 0 (ci := 4) rfl rfl 11 (by decide) wd_562 rfl dX4_count_29 ?_
        refine lv_goto (tgt := 36) hx hb dX4_count_32 (by decide) ?_
        exact retRI (v := V 0 11) hx hb hr hlocks hH dX4_count_36 (Or.inr (Or.inr (Or.inl ⟨c_25, rfl⟩)))
    · refine lv_aload_n hx hb dX4_count_16 rfl (lv_at hl 0 rfl) ?_
      refine gfl hx hb hg inX4 hown hK hP 0 (ci := 4) rfl rfl 9 (by decide) wd_560 rfl dX4_count_17 ?_
      refine lv_goto (tgt := 36) hx hb dX4_count_20 (by decide) ?_
      exact retRI (v := V 0 9) hx hb hr hlocks hH dX4_count_36 (Or.inr (Or.inl ⟨c_13, rfl⟩))
  · refine lv_aload_n hx hb dX4_count_4 rfl (lv_at hl 0 rfl) ?_
    refine gfl hx hb hg inX4 hown hK hP 0 (ci := 4) rfl rfl 0 (by decide) wd_551 rfl dX4_count_5 ?_
    refine lv_goto (tgt := 36) hx hb dX4_count_8 (by decide) ?_
    exact retRI (v := V 0 0) hx hb hr hlocks hH dX4_count_36 (Or.inl ⟨c_1, rfl⟩)
abbrev rmX4_drop : Room := { frames := 0, cells := 0, slots := 0, locals := 0 }
theorem lk_X4_drop : Lk yX4_drop 0 := by decide +kernel
set_option maxHeartbeats 4000000 in
set_option maxRecDepth 100000 in
/-- drop() -/
theorem c_X4_drop (l : Launch) (D : va_G) (k : Nat → ClassId) (ad : Nat → Nat) (V : St) {n : Nat} (hv : okV n (pq V)) : CtX noX l yX4_drop cX4_drop 1 (some .int) rmX4_drop D (tyL k) (wQ k ad V) [.ref (ad 0)] (qI D (wQ k ad) (fun r U => (n = 0 ∧ r = -3 ∧ U = V) ∨ (0 < n ∧ r = nI (n - 1) ∧ U = va_up (va_up V 0 (upd (V 0) 0 (nI (n - 1)))) 0 (upd (upd (V 0) 0 (nI (n - 1))) 22 0)))) := by
  refine CtX.mk (by decide) (Nat.le_of_ble_eq_true rfl) ?_
  intro p e s m below meth c hx hb hml hown hg hr hlocks hK hN A hA hX hh ls hl
  have hh : Hd D A (wQ k ad V) s.heap s.heap [] := hh
  have hl : lv_has ls 1 [(0, .ref (ad 0))] := hl
  have h00 : V 0 0 = nI n := hv.2.1
  have hn24 := hv.1
  refine lv_aload_n hx hb dX4_drop_0 rfl (lv_at hl 0 rfl) ?_
  refine gfl hx hb hg inX4 hown hK hh.1 0 (ci := 4) rfl rfl 0 (by decide) wd_551 rfl dX4_drop_1 ?_
  refine topv (nI n) h00 ?_
  refine lv_if_ne (tgt := 10) hx hb dX4_drop_4 (by decide) (fun c_4 => ?_) (fun c_4 => ?_)
  · have c_4 : ¬ n = 0 := fun z => c_4 ((nI_eq (a := n) (b := 0) (by omega) (by omega)).mpr z)
    refine lv_aload_n hx hb dX4_drop_10 rfl (lv_at hl 0 rfl) ?_
    refine lv_dup hx hb dX4_drop_11 rfl ?_
    refine gfl hx hb hg inX4 hown hK hh.1 0 (ci := 4) rfl rfl 0 (by decide) wd_551 rfl dX4_drop_12 ?_
    refine topv (nI n) h00 ?_
    refine lv_iconst (v := 1) hx hb dX4_drop_15 (by decide) ?_
    refine lv_isub hx hb dX4_drop_16 ?_
    refine topv (nI (n - 1)) (pk_sub (a := n) (b := 1) (by omega)) ?_
    refine pfl hx hb hg inX4 tyX4 tyX4_ok nmX4 hown hK hh 0 (ci := 4) rfl rfl 0 (by decide) wd_551 rfl rfl rfl (Nat.le_of_ble_eq_true rfl) dX4_drop_17 (wQ k ad (va_up V 0 (upd (V 0) 0 (nI (n - 1))))) rfl (fun H locs hh => ?_)
    refine lv_aload_n hx hb dX4_drop_20 rfl (lv_at hl 0 rfl) ?_
    refine lv_iconst (v := 0) hx hb dX4_drop_21 (by decide) ?_
    refine pfl hx hb hg inX4 tyX4 tyX4_ok nmX4 hown hK hh 0 (ci := 4) rfl rfl 22 (by decide) wd_573 rfl rfl rfl (Nat.le_of_ble_eq_true rfl) dX4_drop_22 (wQ k ad (va_up (va_up V 0 (upd (V 0) 0 (nI (n - 1)))) 0 (upd ((va_up V 0 (upd (V 0) 0 (nI (n - 1)))) 0) 22 0))) rfl (fun H locs hh => ?_)
    refine lv_aload_n hx hb dX4_drop_25 rfl (lv_at hl 0 rfl) ?_
    refine gfl hx hb hg inX4 hown hK hh.1 0 (ci := 4) rfl rfl 0 (by decide) wd_551 rfl dX4_drop_26 ?_
    exact retI (Wd := wQ k ad) (v := nI (n - 1)) (va_up (va_up V 0 (upd (V 0) 0 (nI (n - 1)))) 0 (upd ((va_up V 0 (upd (V 0) 0 (nI (n - 1)))) 0) 22 0)) hx hb hr hlocks dX4_drop_29 hh (Or.inr ⟨by omega, rfl, rfl⟩)
  · have c_4 : n = 0 := (nI_eq (a := n) (b := 0) (by omega) (by omega)).mp c_4
    refine lv_bipush (v := (-3)) hx hb dX4_drop_7 (by decide) ?_
    exact retI (Wd := wQ k ad) (v := (-3)) (V) hx hb hr hlocks dX4_drop_9 hh (Or.inl ⟨c_4, rfl, rfl⟩)
abbrev rmX4_start : Room := { frames := 1, cells := 0, slots := 0, locals := 25 }
theorem lk_X4_start : Lk yX4_start 3 := by decide +kernel
set_option maxHeartbeats 4000000 in
set_option maxRecDepth 100000 in
/-- start(g, n, fails) -/
theorem c_X4_start (l : Launch) (D : va_G) (k : Nat → ClassId) (ad : Nat → Nat) (V : St) (x y : Int32) (w : Bool) : CtX noX l yX4_start cX4_start 4 (some .int) rmX4_start D (tyL k) (wQ k ad V) [.ref (ad 0), .int x, .int y, .int (zI w)] (qI D (wQ k ad) (fun r U => (¬ rgt x 4 ∧ r = -1 ∧ U = V) ∨ (∃ q, q < 4 ∧ x = nI q ∧ r = 1 ∧ U = va_up (va_up (va_up V 6 (upd (V 6) q y)) 7 (upd (V 7) q (vp_nar .boolean (zI w)))) 0 (upd (V 0) 22 0)))) := by
  refine CtX.mk (by decide) (Nat.le_of_ble_eq_true rfl) ?_
  intro p e s m below meth c hx hb hml hown hg hr hlocks hK hN A hA hX hh ls hl
  have hh : Hd D A (wQ k ad V) s.heap s.heap [] := hh
  have hl : lv_has ls 4 [(0, .ref (ad 0)), (1, .int x), (2, .int y), (3, .int (zI w))] := hl
  refine lv_iload_n hx hb dX4_start_0 rfl (lv_at hl 1 rfl) ?_
  refine lv_i2l (v := x.toInt64) hx hb dX4_start_1 rfl ?_
  refine lv_lconst (v := 0) hx hb dX4_start_2 (by decide) ?_
  refine lv_ldc2 (v := 3) hx hb hown (hg _ wd_671) dX4_start_3 ?_
  refine callR (runS hx hb hg hown hml hl.1 (c_X4_in l D k (x.toInt64) (0) (3)) [.long x.toInt64, .long 0, .long 3] [] (preR (mapSome_sub hh.1 [] rfl) hK hN xb0 x0) wd_668 wd_669 wd_53 wd_670 lk_X4_in ⟨rfl, rfl⟩ ⟨by decide, by decide⟩ ⟨Nat.zero_le _, Nat.zero_le _⟩ rfl (Nat.le_of_ble_eq_true rfl) dX4_start_6) (fun r_6 q_6 => ?_)
  have hB9 := inB_rgt (x := x) (lo := 0) (hi := 3) (n := 4) (by omega) (by decide) (by decide)
  obtain rfl := q_6
  refine lv_if_ne (tgt := 14) hx hb dX4_start_9 (by decide) (fun c_9 => ?_) (fun c_9 => ?_)
  · have c_9 := zI_ne c_9
    obtain ⟨q, hq, hxe⟩ := hB9.mp c_9
    refine lv_aload_n hx hb dX4_start_14 rfl (lv_at hl 0 rfl) ?_
    refine gfl hx hb hg inX4 hown hK hh.1 0 (ci := 4) rfl rfl 6 (by decide) wd_557 rfl dX4_start_15 ?_
    refine lv_iload_n hx hb dX4_start_18 rfl (lv_at hl 1 rfl) ?_
    refine topv (nI q) hxe ?_
    refine lv_iload_n hx hb dX4_start_19 rfl (lv_at hl 2 rfl) ?_
    refine stn (j := q) hx hb hK hh 6 0 rfl rfl (by omega) (by decide) dX4_start_20 (wQ k ad (va_up V 6 (upd (V 6) q y))) rfl (fun H locs hh => ?_)
    refine lv_aload_n hx hb dX4_start_21 rfl (lv_at hl 0 rfl) ?_
    refine gfl hx hb hg inX4 hown hK hh.1 0 (ci := 4) rfl rfl 7 (by decide) wd_558 rfl dX4_start_22 ?_
    refine lv_iload_n hx hb dX4_start_25 rfl (lv_at hl 1 rfl) ?_
    refine topv (nI q) hxe ?_
    refine lv_iload_n hx hb dX4_start_26 rfl (lv_at hl 3 rfl) ?_
    refine stzn (j := q) hx hb hK hh 7 1 rfl rfl (by omega) (by decide) dX4_start_27 (wQ k ad (va_up (va_up V 6 (upd (V 6) q y)) 7 (upd (V 7) q (vp_nar .boolean (zI w))))) rfl (fun H locs hh => ?_)
    refine lv_aload_n hx hb dX4_start_28 rfl (lv_at hl 0 rfl) ?_
    refine lv_iconst (v := 0) hx hb dX4_start_29 (by decide) ?_
    refine pfl hx hb hg inX4 tyX4 tyX4_ok nmX4 hown hK hh 0 (ci := 4) rfl rfl 22 (by decide) wd_573 rfl rfl rfl (Nat.le_of_ble_eq_true rfl) dX4_start_30 (wQ k ad (va_up (va_up (va_up V 6 (upd (V 6) q y)) 7 (upd (V 7) q (vp_nar .boolean (zI w)))) 0 (upd ((va_up (va_up V 6 (upd (V 6) q y)) 7 (upd (V 7) q (vp_nar .boolean (zI w)))) 0) 22 0))) rfl (fun H locs hh => ?_)
    refine lv_iconst (v := 1) hx hb dX4_start_33 (by decide) ?_
    exact retI (Wd := wQ k ad) (v := 1) (va_up (va_up (va_up V 6 (upd (V 6) q y)) 7 (upd (V 7) q (vp_nar .boolean (zI w)))) 0 (upd ((va_up (va_up V 6 (upd (V 6) q y)) 7 (upd (V 7) q (vp_nar .boolean (zI w)))) 0) 22 0)) hx hb hr hlocks dX4_start_34 hh (Or.inr ⟨q, hq, hxe, rfl, rfl⟩)
  · have c_9 : ¬ rgt x 4 := fun z => by rw [hB9.mpr z] at c_9; exact absurd c_9 (by decide)
    refine lv_iconst (v := (-1)) hx hb dX4_start_12 (by decide) ?_
    exact retI (Wd := wQ k ad) (v := (-1)) (V) hx hb hr hlocks dX4_start_13 hh (Or.inl ⟨c_9, rfl, rfl⟩)
abbrev rmX4_untest : Room := { frames := 0, cells := 0, slots := 0, locals := 0 }
theorem lk_X4_untest : Lk yX4_untest 0 := by decide +kernel
set_option maxHeartbeats 4000000 in
set_option maxRecDepth 100000 in
/-- untest() -/
theorem c_X4_untest (l : Launch) (D : va_G) (k : Nat → ClassId) (ad : Nat → Nat) (V : St) : CtX noX l yX4_untest cX4_untest 2 (some .int) rmX4_untest D (tyL k) (wQ k ad V) [.ref (ad 0)] (qI D (wQ k ad) (fun r U => r = V 0 9 ∧ U = va_up V 0 (upd (V 0) 9 0))) := by
  refine CtX.mk (by decide) (Nat.le_of_ble_eq_true rfl) ?_
  intro p e s m below meth c hx hb hml hown hg hr hlocks hK hN A hA hX hh ls hl
  have hh : Hd D A (wQ k ad V) s.heap s.heap [] := hh
  have hl : lv_has ls 2 [(0, .ref (ad 0))] := hl
  refine lv_aload_n hx hb dX4_untest_0 rfl (lv_at hl 0 rfl) ?_
  refine gfl hx hb hg inX4 hown hK hh.1 0 (ci := 4) rfl rfl 9 (by decide) wd_560 rfl dX4_untest_1 ?_
  refine lv_istore_n (lv' := [(1, .int (V 0 9)), (0, .ref (ad 0))]) hx hb dX4_untest_4 rfl hl (by decide) rfl (fun ls hl => ?_)
  refine lv_aload_n hx hb dX4_untest_5 rfl (lv_at hl 1 rfl) ?_
  refine lv_iconst (v := 0) hx hb dX4_untest_6 (by decide) ?_
  refine pfl hx hb hg inX4 tyX4 tyX4_ok nmX4 hown hK hh 0 (ci := 4) rfl rfl 9 (by decide) wd_560 rfl rfl rfl (Nat.le_of_ble_eq_true rfl) dX4_untest_7 (wQ k ad (va_up V 0 (upd (V 0) 9 0))) rfl (fun H locs hh => ?_)
  refine lv_iload_n hx hb dX4_untest_10 rfl (lv_at hl 0 rfl) ?_
  exact retI (Wd := wQ k ad) (v := V 0 9) (va_up V 0 (upd (V 0) 9 0)) hx hb hr hlocks dX4_untest_11 hh (⟨rfl, rfl⟩)
abbrev rmX4_input : Room := { frames := 1, cells := 0, slots := 0, locals := 25 }
theorem lk_X4_input : Lk yX4_input 2 := by decide +kernel
set_option maxHeartbeats 4000000 in
set_option maxRecDepth 100000 in
/-- input(k, v) -/
theorem c_X4_input (l : Launch) (D : va_G) (k : Nat → ClassId) (ad : Nat → Nat) (V : St) (x y : Int32) : CtX noX l yX4_input cX4_input 3 (some .int) rmX4_input D (tyL k) (wQ k ad V) [.ref (ad 0), .int x, .int y] (qI D (wQ k ad) (fun r U => (¬ rgt x 4 ∧ r = -1 ∧ U = V) ∨ (∃ q, q < 4 ∧ x = nI q ∧ r = 1 ∧ U = va_up V 5 (upd (V 5) q y)))) := by
  refine CtX.mk (by decide) (Nat.le_of_ble_eq_true rfl) ?_
  intro p e s m below meth c hx hb hml hown hg hr hlocks hK hN A hA hX hh ls hl
  have hh : Hd D A (wQ k ad V) s.heap s.heap [] := hh
  have hl : lv_has ls 3 [(0, .ref (ad 0)), (1, .int x), (2, .int y)] := hl
  refine lv_iload_n hx hb dX4_input_0 rfl (lv_at hl 1 rfl) ?_
  refine lv_i2l (v := x.toInt64) hx hb dX4_input_1 rfl ?_
  refine lv_lconst (v := 0) hx hb dX4_input_2 (by decide) ?_
  refine lv_ldc2 (v := 3) hx hb hown (hg _ wd_671) dX4_input_3 ?_
  refine callR (runS hx hb hg hown hml hl.1 (c_X4_in l D k (x.toInt64) (0) (3)) [.long x.toInt64, .long 0, .long 3] [] (preR (mapSome_sub hh.1 [] rfl) hK hN xb0 x0) wd_668 wd_669 wd_53 wd_670 lk_X4_in ⟨rfl, rfl⟩ ⟨by decide, by decide⟩ ⟨Nat.zero_le _, Nat.zero_le _⟩ rfl (Nat.le_of_ble_eq_true rfl) dX4_input_6) (fun r_6 q_6 => ?_)
  have hB9 := inB_rgt (x := x) (lo := 0) (hi := 3) (n := 4) (by omega) (by decide) (by decide)
  obtain rfl := q_6
  refine lv_if_ne (tgt := 14) hx hb dX4_input_9 (by decide) (fun c_9 => ?_) (fun c_9 => ?_)
  · have c_9 := zI_ne c_9
    obtain ⟨q, hq, hxe⟩ := hB9.mp c_9
    refine lv_aload_n hx hb dX4_input_14 rfl (lv_at hl 0 rfl) ?_
    refine gfl hx hb hg inX4 hown hK hh.1 0 (ci := 4) rfl rfl 5 (by decide) wd_556 rfl dX4_input_15 ?_
    refine lv_iload_n hx hb dX4_input_18 rfl (lv_at hl 1 rfl) ?_
    refine topv (nI q) hxe ?_
    refine lv_iload_n hx hb dX4_input_19 rfl (lv_at hl 2 rfl) ?_
    refine stn (j := q) hx hb hK hh 5 0 rfl rfl (by omega) (by decide) dX4_input_20 (wQ k ad (va_up V 5 (upd (V 5) q y))) rfl (fun H locs hh => ?_)
    refine lv_iconst (v := 1) hx hb dX4_input_21 (by decide) ?_
    exact retI (Wd := wQ k ad) (v := 1) (va_up V 5 (upd (V 5) q y)) hx hb hr hlocks dX4_input_22 hh (Or.inr ⟨q, hq, hxe, rfl, rfl⟩)
  · have c_9 : ¬ rgt x 4 := fun z => by rw [hB9.mpr z] at c_9; exact absurd c_9 (by decide)
    refine lv_iconst (v := (-1)) hx hb dX4_input_12 (by decide) ?_
    exact retI (Wd := wQ k ad) (v := (-1)) (V) hx hb hr hlocks dX4_input_13 hh (Or.inl ⟨c_9, rfl, rfl⟩)
