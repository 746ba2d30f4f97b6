/-! the reference: slice, chop -/
def CqS (n : Nat) (V U : St) : Prop := FrQ V U ∧ Cq n U
theorem CqS.rf {n : Nat} {V : St} (h : Cq n V) : CqS n V V := ⟨FrQ.rf, h⟩
theorem CqS.of {n : Nat} {V U : St} (f : FrQ V U) (h : U 0 22 = 1) (r : MG n (pq V) U) : CqS n V U := ⟨f, Or.inr ⟨h, by rw [f.pq]; exact r⟩⟩
abbrev rmX4_slice : Room := { frames := 7, cells := 0, slots := 0, locals := 171 }
theorem lk_X4_slice : Lk yX4_slice 2 := by decide +kernel
set_option maxHeartbeats 4000000 in
set_option maxRecDepth 100000 in
/-- slice(p, way) -/
theorem c_X4_slice (l : Launch) (D : va_G) (k : Nat → ClassId) (ad : Nat → Nat) (V : St) {n : Nat} (hv : okV n (pq V)) (hc : Cq n V) (x y : Int32) : CtX noX l yX4_slice cX4_slice 3 (some .int) rmX4_slice D (tyL k) (wQ k ad V) [.ref (ad 0), .int x, .int y] (qI D (wQ k ad) (fun r U => CqS n V U ∧ slR n (pq V) x y r)) := by
  refine CtX.mk (by decide) (Nat.le_of_ble_eq_true rfl) ?_
  intro p e s m below meth c hx hb hml hown hg hr hlocks hK hN A hA hX hh ls hl
  have hh : Hd D A (wQ k ad V) s.heap s.heap [] := hh
  have hl : lv_has ls 3 [(0, .ref (ad 0)), (1, .int x), (2, .int y)] := hl
  have h00 : V 0 0 = nI n := hv.2.1
  have hn24 := hv.1
  refine lv_aload_n hx hb dX4_slice_0 rfl (lv_at hl 0 rfl) ?_
  refine lv_iload_n hx hb dX4_slice_1 rfl (lv_at hl 1 rfl) ?_
  refine callR (runV hx hb hg hown hml hl.1 (c_X4_isPlace l D k ad V hv (x)) [.int x] [] (preR (mapSome_sub hh.1 [0, 1, 2, 3, 4, 5, 6, 7, 8, 9, 10, 11, 12, 13, 14, 15, 16, 17, 18, 19, 20, 21, 22] rfl) hK hN xb0 x0) (va_recv hK hh.1 (ci := 4) (q0 := 0) rfl rfl) wd_681 wd_683 wd_25 wd_53 wd_684 lk_X4_isPlace ⟨rfl, rfl⟩ ⟨by decide, by decide⟩ ⟨Nat.zero_le _, Nat.zero_le _⟩ rfl (Nat.le_of_ble_eq_true rfl) dX4_slice_2) (fun r_2 q_2 => ?_)
  obtain ⟨bP1, rfl, hP1⟩ := q_2
  refine lv_if_eq (tgt := 20) hx hb dX4_slice_5 (by decide) (fun c_5 => ?_) (fun c_5 => ?_)
  · have c_5 := zI_0.mp c_5
    have c_5 : ¬ rgt x n := fun z => by rw [hP1.mpr z] at c_5; cases c_5
    refine lv_iconst (v := (-1)) hx hb dX4_slice_20 (by decide) ?_
    exact retI (Wd := wQ k ad) (v := (-1)) (V) hx hb hr hlocks dX4_slice_21 hh (⟨CqS.rf hc, Or.inl ⟨c_5, rfl⟩⟩)
  · obtain ⟨q, hq, hxe⟩ := hP1.mp (zI_ne c_5)
    refine lv_iload_n hx hb dX4_slice_8 rfl (lv_at hl 2 rfl) ?_
    refine lv_i2l (v := y.toInt64) hx hb dX4_slice_9 rfl ?_
    refine lv_lconst (v := 0) hx hb dX4_slice_10 (by decide) ?_
    refine lv_ldc2 (v := 3) hx hb hown (hg _ wd_671) dX4_slice_11 ?_
    refine callR (runS hx hb hg hown hml hl.1 (c_X4_in l D k (y.toInt64) (0) (3)) [.long y.toInt64, .long 0, .long 3] [] (preR (mapSome_sub hh.1 [] rfl) hK hN xb0 x0) wd_668 wd_669 wd_53 wd_670 lk_X4_in ⟨rfl, rfl⟩ ⟨by decide, by decide⟩ ⟨Nat.zero_le _, Nat.zero_le _⟩ rfl (Nat.le_of_ble_eq_true rfl) dX4_slice_14) (fun r_14 q_14 => ?_)
    have hB9 := inB_rgt (x := y) (lo := 0) (hi := 3) (n := 4) (by omega) (by decide) (by decide)
    obtain rfl := q_14
    refine lv_if_ne (tgt := 22) hx hb dX4_slice_17 (by decide) (fun c_17 => ?_) (fun c_17 => ?_)
    · have c_17 := zI_ne c_17
      obtain ⟨y9, hy9, hye⟩ := hB9.mp c_17
      refine lv_aload_n hx hb dX4_slice_22 rfl (lv_at hl 0 rfl) ?_
      refine callWV (D := D) (wn := fun U => wQ k ad U) (wr := []) (runV hx hb hg hown hml hl.1 ((c_X4_look l D k ad V hv hc) s.heap.size) [] [] (preX (mapSome_sub hh.1 [0, 1, 2, 3, 4, 5, 6, 7, 8, 9, 10, 11, 12, 13, 14, 15, 16, 17, 18, 19, 20, 21, 22] rfl) (hh.2.1.sub [0, 1, 2, 3, 4, 5, 6, 7, 8, 9, 10, 11, 12, 13, 14, 15, 16, 17, 18, 19, 20, 21, 22] (by decide) rfl) hK hN xb0 x0) (va_recv hK hh.1 (ci := 4) (q0 := 0) rfl rfl) wd_731 wd_733 wd_31 wd_53 wd_734 lk_X4_look ⟨rfl, rfl⟩ ⟨by decide, by decide⟩ ⟨Nat.zero_le _, Nat.zero_le _⟩ rfl (Nat.le_of_ble_eq_true rfl) dX4_slice_23) hA hh [0, 1, 2, 3, 4, 5, 6, 7, 8, 9, 10, 11, 12, 13, 14, 15, 16, 17, 18, 19, 20, 21, 22] [] [0, 1, 2, 3, 4, 5, 6, 7, 8, 9, 10, 11, 12, 13, 14, 15, 16, 17, 18, 19, 20, 21, 22] rfl rfl (by decide) (by decide) (by decide) (fun _ => rfl) (fun U H locs q_23 hh => ?_)
      obtain ⟨fU, o22, hMG⟩ := q_23
      have hvU : okV n (pq U) := by rw [fU.pq]; exact hv
      have hMU : MG n (pq U) U := by rw [fU.pq]; exact hMG
      refine lv_iload_n hx hb dX4_slice_26 rfl (lv_at hl 2 rfl) ?_
      refine topv (nI y9) hye ?_
      refine lv_iconst (v := 2) hx hb dX4_slice_27 (by decide) ?_
      refine lv_icmp_ge (tgt := 49) hx hb dX4_slice_28 (by decide) (fun c_28 => ?_) (fun c_28 => ?_)
      · have c_28 : 2 ≤ y9 := (nI_leI (a := 2) (b := y9) (by omega) (by omega)).mp c_28
        refine lv_aload_n hx hb dX4_slice_49 rfl (lv_at hl 0 rfl) ?_
        refine lv_iload_n hx hb dX4_slice_50 rfl (lv_at hl 1 rfl) ?_
        refine topv (nI q) hxe ?_
        refine lv_iload_n hx hb dX4_slice_51 rfl (lv_at hl 2 rfl) ?_
        refine topv (nI y9) hye ?_
        refine lv_iconst (v := 3) hx hb dX4_slice_52 (by decide) ?_
        refine lv_icmp_ne (tgt := 60) hx hb dX4_slice_53 (by decide) (fun c_53 => ?_) (fun c_53 => ?_)
        · have c_53 : ¬ y9 = 3 := fun z => c_53 ((nI_eq (a := y9) (b := 3) (by omega) (by omega)).mpr z)
          refine lv_iconst (v := 0) hx hb dX4_slice_60 (by decide) ?_
          refine callR (runV hx hb hg hown hml hl.1 (c_X4_forward l D k ad U hvU hMU (u := q) (by omega)) [.int (nI q), .int 0] [] (preR (mapSome_sub hh.1 [0, 1, 2, 3, 4, 5, 6, 7, 8, 9, 10, 11, 12, 13, 14, 15, 16, 17, 18, 19, 20, 21, 22] rfl) hK hN xb0 x0) (va_recv hK hh.1 (ci := 4) (q0 := 0) rfl rfl) wd_772 wd_774 wd_41 wd_53 wd_775 lk_X4_forward ⟨rfl, rfl⟩ ⟨by decide, by decide⟩ ⟨Nat.zero_le _, Nat.zero_le _⟩ rfl (Nat.le_of_ble_eq_true rfl) dX4_slice_61) (fun r_61 q_61 => ?_)
          rw [fU.pq] at q_61
          exact retI (Wd := wQ k ad) (v := r_61) (U) hx hb hr hlocks dX4_slice_64 hh (⟨CqS.of fU o22 hMG, Or.inr ⟨q, hq, hxe, Or.inr (Or.inr (Or.inl ⟨(by rw [hye, show y9 = 2 by omega]; rfl), q_61⟩))⟩⟩)
        · have c_53 : y9 = 3 := (nI_eq (a := y9) (b := 3) (by omega) (by omega)).mp c_53
          refine lv_iconst (v := 1) hx hb dX4_slice_56 (by decide) ?_
          refine lv_goto (tgt := 61) hx hb dX4_slice_57 (by decide) ?_
          refine callR (runV hx hb hg hown hml hl.1 (c_X4_forward_T l D k ad U hvU hMU (u := q) (by omega)) [.int (nI q), .int 1] [] (preR (mapSome_sub hh.1 [0, 1, 2, 3, 4, 5, 6, 7, 8, 9, 10, 11, 12, 13, 14, 15, 16, 17, 18, 19, 20, 21, 22] rfl) hK hN xb0 x0) (va_recv hK hh.1 (ci := 4) (q0 := 0) rfl rfl) wd_772 wd_774 wd_41 wd_53 wd_775 lk_X4_forward ⟨rfl, rfl⟩ ⟨by decide, by decide⟩ ⟨Nat.zero_le _, Nat.zero_le _⟩ rfl (Nat.le_of_ble_eq_true rfl) dX4_slice_61) (fun r_61 q_61 => ?_)
          rw [fU.pq] at q_61
          exact retI (Wd := wQ k ad) (v := r_61) (U) hx hb hr hlocks dX4_slice_64 hh (⟨CqS.of fU o22 hMG, Or.inr ⟨q, hq, hxe, Or.inr (Or.inr (Or.inr (Or.inl ⟨(by rw [hye, show y9 = 3 by omega]; rfl), q_61⟩)))⟩⟩)
      · have c_28 : ¬ 2 ≤ y9 := fun z => c_28 ((nI_leI (a := 2) (b := y9) (by omega) (by omega)).mpr z)
        refine lv_aload_n hx hb dX4_slice_31 rfl (lv_at hl 0 rfl) ?_
        refine lv_iload_n hx hb dX4_slice_32 rfl (lv_at hl 1 rfl) ?_
        refine topv (nI q) hxe ?_
        refine lv_iload_n hx hb dX4_slice_33 rfl (lv_at hl 2 rfl) ?_
        refine topv (nI y9) hye ?_
        refine lv_iconst (v := 1) hx hb dX4_slice_34 (by decide) ?_
        refine lv_icmp_ne (tgt := 42) hx hb dX4_slice_35 (by decide) (fun c_35 => ?_) (fun c_35 => ?_)
        · have c_35 : ¬ y9 = 1 := fun z => c_35 ((nI_eq (a := y9) (b := 1) (by omega) (by omega)).mpr z)
          refine lv_iconst (v := 0) hx hb dX4_slice_42 (by decide) ?_
          refine callR (runV hx hb hg hown hml hl.1 (c_X4_back l D k ad U hvU hMU (v := q) (by omega)) [.int (nI q), .int 0] [] (preR (mapSome_sub hh.1 [0, 1, 2, 3, 4, 5, 6, 7, 8, 9, 10, 11, 12, 13, 14, 15, 16, 17, 18, 19, 20, 21, 22] rfl) hK hN xb0 x0) (va_recv hK hh.1 (ci := 4) (q0 := 0) rfl rfl) wd_764 wd_766 wd_39 wd_53 wd_767 lk_X4_back ⟨rfl, rfl⟩ ⟨by decide, by decide⟩ ⟨Nat.zero_le _, Nat.zero_le _⟩ rfl (Nat.le_of_ble_eq_true rfl) dX4_slice_43) (fun r_43 q_43 => ?_)
          rw [fU.pq] at q_43
          refine lv_goto (tgt := 64) hx hb dX4_slice_46 (by decide) ?_
          exact retI (Wd := wQ k ad) (v := r_43) (U) hx hb hr hlocks dX4_slice_64 hh (⟨CqS.of fU o22 hMG, Or.inr ⟨q, hq, hxe, Or.inl ⟨(by rw [hye, show y9 = 0 by omega]; rfl), q_43⟩⟩⟩)
        · have c_35 : y9 = 1 := (nI_eq (a := y9) (b := 1) (by omega) (by omega)).mp c_35
          refine lv_iconst (v := 1) hx hb dX4_slice_38 (by decide) ?_
          refine lv_goto (tgt := 43) hx hb dX4_slice_39 (by decide) ?_
          refine callR (runV hx hb hg hown hml hl.1 (c_X4_back_T l D k ad U hvU hMU (v := q) (by omega)) [.int (nI q), .int 1] [] (preR (mapSome_sub hh.1 [0, 1, 2, 3, 4, 5, 6, 7, 8, 9, 10, 11, 12, 13, 14, 15, 16, 17, 18, 19, 20, 21, 22] rfl) hK hN xb0 x0) (va_recv hK hh.1 (ci := 4) (q0 := 0) rfl rfl) wd_764 wd_766 wd_39 wd_53 wd_767 lk_X4_back ⟨rfl, rfl⟩ ⟨by decide, by decide⟩ ⟨Nat.zero_le _, Nat.zero_le _⟩ rfl (Nat.le_of_ble_eq_true rfl) dX4_slice_43) (fun r_43 q_43 => ?_)
          rw [fU.pq] at q_43
          refine lv_goto (tgt := 64) hx hb dX4_slice_46 (by decide) ?_
          exact retI (Wd := wQ k ad) (v := r_43) (U) hx hb hr hlocks dX4_slice_64 hh (⟨CqS.of fU o22 hMG, Or.inr ⟨q, hq, hxe, Or.inr (Or.inl ⟨(by rw [hye, show y9 = 1 by omega]; rfl), q_43⟩)⟩⟩)
    · have c_17 : ¬ rgt y 4 := fun z => by rw [hB9.mpr z] at c_17; exact absurd c_17 (by decide)
      refine lv_iconst (v := (-1)) hx hb dX4_slice_20 (by decide) ?_
      exact retI (Wd := wQ k ad) (v := (-1)) (V) hx hb hr hlocks dX4_slice_21 hh (⟨CqS.rf hc, Or.inr ⟨q, hq, hxe, Or.inr (Or.inr (Or.inr (Or.inr ⟨c_17, rfl⟩)))⟩⟩)
abbrev rmX4_chop : Room := { frames := 7, cells := 0, slots := 0, locals := 171 }
theorem lk_X4_chop : Lk yX4_chop 2 := by decide +kernel
set_option maxHeartbeats 4000000 in
set_option maxRecDepth 100000 in
/-- chop(u, v) -/
theorem c_X4_chop (l : Launch) (D : va_G) (k : Nat → ClassId) (ad : Nat → Nat) (V : St) {n : Nat} (hv : okV n (pq V)) (hc : Cq n V) (x y : Int32) : CtX noX l yX4_chop cX4_chop 3 (some .int) rmX4_chop D (tyL k) (wQ k ad V) [.ref (ad 0), .int x, .int y] (qI D (wQ k ad) (fun r U => CqS n V U ∧ chpR n (pq V) x y r)) := by
  refine CtX.mk (by decide) (Nat.le_of_ble_eq_true rfl) ?_
  intro p e s m below meth c hx hb hml hown hg hr hlocks hK hN A hA hX hh ls hl
  have hh : Hd D A (wQ k ad V) s.heap s.heap [] := hh
  have hl : lv_has ls 3 [(0, .ref (ad 0)), (1, .int x), (2, .int y)] := hl
  have h00 : V 0 0 = nI n := hv.2.1
  have hn24 := hv.1
  refine lv_aload_n hx hb dX4_chop_0 rfl (lv_at hl 0 rfl) ?_
  refine lv_iload_n hx hb dX4_chop_1 rfl (lv_at hl 1 rfl) ?_
  refine callR (runV hx hb hg hown hml hl.1 (c_X4_isPlace l D k ad V hv (x)) [.int x] [] (preR (mapSome_sub hh.1 [0, 1, 2, 3, 4, 5, 6, 7, 8, 9, 10, 11, 12, 13, 14, 15, 16, 17, 18, 19, 20, 21, 22] rfl) hK hN xb0 x0) (va_recv hK hh.1 (ci := 4) (q0 := 0) rfl rfl) wd_681 wd_683 wd_25 wd_53 wd_684 lk_X4_isPlace ⟨rfl, rfl⟩ ⟨by decide, by decide⟩ ⟨Nat.zero_le _, Nat.zero_le _⟩ rfl (Nat.le_of_ble_eq_true rfl) dX4_chop_2) (fun r_2 q_2 => ?_)
  obtain ⟨bP1, rfl, hP1⟩ := q_2
  refine lv_if_eq (tgt := 16) hx hb dX4_chop_5 (by decide) (fun c_5 => ?_) (fun c_5 => ?_)
  · have c_5 := zI_0.mp c_5
    have c_5 : ¬ rgt x n := fun z => by rw [hP1.mpr z] at c_5; cases c_5
    refine lv_iconst (v := (-1)) hx hb dX4_chop_16 (by decide) ?_
    exact retI (Wd := wQ k ad) (v := (-1)) (V) hx hb hr hlocks dX4_chop_17 hh (⟨CqS.rf hc, Or.inl ⟨fun z => c_5 z.1, rfl⟩⟩)
  · obtain ⟨q, hq, hxe⟩ := hP1.mp (zI_ne c_5)
    refine lv_aload_n hx hb dX4_chop_8 rfl (lv_at hl 0 rfl) ?_
    refine lv_iload_n hx hb dX4_chop_9 rfl (lv_at hl 2 rfl) ?_
    refine callR (runV hx hb hg hown hml hl.1 (c_X4_isPlace l D k ad V hv (y)) [.int y] [] (preR (mapSome_sub hh.1 [0, 1, 2, 3, 4, 5, 6, 7, 8, 9, 10, 11, 12, 13, 14, 15, 16, 17, 18, 19, 20, 21, 22] rfl) hK hN xb0 x0) (va_recv hK hh.1 (ci := 4) (q0 := 0) rfl rfl) wd_681 wd_683 wd_25 wd_53 wd_684 lk_X4_isPlace ⟨rfl, rfl⟩ ⟨by decide, by decide⟩ ⟨Nat.zero_le _, Nat.zero_le _⟩ rfl (Nat.le_of_ble_eq_true rfl) dX4_chop_10) (fun r_10 q_10 => ?_)
    obtain ⟨bP2, rfl, hP2⟩ := q_10
    refine lv_if_ne (tgt := 18) hx hb dX4_chop_13 (by decide) (fun c_13 => ?_) (fun c_13 => ?_)
    · obtain ⟨q2, hq2, hye⟩ := hP2.mp (zI_ne c_13)
      refine lv_aload_n hx hb dX4_chop_18 rfl (lv_at hl 0 rfl) ?_
      refine callWV (D := D) (wn := fun U => wQ k ad U) (wr := []) (runV hx hb hg hown hml hl.1 ((c_X4_look l D k ad V hv hc) s.heap.size) [] [] (preX (mapSome_sub hh.1 [0, 1, 2, 3, 4, 5, 6, 7, 8, 9, 10, 11, 12, 13, 14, 15, 16, 17, 18, 19, 20, 21, 22] rfl) (hh.2.1.sub [0, 1, 2, 3, 4, 5, 6, 7, 8, 9, 10, 11, 12, 13, 14, 15, 16, 17, 18, 19, 20, 21, 22] (by decide) rfl) hK hN xb0 x0) (va_recv hK hh.1 (ci := 4) (q0 := 0) rfl rfl) wd_731 wd_733 wd_31 wd_53 wd_734 lk_X4_look ⟨rfl, rfl⟩ ⟨by decide, by decide⟩ ⟨Nat.zero_le _, Nat.zero_le _⟩ rfl (Nat.le_of_ble_eq_true rfl) dX4_chop_19) hA hh [0, 1, 2, 3, 4, 5, 6, 7, 8, 9, 10, 11, 12, 13, 14, 15, 16, 17, 18, 19, 20, 21, 22] [] [0, 1, 2, 3, 4, 5, 6, 7, 8, 9, 10, 11, 12, 13, 14, 15, 16, 17, 18, 19, 20, 21, 22] rfl rfl (by decide) (by decide) (by decide) (fun _ => rfl) (fun U H locs q_19 hh => ?_)
      obtain ⟨fU, o22, hMG⟩ := q_19
      have hvU : okV n (pq U) := by rw [fU.pq]; exact hv
      have hMU : MG n (pq U) U := by rw [fU.pq]; exact hMG
      refine lv_aload_n hx hb dX4_chop_22 rfl (lv_at hl 0 rfl) ?_
      refine lv_iload_n hx hb dX4_chop_23 rfl (lv_at hl 1 rfl) ?_
      refine topv (nI q) hxe ?_
      refine lv_iconst (v := 0) hx hb dX4_chop_24 (by decide) ?_
      refine callR (runV hx hb hg hown hml hl.1 (c_X4_forward l D k ad U hvU hMU (u := q) (by omega)) [.int (nI q), .int 0] [] (preR (mapSome_sub hh.1 [0, 1, 2, 3, 4, 5, 6, 7, 8, 9, 10, 11, 12, 13, 14, 15, 16, 17, 18, 19, 20, 21, 22] rfl) hK hN xb0 x0) (va_recv hK hh.1 (ci := 4) (q0 := 0) rfl rfl) wd_772 wd_774 wd_41 wd_53 wd_775 lk_X4_forward ⟨rfl, rfl⟩ ⟨by decide, by decide⟩ ⟨Nat.zero_le _, Nat.zero_le _⟩ rfl (Nat.le_of_ble_eq_true rfl) dX4_chop_25) (fun r_25 q_25 => ?_)
      rw [fU.pq] at q_25
      refine lv_aload_n hx hb dX4_chop_28 rfl (lv_at hl 0 rfl) ?_
      refine lv_iload_n hx hb dX4_chop_29 rfl (lv_at hl 2 rfl) ?_
      refine topv (nI q2) hye ?_
      refine lv_iconst (v := 0) hx hb dX4_chop_30 (by decide) ?_
      refine callR (runV hx hb hg hown hml hl.1 (c_X4_back l D k ad U hvU hMU (v := q2) (by omega)) [.int (nI q2), .int 0] [.int r_25] (preR (mapSome_sub hh.1 [0, 1, 2, 3, 4, 5, 6, 7, 8, 9, 10, 11, 12, 13, 14, 15, 16, 17, 18, 19, 20, 21, 22] rfl) hK hN xb0 x0) (va_recv hK hh.1 (ci := 4) (q0 := 0) rfl rfl) wd_764 wd_766 wd_39 wd_53 wd_767 lk_X4_back ⟨rfl, rfl⟩ ⟨by decide, by decide⟩ ⟨Nat.zero_le _, Nat.zero_le _⟩ rfl (Nat.le_of_ble_eq_true rfl) dX4_chop_31) (fun r_31 q_31 => ?_)
      rw [fU.pq] at q_31
      refine lv_iand hx hb dX4_chop_34 ?_
      exact retI (Wd := wQ k ad) (v := r_25 &&& r_31) (U) hx hb hr hlocks dX4_chop_35 hh (⟨CqS.of fU o22 hMG, Or.inr ⟨q, q2, hq, hq2, hxe, hye, and_isM q_25 q_31⟩⟩)
    · have c_13 := zI_0.mp c_13
      have c_13 : ¬ rgt y n := fun z => by rw [hP2.mpr z] at c_13; cases c_13
      refine lv_iconst (v := (-1)) hx hb dX4_chop_16 (by decide) ?_
      exact retI (Wd := wQ k ad) (v := (-1)) (V) hx hb hr hlocks dX4_chop_17 hh (⟨CqS.rf hc, Or.inl ⟨fun z => c_13 z.2, rfl⟩⟩)
