/-! allows, line, change -/
abbrev rmX1_allows : Room := { frames := 1, cells := 0, slots := 0, locals := 21 }
theorem lk_X1_allows : Lk yX1_allows 4 := by decide +kernel
set_option maxHeartbeats 4000000 in
set_option maxRecDepth 100000 in
/-- allows(kind, a, b, c) -/
theorem c_X1_allows (l : Launch) (D : va_G) (k : Nat → ClassId) (y0 y1 y2 y3 : Int32) : CtR staX l yX1_allows cX1_allows 4 (some .boolean) rmX1_allows D (tyL k) ([]) [.int y0, .int y1, .int y2, .int y3] (fun r => ∃ b : Bool, r = zI b ∧ (b = true ↔ alR y0 y1 y2 y3)) := by
  refine CtR.mk (by decide) (Nat.le_of_ble_eq_true rfl) ?_
  intro p e s m below meth c hx hb hml hown hg hr hlocks hK hN hX H hH hP ls hl
  have hl : lv_has ls 4 [(0, .int y0), (1, .int y1), (2, .int y2), (3, .int y3)] := hl
  obtain ⟨t0, t1, t2, ⟨z0, T0⟩, ⟨z1, T1⟩, ⟨z2, T2⟩⟩ := hX
  have hSf : va_S (fun _ => False) s.heap H [] := by rw [← hH]; exact va_S.rf
  refine lv_iload_n hx hb dX1_allows_0 rfl (lv_at hl 0 rfl) ?_
  refine lv_if_lt (tgt := 50) hx hb dX1_allows_1 (by decide) (fun c_1 => ?_) (fun c_1 => ?_)
  · refine lv_iconst (v := 0) hx hb dX1_allows_50 (by decide) ?_
    exact retRZ (v := 0) hx hb hr hlocks hH rfl dX1_allows_51 (⟨false, rfl, fun z => (by cases z), fun h => absurd trivial (fun _ => al_no (rgt_neg (by decide) c_1) h)⟩)
  · refine lv_iload_n hx hb dX1_allows_4 rfl (lv_at hl 0 rfl) ?_
    refine lv_bipush (v := 14) hx hb dX1_allows_5 (by decide) ?_
    refine lv_icmp_ge (tgt := 50) hx hb dX1_allows_7 (by decide) (fun c_7 => ?_) (fun c_7 => ?_)
    · refine lv_iconst (v := 0) hx hb dX1_allows_50 (by decide) ?_
      exact retRZ (v := 0) hx hb hr hlocks hH rfl dX1_allows_51 (⟨false, rfl, fun z => (by cases z), fun h => absurd trivial (fun _ => al_no (rgt_big (N := 14) (by decide) c_7) h)⟩)
    · obtain ⟨j, hj, hke⟩ := rgt_yes (N := 14) (by decide) c_1 c_7
      refine lv_iload_n hx hb dX1_allows_10 rfl (lv_at hl 1 rfl) ?_
      refine va_getsN (A := fun _ => False) (v := .ref t0) hx hb z0 hSf hown (hN.at 235 nst_235 rfl) (fun _ h => h) dX1_allows_11 ?_
      refine lv_iload_n hx hb dX1_allows_14 rfl (lv_at hl 0 rfl) ?_
      refine topv (nI j) hke ?_
      refine va_ti (A := fun _ => False) (v := .int (nI (LA.getD j 0))) hx hb T0 hSf (vp_in_nI (by omega) (by omega)) (by rw [nI_clamp (by omega)]) dX1_allows_15 ?_
      refine callR (runS hx hb hg hown hml hl.1 (c_X1_isBelow l D k (y1) (q := LA.getD j 0) (LA_le j hj)) [.int y1, .int (nI (LA.getD j 0))] [] (preR (mapSome_sub hP [] rfl) hK hN xb0 x0) wd_237 wd_238 wd_50 wd_239 lk_X1_isBelow ⟨rfl, rfl⟩ ⟨by decide, by decide⟩ ⟨Nat.zero_le _, Nat.zero_le _⟩ rfl (Nat.le_of_ble_eq_true rfl) dX1_allows_16) (fun r_16 q_16 => ?_)
      obtain rfl := q_16
      refine lv_if_eq (tgt := 50) hx hb dX1_allows_19 (by decide) (fun c_19 => ?_) (fun c_19 => ?_)
      · have c_19 : ¬ lim (LA.getD j 0) _ := fun z => by rw [(lim_iff (LA_le j hj)).mpr z] at c_19; exact absurd c_19 (by decide)
        refine lv_iconst (v := 0) hx hb dX1_allows_50 (by decide) ?_
        exact retRZ (v := 0) hx hb hr hlocks hH rfl dX1_allows_51 (⟨false, rfl, fun z => (by cases z), fun h => absurd trivial (fun _ => by rw [hke, al_iff hj] at h; exact c_19 h.1)⟩)
      · have c_19 := (lim_iff (LA_le j hj)).mp (zI_ne c_19)
        refine lv_iload_n hx hb dX1_allows_22 rfl (lv_at hl 2 rfl) ?_
        refine va_getsN (A := fun _ => False) (v := .ref t1) hx hb z1 hSf hown (hN.at 240 nst_240 rfl) (fun _ h => h) dX1_allows_23 ?_
        refine lv_iload_n hx hb dX1_allows_26 rfl (lv_at hl 0 rfl) ?_
        refine topv (nI j) hke ?_
        refine va_ti (A := fun _ => False) (v := .int (nI (LB.getD j 0))) hx hb T1 hSf (vp_in_nI (by omega) (by omega)) (by rw [nI_clamp (by omega)]) dX1_allows_27 ?_
        refine callR (runS hx hb hg hown hml hl.1 (c_X1_isBelow l D k (y2) (q := LB.getD j 0) (LB_le j hj)) [.int y2, .int (nI (LB.getD j 0))] [] (preR (mapSome_sub hP [] rfl) hK hN xb0 x0) wd_237 wd_238 wd_50 wd_239 lk_X1_isBelow ⟨rfl, rfl⟩ ⟨by decide, by decide⟩ ⟨Nat.zero_le _, Nat.zero_le _⟩ rfl (Nat.le_of_ble_eq_true rfl) dX1_allows_28) (fun r_28 q_28 => ?_)
        obtain rfl := q_28
        refine lv_if_eq (tgt := 50) hx hb dX1_allows_31 (by decide) (fun c_31 => ?_) (fun c_31 => ?_)
        · have c_31 : ¬ lim (LB.getD j 0) _ := fun z => by rw [(lim_iff (LB_le j hj)).mpr z] at c_31; exact absurd c_31 (by decide)
          refine lv_iconst (v := 0) hx hb dX1_allows_50 (by decide) ?_
          exact retRZ (v := 0) hx hb hr hlocks hH rfl dX1_allows_51 (⟨false, rfl, fun z => (by cases z), fun h => absurd trivial (fun _ => by rw [hke, al_iff hj] at h; exact c_31 h.2.1)⟩)
        · have c_31 := (lim_iff (LB_le j hj)).mp (zI_ne c_31)
          refine lv_iload_n hx hb dX1_allows_34 rfl (lv_at hl 3 rfl) ?_
          refine va_getsN (A := fun _ => False) (v := .ref t2) hx hb z2 hSf hown (hN.at 242 nst_242 rfl) (fun _ h => h) dX1_allows_35 ?_
          refine lv_iload_n hx hb dX1_allows_38 rfl (lv_at hl 0 rfl) ?_
          refine topv (nI j) hke ?_
          refine va_ti (A := fun _ => False) (v := .int (nI (LC.getD j 0))) hx hb T2 hSf (vp_in_nI (by omega) (by omega)) (by rw [nI_clamp (by omega)]) dX1_allows_39 ?_
          refine callR (runS hx hb hg hown hml hl.1 (c_X1_isBelow l D k (y3) (q := LC.getD j 0) (LC_le j hj)) [.int y3, .int (nI (LC.getD j 0))] [] (preR (mapSome_sub hP [] rfl) hK hN xb0 x0) wd_237 wd_238 wd_50 wd_239 lk_X1_isBelow ⟨rfl, rfl⟩ ⟨by decide, by decide⟩ ⟨Nat.zero_le _, Nat.zero_le _⟩ rfl (Nat.le_of_ble_eq_true rfl) dX1_allows_40) (fun r_40 q_40 => ?_)
          obtain rfl := q_40
          refine lv_if_eq (tgt := 50) hx hb dX1_allows_43 (by decide) (fun c_43 => ?_) (fun c_43 => ?_)
          · have c_43 : ¬ lim (LC.getD j 0) _ := fun z => by rw [(lim_iff (LC_le j hj)).mpr z] at c_43; exact absurd c_43 (by decide)
            refine lv_iconst (v := 0) hx hb dX1_allows_50 (by decide) ?_
            exact retRZ (v := 0) hx hb hr hlocks hH rfl dX1_allows_51 (⟨false, rfl, fun z => (by cases z), fun h => absurd trivial (fun _ => by rw [hke, al_iff hj] at h; exact c_43 h.2.2)⟩)
          · have c_43 := (lim_iff (LC_le j hj)).mp (zI_ne c_43)
            refine lv_iconst (v := 1) hx hb dX1_allows_46 (by decide) ?_
            refine lv_goto (tgt := 51) hx hb dX1_allows_47 (by decide) ?_
            exact retRZ (v := 1) hx hb hr hlocks hH rfl dX1_allows_51 (⟨true, rfl, fun _ => by rw [hke, al_iff hj]; exact ⟨c_19, c_31, c_43⟩, fun _ => rfl⟩)
abbrev rmX3_line : Room := { frames := 2, cells := 0, slots := 0, locals := 44 }
theorem lk_X3_line : Lk yX3_line 4 := by decide +kernel
set_option maxHeartbeats 4000000 in
set_option maxRecDepth 100000 in
/-- line(kind, a, b, c) -/
theorem c_X3_line (l : Launch) (D : va_G) (k : Nat → ClassId) (ad : Nat → Nat) (V : St) {n : Nat} (hv : okV n (pj V)) (y0 y1 y2 y3 : Int32) : CtX staX l yX3_line cX3_line 6 (some .int) rmX3_line D (tyL k) (wS k ad V) [.ref (ad 0), .int y0, .int y1, .int y2, .int y3] (qI D (wS k ad) (fun r U => (¬ alR y0 y1 y2 y3 ∧ r = -1 ∧ U = V) ∨ (alR y0 y1 y2 y3 ∧ n = 24 ∧ r = -2 ∧ U = V) ∨ (alR y0 y1 y2 y3 ∧ n < 24 ∧ r = nI n ∧ wrS n (n + 1) V U y0 y1 y2 y3))) := by
  refine CtX.mk (by decide) (Nat.le_of_ble_eq_true rfl) ?_
  intro p e s m below meth c hx hb hml hown hg hr hlocks hK hN A hA hX hh ls hl
  have hh : Hd D A (wS k ad V) s.heap s.heap [] := hh
  have hl : lv_has ls 6 [(0, .ref (ad 0)), (1, .int y0), (2, .int y1), (3, .int y2), (4, .int y3)] := hl
  have h87 : V 8 7 = nI n := hv.2.1
  have hn24 := hv.1
  refine lv_iload_n hx hb dX3_line_0 rfl (lv_at hl 1 rfl) ?_
  refine lv_iload_n hx hb dX3_line_1 rfl (lv_at hl 2 rfl) ?_
  refine lv_iload_n hx hb dX3_line_2 rfl (lv_at hl 3 rfl) ?_
  refine lv_iload hx hb dX3_line_3 (lv_at hl 4 rfl) ?_
  refine callR (runS hx hb hg hown hml hl.1 (c_X1_allows l D k y0 y1 y2 y3) [.int y0, .int y1, .int y2, .int y3] [] (preR (mapSome_sub hh.1 [] rfl) hK hN staX_b (staX_at hX)) wd_232 wd_233 wd_50 wd_234 lk_X1_allows ⟨rfl, rfl⟩ ⟨by decide, by decide⟩ ⟨Nat.zero_le _, Nat.zero_le _⟩ rfl (Nat.le_of_ble_eq_true rfl) dX3_line_5) (fun r_5 q_5 => ?_)
  obtain ⟨bA, rfl, hbA⟩ := q_5
  refine lv_if_ne (tgt := 13) hx hb dX3_line_8 (by decide) (fun c_8 => ?_) (fun c_8 => ?_)
  · have c_8 := zI_ne c_8
    refine lv_aload_n hx hb dX3_line_13 rfl (lv_at hl 0 rfl) ?_
    refine gfl hx hb hg inX3 hown hK hh.1 0 (ci := 3) rfl rfl 0 (by decide) wd_191 rfl dX3_line_14 ?_
    refine gflN hx hb hg hN inX1 hown hK hh.1 8 (ci := 1) rfl rfl 7 (by decide) 89 nst_89 rfl dX3_line_17 ?_
    refine topv (nI n) h87 ?_
    refine lv_bipush (v := 24) hx hb dX3_line_20 (by decide) ?_
    refine lv_icmp_lt (tgt := 28) hx hb dX3_line_22 (by decide) (fun c_22 => ?_) (fun c_22 => ?_)
    · have c_22 : n < 24 := (nI_ltI (a := n) (b := 24) (by omega) (by omega)).mp c_22
      refine lv_aload_n hx hb dX3_line_28 rfl (lv_at hl 0 rfl) ?_
      refine gfl hx hb hg inX3 hown hK hh.1 0 (ci := 3) rfl rfl 0 (by decide) wd_191 rfl dX3_line_29 ?_
      refine gflN hx hb hg hN inX1 hown hK hh.1 8 (ci := 1) rfl rfl 7 (by decide) 89 nst_89 rfl dX3_line_32 ?_
      refine topv (nI n) h87 ?_
      refine lv_istore (lv' := [(5, .int (nI n)), (0, .ref (ad 0)), (1, .int y0), (2, .int y1), (3, .int y2), (4, .int y3)]) hx hb dX3_line_35 hl (by decide) rfl (fun ls hl => ?_)
      refine lv_aload_n hx hb dX3_line_37 rfl (lv_at hl 1 rfl) ?_
      refine gfl hx hb hg inX3 hown hK hh.1 0 (ci := 3) rfl rfl 0 (by decide) wd_191 rfl dX3_line_38 ?_
      refine lv_dup hx hb dX3_line_41 rfl ?_
      refine gflN hx hb hg hN inX1 hown hK hh.1 8 (ci := 1) rfl rfl 7 (by decide) 89 nst_89 rfl dX3_line_42 ?_
      refine topv (nI n) h87 ?_
      refine lv_iconst (v := 1) hx hb dX3_line_45 (by decide) ?_
      refine lv_iadd hx hb dX3_line_46 ?_
      refine topv (nI (n + 1)) (nI_add n 1) ?_
      refine pflN hx hb hg hN inX1 tyX1 tyX1_ok nmX1 hown hK hh 8 (ci := 1) rfl rfl 7 (by decide) 89 nst_89 rfl rfl rfl (Nat.le_of_ble_eq_true rfl) dX3_line_47 (wS k ad (va_up V 8 (upd (V 8) 7 (nI (n + 1))))) rfl (fun H locs hh => ?_)
      refine lv_aload_n hx hb dX3_line_50 rfl (lv_at hl 1 rfl) ?_
      refine gfl hx hb hg inX3 hown hK hh.1 0 (ci := 3) rfl rfl 0 (by decide) wd_191 rfl dX3_line_51 ?_
      refine lv_iload hx hb dX3_line_54 (lv_at hl 0 rfl) ?_
      refine lv_iload_n hx hb dX3_line_56 rfl (lv_at hl 2 rfl) ?_
      refine lv_iload_n hx hb dX3_line_57 rfl (lv_at hl 3 rfl) ?_
      refine lv_iload_n hx hb dX3_line_58 rfl (lv_at hl 4 rfl) ?_
      refine lv_iload hx hb dX3_line_59 (lv_at hl 5 rfl) ?_
      refine callWV (D := D) (wn := fun u9 => wS k ad (put 8 8 (va_up V 8 (upd (V 8) 7 (nI (n + 1)))) u9)) (wr := [(ad 0, .inr (3, [.ref (ad 8), .ref (ad 16), .int ((va_up V 8 (upd (V 8) 7 (nI (n + 1)))) 0 2), .ref (ad 1), .ref (ad 2), .int ((va_up V 8 (upd (V 8) 7 (nI (n + 1)))) 0 5), .ref (ad 31), .int ((va_up V 8 (upd (V 8) 7 (nI (n + 1)))) 0 7), .ref (ad 3), .ref (ad 55), .ref (ad 4), .int ((va_up V 8 (upd (V 8) 7 (nI (n + 1)))) 0 11)])), (ad 1, aI k 4 ((va_up V 8 (upd (V 8) 7 (nI (n + 1)))) 1)), (ad 2, aR (k 2) 3 (fun i => some (ad (5 + i)))), (ad 3, aR (k 3) 3 (fun i => some (ad (37 + 6 * i)))), (ad 4, aI k 24 ((va_up V 8 (upd (V 8) 7 (nI (n + 1)))) 4)), (ad 5, aI k 4 ((va_up V 8 (upd (V 8) 7 (nI (n + 1)))) 5)), (ad 6, aI k 4 ((va_up V 8 (upd (V 8) 7 (nI (n + 1)))) 6)), (ad 7, aI k 4 ((va_up V 8 (upd (V 8) 7 (nI (n + 1)))) 7)), (ad 16, .inr (2, [.int ((va_up V 8 (upd (V 8) 7 (nI (n + 1)))) 16 0), .ref (ad 17), .ref (ad 18), .ref (ad 19), .ref (ad 20), .ref (ad 21), .ref (ad 22), .ref (ad 23), .ref (ad 24), .ref (ad 25)])), (ad 17, aI k 24 ((va_up V 8 (upd (V 8) 7 (nI (n + 1)))) 17)), (ad 18, aI k 24 ((va_up V 8 (upd (V 8) 7 (nI (n + 1)))) 18)), (ad 19, aI k 24 ((va_up V 8 (upd (V 8) 7 (nI (n + 1)))) 19)), (ad 20, aR (k 2) 5 (fun i => some (ad (16 + (10 + i))))), (ad 21, aI k 24 ((va_up V 8 (upd (V 8) 7 (nI (n + 1)))) 21)), (ad 22, aI k 24 ((va_up V 8 (upd (V 8) 7 (nI (n + 1)))) 22)), (ad 23, aI k 24 ((va_up V 8 (upd (V 8) 7 (nI (n + 1)))) 23)), (ad 24, aI k 24 ((va_up V 8 (upd (V 8) 7 (nI (n + 1)))) 24)), (ad 25, aI k 24 ((va_up V 8 (upd (V 8) 7 (nI (n + 1)))) 25)), (ad 26, aI k 24 ((va_up V 8 (upd (V 8) 7 (nI (n + 1)))) 26)), (ad 27, aI k 24 ((va_up V 8 (upd (V 8) 7 (nI (n + 1)))) 27)), (ad 28, aI k 24 ((va_up V 8 (upd (V 8) 7 (nI (n + 1)))) 28)), (ad 29, aI k 24 ((va_up V 8 (upd (V 8) 7 (nI (n + 1)))) 29)), (ad 30, aI k 24 ((va_up V 8 (upd (V 8) 7 (nI (n + 1)))) 30)), (ad 31, .inr (0, [.ref (ad 32), .ref (ad 33), .ref (ad 34), .ref (ad 35), .ref (ad 36), .int ((va_up V 8 (upd (V 8) 7 (nI (n + 1)))) 31 5), .int ((va_up V 8 (upd (V 8) 7 (nI (n + 1)))) 31 6), .int ((va_up V 8 (upd (V 8) 7 (nI (n + 1)))) 31 7), .int ((va_up V 8 (upd (V 8) 7 (nI (n + 1)))) 31 8)])), (ad 32, aI k 8 ((va_up V 8 (upd (V 8) 7 (nI (n + 1)))) 32)), (ad 33, aI k 32 ((va_up V 8 (upd (V 8) 7 (nI (n + 1)))) 33)), (ad 34, aI k 4 ((va_up V 8 (upd (V 8) 7 (nI (n + 1)))) 34)), (ad 35, aI k 4 ((va_up V 8 (upd (V 8) 7 (nI (n + 1)))) 35)), (ad 36, aI k 100 ((va_up V 8 (upd (V 8) 7 (nI (n + 1)))) 36)), (ad 37, .inr (0, [.ref (ad 38), .ref (ad 39), .ref (ad 40), .ref (ad 41), .ref (ad 42), .int ((va_up V 8 (upd (V 8) 7 (nI (n + 1)))) 37 5), .int ((va_up V 8 (upd (V 8) 7 (nI (n + 1)))) 37 6), .int ((va_up V 8 (upd (V 8) 7 (nI (n + 1)))) 37 7), .int ((va_up V 8 (upd (V 8) 7 (nI (n + 1)))) 37 8)])), (ad 38, aI k 8 ((va_up V 8 (upd (V 8) 7 (nI (n + 1)))) 38)), (ad 39, aI k 32 ((va_up V 8 (upd (V 8) 7 (nI (n + 1)))) 39)), (ad 40, aI k 4 ((va_up V 8 (upd (V 8) 7 (nI (n + 1)))) 40)), (ad 41, aI k 4 ((va_up V 8 (upd (V 8) 7 (nI (n + 1)))) 41)), (ad 42, aI k 100 ((va_up V 8 (upd (V 8) 7 (nI (n + 1)))) 42)), (ad 43, .inr (0, [.ref (ad 44), .ref (ad 45), .ref (ad 46), .ref (ad 47), .ref (ad 48), .int ((va_up V 8 (upd (V 8) 7 (nI (n + 1)))) 43 5), .int ((va_up V 8 (upd (V 8) 7 (nI (n + 1)))) 43 6), .int ((va_up V 8 (upd (V 8) 7 (nI (n + 1)))) 43 7), .int ((va_up V 8 (upd (V 8) 7 (nI (n + 1)))) 43 8)])), (ad 44, aI k 8 ((va_up V 8 (upd (V 8) 7 (nI (n + 1)))) 44)), (ad 45, aI k 32 ((va_up V 8 (upd (V 8) 7 (nI (n + 1)))) 45)), (ad 46, aI k 4 ((va_up V 8 (upd (V 8) 7 (nI (n + 1)))) 46)), (ad 47, aI k 4 ((va_up V 8 (upd (V 8) 7 (nI (n + 1)))) 47)), (ad 48, aI k 100 ((va_up V 8 (upd (V 8) 7 (nI (n + 1)))) 48)), (ad 49, .inr (0, [.ref (ad 50), .ref (ad 51), .ref (ad 52), .ref (ad 53), .ref (ad 54), .int ((va_up V 8 (upd (V 8) 7 (nI (n + 1)))) 49 5), .int ((va_up V 8 (upd (V 8) 7 (nI (n + 1)))) 49 6), .int ((va_up V 8 (upd (V 8) 7 (nI (n + 1)))) 49 7), .int ((va_up V 8 (upd (V 8) 7 (nI (n + 1)))) 49 8)])), (ad 50, aI k 8 ((va_up V 8 (upd (V 8) 7 (nI (n + 1)))) 50)), (ad 51, aI k 32 ((va_up V 8 (upd (V 8) 7 (nI (n + 1)))) 51)), (ad 52, aI k 4 ((va_up V 8 (upd (V 8) 7 (nI (n + 1)))) 52)), (ad 53, aI k 4 ((va_up V 8 (upd (V 8) 7 (nI (n + 1)))) 53)), (ad 54, aI k 100 ((va_up V 8 (upd (V 8) 7 (nI (n + 1)))) 54)), (ad 55, .inr (0, [.ref (ad 56), .ref (ad 57), .ref (ad 58), .ref (ad 59), .ref (ad 60), .int ((va_up V 8 (upd (V 8) 7 (nI (n + 1)))) 55 5), .int ((va_up V 8 (upd (V 8) 7 (nI (n + 1)))) 55 6), .int ((va_up V 8 (upd (V 8) 7 (nI (n + 1)))) 55 7), .int ((va_up V 8 (upd (V 8) 7 (nI (n + 1)))) 55 8)])), (ad 56, aI k 8 ((va_up V 8 (upd (V 8) 7 (nI (n + 1)))) 56)), (ad 57, aI k 32 ((va_up V 8 (upd (V 8) 7 (nI (n + 1)))) 57)), (ad 58, aI k 4 ((va_up V 8 (upd (V 8) 7 (nI (n + 1)))) 58)), (ad 59, aI k 4 ((va_up V 8 (upd (V 8) 7 (nI (n + 1)))) 59)), (ad 60, aI k 100 ((va_up V 8 (upd (V 8) 7 (nI (n + 1)))) 60))]) (runV hx hb hg hown hml hl.1 ((c_X1_write l D k (sh 8 ad) (sh 8 (va_up V 8 (upd (V 8) 7 (nI (n + 1))))) (q := n) (by omega) (y0) (y1) (y2) (y3)) H.size) [.int (nI n), .int y0, .int y1, .int y2, .int y3] [] (preX (mapSome_sub hh.1 [8, 9, 10, 11, 12, 13, 14, 15] rfl) (hh.2.1.sub [8, 9, 10, 11, 12, 13, 14, 15] (by decide) rfl) hK hN xb0 x0) (va_recv hK hh.1 (ci := 1) (q0 := 8) rfl rfl) wd_244 wd_245 wd_246 wd_50 wd_247 lk_X1_write ⟨rfl, rfl⟩ ⟨by decide, by decide⟩ ⟨Nat.zero_le _, Nat.zero_le _⟩ rfl (Nat.le_of_ble_eq_true rfl) dX3_line_61) hA hh [8, 9, 10, 11, 12, 13, 14, 15] [0, 1, 2, 3, 4, 5, 6, 7, 16, 17, 18, 19, 20, 21, 22, 23, 24, 25, 26, 27, 28, 29, 30, 31, 32, 33, 34, 35, 36, 37, 38, 39, 40, 41, 42, 43, 44, 45, 46, 47, 48, 49, 50, 51, 52, 53, 54, 55, 56, 57, 58, 59, 60] [0, 1, 2, 3, 4, 5, 6, 7, 53, 54, 55, 56, 57, 58, 59, 60, 8, 9, 10, 11, 12, 13, 14, 15, 16, 17, 18, 19, 20, 21, 22, 23, 24, 25, 26, 27, 28, 29, 30, 31, 32, 33, 34, 35, 36, 37, 38, 39, 40, 41, 42, 43, 44, 45, 46, 47, 48, 49, 50, 51, 52] rfl rfl (by decide) (by decide) (by decide) (fun _ => rfl) (fun u9 H locs q_61 hh => ?_)
      have w9 := q_61
      refine lv_aload_n hx hb dX3_line_64 rfl (lv_at hl 1 rfl) ?_
      refine lv_iconst (v := 1) hx hb dX3_line_65 (by decide) ?_
      refine pfl hx hb hg inX3 tyX3 tyX3_ok nmX3 hown hK hh 0 (ci := 3) rfl rfl 2 (by decide) wd_193 rfl rfl rfl (Nat.le_of_ble_eq_true rfl) dX3_line_66 (wS k ad (va_up (put 8 8 (va_up V 8 (upd (V 8) 7 (nI (n + 1)))) u9) 0 (upd ((put 8 8 (va_up V 8 (upd (V 8) 7 (nI (n + 1)))) u9) 0) 2 1))) rfl (fun H locs hh => ?_)
      refine lv_iload hx hb dX3_line_69 (lv_at hl 0 rfl) ?_
      exact retI (Wd := wS k ad) (v := nI n) (va_up (put 8 8 (va_up V 8 (upd (V 8) 7 (nI (n + 1)))) u9) 0 (upd ((put 8 8 (va_up V 8 (upd (V 8) 7 (nI (n + 1)))) u9) 0) 2 1)) hx hb hr hlocks dX3_line_71 hh (Or.inr (Or.inr ⟨hbA.mp c_8, by omega, rfl, ⟨fun i a b => by rw [up_n a]; by_cases h : 8 ≤ i ∧ i < 16; (obtain ⟨i9, rfl⟩ : ∃ i9, i = 8 + i9 := ⟨i - 8, (by omega)⟩; rw [put_in (by omega), w9, up_n (by omega), up_n (by omega), up_n (by omega), up_n (by omega)]; show (va_up V 8 (upd (V 8) 7 (nI (n + 1)))) (8 + i9) = _; rw [up_n (by omega)]); (rw [put_out (by omega)]; rw [up_n (by omega)]), fun j a => by rw [up_s, upd_n a, put_out (by omega)]; rfl, by rw [up_s, upd_s], by show put 8 8 (va_up V 8 (upd (V 8) 7 (nI (n + 1)))) u9 (8 + 0) 7 = _; rw [put_in (by decide), w9]; exact rfl, by show put 8 8 (va_up V 8 (upd (V 8) 7 (nI (n + 1)))) u9 (8 + 1) = _; rw [put_in (by decide), w9]; rfl, by show put 8 8 (va_up V 8 (upd (V 8) 7 (nI (n + 1)))) u9 (8 + 2) = _; rw [put_in (by decide), w9]; rfl, by show put 8 8 (va_up V 8 (upd (V 8) 7 (nI (n + 1)))) u9 (8 + 3) = _; rw [put_in (by decide), w9]; rfl, by show put 8 8 (va_up V 8 (upd (V 8) 7 (nI (n + 1)))) u9 (8 + 4) = _; rw [put_in (by decide), w9]; rfl⟩⟩))
    · have c_22 : ¬ n < 24 := fun z => c_22 ((nI_ltI (a := n) (b := 24) (by omega) (by omega)).mpr z)
      refine lv_bipush (v := (-2)) hx hb dX3_line_25 (by decide) ?_
      exact retI (Wd := wS k ad) (v := (-2)) (V) hx hb hr hlocks dX3_line_27 hh (Or.inr (Or.inl ⟨hbA.mp c_8, by omega, rfl, rfl⟩))
  · have c_8 := zI_0.mp c_8
    refine lv_iconst (v := (-1)) hx hb dX3_line_11 (by decide) ?_
    exact retI (Wd := wS k ad) (v := (-1)) (V) hx hb hr hlocks dX3_line_12 hh (Or.inl ⟨fun z => (by rw [hbA.mpr z] at c_8; cases c_8), rfl, rfl⟩)
abbrev rmX3_change : Room := { frames := 2, cells := 0, slots := 0, locals := 44 }
theorem lk_X3_change : Lk yX3_change 5 := by decide +kernel
set_option maxHeartbeats 4000000 in
set_option maxRecDepth 100000 in
/-- change(p, kind, a, b, c) -/
theorem c_X3_change (l : Launch) (D : va_G) (k : Nat → ClassId) (ad : Nat → Nat) (V : St) {n : Nat} (hv : okV n (pj V)) (y y0 y1 y2 y3 : Int32) : CtX staX l yX3_change cX3_change 7 (some .int) rmX3_change D (tyL k) (wS k ad V) [.ref (ad 0), .int y, .int y0, .int y1, .int y2, .int y3] (qI D (wS k ad) (fun r U => (¬ (rgt y n ∧ alR y0 y1 y2 y3) ∧ r = -1 ∧ U = V) ∨ (∃ q, q < n ∧ y = nI q ∧ alR y0 y1 y2 y3 ∧ r = V 9 q ∧ wrS q n V U y0 y1 y2 y3))) := by
  refine CtX.mk (by decide) (Nat.le_of_ble_eq_true rfl) ?_
  intro p e s m below meth c hx hb hml hown hg hr hlocks hK hN A hA hX hh ls hl
  have hh : Hd D A (wS k ad V) s.heap s.heap [] := hh
  have hl : lv_has ls 7 [(0, .ref (ad 0)), (1, .int y), (2, .int y0), (3, .int y1), (4, .int y2), (5, .int y3)] := hl
  have hn24 := hv.1
  refine lv_aload_n hx hb dX3_change_0 rfl (lv_at hl 0 rfl) ?_
  refine gfl hx hb hg inX3 hown hK hh.1 0 (ci := 3) rfl rfl 0 (by decide) wd_191 rfl dX3_change_1 ?_
  refine lv_iload_n hx hb dX3_change_4 rfl (lv_at hl 1 rfl) ?_
  refine callR (runV hx hb hg hown hml hl.1 (c_X1_has l D k (sh 8 ad) (pj V) y) [.int y] [] (preR (mapSome_sub hh.1 [8, 9, 10, 11, 12, 13, 14, 15] rfl) hK hN xb0 x0) (va_recv hK hh.1 (ci := 1) (q0 := 8) rfl rfl) wd_252 wd_253 wd_254 wd_50 wd_255 lk_X1_has ⟨rfl, rfl⟩ ⟨by decide, by decide⟩ ⟨Nat.zero_le _, Nat.zero_le _⟩ rfl (Nat.le_of_ble_eq_true rfl) dX3_change_5) (fun r_5 q_5 => ?_)
  obtain rfl := q_5
  refine lv_if_eq (tgt := 23) hx hb dX3_change_8 (by decide) (fun c_8 => ?_) (fun c_8 => ?_)
  · have c_8 := has_no hv c_8
    refine lv_iconst (v := (-1)) hx hb dX3_change_23 (by decide) ?_
    exact retI (Wd := wS k ad) (v := (-1)) (V) hx hb hr hlocks dX3_change_24 hh (Or.inl ⟨fun z => c_8 z.1, rfl, rfl⟩)
  · obtain ⟨q, hq, hxe⟩ := has_yes hv c_8
    refine lv_iload_n hx hb dX3_change_11 rfl (lv_at hl 2 rfl) ?_
    refine lv_iload_n hx hb dX3_change_12 rfl (lv_at hl 3 rfl) ?_
    refine lv_iload hx hb dX3_change_13 (lv_at hl 4 rfl) ?_
    refine lv_iload hx hb dX3_change_15 (lv_at hl 5 rfl) ?_
    refine callR (runS hx hb hg hown hml hl.1 (c_X1_allows l D k y0 y1 y2 y3) [.int y0, .int y1, .int y2, .int y3] [] (preR (mapSome_sub hh.1 [] rfl) hK hN staX_b (staX_at hX)) wd_232 wd_233 wd_50 wd_234 lk_X1_allows ⟨rfl, rfl⟩ ⟨by decide, by decide⟩ ⟨Nat.zero_le _, Nat.zero_le _⟩ rfl (Nat.le_of_ble_eq_true rfl) dX3_change_17) (fun r_17 q_17 => ?_)
    obtain ⟨bA, rfl, hbA⟩ := q_17
    refine lv_if_ne (tgt := 25) hx hb dX3_change_20 (by decide) (fun c_20 => ?_) (fun c_20 => ?_)
    · have c_20 := zI_ne c_20
      refine lv_aload_n hx hb dX3_change_25 rfl (lv_at hl 0 rfl) ?_
      refine gfl hx hb hg inX3 hown hK hh.1 0 (ci := 3) rfl rfl 0 (by decide) wd_191 rfl dX3_change_26 ?_
      refine gflN hx hb hg hN inX1 hown hK hh.1 8 (ci := 1) rfl rfl 0 (by decide) 71 nst_71 rfl dX3_change_29 ?_
      refine lv_iload_n hx hb dX3_change_32 rfl (lv_at hl 1 rfl) ?_
      refine topv (nI q) hxe ?_
      refine ldn hx hb hK hh.1 9 0 rfl rfl (by omega) (by decide) dX3_change_33 ?_
      refine lv_istore (lv' := [(6, .int ((V 9) q)), (0, .ref (ad 0)), (1, .int y), (2, .int y0), (3, .int y1), (4, .int y2), (5, .int y3)]) hx hb dX3_change_34 hl (by decide) rfl (fun ls hl => ?_)
      refine lv_aload_n hx hb dX3_change_36 rfl (lv_at hl 1 rfl) ?_
      refine gfl hx hb hg inX3 hown hK hh.1 0 (ci := 3) rfl rfl 0 (by decide) wd_191 rfl dX3_change_37 ?_
      refine lv_iload_n hx hb dX3_change_40 rfl (lv_at hl 2 rfl) ?_
      refine topv (nI q) hxe ?_
      refine lv_iload_n hx hb dX3_change_41 rfl (lv_at hl 3 rfl) ?_
      refine lv_iload_n hx hb dX3_change_42 rfl (lv_at hl 4 rfl) ?_
      refine lv_iload hx hb dX3_change_43 (lv_at hl 5 rfl) ?_
      refine lv_iload hx hb dX3_change_45 (lv_at hl 6 rfl) ?_
      refine callWV (D := D) (wn := fun u9 => wS k ad (put 8 8 (V) u9)) (wr := [(ad 0, .inr (3, [.ref (ad 8), .ref (ad 16), .int (V 0 2), .ref (ad 1), .ref (ad 2), .int (V 0 5), .ref (ad 31), .int (V 0 7), .ref (ad 3), .ref (ad 55), .ref (ad 4), .int (V 0 11)])), (ad 1, aI k 4 (V 1)), (ad 2, aR (k 2) 3 (fun i => some (ad (5 + i)))), (ad 3, aR (k 3) 3 (fun i => some (ad (37 + 6 * i)))), (ad 4, aI k 24 (V 4)), (ad 5, aI k 4 (V 5)), (ad 6, aI k 4 (V 6)), (ad 7, aI k 4 (V 7)), (ad 16, .inr (2, [.int (V 16 0), .ref (ad 17), .ref (ad 18), .ref (ad 19), .ref (ad 20), .ref (ad 21), .ref (ad 22), .ref (ad 23), .ref (ad 24), .ref (ad 25)])), (ad 17, aI k 24 (V 17)), (ad 18, aI k 24 (V 18)), (ad 19, aI k 24 (V 19)), (ad 20, aR (k 2) 5 (fun i => some (ad (16 + (10 + i))))), (ad 21, aI k 24 (V 21)), (ad 22, aI k 24 (V 22)), (ad 23, aI k 24 (V 23)), (ad 24, aI k 24 (V 24)), (ad 25, aI k 24 (V 25)), (ad 26, aI k 24 (V 26)), (ad 27, aI k 24 (V 27)), (ad 28, aI k 24 (V 28)), (ad 29, aI k 24 (V 29)), (ad 30, aI k 24 (V 30)), (ad 31, .inr (0, [.ref (ad 32), .ref (ad 33), .ref (ad 34), .ref (ad 35), .ref (ad 36), .int (V 31 5), .int (V 31 6), .int (V 31 7), .int (V 31 8)])), (ad 32, aI k 8 (V 32)), (ad 33, aI k 32 (V 33)), (ad 34, aI k 4 (V 34)), (ad 35, aI k 4 (V 35)), (ad 36, aI k 100 (V 36)), (ad 37, .inr (0, [.ref (ad 38), .ref (ad 39), .ref (ad 40), .ref (ad 41), .ref (ad 42), .int (V 37 5), .int (V 37 6), .int (V 37 7), .int (V 37 8)])), (ad 38, aI k 8 (V 38)), (ad 39, aI k 32 (V 39)), (ad 40, aI k 4 (V 40)), (ad 41, aI k 4 (V 41)), (ad 42, aI k 100 (V 42)), (ad 43, .inr (0, [.ref (ad 44), .ref (ad 45), .ref (ad 46), .ref (ad 47), .ref (ad 48), .int (V 43 5), .int (V 43 6), .int (V 43 7), .int (V 43 8)])), (ad 44, aI k 8 (V 44)), (ad 45, aI k 32 (V 45)), (ad 46, aI k 4 (V 46)), (ad 47, aI k 4 (V 47)), (ad 48, aI k 100 (V 48)), (ad 49, .inr (0, [.ref (ad 50), .ref (ad 51), .ref (ad 52), .ref (ad 53), .ref (ad 54), .int (V 49 5), .int (V 49 6), .int (V 49 7), .int (V 49 8)])), (ad 50, aI k 8 (V 50)), (ad 51, aI k 32 (V 51)), (ad 52, aI k 4 (V 52)), (ad 53, aI k 4 (V 53)), (ad 54, aI k 100 (V 54)), (ad 55, .inr (0, [.ref (ad 56), .ref (ad 57), .ref (ad 58), .ref (ad 59), .ref (ad 60), .int (V 55 5), .int (V 55 6), .int (V 55 7), .int (V 55 8)])), (ad 56, aI k 8 (V 56)), (ad 57, aI k 32 (V 57)), (ad 58, aI k 4 (V 58)), (ad 59, aI k 4 (V 59)), (ad 60, aI k 100 (V 60))]) (runV hx hb hg hown hml hl.1 ((c_X1_write l D k (sh 8 ad) (sh 8 (V)) (q := q) (by omega) (y0) (y1) (y2) (y3)) s.heap.size) [.int (nI q), .int y0, .int y1, .int y2, .int y3] [] (preX (mapSome_sub hh.1 [8, 9, 10, 11, 12, 13, 14, 15] rfl) (hh.2.1.sub [8, 9, 10, 11, 12, 13, 14, 15] (by decide) rfl) hK hN xb0 x0) (va_recv hK hh.1 (ci := 1) (q0 := 8) rfl rfl) wd_244 wd_245 wd_246 wd_50 wd_247 lk_X1_write ⟨rfl, rfl⟩ ⟨by decide, by decide⟩ ⟨Nat.zero_le _, Nat.zero_le _⟩ rfl (Nat.le_of_ble_eq_true rfl) dX3_change_47) hA hh [8, 9, 10, 11, 12, 13, 14, 15] [0, 1, 2, 3, 4, 5, 6, 7, 16, 17, 18, 19, 20, 21, 22, 23, 24, 25, 26, 27, 28, 29, 30, 31, 32, 33, 34, 35, 36, 37, 38, 39, 40, 41, 42, 43, 44, 45, 46, 47, 48, 49, 50, 51, 52, 53, 54, 55, 56, 57, 58, 59, 60] [0, 1, 2, 3, 4, 5, 6, 7, 53, 54, 55, 56, 57, 58, 59, 60, 8, 9, 10, 11, 12, 13, 14, 15, 16, 17, 18, 19, 20, 21, 22, 23, 24, 25, 26, 27, 28, 29, 30, 31, 32, 33, 34, 35, 36, 37, 38, 39, 40, 41, 42, 43, 44, 45, 46, 47, 48, 49, 50, 51, 52] rfl rfl (by decide) (by decide) (by decide) (fun _ => rfl) (fun u9 H locs q_47 hh => ?_)
      have w9 := q_47
      refine lv_aload_n hx hb dX3_change_50 rfl (lv_at hl 1 rfl) ?_
      refine lv_iconst (v := 1) hx hb dX3_change_51 (by decide) ?_
      refine pfl hx hb hg inX3 tyX3 tyX3_ok nmX3 hown hK hh 0 (ci := 3) rfl rfl 2 (by decide) wd_193 rfl rfl rfl (Nat.le_of_ble_eq_true rfl) dX3_change_52 (wS k ad (va_up (put 8 8 (V) u9) 0 (upd ((put 8 8 (V) u9) 0) 2 1))) rfl (fun H locs hh => ?_)
      refine lv_iload hx hb dX3_change_55 (lv_at hl 0 rfl) ?_
      exact retI (Wd := wS k ad) (v := (V 9) q) (va_up (put 8 8 (V) u9) 0 (upd ((put 8 8 (V) u9) 0) 2 1)) hx hb hr hlocks dX3_change_57 hh (Or.inr ⟨q, hq, hxe, hbA.mp c_20, rfl, ⟨fun i a b => by rw [up_n a]; by_cases h : 8 ≤ i ∧ i < 16; (obtain ⟨i9, rfl⟩ : ∃ i9, i = 8 + i9 := ⟨i - 8, (by omega)⟩; rw [put_in (by omega), w9, up_n (by omega), up_n (by omega), up_n (by omega), up_n (by omega)]); (rw [put_out (by omega)]), fun j a => by rw [up_s, upd_n a, put_out (by omega)], by rw [up_s, upd_s], by show put 8 8 (V) u9 (8 + 0) 7 = _; rw [put_in (by decide), w9]; exact hv.2.1, by show put 8 8 (V) u9 (8 + 1) = _; rw [put_in (by decide), w9]; rfl, by show put 8 8 (V) u9 (8 + 2) = _; rw [put_in (by decide), w9]; rfl, by show put 8 8 (V) u9 (8 + 3) = _; rw [put_in (by decide), w9]; rfl, by show put 8 8 (V) u9 (8 + 4) = _; rw [put_in (by decide), w9]; rfl⟩⟩)
    · have c_20 := zI_0.mp c_20
      refine lv_iconst (v := (-1)) hx hb dX3_change_23 (by decide) ?_
      exact retI (Wd := wS k ad) (v := (-1)) (V) hx hb hr hlocks dX3_change_24 hh (Or.inl ⟨fun z => (by rw [hbA.mpr z.2] at c_20; cases c_20), rfl, rfl⟩)
