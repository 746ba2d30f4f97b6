/-! the reference: agrees, least -/
theorem ag_of {P : St} {Is : Nat → Nat → Int32} {t : Nat} {x : Int32} {w n : Nat} {b : Bool} (h : b = true ↔ ∀ j, j < t → ¬ hwF P (Is j) x w n = 2 ∧ lkB P (Is j) x (-1) w n = true) : b = agB P Is t x w n := by
  unfold agB
  cases hb : b with
  | true => exact (decide_eq_true (h.mp hb)).symm
  | false => exact (decide_eq_false (fun z => by rw [h.mpr z] at hb; cases hb)).symm
theorem ns_iff {P : St} {Is : Nat → Nat → Int32} {t w n : Nat} : nsB P Is t w n = true ↔ ∀ j, j < t → ¬ hwF P (Is j) (-1) w n = 2 := by unfold nsB; exact decide_eq_true_iff
theorem cnt_clr {x : Int32} {i : Nat} (hi : i < 32) (h : bt x i = true) : cnt (clr x i) < cnt x := cntN_lt 32 (fun j _ hb => by rw [b_clr hi] at hb; cases hx : bt x j with | true => rfl | false => (rw [hx] at hb; cases hb)) ⟨i, hi, h, by rw [b_clr hi]; simp⟩
theorem m1_neg {i : Nat} (h : (nI i) - 1 < 0) (hi : i ≤ 24) : i = 0 := by
  rcases Nat.eq_zero_or_pos i with z | z
  · exact z
  · have e9 : (nI i) - 1 = nI (i - 1) := pk_sub (a := i) (b := 1) (by omega)
    rw [e9] at h
    exact absurd h (i_nlt.mpr (nI_pos' (by omega)))
abbrev rmX4_agrees : Room := { frames := 5, cells := 0, slots := 0, locals := 126 }
theorem lk_X4_agrees : Lk yX4_agrees 2 := by decide +kernel
set_option maxHeartbeats 4000000 in
set_option maxRecDepth 100000 in
/-- agrees(set, p) -/
theorem c_X4_agrees (l : Launch) (D : va_G) (k : Nat → ClassId) (ad : Nat → Nat) (V : St) {n : Nat} (hv : okV n (pq V)) {t : Nat} (h9 : V 0 9 = nI t) (ht : t ≤ 3) (x : Int32) (w : Nat) (hw : w < 24) : CtX noX l yX4_agrees cX4_agrees 6 (some .boolean) rmX4_agrees D (tyL k) (wQ k ad V) [.ref (ad 0), .int x, .int (nI w)] (qI D (wQ k ad) (fun r U => r = zI (agB (pq V) (fun i j => V 9 (4 * i + j)) t x w n) ∧ FrW V U)) := by
  refine CtX.mk (by decide) (Nat.le_of_ble_eq_true rfl) ?_
  intro p e s m below meth c hx hb hml hown hg hr hlocks hK hN A hA hX hh ls hl
  have hh : Hd D A (wQ k ad V) s.heap s.heap [] := hh
  have hl : lv_has ls 6 [(0, .ref (ad 0)), (1, .int x), (2, .int (nI w))] := hl
  have h00 : V 0 0 = nI n := hv.2.1
  have hn24 := hv.1
  refine lv_iconst (v := 1) hx hb dX4_agrees_0 (by decide) ?_
  refine lv_istore_n (lv' := [(3, .int 1), (0, .ref (ad 0)), (1, .int x), (2, .int (nI w))]) hx hb dX4_agrees_1 rfl hl (by decide) rfl (fun ls hl => ?_)
  refine lv_iconst (v := 0) hx hb dX4_agrees_2 (by decide) ?_
  refine lv_istore (lv' := [(4, .int 0), (3, .int 1), (0, .ref (ad 0)), (1, .int x), (2, .int (nI w))]) hx hb dX4_agrees_3 hl (by decide) rfl (fun ls hl => ?_)
  refine loopW (σ := Nat × Bool × St) (fun zz9 H locs ls => match zz9 with | (i, b, U) => Hd D A (wQ k ad U) s.heap H locs ∧ lv_has ls 6 [(0, .ref (ad 0)), (1, .int x), (2, .int (nI w)), (3, .int (zI b)), (4, .int (nI i))] ∧ (i ≤ t) ∧ (FrW V U) ∧ (b = true ↔ ∀ j, j < i → ¬ hwF (pq V) (fun k => V 9 (4 * j + k)) x w n = 2 ∧ lkB (pq V) (fun k => V 9 (4 * j + k)) x (-1) w n = true)) (fun zz9 => match zz9 with | (i, b, U) => t - i) ?_ (0, true, V) ⟨hh, (lv_sub hl [2, 3, 4, 1, 0] rfl), (by omega), FrX.rf, ⟨fun _ j hj => absurd hj (Nat.not_lt_zero _), fun _ => rfl⟩⟩
  intro zz9 H locs ls hI ih
  obtain ⟨i, b, U⟩ := zz9
  obtain ⟨hh, hl, hi, fw, hb2⟩ := hI
  have pU : pq U = pq V := fw.wpq
  have hvU : okV n (pq U) := by rw [pU]; exact hv
  have eU9 : U 9 = V 9 := fw.1 9 (by decide)
  refine lv_iload hx hb dX4_agrees_5 (lv_at hl 4 rfl) ?_
  refine lv_aload_n hx hb dX4_agrees_7 rfl (lv_at hl 0 rfl) ?_
  refine gfl hx hb hg inX4 hown hK hh.1 0 (ci := 4) rfl rfl 9 (by decide) wd_560 rfl dX4_agrees_8 ?_
  refine topv (nI t) ((fw.2 9 (by decide)).trans h9) ?_
  refine lv_icmp_ge (tgt := 73) hx hb dX4_agrees_11 (by decide) (fun c_11 => ?_) (fun c_11 => ?_)
  · have c_11 : t ≤ i := (nI_leI (a := t) (b := i) (by omega) (by omega)).mp c_11
    refine lv_iload_n hx hb dX4_agrees_73 rfl (lv_at hl 3 rfl) ?_
    exact retZ (Wd := wQ k ad) (v := zI b) (U) hx hb hr hlocks (zI_nar _) dX4_agrees_74 hh (⟨congrArg zI (ag_of (hb2.trans ⟨fun z j hj => z j (by omega), fun z j hj => z j (by omega)⟩)), fw⟩)
  · have c_11 : ¬ t ≤ i := fun z => c_11 ((nI_leI (a := t) (b := i) (by omega) (by omega)).mpr z)
    refine lv_iload_n hx hb dX4_agrees_14 rfl (lv_at hl 3 rfl) ?_
    refine lv_if_eq (tgt := 73) hx hb dX4_agrees_15 (by decide) (fun c_15 => ?_) (fun c_15 => ?_)
    · refine lv_iload_n hx hb dX4_agrees_73 rfl (lv_at hl 3 rfl) ?_
      exact retZ (Wd := wQ k ad) (v := zI b) (U) hx hb hr hlocks (zI_nar _) dX4_agrees_74 hh (⟨congrArg zI (ag_of (hb2.trans ⟨fun z => absurd (hb2.mpr z) (by rw [zI_0.mp c_15]; decide), fun z j hj => z j (by omega)⟩)), fw⟩)
    · refine lv_aload_n hx hb dX4_agrees_18 rfl (lv_at hl 0 rfl) ?_
      refine lv_iload_n hx hb dX4_agrees_19 rfl (lv_at hl 2 rfl) ?_
      refine lv_aload_n hx hb dX4_agrees_20 rfl (lv_at hl 0 rfl) ?_
      refine gfl hx hb hg inX4 hown hK hh.1 0 (ci := 4) rfl rfl 10 (by decide) wd_561 rfl dX4_agrees_21 ?_
      refine lv_iconst (v := 4) hx hb dX4_agrees_24 (by decide) ?_
      refine lv_iload hx hb dX4_agrees_25 (lv_at hl 4 rfl) ?_
      refine lv_imul hx hb dX4_agrees_27 ?_
      refine topv (nI (4 * i)) (pk_mul 4 i) ?_
      refine callWI (D := D) (wn := fun U2 => wQ k ad U2) (wr := []) (runV hx hb hg hown hml hl.1 ((c_X4_whole_9 l D k ad U hvU (t := i) (by omega) w hw) H.size) [.int (nI w), .ref (ad 9), .int (nI (4 * i))] [] (preX (mapSome_sub hh.1 [0, 1, 2, 3, 4, 5, 6, 7, 8, 9, 10, 11, 12, 13, 14, 15, 16, 17, 18, 19, 20, 21, 22] rfl) (hh.2.1.sub [0, 1, 2, 3, 4, 5, 6, 7, 8, 9, 10, 11, 12, 13, 14, 15, 16, 17, 18, 19, 20, 21, 22] (by decide) rfl) hK hN xb0 x0) (va_recv hK hh.1 (ci := 4) (q0 := 0) rfl rfl) wd_836 wd_838 wd_45 wd_53 wd_839 lk_X4_whole ⟨rfl, rfl⟩ ⟨by decide, by decide⟩ ⟨Nat.zero_le _, Nat.zero_le _⟩ rfl (Nat.le_of_ble_eq_true rfl) dX4_agrees_28) hA hh [0, 1, 2, 3, 4, 5, 6, 7, 8, 9, 10, 11, 12, 13, 14, 15, 16, 17, 18, 19, 20, 21, 22] [] [0, 1, 2, 3, 4, 5, 6, 7, 8, 9, 10, 11, 12, 13, 14, 15, 16, 17, 18, 19, 20, 21, 22] rfl rfl (by decide) (by decide) (by decide) (fun _ => rfl) (fun r_28 U2 H locs q_28 hh => ?_)
      obtain ⟨_, e2, e3, f2⟩ := q_28
      rw [pU, eU9] at e2 e3
      have fw2 : FrW V U2 := fw.trans f2
      have pU2 : pq U2 = pq V := fw2.wpq
      have hvU2 : okV n (pq U2) := by rw [pU2]; exact hv
      have eU29 : U2 9 = V 9 := fw2.1 9 (by decide)
      refine lv_pop hx hb dX4_agrees_31 rfl ?_
      refine lv_aload_n hx hb dX4_agrees_32 rfl (lv_at hl 0 rfl) ?_
      refine lv_iload_n hx hb dX4_agrees_33 rfl (lv_at hl 1 rfl) ?_
      refine lv_iload_n hx hb dX4_agrees_34 rfl (lv_at hl 2 rfl) ?_
      refine lv_aload_n hx hb dX4_agrees_35 rfl (lv_at hl 0 rfl) ?_
      refine gfl hx hb hg inX4 hown hK hh.1 0 (ci := 4) rfl rfl 10 (by decide) wd_561 rfl dX4_agrees_36 ?_
      refine lv_iconst (v := 4) hx hb dX4_agrees_39 (by decide) ?_
      refine lv_iload hx hb dX4_agrees_40 (lv_at hl 4 rfl) ?_
      refine lv_imul hx hb dX4_agrees_42 ?_
      refine topv (nI (4 * i)) (pk_mul 4 i) ?_
      refine callWI (D := D) (wn := fun U3 => wQ k ad U3) (wr := []) (runV hx hb hg hown hml hl.1 ((c_X4_go_9 l D k ad U2 hvU2 (t := i) (by omega) x w hw) H.size) [.int x, .int (nI w), .ref (ad 9), .int (nI (4 * i))] [] (preX (mapSome_sub hh.1 [0, 1, 2, 3, 4, 5, 6, 7, 8, 9, 10, 11, 12, 13, 14, 15, 16, 17, 18, 19, 20, 21, 22] rfl) (hh.2.1.sub [0, 1, 2, 3, 4, 5, 6, 7, 8, 9, 10, 11, 12, 13, 14, 15, 16, 17, 18, 19, 20, 21, 22] (by decide) rfl) hK hN xb0 x0) (va_recv hK hh.1 (ci := 4) (q0 := 0) rfl rfl) wd_801 wd_803 wd_42 wd_53 wd_804 lk_X4_go ⟨rfl, rfl⟩ ⟨by decide, by decide⟩ ⟨Nat.zero_le _, Nat.zero_le _⟩ rfl (Nat.le_of_ble_eq_true rfl) dX4_agrees_43) hA hh [0, 1, 2, 3, 4, 5, 6, 7, 8, 9, 10, 11, 12, 13, 14, 15, 16, 17, 18, 19, 20, 21, 22] [] [0, 1, 2, 3, 4, 5, 6, 7, 8, 9, 10, 11, 12, 13, 14, 15, 16, 17, 18, 19, 20, 21, 22] rfl rfl (by decide) (by decide) (by decide) (fun _ => rfl) (fun r_43 U3 H locs q_43 hh => ?_)
      obtain ⟨hpf, g1⟩ := q_43
      rw [pU2, eU29] at hpf
      obtain ⟨d1, d2, d3, d4⟩ := pf_F hv hpf
      rw [d1]
      have hw2 := hw_le (P := pq V) (I := (fun k => V 9 (4 * i + k))) (x := x) (w := w) (n := n)
      have fw3 : FrW V U3 := fw2.trans g1.w
      have h30 : U3 0 30 = nI (tcF (pq V) (fun k => V 9 (4 * i + k)) x w n) := d2
      have h33 : U3 0 33 = nI (tcF (pq V) (fun k => V 9 (4 * i + k)) (-1) w n) := (g1.2 33 (by decide) (by decide)).trans e2
      have h22 : U3 22 = U2 22 := g1.1 22 (by decide)
      refine lv_istore (lv' := [(5, .int (nI (hwF (pq V) (fun k => V 9 (4 * i + k)) x w n))), (0, .ref (ad 0)), (1, .int x), (2, .int (nI w)), (3, .int (zI b)), (4, .int (nI i))]) hx hb dX4_agrees_46 hl (by decide) rfl (fun ls hl => ?_)
      refine lv_iload hx hb dX4_agrees_48 (lv_at hl 0 rfl) ?_
      refine lv_iconst (v := 2) hx hb dX4_agrees_50 (by decide) ?_
      refine lv_icmp_eq (tgt := 65) hx hb dX4_agrees_51 (by decide) (fun c_51 => ?_) (fun c_51 => ?_)
      · have c_51 : hwF (pq V) (fun k => V 9 (4 * i + k)) x w n = 2 := (nI_eq (a := hwF (pq V) (fun k => V 9 (4 * i + k)) x w n) (b := 2) (by omega) (by omega)).mp c_51
        refine lv_iconst (v := 0) hx hb dX4_agrees_65 (by decide) ?_
        refine lv_istore_n (lv' := [(3, .int 0), (5, .int (nI (hwF (pq V) (fun k => V 9 (4 * i + k)) x w n))), (0, .ref (ad 0)), (1, .int x), (2, .int (nI w)), (4, .int (nI i))]) hx hb dX4_agrees_66 rfl hl (by decide) rfl (fun ls hl => ?_)
        refine lv_iinc (v := nI (i + 1)) (lv' := [(4, .int (nI (i + 1))), (3, .int 0), (5, .int (nI (hwF (pq V) (fun k => V 9 (4 * i + k)) x w n))), (0, .ref (ad 0)), (1, .int x), (2, .int (nI w))]) hx hb dX4_agrees_67 hl (k := 5) rfl (nI_succ i).symm (by decide) rfl (fun ls hl => ?_)
        refine lv_goto (tgt := 5) hx hb dX4_agrees_70 (by decide) ?_
        exact ih (i + 1, false, U3) _ _ _ ⟨hh, (lv_sub hl [3, 4, 5, 1, 0] rfl), (by omega), fw3, ⟨fun z => (by cases z), fun z => absurd c_51 (z i (by omega)).1⟩⟩ (by dsimp only; omega)
      · have c_51 : ¬ hwF (pq V) (fun k => V 9 (4 * i + k)) x w n = 2 := fun z => c_51 ((nI_eq (a := hwF (pq V) (fun k => V 9 (4 * i + k)) x w n) (b := 2) (by omega) (by omega)).mpr z)
        refine lv_aload_n hx hb dX4_agrees_54 rfl (lv_at hl 1 rfl) ?_
        refine callR (runV hx hb hg hown hml hl.1 (c_X4_isSame l D k ad U3 h30 h33 d3 tc_le) [] [] (preR (mapSome_sub hh.1 [0, 1, 2, 3, 4, 5, 6, 7, 8, 9, 10, 11, 12, 13, 14, 15, 16, 17, 18, 19, 20, 21, 22] rfl) hK hN xb0 x0) (va_recv hK hh.1 (ci := 4) (q0 := 0) rfl rfl) wd_840 wd_842 wd_46 wd_53 wd_843 lk_X4_isSame ⟨rfl, rfl⟩ ⟨by decide, by decide⟩ ⟨Nat.zero_le _, Nat.zero_le _⟩ rfl (Nat.le_of_ble_eq_true rfl) dX4_agrees_55) (fun r_55 q_55 => ?_)
        obtain ⟨b9, rfl, hb9⟩ := q_55
        have hb9 : b9 = lkB (pq V) (fun k => V 9 (4 * i + k)) x (-1) w n := lk_of (hb9.trans ⟨fun z => ⟨z.1, fun j hj => by have h9 : U3 21 j = tdF (pq V) (fun k => V 9 (4 * i + k)) x w n j := d4 j hj; rw [← h9, ← e3 j (by omega), ← h22]; exact z.2 j hj⟩, fun z => ⟨z.1, fun j hj => by have h9 : U3 21 j = tdF (pq V) (fun k => V 9 (4 * i + k)) x w n j := d4 j hj; rw [h9, h22, e3 j (by omega)]; exact z.2 j hj⟩⟩)
        refine lv_if_eq (tgt := 65) hx hb dX4_agrees_58 (by decide) (fun c_58 => ?_) (fun c_58 => ?_)
        · have c_58 := zI_0.mp c_58
          refine lv_iconst (v := 0) hx hb dX4_agrees_65 (by decide) ?_
          refine lv_istore_n (lv' := [(3, .int 0), (5, .int (nI (hwF (pq V) (fun k => V 9 (4 * i + k)) x w n))), (0, .ref (ad 0)), (1, .int x), (2, .int (nI w)), (4, .int (nI i))]) hx hb dX4_agrees_66 rfl hl (by decide) rfl (fun ls hl => ?_)
          refine lv_iinc (v := nI (i + 1)) (lv' := [(4, .int (nI (i + 1))), (3, .int 0), (5, .int (nI (hwF (pq V) (fun k => V 9 (4 * i + k)) x w n))), (0, .ref (ad 0)), (1, .int x), (2, .int (nI w))]) hx hb dX4_agrees_67 hl (k := 5) rfl (nI_succ i).symm (by decide) rfl (fun ls hl => ?_)
          refine lv_goto (tgt := 5) hx hb dX4_agrees_70 (by decide) ?_
          exact ih (i + 1, false, U3) _ _ _ ⟨hh, (lv_sub hl [3, 4, 5, 1, 0] rfl), (by omega), fw3, ⟨fun z => (by cases z), fun z => absurd (z i (by omega)).2 (by rw [← hb9, c_58]; decide)⟩⟩ (by dsimp only; omega)
        · have c_58 := zI_ne c_58
          refine lv_iconst (v := 1) hx hb dX4_agrees_61 (by decide) ?_
          refine lv_goto (tgt := 66) hx hb dX4_agrees_62 (by decide) ?_
          refine lv_istore_n (lv' := [(3, .int 1), (5, .int (nI (hwF (pq V) (fun k => V 9 (4 * i + k)) x w n))), (0, .ref (ad 0)), (1, .int x), (2, .int (nI w)), (4, .int (nI i))]) hx hb dX4_agrees_66 rfl hl (by decide) rfl (fun ls hl => ?_)
          refine lv_iinc (v := nI (i + 1)) (lv' := [(4, .int (nI (i + 1))), (3, .int 1), (5, .int (nI (hwF (pq V) (fun k => V 9 (4 * i + k)) x w n))), (0, .ref (ad 0)), (1, .int x), (2, .int (nI w))]) hx hb dX4_agrees_67 hl (k := 5) rfl (nI_succ i).symm (by decide) rfl (fun ls hl => ?_)
          refine lv_goto (tgt := 5) hx hb dX4_agrees_70 (by decide) ?_
          exact ih (i + 1, true, U3) _ _ _ ⟨hh, (lv_sub hl [3, 4, 5, 1, 0] rfl), (by omega), fw3, ⟨fun _ j hj => by rcases Classical.em (j = i) with e | e; (rw [e]; exact ⟨c_51, hb9.symm.trans c_58⟩); exact hb2.mp (zI_ne c_15) j (by omega), fun _ => rfl⟩⟩ (by dsimp only; omega)
abbrev rmX4_least : Room := { frames := 7, cells := 0, slots := 0, locals := 171 }
theorem lk_X4_least : Lk yX4_least 1 := by decide +kernel
set_option maxHeartbeats 4000000 in
set_option maxRecDepth 100000 in
/-- least(p) -/
theorem c_X4_least (l : Launch) (D : va_G) (k : Nat → ClassId) (ad : Nat → Nat) (V : St) {n : Nat} (hv : okV n (pq V)) (hc : Cq n V) {t : Nat} (h9 : V 0 9 = nI t) (ht : t ≤ 3) (x : Int32) : CtX noX l yX4_least cX4_least 6 (some .int) rmX4_least D (tyL k) (wQ k ad V) [.ref (ad 0), .int x] (qI D (wQ k ad) (fun r U => leR n (pq V) (fun i j => V 9 (4 * i + j)) t x r ∧ FrL V U ∧ Cq n U)) := by
  refine CtX.mk (by decide) (Nat.le_of_ble_eq_true rfl) ?_
  intro p e s m below meth c hx hb hml hown hg hr hlocks hK hN A hA hX hh ls hl
  have hh : Hd D A (wQ k ad V) s.heap s.heap [] := hh
  have hl : lv_has ls 6 [(0, .ref (ad 0)), (1, .int x)] := hl
  have h00 : V 0 0 = nI n := hv.2.1
  have hn24 := hv.1
  refine lv_aload_n hx hb dX4_least_0 rfl (lv_at hl 0 rfl) ?_
  refine lv_iload_n hx hb dX4_least_1 rfl (lv_at hl 1 rfl) ?_
  refine callR (runV hx hb hg hown hml hl.1 (c_X4_isPlace l D k ad V hv (x)) [.int x] [] (preR (mapSome_sub hh.1 [0, 1, 2, 3, 4, 5, 6, 7, 8, 9, 10, 11, 12, 13, 14, 15, 16, 17, 18, 19, 20, 21, 22] rfl) hK hN xb0 x0) (va_recv hK hh.1 (ci := 4) (q0 := 0) rfl rfl) wd_681 wd_683 wd_25 wd_53 wd_684 lk_X4_isPlace ⟨rfl, rfl⟩ ⟨by decide, by decide⟩ ⟨Nat.zero_le _, Nat.zero_le _⟩ rfl (Nat.le_of_ble_eq_true rfl) dX4_least_2) (fun r_2 q_2 => ?_)
  obtain ⟨bP1, rfl, hP1⟩ := q_2
  refine lv_if_ne (tgt := 10) hx hb dX4_least_5 (by decide) (fun c_5 => ?_) (fun c_5 => ?_)
  · obtain ⟨q, hq, hxe⟩ := hP1.mp (zI_ne c_5)
    refine lv_aload_n hx hb dX4_least_10 rfl (lv_at hl 0 rfl) ?_
    refine gfl hx hb hg inX4 hown hK hh.1 0 (ci := 4) rfl rfl 9 (by decide) wd_560 rfl dX4_least_11 ?_
    refine topv (nI t) h9 ?_
    refine lv_if_ne (tgt := 21) hx hb dX4_least_14 (by decide) (fun c_14 => ?_) (fun c_14 => ?_)
    · have c_14 : ¬ t = 0 := fun z => c_14 ((nI_eq (a := t) (b := 0) (by omega) (by omega)).mpr z)
      refine lv_iconst (v := 0) hx hb dX4_least_21 (by decide) ?_
      refine lv_istore_n (lv' := [(2, .int 0), (0, .ref (ad 0)), (1, .int x)]) hx hb dX4_least_22 rfl hl (by decide) rfl (fun ls hl => ?_)
      refine lv_iconst (v := 0) hx hb dX4_least_23 (by decide) ?_
      refine lv_istore_n (lv' := [(3, .int 0), (2, .int 0), (0, .ref (ad 0)), (1, .int x)]) hx hb dX4_least_24 rfl hl (by decide) rfl (fun ls hl => ?_)
      refine loopW (σ := Nat × Bool × St) (fun zz9 H locs ls => match zz9 with | (i, b, U) => Hd D A (wQ k ad U) s.heap H locs ∧ lv_has ls 6 [(0, .ref (ad 0)), (1, .int x), (2, .int (zI b)), (3, .int (nI i))] ∧ (i ≤ t) ∧ (FrW V U) ∧ (b = false ↔ ¬ t = 0 ∧ ∀ j, j < i → ¬ hwF (pq V) (fun k => V 9 (4 * j + k)) (-1) q n = 2)) (fun zz9 => match zz9 with | (i, b, U) => t - i) ?_ (0, false, V) ⟨hh, (lv_sub hl [2, 3, 1, 0] rfl), (by omega), FrX.rf, ⟨fun _ => ⟨c_14, fun j hj => absurd hj (Nat.not_lt_zero _)⟩, fun _ => rfl⟩⟩
      intro zz9 H locs ls hI ih
      obtain ⟨i, b, U⟩ := zz9
      obtain ⟨hh, hl, hi, fw, hb2⟩ := hI
      have pU : pq U = pq V := fw.wpq
      have hvU : okV n (pq U) := by rw [pU]; exact hv
      have eU9 : U 9 = V 9 := fw.1 9 (by decide)
      refine lv_iload_n hx hb dX4_least_25 rfl (lv_at hl 3 rfl) ?_
      refine lv_aload_n hx hb dX4_least_26 rfl (lv_at hl 0 rfl) ?_
      refine gfl hx hb hg inX4 hown hK hh.1 0 (ci := 4) rfl rfl 9 (by decide) wd_560 rfl dX4_least_27 ?_
      refine topv (nI t) ((fw.2 9 (by decide)).trans h9) ?_
      refine lv_icmp_ge (tgt := 65) hx hb dX4_least_30 (by decide) (fun c_30 => ?_) (fun c_30 => ?_)
      · have c_30 : t ≤ i := (nI_leI (a := t) (b := i) (by omega) (by omega)).mp c_30
        refine lv_iload_n hx hb dX4_least_65 rfl (lv_at hl 2 rfl) ?_
        refine lv_if_eq (tgt := 72) hx hb dX4_least_66 (by decide) (fun c_66 => ?_) (fun c_66 => ?_)
        · refine lv_aload_n hx hb dX4_least_72 rfl (lv_at hl 0 rfl) ?_
          refine callWV (D := D) (wn := fun U4 => wQ k ad U4) (wr := []) (runV hx hb hg hown hml hl.1 ((c_X4_look l D k ad U hvU (hc.w fw)) H.size) [] [] (preX (mapSome_sub hh.1 [0, 1, 2, 3, 4, 5, 6, 7, 8, 9, 10, 11, 12, 13, 14, 15, 16, 17, 18, 19, 20, 21, 22] rfl) (hh.2.1.sub [0, 1, 2, 3, 4, 5, 6, 7, 8, 9, 10, 11, 12, 13, 14, 15, 16, 17, 18, 19, 20, 21, 22] (by decide) rfl) hK hN xb0 x0) (va_recv hK hh.1 (ci := 4) (q0 := 0) rfl rfl) wd_731 wd_733 wd_31 wd_53 wd_734 lk_X4_look ⟨rfl, rfl⟩ ⟨by decide, by decide⟩ ⟨Nat.zero_le _, Nat.zero_le _⟩ rfl (Nat.le_of_ble_eq_true rfl) dX4_least_73) hA hh [0, 1, 2, 3, 4, 5, 6, 7, 8, 9, 10, 11, 12, 13, 14, 15, 16, 17, 18, 19, 20, 21, 22] [] [0, 1, 2, 3, 4, 5, 6, 7, 8, 9, 10, 11, 12, 13, 14, 15, 16, 17, 18, 19, 20, 21, 22] rfl rfl (by decide) (by decide) (by decide) (fun _ => rfl) (fun U4 H locs q_73 hh => ?_)
          obtain ⟨fQ, o22, hMG⟩ := q_73
          rw [pU] at hMG
          have f4 : FrL V U4 := fw.l.trans fQ.l
          have p4 : pq U4 = pq V := f4.lpq
          have hv4 : okV n (pq U4) := by rw [p4]; exact hv
          have hM4 : MG n (pq U4) U4 := by rw [p4]; exact hMG
          have hc4 : Cq n U4 := Or.inr ⟨o22, hM4⟩
          refine lv_aload_n hx hb dX4_least_76 rfl (lv_at hl 0 rfl) ?_
          refine lv_iload_n hx hb dX4_least_77 rfl (lv_at hl 1 rfl) ?_
          refine topv (nI q) hxe ?_
          refine lv_iconst (v := 0) hx hb dX4_least_78 (by decide) ?_
          refine callR (runV hx hb hg hown hml hl.1 (c_X4_back l D k ad U4 hv4 hM4 (v := q) (by omega)) [.int (nI q), .int 0] [] (preR (mapSome_sub hh.1 [0, 1, 2, 3, 4, 5, 6, 7, 8, 9, 10, 11, 12, 13, 14, 15, 16, 17, 18, 19, 20, 21, 22] rfl) hK hN xb0 x0) (va_recv hK hh.1 (ci := 4) (q0 := 0) rfl rfl) wd_764 wd_766 wd_39 wd_53 wd_767 lk_X4_back ⟨rfl, rfl⟩ ⟨by decide, by decide⟩ ⟨Nat.zero_le _, Nat.zero_le _⟩ rfl (Nat.le_of_ble_eq_true rfl) dX4_least_79) (fun r_79 q_79 => ?_)
          rw [p4] at q_79
          refine lv_istore_n (lv' := [(3, .int r_79), (0, .ref (ad 0)), (1, .int x), (2, .int (zI b))]) hx hb dX4_least_82 rfl hl (by decide) rfl (fun ls hl => ?_)
          refine lv_iconst (v := 1) hx hb dX4_least_83 (by decide) ?_
          refine lv_istore (lv' := [(4, .int 1), (3, .int r_79), (0, .ref (ad 0)), (1, .int x), (2, .int (zI b))]) hx hb dX4_least_84 hl (by decide) rfl (fun ls hl => ?_)
          refine loopW (σ := Nat × Int32 × Bool × St) (fun zz9 H locs ls => match zz9 with | (k9, x1, b2, U5) => Hd D A (wQ k ad U5) s.heap H locs ∧ lv_has ls 6 [(0, .ref (ad 0)), (1, .int x), (2, .int (zI b)), (3, .int x1), (4, .int (zI b2))] ∧ (x1 = itr (psF (fun y => agB (pq V) (fun i j => V 9 (4 * i + j)) t y q n) q n) k9 r_79) ∧ (b2 = false → psF (fun y => agB (pq V) (fun i j => V 9 (4 * i + j)) t y q n) q n x1 = x1) ∧ (FrW U4 U5)) (fun zz9 => match zz9 with | (k9, x1, b2, U5) => 2 * cnt x1 + (if b2 = true then 1 else 0)) ?_ (0, r_79, true, U4) ⟨hh, (lv_sub hl [2, 3, 4, 1, 0] rfl), rfl, (fun z => by cases z), FrX.rf⟩
          intro zz9 H locs ls hI ih
          obtain ⟨k9, x1, b2, U5⟩ := zz9
          obtain ⟨hh, hl, hx1, hb3, f5⟩ := hI
          have iho := ih; clear ih
          refine lv_iload hx hb dX4_least_86 (lv_at hl 4 rfl) ?_
          refine lv_if_eq (tgt := 160) hx hb dX4_least_88 (by decide) (fun c_88 => ?_) (fun c_88 => ?_)
          · refine lv_iload_n hx hb dX4_least_160 rfl (lv_at hl 3 rfl) ?_
            exact retI (Wd := wQ k ad) (v := x1) (U5) hx hb hr hlocks dX4_least_161 hh (⟨Or.inr ⟨q, hq, hxe, Or.inr ⟨(hb2.mp (zI_0.mp c_66)).1, ns_iff.mpr (fun j hj => (hb2.mp (zI_0.mp c_66)).2 j (by omega)), r_79, k9, q_79, hx1, hb3 (zI_0.mp c_88)⟩⟩, f4.trans f5.l, hc4.w f5⟩)
          · refine lv_iconst (v := 0) hx hb dX4_least_91 (by decide) ?_
            refine lv_istore (lv' := [(4, .int 0), (0, .ref (ad 0)), (1, .int x), (2, .int (zI b)), (3, .int x1)]) hx hb dX4_least_92 hl (by decide) rfl (fun ls hl => ?_)
            refine lv_aload_n hx hb dX4_least_94 rfl (lv_at hl 1 rfl) ?_
            refine gfl hx hb hg inX4 hown hK hh.1 0 (ci := 4) rfl rfl 0 (by decide) wd_551 rfl dX4_least_95 ?_
            refine topv (nI n) ((f5.2 0 (by decide)).trans ((f4.2 0 (by decide)).trans h00)) ?_
            refine lv_iconst (v := 1) hx hb dX4_least_98 (by decide) ?_
            refine lv_isub hx hb dX4_least_99 ?_
            refine lv_istore (lv' := [(5, .int ((nI n) - 1)), (4, .int 0), (0, .ref (ad 0)), (1, .int x), (2, .int (zI b)), (3, .int x1)]) hx hb dX4_least_100 hl (by decide) rfl (fun ls hl => ?_)
            refine loopW (σ := Nat × Int32 × Bool × St) (fun zz9 H locs ls => match zz9 with | (i, x2, b3, U6) => Hd D A (wQ k ad U6) s.heap H locs ∧ lv_has ls 6 [(0, .ref (ad 0)), (1, .int x), (2, .int (zI b)), (3, .int x2), (4, .int (zI b3)), (5, .int ((nI i) - 1))] ∧ (i ≤ n) ∧ (psF (fun y => agB (pq V) (fun i j => V 9 (4 * i + j)) t y q n) q i x2 = psF (fun y => agB (pq V) (fun i j => V 9 (4 * i + j)) t y q n) q n x1) ∧ (cnt x2 ≤ cnt x1 ∧ (b3 = true → cnt x2 < cnt x1) ∧ (b3 = false → x2 = x1)) ∧ (FrW U5 U6)) (fun zz9 => match zz9 with | (i, x2, b3, U6) => i) ?_ (n, x1, false, U5) ⟨hh, (lv_sub hl [2, 3, 4, 5, 1, 0] rfl), (by omega), rfl, ⟨Nat.le_refl _, fun z => (by cases z), fun _ => rfl⟩, FrX.rf⟩
            intro zz9 H locs ls hI ih
            obtain ⟨i, x2, b3, U6⟩ := zz9
            obtain ⟨hh, hl, hi, hps, hcn, f6⟩ := hI
            have f46 : FrW U4 U6 := f5.trans f6
            have f06 : FrL V U6 := f4.trans f46.l
            have p6 : pq U6 = pq V := f06.lpq
            have hv6 : okV n (pq U6) := by rw [p6]; exact hv
            have e69 : U6 9 = V 9 := f06.1 9 (by decide)
            have h69 : U6 0 9 = nI t := (f06.2 9 (by decide)).trans h9
            refine lv_iload hx hb dX4_least_102 (lv_at hl 5 rfl) ?_
            refine lv_if_lt (tgt := 157) hx hb dX4_least_104 (by decide) (fun c_104 => ?_) (fun c_104 => ?_)
            · have hi0 := m1_neg c_104 (by omega)
              refine lv_goto (tgt := 86) hx hb dX4_least_157 (by decide) ?_
              exact iho (k9 + 1, x2, b3, U6) _ _ _ ⟨hh, (lv_sub hl [0, 1, 2, 3, 4] rfl), (by show x2 = psF (fun y => agB (pq V) (fun i j => V 9 (4 * i + j)) t y q n) q n (itr (psF (fun y => agB (pq V) (fun i j => V 9 (4 * i + j)) t y q n) q n) k9 r_79); rw [← hx1, ← hps, hi0]; rfl), (fun z => by have h9 := hcn.2.2 z; rw [hi0] at hps; have h8 : x2 = psF (fun y => agB (pq V) (fun i j => V 9 (4 * i + j)) t y q n) q n x1 := hps; rw [h9] at h8 ⊢; exact h8.symm), (f5.trans f6)⟩ (by dsimp only; rw [if_pos (zI_ne c_88)]; have h9 := hcn.2.1; have h8 := hcn.1; cases b3 with | true => (have := h9 rfl; rw [if_pos rfl]; omega) | false => (rw [if_neg (by decide)]; omega))
            · have hi0 : ¬ i = 0 := fun z => c_104 (by rw [z]; decide)
              obtain ⟨i1, hi1⟩ : ∃ z, i = z + 1 := ⟨i - 1, by omega⟩
              have e1 : (nI i) - 1 = nI i1 := by rw [hi1]; exact pk_sub (a := i1 + 1) (b := 1) (by omega)
              refine lv_iload hx hb dX4_least_107 (lv_at hl 5 rfl) ?_
              refine topv (nI i1) e1 ?_
              refine lv_iload_n hx hb dX4_least_109 rfl (lv_at hl 1 rfl) ?_
              refine topv (nI q) hxe ?_
              refine lv_icmp_eq (tgt := 151) hx hb dX4_least_110 (by decide) (fun c_110 => ?_) (fun c_110 => ?_)
              · have c_110 : i1 = q := (nI_eq (a := i1) (b := q) (by omega) (by omega)).mp c_110
                refine lv_iinc (v := (nI i1) - 1) (lv' := [(5, .int ((nI i1) - 1)), (0, .ref (ad 0)), (1, .int x), (2, .int (zI b)), (3, .int x2), (4, .int (zI b3))]) hx hb dX4_least_151 hl (k := 5) rfl (by rw [e1, show (Int32.ofInt (-1)) = -1 from rfl, i_m1]) (by decide) rfl (fun ls hl => ?_)
                refine lv_goto (tgt := 102) hx hb dX4_least_154 (by decide) ?_
                exact ih (i1, x2, b3, U6) _ _ _ ⟨hh, (lv_sub hl [1, 2, 3, 4, 5, 0] rfl), (by omega), (by rw [← hps, hi1, ps_no (fun z => z.1 c_110)]), hcn, f6⟩ (by dsimp only; omega)
              · have c_110 : ¬ i1 = q := fun z => c_110 ((nI_eq (a := i1) (b := q) (by omega) (by omega)).mpr z)
                refine lv_iload_n hx hb dX4_least_113 rfl (lv_at hl 3 rfl) ?_
                refine lv_iload hx hb dX4_least_114 (lv_at hl 5 rfl) ?_
                refine topv (nI i1) e1 ?_
                refine lv_ishr hx hb dX4_least_116 ?_
                refine lv_iconst (v := 1) hx hb dX4_least_117 (by decide) ?_
                refine lv_iand hx hb dX4_least_118 ?_
                refine lv_iconst (v := 1) hx hb dX4_least_119 (by decide) ?_
                refine lv_icmp_ne (tgt := 151) hx hb dX4_least_120 (by decide) (fun c_120 => ?_) (fun c_120 => ?_)
                · have c_120 := sh1_f (x := x2) (i := i1) (by omega) c_120
                  refine lv_iinc (v := (nI i1) - 1) (lv' := [(5, .int ((nI i1) - 1)), (0, .ref (ad 0)), (1, .int x), (2, .int (zI b)), (3, .int x2), (4, .int (zI b3))]) hx hb dX4_least_151 hl (k := 5) rfl (by rw [e1, show (Int32.ofInt (-1)) = -1 from rfl, i_m1]) (by decide) rfl (fun ls hl => ?_)
                  refine lv_goto (tgt := 102) hx hb dX4_least_154 (by decide) ?_
                  exact ih (i1, x2, b3, U6) _ _ _ ⟨hh, (lv_sub hl [1, 2, 3, 4, 5, 0] rfl), (by omega), (by rw [← hps, hi1, ps_no (fun z => absurd z.2.1 (by rw [c_120]; decide))]), hcn, f6⟩ (by dsimp only; omega)
                · have c_120 := (tS1 x2 (p := i1) (by omega)).mp c_120
                  refine lv_aload_n hx hb dX4_least_123 rfl (lv_at hl 0 rfl) ?_
                  refine lv_iload_n hx hb dX4_least_124 rfl (lv_at hl 3 rfl) ?_
                  refine lv_iconst (v := 1) hx hb dX4_least_125 (by decide) ?_
                  refine lv_iload hx hb dX4_least_126 (lv_at hl 5 rfl) ?_
                  refine topv (nI i1) e1 ?_
                  refine lv_ishl hx hb dX4_least_128 ?_
                  refine topv (bitI i1) rfl ?_
                  refine lv_iconst (v := (-1)) hx hb dX4_least_129 (by decide) ?_
                  refine lv_ixor hx hb dX4_least_130 ?_
                  refine lv_iand hx hb dX4_least_131 ?_
                  refine topv (clr x2 i1) rfl ?_
                  refine lv_iload_n hx hb dX4_least_132 rfl (lv_at hl 1 rfl) ?_
                  refine topv (nI q) hxe ?_
                  refine callWI (D := D) (wn := fun U7 => wQ k ad U7) (wr := []) (runV hx hb hg hown hml hl.1 ((c_X4_agrees l D k ad U6 hv6 h69 ht (clr x2 i1) q (by omega)) H.size) [.int (clr x2 i1), .int (nI q)] [] (preX (mapSome_sub hh.1 [0, 1, 2, 3, 4, 5, 6, 7, 8, 9, 10, 11, 12, 13, 14, 15, 16, 17, 18, 19, 20, 21, 22] rfl) (hh.2.1.sub [0, 1, 2, 3, 4, 5, 6, 7, 8, 9, 10, 11, 12, 13, 14, 15, 16, 17, 18, 19, 20, 21, 22] (by decide) rfl) hK hN xb0 x0) (va_recv hK hh.1 (ci := 4) (q0 := 0) rfl rfl) wd_856 wd_858 wd_47 wd_53 wd_859 lk_X4_agrees ⟨rfl, rfl⟩ ⟨by decide, by decide⟩ ⟨Nat.zero_le _, Nat.zero_le _⟩ rfl (Nat.le_of_ble_eq_true rfl) dX4_least_133) hA hh [0, 1, 2, 3, 4, 5, 6, 7, 8, 9, 10, 11, 12, 13, 14, 15, 16, 17, 18, 19, 20, 21, 22] [] [0, 1, 2, 3, 4, 5, 6, 7, 8, 9, 10, 11, 12, 13, 14, 15, 16, 17, 18, 19, 20, 21, 22] rfl rfl (by decide) (by decide) (by decide) (fun _ => rfl) (fun r_133 U7 H locs q_133 hh => ?_)
                  obtain ⟨rfl, f7⟩ := q_133
                  refine topv (zI (agB (pq V) (fun i j => V 9 (4 * i + j)) t (clr x2 i1) q n)) (by rw [p6, e69]) ?_
                  refine lv_if_eq (tgt := 151) hx hb dX4_least_136 (by decide) (fun c_136 => ?_) (fun c_136 => ?_)
                  · refine lv_iinc (v := (nI i1) - 1) (lv' := [(5, .int ((nI i1) - 1)), (0, .ref (ad 0)), (1, .int x), (2, .int (zI b)), (3, .int x2), (4, .int (zI b3))]) hx hb dX4_least_151 hl (k := 5) rfl (by rw [e1, show (Int32.ofInt (-1)) = -1 from rfl, i_m1]) (by decide) rfl (fun ls hl => ?_)
                    refine lv_goto (tgt := 102) hx hb dX4_least_154 (by decide) ?_
                    exact ih (i1, x2, b3, U7) _ _ _ ⟨hh, (lv_sub hl [1, 2, 3, 4, 5, 0] rfl), (by omega), (by rw [← hps, hi1, ps_no (fun z => absurd z.2.2 (by show ¬ agB (pq V) (fun i j => V 9 (4 * i + j)) t (clr x2 i1) q n = true; rw [zI_0.mp c_136]; decide))]), hcn, (f6.trans f7)⟩ (by dsimp only; omega)
                  · refine lv_iload_n hx hb dX4_least_139 rfl (lv_at hl 3 rfl) ?_
                    refine lv_iconst (v := 1) hx hb dX4_least_140 (by decide) ?_
                    refine lv_iload hx hb dX4_least_141 (lv_at hl 5 rfl) ?_
                    refine topv (nI i1) e1 ?_
                    refine lv_ishl hx hb dX4_least_143 ?_
                    refine topv (bitI i1) rfl ?_
                    refine lv_iconst (v := (-1)) hx hb dX4_least_144 (by decide) ?_
                    refine lv_ixor hx hb dX4_least_145 ?_
                    refine lv_iand hx hb dX4_least_146 ?_
                    refine topv (clr x2 i1) rfl ?_
                    refine lv_istore_n (lv' := [(3, .int (clr x2 i1)), (0, .ref (ad 0)), (1, .int x), (2, .int (zI b)), (4, .int (zI b3)), (5, .int ((nI i) - 1))]) hx hb dX4_least_147 rfl hl (by decide) rfl (fun ls hl => ?_)
                    refine lv_iconst (v := 1) hx hb dX4_least_148 (by decide) ?_
                    refine lv_istore (lv' := [(4, .int 1), (3, .int (clr x2 i1)), (0, .ref (ad 0)), (1, .int x), (2, .int (zI b)), (5, .int ((nI i) - 1))]) hx hb dX4_least_149 hl (by decide) rfl (fun ls hl => ?_)
                    refine lv_iinc (v := (nI i1) - 1) (lv' := [(5, .int ((nI i1) - 1)), (4, .int 1), (3, .int (clr x2 i1)), (0, .ref (ad 0)), (1, .int x), (2, .int (zI b))]) hx hb dX4_least_151 hl (k := 5) rfl (by rw [e1, show (Int32.ofInt (-1)) = -1 from rfl, i_m1]) (by decide) rfl (fun ls hl => ?_)
                    refine lv_goto (tgt := 102) hx hb dX4_least_154 (by decide) ?_
                    exact ih (i1, clr x2 i1, true, U7) _ _ _ ⟨hh, (lv_sub hl [3, 4, 5, 2, 1, 0] rfl), (by omega), (by rw [← hps, hi1, ps_yes c_110 c_120 (zI_ne c_136)]), (by have h9 := cnt_clr (x := x2) (i := i1) (by omega) c_120; exact ⟨by omega, fun _ => by omega, fun z => by cases z⟩), (f6.trans f7)⟩ (by dsimp only; omega)
        · refine lv_bipush (v := (-3)) hx hb dX4_least_69 (by decide) ?_
          exact retI (Wd := wQ k ad) (v := (-3)) (U) hx hb hr hlocks dX4_least_71 hh (⟨Or.inr ⟨q, hq, hxe, Or.inl ⟨by rcases Classical.em (t = 0) with h8 | h8; exact Or.inl h8; (refine Or.inr ?_; cases hb8 : nsB (pq V) (fun i j => V 9 (4 * i + j)) t q n with | false => rfl | true => exact absurd (hb2.mpr ⟨h8, fun j hj => ns_iff.mp hb8 j (by omega)⟩) (by rw [zI_ne c_66]; decide)), rfl⟩⟩, fw.l, hc.w fw⟩)
      · have c_30 : ¬ t ≤ i := fun z => c_30 ((nI_leI (a := t) (b := i) (by omega) (by omega)).mpr z)
        refine lv_iload_n hx hb dX4_least_33 rfl (lv_at hl 2 rfl) ?_
        refine lv_if_ne (tgt := 53) hx hb dX4_least_34 (by decide) (fun c_34 => ?_) (fun c_34 => ?_)
        · refine lv_iconst (v := 1) hx hb dX4_least_53 (by decide) ?_
          refine lv_goto (tgt := 58) hx hb dX4_least_54 (by decide) ?_
          refine lv_istore_n (lv' := [(2, .int 1), (0, .ref (ad 0)), (1, .int x), (3, .int (nI i))]) hx hb dX4_least_58 rfl hl (by decide) rfl (fun ls hl => ?_)
          refine lv_iinc (v := nI (i + 1)) (lv' := [(3, .int (nI (i + 1))), (2, .int 1), (0, .ref (ad 0)), (1, .int x)]) hx hb dX4_least_59 hl (k := 3) rfl (nI_succ i).symm (by decide) rfl (fun ls hl => ?_)
          refine lv_goto (tgt := 25) hx hb dX4_least_62 (by decide) ?_
          exact ih (i + 1, true, U) _ _ _ ⟨hh, (lv_sub hl [2, 3, 1, 0] rfl), (by omega), fw, ⟨fun z => (by cases z), fun z => absurd (hb2.mpr ⟨z.1, fun j hj => z.2 j (by omega)⟩) (by rw [zI_ne c_34]; decide)⟩⟩ (by dsimp only; omega)
        · refine lv_aload_n hx hb dX4_least_37 rfl (lv_at hl 0 rfl) ?_
          refine lv_iload_n hx hb dX4_least_38 rfl (lv_at hl 1 rfl) ?_
          refine topv (nI q) hxe ?_
          refine lv_aload_n hx hb dX4_least_39 rfl (lv_at hl 0 rfl) ?_
          refine gfl hx hb hg inX4 hown hK hh.1 0 (ci := 4) rfl rfl 10 (by decide) wd_561 rfl dX4_least_40 ?_
          refine lv_iconst (v := 4) hx hb dX4_least_43 (by decide) ?_
          refine lv_iload_n hx hb dX4_least_44 rfl (lv_at hl 3 rfl) ?_
          refine lv_imul hx hb dX4_least_45 ?_
          refine topv (nI (4 * i)) (pk_mul 4 i) ?_
          refine callWI (D := D) (wn := fun U2 => wQ k ad U2) (wr := []) (runV hx hb hg hown hml hl.1 ((c_X4_whole_9 l D k ad U hvU (t := i) (by omega) q (by omega)) H.size) [.int (nI q), .ref (ad 9), .int (nI (4 * i))] [] (preX (mapSome_sub hh.1 [0, 1, 2, 3, 4, 5, 6, 7, 8, 9, 10, 11, 12, 13, 14, 15, 16, 17, 18, 19, 20, 21, 22] rfl) (hh.2.1.sub [0, 1, 2, 3, 4, 5, 6, 7, 8, 9, 10, 11, 12, 13, 14, 15, 16, 17, 18, 19, 20, 21, 22] (by decide) rfl) hK hN xb0 x0) (va_recv hK hh.1 (ci := 4) (q0 := 0) rfl rfl) wd_836 wd_838 wd_45 wd_53 wd_839 lk_X4_whole ⟨rfl, rfl⟩ ⟨by decide, by decide⟩ ⟨Nat.zero_le _, Nat.zero_le _⟩ rfl (Nat.le_of_ble_eq_true rfl) dX4_least_46) hA hh [0, 1, 2, 3, 4, 5, 6, 7, 8, 9, 10, 11, 12, 13, 14, 15, 16, 17, 18, 19, 20, 21, 22] [] [0, 1, 2, 3, 4, 5, 6, 7, 8, 9, 10, 11, 12, 13, 14, 15, 16, 17, 18, 19, 20, 21, 22] rfl rfl (by decide) (by decide) (by decide) (fun _ => rfl) (fun r_46 U2 H locs q_46 hh => ?_)
          obtain ⟨e1, _, _, f2⟩ := q_46
          rw [pU, eU9] at e1
          rw [e1]
          have hw2 := hw_le (P := pq V) (I := (fun k => V 9 (4 * i + k))) (x := -1) (w := q) (n := n)
          have fw2 : FrW V U2 := fw.trans f2
          refine lv_iconst (v := 2) hx hb dX4_least_49 (by decide) ?_
          refine lv_icmp_ne (tgt := 57) hx hb dX4_least_50 (by decide) (fun c_50 => ?_) (fun c_50 => ?_)
          · have c_50 : ¬ hwF (pq V) (fun k => V 9 (4 * i + k)) (-1) q n = 2 := fun z => c_50 ((nI_eq (a := hwF (pq V) (fun k => V 9 (4 * i + k)) (-1) q n) (b := 2) (by omega) (by omega)).mpr z)
            refine lv_iconst (v := 0) hx hb dX4_least_57 (by decide) ?_
            refine lv_istore_n (lv' := [(2, .int 0), (0, .ref (ad 0)), (1, .int x), (3, .int (nI i))]) hx hb dX4_least_58 rfl hl (by decide) rfl (fun ls hl => ?_)
            refine lv_iinc (v := nI (i + 1)) (lv' := [(3, .int (nI (i + 1))), (2, .int 0), (0, .ref (ad 0)), (1, .int x)]) hx hb dX4_least_59 hl (k := 3) rfl (nI_succ i).symm (by decide) rfl (fun ls hl => ?_)
            refine lv_goto (tgt := 25) hx hb dX4_least_62 (by decide) ?_
            exact ih (i + 1, false, U2) _ _ _ ⟨hh, (lv_sub hl [2, 3, 1, 0] rfl), (by omega), fw2, ⟨fun _ => ⟨(hb2.mp (zI_0.mp c_34)).1, fun j hj => by rcases Classical.em (j = i) with e | e; (rw [e]; exact c_50); exact (hb2.mp (zI_0.mp c_34)).2 j (by omega)⟩, fun _ => rfl⟩⟩ (by dsimp only; omega)
          · have c_50 : hwF (pq V) (fun k => V 9 (4 * i + k)) (-1) q n = 2 := (nI_eq (a := hwF (pq V) (fun k => V 9 (4 * i + k)) (-1) q n) (b := 2) (by omega) (by omega)).mp c_50
            refine lv_iconst (v := 1) hx hb dX4_least_53 (by decide) ?_
            refine lv_goto (tgt := 58) hx hb dX4_least_54 (by decide) ?_
            refine lv_istore_n (lv' := [(2, .int 1), (0, .ref (ad 0)), (1, .int x), (3, .int (nI i))]) hx hb dX4_least_58 rfl hl (by decide) rfl (fun ls hl => ?_)
            refine lv_iinc (v := nI (i + 1)) (lv' := [(3, .int (nI (i + 1))), (2, .int 1), (0, .ref (ad 0)), (1, .int x)]) hx hb dX4_least_59 hl (k := 3) rfl (nI_succ i).symm (by decide) rfl (fun ls hl => ?_)
            refine lv_goto (tgt := 25) hx hb dX4_least_62 (by decide) ?_
            exact ih (i + 1, true, U2) _ _ _ ⟨hh, (lv_sub hl [2, 3, 1, 0] rfl), (by omega), fw2, ⟨fun z => (by cases z), fun z => absurd c_50 (z.2 i (by omega))⟩⟩ (by dsimp only; omega)
    · have c_14 : t = 0 := (nI_eq (a := t) (b := 0) (by omega) (by omega)).mp c_14
      refine lv_iconst (v := 1) hx hb dX4_least_17 (by decide) ?_
      refine lv_goto (tgt := 22) hx hb dX4_least_18 (by decide) ?_
      refine lv_istore_n (lv' := [(2, .int 1), (0, .ref (ad 0)), (1, .int x)]) hx hb dX4_least_22 rfl hl (by decide) rfl (fun ls hl => ?_)
      refine lv_iconst (v := 0) hx hb dX4_least_23 (by decide) ?_
      refine lv_istore_n (lv' := [(3, .int 0), (2, .int 1), (0, .ref (ad 0)), (1, .int x)]) hx hb dX4_least_24 rfl hl (by decide) rfl (fun ls hl => ?_)
      refine loopW (σ := Nat × Bool × St) (fun zz9 H locs ls => match zz9 with | (i, b, U) => Hd D A (wQ k ad U) s.heap H locs ∧ lv_has ls 6 [(0, .ref (ad 0)), (1, .int x), (2, .int (zI b)), (3, .int (nI i))] ∧ (i ≤ t) ∧ (FrW V U) ∧ (b = false ↔ ¬ t = 0 ∧ ∀ j, j < i → ¬ hwF (pq V) (fun k => V 9 (4 * j + k)) (-1) q n = 2)) (fun zz9 => match zz9 with | (i, b, U) => t - i) ?_ (0, true, V) ⟨hh, (lv_sub hl [2, 3, 1, 0] rfl), (by omega), FrX.rf, ⟨fun z => (by cases z), fun z => absurd c_14 z.1⟩⟩
      intro zz9 H locs ls hI ih
      obtain ⟨i, b, U⟩ := zz9
      obtain ⟨hh, hl, hi, fw, hb2⟩ := hI
      have pU : pq U = pq V := fw.wpq
      have hvU : okV n (pq U) := by rw [pU]; exact hv
      have eU9 : U 9 = V 9 := fw.1 9 (by decide)
      refine lv_iload_n hx hb dX4_least_25 rfl (lv_at hl 3 rfl) ?_
      refine lv_aload_n hx hb dX4_least_26 rfl (lv_at hl 0 rfl) ?_
      refine gfl hx hb hg inX4 hown hK hh.1 0 (ci := 4) rfl rfl 9 (by decide) wd_560 rfl dX4_least_27 ?_
      refine topv (nI t) ((fw.2 9 (by decide)).trans h9) ?_
      refine lv_icmp_ge (tgt := 65) hx hb dX4_least_30 (by decide) (fun c_30 => ?_) (fun c_30 => ?_)
      · have c_30 : t ≤ i := (nI_leI (a := t) (b := i) (by omega) (by omega)).mp c_30
        refine lv_iload_n hx hb dX4_least_65 rfl (lv_at hl 2 rfl) ?_
        refine lv_if_eq (tgt := 72) hx hb dX4_least_66 (by decide) (fun c_66 => ?_) (fun c_66 => ?_)
        · refine lv_aload_n hx hb dX4_least_72 rfl (lv_at hl 0 rfl) ?_
          refine callWV (D := D) (wn := fun U4 => wQ k ad U4) (wr := []) (runV hx hb hg hown hml hl.1 ((c_X4_look l D k ad U hvU (hc.w fw)) H.size) [] [] (preX (mapSome_sub hh.1 [0, 1, 2, 3, 4, 5, 6, 7, 8, 9, 10, 11, 12, 13, 14, 15, 16, 17, 18, 19, 20, 21, 22] rfl) (hh.2.1.sub [0, 1, 2, 3, 4, 5, 6, 7, 8, 9, 10, 11, 12, 13, 14, 15, 16, 17, 18, 19, 20, 21, 22] (by decide) rfl) hK hN xb0 x0) (va_recv hK hh.1 (ci := 4) (q0 := 0) rfl rfl) wd_731 wd_733 wd_31 wd_53 wd_734 lk_X4_look ⟨rfl, rfl⟩ ⟨by decide, by decide⟩ ⟨Nat.zero_le _, Nat.zero_le _⟩ rfl (Nat.le_of_ble_eq_true rfl) dX4_least_73) hA hh [0, 1, 2, 3, 4, 5, 6, 7, 8, 9, 10, 11, 12, 13, 14, 15, 16, 17, 18, 19, 20, 21, 22] [] [0, 1, 2, 3, 4, 5, 6, 7, 8, 9, 10, 11, 12, 13, 14, 15, 16, 17, 18, 19, 20, 21, 22] rfl rfl (by decide) (by decide) (by decide) (fun _ => rfl) (fun U4 H locs q_73 hh => ?_)
          obtain ⟨fQ, o22, hMG⟩ := q_73
          rw [pU] at hMG
          have f4 : FrL V U4 := fw.l.trans fQ.l
          have p4 : pq U4 = pq V := f4.lpq
          have hv4 : okV n (pq U4) := by rw [p4]; exact hv
          have hM4 : MG n (pq U4) U4 := by rw [p4]; exact hMG
          have hc4 : Cq n U4 := Or.inr ⟨o22, hM4⟩
          refine lv_aload_n hx hb dX4_least_76 rfl (lv_at hl 0 rfl) ?_
          refine lv_iload_n hx hb dX4_least_77 rfl (lv_at hl 1 rfl) ?_
          refine topv (nI q) hxe ?_
          refine lv_iconst (v := 0) hx hb dX4_least_78 (by decide) ?_
          refine callR (runV hx hb hg hown hml hl.1 (c_X4_back l D k ad U4 hv4 hM4 (v := q) (by omega)) [.int (nI q), .int 0] [] (preR (mapSome_sub hh.1 [0, 1, 2, 3, 4, 5, 6, 7, 8, 9, 10, 11, 12, 13, 14, 15, 16, 17, 18, 19, 20, 21, 22] rfl) hK hN xb0 x0) (va_recv hK hh.1 (ci := 4) (q0 := 0) rfl rfl) wd_764 wd_766 wd_39 wd_53 wd_767 lk_X4_back ⟨rfl, rfl⟩ ⟨by decide, by decide⟩ ⟨Nat.zero_le _, Nat.zero_le _⟩ rfl (Nat.le_of_ble_eq_true rfl) dX4_least_79) (fun r_79 q_79 => ?_)
          rw [p4] at q_79
          refine lv_istore_n (lv' := [(3, .int r_79), (0, .ref (ad 0)), (1, .int x), (2, .int (zI b))]) hx hb dX4_least_82 rfl hl (by decide) rfl (fun ls hl => ?_)
          refine lv_iconst (v := 1) hx hb dX4_least_83 (by decide) ?_
          refine lv_istore (lv' := [(4, .int 1), (3, .int r_79), (0, .ref (ad 0)), (1, .int x), (2, .int (zI b))]) hx hb dX4_least_84 hl (by decide) rfl (fun ls hl => ?_)
          refine loopW (σ := Nat × Int32 × Bool × St) (fun zz9 H locs ls => match zz9 with | (k9, x1, b2, U5) => Hd D A (wQ k ad U5) s.heap H locs ∧ lv_has ls 6 [(0, .ref (ad 0)), (1, .int x), (2, .int (zI b)), (3, .int x1), (4, .int (zI b2))] ∧ (x1 = itr (psF (fun y => agB (pq V) (fun i j => V 9 (4 * i + j)) t y q n) q n) k9 r_79) ∧ (b2 = false → psF (fun y => agB (pq V) (fun i j => V 9 (4 * i + j)) t y q n) q n x1 = x1) ∧ (FrW U4 U5)) (fun zz9 => match zz9 with | (k9, x1, b2, U5) => 2 * cnt x1 + (if b2 = true then 1 else 0)) ?_ (0, r_79, true, U4) ⟨hh, (lv_sub hl [2, 3, 4, 1, 0] rfl), rfl, (fun z => by cases z), FrX.rf⟩
          intro zz9 H locs ls hI ih
          obtain ⟨k9, x1, b2, U5⟩ := zz9
          obtain ⟨hh, hl, hx1, hb3, f5⟩ := hI
          have iho := ih; clear ih
          refine lv_iload hx hb dX4_least_86 (lv_at hl 4 rfl) ?_
          refine lv_if_eq (tgt := 160) hx hb dX4_least_88 (by decide) (fun c_88 => ?_) (fun c_88 => ?_)
          · refine lv_iload_n hx hb dX4_least_160 rfl (lv_at hl 3 rfl) ?_
            exact retI (Wd := wQ k ad) (v := x1) (U5) hx hb hr hlocks dX4_least_161 hh (⟨Or.inr ⟨q, hq, hxe, Or.inr ⟨(hb2.mp (zI_0.mp c_66)).1, ns_iff.mpr (fun j hj => (hb2.mp (zI_0.mp c_66)).2 j (by omega)), r_79, k9, q_79, hx1, hb3 (zI_0.mp c_88)⟩⟩, f4.trans f5.l, hc4.w f5⟩)
          · refine lv_iconst (v := 0) hx hb dX4_least_91 (by decide) ?_
            refine lv_istore (lv' := [(4, .int 0), (0, .ref (ad 0)), (1, .int x), (2, .int (zI b)), (3, .int x1)]) hx hb dX4_least_92 hl (by decide) rfl (fun ls hl => ?_)
            refine lv_aload_n hx hb dX4_least_94 rfl (lv_at hl 1 rfl) ?_
            refine gfl hx hb hg inX4 hown hK hh.1 0 (ci := 4) rfl rfl 0 (by decide) wd_551 rfl dX4_least_95 ?_
            refine topv (nI n) ((f5.2 0 (by decide)).trans ((f4.2 0 (by decide)).trans h00)) ?_
            refine lv_iconst (v := 1) hx hb dX4_least_98 (by decide) ?_
            refine lv_isub hx hb dX4_least_99 ?_
            refine lv_istore (lv' := [(5, .int ((nI n) - 1)), (4, .int 0), (0, .ref (ad 0)), (1, .int x), (2, .int (zI b)), (3, .int x1)]) hx hb dX4_least_100 hl (by decide) rfl (fun ls hl => ?_)
            refine loopW (σ := Nat × Int32 × Bool × St) (fun zz9 H locs ls => match zz9 with | (i, x2, b3, U6) => Hd D A (wQ k ad U6) s.heap H locs ∧ lv_has ls 6 [(0, .ref (ad 0)), (1, .int x), (2, .int (zI b)), (3, .int x2), (4, .int (zI b3)), (5, .int ((nI i) - 1))] ∧ (i ≤ n) ∧ (psF (fun y => agB (pq V) (fun i j => V 9 (4 * i + j)) t y q n) q i x2 = psF (fun y => agB (pq V) (fun i j => V 9 (4 * i + j)) t y q n) q n x1) ∧ (cnt x2 ≤ cnt x1 ∧ (b3 = true → cnt x2 < cnt x1) ∧ (b3 = false → x2 = x1)) ∧ (FrW U5 U6)) (fun zz9 => match zz9 with | (i, x2, b3, U6) => i) ?_ (n, x1, false, U5) ⟨hh, (lv_sub hl [2, 3, 4, 5, 1, 0] rfl), (by omega), rfl, ⟨Nat.le_refl _, fun z => (by cases z), fun _ => rfl⟩, FrX.rf⟩
            intro zz9 H locs ls hI ih
            obtain ⟨i, x2, b3, U6⟩ := zz9
            obtain ⟨hh, hl, hi, hps, hcn, f6⟩ := hI
            have f46 : FrW U4 U6 := f5.trans f6
            have f06 : FrL V U6 := f4.trans f46.l
            have p6 : pq U6 = pq V := f06.lpq
            have hv6 : okV n (pq U6) := by rw [p6]; exact hv
            have e69 : U6 9 = V 9 := f06.1 9 (by decide)
            have h69 : U6 0 9 = nI t := (f06.2 9 (by decide)).trans h9
            refine lv_iload hx hb dX4_least_102 (lv_at hl 5 rfl) ?_
            refine lv_if_lt (tgt := 157) hx hb dX4_least_104 (by decide) (fun c_104 => ?_) (fun c_104 => ?_)
            · have hi0 := m1_neg c_104 (by omega)
              refine lv_goto (tgt := 86) hx hb dX4_least_157 (by decide) ?_
              exact iho (k9 + 1, x2, b3, U6) _ _ _ ⟨hh, (lv_sub hl [0, 1, 2, 3, 4] rfl), (by show x2 = psF (fun y => agB (pq V) (fun i j => V 9 (4 * i + j)) t y q n) q n (itr (psF (fun y => agB (pq V) (fun i j => V 9 (4 * i + j)) t y q n) q n) k9 r_79); rw [← hx1, ← hps, hi0]; rfl), (fun z => by have h9 := hcn.2.2 z; rw [hi0] at hps; have h8 : x2 = psF (fun y => agB (pq V) (fun i j => V 9 (4 * i + j)) t y q n) q n x1 := hps; rw [h9] at h8 ⊢; exact h8.symm), (f5.trans f6)⟩ (by dsimp only; rw [if_pos (zI_ne c_88)]; have h9 := hcn.2.1; have h8 := hcn.1; cases b3 with | true => (have := h9 rfl; rw [if_pos rfl]; omega) | false => (rw [if_neg (by decide)]; omega))
            · have hi0 : ¬ i = 0 := fun z => c_104 (by rw [z]; decide)
              obtain ⟨i1, hi1⟩ : ∃ z, i = z + 1 := ⟨i - 1, by omega⟩
              have e1 : (nI i) - 1 = nI i1 := by rw [hi1]; exact pk_sub (a := i1 + 1) (b := 1) (by omega)
              refine lv_iload hx hb dX4_least_107 (lv_at hl 5 rfl) ?_
              refine topv (nI i1) e1 ?_
              refine lv_iload_n hx hb dX4_least_109 rfl (lv_at hl 1 rfl) ?_
              refine topv (nI q) hxe ?_
              refine lv_icmp_eq (tgt := 151) hx hb dX4_least_110 (by decide) (fun c_110 => ?_) (fun c_110 => ?_)
              · have c_110 : i1 = q := (nI_eq (a := i1) (b := q) (by omega) (by omega)).mp c_110
                refine lv_iinc (v := (nI i1) - 1) (lv' := [(5, .int ((nI i1) - 1)), (0, .ref (ad 0)), (1, .int x), (2, .int (zI b)), (3, .int x2), (4, .int (zI b3))]) hx hb dX4_least_151 hl (k := 5) rfl (by rw [e1, show (Int32.ofInt (-1)) = -1 from rfl, i_m1]) (by decide) rfl (fun ls hl => ?_)
                refine lv_goto (tgt := 102) hx hb dX4_least_154 (by decide) ?_
                exact ih (i1, x2, b3, U6) _ _ _ ⟨hh, (lv_sub hl [1, 2, 3, 4, 5, 0] rfl), (by omega), (by rw [← hps, hi1, ps_no (fun z => z.1 c_110)]), hcn, f6⟩ (by dsimp only; omega)
              · have c_110 : ¬ i1 = q := fun z => c_110 ((nI_eq (a := i1) (b := q) (by omega) (by omega)).mpr z)
                refine lv_iload_n hx hb dX4_least_113 rfl (lv_at hl 3 rfl) ?_
                refine lv_iload hx hb dX4_least_114 (lv_at hl 5 rfl) ?_
                refine topv (nI i1) e1 ?_
                refine lv_ishr hx hb dX4_least_116 ?_
                refine lv_iconst (v := 1) hx hb dX4_least_117 (by decide) ?_
                refine lv_iand hx hb dX4_least_118 ?_
                refine lv_iconst (v := 1) hx hb dX4_least_119 (by decide) ?_
                refine lv_icmp_ne (tgt := 151) hx hb dX4_least_120 (by decide) (fun c_120 => ?_) (fun c_120 => ?_)
                · have c_120 := sh1_f (x := x2) (i := i1) (by omega) c_120
                  refine lv_iinc (v := (nI i1) - 1) (lv' := [(5, .int ((nI i1) - 1)), (0, .ref (ad 0)), (1, .int x), (2, .int (zI b)), (3, .int x2), (4, .int (zI b3))]) hx hb dX4_least_151 hl (k := 5) rfl (by rw [e1, show (Int32.ofInt (-1)) = -1 from rfl, i_m1]) (by decide) rfl (fun ls hl => ?_)
                  refine lv_goto (tgt := 102) hx hb dX4_least_154 (by decide) ?_
                  exact ih (i1, x2, b3, U6) _ _ _ ⟨hh, (lv_sub hl [1, 2, 3, 4, 5, 0] rfl), (by omega), (by rw [← hps, hi1, ps_no (fun z => absurd z.2.1 (by rw [c_120]; decide))]), hcn, f6⟩ (by dsimp only; omega)
                · have c_120 := (tS1 x2 (p := i1) (by omega)).mp c_120
                  refine lv_aload_n hx hb dX4_least_123 rfl (lv_at hl 0 rfl) ?_
                  refine lv_iload_n hx hb dX4_least_124 rfl (lv_at hl 3 rfl) ?_
                  refine lv_iconst (v := 1) hx hb dX4_least_125 (by decide) ?_
                  refine lv_iload hx hb dX4_least_126 (lv_at hl 5 rfl) ?_
                  refine topv (nI i1) e1 ?_
                  refine lv_ishl hx hb dX4_least_128 ?_
                  refine topv (bitI i1) rfl ?_
                  refine lv_iconst (v := (-1)) hx hb dX4_least_129 (by decide) ?_
                  refine lv_ixor hx hb dX4_least_130 ?_
                  refine lv_iand hx hb dX4_least_131 ?_
                  refine topv (clr x2 i1) rfl ?_
                  refine lv_iload_n hx hb dX4_least_132 rfl (lv_at hl 1 rfl) ?_
                  refine topv (nI q) hxe ?_
                  refine callWI (D := D) (wn := fun U7 => wQ k ad U7) (wr := []) (runV hx hb hg hown hml hl.1 ((c_X4_agrees l D k ad U6 hv6 h69 ht (clr x2 i1) q (by omega)) H.size) [.int (clr x2 i1), .int (nI q)] [] (preX (mapSome_sub hh.1 [0, 1, 2, 3, 4, 5, 6, 7, 8, 9, 10, 11, 12, 13, 14, 15, 16, 17, 18, 19, 20, 21, 22] rfl) (hh.2.1.sub [0, 1, 2, 3, 4, 5, 6, 7, 8, 9, 10, 11, 12, 13, 14, 15, 16, 17, 18, 19, 20, 21, 22] (by decide) rfl) hK hN xb0 x0) (va_recv hK hh.1 (ci := 4) (q0 := 0) rfl rfl) wd_856 wd_858 wd_47 wd_53 wd_859 lk_X4_agrees ⟨rfl, rfl⟩ ⟨by decide, by decide⟩ ⟨Nat.zero_le _, Nat.zero_le _⟩ rfl (Nat.le_of_ble_eq_true rfl) dX4_least_133) hA hh [0, 1, 2, 3, 4, 5, 6, 7, 8, 9, 10, 11, 12, 13, 14, 15, 16, 17, 18, 19, 20, 21, 22] [] [0, 1, 2, 3, 4, 5, 6, 7, 8, 9, 10, 11, 12, 13, 14, 15, 16, 17, 18, 19, 20, 21, 22] rfl rfl (by decide) (by decide) (by decide) (fun _ => rfl) (fun r_133 U7 H locs q_133 hh => ?_)
                  obtain ⟨rfl, f7⟩ := q_133
                  refine topv (zI (agB (pq V) (fun i j => V 9 (4 * i + j)) t (clr x2 i1) q n)) (by rw [p6, e69]) ?_
                  refine lv_if_eq (tgt := 151) hx hb dX4_least_136 (by decide) (fun c_136 => ?_) (fun c_136 => ?_)
                  · refine lv_iinc (v := (nI i1) - 1) (lv' := [(5, .int ((nI i1) - 1)), (0, .ref (ad 0)), (1, .int x), (2, .int (zI b)), (3, .int x2), (4, .int (zI b3))]) hx hb dX4_least_151 hl (k := 5) rfl (by rw [e1, show (Int32.ofInt (-1)) = -1 from rfl, i_m1]) (by decide) rfl (fun ls hl => ?_)
                    refine lv_goto (tgt := 102) hx hb dX4_least_154 (by decide) ?_
                    exact ih (i1, x2, b3, U7) _ _ _ ⟨hh, (lv_sub hl [1, 2, 3, 4, 5, 0] rfl), (by omega), (by rw [← hps, hi1, ps_no (fun z => absurd z.2.2 (by show ¬ agB (pq V) (fun i j => V 9 (4 * i + j)) t (clr x2 i1) q n = true; rw [zI_0.mp c_136]; decide))]), hcn, (f6.trans f7)⟩ (by dsimp only; omega)
                  · refine lv_iload_n hx hb dX4_least_139 rfl (lv_at hl 3 rfl) ?_
                    refine lv_iconst (v := 1) hx hb dX4_least_140 (by decide) ?_
                    refine lv_iload hx hb dX4_least_141 (lv_at hl 5 rfl) ?_
                    refine topv (nI i1) e1 ?_
                    refine lv_ishl hx hb dX4_least_143 ?_
                    refine topv (bitI i1) rfl ?_
                    refine lv_iconst (v := (-1)) hx hb dX4_least_144 (by decide) ?_
                    refine lv_ixor hx hb dX4_least_145 ?_
                    refine lv_iand hx hb dX4_least_146 ?_
                    refine topv (clr x2 i1) rfl ?_
                    refine lv_istore_n (lv' := [(3, .int (clr x2 i1)), (0, .ref (ad 0)), (1, .int x), (2, .int (zI b)), (4, .int (zI b3)), (5, .int ((nI i) - 1))]) hx hb dX4_least_147 rfl hl (by decide) rfl (fun ls hl => ?_)
                    refine lv_iconst (v := 1) hx hb dX4_least_148 (by decide) ?_
                    refine lv_istore (lv' := [(4, .int 1), (3, .int (clr x2 i1)), (0, .ref (ad 0)), (1, .int x), (2, .int (zI b)), (5, .int ((nI i) - 1))]) hx hb dX4_least_149 hl (by decide) rfl (fun ls hl => ?_)
                    refine lv_iinc (v := (nI i1) - 1) (lv' := [(5, .int ((nI i1) - 1)), (4, .int 1), (3, .int (clr x2 i1)), (0, .ref (ad 0)), (1, .int x), (2, .int (zI b))]) hx hb dX4_least_151 hl (k := 5) rfl (by rw [e1, show (Int32.ofInt (-1)) = -1 from rfl, i_m1]) (by decide) rfl (fun ls hl => ?_)
                    refine lv_goto (tgt := 102) hx hb dX4_least_154 (by decide) ?_
                    exact ih (i1, clr x2 i1, true, U7) _ _ _ ⟨hh, (lv_sub hl [3, 4, 5, 2, 1, 0] rfl), (by omega), (by rw [← hps, hi1, ps_yes c_110 c_120 (zI_ne c_136)]), (by have h9 := cnt_clr (x := x2) (i := i1) (by omega) c_120; exact ⟨by omega, fun _ => by omega, fun z => by cases z⟩), (f6.trans f7)⟩ (by dsimp only; omega)
        · refine lv_bipush (v := (-3)) hx hb dX4_least_69 (by decide) ?_
          exact retI (Wd := wQ k ad) (v := (-3)) (U) hx hb hr hlocks dX4_least_71 hh (⟨Or.inr ⟨q, hq, hxe, Or.inl ⟨by rcases Classical.em (t = 0) with h8 | h8; exact Or.inl h8; (refine Or.inr ?_; cases hb8 : nsB (pq V) (fun i j => V 9 (4 * i + j)) t q n with | false => rfl | true => exact absurd (hb2.mpr ⟨h8, fun j hj => ns_iff.mp hb8 j (by omega)⟩) (by rw [zI_ne c_66]; decide)), rfl⟩⟩, fw.l, hc.w fw⟩)
      · have c_30 : ¬ t ≤ i := fun z => c_30 ((nI_leI (a := t) (b := i) (by omega) (by omega)).mpr z)
        refine lv_iload_n hx hb dX4_least_33 rfl (lv_at hl 2 rfl) ?_
        refine lv_if_ne (tgt := 53) hx hb dX4_least_34 (by decide) (fun c_34 => ?_) (fun c_34 => ?_)
        · refine lv_iconst (v := 1) hx hb dX4_least_53 (by decide) ?_
          refine lv_goto (tgt := 58) hx hb dX4_least_54 (by decide) ?_
          refine lv_istore_n (lv' := [(2, .int 1), (0, .ref (ad 0)), (1, .int x), (3, .int (nI i))]) hx hb dX4_least_58 rfl hl (by decide) rfl (fun ls hl => ?_)
          refine lv_iinc (v := nI (i + 1)) (lv' := [(3, .int (nI (i + 1))), (2, .int 1), (0, .ref (ad 0)), (1, .int x)]) hx hb dX4_least_59 hl (k := 3) rfl (nI_succ i).symm (by decide) rfl (fun ls hl => ?_)
          refine lv_goto (tgt := 25) hx hb dX4_least_62 (by decide) ?_
          exact ih (i + 1, true, U) _ _ _ ⟨hh, (lv_sub hl [2, 3, 1, 0] rfl), (by omega), fw, ⟨fun z => (by cases z), fun z => absurd (hb2.mpr ⟨z.1, fun j hj => z.2 j (by omega)⟩) (by rw [zI_ne c_34]; decide)⟩⟩ (by dsimp only; omega)
        · refine lv_aload_n hx hb dX4_least_37 rfl (lv_at hl 0 rfl) ?_
          refine lv_iload_n hx hb dX4_least_38 rfl (lv_at hl 1 rfl) ?_
          refine topv (nI q) hxe ?_
          refine lv_aload_n hx hb dX4_least_39 rfl (lv_at hl 0 rfl) ?_
          refine gfl hx hb hg inX4 hown hK hh.1 0 (ci := 4) rfl rfl 10 (by decide) wd_561 rfl dX4_least_40 ?_
          refine lv_iconst (v := 4) hx hb dX4_least_43 (by decide) ?_
          refine lv_iload_n hx hb dX4_least_44 rfl (lv_at hl 3 rfl) ?_
          refine lv_imul hx hb dX4_least_45 ?_
          refine topv (nI (4 * i)) (pk_mul 4 i) ?_
          refine callWI (D := D) (wn := fun U2 => wQ k ad U2) (wr := []) (runV hx hb hg hown hml hl.1 ((c_X4_whole_9 l D k ad U hvU (t := i) (by omega) q (by omega)) H.size) [.int (nI q), .ref (ad 9), .int (nI (4 * i))] [] (preX (mapSome_sub hh.1 [0, 1, 2, 3, 4, 5, 6, 7, 8, 9, 10, 11, 12, 13, 14, 15, 16, 17, 18, 19, 20, 21, 22] rfl) (hh.2.1.sub [0, 1, 2, 3, 4, 5, 6, 7, 8, 9, 10, 11, 12, 13, 14, 15, 16, 17, 18, 19, 20, 21, 22] (by decide) rfl) hK hN xb0 x0) (va_recv hK hh.1 (ci := 4) (q0 := 0) rfl rfl) wd_836 wd_838 wd_45 wd_53 wd_839 lk_X4_whole ⟨rfl, rfl⟩ ⟨by decide, by decide⟩ ⟨Nat.zero_le _, Nat.zero_le _⟩ rfl (Nat.le_of_ble_eq_true rfl) dX4_least_46) hA hh [0, 1, 2, 3, 4, 5, 6, 7, 8, 9, 10, 11, 12, 13, 14, 15, 16, 17, 18, 19, 20, 21, 22] [] [0, 1, 2, 3, 4, 5, 6, 7, 8, 9, 10, 11, 12, 13, 14, 15, 16, 17, 18, 19, 20, 21, 22] rfl rfl (by decide) (by decide) (by decide) (fun _ => rfl) (fun r_46 U2 H locs q_46 hh => ?_)
          obtain ⟨e1, _, _, f2⟩ := q_46
          rw [pU, eU9] at e1
          rw [e1]
          have hw2 := hw_le (P := pq V) (I := (fun k => V 9 (4 * i + k))) (x := -1) (w := q) (n := n)
          have fw2 : FrW V U2 := fw.trans f2
          refine lv_iconst (v := 2) hx hb dX4_least_49 (by decide) ?_
          refine lv_icmp_ne (tgt := 57) hx hb dX4_least_50 (by decide) (fun c_50 => ?_) (fun c_50 => ?_)
          · have c_50 : ¬ hwF (pq V) (fun k => V 9 (4 * i + k)) (-1) q n = 2 := fun z => c_50 ((nI_eq (a := hwF (pq V) (fun k => V 9 (4 * i + k)) (-1) q n) (b := 2) (by omega) (by omega)).mpr z)
            refine lv_iconst (v := 0) hx hb dX4_least_57 (by decide) ?_
            refine lv_istore_n (lv' := [(2, .int 0), (0, .ref (ad 0)), (1, .int x), (3, .int (nI i))]) hx hb dX4_least_58 rfl hl (by decide) rfl (fun ls hl => ?_)
            refine lv_iinc (v := nI (i + 1)) (lv' := [(3, .int (nI (i + 1))), (2, .int 0), (0, .ref (ad 0)), (1, .int x)]) hx hb dX4_least_59 hl (k := 3) rfl (nI_succ i).symm (by decide) rfl (fun ls hl => ?_)
            refine lv_goto (tgt := 25) hx hb dX4_least_62 (by decide) ?_
            exact ih (i + 1, false, U2) _ _ _ ⟨hh, (lv_sub hl [2, 3, 1, 0] rfl), (by omega), fw2, ⟨fun _ => ⟨(hb2.mp (zI_0.mp c_34)).1, fun j hj => by rcases Classical.em (j = i) with e | e; (rw [e]; exact c_50); exact (hb2.mp (zI_0.mp c_34)).2 j (by omega)⟩, fun _ => rfl⟩⟩ (by dsimp only; omega)
          · have c_50 : hwF (pq V) (fun k => V 9 (4 * i + k)) (-1) q n = 2 := (nI_eq (a := hwF (pq V) (fun k => V 9 (4 * i + k)) (-1) q n) (b := 2) (by omega) (by omega)).mp c_50
            refine lv_iconst (v := 1) hx hb dX4_least_53 (by decide) ?_
            refine lv_goto (tgt := 58) hx hb dX4_least_54 (by decide) ?_
            refine lv_istore_n (lv' := [(2, .int 1), (0, .ref (ad 0)), (1, .int x), (3, .int (nI i))]) hx hb dX4_least_58 rfl hl (by decide) rfl (fun ls hl => ?_)
            refine lv_iinc (v := nI (i + 1)) (lv' := [(3, .int (nI (i + 1))), (2, .int 1), (0, .ref (ad 0)), (1, .int x)]) hx hb dX4_least_59 hl (k := 3) rfl (nI_succ i).symm (by decide) rfl (fun ls hl => ?_)
            refine lv_goto (tgt := 25) hx hb dX4_least_62 (by decide) ?_
            exact ih (i + 1, true, U2) _ _ _ ⟨hh, (lv_sub hl [2, 3, 1, 0] rfl), (by omega), fw2, ⟨fun z => (by cases z), fun z => absurd c_50 (z.2 i (by omega))⟩⟩ (by dsimp only; omega)
  · have c_5 := zI_0.mp c_5
    have c_5 : ¬ rgt x n := fun z => by rw [hP1.mpr z] at c_5; cases c_5
    refine lv_iconst (v := (-1)) hx hb dX4_least_8 (by decide) ?_
    exact retI (Wd := wQ k ad) (v := (-1)) (V) hx hb hr hlocks dX4_least_9 hh (⟨Or.inl ⟨c_5, rfl⟩, FrX.rf, hc⟩)
