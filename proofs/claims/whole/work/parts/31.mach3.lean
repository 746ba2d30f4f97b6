/-! the class Machine: perform, toldLike -/
theorem nwS_le {n : Nat} {Pv : St} (hv : okV n Pv) {r : Nat → Int32} {q : Nat} (hq : q < 24) : nwS Pv r q ≤ 24 := by
  obtain ⟨j, hk, hj, hlA, hlB, hlC⟩ := hv.2.2.1 q hq
  have hB : j = 11 ∨ j = 12 → ix (Pv 3 q) ≤ 24 := fun h => by
    have h2 : lim 25 (Pv 3 q) := by rcases h with rfl | rfl <;> exact hlB
    obtain ⟨b, hb, e⟩ := lim_nI h2 (by decide)
    rw [e, ix_nI (by omega)]; omega
  unfold nwS
  rw [kd_of hk hj]
  split
  · omega
  · split
    · split
      · exact hB (by omega)
      · omega
    · split
      · exact hB (by omega)
      · split <;> omega
def bgS (Pv : St) (I : Nat → Int32) (U : St) : Prop := (∀ j, j < 8 → U 1 j = 0) ∧ (∀ j, j < 32 → U 2 j = 0) ∧ (∀ j, j < 4 → U 3 j = Pv 5 j) ∧ (∀ j, j < 4 → U 4 j = nI (chR (Pv 7 j) (I 3)))
def pfS (Pv : St) (I : Nat → Int32) (x : Int32) (w n : Nat) (r : Int32) (U : St) : Prop := ∃ (U0 : St) (c s m : Nat), bgS Pv I U0 ∧ c ≤ 100 ∧ s ≤ 100 ∧ r = nI m ∧ U 0 5 = nI c ∧ U 0 7 = nI s ∧ rnS Pv I (U0 4) x w n 100 (ffS x n 0) (U0 1, U0 2, U0 3, U0 5, 0, 0) = (m, U 0 8, (U 1, U 2, U 3, U 5, c, s))
abbrev rmX0_perform : Room := { frames := 3, cells := 0, slots := 0, locals := 72 }
theorem lk_X0_perform : Lk yX0_perform 4 := by decide +kernel
set_option maxHeartbeats 4000000 in
set_option maxRecDepth 100000 in
/-- perform(program, inputs, set, watched) -/
theorem c_X0_perform (l : Launch) (D : va_G) (k : Nat → ClassId) (ad : Nat → Nat) (V : St) (bd : Nat → Nat) (Pv : St) {n : Nat} (hv : okV n Pv) (ia : Nat) (I : Nat → Int32) (x : Int32) {w : Nat} (hw : w < 24) : CtX noX l yX0_perform cX0_perform 7 (some .int) rmX0_perform D (tyL k) ((wM k ad V) ++ (wP k bd Pv) ++ ([(ia, aI k 4 I)])) [.ref (ad 0), .ref (bd 0), .ref ia, .int x, .int (nI w)] (qI D (fun U => (wM k ad U) ++ (wP k bd Pv) ++ ([(ia, aI k 4 I)])) (fun r U => pfS Pv I x w n r U)) := by
  refine CtX.mk (by decide) (Nat.le_of_ble_eq_true rfl) ?_
  intro p e s m below meth c hx hb hml hown hg hr hlocks hK hN A hA hX hh ls hl
  have hh : Hd D A ((wM k ad V) ++ (wP k bd Pv) ++ ([(ia, aI k 4 I)])) s.heap s.heap [] := hh
  have hl : lv_has ls 7 [(0, .ref (ad 0)), (1, .ref (bd 0)), (2, .ref ia), (3, .int x), (4, .int (nI w))] := hl
  have hn24 := hv.1
  refine lv_aload_n hx hb dX0_perform_0 rfl (lv_at hl 0 rfl) ?_
  refine lv_aload_n hx hb dX0_perform_1 rfl (lv_at hl 1 rfl) ?_
  refine lv_aload_n hx hb dX0_perform_2 rfl (lv_at hl 2 rfl) ?_
  refine callWV (D := D) (wn := fun U0 => (wM k ad U0) ++ (wP k bd Pv) ++ ([(ia, aI k 4 I)])) (wr := []) (runV hx hb hg hown hml hl.1 ((c_X0_begin l D k ad V bd Pv hv ia I) s.heap.size) [.ref (bd 0), .ref ia] [] (preX (mapSome_sub hh.1 [0, 1, 2, 3, 4, 5, 6, 7, 8, 9, 10, 11, 12, 13, 14] rfl) (hh.2.1.sub [0, 1, 2, 3, 4, 5, 6, 7, 8, 9, 10, 11, 12, 13, 14] (by decide) rfl) hK hN xb0 x0) (va_recv hK hh.1 (ci := 0) (q0 := 0) rfl rfl) wd_385 wd_387 wd_13 wd_52 wd_388 lk_X0_begin ⟨rfl, rfl⟩ ⟨by decide, by decide⟩ ⟨Nat.zero_le _, Nat.zero_le _⟩ rfl (Nat.le_of_ble_eq_true rfl) dX0_perform_3) hA hh [0, 1, 2, 3, 4, 5, 6, 7, 8, 9, 10, 11, 12, 13, 14] [] [0, 1, 2, 3, 4, 5, 6, 7, 8, 9, 10, 11, 12, 13, 14] rfl rfl (by decide) (by decide) (by decide) (fun _ => rfl) (fun U0 H locs q_3 hh => ?_)
  obtain ⟨b1, b2, b3, b4, b5, b6, b7, b8⟩ := q_3
  have hrow : ∀ d, d < 4 → ∃ i, i < 4 ∧ U0 4 d = nI i := fun d hd => ⟨_, chR_lt _ _, b4 d hd⟩
  refine lv_iconst (v := 0) hx hb dX0_perform_6 (by decide) ?_
  refine lv_iload_n hx hb dX0_perform_7 rfl (lv_at hl 3 rfl) ?_
  refine lv_aload_n hx hb dX0_perform_8 rfl (lv_at hl 1 rfl) ?_
  refine gflN hx hb hg hN inX1 hown hK hh.1 6 (ci := 1) rfl rfl 7 (by decide) 88 nst_88 rfl dX0_perform_9 ?_
  refine topv (nI n) hv.2.1 ?_
  refine callR (runS hx hb hg hown hml hl.1 (c_X0_firstFrom l D k (a := 0) (by omega) x hn24) [.int 0, .int x, .int (nI n)] [] (preR (mapSome_sub hh.1 [] rfl) hK hN xb0 x0) wd_400 wd_401 wd_52 wd_402 lk_X0_firstFrom ⟨rfl, rfl⟩ ⟨by decide, by decide⟩ ⟨Nat.zero_le _, Nat.zero_le _⟩ rfl (Nat.le_of_ble_eq_true rfl) dX0_perform_12) (fun r_12 q_12 => ?_)
  obtain rfl := q_12
  refine lv_istore (lv' := [(5, .int (nI (ffS x n 0))), (0, .ref (ad 0)), (1, .ref (bd 0)), (2, .ref ia), (3, .int x), (4, .int (nI w))]) hx hb dX0_perform_15 hl (by decide) rfl (fun ls hl => ?_)
  refine loopW (σ := Nat × Nat × Nat × St) (fun zz9 H locs ls => match zz9 with | (a1, c, s1, U) => Hd D A ((wM k ad U) ++ (wP k bd Pv) ++ ([(ia, aI k 4 I)])) s.heap H locs ∧ lv_has ls 7 [(0, .ref (ad 0)), (1, .ref (bd 0)), (2, .ref ia), (3, .int x), (4, .int (nI w)), (5, .int (nI a1))] ∧ (a1 ≤ 24) ∧ (s1 ≤ 100) ∧ (c ≤ s1) ∧ (U 0 5 = nI c) ∧ (U 0 7 = nI s1) ∧ (U 0 8 = -4) ∧ (U 4 = U0 4) ∧ (rnS Pv I (U0 4) x w n (100 - s1) a1 (U 1, U 2, U 3, U 5, c, s1) = rnS Pv I (U0 4) x w n 100 (ffS x n 0) (U0 1, U0 2, U0 3, U0 5, 0, 0))) (fun zz9 => match zz9 with | (a1, c, s1, U) => 100 - s1) ?_ (ffS x n 0, 0, 0, U0) ⟨hh, (lv_sub hl [1, 2, 3, 4, 5, 0] rfl), (ffS_le hn24 (by omega)), (by omega), (by omega), b6, b7, b8, rfl, rfl⟩
  intro zz9 H locs ls hI ih
  obtain ⟨a1, c, s1, U⟩ := zz9
  obtain ⟨hh, hl, ha1, hs, hc, h5, h7, h8, h4, he⟩ := hI
  refine lv_iload hx hb dX0_perform_17 (lv_at hl 5 rfl) ?_
  refine lv_aload_n hx hb dX0_perform_19 rfl (lv_at hl 1 rfl) ?_
  refine gflN hx hb hg hN inX1 hown hK hh.1 6 (ci := 1) rfl rfl 7 (by decide) 88 nst_88 rfl dX0_perform_20 ?_
  refine topv (nI n) hv.2.1 ?_
  refine lv_icmp_ge (tgt := 120) hx hb dX0_perform_23 (by decide) (fun c_23 => ?_) (fun c_23 => ?_)
  · have c_23 : n ≤ a1 := (nI_leI (a := n) (b := a1) (by omega) (by omega)).mp c_23
    refine lv_iload hx hb dX0_perform_120 (lv_at hl 5 rfl) ?_
    refine lv_aload_n hx hb dX0_perform_122 rfl (lv_at hl 1 rfl) ?_
    refine gflN hx hb hg hN inX1 hown hK hh.1 6 (ci := 1) rfl rfl 7 (by decide) 88 nst_88 rfl dX0_perform_123 ?_
    refine topv (nI n) hv.2.1 ?_
    refine lv_icmp_ge (tgt := 133) hx hb dX0_perform_126 (by decide) (fun c_126 => ?_) (fun c_126 => ?_)
    · have c_126 : n ≤ a1 := (nI_leI (a := n) (b := a1) (by omega) (by omega)).mp c_126
      refine lv_iconst (v := 0) hx hb dX0_perform_133 (by decide) ?_
      exact retI (Wd := fun U => (wM k ad U) ++ (wP k bd Pv) ++ ([(ia, aI k 4 I)])) (v := 0) (U) hx hb hr hlocks dX0_perform_134 hh (⟨U0, c, s1, 0, ⟨b1, b2, b3, b4⟩, by omega, hs, rfl, h5, h7, by rw [← he, rn_end (m := 100 - s1) (p := a1) (by omega), h8]⟩)
    · have c_126 : ¬ n ≤ a1 := fun z => c_126 ((nI_leI (a := n) (b := a1) (by omega) (by omega)).mpr z)
      refine lv_iconst (v := 2) hx hb dX0_perform_129 (by decide) ?_
      refine lv_goto (tgt := 134) hx hb dX0_perform_130 (by decide) ?_
      exact retI (Wd := fun U => (wM k ad U) ++ (wP k bd Pv) ++ ([(ia, aI k 4 I)])) (v := 2) (U) hx hb hr hlocks dX0_perform_134 hh (⟨U0, c, s1, 2, ⟨b1, b2, b3, b4⟩, by omega, hs, rfl, h5, h7, by rw [← he, show 100 - s1 = 0 by omega, h8]; show (ite _ _ _, _) = _; rw [if_pos (by omega)]⟩)
  · have c_23 : ¬ n ≤ a1 := fun z => c_23 ((nI_leI (a := n) (b := a1) (by omega) (by omega)).mpr z)
    refine lv_aload_n hx hb dX0_perform_26 rfl (lv_at hl 0 rfl) ?_
    refine gfl hx hb hg inX0 hown hK hh.1 0 (ci := 0) rfl rfl 7 (by decide) wd_167 rfl dX0_perform_27 ?_
    refine topv (nI s1) h7 ?_
    refine lv_bipush (v := 100) hx hb dX0_perform_30 (by decide) ?_
    refine lv_icmp_ge (tgt := 120) hx hb dX0_perform_32 (by decide) (fun c_32 => ?_) (fun c_32 => ?_)
    · have c_32 : 100 ≤ s1 := (nI_leI (a := 100) (b := s1) (by omega) (by omega)).mp c_32
      refine lv_iload hx hb dX0_perform_120 (lv_at hl 5 rfl) ?_
      refine lv_aload_n hx hb dX0_perform_122 rfl (lv_at hl 1 rfl) ?_
      refine gflN hx hb hg hN inX1 hown hK hh.1 6 (ci := 1) rfl rfl 7 (by decide) 88 nst_88 rfl dX0_perform_123 ?_
      refine topv (nI n) hv.2.1 ?_
      refine lv_icmp_ge (tgt := 133) hx hb dX0_perform_126 (by decide) (fun c_126 => ?_) (fun c_126 => ?_)
      · have c_126 : n ≤ a1 := (nI_leI (a := n) (b := a1) (by omega) (by omega)).mp c_126
        refine lv_iconst (v := 0) hx hb dX0_perform_133 (by decide) ?_
        exact retI (Wd := fun U => (wM k ad U) ++ (wP k bd Pv) ++ ([(ia, aI k 4 I)])) (v := 0) (U) hx hb hr hlocks dX0_perform_134 hh (⟨U0, c, s1, 0, ⟨b1, b2, b3, b4⟩, by omega, hs, rfl, h5, h7, by rw [← he, rn_end (m := 100 - s1) (p := a1) (by omega), h8]⟩)
      · have c_126 : ¬ n ≤ a1 := fun z => c_126 ((nI_leI (a := n) (b := a1) (by omega) (by omega)).mpr z)
        refine lv_iconst (v := 2) hx hb dX0_perform_129 (by decide) ?_
        refine lv_goto (tgt := 134) hx hb dX0_perform_130 (by decide) ?_
        exact retI (Wd := fun U => (wM k ad U) ++ (wP k bd Pv) ++ ([(ia, aI k 4 I)])) (v := 2) (U) hx hb hr hlocks dX0_perform_134 hh (⟨U0, c, s1, 2, ⟨b1, b2, b3, b4⟩, by omega, hs, rfl, h5, h7, by rw [← he, show 100 - s1 = 0 by omega, h8]; show (ite _ _ _, _) = _; rw [if_pos (by omega)]⟩)
    · have c_32 : ¬ 100 ≤ s1 := fun z => c_32 ((nI_leI (a := 100) (b := s1) (by omega) (by omega)).mpr z)
      refine lv_aload_n hx hb dX0_perform_35 rfl (lv_at hl 0 rfl) ?_
      refine lv_dup hx hb dX0_perform_36 rfl ?_
      refine gfl hx hb hg inX0 hown hK hh.1 0 (ci := 0) rfl rfl 7 (by decide) wd_167 rfl dX0_perform_37 ?_
      refine topv (nI s1) h7 ?_
      refine lv_iconst (v := 1) hx hb dX0_perform_40 (by decide) ?_
      refine lv_iadd hx hb dX0_perform_41 ?_
      refine topv (nI (s1 + 1)) (nI_add s1 1) ?_
      refine pfl hx hb hg inX0 tyX0 tyX0_ok nmX0 hown hK hh 0 (ci := 0) rfl rfl 7 (by decide) wd_167 rfl rfl rfl (Nat.le_of_ble_eq_true rfl) dX0_perform_42 ((wM k ad (va_up U 0 (upd (U 0) 7 (nI (s1 + 1))))) ++ (wP k bd Pv) ++ ([(ia, aI k 4 I)])) rfl (fun H locs hh => ?_)
      refine lv_aload_n hx hb dX0_perform_45 rfl (lv_at hl 0 rfl) ?_
      refine lv_aload_n hx hb dX0_perform_46 rfl (lv_at hl 1 rfl) ?_
      refine lv_aload_n hx hb dX0_perform_47 rfl (lv_at hl 2 rfl) ?_
      refine lv_iload hx hb dX0_perform_48 (lv_at hl 5 rfl) ?_
      refine callWI (D := D) (wn := fun U2 => (wM k ad U2) ++ (wP k bd Pv) ++ ([(ia, aI k 4 I)])) (wr := []) (runV hx hb hg hown hml hl.1 ((c_X0_step l D k ad (va_up U 0 (upd (U 0) 7 (nI (s1 + 1)))) bd Pv hv ia I (q := a1) (by omega) (by rw [show (va_up U 0 (upd (U 0) 7 (nI (s1 + 1)))) 4 = U0 4 from h4]; exact hrow)) H.size) [.ref (bd 0), .ref ia, .int (nI a1)] [] (preX (mapSome_sub hh.1 [0, 1, 2, 3, 4, 5, 6, 7, 8, 9, 10, 11, 12, 13, 14] rfl) (hh.2.1.sub [0, 1, 2, 3, 4, 5, 6, 7, 8, 9, 10, 11, 12, 13, 14] (by decide) rfl) hK hN xb0 x0) (va_recv hK hh.1 (ci := 0) (q0 := 0) rfl rfl) wd_403 wd_405 wd_14 wd_52 wd_406 lk_X0_step ⟨rfl, rfl⟩ ⟨by decide, by decide⟩ ⟨Nat.zero_le _, Nat.zero_le _⟩ rfl (Nat.le_of_ble_eq_true rfl) dX0_perform_50) hA hh [0, 1, 2, 3, 4, 5, 6, 7, 8, 9, 10, 11, 12, 13, 14] [] [0, 1, 2, 3, 4, 5, 6, 7, 8, 9, 10, 11, 12, 13, 14] rfl rfl (by decide) (by decide) (by decide) (fun _ => rfl) (fun r_50 U2 H locs q_50 hh => ?_)
      obtain ⟨rfl, t1, t2, t3, t4, t5, t6, t7, t8, t9⟩ := q_50
      have t1 : U2 1 = reS Pv I (U 1) (U 2) (U 3) (U 4) a1 := t1
      have t2 : U2 2 = tiS Pv I (U 1) (U 2) (U 3) (U 4) a1 := t2
      have t3 : U2 3 = glS Pv I (U 1) (U 2) (U 3) (U 4) a1 := t3
      have t4 : U2 4 = U 4 := t4
      have t5 : U2 5 = U 5 := t5
      have t6 : U2 0 5 = nI c := t6.trans h5
      have t7 : U2 0 6 = tlS Pv I (U 1) (U 2) (U 3) (U 4) a1 := t7
      have t8 : U2 0 7 = nI (s1 + 1) := t8
      have t9 : U2 0 8 = if stF Pv (U 1) a1 = true then nI a1 else -4 := by rw [← h8]; exact t9
      refine lv_istore (lv' := [(6, .int (nI (nwS Pv (U 1) a1))), (0, .ref (ad 0)), (1, .ref (bd 0)), (2, .ref ia), (3, .int x), (4, .int (nI w)), (5, .int (nI a1))]) hx hb dX0_perform_53 hl (by decide) rfl (fun ls hl => ?_)
      refine lv_iload hx hb dX0_perform_55 (lv_at hl 6 rfl) ?_
      refine lv_iload hx hb dX0_perform_57 (lv_at hl 5 rfl) ?_
      refine lv_icmp_ne (tgt := 94) hx hb dX0_perform_59 (by decide) (fun c_59 => ?_) (fun c_59 => ?_)
      · have c_59 : ¬ a1 = w := fun z => c_59 ((nI_eq (a := a1) (b := w) (by omega) (by omega)).mpr z)
        refine lv_aload_n hx hb dX0_perform_94 rfl (lv_at hl 1 rfl) ?_
        refine gfl hx hb hg inX0 hown hK hh.1 0 (ci := 0) rfl rfl 8 (by decide) wd_169 rfl dX0_perform_95 ?_
        refine topv (if stF Pv (U 1) a1 = true then nI a1 else -4) t9 ?_
        refine lv_bipush (v := (-4)) hx hb dX0_perform_98 (by decide) ?_
        refine lv_icmp_eq (tgt := 105) hx hb dX0_perform_100 (by decide) (fun c_100 => ?_) (fun c_100 => ?_)
        · have hF : stF Pv (U 1) a1 = false := by cases hb9 : stF Pv (U 1) a1 with | false => rfl | true => (rw [hb9, if_pos rfl] at c_100; exact absurd c_100 (nI_m4 (by omega)))
          refine lv_iload hx hb dX0_perform_105 (lv_at hl 0 rfl) ?_
          refine lv_iload_n hx hb dX0_perform_107 rfl (lv_at hl 4 rfl) ?_
          refine lv_aload_n hx hb dX0_perform_108 rfl (lv_at hl 2 rfl) ?_
          refine gflN hx hb hg hN inX1 hown hK hh.1 6 (ci := 1) rfl rfl 7 (by decide) 88 nst_88 rfl dX0_perform_109 ?_
          refine topv (nI n) hv.2.1 ?_
          refine callR (runS hx hb hg hown hml hl.1 (c_X0_firstFrom l D k (a := nwS Pv (U 1) a1) (Nat.le_succ_of_le (nwS_le hv (by omega))) x hn24) [.int (nI (nwS Pv (U 1) a1)), .int x, .int (nI n)] [] (preR (mapSome_sub hh.1 [] rfl) hK hN xb0 x0) wd_400 wd_401 wd_52 wd_402 lk_X0_firstFrom ⟨rfl, rfl⟩ ⟨by decide, by decide⟩ ⟨Nat.zero_le _, Nat.zero_le _⟩ rfl (Nat.le_of_ble_eq_true rfl) dX0_perform_112) (fun r_112 q_112 => ?_)
          obtain rfl := q_112
          refine lv_istore (lv' := [(5, .int (nI (ffS x n (nwS Pv (U 1) a1)))), (6, .int (nI (nwS Pv (U 1) a1))), (0, .ref (ad 0)), (1, .ref (bd 0)), (2, .ref ia), (3, .int x), (4, .int (nI w))]) hx hb dX0_perform_115 hl (by decide) rfl (fun ls hl => ?_)
          refine lv_goto (tgt := 17) hx hb dX0_perform_117 (by decide) ?_
          have eT : rsS Pv I (U0 4) w a1 (U 1, U 2, U 3, U 5, c, s1) = (U2 1, U2 2, U2 3, U2 5, c, s1 + 1) := by
            show (reS Pv I (U 1) (U 2) (U 3) (U0 4) a1, tiS Pv I (U 1) (U 2) (U 3) (U0 4) a1, glS Pv I (U 1) (U 2) (U 3) (U0 4) a1, ite _ _ _, ite _ _ _, s1 + 1) = _
            rw [if_neg c_59, if_neg c_59, t1, t2, t3, t5, h4]
          exact ih (ffS x n (nwS Pv (U 1) a1), c, s1 + 1, U2) _ _ _ ⟨hh, (lv_sub hl [2, 3, 4, 5, 6, 0] rfl), (ffS_le hn24 (nwS_le hv (by omega))), (by omega), (by omega), t6, t8, (by rw [show (U2) 0 8 = U2 0 8 from rfl, t9, hF]; rfl), (t4.trans h4), (by rw [← he, rn_go (m := 100 - s1) (p := a1) (by omega) (by omega) hF, eT, Nat.sub_sub]; first | done | rfl)⟩ (by dsimp only; omega)
        · have hF : stF Pv (U 1) a1 = true := by cases hb9 : stF Pv (U 1) a1 with | true => rfl | false => (rw [hb9, if_neg (by decide)] at c_100; exact absurd rfl c_100)
          refine lv_iconst (v := 1) hx hb dX0_perform_103 (by decide) ?_
          have eT : rsS Pv I (U0 4) w a1 (U 1, U 2, U 3, U 5, c, s1) = (U2 1, U2 2, U2 3, U2 5, c, s1 + 1) := by
            show (reS Pv I (U 1) (U 2) (U 3) (U0 4) a1, tiS Pv I (U 1) (U 2) (U 3) (U0 4) a1, glS Pv I (U 1) (U 2) (U 3) (U0 4) a1, ite _ _ _, ite _ _ _, s1 + 1) = _
            rw [if_neg c_59, if_neg c_59, t1, t2, t3, t5, h4]
          exact retI (Wd := fun U => (wM k ad U) ++ (wP k bd Pv) ++ ([(ia, aI k 4 I)])) (v := 1) (U2) hx hb hr hlocks dX0_perform_104 hh (⟨U0, c, s1 + 1, 1, ⟨b1, b2, b3, b4⟩, by omega, by omega, rfl, t6, t8, by rw [← he, rn_fail (m := 100 - s1) (p := a1) (by omega) (by omega) hF, eT, show (U2) 0 8 = U2 0 8 from rfl, t9, hF]; rfl⟩)
      · have c_59 : a1 = w := (nI_eq (a := a1) (b := w) (by omega) (by omega)).mp c_59
        refine lv_aload_n hx hb dX0_perform_62 rfl (lv_at hl 1 rfl) ?_
        refine gfl hx hb hg inX0 hown hK hh.1 0 (ci := 0) rfl rfl 5 (by decide) wd_164 rfl dX0_perform_63 ?_
        refine topv (nI c) t6 ?_
        refine lv_bipush (v := 100) hx hb dX0_perform_66 (by decide) ?_
        refine lv_icmp_ge (tgt := 94) hx hb dX0_perform_68 (by decide) (fun c_68 => ?_) (fun c_68 => ?_)
        · have c_68 : 100 ≤ c := (nI_leI (a := 100) (b := c) (by omega) (by omega)).mp c_68
          exact absurd c_68 (by omega)
        · have c_68 : ¬ 100 ≤ c := fun z => c_68 ((nI_leI (a := 100) (b := c) (by omega) (by omega)).mpr z)
          refine lv_aload_n hx hb dX0_perform_71 rfl (lv_at hl 1 rfl) ?_
          refine gfl hx hb hg inX0 hown hK hh.1 0 (ci := 0) rfl rfl 4 (by decide) wd_162 rfl dX0_perform_72 ?_
          refine lv_aload_n hx hb dX0_perform_75 rfl (lv_at hl 1 rfl) ?_
          refine gfl hx hb hg inX0 hown hK hh.1 0 (ci := 0) rfl rfl 5 (by decide) wd_164 rfl dX0_perform_76 ?_
          refine topv (nI c) t6 ?_
          refine lv_aload_n hx hb dX0_perform_79 rfl (lv_at hl 1 rfl) ?_
          refine gfl hx hb hg inX0 hown hK hh.1 0 (ci := 0) rfl rfl 6 (by decide) wd_166 rfl dX0_perform_80 ?_
          refine topv (tlS Pv I (U 1) (U 2) (U 3) (U 4) a1) t7 ?_
          refine stn (j := c) hx hb hK hh 5 0 rfl rfl (by omega) (by decide) dX0_perform_83 ((wM k ad (va_up U2 5 (upd (U2 5) c (tlS Pv I (U 1) (U 2) (U 3) (U 4) a1)))) ++ (wP k bd Pv) ++ ([(ia, aI k 4 I)])) rfl (fun H locs hh => ?_)
          refine lv_aload_n hx hb dX0_perform_84 rfl (lv_at hl 1 rfl) ?_
          refine lv_dup hx hb dX0_perform_85 rfl ?_
          refine gfl hx hb hg inX0 hown hK hh.1 0 (ci := 0) rfl rfl 5 (by decide) wd_164 rfl dX0_perform_86 ?_
          refine topv (nI c) t6 ?_
          refine lv_iconst (v := 1) hx hb dX0_perform_89 (by decide) ?_
          refine lv_iadd hx hb dX0_perform_90 ?_
          refine topv (nI (c + 1)) (nI_add c 1) ?_
          refine pfl hx hb hg inX0 tyX0 tyX0_ok nmX0 hown hK hh 0 (ci := 0) rfl rfl 5 (by decide) wd_164 rfl rfl rfl (Nat.le_of_ble_eq_true rfl) dX0_perform_91 ((wM k ad (va_up (va_up U2 5 (upd (U2 5) c (tlS Pv I (U 1) (U 2) (U 3) (U 4) a1))) 0 (upd ((va_up U2 5 (upd (U2 5) c (tlS Pv I (U 1) (U 2) (U 3) (U 4) a1))) 0) 5 (nI (c + 1))))) ++ (wP k bd Pv) ++ ([(ia, aI k 4 I)])) rfl (fun H locs hh => ?_)
          refine lv_aload_n hx hb dX0_perform_94 rfl (lv_at hl 1 rfl) ?_
          refine gfl hx hb hg inX0 hown hK hh.1 0 (ci := 0) rfl rfl 8 (by decide) wd_169 rfl dX0_perform_95 ?_
          refine topv (if stF Pv (U 1) a1 = true then nI a1 else -4) t9 ?_
          refine lv_bipush (v := (-4)) hx hb dX0_perform_98 (by decide) ?_
          refine lv_icmp_eq (tgt := 105) hx hb dX0_perform_100 (by decide) (fun c_100 => ?_) (fun c_100 => ?_)
          · have hF : stF Pv (U 1) a1 = false := by cases hb9 : stF Pv (U 1) a1 with | false => rfl | true => (rw [hb9, if_pos rfl] at c_100; exact absurd c_100 (nI_m4 (by omega)))
            refine lv_iload hx hb dX0_perform_105 (lv_at hl 0 rfl) ?_
            refine lv_iload_n hx hb dX0_perform_107 rfl (lv_at hl 4 rfl) ?_
            refine lv_aload_n hx hb dX0_perform_108 rfl (lv_at hl 2 rfl) ?_
            refine gflN hx hb hg hN inX1 hown hK hh.1 6 (ci := 1) rfl rfl 7 (by decide) 88 nst_88 rfl dX0_perform_109 ?_
            refine topv (nI n) hv.2.1 ?_
            refine callR (runS hx hb hg hown hml hl.1 (c_X0_firstFrom l D k (a := nwS Pv (U 1) a1) (Nat.le_succ_of_le (nwS_le hv (by omega))) x hn24) [.int (nI (nwS Pv (U 1) a1)), .int x, .int (nI n)] [] (preR (mapSome_sub hh.1 [] rfl) hK hN xb0 x0) wd_400 wd_401 wd_52 wd_402 lk_X0_firstFrom ⟨rfl, rfl⟩ ⟨by decide, by decide⟩ ⟨Nat.zero_le _, Nat.zero_le _⟩ rfl (Nat.le_of_ble_eq_true rfl) dX0_perform_112) (fun r_112 q_112 => ?_)
            obtain rfl := q_112
            refine lv_istore (lv' := [(5, .int (nI (ffS x n (nwS Pv (U 1) a1)))), (6, .int (nI (nwS Pv (U 1) a1))), (0, .ref (ad 0)), (1, .ref (bd 0)), (2, .ref ia), (3, .int x), (4, .int (nI w))]) hx hb dX0_perform_115 hl (by decide) rfl (fun ls hl => ?_)
            refine lv_goto (tgt := 17) hx hb dX0_perform_117 (by decide) ?_
            have eT : rsS Pv I (U0 4) w a1 (U 1, U 2, U 3, U 5, c, s1) = (U2 1, U2 2, U2 3, upd (U2 5) c (tlS Pv I (U 1) (U 2) (U 3) (U 4) a1), c + 1, s1 + 1) := by
              show (reS Pv I (U 1) (U 2) (U 3) (U0 4) a1, tiS Pv I (U 1) (U 2) (U 3) (U0 4) a1, glS Pv I (U 1) (U 2) (U 3) (U0 4) a1, ite _ _ _, ite _ _ _, s1 + 1) = _
              rw [if_pos c_59, if_pos c_59, t1, t2, t3, t5, h4]
            exact ih (ffS x n (nwS Pv (U 1) a1), c + 1, s1 + 1, va_up (va_up U2 5 (upd (U2 5) c (tlS Pv I (U 1) (U 2) (U 3) (U 4) a1))) 0 (upd ((va_up U2 5 (upd (U2 5) c (tlS Pv I (U 1) (U 2) (U 3) (U 4) a1))) 0) 5 (nI (c + 1)))) _ _ _ ⟨hh, (lv_sub hl [2, 3, 4, 5, 6, 0] rfl), (ffS_le hn24 (nwS_le hv (by omega))), (by omega), (by omega), rfl, t8, (by rw [show (va_up (va_up U2 5 (upd (U2 5) c (tlS Pv I (U 1) (U 2) (U 3) (U 4) a1))) 0 (upd ((va_up U2 5 (upd (U2 5) c (tlS Pv I (U 1) (U 2) (U 3) (U 4) a1))) 0) 5 (nI (c + 1)))) 0 8 = U2 0 8 from rfl, t9, hF]; rfl), (t4.trans h4), (by rw [← he, rn_go (m := 100 - s1) (p := a1) (by omega) (by omega) hF, eT, Nat.sub_sub]; first | done | rfl)⟩ (by dsimp only; omega)
          · have hF : stF Pv (U 1) a1 = true := by cases hb9 : stF Pv (U 1) a1 with | true => rfl | false => (rw [hb9, if_neg (by decide)] at c_100; exact absurd rfl c_100)
            refine lv_iconst (v := 1) hx hb dX0_perform_103 (by decide) ?_
            have eT : rsS Pv I (U0 4) w a1 (U 1, U 2, U 3, U 5, c, s1) = (U2 1, U2 2, U2 3, upd (U2 5) c (tlS Pv I (U 1) (U 2) (U 3) (U 4) a1), c + 1, s1 + 1) := by
              show (reS Pv I (U 1) (U 2) (U 3) (U0 4) a1, tiS Pv I (U 1) (U 2) (U 3) (U0 4) a1, glS Pv I (U 1) (U 2) (U 3) (U0 4) a1, ite _ _ _, ite _ _ _, s1 + 1) = _
              rw [if_pos c_59, if_pos c_59, t1, t2, t3, t5, h4]
            exact retI (Wd := fun U => (wM k ad U) ++ (wP k bd Pv) ++ ([(ia, aI k 4 I)])) (v := 1) (va_up (va_up U2 5 (upd (U2 5) c (tlS Pv I (U 1) (U 2) (U 3) (U 4) a1))) 0 (upd ((va_up U2 5 (upd (U2 5) c (tlS Pv I (U 1) (U 2) (U 3) (U 4) a1))) 0) 5 (nI (c + 1)))) hx hb hr hlocks dX0_perform_104 hh (⟨U0, c + 1, s1 + 1, 1, ⟨b1, b2, b3, b4⟩, by omega, by omega, rfl, rfl, t8, by rw [← he, rn_fail (m := 100 - s1) (p := a1) (by omega) (by omega) hF, eT, show (va_up (va_up U2 5 (upd (U2 5) c (tlS Pv I (U 1) (U 2) (U 3) (U 4) a1))) 0 (upd ((va_up U2 5 (upd (U2 5) c (tlS Pv I (U 1) (U 2) (U 3) (U 4) a1))) 0) 5 (nI (c + 1)))) 0 8 = U2 0 8 from rfl, t9, hF]; rfl⟩)
abbrev rmX0_toldLike : Room := { frames := 0, cells := 0, slots := 0, locals := 0 }
theorem lk_X0_toldLike : Lk yX0_toldLike 1 := by decide +kernel
set_option maxHeartbeats 4000000 in
set_option maxRecDepth 100000 in
/-- toldLike(other) -/
theorem c_X0_toldLike (l : Launch) (D : va_G) (k : Nat → ClassId) (ad : Nat → Nat) (V : St) (bd : Nat → Nat) (U : St) {c8 c9 : Nat} (h5 : V 0 5 = nI c8) (h59 : U 0 5 = nI c9) (hc8 : c8 ≤ 100) (hc9 : c9 ≤ 100) : CtR noX l yX0_toldLike cX0_toldLike 3 (some .boolean) rmX0_toldLike D (tyL k) ((wM k ad V) ++ (wM k bd U)) [.ref (ad 0), .ref (bd 0)] (fun r => ∃ b : Bool, r = zI b ∧ (b = true ↔ c8 = c9 ∧ ∀ j, j < c8 → V 5 j = U 5 j)) := by
  refine CtR.mk (by decide) (Nat.le_of_ble_eq_true rfl) ?_
  intro p e s m below meth c hx hb hml hown hg hr hlocks hK hN hX H hH hP ls hl
  have hl : lv_has ls 3 [(0, .ref (ad 0)), (1, .ref (bd 0))] := hl
  refine lv_aload_n hx hb dX0_toldLike_0 rfl (lv_at hl 0 rfl) ?_
  refine gfl hx hb hg inX0 hown hK hP 0 (ci := 0) rfl rfl 5 (by decide) wd_164 rfl dX0_toldLike_1 ?_
  refine topv (nI c8) h5 ?_
  refine lv_aload_n hx hb dX0_toldLike_4 rfl (lv_at hl 1 rfl) ?_
  refine gfl hx hb hg inX0 hown hK hP 6 (ci := 0) rfl rfl 5 (by decide) wd_164 rfl dX0_toldLike_5 ?_
  refine topv (nI c9) h59 ?_
  refine lv_icmp_eq (tgt := 13) hx hb dX0_toldLike_8 (by decide) (fun c_8 => ?_) (fun c_8 => ?_)
  · have c_8 : c8 = c9 := (nI_eq (a := c8) (b := c9) (by omega) (by omega)).mp c_8
    refine lv_iconst (v := 0) hx hb dX0_toldLike_13 (by decide) ?_
    refine lv_istore_n (lv' := [(2, .int 0), (0, .ref (ad 0)), (1, .ref (bd 0))]) hx hb dX0_toldLike_14 rfl hl (by decide) rfl (fun ls hl => ?_)
    refine loopR (σ := Nat) (fun i ls => lv_has ls 3 [(0, .ref (ad 0)), (1, .ref (bd 0)), (2, .int (nI i))] ∧ (i ≤ c8) ∧ (∀ j, j < i → V 5 j = U 5 j)) (fun i => c8 - i) ?_ (0) ⟨(lv_sub hl [1, 2, 0] rfl), (by omega), (fun j hj => absurd hj (Nat.not_lt_zero _))⟩
    intro zz9 ls hI ih
    obtain ⟨i, rfl⟩ : ∃ z, z = zz9 := ⟨_, rfl⟩
    obtain ⟨hl, hi, hA2⟩ := hI
    refine lv_iload_n hx hb dX0_toldLike_15 rfl (lv_at hl 2 rfl) ?_
    refine lv_aload_n hx hb dX0_toldLike_16 rfl (lv_at hl 0 rfl) ?_
    refine gfl hx hb hg inX0 hown hK hP 0 (ci := 0) rfl rfl 5 (by decide) wd_164 rfl dX0_toldLike_17 ?_
    refine topv (nI c8) h5 ?_
    refine lv_icmp_ge (tgt := 46) hx hb dX0_toldLike_20 (by decide) (fun c_20 => ?_) (fun c_20 => ?_)
    · have c_20 : c8 ≤ i := (nI_leI (a := c8) (b := i) (by omega) (by omega)).mp c_20
      refine lv_iconst (v := 1) hx hb dX0_toldLike_46 (by decide) ?_
      exact retRZ (v := 1) hx hb hr hlocks hH rfl dX0_toldLike_47 (⟨true, rfl, fun _ => ⟨c_8, fun j hj => hA2 j (by omega)⟩, fun _ => rfl⟩)
    · have c_20 : ¬ c8 ≤ i := fun z => c_20 ((nI_leI (a := c8) (b := i) (by omega) (by omega)).mpr z)
      refine lv_aload_n hx hb dX0_toldLike_23 rfl (lv_at hl 0 rfl) ?_
      refine gfl hx hb hg inX0 hown hK hP 0 (ci := 0) rfl rfl 4 (by decide) wd_162 rfl dX0_toldLike_24 ?_
      refine lv_iload_n hx hb dX0_toldLike_27 rfl (lv_at hl 2 rfl) ?_
      refine ldn hx hb hK hP 5 0 rfl rfl (by omega) (by decide) dX0_toldLike_28 ?_
      refine lv_aload_n hx hb dX0_toldLike_29 rfl (lv_at hl 1 rfl) ?_
      refine gfl hx hb hg inX0 hown hK hP 6 (ci := 0) rfl rfl 4 (by decide) wd_162 rfl dX0_toldLike_30 ?_
      refine lv_iload_n hx hb dX0_toldLike_33 rfl (lv_at hl 2 rfl) ?_
      refine ldn hx hb hK hP 11 0 rfl rfl (by omega) (by decide) dX0_toldLike_34 ?_
      refine lv_icmp_eq (tgt := 40) hx hb dX0_toldLike_35 (by decide) (fun c_35 => ?_) (fun c_35 => ?_)
      · refine lv_iinc (v := nI (i + 1)) (lv' := [(2, .int (nI (i + 1))), (0, .ref (ad 0)), (1, .ref (bd 0))]) hx hb dX0_toldLike_40 hl (k := 2) rfl (nI_succ i).symm (by decide) rfl (fun ls hl => ?_)
        refine lv_goto (tgt := 15) hx hb dX0_toldLike_43 (by decide) ?_
        exact ih (i + 1) _ ⟨(lv_sub hl [1, 2, 0] rfl), (by omega), (fun j hj => by rcases Classical.em (j = i) with e | e; (subst e; exact c_35); exact hA2 j (by omega))⟩ (by omega)
      · refine lv_iconst (v := 0) hx hb dX0_toldLike_38 (by decide) ?_
        exact retRZ (v := 0) hx hb hr hlocks hH rfl dX0_toldLike_39 (⟨false, rfl, fun z => (by cases z), fun z => absurd (z.2 i (by omega)) c_35⟩)
  · have c_8 : ¬ c8 = c9 := fun z => c_8 ((nI_eq (a := c8) (b := c9) (by omega) (by omega)).mpr z)
    refine lv_iconst (v := 0) hx hb dX0_toldLike_11 (by decide) ?_
    exact retRZ (v := 0) hx hb hr hlocks hH rfl dX0_toldLike_12 (⟨false, rfl, fun z => (by cases z), fun z => absurd z.1 c_8⟩)
