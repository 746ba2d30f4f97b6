/-! the class Machine: begin, step -/
abbrev rmX0_begin : Room := { frames := 2, cells := 0, slots := 0, locals := 45 }
theorem lk_X0_begin : Lk yX0_begin 2 := by decide +kernel
set_option maxHeartbeats 4000000 in
set_option maxRecDepth 100000 in
/-- begin(program, inputs) -/
theorem c_X0_begin (l : Launch) (D : va_G) (k : Nat → ClassId) (ad : Nat → Nat) (V : St) (bd : Nat → Nat) (Pv : St) {n : Nat} (hv : okV n Pv) (ia : Nat) (I : Nat → Int32) : CtX noX l yX0_begin cX0_begin 4 none rmX0_begin D (tyL k) ((wM k ad V) ++ (wP k bd Pv) ++ ([(ia, aI k 4 I)])) [.ref (ad 0), .ref (bd 0), .ref ia] (qV D (fun U => (wM k ad U) ++ (wP k bd Pv) ++ ([(ia, aI k 4 I)])) (fun U => (∀ j, j < 8 → U 1 j = 0) ∧ (∀ j, j < 32 → U 2 j = 0) ∧ (∀ j, j < 4 → U 3 j = Pv 5 j) ∧ (∀ j, j < 4 → U 4 j = nI (chR (Pv 7 j) (I 3))) ∧ U 5 = V 5 ∧ U 0 5 = 0 ∧ U 0 7 = 0 ∧ U 0 8 = -4)) := by
  refine CtX.mk (by decide) (Nat.le_of_ble_eq_true rfl) ?_
  intro p e s m below meth c hx hb hml hown hg hr hlocks hK hN A hA hX hh ls hl
  have hh : Hd D A ((wM k ad V) ++ (wP k bd Pv) ++ ([(ia, aI k 4 I)])) s.heap s.heap [] := hh
  have hl : lv_has ls 4 [(0, .ref (ad 0)), (1, .ref (bd 0)), (2, .ref ia)] := hl
  obtain ⟨a3, ha3, ea3⟩ := and_max (I 3)
  refine lv_iconst (v := 0) hx hb dX0_begin_0 (by decide) ?_
  refine lv_istore_n (lv' := [(3, .int 0), (0, .ref (ad 0)), (1, .ref (bd 0)), (2, .ref ia)]) hx hb dX0_begin_1 rfl hl (by decide) rfl (fun ls hl => ?_)
  refine loopW (σ := Nat × St) (fun zz9 H locs ls => match zz9 with | (i, U1) => Hd D A ((wM k ad U1) ++ (wP k bd Pv) ++ ([(ia, aI k 4 I)])) s.heap H locs ∧ lv_has ls 4 [(0, .ref (ad 0)), (1, .ref (bd 0)), (2, .ref ia), (3, .int (nI i))] ∧ (i ≤ 8) ∧ (Fr [1, 2, 3, 4] V U1) ∧ (∀ j, j < i → U1 1 j = 0)) (fun zz9 => match zz9 with | (i, U1) => 8 - i) ?_ (0, V) ⟨hh, (lv_sub hl [1, 2, 3, 0] rfl), (by omega), Fr.rf, (fun j hj => absurd hj (Nat.not_lt_zero _))⟩
  intro zz9 H locs ls hI ih
  obtain ⟨i, U1⟩ := zz9
  obtain ⟨hh, hl, hi, hf, zz_⟩ := hI
  refine lv_iload_n hx hb dX0_begin_2 rfl (lv_at hl 3 rfl) ?_
  refine lv_bipush (v := 8) hx hb dX0_begin_3 (by decide) ?_
  refine lv_icmp_ge (tgt := 21) hx hb dX0_begin_5 (by decide) (fun c_5 => ?_) (fun c_5 => ?_)
  · have c_5 : 8 ≤ i := (nI_leI (a := 8) (b := i) (by omega) (by omega)).mp c_5
    refine lv_iconst (v := 0) hx hb dX0_begin_21 (by decide) ?_
    refine lv_istore_n (lv' := [(3, .int 0), (0, .ref (ad 0)), (1, .ref (bd 0)), (2, .ref ia)]) hx hb dX0_begin_22 rfl hl (by decide) rfl (fun ls hl => ?_)
    refine loopW (σ := Nat × St) (fun zz9 H locs ls => match zz9 with | (i, U2) => Hd D A ((wM k ad U2) ++ (wP k bd Pv) ++ ([(ia, aI k 4 I)])) s.heap H locs ∧ lv_has ls 4 [(0, .ref (ad 0)), (1, .ref (bd 0)), (2, .ref ia), (3, .int (nI i))] ∧ (i ≤ 32) ∧ (Fr [1, 2, 3, 4] V U2) ∧ (∀ j, j < 8 → U2 1 j = 0) ∧ (∀ j, j < i → U2 2 j = 0)) (fun zz9 => match zz9 with | (i, U2) => 32 - i) ?_ (0, U1) ⟨hh, (lv_sub hl [1, 2, 3, 0] rfl), (by omega), hf, (fun j hj => zz_ j (by omega)), (fun j hj => absurd hj (Nat.not_lt_zero _))⟩
    intro zz9 H locs ls hI ih
    obtain ⟨i, U2⟩ := zz9
    obtain ⟨hh, hl, hi, hf, z1, zz_⟩ := hI
    refine lv_iload_n hx hb dX0_begin_23 rfl (lv_at hl 3 rfl) ?_
    refine lv_bipush (v := 32) hx hb dX0_begin_24 (by decide) ?_
    refine lv_icmp_ge (tgt := 42) hx hb dX0_begin_26 (by decide) (fun c_26 => ?_) (fun c_26 => ?_)
    · have c_26 : 32 ≤ i := (nI_leI (a := 32) (b := i) (by omega) (by omega)).mp c_26
      refine lv_iconst (v := 0) hx hb dX0_begin_42 (by decide) ?_
      refine lv_istore_n (lv' := [(3, .int 0), (0, .ref (ad 0)), (1, .ref (bd 0)), (2, .ref ia)]) hx hb dX0_begin_43 rfl hl (by decide) rfl (fun ls hl => ?_)
      refine loopW (σ := Nat × St) (fun zz9 H locs ls => match zz9 with | (i, U3) => Hd D A ((wM k ad U3) ++ (wP k bd Pv) ++ ([(ia, aI k 4 I)])) s.heap H locs ∧ lv_has ls 4 [(0, .ref (ad 0)), (1, .ref (bd 0)), (2, .ref ia), (3, .int (nI i))] ∧ (i ≤ 4) ∧ (Fr [1, 2, 3, 4] V U3) ∧ (∀ j, j < 8 → U3 1 j = 0) ∧ (∀ j, j < 32 → U3 2 j = 0) ∧ (∀ j, j < i → U3 3 j = Pv 5 j)) (fun zz9 => match zz9 with | (i, U3) => 4 - i) ?_ (0, U2) ⟨hh, (lv_sub hl [1, 2, 3, 0] rfl), (by omega), hf, z1, (fun j hj => zz_ j (by omega)), (fun j hj => absurd hj (Nat.not_lt_zero _))⟩
      intro zz9 H locs ls hI ih
      obtain ⟨i, U3⟩ := zz9
      obtain ⟨hh, hl, hi, hf, z1, z2, zz_⟩ := hI
      refine lv_iload_n hx hb dX0_begin_44 rfl (lv_at hl 3 rfl) ?_
      refine lv_iconst (v := 4) hx hb dX0_begin_45 (by decide) ?_
      refine lv_icmp_ge (tgt := 67) hx hb dX0_begin_46 (by decide) (fun c_46 => ?_) (fun c_46 => ?_)
      · have c_46 : 4 ≤ i := (nI_leI (a := 4) (b := i) (by omega) (by omega)).mp c_46
        refine lv_iconst (v := 0) hx hb dX0_begin_67 (by decide) ?_
        refine lv_istore_n (lv' := [(3, .int 0), (0, .ref (ad 0)), (1, .ref (bd 0)), (2, .ref ia)]) hx hb dX0_begin_68 rfl hl (by decide) rfl (fun ls hl => ?_)
        refine loopW (σ := Nat × St) (fun zz9 H locs ls => match zz9 with | (i, U4) => Hd D A ((wM k ad U4) ++ (wP k bd Pv) ++ ([(ia, aI k 4 I)])) s.heap H locs ∧ lv_has ls 4 [(0, .ref (ad 0)), (1, .ref (bd 0)), (2, .ref ia), (3, .int (nI i))] ∧ (i ≤ 4) ∧ (Fr [1, 2, 3, 4] V U4) ∧ (∀ j, j < 8 → U4 1 j = 0) ∧ (∀ j, j < 32 → U4 2 j = 0) ∧ (∀ j, j < 4 → U4 3 j = Pv 5 j) ∧ (∀ j, j < i → U4 4 j = nI (chR (Pv 7 j) (I 3)))) (fun zz9 => match zz9 with | (i, U4) => 4 - i) ?_ (0, U3) ⟨hh, (lv_sub hl [1, 2, 3, 0] rfl), (by omega), hf, z1, z2, (fun j hj => zz_ j (by omega)), (fun j hj => absurd hj (Nat.not_lt_zero _))⟩
        intro zz9 H locs ls hI ih
        obtain ⟨i, U4⟩ := zz9
        obtain ⟨hh, hl, hi, hf, z1, z2, z3, zz_⟩ := hI
        refine lv_iload_n hx hb dX0_begin_69 rfl (lv_at hl 3 rfl) ?_
        refine lv_iconst (v := 4) hx hb dX0_begin_70 (by decide) ?_
        refine lv_icmp_ge (tgt := 101) hx hb dX0_begin_71 (by decide) (fun c_71 => ?_) (fun c_71 => ?_)
        · have c_71 : 4 ≤ i := (nI_leI (a := 4) (b := i) (by omega) (by omega)).mp c_71
          refine lv_aload_n hx hb dX0_begin_101 rfl (lv_at hl 0 rfl) ?_
          refine lv_iconst (v := 0) hx hb dX0_begin_102 (by decide) ?_
          refine pfl hx hb hg inX0 tyX0 tyX0_ok nmX0 hown hK hh 0 (ci := 0) rfl rfl 5 (by decide) wd_164 rfl rfl rfl (Nat.le_of_ble_eq_true rfl) dX0_begin_103 ((wM k ad (va_up U4 0 (upd (U4 0) 5 0))) ++ (wP k bd Pv) ++ ([(ia, aI k 4 I)])) rfl (fun H locs hh => ?_)
          refine lv_aload_n hx hb dX0_begin_106 rfl (lv_at hl 0 rfl) ?_
          refine lv_iconst (v := 0) hx hb dX0_begin_107 (by decide) ?_
          refine pfl hx hb hg inX0 tyX0 tyX0_ok nmX0 hown hK hh 0 (ci := 0) rfl rfl 7 (by decide) wd_167 rfl rfl rfl (Nat.le_of_ble_eq_true rfl) dX0_begin_108 ((wM k ad (va_up (va_up U4 0 (upd (U4 0) 5 0)) 0 (upd ((va_up U4 0 (upd (U4 0) 5 0)) 0) 7 0))) ++ (wP k bd Pv) ++ ([(ia, aI k 4 I)])) rfl (fun H locs hh => ?_)
          refine lv_aload_n hx hb dX0_begin_111 rfl (lv_at hl 0 rfl) ?_
          refine lv_bipush (v := (-4)) hx hb dX0_begin_112 (by decide) ?_
          refine pfl hx hb hg inX0 tyX0 tyX0_ok nmX0 hown hK hh 0 (ci := 0) rfl rfl 8 (by decide) wd_169 rfl rfl rfl (Nat.le_of_ble_eq_true rfl) dX0_begin_114 ((wM k ad (va_up (va_up (va_up U4 0 (upd (U4 0) 5 0)) 0 (upd ((va_up U4 0 (upd (U4 0) 5 0)) 0) 7 0)) 0 (upd ((va_up (va_up U4 0 (upd (U4 0) 5 0)) 0 (upd ((va_up U4 0 (upd (U4 0) 5 0)) 0) 7 0)) 0) 8 (-4)))) ++ (wP k bd Pv) ++ ([(ia, aI k 4 I)])) rfl (fun H locs hh => ?_)
          exact retV (Wd := fun U => (wM k ad U) ++ (wP k bd Pv) ++ ([(ia, aI k 4 I)])) (va_up (va_up (va_up U4 0 (upd (U4 0) 5 0)) 0 (upd ((va_up U4 0 (upd (U4 0) 5 0)) 0) 7 0)) 0 (upd ((va_up (va_up U4 0 (upd (U4 0) 5 0)) 0 (upd ((va_up U4 0 (upd (U4 0) 5 0)) 0) 7 0)) 0) 8 (-4))) hx hb hr hlocks dX0_begin_117 hh (⟨z1, z2, z3, fun j hj => zz_ j (by omega), hf 5 (by decide), rfl, rfl, rfl⟩)
        · have c_71 : ¬ 4 ≤ i := fun z => c_71 ((nI_leI (a := 4) (b := i) (by omega) (by omega)).mpr z)
          obtain ⟨x7, h71, h715, e7⟩ := hv.2.2.2.2 i (by omega)
          refine lv_aload_n hx hb dX0_begin_74 rfl (lv_at hl 0 rfl) ?_
          refine gfl hx hb hg inX0 hown hK hh.1 0 (ci := 0) rfl rfl 3 (by decide) wd_161 rfl dX0_begin_75 ?_
          refine lv_iload_n hx hb dX0_begin_78 rfl (lv_at hl 3 rfl) ?_
          refine lv_aload_n hx hb dX0_begin_79 rfl (lv_at hl 1 rfl) ?_
          refine gflN hx hb hg hN inX1 hown hK hh.1 6 (ci := 1) rfl rfl 6 (by decide) 86 nst_86 rfl dX0_begin_80 ?_
          refine lv_iload_n hx hb dX0_begin_83 rfl (lv_at hl 3 rfl) ?_
          refine ldn hx hb hK hh.1 13 0 rfl rfl (by omega) (by decide) dX0_begin_84 ?_
          refine topv (nI x7) e7 ?_
          refine lv_aload_n hx hb dX0_begin_85 rfl (lv_at hl 2 rfl) ?_
          refine lv_iconst (v := 3) hx hb dX0_begin_86 (by decide) ?_
          refine topv (nI 3) rfl ?_
          refine ldn hx hb hK hh.1 14 0 rfl rfl (by omega) (by decide) dX0_begin_87 ?_
          refine lv_ldc (v := 2147483647) hx hb hown (hg _ wd_389) dX0_begin_88 ?_
          refine lv_iand hx hb dX0_begin_90 ?_
          refine topv (nI a3) ea3 ?_
          refine callR (runS hx hb hg hown hml hl.1 (c_X0_chosenRow l D k (x := x7) h71 (by omega) (a := a3) ha3) [.int (nI x7), .int (nI a3)] [.int (nI i), .ref (ad 4)] (preR (mapSome_sub hh.1 [] rfl) hK hN xb0 x0) wd_390 wd_391 wd_52 wd_392 lk_X0_chosenRow ⟨rfl, rfl⟩ ⟨by decide, by decide⟩ ⟨Nat.zero_le _, Nat.zero_le _⟩ rfl (Nat.le_of_ble_eq_true rfl) dX0_begin_91) (fun r_91 q_91 => ?_)
          obtain rfl := q_91
          rw [show (kthS (bt (nI x7)) 4 0 (a3 % cntN 4 (nI x7))).getD 0 = chR (Pv 7 i) (I 3) by unfold chR; rw [e7, ea3, ix_nI (by omega)]]
          refine stn (j := i) hx hb hK hh 4 0 rfl rfl (by omega) (by decide) dX0_begin_94 ((wM k ad (va_up U4 4 (upd (U4 4) i (nI (chR (Pv 7 i) (I 3)))))) ++ (wP k bd Pv) ++ ([(ia, aI k 4 I)])) rfl (fun H locs hh => ?_)
          refine lv_iinc (v := nI (i + 1)) (lv' := [(3, .int (nI (i + 1))), (0, .ref (ad 0)), (1, .ref (bd 0)), (2, .ref ia)]) hx hb dX0_begin_95 hl (k := 3) rfl (nI_succ i).symm (by decide) rfl (fun ls hl => ?_)
          refine lv_goto (tgt := 69) hx hb dX0_begin_98 (by decide) ?_
          exact ih (i + 1, va_up U4 4 (upd (U4 4) i (nI (chR (Pv 7 i) (I 3))))) _ _ _ ⟨hh, (lv_sub hl [1, 2, 3, 0] rfl), (by omega), (hf.up (by decide)), (fun j hj => by rw [up_n (by decide)]; exact z1 j hj), (fun j hj => by rw [up_n (by decide)]; exact z2 j hj), (fun j hj => by rw [up_n (by decide)]; exact z3 j hj), (fun j hj => by rcases Classical.em (j = i) with e | e; (subst e; rw [up_s, upd_s]); (rw [up_s, upd_n e]; exact zz_ j (by omega)))⟩ (by dsimp only; omega)
      · have c_46 : ¬ 4 ≤ i := fun z => c_46 ((nI_leI (a := 4) (b := i) (by omega) (by omega)).mpr z)
        refine lv_aload_n hx hb dX0_begin_49 rfl (lv_at hl 0 rfl) ?_
        refine gfl hx hb hg inX0 hown hK hh.1 0 (ci := 0) rfl rfl 2 (by decide) wd_160 rfl dX0_begin_50 ?_
        refine lv_iload_n hx hb dX0_begin_53 rfl (lv_at hl 3 rfl) ?_
        refine lv_aload_n hx hb dX0_begin_54 rfl (lv_at hl 1 rfl) ?_
        refine gflN hx hb hg hN inX1 hown hK hh.1 6 (ci := 1) rfl rfl 4 (by decide) 81 nst_81 rfl dX0_begin_55 ?_
        refine lv_iload_n hx hb dX0_begin_58 rfl (lv_at hl 3 rfl) ?_
        refine ldn hx hb hK hh.1 11 0 rfl rfl (by omega) (by decide) dX0_begin_59 ?_
        refine stn (j := i) hx hb hK hh 3 0 rfl rfl (by omega) (by decide) dX0_begin_60 ((wM k ad (va_up U3 3 (upd (U3 3) i ((Pv 5) i)))) ++ (wP k bd Pv) ++ ([(ia, aI k 4 I)])) rfl (fun H locs hh => ?_)
        refine lv_iinc (v := nI (i + 1)) (lv' := [(3, .int (nI (i + 1))), (0, .ref (ad 0)), (1, .ref (bd 0)), (2, .ref ia)]) hx hb dX0_begin_61 hl (k := 3) rfl (nI_succ i).symm (by decide) rfl (fun ls hl => ?_)
        refine lv_goto (tgt := 44) hx hb dX0_begin_64 (by decide) ?_
        exact ih (i + 1, va_up U3 3 (upd (U3 3) i ((Pv 5) i))) _ _ _ ⟨hh, (lv_sub hl [1, 2, 3, 0] rfl), (by omega), (hf.up (by decide)), (fun j hj => by rw [up_n (by decide)]; exact z1 j hj), (fun j hj => by rw [up_n (by decide)]; exact z2 j hj), (fun j hj => by rcases Classical.em (j = i) with e | e; (subst e; rw [up_s, upd_s]); (rw [up_s, upd_n e]; exact zz_ j (by omega)))⟩ (by dsimp only; omega)
    · have c_26 : ¬ 32 ≤ i := fun z => c_26 ((nI_leI (a := 32) (b := i) (by omega) (by omega)).mpr z)
      refine lv_aload_n hx hb dX0_begin_29 rfl (lv_at hl 0 rfl) ?_
      refine gfl hx hb hg inX0 hown hK hh.1 0 (ci := 0) rfl rfl 1 (by decide) wd_159 rfl dX0_begin_30 ?_
      refine lv_iload_n hx hb dX0_begin_33 rfl (lv_at hl 3 rfl) ?_
      refine lv_iconst (v := 0) hx hb dX0_begin_34 (by decide) ?_
      refine stn (j := i) hx hb hK hh 2 0 rfl rfl (by omega) (by decide) dX0_begin_35 ((wM k ad (va_up U2 2 (upd (U2 2) i 0))) ++ (wP k bd Pv) ++ ([(ia, aI k 4 I)])) rfl (fun H locs hh => ?_)
      refine lv_iinc (v := nI (i + 1)) (lv' := [(3, .int (nI (i + 1))), (0, .ref (ad 0)), (1, .ref (bd 0)), (2, .ref ia)]) hx hb dX0_begin_36 hl (k := 3) rfl (nI_succ i).symm (by decide) rfl (fun ls hl => ?_)
      refine lv_goto (tgt := 23) hx hb dX0_begin_39 (by decide) ?_
      exact ih (i + 1, va_up U2 2 (upd (U2 2) i 0)) _ _ _ ⟨hh, (lv_sub hl [1, 2, 3, 0] rfl), (by omega), (hf.up (by decide)), (fun j hj => by rw [up_n (by decide)]; exact z1 j hj), (fun j hj => by rcases Classical.em (j = i) with e | e; (subst e; rw [up_s, upd_s]); (rw [up_s, upd_n e]; exact zz_ j (by omega)))⟩ (by dsimp only; omega)
  · have c_5 : ¬ 8 ≤ i := fun z => c_5 ((nI_leI (a := 8) (b := i) (by omega) (by omega)).mpr z)
    refine lv_aload_n hx hb dX0_begin_8 rfl (lv_at hl 0 rfl) ?_
    refine gfl hx hb hg inX0 hown hK hh.1 0 (ci := 0) rfl rfl 0 (by decide) wd_157 rfl dX0_begin_9 ?_
    refine lv_iload_n hx hb dX0_begin_12 rfl (lv_at hl 3 rfl) ?_
    refine lv_iconst (v := 0) hx hb dX0_begin_13 (by decide) ?_
    refine stn (j := i) hx hb hK hh 1 0 rfl rfl (by omega) (by decide) dX0_begin_14 ((wM k ad (va_up U1 1 (upd (U1 1) i 0))) ++ (wP k bd Pv) ++ ([(ia, aI k 4 I)])) rfl (fun H locs hh => ?_)
    refine lv_iinc (v := nI (i + 1)) (lv' := [(3, .int (nI (i + 1))), (0, .ref (ad 0)), (1, .ref (bd 0)), (2, .ref ia)]) hx hb dX0_begin_15 hl (k := 3) rfl (nI_succ i).symm (by decide) rfl (fun ls hl => ?_)
    refine lv_goto (tgt := 2) hx hb dX0_begin_18 (by decide) ?_
    exact ih (i + 1, va_up U1 1 (upd (U1 1) i 0)) _ _ _ ⟨hh, (lv_sub hl [1, 2, 3, 0] rfl), (by omega), (hf.up (by decide)), (fun j hj => by rcases Classical.em (j = i) with e | e; (subst e; rw [up_s, upd_s]); (rw [up_s, upd_n e]; exact zz_ j (by omega)))⟩ (by dsimp only; omega)
abbrev rmX0_step : Room := { frames := 2, cells := 0, slots := 0, locals := 47 }
theorem lk_X0_step : Lk yX0_step 3 := by decide +kernel
set_option maxHeartbeats 4000000 in
set_option maxRecDepth 100000 in
/-- step(program, inputs, p) -/
theorem c_X0_step (l : Launch) (D : va_G) (k : Nat → ClassId) (ad : Nat → Nat) (V : St) (bd : Nat → Nat) (Pv : St) {n : Nat} (hv : okV n Pv) (ia : Nat) (I : Nat → Int32) {q : Nat} (hq : q < 24) (hrow : ∀ d, d < 4 → ∃ i, i < 4 ∧ V 4 d = nI i) : CtX noX l yX0_step cX0_step 6 (some .int) rmX0_step D (tyL k) ((wM k ad V) ++ (wP k bd Pv) ++ ([(ia, aI k 4 I)])) [.ref (ad 0), .ref (bd 0), .ref ia, .int (nI q)] (qI D (fun U => (wM k ad U) ++ (wP k bd Pv) ++ ([(ia, aI k 4 I)])) (fun r U => r = nI (nwS Pv (V 1) q) ∧ U 1 = reS Pv I (V 1) (V 2) (V 3) (V 4) q ∧ U 2 = tiS Pv I (V 1) (V 2) (V 3) (V 4) q ∧ U 3 = glS Pv I (V 1) (V 2) (V 3) (V 4) q ∧ U 4 = V 4 ∧ U 5 = V 5 ∧ U 0 5 = V 0 5 ∧ U 0 6 = tlS Pv I (V 1) (V 2) (V 3) (V 4) q ∧ U 0 7 = V 0 7 ∧ U 0 8 = (if stF Pv (V 1) q = true then nI q else V 0 8))) := by
  refine CtX.mk (by decide) (Nat.le_of_ble_eq_true rfl) ?_
  intro p e s m below meth c hx hb hml hown hg hr hlocks hK hN A hA hX hh ls hl
  have hh : Hd D A ((wM k ad V) ++ (wP k bd Pv) ++ ([(ia, aI k 4 I)])) s.heap s.heap [] := hh
  have hl : lv_has ls 6 [(0, .ref (ad 0)), (1, .ref (bd 0)), (2, .ref ia), (3, .int (nI q))] := hl
  obtain ⟨j, hk, hj, hlA, hlB, hlC⟩ := hv.2.2.1 q hq
  refine lv_aload_n hx hb dX0_step_0 rfl (lv_at hl 1 rfl) ?_
  refine gflN hx hb hg hN inX1 hown hK hh.1 6 (ci := 1) rfl rfl 1 (by decide) 75 nst_75 rfl dX0_step_1 ?_
  refine lv_iload_n hx hb dX0_step_4 rfl (lv_at hl 3 rfl) ?_
  refine ldn hx hb hK hh.1 8 0 rfl rfl (by omega) (by decide) dX0_step_5 ?_
  refine lv_istore (lv' := [(4, .int ((Pv 2) q)), (0, .ref (ad 0)), (1, .ref (bd 0)), (2, .ref ia), (3, .int (nI q))]) hx hb dX0_step_6 hl (by decide) rfl (fun ls hl => ?_)
  refine lv_aload_n hx hb dX0_step_8 rfl (lv_at hl 2 rfl) ?_
  refine gflN hx hb hg hN inX1 hown hK hh.1 6 (ci := 1) rfl rfl 2 (by decide) 77 nst_77 rfl dX0_step_9 ?_
  refine lv_iload_n hx hb dX0_step_12 rfl (lv_at hl 4 rfl) ?_
  refine ldn hx hb hK hh.1 9 0 rfl rfl (by omega) (by decide) dX0_step_13 ?_
  refine lv_istore (lv' := [(5, .int ((Pv 3) q)), (4, .int ((Pv 2) q)), (0, .ref (ad 0)), (1, .ref (bd 0)), (2, .ref ia), (3, .int (nI q))]) hx hb dX0_step_14 hl (by decide) rfl (fun ls hl => ?_)
  refine lv_aload_n hx hb dX0_step_16 rfl (lv_at hl 2 rfl) ?_
  refine lv_aload_n hx hb dX0_step_17 rfl (lv_at hl 3 rfl) ?_
  refine lv_iload_n hx hb dX0_step_18 rfl (lv_at hl 5 rfl) ?_
  refine callR (runV hx hb hg hown hml hl.1 (c_X0_failsAt l D k ad V bd Pv hv hq) [.ref (bd 0), .int (nI q)] [] (preR (mapSome_sub hh.1 [0, 1, 2, 3, 4, 5, 6, 7, 8, 9, 10, 11, 12, 13] rfl) hK hN xb0 x0) (va_recv hK hh.1 (ci := 0) (q0 := 0) rfl rfl) wd_407 wd_409 wd_15 wd_52 wd_410 lk_X0_failsAt ⟨rfl, rfl⟩ ⟨by decide, by decide⟩ ⟨Nat.zero_le _, Nat.zero_le _⟩ rfl (Nat.le_of_ble_eq_true rfl) dX0_step_19) (fun r_19 q_19 => ?_)
  obtain rfl := q_19
  refine lv_if_eq (tgt := 39) hx hb dX0_step_22 (by decide) (fun c_22 => ?_) (fun c_22 => ?_)
  · have hF := zI_0.mp c_22
    refine lv_aload_n hx hb dX0_step_39 rfl (lv_at hl 2 rfl) ?_
    refine lv_iconst (v := 0) hx hb dX0_step_40 (by decide) ?_
    refine pfl hx hb hg inX0 tyX0 tyX0_ok nmX0 hown hK hh 0 (ci := 0) rfl rfl 6 (by decide) wd_166 rfl rfl rfl (Nat.le_of_ble_eq_true rfl) dX0_step_41 ((wM k ad (va_up V 0 (upd (V 0) 6 0))) ++ (wP k bd Pv) ++ ([(ia, aI k 4 I)])) rfl (fun H locs hh => ?_)
    refine lv_aload_n hx hb dX0_step_44 rfl (lv_at hl 3 rfl) ?_
    refine gflN hx hb hg hN inX1 hown hK hh.1 6 (ci := 1) rfl rfl 0 (by decide) 72 nst_72 rfl dX0_step_45 ?_
    refine lv_iload_n hx hb dX0_step_48 rfl (lv_at hl 5 rfl) ?_
    refine ldn hx hb hK hh.1 7 0 rfl rfl (by omega) (by decide) dX0_step_49 ?_
    refine topv (nI j) hk ?_
    rcases (show j = 0 ∨ j = 1 ∨ j = 2 ∨ j = 3 ∨ j = 4 ∨ j = 5 ∨ j = 6 ∨ j = 7 ∨ j = 8 ∨ j = 9 ∨ j = 10 ∨ j = 11 ∨ j = 12 ∨ j = 13 by omega) with rfl | rfl | rfl | rfl | rfl | rfl | rfl | rfl | rfl | rfl | rfl | rfl | rfl | rfl
    · refine lv_tableIn (off := 70) (tgt := 120) hx hb dX0_step_50 (by decide) (by decide) (by rfl) (by decide) ?_
      refine lv_iload_n hx hb dX0_step_120 rfl (lv_at hl 5 rfl) ?_
      refine lv_iconst (v := 1) hx hb dX0_step_121 (by decide) ?_
      refine lv_iadd hx hb dX0_step_122 ?_
      refine topv (nI (q + 1)) (nI_add q 1) ?_
      exact retI (Wd := fun U => (wM k ad U) ++ (wP k bd Pv) ++ ([(ia, aI k 4 I)])) (v := nI (q + 1)) (va_up V 0 (upd (V 0) 6 0)) hx hb hr hlocks dX0_step_123 hh (⟨by first | rfl | (unfold nwS; rw [hF, kd_of hk hj]; rfl) | (unfold nwS; rw [hF, kd_of hk hj]; simp; done) | (unfold nwS; rw [hF, kd_of hk hj]; simp [c_194]; done) | (unfold nwS; rw [hF, kd_of hk hj]; simp [c_194]; exact hbx) | (unfold nwS; rw [hF, kd_of hk hj]; simp; exact hbx), by unfold reS; rw [hF, kd_of hk hj]; first | (simp [up_s, up_n]; done) | (simp [up_s, up_n, tlS, hF, kd_of hk hj]; done) | (simp [up_s, up_n, tlS, hF, kd_of hk hj, hbe, hce, ix_nI (show b1 < 2 ^ 31 by omega), ix_nI (show d1 < 2 ^ 31 by omega)]; done), by unfold tiS; rw [hF, kd_of hk hj]; first | (simp [up_s, up_n]; done) | (simp [up_s, up_n, tlS, hF, kd_of hk hj]; done) | (simp [up_s, up_n, tlS, hF, kd_of hk hj, hbe, hce, ix_nI (show b1 < 2 ^ 31 by omega), ix_nI (show d1 < 2 ^ 31 by omega)]; done), by unfold glS; rw [hF, kd_of hk hj]; first | (simp [up_s, up_n]; done) | (simp [up_s, up_n, tlS, hF, kd_of hk hj]; done) | (simp [up_s, up_n, tlS, hF, kd_of hk hj, hbe, hce, ix_nI (show b1 < 2 ^ 31 by omega), ix_nI (show d1 < 2 ^ 31 by omega)]; done), rfl, rfl, rfl, by unfold tlS; rw [hF, kd_of hk hj]; first | (simp [up_s, up_n, upd_s, upd_n]; done) | (simp [up_s, up_n, upd_s, upd_n, c_194]; done), rfl, by rw [hF]; rfl⟩)
    · refine lv_tableIn (off := 178) (tgt := 228) hx hb dX0_step_50 (by decide) (by decide) (by rfl) (by decide) ?_
      refine lv_aload_n hx hb dX0_step_228 rfl (lv_at hl 2 rfl) ?_
      refine lv_aload_n hx hb dX0_step_229 rfl (lv_at hl 2 rfl) ?_
      refine lv_aload_n hx hb dX0_step_230 rfl (lv_at hl 3 rfl) ?_
      refine gflN hx hb hg hN inX1 hown hK hh.1 6 (ci := 1) rfl rfl 0 (by decide) 72 nst_72 rfl dX0_step_231 ?_
      refine lv_iload_n hx hb dX0_step_234 rfl (lv_at hl 5 rfl) ?_
      refine ldn hx hb hK hh.1 7 0 rfl rfl (by omega) (by decide) dX0_step_235 ?_
      refine topv (nI 1) hk ?_
      refine lv_iload hx hb dX0_step_236 (lv_at hl 0 rfl) ?_
      refine lv_aload_n hx hb dX0_step_238 rfl (lv_at hl 3 rfl) ?_
      refine gflN hx hb hg hN inX1 hown hK hh.1 6 (ci := 1) rfl rfl 3 (by decide) 79 nst_79 rfl dX0_step_239 ?_
      refine lv_iload_n hx hb dX0_step_242 rfl (lv_at hl 5 rfl) ?_
      refine ldn hx hb hK hh.1 10 0 rfl rfl (by omega) (by decide) dX0_step_243 ?_
      refine lv_aload_n hx hb dX0_step_244 rfl (lv_at hl 4 rfl) ?_
      refine callR (runV hx hb hg hown hml hl.1 (c_X0_valueOf l D k ad (va_up V 0 (upd (V 0) 6 0)) ia I (j := 1) (by decide) (Pv 3 q) (Pv 4 q) hlB hlC hrow) [.int (nI 1), .int ((Pv 3) q), .int ((Pv 4) q), .ref ia] [.ref (ad 0)] (preR (mapSome_sub hh.1 [0, 1, 2, 3, 4, 5, 14] rfl) hK hN xb0 x0) (va_recv hK hh.1 (ci := 0) (q0 := 0) rfl rfl) wd_417 wd_419 wd_17 wd_52 wd_420 lk_X0_valueOf ⟨rfl, rfl⟩ ⟨by decide, by decide⟩ ⟨Nat.zero_le _, Nat.zero_le _⟩ rfl (Nat.le_of_ble_eq_true rfl) dX0_step_245) (fun r_245 q_245 => ?_)
      obtain rfl := q_245
      refine pfl hx hb hg inX0 tyX0 tyX0_ok nmX0 hown hK hh 0 (ci := 0) rfl rfl 6 (by decide) wd_166 rfl rfl rfl (Nat.le_of_ble_eq_true rfl) dX0_step_248 ((wM k ad (va_up (va_up V 0 (upd (V 0) 6 0)) 0 (upd ((va_up V 0 (upd (V 0) 6 0)) 0) 6 (vlS 1 (Pv 3 q) (Pv 4 q) I (V 1) (V 2) (V 3) (V 4))))) ++ (wP k bd Pv) ++ ([(ia, aI k 4 I)])) rfl (fun H locs hh => ?_)
      refine lv_aload_n hx hb dX0_step_251 rfl (lv_at hl 2 rfl) ?_
      refine gfl hx hb hg inX0 hown hK hh.1 0 (ci := 0) rfl rfl 0 (by decide) wd_157 rfl dX0_step_252 ?_
      refine lv_iload hx hb dX0_step_255 (lv_at hl 1 rfl) ?_
      refine lv_aload_n hx hb dX0_step_257 rfl (lv_at hl 2 rfl) ?_
      refine gfl hx hb hg inX0 hown hK hh.1 0 (ci := 0) rfl rfl 6 (by decide) wd_166 rfl dX0_step_258 ?_
      refine stx hx hb hK hh 1 0 rfl rfl (vp_lim (n := 8) hlA (by decide) (by decide)) dX0_step_261 ((wM k ad (va_up (va_up (va_up V 0 (upd (V 0) 6 0)) 0 (upd ((va_up V 0 (upd (V 0) 6 0)) 0) 6 (vlS 1 (Pv 3 q) (Pv 4 q) I (V 1) (V 2) (V 3) (V 4)))) 1 (upd (V 1) (((Pv 2) q).toNatClampNeg) (vlS 1 (Pv 3 q) (Pv 4 q) I (V 1) (V 2) (V 3) (V 4))))) ++ (wP k bd Pv) ++ ([(ia, aI k 4 I)])) rfl (fun H locs hh => ?_)
      refine lv_iload_n hx hb dX0_step_262 rfl (lv_at hl 5 rfl) ?_
      refine lv_iconst (v := 1) hx hb dX0_step_263 (by decide) ?_
      refine lv_iadd hx hb dX0_step_264 ?_
      refine topv (nI (q + 1)) (nI_add q 1) ?_
      exact retI (Wd := fun U => (wM k ad U) ++ (wP k bd Pv) ++ ([(ia, aI k 4 I)])) (v := nI (q + 1)) (va_up (va_up (va_up V 0 (upd (V 0) 6 0)) 0 (upd ((va_up V 0 (upd (V 0) 6 0)) 0) 6 (vlS 1 (Pv 3 q) (Pv 4 q) I (V 1) (V 2) (V 3) (V 4)))) 1 (upd (V 1) (((Pv 2) q).toNatClampNeg) (vlS 1 (Pv 3 q) (Pv 4 q) I (V 1) (V 2) (V 3) (V 4)))) hx hb hr hlocks dX0_step_265 hh (⟨by first | rfl | (unfold nwS; rw [hF, kd_of hk hj]; rfl) | (unfold nwS; rw [hF, kd_of hk hj]; simp; done) | (unfold nwS; rw [hF, kd_of hk hj]; simp [c_194]; done) | (unfold nwS; rw [hF, kd_of hk hj]; simp [c_194]; exact hbx) | (unfold nwS; rw [hF, kd_of hk hj]; simp; exact hbx), by unfold reS; rw [hF, kd_of hk hj]; first | (simp [up_s, up_n]; done) | (simp [up_s, up_n, tlS, hF, kd_of hk hj]; done) | (simp [up_s, up_n, tlS, hF, kd_of hk hj, hbe, hce, ix_nI (show b1 < 2 ^ 31 by omega), ix_nI (show d1 < 2 ^ 31 by omega)]; done), by unfold tiS; rw [hF, kd_of hk hj]; first | (simp [up_s, up_n]; done) | (simp [up_s, up_n, tlS, hF, kd_of hk hj]; done) | (simp [up_s, up_n, tlS, hF, kd_of hk hj, hbe, hce, ix_nI (show b1 < 2 ^ 31 by omega), ix_nI (show d1 < 2 ^ 31 by omega)]; done), by unfold glS; rw [hF, kd_of hk hj]; first | (simp [up_s, up_n]; done) | (simp [up_s, up_n, tlS, hF, kd_of hk hj]; done) | (simp [up_s, up_n, tlS, hF, kd_of hk hj, hbe, hce, ix_nI (show b1 < 2 ^ 31 by omega), ix_nI (show d1 < 2 ^ 31 by omega)]; done), rfl, rfl, rfl, by unfold tlS; rw [hF, kd_of hk hj]; first | (simp [up_s, up_n, upd_s, upd_n]; done) | (simp [up_s, up_n, upd_s, upd_n, c_194]; done), rfl, by rw [hF]; rfl⟩)
    · refine lv_tableIn (off := 178) (tgt := 228) hx hb dX0_step_50 (by decide) (by decide) (by rfl) (by decide) ?_
      refine lv_aload_n hx hb dX0_step_228 rfl (lv_at hl 2 rfl) ?_
      refine lv_aload_n hx hb dX0_step_229 rfl (lv_at hl 2 rfl) ?_
      refine lv_aload_n hx hb dX0_step_230 rfl (lv_at hl 3 rfl) ?_
      refine gflN hx hb hg hN inX1 hown hK hh.1 6 (ci := 1) rfl rfl 0 (by decide) 72 nst_72 rfl dX0_step_231 ?_
      refine lv_iload_n hx hb dX0_step_234 rfl (lv_at hl 5 rfl) ?_
      refine ldn hx hb hK hh.1 7 0 rfl rfl (by omega) (by decide) dX0_step_235 ?_
      refine topv (nI 2) hk ?_
      refine lv_iload hx hb dX0_step_236 (lv_at hl 0 rfl) ?_
      refine lv_aload_n hx hb dX0_step_238 rfl (lv_at hl 3 rfl) ?_
      refine gflN hx hb hg hN inX1 hown hK hh.1 6 (ci := 1) rfl rfl 3 (by decide) 79 nst_79 rfl dX0_step_239 ?_
      refine lv_iload_n hx hb dX0_step_242 rfl (lv_at hl 5 rfl) ?_
      refine ldn hx hb hK hh.1 10 0 rfl rfl (by omega) (by decide) dX0_step_243 ?_
      refine lv_aload_n hx hb dX0_step_244 rfl (lv_at hl 4 rfl) ?_
      refine callR (runV hx hb hg hown hml hl.1 (c_X0_valueOf l D k ad (va_up V 0 (upd (V 0) 6 0)) ia I (j := 2) (by decide) (Pv 3 q) (Pv 4 q) hlB hlC hrow) [.int (nI 2), .int ((Pv 3) q), .int ((Pv 4) q), .ref ia] [.ref (ad 0)] (preR (mapSome_sub hh.1 [0, 1, 2, 3, 4, 5, 14] rfl) hK hN xb0 x0) (va_recv hK hh.1 (ci := 0) (q0 := 0) rfl rfl) wd_417 wd_419 wd_17 wd_52 wd_420 lk_X0_valueOf ⟨rfl, rfl⟩ ⟨by decide, by decide⟩ ⟨Nat.zero_le _, Nat.zero_le _⟩ rfl (Nat.le_of_ble_eq_true rfl) dX0_step_245) (fun r_245 q_245 => ?_)
      obtain rfl := q_245
      refine pfl hx hb hg inX0 tyX0 tyX0_ok nmX0 hown hK hh 0 (ci := 0) rfl rfl 6 (by decide) wd_166 rfl rfl rfl (Nat.le_of_ble_eq_true rfl) dX0_step_248 ((wM k ad (va_up (va_up V 0 (upd (V 0) 6 0)) 0 (upd ((va_up V 0 (upd (V 0) 6 0)) 0) 6 (vlS 2 (Pv 3 q) (Pv 4 q) I (V 1) (V 2) (V 3) (V 4))))) ++ (wP k bd Pv) ++ ([(ia, aI k 4 I)])) rfl (fun H locs hh => ?_)
      refine lv_aload_n hx hb dX0_step_251 rfl (lv_at hl 2 rfl) ?_
      refine gfl hx hb hg inX0 hown hK hh.1 0 (ci := 0) rfl rfl 0 (by decide) wd_157 rfl dX0_step_252 ?_
      refine lv_iload hx hb dX0_step_255 (lv_at hl 1 rfl) ?_
      refine lv_aload_n hx hb dX0_step_257 rfl (lv_at hl 2 rfl) ?_
      refine gfl hx hb hg inX0 hown hK hh.1 0 (ci := 0) rfl rfl 6 (by decide) wd_166 rfl dX0_step_258 ?_
      refine stx hx hb hK hh 1 0 rfl rfl (vp_lim (n := 8) hlA (by decide) (by decide)) dX0_step_261 ((wM k ad (va_up (va_up (va_up V 0 (upd (V 0) 6 0)) 0 (upd ((va_up V 0 (upd (V 0) 6 0)) 0) 6 (vlS 2 (Pv 3 q) (Pv 4 q) I (V 1) (V 2) (V 3) (V 4)))) 1 (upd (V 1) (((Pv 2) q).toNatClampNeg) (vlS 2 (Pv 3 q) (Pv 4 q) I (V 1) (V 2) (V 3) (V 4))))) ++ (wP k bd Pv) ++ ([(ia, aI k 4 I)])) rfl (fun H locs hh => ?_)
      refine lv_iload_n hx hb dX0_step_262 rfl (lv_at hl 5 rfl) ?_
      refine lv_iconst (v := 1) hx hb dX0_step_263 (by decide) ?_
      refine lv_iadd hx hb dX0_step_264 ?_
      refine topv (nI (q + 1)) (nI_add q 1) ?_
      exact retI (Wd := fun U => (wM k ad U) ++ (wP k bd Pv) ++ ([(ia, aI k 4 I)])) (v := nI (q + 1)) (va_up (va_up (va_up V 0 (upd (V 0) 6 0)) 0 (upd ((va_up V 0 (upd (V 0) 6 0)) 0) 6 (vlS 2 (Pv 3 q) (Pv 4 q) I (V 1) (V 2) (V 3) (V 4)))) 1 (upd (V 1) (((Pv 2) q).toNatClampNeg) (vlS 2 (Pv 3 q) (Pv 4 q) I (V 1) (V 2) (V 3) (V 4)))) hx hb hr hlocks dX0_step_265 hh (⟨by first | rfl | (unfold nwS; rw [hF, kd_of hk hj]; rfl) | (unfold nwS; rw [hF, kd_of hk hj]; simp; done) | (unfold nwS; rw [hF, kd_of hk hj]; simp [c_194]; done) | (unfold nwS; rw [hF, kd_of hk hj]; simp [c_194]; exact hbx) | (unfold nwS; rw [hF, kd_of hk hj]; simp; exact hbx), by unfold reS; rw [hF, kd_of hk hj]; first | (simp [up_s, up_n]; done) | (simp [up_s, up_n, tlS, hF, kd_of hk hj]; done) | (simp [up_s, up_n, tlS, hF, kd_of hk hj, hbe, hce, ix_nI (show b1 < 2 ^ 31 by omega), ix_nI (show d1 < 2 ^ 31 by omega)]; done), by unfold tiS; rw [hF, kd_of hk hj]; first | (simp [up_s, up_n]; done) | (simp [up_s, up_n, tlS, hF, kd_of hk hj]; done) | (simp [up_s, up_n, tlS, hF, kd_of hk hj, hbe, hce, ix_nI (show b1 < 2 ^ 31 by omega), ix_nI (show d1 < 2 ^ 31 by omega)]; done), by unfold glS; rw [hF, kd_of hk hj]; first | (simp [up_s, up_n]; done) | (simp [up_s, up_n, tlS, hF, kd_of hk hj]; done) | (simp [up_s, up_n, tlS, hF, kd_of hk hj, hbe, hce, ix_nI (show b1 < 2 ^ 31 by omega), ix_nI (show d1 < 2 ^ 31 by omega)]; done), rfl, rfl, rfl, by unfold tlS; rw [hF, kd_of hk hj]; first | (simp [up_s, up_n, upd_s, upd_n]; done) | (simp [up_s, up_n, upd_s, upd_n, c_194]; done), rfl, by rw [hF]; rfl⟩)
    · refine lv_tableIn (off := 178) (tgt := 228) hx hb dX0_step_50 (by decide) (by decide) (by rfl) (by decide) ?_
      refine lv_aload_n hx hb dX0_step_228 rfl (lv_at hl 2 rfl) ?_
      refine lv_aload_n hx hb dX0_step_229 rfl (lv_at hl 2 rfl) ?_
      refine lv_aload_n hx hb dX0_step_230 rfl (lv_at hl 3 rfl) ?_
      refine gflN hx hb hg hN inX1 hown hK hh.1 6 (ci := 1) rfl rfl 0 (by decide) 72 nst_72 rfl dX0_step_231 ?_
      refine lv_iload_n hx hb dX0_step_234 rfl (lv_at hl 5 rfl) ?_
      refine ldn hx hb hK hh.1 7 0 rfl rfl (by omega) (by decide) dX0_step_235 ?_
      refine topv (nI 3) hk ?_
      refine lv_iload hx hb dX0_step_236 (lv_at hl 0 rfl) ?_
      refine lv_aload_n hx hb dX0_step_238 rfl (lv_at hl 3 rfl) ?_
      refine gflN hx hb hg hN inX1 hown hK hh.1 6 (ci := 1) rfl rfl 3 (by decide) 79 nst_79 rfl dX0_step_239 ?_
      refine lv_iload_n hx hb dX0_step_242 rfl (lv_at hl 5 rfl) ?_
      refine ldn hx hb hK hh.1 10 0 rfl rfl (by omega) (by decide) dX0_step_243 ?_
      refine lv_aload_n hx hb dX0_step_244 rfl (lv_at hl 4 rfl) ?_
      refine callR (runV hx hb hg hown hml hl.1 (c_X0_valueOf l D k ad (va_up V 0 (upd (V 0) 6 0)) ia I (j := 3) (by decide) (Pv 3 q) (Pv 4 q) hlB hlC hrow) [.int (nI 3), .int ((Pv 3) q), .int ((Pv 4) q), .ref ia] [.ref (ad 0)] (preR (mapSome_sub hh.1 [0, 1, 2, 3, 4, 5, 14] rfl) hK hN xb0 x0) (va_recv hK hh.1 (ci := 0) (q0 := 0) rfl rfl) wd_417 wd_419 wd_17 wd_52 wd_420 lk_X0_valueOf ⟨rfl, rfl⟩ ⟨by decide, by decide⟩ ⟨Nat.zero_le _, Nat.zero_le _⟩ rfl (Nat.le_of_ble_eq_true rfl) dX0_step_245) (fun r_245 q_245 => ?_)
      obtain rfl := q_245
      refine pfl hx hb hg inX0 tyX0 tyX0_ok nmX0 hown hK hh 0 (ci := 0) rfl rfl 6 (by decide) wd_166 rfl rfl rfl (Nat.le_of_ble_eq_true rfl) dX0_step_248 ((wM k ad (va_up (va_up V 0 (upd (V 0) 6 0)) 0 (upd ((va_up V 0 (upd (V 0) 6 0)) 0) 6 (vlS 3 (Pv 3 q) (Pv 4 q) I (V 1) (V 2) (V 3) (V 4))))) ++ (wP k bd Pv) ++ ([(ia, aI k 4 I)])) rfl (fun H locs hh => ?_)
      refine lv_aload_n hx hb dX0_step_251 rfl (lv_at hl 2 rfl) ?_
      refine gfl hx hb hg inX0 hown hK hh.1 0 (ci := 0) rfl rfl 0 (by decide) wd_157 rfl dX0_step_252 ?_
      refine lv_iload hx hb dX0_step_255 (lv_at hl 1 rfl) ?_
      refine lv_aload_n hx hb dX0_step_257 rfl (lv_at hl 2 rfl) ?_
      refine gfl hx hb hg inX0 hown hK hh.1 0 (ci := 0) rfl rfl 6 (by decide) wd_166 rfl dX0_step_258 ?_
      refine stx hx hb hK hh 1 0 rfl rfl (vp_lim (n := 8) hlA (by decide) (by decide)) dX0_step_261 ((wM k ad (va_up (va_up (va_up V 0 (upd (V 0) 6 0)) 0 (upd ((va_up V 0 (upd (V 0) 6 0)) 0) 6 (vlS 3 (Pv 3 q) (Pv 4 q) I (V 1) (V 2) (V 3) (V 4)))) 1 (upd (V 1) (((Pv 2) q).toNatClampNeg) (vlS 3 (Pv 3 q) (Pv 4 q) I (V 1) (V 2) (V 3) (V 4))))) ++ (wP k bd Pv) ++ ([(ia, aI k 4 I)])) rfl (fun H locs hh => ?_)
      refine lv_iload_n hx hb dX0_step_262 rfl (lv_at hl 5 rfl) ?_
      refine lv_iconst (v := 1) hx hb dX0_step_263 (by decide) ?_
      refine lv_iadd hx hb dX0_step_264 ?_
      refine topv (nI (q + 1)) (nI_add q 1) ?_
      exact retI (Wd := fun U => (wM k ad U) ++ (wP k bd Pv) ++ ([(ia, aI k 4 I)])) (v := nI (q + 1)) (va_up (va_up (va_up V 0 (upd (V 0) 6 0)) 0 (upd ((va_up V 0 (upd (V 0) 6 0)) 0) 6 (vlS 3 (Pv 3 q) (Pv 4 q) I (V 1) (V 2) (V 3) (V 4)))) 1 (upd (V 1) (((Pv 2) q).toNatClampNeg) (vlS 3 (Pv 3 q) (Pv 4 q) I (V 1) (V 2) (V 3) (V 4)))) hx hb hr hlocks dX0_step_265 hh (⟨by first | rfl | (unfold nwS; rw [hF, kd_of hk hj]; rfl) | (unfold nwS; rw [hF, kd_of hk hj]; simp; done) | (unfold nwS; rw [hF, kd_of hk hj]; simp [c_194]; done) | (unfold nwS; rw [hF, kd_of hk hj]; simp [c_194]; exact hbx) | (unfold nwS; rw [hF, kd_of hk hj]; simp; exact hbx), by unfold reS; rw [hF, kd_of hk hj]; first | (simp [up_s, up_n]; done) | (simp [up_s, up_n, tlS, hF, kd_of hk hj]; done) | (simp [up_s, up_n, tlS, hF, kd_of hk hj, hbe, hce, ix_nI (show b1 < 2 ^ 31 by omega), ix_nI (show d1 < 2 ^ 31 by omega)]; done), by unfold tiS; rw [hF, kd_of hk hj]; first | (simp [up_s, up_n]; done) | (simp [up_s, up_n, tlS, hF, kd_of hk hj]; done) | (simp [up_s, up_n, tlS, hF, kd_of hk hj, hbe, hce, ix_nI (show b1 < 2 ^ 31 by omega), ix_nI (show d1 < 2 ^ 31 by omega)]; done), by unfold glS; rw [hF, kd_of hk hj]; first | (simp [up_s, up_n]; done) | (simp [up_s, up_n, tlS, hF, kd_of hk hj]; done) | (simp [up_s, up_n, tlS, hF, kd_of hk hj, hbe, hce, ix_nI (show b1 < 2 ^ 31 by omega), ix_nI (show d1 < 2 ^ 31 by omega)]; done), rfl, rfl, rfl, by unfold tlS; rw [hF, kd_of hk hj]; first | (simp [up_s, up_n, upd_s, upd_n]; done) | (simp [up_s, up_n, upd_s, upd_n, c_194]; done), rfl, by rw [hF]; rfl⟩)
    · refine lv_tableIn (off := 178) (tgt := 228) hx hb dX0_step_50 (by decide) (by decide) (by rfl) (by decide) ?_
      refine lv_aload_n hx hb dX0_step_228 rfl (lv_at hl 2 rfl) ?_
      refine lv_aload_n hx hb dX0_step_229 rfl (lv_at hl 2 rfl) ?_
      refine lv_aload_n hx hb dX0_step_230 rfl (lv_at hl 3 rfl) ?_
      refine gflN hx hb hg hN inX1 hown hK hh.1 6 (ci := 1) rfl rfl 0 (by decide) 72 nst_72 rfl dX0_step_231 ?_
      refine lv_iload_n hx hb dX0_step_234 rfl (lv_at hl 5 rfl) ?_
      refine ldn hx hb hK hh.1 7 0 rfl rfl (by omega) (by decide) dX0_step_235 ?_
      refine topv (nI 4) hk ?_
      refine lv_iload hx hb dX0_step_236 (lv_at hl 0 rfl) ?_
      refine lv_aload_n hx hb dX0_step_238 rfl (lv_at hl 3 rfl) ?_
      refine gflN hx hb hg hN inX1 hown hK hh.1 6 (ci := 1) rfl rfl 3 (by decide) 79 nst_79 rfl dX0_step_239 ?_
      refine lv_iload_n hx hb dX0_step_242 rfl (lv_at hl 5 rfl) ?_
      refine ldn hx hb hK hh.1 10 0 rfl rfl (by omega) (by decide) dX0_step_243 ?_
      refine lv_aload_n hx hb dX0_step_244 rfl (lv_at hl 4 rfl) ?_
      refine callR (runV hx hb hg hown hml hl.1 (c_X0_valueOf l D k ad (va_up V 0 (upd (V 0) 6 0)) ia I (j := 4) (by decide) (Pv 3 q) (Pv 4 q) hlB hlC hrow) [.int (nI 4), .int ((Pv 3) q), .int ((Pv 4) q), .ref ia] [.ref (ad 0)] (preR (mapSome_sub hh.1 [0, 1, 2, 3, 4, 5, 14] rfl) hK hN xb0 x0) (va_recv hK hh.1 (ci := 0) (q0 := 0) rfl rfl) wd_417 wd_419 wd_17 wd_52 wd_420 lk_X0_valueOf ⟨rfl, rfl⟩ ⟨by decide, by decide⟩ ⟨Nat.zero_le _, Nat.zero_le _⟩ rfl (Nat.le_of_ble_eq_true rfl) dX0_step_245) (fun r_245 q_245 => ?_)
      obtain rfl := q_245
      refine pfl hx hb hg inX0 tyX0 tyX0_ok nmX0 hown hK hh 0 (ci := 0) rfl rfl 6 (by decide) wd_166 rfl rfl rfl (Nat.le_of_ble_eq_true rfl) dX0_step_248 ((wM k ad (va_up (va_up V 0 (upd (V 0) 6 0)) 0 (upd ((va_up V 0 (upd (V 0) 6 0)) 0) 6 (vlS 4 (Pv 3 q) (Pv 4 q) I (V 1) (V 2) (V 3) (V 4))))) ++ (wP k bd Pv) ++ ([(ia, aI k 4 I)])) rfl (fun H locs hh => ?_)
      refine lv_aload_n hx hb dX0_step_251 rfl (lv_at hl 2 rfl) ?_
      refine gfl hx hb hg inX0 hown hK hh.1 0 (ci := 0) rfl rfl 0 (by decide) wd_157 rfl dX0_step_252 ?_
      refine lv_iload hx hb dX0_step_255 (lv_at hl 1 rfl) ?_
      refine lv_aload_n hx hb dX0_step_257 rfl (lv_at hl 2 rfl) ?_
      refine gfl hx hb hg inX0 hown hK hh.1 0 (ci := 0) rfl rfl 6 (by decide) wd_166 rfl dX0_step_258 ?_
      refine stx hx hb hK hh 1 0 rfl rfl (vp_lim (n := 8) hlA (by decide) (by decide)) dX0_step_261 ((wM k ad (va_up (va_up (va_up V 0 (upd (V 0) 6 0)) 0 (upd ((va_up V 0 (upd (V 0) 6 0)) 0) 6 (vlS 4 (Pv 3 q) (Pv 4 q) I (V 1) (V 2) (V 3) (V 4)))) 1 (upd (V 1) (((Pv 2) q).toNatClampNeg) (vlS 4 (Pv 3 q) (Pv 4 q) I (V 1) (V 2) (V 3) (V 4))))) ++ (wP k bd Pv) ++ ([(ia, aI k 4 I)])) rfl (fun H locs hh => ?_)
      refine lv_iload_n hx hb dX0_step_262 rfl (lv_at hl 5 rfl) ?_
      refine lv_iconst (v := 1) hx hb dX0_step_263 (by decide) ?_
      refine lv_iadd hx hb dX0_step_264 ?_
      refine topv (nI (q + 1)) (nI_add q 1) ?_
      exact retI (Wd := fun U => (wM k ad U) ++ (wP k bd Pv) ++ ([(ia, aI k 4 I)])) (v := nI (q + 1)) (va_up (va_up (va_up V 0 (upd (V 0) 6 0)) 0 (upd ((va_up V 0 (upd (V 0) 6 0)) 0) 6 (vlS 4 (Pv 3 q) (Pv 4 q) I (V 1) (V 2) (V 3) (V 4)))) 1 (upd (V 1) (((Pv 2) q).toNatClampNeg) (vlS 4 (Pv 3 q) (Pv 4 q) I (V 1) (V 2) (V 3) (V 4)))) hx hb hr hlocks dX0_step_265 hh (⟨by first | rfl | (unfold nwS; rw [hF, kd_of hk hj]; rfl) | (unfold nwS; rw [hF, kd_of hk hj]; simp; done) | (unfold nwS; rw [hF, kd_of hk hj]; simp [c_194]; done) | (unfold nwS; rw [hF, kd_of hk hj]; simp [c_194]; exact hbx) | (unfold nwS; rw [hF, kd_of hk hj]; simp; exact hbx), by unfold reS; rw [hF, kd_of hk hj]; first | (simp [up_s, up_n]; done) | (simp [up_s, up_n, tlS, hF, kd_of hk hj]; done) | (simp [up_s, up_n, tlS, hF, kd_of hk hj, hbe, hce, ix_nI (show b1 < 2 ^ 31 by omega), ix_nI (show d1 < 2 ^ 31 by omega)]; done), by unfold tiS; rw [hF, kd_of hk hj]; first | (simp [up_s, up_n]; done) | (simp [up_s, up_n, tlS, hF, kd_of hk hj]; done) | (simp [up_s, up_n, tlS, hF, kd_of hk hj, hbe, hce, ix_nI (show b1 < 2 ^ 31 by omega), ix_nI (show d1 < 2 ^ 31 by omega)]; done), by unfold glS; rw [hF, kd_of hk hj]; first | (simp [up_s, up_n]; done) | (simp [up_s, up_n, tlS, hF, kd_of hk hj]; done) | (simp [up_s, up_n, tlS, hF, kd_of hk hj, hbe, hce, ix_nI (show b1 < 2 ^ 31 by omega), ix_nI (show d1 < 2 ^ 31 by omega)]; done), rfl, rfl, rfl, by unfold tlS; rw [hF, kd_of hk hj]; first | (simp [up_s, up_n, upd_s, upd_n]; done) | (simp [up_s, up_n, upd_s, upd_n, c_194]; done), rfl, by rw [hF]; rfl⟩)
    · refine lv_tableIn (off := 178) (tgt := 228) hx hb dX0_step_50 (by decide) (by decide) (by rfl) (by decide) ?_
      refine lv_aload_n hx hb dX0_step_228 rfl (lv_at hl 2 rfl) ?_
      refine lv_aload_n hx hb dX0_step_229 rfl (lv_at hl 2 rfl) ?_
      refine lv_aload_n hx hb dX0_step_230 rfl (lv_at hl 3 rfl) ?_
      refine gflN hx hb hg hN inX1 hown hK hh.1 6 (ci := 1) rfl rfl 0 (by decide) 72 nst_72 rfl dX0_step_231 ?_
      refine lv_iload_n hx hb dX0_step_234 rfl (lv_at hl 5 rfl) ?_
      refine ldn hx hb hK hh.1 7 0 rfl rfl (by omega) (by decide) dX0_step_235 ?_
      refine topv (nI 5) hk ?_
      refine lv_iload hx hb dX0_step_236 (lv_at hl 0 rfl) ?_
      refine lv_aload_n hx hb dX0_step_238 rfl (lv_at hl 3 rfl) ?_
      refine gflN hx hb hg hN inX1 hown hK hh.1 6 (ci := 1) rfl rfl 3 (by decide) 79 nst_79 rfl dX0_step_239 ?_
      refine lv_iload_n hx hb dX0_step_242 rfl (lv_at hl 5 rfl) ?_
      refine ldn hx hb hK hh.1 10 0 rfl rfl (by omega) (by decide) dX0_step_243 ?_
      refine lv_aload_n hx hb dX0_step_244 rfl (lv_at hl 4 rfl) ?_
      refine callR (runV hx hb hg hown hml hl.1 (c_X0_valueOf l D k ad (va_up V 0 (upd (V 0) 6 0)) ia I (j := 5) (by decide) (Pv 3 q) (Pv 4 q) hlB hlC hrow) [.int (nI 5), .int ((Pv 3) q), .int ((Pv 4) q), .ref ia] [.ref (ad 0)] (preR (mapSome_sub hh.1 [0, 1, 2, 3, 4, 5, 14] rfl) hK hN xb0 x0) (va_recv hK hh.1 (ci := 0) (q0 := 0) rfl rfl) wd_417 wd_419 wd_17 wd_52 wd_420 lk_X0_valueOf ⟨rfl, rfl⟩ ⟨by decide, by decide⟩ ⟨Nat.zero_le _, Nat.zero_le _⟩ rfl (Nat.le_of_ble_eq_true rfl) dX0_step_245) (fun r_245 q_245 => ?_)
      obtain rfl := q_245
      refine pfl hx hb hg inX0 tyX0 tyX0_ok nmX0 hown hK hh 0 (ci := 0) rfl rfl 6 (by decide) wd_166 rfl rfl rfl (Nat.le_of_ble_eq_true rfl) dX0_step_248 ((wM k ad (va_up (va_up V 0 (upd (V 0) 6 0)) 0 (upd ((va_up V 0 (upd (V 0) 6 0)) 0) 6 (vlS 5 (Pv 3 q) (Pv 4 q) I (V 1) (V 2) (V 3) (V 4))))) ++ (wP k bd Pv) ++ ([(ia, aI k 4 I)])) rfl (fun H locs hh => ?_)
      refine lv_aload_n hx hb dX0_step_251 rfl (lv_at hl 2 rfl) ?_
      refine gfl hx hb hg inX0 hown hK hh.1 0 (ci := 0) rfl rfl 0 (by decide) wd_157 rfl dX0_step_252 ?_
      refine lv_iload hx hb dX0_step_255 (lv_at hl 1 rfl) ?_
      refine lv_aload_n hx hb dX0_step_257 rfl (lv_at hl 2 rfl) ?_
      refine gfl hx hb hg inX0 hown hK hh.1 0 (ci := 0) rfl rfl 6 (by decide) wd_166 rfl dX0_step_258 ?_
      refine stx hx hb hK hh 1 0 rfl rfl (vp_lim (n := 8) hlA (by decide) (by decide)) dX0_step_261 ((wM k ad (va_up (va_up (va_up V 0 (upd (V 0) 6 0)) 0 (upd ((va_up V 0 (upd (V 0) 6 0)) 0) 6 (vlS 5 (Pv 3 q) (Pv 4 q) I (V 1) (V 2) (V 3) (V 4)))) 1 (upd (V 1) (((Pv 2) q).toNatClampNeg) (vlS 5 (Pv 3 q) (Pv 4 q) I (V 1) (V 2) (V 3) (V 4))))) ++ (wP k bd Pv) ++ ([(ia, aI k 4 I)])) rfl (fun H locs hh => ?_)
      refine lv_iload_n hx hb dX0_step_262 rfl (lv_at hl 5 rfl) ?_
      refine lv_iconst (v := 1) hx hb dX0_step_263 (by decide) ?_
      refine lv_iadd hx hb dX0_step_264 ?_
      refine topv (nI (q + 1)) (nI_add q 1) ?_
      exact retI (Wd := fun U => (wM k ad U) ++ (wP k bd Pv) ++ ([(ia, aI k 4 I)])) (v := nI (q + 1)) (va_up (va_up (va_up V 0 (upd (V 0) 6 0)) 0 (upd ((va_up V 0 (upd (V 0) 6 0)) 0) 6 (vlS 5 (Pv 3 q) (Pv 4 q) I (V 1) (V 2) (V 3) (V 4)))) 1 (upd (V 1) (((Pv 2) q).toNatClampNeg) (vlS 5 (Pv 3 q) (Pv 4 q) I (V 1) (V 2) (V 3) (V 4)))) hx hb hr hlocks dX0_step_265 hh (⟨by first | rfl | (unfold nwS; rw [hF, kd_of hk hj]; rfl) | (unfold nwS; rw [hF, kd_of hk hj]; simp; done) | (unfold nwS; rw [hF, kd_of hk hj]; simp [c_194]; done) | (unfold nwS; rw [hF, kd_of hk hj]; simp [c_194]; exact hbx) | (unfold nwS; rw [hF, kd_of hk hj]; simp; exact hbx), by unfold reS; rw [hF, kd_of hk hj]; first | (simp [up_s, up_n]; done) | (simp [up_s, up_n, tlS, hF, kd_of hk hj]; done) | (simp [up_s, up_n, tlS, hF, kd_of hk hj, hbe, hce, ix_nI (show b1 < 2 ^ 31 by omega), ix_nI (show d1 < 2 ^ 31 by omega)]; done), by unfold tiS; rw [hF, kd_of hk hj]; first | (simp [up_s, up_n]; done) | (simp [up_s, up_n, tlS, hF, kd_of hk hj]; done) | (simp [up_s, up_n, tlS, hF, kd_of hk hj, hbe, hce, ix_nI (show b1 < 2 ^ 31 by omega), ix_nI (show d1 < 2 ^ 31 by omega)]; done), by unfold glS; rw [hF, kd_of hk hj]; first | (simp [up_s, up_n]; done) | (simp [up_s, up_n, tlS, hF, kd_of hk hj]; done) | (simp [up_s, up_n, tlS, hF, kd_of hk hj, hbe, hce, ix_nI (show b1 < 2 ^ 31 by omega), ix_nI (show d1 < 2 ^ 31 by omega)]; done), rfl, rfl, rfl, by unfold tlS; rw [hF, kd_of hk hj]; first | (simp [up_s, up_n, upd_s, upd_n]; done) | (simp [up_s, up_n, upd_s, upd_n, c_194]; done), rfl, by rw [hF]; rfl⟩)
    · refine lv_tableIn (off := 178) (tgt := 228) hx hb dX0_step_50 (by decide) (by decide) (by rfl) (by decide) ?_
      refine lv_aload_n hx hb dX0_step_228 rfl (lv_at hl 2 rfl) ?_
      refine lv_aload_n hx hb dX0_step_229 rfl (lv_at hl 2 rfl) ?_
      refine lv_aload_n hx hb dX0_step_230 rfl (lv_at hl 3 rfl) ?_
      refine gflN hx hb hg hN inX1 hown hK hh.1 6 (ci := 1) rfl rfl 0 (by decide) 72 nst_72 rfl dX0_step_231 ?_
      refine lv_iload_n hx hb dX0_step_234 rfl (lv_at hl 5 rfl) ?_
      refine ldn hx hb hK hh.1 7 0 rfl rfl (by omega) (by decide) dX0_step_235 ?_
      refine topv (nI 6) hk ?_
      refine lv_iload hx hb dX0_step_236 (lv_at hl 0 rfl) ?_
      refine lv_aload_n hx hb dX0_step_238 rfl (lv_at hl 3 rfl) ?_
      refine gflN hx hb hg hN inX1 hown hK hh.1 6 (ci := 1) rfl rfl 3 (by decide) 79 nst_79 rfl dX0_step_239 ?_
      refine lv_iload_n hx hb dX0_step_242 rfl (lv_at hl 5 rfl) ?_
      refine ldn hx hb hK hh.1 10 0 rfl rfl (by omega) (by decide) dX0_step_243 ?_
      refine lv_aload_n hx hb dX0_step_244 rfl (lv_at hl 4 rfl) ?_
      refine callR (runV hx hb hg hown hml hl.1 (c_X0_valueOf l D k ad (va_up V 0 (upd (V 0) 6 0)) ia I (j := 6) (by decide) (Pv 3 q) (Pv 4 q) hlB hlC hrow) [.int (nI 6), .int ((Pv 3) q), .int ((Pv 4) q), .ref ia] [.ref (ad 0)] (preR (mapSome_sub hh.1 [0, 1, 2, 3, 4, 5, 14] rfl) hK hN xb0 x0) (va_recv hK hh.1 (ci := 0) (q0 := 0) rfl rfl) wd_417 wd_419 wd_17 wd_52 wd_420 lk_X0_valueOf ⟨rfl, rfl⟩ ⟨by decide, by decide⟩ ⟨Nat.zero_le _, Nat.zero_le _⟩ rfl (Nat.le_of_ble_eq_true rfl) dX0_step_245) (fun r_245 q_245 => ?_)
      obtain rfl := q_245
      refine pfl hx hb hg inX0 tyX0 tyX0_ok nmX0 hown hK hh 0 (ci := 0) rfl rfl 6 (by decide) wd_166 rfl rfl rfl (Nat.le_of_ble_eq_true rfl) dX0_step_248 ((wM k ad (va_up (va_up V 0 (upd (V 0) 6 0)) 0 (upd ((va_up V 0 (upd (V 0) 6 0)) 0) 6 (vlS 6 (Pv 3 q) (Pv 4 q) I (V 1) (V 2) (V 3) (V 4))))) ++ (wP k bd Pv) ++ ([(ia, aI k 4 I)])) rfl (fun H locs hh => ?_)
      refine lv_aload_n hx hb dX0_step_251 rfl (lv_at hl 2 rfl) ?_
      refine gfl hx hb hg inX0 hown hK hh.1 0 (ci := 0) rfl rfl 0 (by decide) wd_157 rfl dX0_step_252 ?_
      refine lv_iload hx hb dX0_step_255 (lv_at hl 1 rfl) ?_
      refine lv_aload_n hx hb dX0_step_257 rfl (lv_at hl 2 rfl) ?_
      refine gfl hx hb hg inX0 hown hK hh.1 0 (ci := 0) rfl rfl 6 (by decide) wd_166 rfl dX0_step_258 ?_
      refine stx hx hb hK hh 1 0 rfl rfl (vp_lim (n := 8) hlA (by decide) (by decide)) dX0_step_261 ((wM k ad (va_up (va_up (va_up V 0 (upd (V 0) 6 0)) 0 (upd ((va_up V 0 (upd (V 0) 6 0)) 0) 6 (vlS 6 (Pv 3 q) (Pv 4 q) I (V 1) (V 2) (V 3) (V 4)))) 1 (upd (V 1) (((Pv 2) q).toNatClampNeg) (vlS 6 (Pv 3 q) (Pv 4 q) I (V 1) (V 2) (V 3) (V 4))))) ++ (wP k bd Pv) ++ ([(ia, aI k 4 I)])) rfl (fun H locs hh => ?_)
      refine lv_iload_n hx hb dX0_step_262 rfl (lv_at hl 5 rfl) ?_
      refine lv_iconst (v := 1) hx hb dX0_step_263 (by decide) ?_
      refine lv_iadd hx hb dX0_step_264 ?_
      refine topv (nI (q + 1)) (nI_add q 1) ?_
      exact retI (Wd := fun U => (wM k ad U) ++ (wP k bd Pv) ++ ([(ia, aI k 4 I)])) (v := nI (q + 1)) (va_up (va_up (va_up V 0 (upd (V 0) 6 0)) 0 (upd ((va_up V 0 (upd (V 0) 6 0)) 0) 6 (vlS 6 (Pv 3 q) (Pv 4 q) I (V 1) (V 2) (V 3) (V 4)))) 1 (upd (V 1) (((Pv 2) q).toNatClampNeg) (vlS 6 (Pv 3 q) (Pv 4 q) I (V 1) (V 2) (V 3) (V 4)))) hx hb hr hlocks dX0_step_265 hh (⟨by first | rfl | (unfold nwS; rw [hF, kd_of hk hj]; rfl) | (unfold nwS; rw [hF, kd_of hk hj]; simp; done) | (unfold nwS; rw [hF, kd_of hk hj]; simp [c_194]; done) | (unfold nwS; rw [hF, kd_of hk hj]; simp [c_194]; exact hbx) | (unfold nwS; rw [hF, kd_of hk hj]; simp; exact hbx), by unfold reS; rw [hF, kd_of hk hj]; first | (simp [up_s, up_n]; done) | (simp [up_s, up_n, tlS, hF, kd_of hk hj]; done) | (simp [up_s, up_n, tlS, hF, kd_of hk hj, hbe, hce, ix_nI (show b1 < 2 ^ 31 by omega), ix_nI (show d1 < 2 ^ 31 by omega)]; done), by unfold tiS; rw [hF, kd_of hk hj]; first | (simp [up_s, up_n]; done) | (simp [up_s, up_n, tlS, hF, kd_of hk hj]; done) | (simp [up_s, up_n, tlS, hF, kd_of hk hj, hbe, hce, ix_nI (show b1 < 2 ^ 31 by omega), ix_nI (show d1 < 2 ^ 31 by omega)]; done), by unfold glS; rw [hF, kd_of hk hj]; first | (simp [up_s, up_n]; done) | (simp [up_s, up_n, tlS, hF, kd_of hk hj]; done) | (simp [up_s, up_n, tlS, hF, kd_of hk hj, hbe, hce, ix_nI (show b1 < 2 ^ 31 by omega), ix_nI (show d1 < 2 ^ 31 by omega)]; done), rfl, rfl, rfl, by unfold tlS; rw [hF, kd_of hk hj]; first | (simp [up_s, up_n, upd_s, upd_n]; done) | (simp [up_s, up_n, upd_s, upd_n, c_194]; done), rfl, by rw [hF]; rfl⟩)
    · obtain ⟨b1, hb1, hbe⟩ := lim_nI hlB (by decide)
      have hb1 : b1 < 8 := hb1
      obtain ⟨d1, hd1, hce⟩ := lim_nI hlC (by decide)
      have hd1 : d1 < 4 := hd1
      refine lv_tableIn (off := 74) (tgt := 124) hx hb dX0_step_50 (by decide) (by decide) (by rfl) (by decide) ?_
      refine lv_aload_n hx hb dX0_step_124 rfl (lv_at hl 2 rfl) ?_
      refine lv_aload_n hx hb dX0_step_125 rfl (lv_at hl 2 rfl) ?_
      refine gfl hx hb hg inX0 hown hK hh.1 0 (ci := 0) rfl rfl 0 (by decide) wd_157 rfl dX0_step_126 ?_
      refine lv_iload hx hb dX0_step_129 (lv_at hl 1 rfl) ?_
      refine ldx hx hb hK hh.1 1 0 rfl rfl (vp_lim (n := 8) hlA (by decide) (by decide)) dX0_step_131 ?_
      refine pfl hx hb hg inX0 tyX0 tyX0_ok nmX0 hown hK hh 0 (ci := 0) rfl rfl 6 (by decide) wd_166 rfl rfl rfl (Nat.le_of_ble_eq_true rfl) dX0_step_132 ((wM k ad (va_up (va_up V 0 (upd (V 0) 6 0)) 0 (upd ((va_up V 0 (upd (V 0) 6 0)) 0) 6 ((V 1) ((Pv 2) q).toNatClampNeg)))) ++ (wP k bd Pv) ++ ([(ia, aI k 4 I)])) rfl (fun H locs hh => ?_)
      refine lv_aload_n hx hb dX0_step_135 rfl (lv_at hl 2 rfl) ?_
      refine gfl hx hb hg inX0 hown hK hh.1 0 (ci := 0) rfl rfl 1 (by decide) wd_159 rfl dX0_step_136 ?_
      refine lv_aload_n hx hb dX0_step_139 rfl (lv_at hl 2 rfl) ?_
      refine lv_iload hx hb dX0_step_140 (lv_at hl 0 rfl) ?_
      refine topv (nI b1) hbe ?_
      refine lv_aload_n hx hb dX0_step_142 rfl (lv_at hl 3 rfl) ?_
      refine gflN hx hb hg hN inX1 hown hK hh.1 6 (ci := 1) rfl rfl 3 (by decide) 79 nst_79 rfl dX0_step_143 ?_
      refine lv_iload_n hx hb dX0_step_146 rfl (lv_at hl 5 rfl) ?_
      refine ldn hx hb hK hh.1 10 0 rfl rfl (by omega) (by decide) dX0_step_147 ?_
      refine topv (nI d1) hce ?_
      refine callR (runV hx hb hg hown hml hl.1 (c_X0_itemOf l D k ad (va_up (va_up V 0 (upd (V 0) 6 0)) 0 (upd ((va_up V 0 (upd (V 0) 6 0)) 0) 6 ((V 1) ((Pv 2) q).toNatClampNeg))) (b := b1) hb1 (d := d1) hd1) [.int (nI b1), .int (nI d1)] [.ref (ad 2)] (preR (mapSome_sub hh.1 [0, 1, 2, 3, 4, 5] rfl) hK hN xb0 x0) (va_recv hK hh.1 (ci := 0) (q0 := 0) rfl rfl) wd_413 wd_415 wd_16 wd_52 wd_416 lk_X0_itemOf ⟨rfl, rfl⟩ ⟨by decide, by decide⟩ ⟨Nat.zero_le _, Nat.zero_le _⟩ rfl (Nat.le_of_ble_eq_true rfl) dX0_step_148) (fun r_148 q_148 => ?_)
      obtain rfl := q_148
      refine lv_aload_n hx hb dX0_step_151 rfl (lv_at hl 2 rfl) ?_
      refine gfl hx hb hg inX0 hown hK hh.1 0 (ci := 0) rfl rfl 6 (by decide) wd_166 rfl dX0_step_152 ?_
      refine stx hx hb hK hh 2 0 rfl rfl (itI_in (hrow d1 hd1)) dX0_step_155 ((wM k ad (va_up (va_up (va_up V 0 (upd (V 0) 6 0)) 0 (upd ((va_up V 0 (upd (V 0) 6 0)) 0) 6 ((V 1) ((Pv 2) q).toNatClampNeg))) 2 (upd (V 2) ((itI (V 4 d1) (V 1 b1)).toNatClampNeg) ((V 1) ((Pv 2) q).toNatClampNeg)))) ++ (wP k bd Pv) ++ ([(ia, aI k 4 I)])) rfl (fun H locs hh => ?_)
      refine lv_iload_n hx hb dX0_step_156 rfl (lv_at hl 5 rfl) ?_
      refine lv_iconst (v := 1) hx hb dX0_step_157 (by decide) ?_
      refine lv_iadd hx hb dX0_step_158 ?_
      refine topv (nI (q + 1)) (nI_add q 1) ?_
      exact retI (Wd := fun U => (wM k ad U) ++ (wP k bd Pv) ++ ([(ia, aI k 4 I)])) (v := nI (q + 1)) (va_up (va_up (va_up V 0 (upd (V 0) 6 0)) 0 (upd ((va_up V 0 (upd (V 0) 6 0)) 0) 6 ((V 1) ((Pv 2) q).toNatClampNeg))) 2 (upd (V 2) ((itI (V 4 d1) (V 1 b1)).toNatClampNeg) ((V 1) ((Pv 2) q).toNatClampNeg))) hx hb hr hlocks dX0_step_159 hh (⟨by first | rfl | (unfold nwS; rw [hF, kd_of hk hj]; rfl) | (unfold nwS; rw [hF, kd_of hk hj]; simp; done) | (unfold nwS; rw [hF, kd_of hk hj]; simp [c_194]; done) | (unfold nwS; rw [hF, kd_of hk hj]; simp [c_194]; exact hbx) | (unfold nwS; rw [hF, kd_of hk hj]; simp; exact hbx), by unfold reS; rw [hF, kd_of hk hj]; first | (simp [up_s, up_n]; done) | (simp [up_s, up_n, tlS, hF, kd_of hk hj]; done) | (simp [up_s, up_n, tlS, hF, kd_of hk hj, hbe, hce, ix_nI (show b1 < 2 ^ 31 by omega), ix_nI (show d1 < 2 ^ 31 by omega)]; done), by unfold tiS; rw [hF, kd_of hk hj]; first | (simp [up_s, up_n]; done) | (simp [up_s, up_n, tlS, hF, kd_of hk hj]; done) | (simp [up_s, up_n, tlS, hF, kd_of hk hj, hbe, hce, ix_nI (show b1 < 2 ^ 31 by omega), ix_nI (show d1 < 2 ^ 31 by omega)]; done), by unfold glS; rw [hF, kd_of hk hj]; first | (simp [up_s, up_n]; done) | (simp [up_s, up_n, tlS, hF, kd_of hk hj]; done) | (simp [up_s, up_n, tlS, hF, kd_of hk hj, hbe, hce, ix_nI (show b1 < 2 ^ 31 by omega), ix_nI (show d1 < 2 ^ 31 by omega)]; done), rfl, rfl, rfl, by unfold tlS; rw [hF, kd_of hk hj]; first | (simp [up_s, up_n, upd_s, upd_n]; done) | (simp [up_s, up_n, upd_s, upd_n, c_194]; done), rfl, by rw [hF]; rfl⟩)
    · refine lv_tableIn (off := 178) (tgt := 228) hx hb dX0_step_50 (by decide) (by decide) (by rfl) (by decide) ?_
      refine lv_aload_n hx hb dX0_step_228 rfl (lv_at hl 2 rfl) ?_
      refine lv_aload_n hx hb dX0_step_229 rfl (lv_at hl 2 rfl) ?_
      refine lv_aload_n hx hb dX0_step_230 rfl (lv_at hl 3 rfl) ?_
      refine gflN hx hb hg hN inX1 hown hK hh.1 6 (ci := 1) rfl rfl 0 (by decide) 72 nst_72 rfl dX0_step_231 ?_
      refine lv_iload_n hx hb dX0_step_234 rfl (lv_at hl 5 rfl) ?_
      refine ldn hx hb hK hh.1 7 0 rfl rfl (by omega) (by decide) dX0_step_235 ?_
      refine topv (nI 8) hk ?_
      refine lv_iload hx hb dX0_step_236 (lv_at hl 0 rfl) ?_
      refine lv_aload_n hx hb dX0_step_238 rfl (lv_at hl 3 rfl) ?_
      refine gflN hx hb hg hN inX1 hown hK hh.1 6 (ci := 1) rfl rfl 3 (by decide) 79 nst_79 rfl dX0_step_239 ?_
      refine lv_iload_n hx hb dX0_step_242 rfl (lv_at hl 5 rfl) ?_
      refine ldn hx hb hK hh.1 10 0 rfl rfl (by omega) (by decide) dX0_step_243 ?_
      refine lv_aload_n hx hb dX0_step_244 rfl (lv_at hl 4 rfl) ?_
      refine callR (runV hx hb hg hown hml hl.1 (c_X0_valueOf l D k ad (va_up V 0 (upd (V 0) 6 0)) ia I (j := 8) (by decide) (Pv 3 q) (Pv 4 q) hlB hlC hrow) [.int (nI 8), .int ((Pv 3) q), .int ((Pv 4) q), .ref ia] [.ref (ad 0)] (preR (mapSome_sub hh.1 [0, 1, 2, 3, 4, 5, 14] rfl) hK hN xb0 x0) (va_recv hK hh.1 (ci := 0) (q0 := 0) rfl rfl) wd_417 wd_419 wd_17 wd_52 wd_420 lk_X0_valueOf ⟨rfl, rfl⟩ ⟨by decide, by decide⟩ ⟨Nat.zero_le _, Nat.zero_le _⟩ rfl (Nat.le_of_ble_eq_true rfl) dX0_step_245) (fun r_245 q_245 => ?_)
      obtain rfl := q_245
      refine pfl hx hb hg inX0 tyX0 tyX0_ok nmX0 hown hK hh 0 (ci := 0) rfl rfl 6 (by decide) wd_166 rfl rfl rfl (Nat.le_of_ble_eq_true rfl) dX0_step_248 ((wM k ad (va_up (va_up V 0 (upd (V 0) 6 0)) 0 (upd ((va_up V 0 (upd (V 0) 6 0)) 0) 6 (vlS 8 (Pv 3 q) (Pv 4 q) I (V 1) (V 2) (V 3) (V 4))))) ++ (wP k bd Pv) ++ ([(ia, aI k 4 I)])) rfl (fun H locs hh => ?_)
      refine lv_aload_n hx hb dX0_step_251 rfl (lv_at hl 2 rfl) ?_
      refine gfl hx hb hg inX0 hown hK hh.1 0 (ci := 0) rfl rfl 0 (by decide) wd_157 rfl dX0_step_252 ?_
      refine lv_iload hx hb dX0_step_255 (lv_at hl 1 rfl) ?_
      refine lv_aload_n hx hb dX0_step_257 rfl (lv_at hl 2 rfl) ?_
      refine gfl hx hb hg inX0 hown hK hh.1 0 (ci := 0) rfl rfl 6 (by decide) wd_166 rfl dX0_step_258 ?_
      refine stx hx hb hK hh 1 0 rfl rfl (vp_lim (n := 8) hlA (by decide) (by decide)) dX0_step_261 ((wM k ad (va_up (va_up (va_up V 0 (upd (V 0) 6 0)) 0 (upd ((va_up V 0 (upd (V 0) 6 0)) 0) 6 (vlS 8 (Pv 3 q) (Pv 4 q) I (V 1) (V 2) (V 3) (V 4)))) 1 (upd (V 1) (((Pv 2) q).toNatClampNeg) (vlS 8 (Pv 3 q) (Pv 4 q) I (V 1) (V 2) (V 3) (V 4))))) ++ (wP k bd Pv) ++ ([(ia, aI k 4 I)])) rfl (fun H locs hh => ?_)
      refine lv_iload_n hx hb dX0_step_262 rfl (lv_at hl 5 rfl) ?_
      refine lv_iconst (v := 1) hx hb dX0_step_263 (by decide) ?_
      refine lv_iadd hx hb dX0_step_264 ?_
      refine topv (nI (q + 1)) (nI_add q 1) ?_
      exact retI (Wd := fun U => (wM k ad U) ++ (wP k bd Pv) ++ ([(ia, aI k 4 I)])) (v := nI (q + 1)) (va_up (va_up (va_up V 0 (upd (V 0) 6 0)) 0 (upd ((va_up V 0 (upd (V 0) 6 0)) 0) 6 (vlS 8 (Pv 3 q) (Pv 4 q) I (V 1) (V 2) (V 3) (V 4)))) 1 (upd (V 1) (((Pv 2) q).toNatClampNeg) (vlS 8 (Pv 3 q) (Pv 4 q) I (V 1) (V 2) (V 3) (V 4)))) hx hb hr hlocks dX0_step_265 hh (⟨by first | rfl | (unfold nwS; rw [hF, kd_of hk hj]; rfl) | (unfold nwS; rw [hF, kd_of hk hj]; simp; done) | (unfold nwS; rw [hF, kd_of hk hj]; simp [c_194]; done) | (unfold nwS; rw [hF, kd_of hk hj]; simp [c_194]; exact hbx) | (unfold nwS; rw [hF, kd_of hk hj]; simp; exact hbx), by unfold reS; rw [hF, kd_of hk hj]; first | (simp [up_s, up_n]; done) | (simp [up_s, up_n, tlS, hF, kd_of hk hj]; done) | (simp [up_s, up_n, tlS, hF, kd_of hk hj, hbe, hce, ix_nI (show b1 < 2 ^ 31 by omega), ix_nI (show d1 < 2 ^ 31 by omega)]; done), by unfold tiS; rw [hF, kd_of hk hj]; first | (simp [up_s, up_n]; done) | (simp [up_s, up_n, tlS, hF, kd_of hk hj]; done) | (simp [up_s, up_n, tlS, hF, kd_of hk hj, hbe, hce, ix_nI (show b1 < 2 ^ 31 by omega), ix_nI (show d1 < 2 ^ 31 by omega)]; done), by unfold glS; rw [hF, kd_of hk hj]; first | (simp [up_s, up_n]; done) | (simp [up_s, up_n, tlS, hF, kd_of hk hj]; done) | (simp [up_s, up_n, tlS, hF, kd_of hk hj, hbe, hce, ix_nI (show b1 < 2 ^ 31 by omega), ix_nI (show d1 < 2 ^ 31 by omega)]; done), rfl, rfl, rfl, by unfold tlS; rw [hF, kd_of hk hj]; first | (simp [up_s, up_n, upd_s, upd_n]; done) | (simp [up_s, up_n, upd_s, upd_n, c_194]; done), rfl, by rw [hF]; rfl⟩)
    · refine lv_tableIn (off := 178) (tgt := 228) hx hb dX0_step_50 (by decide) (by decide) (by rfl) (by decide) ?_
      refine lv_aload_n hx hb dX0_step_228 rfl (lv_at hl 2 rfl) ?_
      refine lv_aload_n hx hb dX0_step_229 rfl (lv_at hl 2 rfl) ?_
      refine lv_aload_n hx hb dX0_step_230 rfl (lv_at hl 3 rfl) ?_
      refine gflN hx hb hg hN inX1 hown hK hh.1 6 (ci := 1) rfl rfl 0 (by decide) 72 nst_72 rfl dX0_step_231 ?_
      refine lv_iload_n hx hb dX0_step_234 rfl (lv_at hl 5 rfl) ?_
      refine ldn hx hb hK hh.1 7 0 rfl rfl (by omega) (by decide) dX0_step_235 ?_
      refine topv (nI 9) hk ?_
      refine lv_iload hx hb dX0_step_236 (lv_at hl 0 rfl) ?_
      refine lv_aload_n hx hb dX0_step_238 rfl (lv_at hl 3 rfl) ?_
      refine gflN hx hb hg hN inX1 hown hK hh.1 6 (ci := 1) rfl rfl 3 (by decide) 79 nst_79 rfl dX0_step_239 ?_
      refine lv_iload_n hx hb dX0_step_242 rfl (lv_at hl 5 rfl) ?_
      refine ldn hx hb hK hh.1 10 0 rfl rfl (by omega) (by decide) dX0_step_243 ?_
      refine lv_aload_n hx hb dX0_step_244 rfl (lv_at hl 4 rfl) ?_
      refine callR (runV hx hb hg hown hml hl.1 (c_X0_valueOf l D k ad (va_up V 0 (upd (V 0) 6 0)) ia I (j := 9) (by decide) (Pv 3 q) (Pv 4 q) hlB hlC hrow) [.int (nI 9), .int ((Pv 3) q), .int ((Pv 4) q), .ref ia] [.ref (ad 0)] (preR (mapSome_sub hh.1 [0, 1, 2, 3, 4, 5, 14] rfl) hK hN xb0 x0) (va_recv hK hh.1 (ci := 0) (q0 := 0) rfl rfl) wd_417 wd_419 wd_17 wd_52 wd_420 lk_X0_valueOf ⟨rfl, rfl⟩ ⟨by decide, by decide⟩ ⟨Nat.zero_le _, Nat.zero_le _⟩ rfl (Nat.le_of_ble_eq_true rfl) dX0_step_245) (fun r_245 q_245 => ?_)
      obtain rfl := q_245
      refine pfl hx hb hg inX0 tyX0 tyX0_ok nmX0 hown hK hh 0 (ci := 0) rfl rfl 6 (by decide) wd_166 rfl rfl rfl (Nat.le_of_ble_eq_true rfl) dX0_step_248 ((wM k ad (va_up (va_up V 0 (upd (V 0) 6 0)) 0 (upd ((va_up V 0 (upd (V 0) 6 0)) 0) 6 (vlS 9 (Pv 3 q) (Pv 4 q) I (V 1) (V 2) (V 3) (V 4))))) ++ (wP k bd Pv) ++ ([(ia, aI k 4 I)])) rfl (fun H locs hh => ?_)
      refine lv_aload_n hx hb dX0_step_251 rfl (lv_at hl 2 rfl) ?_
      refine gfl hx hb hg inX0 hown hK hh.1 0 (ci := 0) rfl rfl 0 (by decide) wd_157 rfl dX0_step_252 ?_
      refine lv_iload hx hb dX0_step_255 (lv_at hl 1 rfl) ?_
      refine lv_aload_n hx hb dX0_step_257 rfl (lv_at hl 2 rfl) ?_
      refine gfl hx hb hg inX0 hown hK hh.1 0 (ci := 0) rfl rfl 6 (by decide) wd_166 rfl dX0_step_258 ?_
      refine stx hx hb hK hh 1 0 rfl rfl (vp_lim (n := 8) hlA (by decide) (by decide)) dX0_step_261 ((wM k ad (va_up (va_up (va_up V 0 (upd (V 0) 6 0)) 0 (upd ((va_up V 0 (upd (V 0) 6 0)) 0) 6 (vlS 9 (Pv 3 q) (Pv 4 q) I (V 1) (V 2) (V 3) (V 4)))) 1 (upd (V 1) (((Pv 2) q).toNatClampNeg) (vlS 9 (Pv 3 q) (Pv 4 q) I (V 1) (V 2) (V 3) (V 4))))) ++ (wP k bd Pv) ++ ([(ia, aI k 4 I)])) rfl (fun H locs hh => ?_)
      refine lv_iload_n hx hb dX0_step_262 rfl (lv_at hl 5 rfl) ?_
      refine lv_iconst (v := 1) hx hb dX0_step_263 (by decide) ?_
      refine lv_iadd hx hb dX0_step_264 ?_
      refine topv (nI (q + 1)) (nI_add q 1) ?_
      exact retI (Wd := fun U => (wM k ad U) ++ (wP k bd Pv) ++ ([(ia, aI k 4 I)])) (v := nI (q + 1)) (va_up (va_up (va_up V 0 (upd (V 0) 6 0)) 0 (upd ((va_up V 0 (upd (V 0) 6 0)) 0) 6 (vlS 9 (Pv 3 q) (Pv 4 q) I (V 1) (V 2) (V 3) (V 4)))) 1 (upd (V 1) (((Pv 2) q).toNatClampNeg) (vlS 9 (Pv 3 q) (Pv 4 q) I (V 1) (V 2) (V 3) (V 4)))) hx hb hr hlocks dX0_step_265 hh (⟨by first | rfl | (unfold nwS; rw [hF, kd_of hk hj]; rfl) | (unfold nwS; rw [hF, kd_of hk hj]; simp; done) | (unfold nwS; rw [hF, kd_of hk hj]; simp [c_194]; done) | (unfold nwS; rw [hF, kd_of hk hj]; simp [c_194]; exact hbx) | (unfold nwS; rw [hF, kd_of hk hj]; simp; exact hbx), by unfold reS; rw [hF, kd_of hk hj]; first | (simp [up_s, up_n]; done) | (simp [up_s, up_n, tlS, hF, kd_of hk hj]; done) | (simp [up_s, up_n, tlS, hF, kd_of hk hj, hbe, hce, ix_nI (show b1 < 2 ^ 31 by omega), ix_nI (show d1 < 2 ^ 31 by omega)]; done), by unfold tiS; rw [hF, kd_of hk hj]; first | (simp [up_s, up_n]; done) | (simp [up_s, up_n, tlS, hF, kd_of hk hj]; done) | (simp [up_s, up_n, tlS, hF, kd_of hk hj, hbe, hce, ix_nI (show b1 < 2 ^ 31 by omega), ix_nI (show d1 < 2 ^ 31 by omega)]; done), by unfold glS; rw [hF, kd_of hk hj]; first | (simp [up_s, up_n]; done) | (simp [up_s, up_n, tlS, hF, kd_of hk hj]; done) | (simp [up_s, up_n, tlS, hF, kd_of hk hj, hbe, hce, ix_nI (show b1 < 2 ^ 31 by omega), ix_nI (show d1 < 2 ^ 31 by omega)]; done), rfl, rfl, rfl, by unfold tlS; rw [hF, kd_of hk hj]; first | (simp [up_s, up_n, upd_s, upd_n]; done) | (simp [up_s, up_n, upd_s, upd_n, c_194]; done), rfl, by rw [hF]; rfl⟩)
    · refine lv_tableIn (off := 110) (tgt := 160) hx hb dX0_step_50 (by decide) (by decide) (by rfl) (by decide) ?_
      refine lv_aload_n hx hb dX0_step_160 rfl (lv_at hl 2 rfl) ?_
      refine lv_aload_n hx hb dX0_step_161 rfl (lv_at hl 2 rfl) ?_
      refine gfl hx hb hg inX0 hown hK hh.1 0 (ci := 0) rfl rfl 0 (by decide) wd_157 rfl dX0_step_162 ?_
      refine lv_iload hx hb dX0_step_165 (lv_at hl 1 rfl) ?_
      refine ldx hx hb hK hh.1 1 0 rfl rfl (vp_lim (n := 8) hlA (by decide) (by decide)) dX0_step_167 ?_
      refine pfl hx hb hg inX0 tyX0 tyX0_ok nmX0 hown hK hh 0 (ci := 0) rfl rfl 6 (by decide) wd_166 rfl rfl rfl (Nat.le_of_ble_eq_true rfl) dX0_step_168 ((wM k ad (va_up (va_up V 0 (upd (V 0) 6 0)) 0 (upd ((va_up V 0 (upd (V 0) 6 0)) 0) 6 ((V 1) ((Pv 2) q).toNatClampNeg)))) ++ (wP k bd Pv) ++ ([(ia, aI k 4 I)])) rfl (fun H locs hh => ?_)
      refine lv_aload_n hx hb dX0_step_171 rfl (lv_at hl 2 rfl) ?_
      refine gfl hx hb hg inX0 hown hK hh.1 0 (ci := 0) rfl rfl 2 (by decide) wd_160 rfl dX0_step_172 ?_
      refine lv_iload hx hb dX0_step_175 (lv_at hl 0 rfl) ?_
      refine lv_aload_n hx hb dX0_step_177 rfl (lv_at hl 2 rfl) ?_
      refine gfl hx hb hg inX0 hown hK hh.1 0 (ci := 0) rfl rfl 6 (by decide) wd_166 rfl dX0_step_178 ?_
      refine stx hx hb hK hh 3 0 rfl rfl (vp_lim (n := 4) hlB (by decide) (by decide)) dX0_step_181 ((wM k ad (va_up (va_up (va_up V 0 (upd (V 0) 6 0)) 0 (upd ((va_up V 0 (upd (V 0) 6 0)) 0) 6 ((V 1) ((Pv 2) q).toNatClampNeg))) 3 (upd (V 3) (((Pv 3) q).toNatClampNeg) ((V 1) ((Pv 2) q).toNatClampNeg)))) ++ (wP k bd Pv) ++ ([(ia, aI k 4 I)])) rfl (fun H locs hh => ?_)
      refine lv_iload_n hx hb dX0_step_182 rfl (lv_at hl 5 rfl) ?_
      refine lv_iconst (v := 1) hx hb dX0_step_183 (by decide) ?_
      refine lv_iadd hx hb dX0_step_184 ?_
      refine topv (nI (q + 1)) (nI_add q 1) ?_
      exact retI (Wd := fun U => (wM k ad U) ++ (wP k bd Pv) ++ ([(ia, aI k 4 I)])) (v := nI (q + 1)) (va_up (va_up (va_up V 0 (upd (V 0) 6 0)) 0 (upd ((va_up V 0 (upd (V 0) 6 0)) 0) 6 ((V 1) ((Pv 2) q).toNatClampNeg))) 3 (upd (V 3) (((Pv 3) q).toNatClampNeg) ((V 1) ((Pv 2) q).toNatClampNeg))) hx hb hr hlocks dX0_step_185 hh (⟨by first | rfl | (unfold nwS; rw [hF, kd_of hk hj]; rfl) | (unfold nwS; rw [hF, kd_of hk hj]; simp; done) | (unfold nwS; rw [hF, kd_of hk hj]; simp [c_194]; done) | (unfold nwS; rw [hF, kd_of hk hj]; simp [c_194]; exact hbx) | (unfold nwS; rw [hF, kd_of hk hj]; simp; exact hbx), by unfold reS; rw [hF, kd_of hk hj]; first | (simp [up_s, up_n]; done) | (simp [up_s, up_n, tlS, hF, kd_of hk hj]; done) | (simp [up_s, up_n, tlS, hF, kd_of hk hj, hbe, hce, ix_nI (show b1 < 2 ^ 31 by omega), ix_nI (show d1 < 2 ^ 31 by omega)]; done), by unfold tiS; rw [hF, kd_of hk hj]; first | (simp [up_s, up_n]; done) | (simp [up_s, up_n, tlS, hF, kd_of hk hj]; done) | (simp [up_s, up_n, tlS, hF, kd_of hk hj, hbe, hce, ix_nI (show b1 < 2 ^ 31 by omega), ix_nI (show d1 < 2 ^ 31 by omega)]; done), by unfold glS; rw [hF, kd_of hk hj]; first | (simp [up_s, up_n]; done) | (simp [up_s, up_n, tlS, hF, kd_of hk hj]; done) | (simp [up_s, up_n, tlS, hF, kd_of hk hj, hbe, hce, ix_nI (show b1 < 2 ^ 31 by omega), ix_nI (show d1 < 2 ^ 31 by omega)]; done), rfl, rfl, rfl, by unfold tlS; rw [hF, kd_of hk hj]; first | (simp [up_s, up_n, upd_s, upd_n]; done) | (simp [up_s, up_n, upd_s, upd_n, c_194]; done), rfl, by rw [hF]; rfl⟩)
    · have hbx : Pv 3 q = nI (ix (Pv 3 q)) := nI_ix (n := 25) hlB (by decide) (by decide)
      refine lv_tableIn (off := 136) (tgt := 186) hx hb dX0_step_50 (by decide) (by decide) (by rfl) (by decide) ?_
      refine lv_aload_n hx hb dX0_step_186 rfl (lv_at hl 2 rfl) ?_
      refine lv_aload_n hx hb dX0_step_187 rfl (lv_at hl 2 rfl) ?_
      refine gfl hx hb hg inX0 hown hK hh.1 0 (ci := 0) rfl rfl 0 (by decide) wd_157 rfl dX0_step_188 ?_
      refine lv_iload hx hb dX0_step_191 (lv_at hl 1 rfl) ?_
      refine ldx hx hb hK hh.1 1 0 rfl rfl (vp_lim (n := 8) hlA (by decide) (by decide)) dX0_step_193 ?_
      refine lv_if_ne (tgt := 201) hx hb dX0_step_194 (by decide) (fun c_194 => ?_) (fun c_194 => ?_)
      · have c_194 : ¬ V 1 (ix (Pv 2 q)) = 0 := c_194
        refine lv_iconst (v := 0) hx hb dX0_step_201 (by decide) ?_
        refine pfl hx hb hg inX0 tyX0 tyX0_ok nmX0 hown hK hh 0 (ci := 0) rfl rfl 6 (by decide) wd_166 rfl rfl rfl (Nat.le_of_ble_eq_true rfl) dX0_step_202 ((wM k ad (va_up (va_up V 0 (upd (V 0) 6 0)) 0 (upd ((va_up V 0 (upd (V 0) 6 0)) 0) 6 0))) ++ (wP k bd Pv) ++ ([(ia, aI k 4 I)])) rfl (fun H locs hh => ?_)
        refine lv_aload_n hx hb dX0_step_205 rfl (lv_at hl 2 rfl) ?_
        refine gfl hx hb hg inX0 hown hK hh.1 0 (ci := 0) rfl rfl 6 (by decide) wd_166 rfl dX0_step_206 ?_
        refine lv_iconst (v := 1) hx hb dX0_step_209 (by decide) ?_
        refine lv_icmp_ne (tgt := 218) hx hb dX0_step_210 (by decide) (fun c_210 => ?_) (fun c_210 => ?_)
        · refine lv_iload_n hx hb dX0_step_218 rfl (lv_at hl 5 rfl) ?_
          refine lv_iconst (v := 1) hx hb dX0_step_219 (by decide) ?_
          refine lv_iadd hx hb dX0_step_220 ?_
          refine topv (nI (q + 1)) (nI_add q 1) ?_
          exact retI (Wd := fun U => (wM k ad U) ++ (wP k bd Pv) ++ ([(ia, aI k 4 I)])) (v := nI (q + 1)) (va_up (va_up V 0 (upd (V 0) 6 0)) 0 (upd ((va_up V 0 (upd (V 0) 6 0)) 0) 6 0)) hx hb hr hlocks dX0_step_221 hh (⟨by first | rfl | (unfold nwS; rw [hF, kd_of hk hj]; rfl) | (unfold nwS; rw [hF, kd_of hk hj]; simp; done) | (unfold nwS; rw [hF, kd_of hk hj]; simp [c_194]; done) | (unfold nwS; rw [hF, kd_of hk hj]; simp [c_194]; exact hbx) | (unfold nwS; rw [hF, kd_of hk hj]; simp; exact hbx), by unfold reS; rw [hF, kd_of hk hj]; first | (simp [up_s, up_n]; done) | (simp [up_s, up_n, tlS, hF, kd_of hk hj]; done) | (simp [up_s, up_n, tlS, hF, kd_of hk hj, hbe, hce, ix_nI (show b1 < 2 ^ 31 by omega), ix_nI (show d1 < 2 ^ 31 by omega)]; done), by unfold tiS; rw [hF, kd_of hk hj]; first | (simp [up_s, up_n]; done) | (simp [up_s, up_n, tlS, hF, kd_of hk hj]; done) | (simp [up_s, up_n, tlS, hF, kd_of hk hj, hbe, hce, ix_nI (show b1 < 2 ^ 31 by omega), ix_nI (show d1 < 2 ^ 31 by omega)]; done), by unfold glS; rw [hF, kd_of hk hj]; first | (simp [up_s, up_n]; done) | (simp [up_s, up_n, tlS, hF, kd_of hk hj]; done) | (simp [up_s, up_n, tlS, hF, kd_of hk hj, hbe, hce, ix_nI (show b1 < 2 ^ 31 by omega), ix_nI (show d1 < 2 ^ 31 by omega)]; done), rfl, rfl, rfl, by unfold tlS; rw [hF, kd_of hk hj]; first | (simp [up_s, up_n, upd_s, upd_n]; done) | (simp [up_s, up_n, upd_s, upd_n, c_194]; done), rfl, by rw [hF]; rfl⟩)
        · exact absurd (show (0 : Int32) = (1 : Int32) from c_210) (by decide)
      · have c_194 : V 1 (ix (Pv 2 q)) = 0 := c_194
        refine lv_iconst (v := 1) hx hb dX0_step_197 (by decide) ?_
        refine lv_goto (tgt := 202) hx hb dX0_step_198 (by decide) ?_
        refine pfl hx hb hg inX0 tyX0 tyX0_ok nmX0 hown hK hh 0 (ci := 0) rfl rfl 6 (by decide) wd_166 rfl rfl rfl (Nat.le_of_ble_eq_true rfl) dX0_step_202 ((wM k ad (va_up (va_up V 0 (upd (V 0) 6 0)) 0 (upd ((va_up V 0 (upd (V 0) 6 0)) 0) 6 1))) ++ (wP k bd Pv) ++ ([(ia, aI k 4 I)])) rfl (fun H locs hh => ?_)
        refine lv_aload_n hx hb dX0_step_205 rfl (lv_at hl 2 rfl) ?_
        refine gfl hx hb hg inX0 hown hK hh.1 0 (ci := 0) rfl rfl 6 (by decide) wd_166 rfl dX0_step_206 ?_
        refine lv_iconst (v := 1) hx hb dX0_step_209 (by decide) ?_
        refine lv_icmp_ne (tgt := 218) hx hb dX0_step_210 (by decide) (fun c_210 => ?_) (fun c_210 => ?_)
        · exact absurd (show ¬ (1 : Int32) = (1 : Int32) from c_210) (by decide)
        · refine lv_iload hx hb dX0_step_213 (lv_at hl 0 rfl) ?_
          refine lv_goto (tgt := 221) hx hb dX0_step_215 (by decide) ?_
          exact retI (Wd := fun U => (wM k ad U) ++ (wP k bd Pv) ++ ([(ia, aI k 4 I)])) (v := (Pv 3) q) (va_up (va_up V 0 (upd (V 0) 6 0)) 0 (upd ((va_up V 0 (upd (V 0) 6 0)) 0) 6 1)) hx hb hr hlocks dX0_step_221 hh (⟨by first | rfl | (unfold nwS; rw [hF, kd_of hk hj]; rfl) | (unfold nwS; rw [hF, kd_of hk hj]; simp; done) | (unfold nwS; rw [hF, kd_of hk hj]; simp [c_194]; done) | (unfold nwS; rw [hF, kd_of hk hj]; simp [c_194]; exact hbx) | (unfold nwS; rw [hF, kd_of hk hj]; simp; exact hbx), by unfold reS; rw [hF, kd_of hk hj]; first | (simp [up_s, up_n]; done) | (simp [up_s, up_n, tlS, hF, kd_of hk hj]; done) | (simp [up_s, up_n, tlS, hF, kd_of hk hj, hbe, hce, ix_nI (show b1 < 2 ^ 31 by omega), ix_nI (show d1 < 2 ^ 31 by omega)]; done), by unfold tiS; rw [hF, kd_of hk hj]; first | (simp [up_s, up_n]; done) | (simp [up_s, up_n, tlS, hF, kd_of hk hj]; done) | (simp [up_s, up_n, tlS, hF, kd_of hk hj, hbe, hce, ix_nI (show b1 < 2 ^ 31 by omega), ix_nI (show d1 < 2 ^ 31 by omega)]; done), by unfold glS; rw [hF, kd_of hk hj]; first | (simp [up_s, up_n]; done) | (simp [up_s, up_n, tlS, hF, kd_of hk hj]; done) | (simp [up_s, up_n, tlS, hF, kd_of hk hj, hbe, hce, ix_nI (show b1 < 2 ^ 31 by omega), ix_nI (show d1 < 2 ^ 31 by omega)]; done), rfl, rfl, rfl, by unfold tlS; rw [hF, kd_of hk hj]; first | (simp [up_s, up_n, upd_s, upd_n]; done) | (simp [up_s, up_n, upd_s, upd_n, c_194]; done), rfl, by rw [hF]; rfl⟩)
    · have hbx : Pv 3 q = nI (ix (Pv 3 q)) := nI_ix (n := 25) hlB (by decide) (by decide)
      refine lv_tableIn (off := 172) (tgt := 222) hx hb dX0_step_50 (by decide) (by decide) (by rfl) (by decide) ?_
      refine lv_iload hx hb dX0_step_222 (lv_at hl 0 rfl) ?_
      exact retI (Wd := fun U => (wM k ad U) ++ (wP k bd Pv) ++ ([(ia, aI k 4 I)])) (v := (Pv 3) q) (va_up V 0 (upd (V 0) 6 0)) hx hb hr hlocks dX0_step_224 hh (⟨by first | rfl | (unfold nwS; rw [hF, kd_of hk hj]; rfl) | (unfold nwS; rw [hF, kd_of hk hj]; simp; done) | (unfold nwS; rw [hF, kd_of hk hj]; simp [c_194]; done) | (unfold nwS; rw [hF, kd_of hk hj]; simp [c_194]; exact hbx) | (unfold nwS; rw [hF, kd_of hk hj]; simp; exact hbx), by unfold reS; rw [hF, kd_of hk hj]; first | (simp [up_s, up_n]; done) | (simp [up_s, up_n, tlS, hF, kd_of hk hj]; done) | (simp [up_s, up_n, tlS, hF, kd_of hk hj, hbe, hce, ix_nI (show b1 < 2 ^ 31 by omega), ix_nI (show d1 < 2 ^ 31 by omega)]; done), by unfold tiS; rw [hF, kd_of hk hj]; first | (simp [up_s, up_n]; done) | (simp [up_s, up_n, tlS, hF, kd_of hk hj]; done) | (simp [up_s, up_n, tlS, hF, kd_of hk hj, hbe, hce, ix_nI (show b1 < 2 ^ 31 by omega), ix_nI (show d1 < 2 ^ 31 by omega)]; done), by unfold glS; rw [hF, kd_of hk hj]; first | (simp [up_s, up_n]; done) | (simp [up_s, up_n, tlS, hF, kd_of hk hj]; done) | (simp [up_s, up_n, tlS, hF, kd_of hk hj, hbe, hce, ix_nI (show b1 < 2 ^ 31 by omega), ix_nI (show d1 < 2 ^ 31 by omega)]; done), rfl, rfl, rfl, by unfold tlS; rw [hF, kd_of hk hj]; first | (simp [up_s, up_n, upd_s, upd_n]; done) | (simp [up_s, up_n, upd_s, upd_n, c_194]; done), rfl, by rw [hF]; rfl⟩)
    · refine lv_tableIn (off := 175) (tgt := 225) hx hb dX0_step_50 (by decide) (by decide) (by rfl) (by decide) ?_
      refine lv_bipush (v := 24) hx hb dX0_step_225 (by decide) ?_
      exact retI (Wd := fun U => (wM k ad U) ++ (wP k bd Pv) ++ ([(ia, aI k 4 I)])) (v := 24) (va_up V 0 (upd (V 0) 6 0)) hx hb hr hlocks dX0_step_227 hh (⟨by first | rfl | (unfold nwS; rw [hF, kd_of hk hj]; rfl) | (unfold nwS; rw [hF, kd_of hk hj]; simp; done) | (unfold nwS; rw [hF, kd_of hk hj]; simp [c_194]; done) | (unfold nwS; rw [hF, kd_of hk hj]; simp [c_194]; exact hbx) | (unfold nwS; rw [hF, kd_of hk hj]; simp; exact hbx), by unfold reS; rw [hF, kd_of hk hj]; first | (simp [up_s, up_n]; done) | (simp [up_s, up_n, tlS, hF, kd_of hk hj]; done) | (simp [up_s, up_n, tlS, hF, kd_of hk hj, hbe, hce, ix_nI (show b1 < 2 ^ 31 by omega), ix_nI (show d1 < 2 ^ 31 by omega)]; done), by unfold tiS; rw [hF, kd_of hk hj]; first | (simp [up_s, up_n]; done) | (simp [up_s, up_n, tlS, hF, kd_of hk hj]; done) | (simp [up_s, up_n, tlS, hF, kd_of hk hj, hbe, hce, ix_nI (show b1 < 2 ^ 31 by omega), ix_nI (show d1 < 2 ^ 31 by omega)]; done), by unfold glS; rw [hF, kd_of hk hj]; first | (simp [up_s, up_n]; done) | (simp [up_s, up_n, tlS, hF, kd_of hk hj]; done) | (simp [up_s, up_n, tlS, hF, kd_of hk hj, hbe, hce, ix_nI (show b1 < 2 ^ 31 by omega), ix_nI (show d1 < 2 ^ 31 by omega)]; done), rfl, rfl, rfl, by unfold tlS; rw [hF, kd_of hk hj]; first | (simp [up_s, up_n, upd_s, upd_n]; done) | (simp [up_s, up_n, upd_s, upd_n, c_194]; done), rfl, by rw [hF]; rfl⟩)
  · have hF := zI_ne c_22
    refine lv_aload_n hx hb dX0_step_25 rfl (lv_at hl 2 rfl) ?_
    refine lv_iload_n hx hb dX0_step_26 rfl (lv_at hl 5 rfl) ?_
    refine pfl hx hb hg inX0 tyX0 tyX0_ok nmX0 hown hK hh 0 (ci := 0) rfl rfl 8 (by decide) wd_169 rfl rfl rfl (Nat.le_of_ble_eq_true rfl) dX0_step_27 ((wM k ad (va_up V 0 (upd (V 0) 8 (nI q)))) ++ (wP k bd Pv) ++ ([(ia, aI k 4 I)])) rfl (fun H locs hh => ?_)
    refine lv_aload_n hx hb dX0_step_30 rfl (lv_at hl 2 rfl) ?_
    refine lv_ldc (v := 1000000007) hx hb hown (hg _ wd_412) dX0_step_31 ?_
    refine pfl hx hb hg inX0 tyX0 tyX0_ok nmX0 hown hK hh 0 (ci := 0) rfl rfl 6 (by decide) wd_166 rfl rfl rfl (Nat.le_of_ble_eq_true rfl) dX0_step_33 ((wM k ad (va_up (va_up V 0 (upd (V 0) 8 (nI q))) 0 (upd ((va_up V 0 (upd (V 0) 8 (nI q))) 0) 6 1000000007))) ++ (wP k bd Pv) ++ ([(ia, aI k 4 I)])) rfl (fun H locs hh => ?_)
    refine lv_bipush (v := 24) hx hb dX0_step_36 (by decide) ?_
    exact retI (Wd := fun U => (wM k ad U) ++ (wP k bd Pv) ++ ([(ia, aI k 4 I)])) (v := 24) (va_up (va_up V 0 (upd (V 0) 8 (nI q))) 0 (upd ((va_up V 0 (upd (V 0) 8 (nI q))) 0) 6 1000000007)) hx hb hr hlocks dX0_step_38 hh (⟨by unfold nwS; rw [hF]; rfl, by unfold reS; rw [hF]; rfl, by unfold tiS; rw [hF]; rfl, by unfold glS; rw [hF]; rfl, rfl, rfl, rfl, by unfold tlS; rw [hF]; rfl, rfl, by rw [hF]; rfl⟩)
