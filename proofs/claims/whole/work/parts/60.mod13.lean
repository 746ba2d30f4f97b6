/-! the reference: begin, does -/
abbrev rmX4_begin : Room := { frames := 1, cells := 0, slots := 0, locals := 22 }
theorem lk_X4_begin : Lk yX4_begin 2 := by decide +kernel
set_option maxHeartbeats 4000000 in
set_option maxRecDepth 100000 in
/-- begin(from, at) -/
theorem c_X4_begin (l : Launch) (D : va_G) (k : Nat → ClassId) (ad : Nat → Nat) (V : St) {n : Nat} (hv : okV n (pq V)) {t : Nat} (ht : t < 1) : CtX noX l yX4_begin cX4_begin 6 none rmX4_begin D (tyL k) (wQ k ad V) [.ref (ad 0), .ref (ad 5), .int (nI (4 * t))] (qV D (wQ k ad) (fun U => bgS (pq V) (fun j => V 5 (4 * t + j)) (tq U) ∧ U 0 28 = 0 ∧ U 0 29 = -4 ∧ U 0 30 = 0 ∧ U 21 = V 21 ∧ FrG V U)) := by
  refine CtX.mk (by decide) (Nat.le_of_ble_eq_true rfl) ?_
  intro p e s m below meth c hx hb hml hown hg hr hlocks hK hN A hA hX hh ls hl
  have hh : Hd D A (wQ k ad V) s.heap s.heap [] := hh
  have hl : lv_has ls 6 [(0, .ref (ad 0)), (1, .ref (ad 5)), (2, .int (nI (4 * t)))] := hl
  have h00 : V 0 0 = nI n := hv.2.1
  have hn24 := hv.1
  obtain ⟨a3, ha3, ea3⟩ := and_max (V 5 (4 * t + 3))
  refine lv_iconst (v := 0) hx hb dX4_begin_0 (by decide) ?_
  refine lv_istore_n (lv' := [(3, .int 0), (0, .ref (ad 0)), (1, .ref (ad 5)), (2, .int (nI (4 * t)))]) hx hb dX4_begin_1 rfl hl (by decide) rfl (fun ls hl => ?_)
  refine loopW (σ := Nat × St) (fun zz9 H locs ls => match zz9 with | (i, U1) => Hd D A (wQ k ad U1) s.heap H locs ∧ lv_has ls 6 [(0, .ref (ad 0)), (1, .ref (ad 5)), (2, .int (nI (4 * t))), (3, .int (nI i))] ∧ (i ≤ 8) ∧ (Fr [17, 18, 19, 20] V U1) ∧ (∀ j, j < i → U1 17 j = 0)) (fun zz9 => match zz9 with | (i, U1) => 8 - i) ?_ (0, V) ⟨hh, (lv_sub hl [1, 2, 3, 0] rfl), (by omega), Fr.rf, (fun j hj => absurd hj (Nat.not_lt_zero _))⟩
  intro zz9 H locs ls hI ih
  obtain ⟨i, U1⟩ := zz9
  obtain ⟨hh, hl, hi, hf, zz_⟩ := hI
  refine lv_iload_n hx hb dX4_begin_2 rfl (lv_at hl 3 rfl) ?_
  refine lv_bipush (v := 8) hx hb dX4_begin_3 (by decide) ?_
  refine lv_icmp_ge (tgt := 21) hx hb dX4_begin_5 (by decide) (fun c_5 => ?_) (fun c_5 => ?_)
  · have c_5 : 8 ≤ i := (nI_leI (a := 8) (b := i) (by omega) (by omega)).mp c_5
    refine lv_iconst (v := 0) hx hb dX4_begin_21 (by decide) ?_
    refine lv_istore_n (lv' := [(3, .int 0), (0, .ref (ad 0)), (1, .ref (ad 5)), (2, .int (nI (4 * t)))]) hx hb dX4_begin_22 rfl hl (by decide) rfl (fun ls hl => ?_)
    refine loopW (σ := Nat × St) (fun zz9 H locs ls => match zz9 with | (i, U2) => Hd D A (wQ k ad U2) s.heap H locs ∧ lv_has ls 6 [(0, .ref (ad 0)), (1, .ref (ad 5)), (2, .int (nI (4 * t))), (3, .int (nI i))] ∧ (i ≤ 32) ∧ (Fr [17, 18, 19, 20] V U2) ∧ (∀ j, j < 8 → U2 17 j = 0) ∧ (∀ j, j < i → U2 18 j = 0)) (fun zz9 => match zz9 with | (i, U2) => 32 - i) ?_ (0, U1) ⟨hh, (lv_sub hl [1, 2, 3, 0] rfl), (by omega), hf, (fun j hj => zz_ j (by omega)), (fun j hj => absurd hj (Nat.not_lt_zero _))⟩
    intro zz9 H locs ls hI ih
    obtain ⟨i, U2⟩ := zz9
    obtain ⟨hh, hl, hi, hf, z17, zz_⟩ := hI
    refine lv_iload_n hx hb dX4_begin_23 rfl (lv_at hl 3 rfl) ?_
    refine lv_bipush (v := 32) hx hb dX4_begin_24 (by decide) ?_
    refine lv_icmp_ge (tgt := 42) hx hb dX4_begin_26 (by decide) (fun c_26 => ?_) (fun c_26 => ?_)
    · have c_26 : 32 ≤ i := (nI_leI (a := 32) (b := i) (by omega) (by omega)).mp c_26
      refine lv_iconst (v := 0) hx hb dX4_begin_42 (by decide) ?_
      refine lv_istore_n (lv' := [(3, .int 0), (0, .ref (ad 0)), (1, .ref (ad 5)), (2, .int (nI (4 * t)))]) hx hb dX4_begin_43 rfl hl (by decide) rfl (fun ls hl => ?_)
      refine loopW (σ := Nat × St) (fun zz9 H locs ls => match zz9 with | (i, U3) => Hd D A (wQ k ad U3) s.heap H locs ∧ lv_has ls 6 [(0, .ref (ad 0)), (1, .ref (ad 5)), (2, .int (nI (4 * t))), (3, .int (nI i))] ∧ (i ≤ 4) ∧ (Fr [17, 18, 19, 20] V U3) ∧ (∀ j, j < 8 → U3 17 j = 0) ∧ (∀ j, j < 32 → U3 18 j = 0) ∧ (∀ j, j < i → U3 19 j = V 6 j) ∧ (∀ j, j < i → U3 20 j = nI (chR (V 8 j) (V 5 (4 * t + 3))))) (fun zz9 => match zz9 with | (i, U3) => 4 - i) ?_ (0, U2) ⟨hh, (lv_sub hl [1, 2, 3, 0] rfl), (by omega), hf, z17, (fun j hj => zz_ j (by omega)), (fun j hj => absurd hj (Nat.not_lt_zero _)), (fun j hj => absurd hj (Nat.not_lt_zero _))⟩
      intro zz9 H locs ls hI ih
      obtain ⟨i, U3⟩ := zz9
      obtain ⟨hh, hl, hi, hf, z17, z18, z19, z20⟩ := hI
      have iho := ih; clear ih
      refine lv_iload_n hx hb dX4_begin_44 rfl (lv_at hl 3 rfl) ?_
      refine lv_iconst (v := 4) hx hb dX4_begin_45 (by decide) ?_
      refine lv_icmp_ge (tgt := 139) hx hb dX4_begin_46 (by decide) (fun c_46 => ?_) (fun c_46 => ?_)
      · have c_46 : 4 ≤ i := (nI_leI (a := 4) (b := i) (by omega) (by omega)).mp c_46
        refine lv_aload_n hx hb dX4_begin_139 rfl (lv_at hl 0 rfl) ?_
        refine lv_iconst (v := 0) hx hb dX4_begin_140 (by decide) ?_
        refine pfl hx hb hg inX4 tyX4 tyX4_ok nmX4 hown hK hh 0 (ci := 4) rfl rfl 28 (by decide) wd_579 rfl rfl rfl (Nat.le_of_ble_eq_true rfl) dX4_begin_141 (wQ k ad (va_up U3 0 (upd (U3 0) 28 0))) rfl (fun H locs hh => ?_)
        refine lv_aload_n hx hb dX4_begin_144 rfl (lv_at hl 0 rfl) ?_
        refine lv_bipush (v := (-4)) hx hb dX4_begin_145 (by decide) ?_
        refine pfl hx hb hg inX4 tyX4 tyX4_ok nmX4 hown hK hh 0 (ci := 4) rfl rfl 29 (by decide) wd_580 rfl rfl rfl (Nat.le_of_ble_eq_true rfl) dX4_begin_147 (wQ k ad (va_up (va_up U3 0 (upd (U3 0) 28 0)) 0 (upd ((va_up U3 0 (upd (U3 0) 28 0)) 0) 29 (-4)))) rfl (fun H locs hh => ?_)
        refine lv_aload_n hx hb dX4_begin_150 rfl (lv_at hl 0 rfl) ?_
        refine lv_iconst (v := 0) hx hb dX4_begin_151 (by decide) ?_
        refine pfl hx hb hg inX4 tyX4 tyX4_ok nmX4 hown hK hh 0 (ci := 4) rfl rfl 30 (by decide) wd_581 rfl rfl rfl (Nat.le_of_ble_eq_true rfl) dX4_begin_152 (wQ k ad (va_up (va_up (va_up U3 0 (upd (U3 0) 28 0)) 0 (upd ((va_up U3 0 (upd (U3 0) 28 0)) 0) 29 (-4))) 0 (upd ((va_up (va_up U3 0 (upd (U3 0) 28 0)) 0 (upd ((va_up U3 0 (upd (U3 0) 28 0)) 0) 29 (-4))) 0) 30 0))) rfl (fun H locs hh => ?_)
        exact retV (Wd := wQ k ad) (va_up (va_up (va_up U3 0 (upd (U3 0) 28 0)) 0 (upd ((va_up U3 0 (upd (U3 0) 28 0)) 0) 29 (-4))) 0 (upd ((va_up (va_up U3 0 (upd (U3 0) 28 0)) 0 (upd ((va_up U3 0 (upd (U3 0) 28 0)) 0) 29 (-4))) 0) 30 0)) hx hb hr hlocks dX4_begin_155 hh (⟨⟨z17, z18, fun j hj => z19 j (by omega), fun j hj => z20 j (by omega)⟩, rfl, rfl, rfl, hf 21 (by decide), ((((hf.mono (ds := [0, 17, 18, 19, 20, 21]) (by intro c hc; simp at hc ⊢; omega)).up (by decide)).up (by decide)).up (by decide)), fun j a b => by rw [up_s, upd_n (by omega)]; show upd (upd (U3 0) 28 0) 29 (-4) j = _; rw [upd_n (by omega), upd_n (by omega), hf 0 (by decide)]⟩)
      · have c_46 : ¬ 4 ≤ i := fun z => c_46 ((nI_leI (a := 4) (b := i) (by omega) (by omega)).mpr z)
        obtain ⟨x7, h71, h715, e7v⟩ := hv.2.2.2.2 i (by omega)
        have e7v : V 8 i = nI x7 := e7v
        have e7 : U3 8 i = nI x7 := by rw [hf 8 (by decide)]; exact e7v
        have hc1 := cntN_15 x7 h71 (by omega)
        have hc4 := cntN_le 4 (nI x7)
        obtain ⟨R0, hR0⟩ := kth_some x7 (by omega) (a3 % cntN 4 (nI x7)) (Nat.mod_lt _ (by omega))
        have hchR : chR (V 8 i) (V 5 (4 * t + 3)) = R0 := by unfold chR; rw [e7v, ea3, ix_nI ha3, hR0]; rfl
        refine lv_aload_n hx hb dX4_begin_49 rfl (lv_at hl 0 rfl) ?_
        refine gfl hx hb hg inX4 hown hK hh.1 0 (ci := 4) rfl rfl 26 (by decide) wd_577 rfl dX4_begin_50 ?_
        refine lv_iload_n hx hb dX4_begin_53 rfl (lv_at hl 3 rfl) ?_
        refine lv_aload_n hx hb dX4_begin_54 rfl (lv_at hl 0 rfl) ?_
        refine gfl hx hb hg inX4 hown hK hh.1 0 (ci := 4) rfl rfl 6 (by decide) wd_557 rfl dX4_begin_55 ?_
        refine lv_iload_n hx hb dX4_begin_58 rfl (lv_at hl 3 rfl) ?_
        refine ldn hx hb hK hh.1 6 0 rfl rfl (by omega) (by decide) dX4_begin_59 ?_
        refine stn (j := i) hx hb hK hh 19 0 rfl rfl (by omega) (by decide) dX4_begin_60 (wQ k ad (va_up U3 19 (upd (U3 19) i ((U3 6) i)))) rfl (fun H locs hh => ?_)
        refine lv_aload_n hx hb dX4_begin_61 rfl (lv_at hl 1 rfl) ?_
        refine lv_iload_n hx hb dX4_begin_62 rfl (lv_at hl 2 rfl) ?_
        refine lv_iconst (v := 3) hx hb dX4_begin_63 (by decide) ?_
        refine lv_iadd hx hb dX4_begin_64 ?_
        refine topv (nI (4 * t + 3)) (nI_add (4 * t) 3) ?_
        refine ldn hx hb hK hh.1 5 0 rfl rfl (by omega) (by decide) dX4_begin_65 ?_
        refine lv_ldc (v := 2147483647) hx hb hown (hg _ wd_809) dX4_begin_66 ?_
        refine lv_iand hx hb dX4_begin_68 ?_
        refine topv (nI a3) (by have h9 := hf 5 (by decide); show U3 5 (4 * t + 3) &&& 2147483647 = nI a3; rw [h9]; exact ea3) ?_
        refine lv_aload_n hx hb dX4_begin_69 rfl (lv_at hl 0 rfl) ?_
        refine gfl hx hb hg inX4 hown hK hh.1 0 (ci := 4) rfl rfl 8 (by decide) wd_559 rfl dX4_begin_70 ?_
        refine lv_iload_n hx hb dX4_begin_73 rfl (lv_at hl 3 rfl) ?_
        refine ldn hx hb hK hh.1 8 0 rfl rfl (by omega) (by decide) dX4_begin_74 ?_
        refine topv (nI x7) e7 ?_
        refine callR (runS hx hb hg hown hml hl.1 (c_X4_many l D k (nI x7)) [.int (nI x7)] [.int (nI a3)] (preR (mapSome_sub hh.1 [] rfl) hK hN xb0 x0) wd_810 wd_811 wd_53 wd_812 lk_X4_many ⟨rfl, rfl⟩ ⟨by decide, by decide⟩ ⟨Nat.zero_le _, Nat.zero_le _⟩ rfl (Nat.le_of_ble_eq_true rfl) dX4_begin_75) (fun r_75 q_75 => ?_)
        obtain rfl := q_75
        refine lv_irem hx hb dX4_begin_78 (fun z => absurd ((nI_eq (a := cntN 4 (nI x7)) (b := 0) (by omega) (by omega)).mp z) (by omega)) ?_
        refine topv (nI (a3 % cntN 4 (nI x7))) (pk_rem ha3 (by omega) (by omega)) ?_
        refine lv_istore (lv' := [(4, .int (nI (a3 % cntN 4 (nI x7)))), (0, .ref (ad 0)), (1, .ref (ad 5)), (2, .int (nI (4 * t))), (3, .int (nI i))]) hx hb dX4_begin_79 hl (by decide) rfl (fun ls hl => ?_)
        refine lv_iconst (v := 0) hx hb dX4_begin_81 (by decide) ?_
        refine lv_istore (lv' := [(5, .int 0), (4, .int (nI (a3 % cntN 4 (nI x7)))), (0, .ref (ad 0)), (1, .ref (ad 5)), (2, .int (nI (4 * t))), (3, .int (nI i))]) hx hb dX4_begin_82 hl (by decide) rfl (fun ls hl => ?_)
        refine loopW (σ := Nat × Nat) (fun zz9 H locs ls => match zz9 with | (row, c1) => Hd D A (wQ k ad (va_up U3 19 (upd (U3 19) i ((U3 6) i)))) s.heap H locs ∧ lv_has ls 6 [(0, .ref (ad 0)), (1, .ref (ad 5)), (2, .int (nI (4 * t))), (3, .int (nI i)), (4, .int (nI c1)), (5, .int (nI row))] ∧ (row ≤ 4) ∧ (c1 < 2 ^ 31) ∧ (kthS (bt (nI x7)) (4 - row) row c1 = some R0)) (fun zz9 => match zz9 with | (row, c1) => 4 - row) ?_ (0, a3 % cntN 4 (nI x7)) ⟨hh, (lv_sub hl [2, 3, 4, 5, 1, 0] rfl), (by omega), (by have := Nat.mod_lt a3 (show 0 < cntN 4 (nI x7) by omega); omega), hR0⟩
        intro zz9 H locs ls hI ih
        obtain ⟨row, c1⟩ := zz9
        obtain ⟨hh, hl, hrw, hc9, he⟩ := hI
        refine lv_iload hx hb dX4_begin_84 (lv_at hl 4 rfl) ?_
        refine lv_if_gt (tgt := 103) hx hb dX4_begin_86 (by decide) (fun c_86 => ?_) (fun c_86 => ?_)
        · have c_86 : 0 < c1 := (nI_ltI (a := 0) (b := c1) (by omega) (by omega)).mp c_86
          refine lv_iload hx hb dX4_begin_103 (lv_at hl 4 rfl) ?_
          refine lv_aload_n hx hb dX4_begin_105 rfl (lv_at hl 0 rfl) ?_
          refine gfl hx hb hg inX4 hown hK hh.1 0 (ci := 4) rfl rfl 8 (by decide) wd_559 rfl dX4_begin_106 ?_
          refine lv_iload_n hx hb dX4_begin_109 rfl (lv_at hl 3 rfl) ?_
          refine ldn hx hb hK hh.1 8 0 rfl rfl (by omega) (by decide) dX4_begin_110 ?_
          refine topv (nI x7) e7 ?_
          refine lv_iload hx hb dX4_begin_111 (lv_at hl 5 rfl) ?_
          refine lv_ishr hx hb dX4_begin_113 ?_
          refine lv_iconst (v := 1) hx hb dX4_begin_114 (by decide) ?_
          refine lv_iand hx hb dX4_begin_115 ?_
          refine lv_isub hx hb dX4_begin_116 ?_
          obtain ⟨hr4, hk9⟩ := lftk he (Or.inl c_86)
          refine topv (nI (c1 - if bt (nI x7) row = true then 1 else 0)) (lft (by omega) (Or.inl c_86)) ?_
          refine lv_istore (lv' := [(4, .int (nI (c1 - if bt (nI x7) row = true then 1 else 0))), (0, .ref (ad 0)), (1, .ref (ad 5)), (2, .int (nI (4 * t))), (3, .int (nI i)), (5, .int (nI row))]) hx hb dX4_begin_117 hl (by decide) rfl (fun ls hl => ?_)
          refine lv_iinc (v := nI (row + 1)) (lv' := [(5, .int (nI (row + 1))), (4, .int (nI (c1 - if bt (nI x7) row = true then 1 else 0))), (0, .ref (ad 0)), (1, .ref (ad 5)), (2, .int (nI (4 * t))), (3, .int (nI i))]) hx hb dX4_begin_119 hl (k := 5) rfl (nI_succ row).symm (by decide) rfl (fun ls hl => ?_)
          refine lv_goto (tgt := 84) hx hb dX4_begin_122 (by decide) ?_
          exact ih (row + 1, c1 - if bt (nI x7) row = true then 1 else 0) _ _ _ ⟨hh, (lv_sub hl [2, 3, 4, 5, 1, 0] rfl), (by omega), (by omega), hk9⟩ (by dsimp only; omega)
        · have c_86 : ¬ 0 < c1 := fun z => c_86 ((nI_ltI (a := 0) (b := c1) (by omega) (by omega)).mpr z)
          refine lv_aload_n hx hb dX4_begin_89 rfl (lv_at hl 0 rfl) ?_
          refine gfl hx hb hg inX4 hown hK hh.1 0 (ci := 4) rfl rfl 8 (by decide) wd_559 rfl dX4_begin_90 ?_
          refine lv_iload_n hx hb dX4_begin_93 rfl (lv_at hl 3 rfl) ?_
          refine ldn hx hb hK hh.1 8 0 rfl rfl (by omega) (by decide) dX4_begin_94 ?_
          refine topv (nI x7) e7 ?_
          refine lv_iload hx hb dX4_begin_95 (lv_at hl 5 rfl) ?_
          refine lv_ishr hx hb dX4_begin_97 ?_
          refine lv_iconst (v := 1) hx hb dX4_begin_98 (by decide) ?_
          refine lv_iand hx hb dX4_begin_99 ?_
          refine lv_if_ne (tgt := 125) hx hb dX4_begin_100 (by decide) (fun c_100 => ?_) (fun c_100 => ?_)
          · have c_100 : bt (nI x7) row = true := by cases hb9 : bt (nI x7) row with | true => rfl | false => exact absurd ((tS0 (nI x7) (p := row) (by omega)).mpr hb9) c_100
            have c_86 : c1 = 0 := by omega
            rw [c_86] at he
            obtain ⟨hr4, hRe⟩ := lfte he c_100
            have hchr : chR (V 8 i) (V 5 (4 * t + 3)) = row := hchR.trans hRe
            refine lv_aload_n hx hb dX4_begin_125 rfl (lv_at hl 0 rfl) ?_
            refine gfl hx hb hg inX4 hown hK hh.1 0 (ci := 4) rfl rfl 27 (by decide) wd_578 rfl dX4_begin_126 ?_
            refine lv_iload_n hx hb dX4_begin_129 rfl (lv_at hl 3 rfl) ?_
            refine lv_iload hx hb dX4_begin_130 (lv_at hl 5 rfl) ?_
            refine stn (j := i) hx hb hK hh 20 0 rfl rfl (by omega) (by decide) dX4_begin_132 (wQ k ad (va_up (va_up U3 19 (upd (U3 19) i ((U3 6) i))) 20 (upd (U3 20) i (nI row)))) rfl (fun H locs hh => ?_)
            refine lv_iinc (v := nI (i + 1)) (lv' := [(3, .int (nI (i + 1))), (0, .ref (ad 0)), (1, .ref (ad 5)), (2, .int (nI (4 * t))), (4, .int (nI c1)), (5, .int (nI row))]) hx hb dX4_begin_133 hl (k := 3) rfl (nI_succ i).symm (by decide) rfl (fun ls hl => ?_)
            refine lv_goto (tgt := 44) hx hb dX4_begin_136 (by decide) ?_
            exact iho (i + 1, va_up (va_up U3 19 (upd (U3 19) i ((U3 6) i))) 20 (upd (U3 20) i (nI row))) _ _ _ ⟨hh, (lv_sub hl [1, 2, 3, 0] rfl), (by omega), ((hf.up (by decide)).up (by decide)), (fun j hj => by rw [up_n (by decide), up_n (by decide)]; exact z17 j hj), (fun j hj => by rw [up_n (by decide), up_n (by decide)]; exact z18 j hj), (fun j hj => by rw [up_n (by decide), up_s]; rcases Classical.em (j = i) with e | e; (subst e; rw [upd_s, hf 6 (by decide)]); (rw [upd_n e]; exact z19 j (by omega))), (fun j hj => by rw [up_s]; rcases Classical.em (j = i) with e | e; (subst e; rw [upd_s, hchr]); (rw [upd_n e]; exact z20 j (by omega)))⟩ (by dsimp only; omega)
          · have c_100 := (tS0 (nI x7) (p := row) (by omega)).mp c_100
            refine lv_iload hx hb dX4_begin_103 (lv_at hl 4 rfl) ?_
            refine lv_aload_n hx hb dX4_begin_105 rfl (lv_at hl 0 rfl) ?_
            refine gfl hx hb hg inX4 hown hK hh.1 0 (ci := 4) rfl rfl 8 (by decide) wd_559 rfl dX4_begin_106 ?_
            refine lv_iload_n hx hb dX4_begin_109 rfl (lv_at hl 3 rfl) ?_
            refine ldn hx hb hK hh.1 8 0 rfl rfl (by omega) (by decide) dX4_begin_110 ?_
            refine topv (nI x7) e7 ?_
            refine lv_iload hx hb dX4_begin_111 (lv_at hl 5 rfl) ?_
            refine lv_ishr hx hb dX4_begin_113 ?_
            refine lv_iconst (v := 1) hx hb dX4_begin_114 (by decide) ?_
            refine lv_iand hx hb dX4_begin_115 ?_
            refine lv_isub hx hb dX4_begin_116 ?_
            obtain ⟨hr4, hk9⟩ := lftk he (Or.inr c_100)
            refine topv (nI (c1 - if bt (nI x7) row = true then 1 else 0)) (lft (by omega) (Or.inr c_100)) ?_
            refine lv_istore (lv' := [(4, .int (nI (c1 - if bt (nI x7) row = true then 1 else 0))), (0, .ref (ad 0)), (1, .ref (ad 5)), (2, .int (nI (4 * t))), (3, .int (nI i)), (5, .int (nI row))]) hx hb dX4_begin_117 hl (by decide) rfl (fun ls hl => ?_)
            refine lv_iinc (v := nI (row + 1)) (lv' := [(5, .int (nI (row + 1))), (4, .int (nI (c1 - if bt (nI x7) row = true then 1 else 0))), (0, .ref (ad 0)), (1, .ref (ad 5)), (2, .int (nI (4 * t))), (3, .int (nI i))]) hx hb dX4_begin_119 hl (k := 5) rfl (nI_succ row).symm (by decide) rfl (fun ls hl => ?_)
            refine lv_goto (tgt := 84) hx hb dX4_begin_122 (by decide) ?_
            exact ih (row + 1, c1 - if bt (nI x7) row = true then 1 else 0) _ _ _ ⟨hh, (lv_sub hl [2, 3, 4, 5, 1, 0] rfl), (by omega), (by omega), hk9⟩ (by dsimp only; omega)
    · have c_26 : ¬ 32 ≤ i := fun z => c_26 ((nI_leI (a := 32) (b := i) (by omega) (by omega)).mpr z)
      refine lv_aload_n hx hb dX4_begin_29 rfl (lv_at hl 0 rfl) ?_
      refine gfl hx hb hg inX4 hown hK hh.1 0 (ci := 4) rfl rfl 25 (by decide) wd_576 rfl dX4_begin_30 ?_
      refine lv_iload_n hx hb dX4_begin_33 rfl (lv_at hl 3 rfl) ?_
      refine lv_iconst (v := 0) hx hb dX4_begin_34 (by decide) ?_
      refine stn (j := i) hx hb hK hh 18 0 rfl rfl (by omega) (by decide) dX4_begin_35 (wQ k ad (va_up U2 18 (upd (U2 18) i 0))) rfl (fun H locs hh => ?_)
      refine lv_iinc (v := nI (i + 1)) (lv' := [(3, .int (nI (i + 1))), (0, .ref (ad 0)), (1, .ref (ad 5)), (2, .int (nI (4 * t)))]) hx hb dX4_begin_36 hl (k := 3) rfl (nI_succ i).symm (by decide) rfl (fun ls hl => ?_)
      refine lv_goto (tgt := 23) hx hb dX4_begin_39 (by decide) ?_
      exact ih (i + 1, va_up U2 18 (upd (U2 18) i 0)) _ _ _ ⟨hh, (lv_sub hl [1, 2, 3, 0] rfl), (by omega), (hf.up (by decide)), (fun j hj => by rw [up_n (by decide)]; exact z17 j hj), (fun j hj => by rcases Classical.em (j = i) with e | e; (subst e; rw [up_s, upd_s]); (rw [up_s, upd_n e]; exact zz_ j (by omega)))⟩ (by dsimp only; omega)
  · have c_5 : ¬ 8 ≤ i := fun z => c_5 ((nI_leI (a := 8) (b := i) (by omega) (by omega)).mpr z)
    refine lv_aload_n hx hb dX4_begin_8 rfl (lv_at hl 0 rfl) ?_
    refine gfl hx hb hg inX4 hown hK hh.1 0 (ci := 4) rfl rfl 24 (by decide) wd_575 rfl dX4_begin_9 ?_
    refine lv_iload_n hx hb dX4_begin_12 rfl (lv_at hl 3 rfl) ?_
    refine lv_iconst (v := 0) hx hb dX4_begin_13 (by decide) ?_
    refine stn (j := i) hx hb hK hh 17 0 rfl rfl (by omega) (by decide) dX4_begin_14 (wQ k ad (va_up U1 17 (upd (U1 17) i 0))) rfl (fun H locs hh => ?_)
    refine lv_iinc (v := nI (i + 1)) (lv' := [(3, .int (nI (i + 1))), (0, .ref (ad 0)), (1, .ref (ad 5)), (2, .int (nI (4 * t)))]) hx hb dX4_begin_15 hl (k := 3) rfl (nI_succ i).symm (by decide) rfl (fun ls hl => ?_)
    refine lv_goto (tgt := 2) hx hb dX4_begin_18 (by decide) ?_
    exact ih (i + 1, va_up U1 17 (upd (U1 17) i 0)) _ _ _ ⟨hh, (lv_sub hl [1, 2, 3, 0] rfl), (by omega), (hf.up (by decide)), (fun j hj => by rcases Classical.em (j = i) with e | e; (subst e; rw [up_s, upd_s]); (rw [up_s, upd_n e]; exact zz_ j (by omega)))⟩ (by dsimp only; omega)
abbrev rmX4_does : Room := { frames := 2, cells := 0, slots := 0, locals := 47 }
theorem lk_X4_does : Lk yX4_does 3 := by decide +kernel
set_option maxHeartbeats 4000000 in
set_option maxRecDepth 100000 in
/-- does(p, from, at) -/
theorem c_X4_does (l : Launch) (D : va_G) (k : Nat → ClassId) (ad : Nat → Nat) (V : St) {n : Nat} (hv : okV n (pq V)) {q : Nat} (hq : q < 24) {t : Nat} (ht : t < 1) (hrow : ∀ d, d < 4 → ∃ i, i < 4 ∧ V 20 d = nI i) : CtX noX l yX4_does cX4_does 8 (some .boolean) rmX4_does D (tyL k) (wQ k ad V) [.ref (ad 0), .int (nI q), .ref (ad 5), .int (nI (4 * t))] (qI D (wQ k ad) (fun r U => r = zI (!stF (pq V) (V 17) q) ∧ U 17 = reS (pq V) (fun j => V 5 (4 * t + j)) (V 17) (V 18) (V 19) (V 20) q ∧ U 18 = tiS (pq V) (fun j => V 5 (4 * t + j)) (V 17) (V 18) (V 19) (V 20) q ∧ U 19 = glS (pq V) (fun j => V 5 (4 * t + j)) (V 17) (V 18) (V 19) (V 20) q ∧ U 0 32 = tlS (pq V) (fun j => V 5 (4 * t + j)) (V 17) (V 18) (V 19) (V 20) q ∧ Fr [0, 17, 18, 19] V U ∧ ∀ j, ¬ j = 32 → U 0 j = V 0 j)) := by
  refine CtX.mk (by decide) (Nat.le_of_ble_eq_true rfl) ?_
  intro p e s m below meth c hx hb hml hown hg hr hlocks hK hN A hA hX hh ls hl
  have hh : Hd D A (wQ k ad V) s.heap s.heap [] := hh
  have hl : lv_has ls 8 [(0, .ref (ad 0)), (1, .int (nI q)), (2, .ref (ad 5)), (3, .int (nI (4 * t)))] := hl
  obtain ⟨j, hk, hj, hlA, hlB, hlC⟩ := hv.2.2.1 q hq
  have hk : V 1 q = nI j := hk
  have hlA : lim (LA.getD j 0) (V 2 q) := hlA
  have hlB : lim (LB.getD j 0) (V 3 q) := hlB
  have hlC : lim (LC.getD j 0) (V 4 q) := hlC
  have hkd : kd (pq V) q = j := kd_of hk hj
  refine lv_aload_n hx hb dX4_does_0 rfl (lv_at hl 0 rfl) ?_
  refine gfl hx hb hg inX4 hown hK hh.1 0 (ci := 4) rfl rfl 2 (by decide) wd_553 rfl dX4_does_1 ?_
  refine lv_iload_n hx hb dX4_does_4 rfl (lv_at hl 1 rfl) ?_
  refine ldn hx hb hK hh.1 2 0 rfl rfl (by omega) (by decide) dX4_does_5 ?_
  refine lv_istore (lv' := [(4, .int ((V 2) q)), (0, .ref (ad 0)), (1, .int (nI q)), (2, .ref (ad 5)), (3, .int (nI (4 * t)))]) hx hb dX4_does_6 hl (by decide) rfl (fun ls hl => ?_)
  refine lv_aload_n hx hb dX4_does_8 rfl (lv_at hl 1 rfl) ?_
  refine gfl hx hb hg inX4 hown hK hh.1 0 (ci := 4) rfl rfl 3 (by decide) wd_554 rfl dX4_does_9 ?_
  refine lv_iload_n hx hb dX4_does_12 rfl (lv_at hl 2 rfl) ?_
  refine ldn hx hb hK hh.1 3 0 rfl rfl (by omega) (by decide) dX4_does_13 ?_
  refine lv_istore (lv' := [(5, .int ((V 3) q)), (4, .int ((V 2) q)), (0, .ref (ad 0)), (1, .int (nI q)), (2, .ref (ad 5)), (3, .int (nI (4 * t)))]) hx hb dX4_does_14 hl (by decide) rfl (fun ls hl => ?_)
  refine lv_aload_n hx hb dX4_does_16 rfl (lv_at hl 2 rfl) ?_
  refine gfl hx hb hg inX4 hown hK hh.1 0 (ci := 4) rfl rfl 4 (by decide) wd_555 rfl dX4_does_17 ?_
  refine lv_iload_n hx hb dX4_does_20 rfl (lv_at hl 3 rfl) ?_
  refine ldn hx hb hK hh.1 4 0 rfl rfl (by omega) (by decide) dX4_does_21 ?_
  refine lv_istore (lv' := [(6, .int ((V 4) q)), (5, .int ((V 3) q)), (4, .int ((V 2) q)), (0, .ref (ad 0)), (1, .int (nI q)), (2, .ref (ad 5)), (3, .int (nI (4 * t)))]) hx hb dX4_does_22 hl (by decide) rfl (fun ls hl => ?_)
  refine lv_iconst (v := 0) hx hb dX4_does_24 (by decide) ?_
  refine lv_istore (lv' := [(7, .int 0), (6, .int ((V 4) q)), (5, .int ((V 3) q)), (4, .int ((V 2) q)), (0, .ref (ad 0)), (1, .int (nI q)), (2, .ref (ad 5)), (3, .int (nI (4 * t)))]) hx hb dX4_does_25 hl (by decide) rfl (fun ls hl => ?_)
  rcases (show j = 0 ∨ j = 1 ∨ j = 2 ∨ j = 3 ∨ j = 4 ∨ j = 5 ∨ j = 6 ∨ j = 7 ∨ j = 8 ∨ j = 9 ∨ j = 10 ∨ j = 11 ∨ j = 12 ∨ j = 13 by omega) with rfl | rfl | rfl | rfl | rfl | rfl | rfl | rfl | rfl | rfl | rfl | rfl | rfl | rfl
  · have hkd : kd (pq V) q = 0 := hkd
    refine lv_aload_n hx hb dX4_does_27 rfl (lv_at hl 4 rfl) ?_
    refine gfl hx hb hg inX4 hown hK hh.1 0 (ci := 4) rfl rfl 1 (by decide) wd_552 rfl dX4_does_28 ?_
    refine lv_iload_n hx hb dX4_does_31 rfl (lv_at hl 5 rfl) ?_
    refine ldn hx hb hK hh.1 1 0 rfl rfl (by omega) (by decide) dX4_does_32 ?_
    refine topv (0) hk ?_
    refine lv_bipush (v := 6) hx hb dX4_does_33 (by decide) ?_
    refine lv_icmp_ne (tgt := 48) hx hb dX4_does_35 (by decide) (fun c_35 => ?_) (fun c_35 => ?_)
    · refine lv_aload_n hx hb dX4_does_48 rfl (lv_at hl 4 rfl) ?_
      refine gfl hx hb hg inX4 hown hK hh.1 0 (ci := 4) rfl rfl 1 (by decide) wd_552 rfl dX4_does_49 ?_
      refine lv_iload_n hx hb dX4_does_52 rfl (lv_at hl 5 rfl) ?_
      refine ldn hx hb hK hh.1 1 0 rfl rfl (by omega) (by decide) dX4_does_53 ?_
      refine topv (0) hk ?_
      refine lv_bipush (v := 9) hx hb dX4_does_54 (by decide) ?_
      refine lv_icmp_eq (tgt := 70) hx hb dX4_does_56 (by decide) (fun c_56 => ?_) (fun c_56 => ?_)
      · exact absurd (show (0 : Int32) = (9 : Int32) from c_56) (by decide)
      · refine lv_aload_n hx hb dX4_does_59 rfl (lv_at hl 4 rfl) ?_
        refine gfl hx hb hg inX4 hown hK hh.1 0 (ci := 4) rfl rfl 1 (by decide) wd_552 rfl dX4_does_60 ?_
        refine lv_iload_n hx hb dX4_does_63 rfl (lv_at hl 5 rfl) ?_
        refine ldn hx hb hK hh.1 1 0 rfl rfl (by omega) (by decide) dX4_does_64 ?_
        refine topv (0) hk ?_
        refine lv_bipush (v := 10) hx hb dX4_does_65 (by decide) ?_
        refine lv_icmp_ne (tgt := 88) hx hb dX4_does_67 (by decide) (fun c_67 => ?_) (fun c_67 => ?_)
        · have hF : stF (pq V) (V 17) q = false := by unfold stF fgB; rw [hkd]; simp
          refine lv_aload_n hx hb dX4_does_88 rfl (lv_at hl 4 rfl) ?_
          refine gfl hx hb hg inX4 hown hK hh.1 0 (ci := 4) rfl rfl 1 (by decide) wd_552 rfl dX4_does_89 ?_
          refine lv_iload_n hx hb dX4_does_92 rfl (lv_at hl 5 rfl) ?_
          refine ldn hx hb hK hh.1 1 0 rfl rfl (by omega) (by decide) dX4_does_93 ?_
          refine topv (0) hk ?_
          refine lv_tableOut (tgt := 384) hx hb dX4_does_94 (by decide) (by decide) ?_
          refine lv_aload_n hx hb dX4_does_384 rfl (lv_at hl 4 rfl) ?_
          refine lv_iload_n hx hb dX4_does_385 rfl (lv_at hl 5 rfl) ?_
          refine callR (runV hx hb hg hown hml hl.1 (c_X4_sets l D k ad (V) hv hq) [.int (nI q)] [] (preR (mapSome_sub hh.1 [0, 1, 2, 3, 4, 5, 6, 7, 8, 9, 10, 11, 12, 13, 14, 15, 16, 17, 18, 19, 20, 21, 22] rfl) hK hN xb0 x0) (va_recv hK hh.1 (ci := 4) (q0 := 0) rfl rfl) wd_755 wd_757 wd_37 wd_53 wd_758 lk_X4_sets ⟨rfl, rfl⟩ ⟨by decide, by decide⟩ ⟨Nat.zero_le _, Nat.zero_le _⟩ rfl (Nat.le_of_ble_eq_true rfl) dX4_does_386) (fun r_386 q_386 => ?_)
          obtain rfl := q_386
          rw [show stI (pq (V)) q = -4 by show stI (pq V) q = -4; unfold stI; rw [hkd]; rfl]
          refine lv_if_lt (tgt := 401) hx hb dX4_does_389 (by decide) (fun c_389 => ?_) (fun c_389 => ?_)
          · refine lv_aload_n hx hb dX4_does_401 rfl (lv_at hl 4 rfl) ?_
            refine lv_iload hx hb dX4_does_402 (lv_at hl 0 rfl) ?_
            refine pfl hx hb hg inX4 tyX4 tyX4_ok nmX4 hown hK hh 0 (ci := 4) rfl rfl 32 (by decide) wd_583 rfl rfl rfl (Nat.le_of_ble_eq_true rfl) dX4_does_404 (wQ k ad (va_up V 0 (upd (V 0) 32 0))) rfl (fun H locs hh => ?_)
            refine lv_iconst (v := 1) hx hb dX4_does_407 (by decide) ?_
            have eT : tlS (pq V) (fun j => V 5 (4 * t + j)) (V 17) (V 18) (V 19) (V 20) q = 0 := tl_0 hF hkd (by decide)
            exact retZ (Wd := wQ k ad) (v := 1) (va_up V 0 (upd (V 0) 32 0)) hx hb hr hlocks rfl dX4_does_408 hh (⟨by rw [hF]; rfl, by rw [re_n hF hkd (by decide), up_n (by decide)], by rw [ti_n hF hkd (by decide), up_n (by decide)], by rw [gl_n hF hkd (by decide), up_n (by decide)], by rw [up_s, upd_s, eT], (Fr.rf.up (by decide)), fun j hj => by rw [up_s, upd_n hj]⟩)
          · exact absurd (show ¬ ((-4 : Int32) < (0 : Int32)) from c_389) (by decide)
        · exact absurd (show (0 : Int32) = (10 : Int32) from c_67) (by decide)
    · exact absurd (show (0 : Int32) = (6 : Int32) from c_35) (by decide)
  · have hkd : kd (pq V) q = 1 := hkd
    have hlA : lim 8 (V 2 q) := hlA
    obtain ⟨a1, ha1, hae⟩ := lim_nI hlA (by decide)
    refine lv_aload_n hx hb dX4_does_27 rfl (lv_at hl 4 rfl) ?_
    refine gfl hx hb hg inX4 hown hK hh.1 0 (ci := 4) rfl rfl 1 (by decide) wd_552 rfl dX4_does_28 ?_
    refine lv_iload_n hx hb dX4_does_31 rfl (lv_at hl 5 rfl) ?_
    refine ldn hx hb hK hh.1 1 0 rfl rfl (by omega) (by decide) dX4_does_32 ?_
    refine topv (1) hk ?_
    refine lv_bipush (v := 6) hx hb dX4_does_33 (by decide) ?_
    refine lv_icmp_ne (tgt := 48) hx hb dX4_does_35 (by decide) (fun c_35 => ?_) (fun c_35 => ?_)
    · refine lv_aload_n hx hb dX4_does_48 rfl (lv_at hl 4 rfl) ?_
      refine gfl hx hb hg inX4 hown hK hh.1 0 (ci := 4) rfl rfl 1 (by decide) wd_552 rfl dX4_does_49 ?_
      refine lv_iload_n hx hb dX4_does_52 rfl (lv_at hl 5 rfl) ?_
      refine ldn hx hb hK hh.1 1 0 rfl rfl (by omega) (by decide) dX4_does_53 ?_
      refine topv (1) hk ?_
      refine lv_bipush (v := 9) hx hb dX4_does_54 (by decide) ?_
      refine lv_icmp_eq (tgt := 70) hx hb dX4_does_56 (by decide) (fun c_56 => ?_) (fun c_56 => ?_)
      · exact absurd (show (1 : Int32) = (9 : Int32) from c_56) (by decide)
      · refine lv_aload_n hx hb dX4_does_59 rfl (lv_at hl 4 rfl) ?_
        refine gfl hx hb hg inX4 hown hK hh.1 0 (ci := 4) rfl rfl 1 (by decide) wd_552 rfl dX4_does_60 ?_
        refine lv_iload_n hx hb dX4_does_63 rfl (lv_at hl 5 rfl) ?_
        refine ldn hx hb hK hh.1 1 0 rfl rfl (by omega) (by decide) dX4_does_64 ?_
        refine topv (1) hk ?_
        refine lv_bipush (v := 10) hx hb dX4_does_65 (by decide) ?_
        refine lv_icmp_ne (tgt := 88) hx hb dX4_does_67 (by decide) (fun c_67 => ?_) (fun c_67 => ?_)
        · have hF : stF (pq V) (V 17) q = false := by unfold stF fgB; rw [hkd]; simp
          refine lv_aload_n hx hb dX4_does_88 rfl (lv_at hl 4 rfl) ?_
          refine gfl hx hb hg inX4 hown hK hh.1 0 (ci := 4) rfl rfl 1 (by decide) wd_552 rfl dX4_does_89 ?_
          refine lv_iload_n hx hb dX4_does_92 rfl (lv_at hl 5 rfl) ?_
          refine ldn hx hb hK hh.1 1 0 rfl rfl (by omega) (by decide) dX4_does_93 ?_
          refine topv (1) hk ?_
          refine lv_tableIn (off := 58) (tgt := 152) hx hb dX4_does_94 (by decide) (by decide) (by rfl) (by decide) ?_
          refine lv_iload hx hb dX4_does_152 (lv_at hl 2 rfl) ?_
          refine lv_istore (lv' := [(7, .int ((V 3) q)), (6, .int ((V 4) q)), (5, .int ((V 3) q)), (4, .int ((V 2) q)), (0, .ref (ad 0)), (1, .int (nI q)), (2, .ref (ad 5)), (3, .int (nI (4 * t)))]) hx hb dX4_does_154 hl (by decide) rfl (fun ls hl => ?_)
          refine lv_goto (tgt := 384) hx hb dX4_does_156 (by decide) ?_
          refine lv_aload_n hx hb dX4_does_384 rfl (lv_at hl 4 rfl) ?_
          refine lv_iload_n hx hb dX4_does_385 rfl (lv_at hl 5 rfl) ?_
          refine callR (runV hx hb hg hown hml hl.1 (c_X4_sets l D k ad (V) hv hq) [.int (nI q)] [] (preR (mapSome_sub hh.1 [0, 1, 2, 3, 4, 5, 6, 7, 8, 9, 10, 11, 12, 13, 14, 15, 16, 17, 18, 19, 20, 21, 22] rfl) hK hN xb0 x0) (va_recv hK hh.1 (ci := 4) (q0 := 0) rfl rfl) wd_755 wd_757 wd_37 wd_53 wd_758 lk_X4_sets ⟨rfl, rfl⟩ ⟨by decide, by decide⟩ ⟨Nat.zero_le _, Nat.zero_le _⟩ rfl (Nat.le_of_ble_eq_true rfl) dX4_does_386) (fun r_386 q_386 => ?_)
          obtain rfl := q_386
          rw [show stI (pq V) q = nI a1 by unfold stI; rw [hkd]; exact hae]
          refine lv_if_lt (tgt := 401) hx hb dX4_does_389 (by decide) (fun c_389 => ?_) (fun c_389 => ?_)
          · have c_389 : a1 < 0 := (nI_ltI (a := a1) (b := 0) (by omega) (by omega)).mp c_389
            exact absurd c_389 (by omega)
          · have c_389 : ¬ a1 < 0 := fun z => c_389 ((nI_ltI (a := a1) (b := 0) (by omega) (by omega)).mpr z)
            refine lv_aload_n hx hb dX4_does_392 rfl (lv_at hl 4 rfl) ?_
            refine gfl hx hb hg inX4 hown hK hh.1 0 (ci := 4) rfl rfl 24 (by decide) wd_575 rfl dX4_does_393 ?_
            refine lv_iload hx hb dX4_does_396 (lv_at hl 3 rfl) ?_
            refine lv_iload hx hb dX4_does_398 (lv_at hl 0 rfl) ?_
            refine stx hx hb hK hh 17 0 rfl rfl (vp_lim (n := 8) hlA (by decide) (by decide)) dX4_does_400 (wQ k ad (va_up V 17 (upd (V 17) (((V 2) q).toNatClampNeg) ((V 3) q)))) rfl (fun H locs hh => ?_)
            refine lv_aload_n hx hb dX4_does_401 rfl (lv_at hl 4 rfl) ?_
            refine lv_iload hx hb dX4_does_402 (lv_at hl 0 rfl) ?_
            refine pfl hx hb hg inX4 tyX4 tyX4_ok nmX4 hown hK hh 0 (ci := 4) rfl rfl 32 (by decide) wd_583 rfl rfl rfl (Nat.le_of_ble_eq_true rfl) dX4_does_404 (wQ k ad (va_up (va_up V 17 (upd (V 17) (((V 2) q).toNatClampNeg) ((V 3) q))) 0 (upd ((va_up V 17 (upd (V 17) (((V 2) q).toNatClampNeg) ((V 3) q))) 0) 32 ((V 3) q)))) rfl (fun H locs hh => ?_)
            refine lv_iconst (v := 1) hx hb dX4_does_407 (by decide) ?_
            have eT : tlS (pq V) (fun j => V 5 (4 * t + j)) (V 17) (V 18) (V 19) (V 20) q = (V 3) q := (tl_v hF hkd (by decide) (by decide) (by decide)).trans vl_1
            exact retZ (Wd := wQ k ad) (v := 1) (va_up (va_up V 17 (upd (V 17) (((V 2) q).toNatClampNeg) ((V 3) q))) 0 (upd ((va_up V 17 (upd (V 17) (((V 2) q).toNatClampNeg) ((V 3) q))) 0) 32 ((V 3) q))) hx hb hr hlocks rfl dX4_does_408 hh (⟨by rw [hF]; rfl, by rw [re_u hF hkd (by decide), eT, up_n (by decide), up_s]; first | done | rfl, by rw [ti_n hF hkd (by decide), up_n (by decide), up_n (by decide)], by rw [gl_n hF hkd (by decide), up_n (by decide), up_n (by decide)], by rw [up_s, upd_s, eT], ((Fr.rf.up (by decide)).up (by decide)), fun j hj => by rw [up_s, upd_n hj, up_n (by decide)]⟩)
        · exact absurd (show (1 : Int32) = (10 : Int32) from c_67) (by decide)
    · exact absurd (show (1 : Int32) = (6 : Int32) from c_35) (by decide)
  · have hkd : kd (pq V) q = 2 := hkd
    have hlA : lim 8 (V 2 q) := hlA
    have hlB : lim 4 (V 3 q) := hlB
    obtain ⟨b1, hb1, hbe⟩ := lim_nI hlB (by decide)
    obtain ⟨a1, ha1, hae⟩ := lim_nI hlA (by decide)
    refine lv_aload_n hx hb dX4_does_27 rfl (lv_at hl 4 rfl) ?_
    refine gfl hx hb hg inX4 hown hK hh.1 0 (ci := 4) rfl rfl 1 (by decide) wd_552 rfl dX4_does_28 ?_
    refine lv_iload_n hx hb dX4_does_31 rfl (lv_at hl 5 rfl) ?_
    refine ldn hx hb hK hh.1 1 0 rfl rfl (by omega) (by decide) dX4_does_32 ?_
    refine topv (2) hk ?_
    refine lv_bipush (v := 6) hx hb dX4_does_33 (by decide) ?_
    refine lv_icmp_ne (tgt := 48) hx hb dX4_does_35 (by decide) (fun c_35 => ?_) (fun c_35 => ?_)
    · refine lv_aload_n hx hb dX4_does_48 rfl (lv_at hl 4 rfl) ?_
      refine gfl hx hb hg inX4 hown hK hh.1 0 (ci := 4) rfl rfl 1 (by decide) wd_552 rfl dX4_does_49 ?_
      refine lv_iload_n hx hb dX4_does_52 rfl (lv_at hl 5 rfl) ?_
      refine ldn hx hb hK hh.1 1 0 rfl rfl (by omega) (by decide) dX4_does_53 ?_
      refine topv (2) hk ?_
      refine lv_bipush (v := 9) hx hb dX4_does_54 (by decide) ?_
      refine lv_icmp_eq (tgt := 70) hx hb dX4_does_56 (by decide) (fun c_56 => ?_) (fun c_56 => ?_)
      · exact absurd (show (2 : Int32) = (9 : Int32) from c_56) (by decide)
      · refine lv_aload_n hx hb dX4_does_59 rfl (lv_at hl 4 rfl) ?_
        refine gfl hx hb hg inX4 hown hK hh.1 0 (ci := 4) rfl rfl 1 (by decide) wd_552 rfl dX4_does_60 ?_
        refine lv_iload_n hx hb dX4_does_63 rfl (lv_at hl 5 rfl) ?_
        refine ldn hx hb hK hh.1 1 0 rfl rfl (by omega) (by decide) dX4_does_64 ?_
        refine topv (2) hk ?_
        refine lv_bipush (v := 10) hx hb dX4_does_65 (by decide) ?_
        refine lv_icmp_ne (tgt := 88) hx hb dX4_does_67 (by decide) (fun c_67 => ?_) (fun c_67 => ?_)
        · have hF : stF (pq V) (V 17) q = false := by unfold stF fgB; rw [hkd]; simp
          refine lv_aload_n hx hb dX4_does_88 rfl (lv_at hl 4 rfl) ?_
          refine gfl hx hb hg inX4 hown hK hh.1 0 (ci := 4) rfl rfl 1 (by decide) wd_552 rfl dX4_does_89 ?_
          refine lv_iload_n hx hb dX4_does_92 rfl (lv_at hl 5 rfl) ?_
          refine ldn hx hb hK hh.1 1 0 rfl rfl (by omega) (by decide) dX4_does_93 ?_
          refine topv (2) hk ?_
          refine lv_tableIn (off := 65) (tgt := 159) hx hb dX4_does_94 (by decide) (by decide) (by rfl) (by decide) ?_
          refine lv_aload_n hx hb dX4_does_159 rfl (lv_at hl 6 rfl) ?_
          refine lv_iload_n hx hb dX4_does_160 rfl (lv_at hl 7 rfl) ?_
          refine lv_iload hx hb dX4_does_161 (lv_at hl 2 rfl) ?_
          refine topv (nI b1) hbe ?_
          refine lv_iadd hx hb dX4_does_163 ?_
          refine topv (nI (4 * t + b1)) (nI_add (4 * t) b1) ?_
          refine ldn hx hb hK hh.1 5 0 rfl rfl (by omega) (by decide) dX4_does_164 ?_
          refine lv_istore (lv' := [(7, .int ((V 5) (4 * t + b1))), (6, .int ((V 4) q)), (5, .int ((V 3) q)), (4, .int ((V 2) q)), (0, .ref (ad 0)), (1, .int (nI q)), (2, .ref (ad 5)), (3, .int (nI (4 * t)))]) hx hb dX4_does_165 hl (by decide) rfl (fun ls hl => ?_)
          refine lv_goto (tgt := 384) hx hb dX4_does_167 (by decide) ?_
          refine lv_aload_n hx hb dX4_does_384 rfl (lv_at hl 4 rfl) ?_
          refine lv_iload_n hx hb dX4_does_385 rfl (lv_at hl 5 rfl) ?_
          refine callR (runV hx hb hg hown hml hl.1 (c_X4_sets l D k ad (V) hv hq) [.int (nI q)] [] (preR (mapSome_sub hh.1 [0, 1, 2, 3, 4, 5, 6, 7, 8, 9, 10, 11, 12, 13, 14, 15, 16, 17, 18, 19, 20, 21, 22] rfl) hK hN xb0 x0) (va_recv hK hh.1 (ci := 4) (q0 := 0) rfl rfl) wd_755 wd_757 wd_37 wd_53 wd_758 lk_X4_sets ⟨rfl, rfl⟩ ⟨by decide, by decide⟩ ⟨Nat.zero_le _, Nat.zero_le _⟩ rfl (Nat.le_of_ble_eq_true rfl) dX4_does_386) (fun r_386 q_386 => ?_)
          obtain rfl := q_386
          rw [show stI (pq V) q = nI a1 by unfold stI; rw [hkd]; exact hae]
          refine lv_if_lt (tgt := 401) hx hb dX4_does_389 (by decide) (fun c_389 => ?_) (fun c_389 => ?_)
          · have c_389 : a1 < 0 := (nI_ltI (a := a1) (b := 0) (by omega) (by omega)).mp c_389
            exact absurd c_389 (by omega)
          · have c_389 : ¬ a1 < 0 := fun z => c_389 ((nI_ltI (a := a1) (b := 0) (by omega) (by omega)).mpr z)
            refine lv_aload_n hx hb dX4_does_392 rfl (lv_at hl 4 rfl) ?_
            refine gfl hx hb hg inX4 hown hK hh.1 0 (ci := 4) rfl rfl 24 (by decide) wd_575 rfl dX4_does_393 ?_
            refine lv_iload hx hb dX4_does_396 (lv_at hl 3 rfl) ?_
            refine lv_iload hx hb dX4_does_398 (lv_at hl 0 rfl) ?_
            refine stx hx hb hK hh 17 0 rfl rfl (vp_lim (n := 8) hlA (by decide) (by decide)) dX4_does_400 (wQ k ad (va_up V 17 (upd (V 17) (((V 2) q).toNatClampNeg) ((V 5) (4 * t + b1))))) rfl (fun H locs hh => ?_)
            refine lv_aload_n hx hb dX4_does_401 rfl (lv_at hl 4 rfl) ?_
            refine lv_iload hx hb dX4_does_402 (lv_at hl 0 rfl) ?_
            refine pfl hx hb hg inX4 tyX4 tyX4_ok nmX4 hown hK hh 0 (ci := 4) rfl rfl 32 (by decide) wd_583 rfl rfl rfl (Nat.le_of_ble_eq_true rfl) dX4_does_404 (wQ k ad (va_up (va_up V 17 (upd (V 17) (((V 2) q).toNatClampNeg) ((V 5) (4 * t + b1)))) 0 (upd ((va_up V 17 (upd (V 17) (((V 2) q).toNatClampNeg) ((V 5) (4 * t + b1)))) 0) 32 ((V 5) (4 * t + b1))))) rfl (fun H locs hh => ?_)
            refine lv_iconst (v := 1) hx hb dX4_does_407 (by decide) ?_
            have eT : tlS (pq V) (fun j => V 5 (4 * t + j)) (V 17) (V 18) (V 19) (V 20) q = (V 5) (4 * t + b1) := ((tl_v hF hkd (by decide) (by decide) (by decide)).trans vl_2).trans (by show V 5 (4 * t + ix (V 3 q)) = _; rw [hbe, ix_nI (by omega)])
            exact retZ (Wd := wQ k ad) (v := 1) (va_up (va_up V 17 (upd (V 17) (((V 2) q).toNatClampNeg) ((V 5) (4 * t + b1)))) 0 (upd ((va_up V 17 (upd (V 17) (((V 2) q).toNatClampNeg) ((V 5) (4 * t + b1)))) 0) 32 ((V 5) (4 * t + b1)))) hx hb hr hlocks rfl dX4_does_408 hh (⟨by rw [hF]; rfl, by rw [re_u hF hkd (by decide), eT, up_n (by decide), up_s]; first | done | rfl, by rw [ti_n hF hkd (by decide), up_n (by decide), up_n (by decide)], by rw [gl_n hF hkd (by decide), up_n (by decide), up_n (by decide)], by rw [up_s, upd_s, eT], ((Fr.rf.up (by decide)).up (by decide)), fun j hj => by rw [up_s, upd_n hj, up_n (by decide)]⟩)
        · exact absurd (show (2 : Int32) = (10 : Int32) from c_67) (by decide)
    · exact absurd (show (2 : Int32) = (6 : Int32) from c_35) (by decide)
  · have hkd : kd (pq V) q = 3 := hkd
    have hlA : lim 8 (V 2 q) := hlA
    have hlB : lim 8 (V 3 q) := hlB
    have hlC : lim 8 (V 4 q) := hlC
    obtain ⟨a1, ha1, hae⟩ := lim_nI hlA (by decide)
    refine lv_aload_n hx hb dX4_does_27 rfl (lv_at hl 4 rfl) ?_
    refine gfl hx hb hg inX4 hown hK hh.1 0 (ci := 4) rfl rfl 1 (by decide) wd_552 rfl dX4_does_28 ?_
    refine lv_iload_n hx hb dX4_does_31 rfl (lv_at hl 5 rfl) ?_
    refine ldn hx hb hK hh.1 1 0 rfl rfl (by omega) (by decide) dX4_does_32 ?_
    refine topv (3) hk ?_
    refine lv_bipush (v := 6) hx hb dX4_does_33 (by decide) ?_
    refine lv_icmp_ne (tgt := 48) hx hb dX4_does_35 (by decide) (fun c_35 => ?_) (fun c_35 => ?_)
    · refine lv_aload_n hx hb dX4_does_48 rfl (lv_at hl 4 rfl) ?_
      refine gfl hx hb hg inX4 hown hK hh.1 0 (ci := 4) rfl rfl 1 (by decide) wd_552 rfl dX4_does_49 ?_
      refine lv_iload_n hx hb dX4_does_52 rfl (lv_at hl 5 rfl) ?_
      refine ldn hx hb hK hh.1 1 0 rfl rfl (by omega) (by decide) dX4_does_53 ?_
      refine topv (3) hk ?_
      refine lv_bipush (v := 9) hx hb dX4_does_54 (by decide) ?_
      refine lv_icmp_eq (tgt := 70) hx hb dX4_does_56 (by decide) (fun c_56 => ?_) (fun c_56 => ?_)
      · exact absurd (show (3 : Int32) = (9 : Int32) from c_56) (by decide)
      · refine lv_aload_n hx hb dX4_does_59 rfl (lv_at hl 4 rfl) ?_
        refine gfl hx hb hg inX4 hown hK hh.1 0 (ci := 4) rfl rfl 1 (by decide) wd_552 rfl dX4_does_60 ?_
        refine lv_iload_n hx hb dX4_does_63 rfl (lv_at hl 5 rfl) ?_
        refine ldn hx hb hK hh.1 1 0 rfl rfl (by omega) (by decide) dX4_does_64 ?_
        refine topv (3) hk ?_
        refine lv_bipush (v := 10) hx hb dX4_does_65 (by decide) ?_
        refine lv_icmp_ne (tgt := 88) hx hb dX4_does_67 (by decide) (fun c_67 => ?_) (fun c_67 => ?_)
        · have hF : stF (pq V) (V 17) q = false := by unfold stF fgB; rw [hkd]; simp
          refine lv_aload_n hx hb dX4_does_88 rfl (lv_at hl 4 rfl) ?_
          refine gfl hx hb hg inX4 hown hK hh.1 0 (ci := 4) rfl rfl 1 (by decide) wd_552 rfl dX4_does_89 ?_
          refine lv_iload_n hx hb dX4_does_92 rfl (lv_at hl 5 rfl) ?_
          refine ldn hx hb hK hh.1 1 0 rfl rfl (by omega) (by decide) dX4_does_93 ?_
          refine topv (3) hk ?_
          refine lv_tableIn (off := 76) (tgt := 170) hx hb dX4_does_94 (by decide) (by decide) (by rfl) (by decide) ?_
          refine lv_aload_n hx hb dX4_does_170 rfl (lv_at hl 4 rfl) ?_
          refine gfl hx hb hg inX4 hown hK hh.1 0 (ci := 4) rfl rfl 24 (by decide) wd_575 rfl dX4_does_171 ?_
          refine lv_iload hx hb dX4_does_174 (lv_at hl 2 rfl) ?_
          refine ldx hx hb hK hh.1 17 0 rfl rfl (vp_lim (n := 8) hlB (by decide) (by decide)) dX4_does_176 ?_
          refine lv_aload_n hx hb dX4_does_177 rfl (lv_at hl 4 rfl) ?_
          refine gfl hx hb hg inX4 hown hK hh.1 0 (ci := 4) rfl rfl 24 (by decide) wd_575 rfl dX4_does_178 ?_
          refine lv_iload hx hb dX4_does_181 (lv_at hl 1 rfl) ?_
          refine ldx hx hb hK hh.1 17 0 rfl rfl (vp_lim (n := 8) hlC (by decide) (by decide)) dX4_does_183 ?_
          refine lv_iadd hx hb dX4_does_184 ?_
          refine lv_istore (lv' := [(7, .int (((V 17) ((V 3) q).toNatClampNeg) + ((V 17) ((V 4) q).toNatClampNeg))), (6, .int ((V 4) q)), (5, .int ((V 3) q)), (4, .int ((V 2) q)), (0, .ref (ad 0)), (1, .int (nI q)), (2, .ref (ad 5)), (3, .int (nI (4 * t)))]) hx hb dX4_does_185 hl (by decide) rfl (fun ls hl => ?_)
          refine lv_goto (tgt := 384) hx hb dX4_does_187 (by decide) ?_
          refine lv_aload_n hx hb dX4_does_384 rfl (lv_at hl 4 rfl) ?_
          refine lv_iload_n hx hb dX4_does_385 rfl (lv_at hl 5 rfl) ?_
          refine callR (runV hx hb hg hown hml hl.1 (c_X4_sets l D k ad (V) hv hq) [.int (nI q)] [] (preR (mapSome_sub hh.1 [0, 1, 2, 3, 4, 5, 6, 7, 8, 9, 10, 11, 12, 13, 14, 15, 16, 17, 18, 19, 20, 21, 22] rfl) hK hN xb0 x0) (va_recv hK hh.1 (ci := 4) (q0 := 0) rfl rfl) wd_755 wd_757 wd_37 wd_53 wd_758 lk_X4_sets ⟨rfl, rfl⟩ ⟨by decide, by decide⟩ ⟨Nat.zero_le _, Nat.zero_le _⟩ rfl (Nat.le_of_ble_eq_true rfl) dX4_does_386) (fun r_386 q_386 => ?_)
          obtain rfl := q_386
          rw [show stI (pq V) q = nI a1 by unfold stI; rw [hkd]; exact hae]
          refine lv_if_lt (tgt := 401) hx hb dX4_does_389 (by decide) (fun c_389 => ?_) (fun c_389 => ?_)
          · have c_389 : a1 < 0 := (nI_ltI (a := a1) (b := 0) (by omega) (by omega)).mp c_389
            exact absurd c_389 (by omega)
          · have c_389 : ¬ a1 < 0 := fun z => c_389 ((nI_ltI (a := a1) (b := 0) (by omega) (by omega)).mpr z)
            refine lv_aload_n hx hb dX4_does_392 rfl (lv_at hl 4 rfl) ?_
            refine gfl hx hb hg inX4 hown hK hh.1 0 (ci := 4) rfl rfl 24 (by decide) wd_575 rfl dX4_does_393 ?_
            refine lv_iload hx hb dX4_does_396 (lv_at hl 3 rfl) ?_
            refine lv_iload hx hb dX4_does_398 (lv_at hl 0 rfl) ?_
            refine stx hx hb hK hh 17 0 rfl rfl (vp_lim (n := 8) hlA (by decide) (by decide)) dX4_does_400 (wQ k ad (va_up V 17 (upd (V 17) (((V 2) q).toNatClampNeg) (((V 17) ((V 3) q).toNatClampNeg) + ((V 17) ((V 4) q).toNatClampNeg))))) rfl (fun H locs hh => ?_)
            refine lv_aload_n hx hb dX4_does_401 rfl (lv_at hl 4 rfl) ?_
            refine lv_iload hx hb dX4_does_402 (lv_at hl 0 rfl) ?_
            refine pfl hx hb hg inX4 tyX4 tyX4_ok nmX4 hown hK hh 0 (ci := 4) rfl rfl 32 (by decide) wd_583 rfl rfl rfl (Nat.le_of_ble_eq_true rfl) dX4_does_404 (wQ k ad (va_up (va_up V 17 (upd (V 17) (((V 2) q).toNatClampNeg) (((V 17) ((V 3) q).toNatClampNeg) + ((V 17) ((V 4) q).toNatClampNeg)))) 0 (upd ((va_up V 17 (upd (V 17) (((V 2) q).toNatClampNeg) (((V 17) ((V 3) q).toNatClampNeg) + ((V 17) ((V 4) q).toNatClampNeg)))) 0) 32 (((V 17) ((V 3) q).toNatClampNeg) + ((V 17) ((V 4) q).toNatClampNeg))))) rfl (fun H locs hh => ?_)
            refine lv_iconst (v := 1) hx hb dX4_does_407 (by decide) ?_
            have eT : tlS (pq V) (fun j => V 5 (4 * t + j)) (V 17) (V 18) (V 19) (V 20) q = ((V 17) ((V 3) q).toNatClampNeg) + ((V 17) ((V 4) q).toNatClampNeg) := (tl_v hF hkd (by decide) (by decide) (by decide)).trans vl_3
            exact retZ (Wd := wQ k ad) (v := 1) (va_up (va_up V 17 (upd (V 17) (((V 2) q).toNatClampNeg) (((V 17) ((V 3) q).toNatClampNeg) + ((V 17) ((V 4) q).toNatClampNeg)))) 0 (upd ((va_up V 17 (upd (V 17) (((V 2) q).toNatClampNeg) (((V 17) ((V 3) q).toNatClampNeg) + ((V 17) ((V 4) q).toNatClampNeg)))) 0) 32 (((V 17) ((V 3) q).toNatClampNeg) + ((V 17) ((V 4) q).toNatClampNeg)))) hx hb hr hlocks rfl dX4_does_408 hh (⟨by rw [hF]; rfl, by rw [re_u hF hkd (by decide), eT, up_n (by decide), up_s]; first | done | rfl, by rw [ti_n hF hkd (by decide), up_n (by decide), up_n (by decide)], by rw [gl_n hF hkd (by decide), up_n (by decide), up_n (by decide)], by rw [up_s, upd_s, eT], ((Fr.rf.up (by decide)).up (by decide)), fun j hj => by rw [up_s, upd_n hj, up_n (by decide)]⟩)
        · exact absurd (show (3 : Int32) = (10 : Int32) from c_67) (by decide)
    · exact absurd (show (3 : Int32) = (6 : Int32) from c_35) (by decide)
  · have hkd : kd (pq V) q = 4 := hkd
    have hlA : lim 8 (V 2 q) := hlA
    have hlB : lim 8 (V 3 q) := hlB
    have hlC : lim 8 (V 4 q) := hlC
    obtain ⟨a1, ha1, hae⟩ := lim_nI hlA (by decide)
    refine lv_aload_n hx hb dX4_does_27 rfl (lv_at hl 4 rfl) ?_
    refine gfl hx hb hg inX4 hown hK hh.1 0 (ci := 4) rfl rfl 1 (by decide) wd_552 rfl dX4_does_28 ?_
    refine lv_iload_n hx hb dX4_does_31 rfl (lv_at hl 5 rfl) ?_
    refine ldn hx hb hK hh.1 1 0 rfl rfl (by omega) (by decide) dX4_does_32 ?_
    refine topv (4) hk ?_
    refine lv_bipush (v := 6) hx hb dX4_does_33 (by decide) ?_
    refine lv_icmp_ne (tgt := 48) hx hb dX4_does_35 (by decide) (fun c_35 => ?_) (fun c_35 => ?_)
    · refine lv_aload_n hx hb dX4_does_48 rfl (lv_at hl 4 rfl) ?_
      refine gfl hx hb hg inX4 hown hK hh.1 0 (ci := 4) rfl rfl 1 (by decide) wd_552 rfl dX4_does_49 ?_
      refine lv_iload_n hx hb dX4_does_52 rfl (lv_at hl 5 rfl) ?_
      refine ldn hx hb hK hh.1 1 0 rfl rfl (by omega) (by decide) dX4_does_53 ?_
      refine topv (4) hk ?_
      refine lv_bipush (v := 9) hx hb dX4_does_54 (by decide) ?_
      refine lv_icmp_eq (tgt := 70) hx hb dX4_does_56 (by decide) (fun c_56 => ?_) (fun c_56 => ?_)
      · exact absurd (show (4 : Int32) = (9 : Int32) from c_56) (by decide)
      · refine lv_aload_n hx hb dX4_does_59 rfl (lv_at hl 4 rfl) ?_
        refine gfl hx hb hg inX4 hown hK hh.1 0 (ci := 4) rfl rfl 1 (by decide) wd_552 rfl dX4_does_60 ?_
        refine lv_iload_n hx hb dX4_does_63 rfl (lv_at hl 5 rfl) ?_
        refine ldn hx hb hK hh.1 1 0 rfl rfl (by omega) (by decide) dX4_does_64 ?_
        refine topv (4) hk ?_
        refine lv_bipush (v := 10) hx hb dX4_does_65 (by decide) ?_
        refine lv_icmp_ne (tgt := 88) hx hb dX4_does_67 (by decide) (fun c_67 => ?_) (fun c_67 => ?_)
        · have hF : stF (pq V) (V 17) q = false := by unfold stF fgB; rw [hkd]; simp
          refine lv_aload_n hx hb dX4_does_88 rfl (lv_at hl 4 rfl) ?_
          refine gfl hx hb hg inX4 hown hK hh.1 0 (ci := 4) rfl rfl 1 (by decide) wd_552 rfl dX4_does_89 ?_
          refine lv_iload_n hx hb dX4_does_92 rfl (lv_at hl 5 rfl) ?_
          refine ldn hx hb hK hh.1 1 0 rfl rfl (by omega) (by decide) dX4_does_93 ?_
          refine topv (4) hk ?_
          refine lv_tableIn (off := 96) (tgt := 190) hx hb dX4_does_94 (by decide) (by decide) (by rfl) (by decide) ?_
          refine lv_aload_n hx hb dX4_does_190 rfl (lv_at hl 4 rfl) ?_
          refine gfl hx hb hg inX4 hown hK hh.1 0 (ci := 4) rfl rfl 24 (by decide) wd_575 rfl dX4_does_191 ?_
          refine lv_iload hx hb dX4_does_194 (lv_at hl 2 rfl) ?_
          refine ldx hx hb hK hh.1 17 0 rfl rfl (vp_lim (n := 8) hlB (by decide) (by decide)) dX4_does_196 ?_
          refine lv_aload_n hx hb dX4_does_197 rfl (lv_at hl 4 rfl) ?_
          refine gfl hx hb hg inX4 hown hK hh.1 0 (ci := 4) rfl rfl 24 (by decide) wd_575 rfl dX4_does_198 ?_
          refine lv_iload hx hb dX4_does_201 (lv_at hl 1 rfl) ?_
          refine ldx hx hb hK hh.1 17 0 rfl rfl (vp_lim (n := 8) hlC (by decide) (by decide)) dX4_does_203 ?_
          refine lv_icmp_ge (tgt := 211) hx hb dX4_does_204 (by decide) (fun c_204 => ?_) (fun c_204 => ?_)
          · have c_204 : ¬ V 17 (ix (V 3 q)) < V 17 (ix (V 4 q)) := i_nlt.mpr c_204
            refine lv_iconst (v := 0) hx hb dX4_does_211 (by decide) ?_
            refine lv_istore (lv' := [(7, .int 0), (6, .int ((V 4) q)), (5, .int ((V 3) q)), (4, .int ((V 2) q)), (0, .ref (ad 0)), (1, .int (nI q)), (2, .ref (ad 5)), (3, .int (nI (4 * t)))]) hx hb dX4_does_212 hl (by decide) rfl (fun ls hl => ?_)
            refine lv_goto (tgt := 384) hx hb dX4_does_214 (by decide) ?_
            refine lv_aload_n hx hb dX4_does_384 rfl (lv_at hl 4 rfl) ?_
            refine lv_iload_n hx hb dX4_does_385 rfl (lv_at hl 5 rfl) ?_
            refine callR (runV hx hb hg hown hml hl.1 (c_X4_sets l D k ad (V) hv hq) [.int (nI q)] [] (preR (mapSome_sub hh.1 [0, 1, 2, 3, 4, 5, 6, 7, 8, 9, 10, 11, 12, 13, 14, 15, 16, 17, 18, 19, 20, 21, 22] rfl) hK hN xb0 x0) (va_recv hK hh.1 (ci := 4) (q0 := 0) rfl rfl) wd_755 wd_757 wd_37 wd_53 wd_758 lk_X4_sets ⟨rfl, rfl⟩ ⟨by decide, by decide⟩ ⟨Nat.zero_le _, Nat.zero_le _⟩ rfl (Nat.le_of_ble_eq_true rfl) dX4_does_386) (fun r_386 q_386 => ?_)
            obtain rfl := q_386
            rw [show stI (pq V) q = nI a1 by unfold stI; rw [hkd]; exact hae]
            refine lv_if_lt (tgt := 401) hx hb dX4_does_389 (by decide) (fun c_389 => ?_) (fun c_389 => ?_)
            · have c_389 : a1 < 0 := (nI_ltI (a := a1) (b := 0) (by omega) (by omega)).mp c_389
              exact absurd c_389 (by omega)
            · have c_389 : ¬ a1 < 0 := fun z => c_389 ((nI_ltI (a := a1) (b := 0) (by omega) (by omega)).mpr z)
              refine lv_aload_n hx hb dX4_does_392 rfl (lv_at hl 4 rfl) ?_
              refine gfl hx hb hg inX4 hown hK hh.1 0 (ci := 4) rfl rfl 24 (by decide) wd_575 rfl dX4_does_393 ?_
              refine lv_iload hx hb dX4_does_396 (lv_at hl 3 rfl) ?_
              refine lv_iload hx hb dX4_does_398 (lv_at hl 0 rfl) ?_
              refine stx hx hb hK hh 17 0 rfl rfl (vp_lim (n := 8) hlA (by decide) (by decide)) dX4_does_400 (wQ k ad (va_up V 17 (upd (V 17) (((V 2) q).toNatClampNeg) 0))) rfl (fun H locs hh => ?_)
              refine lv_aload_n hx hb dX4_does_401 rfl (lv_at hl 4 rfl) ?_
              refine lv_iload hx hb dX4_does_402 (lv_at hl 0 rfl) ?_
              refine pfl hx hb hg inX4 tyX4 tyX4_ok nmX4 hown hK hh 0 (ci := 4) rfl rfl 32 (by decide) wd_583 rfl rfl rfl (Nat.le_of_ble_eq_true rfl) dX4_does_404 (wQ k ad (va_up (va_up V 17 (upd (V 17) (((V 2) q).toNatClampNeg) 0)) 0 (upd ((va_up V 17 (upd (V 17) (((V 2) q).toNatClampNeg) 0)) 0) 32 0))) rfl (fun H locs hh => ?_)
              refine lv_iconst (v := 1) hx hb dX4_does_407 (by decide) ?_
              have eT : tlS (pq V) (fun j => V 5 (4 * t + j)) (V 17) (V 18) (V 19) (V 20) q = 0 := ((tl_v hF hkd (by decide) (by decide) (by decide)).trans vl_4).trans (by show (if V 17 (ix (V 3 q)) < V 17 (ix (V 4 q)) then (1 : Int32) else 0) = _; rw [if_neg c_204])
              exact retZ (Wd := wQ k ad) (v := 1) (va_up (va_up V 17 (upd (V 17) (((V 2) q).toNatClampNeg) 0)) 0 (upd ((va_up V 17 (upd (V 17) (((V 2) q).toNatClampNeg) 0)) 0) 32 0)) hx hb hr hlocks rfl dX4_does_408 hh (⟨by rw [hF]; rfl, by rw [re_u hF hkd (by decide), eT, up_n (by decide), up_s]; first | done | rfl, by rw [ti_n hF hkd (by decide), up_n (by decide), up_n (by decide)], by rw [gl_n hF hkd (by decide), up_n (by decide), up_n (by decide)], by rw [up_s, upd_s, eT], ((Fr.rf.up (by decide)).up (by decide)), fun j hj => by rw [up_s, upd_n hj, up_n (by decide)]⟩)
          · have c_204 : V 17 (ix (V 3 q)) < V 17 (ix (V 4 q)) := i_nle.mp c_204
            refine lv_iconst (v := 1) hx hb dX4_does_207 (by decide) ?_
            refine lv_goto (tgt := 212) hx hb dX4_does_208 (by decide) ?_
            refine lv_istore (lv' := [(7, .int 1), (6, .int ((V 4) q)), (5, .int ((V 3) q)), (4, .int ((V 2) q)), (0, .ref (ad 0)), (1, .int (nI q)), (2, .ref (ad 5)), (3, .int (nI (4 * t)))]) hx hb dX4_does_212 hl (by decide) rfl (fun ls hl => ?_)
            refine lv_goto (tgt := 384) hx hb dX4_does_214 (by decide) ?_
            refine lv_aload_n hx hb dX4_does_384 rfl (lv_at hl 4 rfl) ?_
            refine lv_iload_n hx hb dX4_does_385 rfl (lv_at hl 5 rfl) ?_
            refine callR (runV hx hb hg hown hml hl.1 (c_X4_sets l D k ad (V) hv hq) [.int (nI q)] [] (preR (mapSome_sub hh.1 [0, 1, 2, 3, 4, 5, 6, 7, 8, 9, 10, 11, 12, 13, 14, 15, 16, 17, 18, 19, 20, 21, 22] rfl) hK hN xb0 x0) (va_recv hK hh.1 (ci := 4) (q0 := 0) rfl rfl) wd_755 wd_757 wd_37 wd_53 wd_758 lk_X4_sets ⟨rfl, rfl⟩ ⟨by decide, by decide⟩ ⟨Nat.zero_le _, Nat.zero_le _⟩ rfl (Nat.le_of_ble_eq_true rfl) dX4_does_386) (fun r_386 q_386 => ?_)
            obtain rfl := q_386
            rw [show stI (pq V) q = nI a1 by unfold stI; rw [hkd]; exact hae]
            refine lv_if_lt (tgt := 401) hx hb dX4_does_389 (by decide) (fun c_389 => ?_) (fun c_389 => ?_)
            · have c_389 : a1 < 0 := (nI_ltI (a := a1) (b := 0) (by omega) (by omega)).mp c_389
              exact absurd c_389 (by omega)
            · have c_389 : ¬ a1 < 0 := fun z => c_389 ((nI_ltI (a := a1) (b := 0) (by omega) (by omega)).mpr z)
              refine lv_aload_n hx hb dX4_does_392 rfl (lv_at hl 4 rfl) ?_
              refine gfl hx hb hg inX4 hown hK hh.1 0 (ci := 4) rfl rfl 24 (by decide) wd_575 rfl dX4_does_393 ?_
              refine lv_iload hx hb dX4_does_396 (lv_at hl 3 rfl) ?_
              refine lv_iload hx hb dX4_does_398 (lv_at hl 0 rfl) ?_
              refine stx hx hb hK hh 17 0 rfl rfl (vp_lim (n := 8) hlA (by decide) (by decide)) dX4_does_400 (wQ k ad (va_up V 17 (upd (V 17) (((V 2) q).toNatClampNeg) 1))) rfl (fun H locs hh => ?_)
              refine lv_aload_n hx hb dX4_does_401 rfl (lv_at hl 4 rfl) ?_
              refine lv_iload hx hb dX4_does_402 (lv_at hl 0 rfl) ?_
              refine pfl hx hb hg inX4 tyX4 tyX4_ok nmX4 hown hK hh 0 (ci := 4) rfl rfl 32 (by decide) wd_583 rfl rfl rfl (Nat.le_of_ble_eq_true rfl) dX4_does_404 (wQ k ad (va_up (va_up V 17 (upd (V 17) (((V 2) q).toNatClampNeg) 1)) 0 (upd ((va_up V 17 (upd (V 17) (((V 2) q).toNatClampNeg) 1)) 0) 32 1))) rfl (fun H locs hh => ?_)
              refine lv_iconst (v := 1) hx hb dX4_does_407 (by decide) ?_
              have eT : tlS (pq V) (fun j => V 5 (4 * t + j)) (V 17) (V 18) (V 19) (V 20) q = 1 := ((tl_v hF hkd (by decide) (by decide) (by decide)).trans vl_4).trans (by show (if V 17 (ix (V 3 q)) < V 17 (ix (V 4 q)) then (1 : Int32) else 0) = _; rw [if_pos c_204])
              exact retZ (Wd := wQ k ad) (v := 1) (va_up (va_up V 17 (upd (V 17) (((V 2) q).toNatClampNeg) 1)) 0 (upd ((va_up V 17 (upd (V 17) (((V 2) q).toNatClampNeg) 1)) 0) 32 1)) hx hb hr hlocks rfl dX4_does_408 hh (⟨by rw [hF]; rfl, by rw [re_u hF hkd (by decide), eT, up_n (by decide), up_s]; first | done | rfl, by rw [ti_n hF hkd (by decide), up_n (by decide), up_n (by decide)], by rw [gl_n hF hkd (by decide), up_n (by decide), up_n (by decide)], by rw [up_s, upd_s, eT], ((Fr.rf.up (by decide)).up (by decide)), fun j hj => by rw [up_s, upd_n hj, up_n (by decide)]⟩)
        · exact absurd (show (4 : Int32) = (10 : Int32) from c_67) (by decide)
    · exact absurd (show (4 : Int32) = (6 : Int32) from c_35) (by decide)
  · have hkd : kd (pq V) q = 5 := hkd
    have hlA : lim 8 (V 2 q) := hlA
    have hlB : lim 8 (V 3 q) := hlB
    have hlC : lim 8 (V 4 q) := hlC
    obtain ⟨a1, ha1, hae⟩ := lim_nI hlA (by decide)
    refine lv_aload_n hx hb dX4_does_27 rfl (lv_at hl 4 rfl) ?_
    refine gfl hx hb hg inX4 hown hK hh.1 0 (ci := 4) rfl rfl 1 (by decide) wd_552 rfl dX4_does_28 ?_
    refine lv_iload_n hx hb dX4_does_31 rfl (lv_at hl 5 rfl) ?_
    refine ldn hx hb hK hh.1 1 0 rfl rfl (by omega) (by decide) dX4_does_32 ?_
    refine topv (5) hk ?_
    refine lv_bipush (v := 6) hx hb dX4_does_33 (by decide) ?_
    refine lv_icmp_ne (tgt := 48) hx hb dX4_does_35 (by decide) (fun c_35 => ?_) (fun c_35 => ?_)
    · refine lv_aload_n hx hb dX4_does_48 rfl (lv_at hl 4 rfl) ?_
      refine gfl hx hb hg inX4 hown hK hh.1 0 (ci := 4) rfl rfl 1 (by decide) wd_552 rfl dX4_does_49 ?_
      refine lv_iload_n hx hb dX4_does_52 rfl (lv_at hl 5 rfl) ?_
      refine ldn hx hb hK hh.1 1 0 rfl rfl (by omega) (by decide) dX4_does_53 ?_
      refine topv (5) hk ?_
      refine lv_bipush (v := 9) hx hb dX4_does_54 (by decide) ?_
      refine lv_icmp_eq (tgt := 70) hx hb dX4_does_56 (by decide) (fun c_56 => ?_) (fun c_56 => ?_)
      · exact absurd (show (5 : Int32) = (9 : Int32) from c_56) (by decide)
      · refine lv_aload_n hx hb dX4_does_59 rfl (lv_at hl 4 rfl) ?_
        refine gfl hx hb hg inX4 hown hK hh.1 0 (ci := 4) rfl rfl 1 (by decide) wd_552 rfl dX4_does_60 ?_
        refine lv_iload_n hx hb dX4_does_63 rfl (lv_at hl 5 rfl) ?_
        refine ldn hx hb hK hh.1 1 0 rfl rfl (by omega) (by decide) dX4_does_64 ?_
        refine topv (5) hk ?_
        refine lv_bipush (v := 10) hx hb dX4_does_65 (by decide) ?_
        refine lv_icmp_ne (tgt := 88) hx hb dX4_does_67 (by decide) (fun c_67 => ?_) (fun c_67 => ?_)
        · have hF : stF (pq V) (V 17) q = false := by unfold stF fgB; rw [hkd]; simp
          refine lv_aload_n hx hb dX4_does_88 rfl (lv_at hl 4 rfl) ?_
          refine gfl hx hb hg inX4 hown hK hh.1 0 (ci := 4) rfl rfl 1 (by decide) wd_552 rfl dX4_does_89 ?_
          refine lv_iload_n hx hb dX4_does_92 rfl (lv_at hl 5 rfl) ?_
          refine ldn hx hb hK hh.1 1 0 rfl rfl (by omega) (by decide) dX4_does_93 ?_
          refine topv (5) hk ?_
          refine lv_tableIn (off := 123) (tgt := 217) hx hb dX4_does_94 (by decide) (by decide) (by rfl) (by decide) ?_
          refine lv_aload_n hx hb dX4_does_217 rfl (lv_at hl 4 rfl) ?_
          refine gfl hx hb hg inX4 hown hK hh.1 0 (ci := 4) rfl rfl 24 (by decide) wd_575 rfl dX4_does_218 ?_
          refine lv_iload hx hb dX4_does_221 (lv_at hl 2 rfl) ?_
          refine ldx hx hb hK hh.1 17 0 rfl rfl (vp_lim (n := 8) hlB (by decide) (by decide)) dX4_does_223 ?_
          refine lv_aload_n hx hb dX4_does_224 rfl (lv_at hl 4 rfl) ?_
          refine gfl hx hb hg inX4 hown hK hh.1 0 (ci := 4) rfl rfl 24 (by decide) wd_575 rfl dX4_does_225 ?_
          refine lv_iload hx hb dX4_does_228 (lv_at hl 1 rfl) ?_
          refine ldx hx hb hK hh.1 17 0 rfl rfl (vp_lim (n := 8) hlC (by decide) (by decide)) dX4_does_230 ?_
          refine lv_imul hx hb dX4_does_231 ?_
          refine lv_istore (lv' := [(7, .int (((V 17) ((V 3) q).toNatClampNeg) * ((V 17) ((V 4) q).toNatClampNeg))), (6, .int ((V 4) q)), (5, .int ((V 3) q)), (4, .int ((V 2) q)), (0, .ref (ad 0)), (1, .int (nI q)), (2, .ref (ad 5)), (3, .int (nI (4 * t)))]) hx hb dX4_does_232 hl (by decide) rfl (fun ls hl => ?_)
          refine lv_goto (tgt := 384) hx hb dX4_does_234 (by decide) ?_
          refine lv_aload_n hx hb dX4_does_384 rfl (lv_at hl 4 rfl) ?_
          refine lv_iload_n hx hb dX4_does_385 rfl (lv_at hl 5 rfl) ?_
          refine callR (runV hx hb hg hown hml hl.1 (c_X4_sets l D k ad (V) hv hq) [.int (nI q)] [] (preR (mapSome_sub hh.1 [0, 1, 2, 3, 4, 5, 6, 7, 8, 9, 10, 11, 12, 13, 14, 15, 16, 17, 18, 19, 20, 21, 22] rfl) hK hN xb0 x0) (va_recv hK hh.1 (ci := 4) (q0 := 0) rfl rfl) wd_755 wd_757 wd_37 wd_53 wd_758 lk_X4_sets ⟨rfl, rfl⟩ ⟨by decide, by decide⟩ ⟨Nat.zero_le _, Nat.zero_le _⟩ rfl (Nat.le_of_ble_eq_true rfl) dX4_does_386) (fun r_386 q_386 => ?_)
          obtain rfl := q_386
          rw [show stI (pq V) q = nI a1 by unfold stI; rw [hkd]; exact hae]
          refine lv_if_lt (tgt := 401) hx hb dX4_does_389 (by decide) (fun c_389 => ?_) (fun c_389 => ?_)
          · have c_389 : a1 < 0 := (nI_ltI (a := a1) (b := 0) (by omega) (by omega)).mp c_389
            exact absurd c_389 (by omega)
          · have c_389 : ¬ a1 < 0 := fun z => c_389 ((nI_ltI (a := a1) (b := 0) (by omega) (by omega)).mpr z)
            refine lv_aload_n hx hb dX4_does_392 rfl (lv_at hl 4 rfl) ?_
            refine gfl hx hb hg inX4 hown hK hh.1 0 (ci := 4) rfl rfl 24 (by decide) wd_575 rfl dX4_does_393 ?_
            refine lv_iload hx hb dX4_does_396 (lv_at hl 3 rfl) ?_
            refine lv_iload hx hb dX4_does_398 (lv_at hl 0 rfl) ?_
            refine stx hx hb hK hh 17 0 rfl rfl (vp_lim (n := 8) hlA (by decide) (by decide)) dX4_does_400 (wQ k ad (va_up V 17 (upd (V 17) (((V 2) q).toNatClampNeg) (((V 17) ((V 3) q).toNatClampNeg) * ((V 17) ((V 4) q).toNatClampNeg))))) rfl (fun H locs hh => ?_)
            refine lv_aload_n hx hb dX4_does_401 rfl (lv_at hl 4 rfl) ?_
            refine lv_iload hx hb dX4_does_402 (lv_at hl 0 rfl) ?_
            refine pfl hx hb hg inX4 tyX4 tyX4_ok nmX4 hown hK hh 0 (ci := 4) rfl rfl 32 (by decide) wd_583 rfl rfl rfl (Nat.le_of_ble_eq_true rfl) dX4_does_404 (wQ k ad (va_up (va_up V 17 (upd (V 17) (((V 2) q).toNatClampNeg) (((V 17) ((V 3) q).toNatClampNeg) * ((V 17) ((V 4) q).toNatClampNeg)))) 0 (upd ((va_up V 17 (upd (V 17) (((V 2) q).toNatClampNeg) (((V 17) ((V 3) q).toNatClampNeg) * ((V 17) ((V 4) q).toNatClampNeg)))) 0) 32 (((V 17) ((V 3) q).toNatClampNeg) * ((V 17) ((V 4) q).toNatClampNeg))))) rfl (fun H locs hh => ?_)
            refine lv_iconst (v := 1) hx hb dX4_does_407 (by decide) ?_
            have eT : tlS (pq V) (fun j => V 5 (4 * t + j)) (V 17) (V 18) (V 19) (V 20) q = ((V 17) ((V 3) q).toNatClampNeg) * ((V 17) ((V 4) q).toNatClampNeg) := (tl_v hF hkd (by decide) (by decide) (by decide)).trans vl_5
            exact retZ (Wd := wQ k ad) (v := 1) (va_up (va_up V 17 (upd (V 17) (((V 2) q).toNatClampNeg) (((V 17) ((V 3) q).toNatClampNeg) * ((V 17) ((V 4) q).toNatClampNeg)))) 0 (upd ((va_up V 17 (upd (V 17) (((V 2) q).toNatClampNeg) (((V 17) ((V 3) q).toNatClampNeg) * ((V 17) ((V 4) q).toNatClampNeg)))) 0) 32 (((V 17) ((V 3) q).toNatClampNeg) * ((V 17) ((V 4) q).toNatClampNeg)))) hx hb hr hlocks rfl dX4_does_408 hh (⟨by rw [hF]; rfl, by rw [re_u hF hkd (by decide), eT, up_n (by decide), up_s]; first | done | rfl, by rw [ti_n hF hkd (by decide), up_n (by decide), up_n (by decide)], by rw [gl_n hF hkd (by decide), up_n (by decide), up_n (by decide)], by rw [up_s, upd_s, eT], ((Fr.rf.up (by decide)).up (by decide)), fun j hj => by rw [up_s, upd_n hj, up_n (by decide)]⟩)
        · exact absurd (show (5 : Int32) = (10 : Int32) from c_67) (by decide)
    · exact absurd (show (5 : Int32) = (6 : Int32) from c_35) (by decide)
  · have hkd : kd (pq V) q = 6 := hkd
    have hlA : lim 8 (V 2 q) := hlA
    have hlB : lim 8 (V 3 q) := hlB
    have hlC : lim 8 (V 4 q) := hlC
    obtain ⟨a1, ha1, hae⟩ := lim_nI hlA (by decide)
    refine lv_aload_n hx hb dX4_does_27 rfl (lv_at hl 4 rfl) ?_
    refine gfl hx hb hg inX4 hown hK hh.1 0 (ci := 4) rfl rfl 1 (by decide) wd_552 rfl dX4_does_28 ?_
    refine lv_iload_n hx hb dX4_does_31 rfl (lv_at hl 5 rfl) ?_
    refine ldn hx hb hK hh.1 1 0 rfl rfl (by omega) (by decide) dX4_does_32 ?_
    refine topv (6) hk ?_
    refine lv_bipush (v := 6) hx hb dX4_does_33 (by decide) ?_
    refine lv_icmp_ne (tgt := 48) hx hb dX4_does_35 (by decide) (fun c_35 => ?_) (fun c_35 => ?_)
    · exact absurd (show ¬ (6 : Int32) = (6 : Int32) from c_35) (by decide)
    · refine lv_aload_n hx hb dX4_does_38 rfl (lv_at hl 4 rfl) ?_
      refine gfl hx hb hg inX4 hown hK hh.1 0 (ci := 4) rfl rfl 24 (by decide) wd_575 rfl dX4_does_39 ?_
      refine lv_iload hx hb dX4_does_42 (lv_at hl 1 rfl) ?_
      refine ldx hx hb hK hh.1 17 0 rfl rfl (vp_lim (n := 8) hlC (by decide) (by decide)) dX4_does_44 ?_
      refine lv_if_eq (tgt := 80) hx hb dX4_does_45 (by decide) (fun c_45 => ?_) (fun c_45 => ?_)
      · have c_45 : V 17 (ix (pq V 4 q)) = 0 := c_45
        have hF : stF (pq V) (V 17) q = true := by unfold stF fgB; rw [hkd]; simp [c_45]
        refine lv_aload_n hx hb dX4_does_80 rfl (lv_at hl 4 rfl) ?_
        refine lv_ldc (v := 1000000007) hx hb hown (hg _ wd_817) dX4_does_81 ?_
        refine pfl hx hb hg inX4 tyX4 tyX4_ok nmX4 hown hK hh 0 (ci := 4) rfl rfl 32 (by decide) wd_583 rfl rfl rfl (Nat.le_of_ble_eq_true rfl) dX4_does_83 (wQ k ad (va_up V 0 (upd (V 0) 32 1000000007))) rfl (fun H locs hh => ?_)
        refine lv_iconst (v := 0) hx hb dX4_does_86 (by decide) ?_
        exact retZ (Wd := wQ k ad) (v := 0) (va_up V 0 (upd (V 0) 32 1000000007)) hx hb hr hlocks rfl dX4_does_87 hh (⟨by rw [hF]; rfl, by rw [re_F hF, up_n (by decide)], by rw [ti_F hF, up_n (by decide)], by rw [gl_F hF, up_n (by decide)], by rw [tl_F hF, up_s, upd_s], (Fr.rf.up (by decide)), fun j hj => by rw [up_s, upd_n hj]⟩)
      · have c_45 : ¬ V 17 (ix (pq V 4 q)) = 0 := c_45
        refine lv_aload_n hx hb dX4_does_48 rfl (lv_at hl 4 rfl) ?_
        refine gfl hx hb hg inX4 hown hK hh.1 0 (ci := 4) rfl rfl 1 (by decide) wd_552 rfl dX4_does_49 ?_
        refine lv_iload_n hx hb dX4_does_52 rfl (lv_at hl 5 rfl) ?_
        refine ldn hx hb hK hh.1 1 0 rfl rfl (by omega) (by decide) dX4_does_53 ?_
        refine topv (6) hk ?_
        refine lv_bipush (v := 9) hx hb dX4_does_54 (by decide) ?_
        refine lv_icmp_eq (tgt := 70) hx hb dX4_does_56 (by decide) (fun c_56 => ?_) (fun c_56 => ?_)
        · exact absurd (show (6 : Int32) = (9 : Int32) from c_56) (by decide)
        · refine lv_aload_n hx hb dX4_does_59 rfl (lv_at hl 4 rfl) ?_
          refine gfl hx hb hg inX4 hown hK hh.1 0 (ci := 4) rfl rfl 1 (by decide) wd_552 rfl dX4_does_60 ?_
          refine lv_iload_n hx hb dX4_does_63 rfl (lv_at hl 5 rfl) ?_
          refine ldn hx hb hK hh.1 1 0 rfl rfl (by omega) (by decide) dX4_does_64 ?_
          refine topv (6) hk ?_
          refine lv_bipush (v := 10) hx hb dX4_does_65 (by decide) ?_
          refine lv_icmp_ne (tgt := 88) hx hb dX4_does_67 (by decide) (fun c_67 => ?_) (fun c_67 => ?_)
          · have hF : stF (pq V) (V 17) q = false := by unfold stF fgB; rw [hkd]; simp [c_45]
            refine lv_aload_n hx hb dX4_does_88 rfl (lv_at hl 4 rfl) ?_
            refine gfl hx hb hg inX4 hown hK hh.1 0 (ci := 4) rfl rfl 1 (by decide) wd_552 rfl dX4_does_89 ?_
            refine lv_iload_n hx hb dX4_does_92 rfl (lv_at hl 5 rfl) ?_
            refine ldn hx hb hK hh.1 1 0 rfl rfl (by omega) (by decide) dX4_does_93 ?_
            refine topv (6) hk ?_
            refine lv_tableIn (off := 143) (tgt := 237) hx hb dX4_does_94 (by decide) (by decide) (by rfl) (by decide) ?_
            refine lv_aload_n hx hb dX4_does_237 rfl (lv_at hl 4 rfl) ?_
            refine gfl hx hb hg inX4 hown hK hh.1 0 (ci := 4) rfl rfl 24 (by decide) wd_575 rfl dX4_does_238 ?_
            refine lv_iload hx hb dX4_does_241 (lv_at hl 2 rfl) ?_
            refine ldx hx hb hK hh.1 17 0 rfl rfl (vp_lim (n := 8) hlB (by decide) (by decide)) dX4_does_243 ?_
            refine lv_i2l (v := ((V 17) ((V 3) q).toNatClampNeg).toInt64) hx hb dX4_does_244 rfl ?_
            refine lv_aload_n hx hb dX4_does_245 rfl (lv_at hl 4 rfl) ?_
            refine gfl hx hb hg inX4 hown hK hh.1 0 (ci := 4) rfl rfl 24 (by decide) wd_575 rfl dX4_does_246 ?_
            refine lv_iload hx hb dX4_does_249 (lv_at hl 1 rfl) ?_
            refine ldx hx hb hK hh.1 17 0 rfl rfl (vp_lim (n := 8) hlC (by decide) (by decide)) dX4_does_251 ?_
            refine lv_i2l (v := ((V 17) ((V 4) q).toNatClampNeg).toInt64) hx hb dX4_does_252 rfl ?_
            refine lv_ldiv hx hb dX4_does_253 (l_ne c_45) ?_
            refine lv_l2i (v := V 17 (V 3 q).toNatClampNeg / V 17 (V 4 q).toNatClampNeg) hx hb dX4_does_254 div_l ?_
            refine lv_istore (lv' := [(7, .int (V 17 (V 3 q).toNatClampNeg / V 17 (V 4 q).toNatClampNeg)), (6, .int ((V 4) q)), (5, .int ((V 3) q)), (4, .int ((V 2) q)), (0, .ref (ad 0)), (1, .int (nI q)), (2, .ref (ad 5)), (3, .int (nI (4 * t)))]) hx hb dX4_does_255 hl (by decide) rfl (fun ls hl => ?_)
            refine lv_goto (tgt := 384) hx hb dX4_does_257 (by decide) ?_
            refine lv_aload_n hx hb dX4_does_384 rfl (lv_at hl 4 rfl) ?_
            refine lv_iload_n hx hb dX4_does_385 rfl (lv_at hl 5 rfl) ?_
            refine callR (runV hx hb hg hown hml hl.1 (c_X4_sets l D k ad (V) hv hq) [.int (nI q)] [] (preR (mapSome_sub hh.1 [0, 1, 2, 3, 4, 5, 6, 7, 8, 9, 10, 11, 12, 13, 14, 15, 16, 17, 18, 19, 20, 21, 22] rfl) hK hN xb0 x0) (va_recv hK hh.1 (ci := 4) (q0 := 0) rfl rfl) wd_755 wd_757 wd_37 wd_53 wd_758 lk_X4_sets ⟨rfl, rfl⟩ ⟨by decide, by decide⟩ ⟨Nat.zero_le _, Nat.zero_le _⟩ rfl (Nat.le_of_ble_eq_true rfl) dX4_does_386) (fun r_386 q_386 => ?_)
            obtain rfl := q_386
            rw [show stI (pq V) q = nI a1 by unfold stI; rw [hkd]; exact hae]
            refine lv_if_lt (tgt := 401) hx hb dX4_does_389 (by decide) (fun c_389 => ?_) (fun c_389 => ?_)
            · have c_389 : a1 < 0 := (nI_ltI (a := a1) (b := 0) (by omega) (by omega)).mp c_389
              exact absurd c_389 (by omega)
            · have c_389 : ¬ a1 < 0 := fun z => c_389 ((nI_ltI (a := a1) (b := 0) (by omega) (by omega)).mpr z)
              refine lv_aload_n hx hb dX4_does_392 rfl (lv_at hl 4 rfl) ?_
              refine gfl hx hb hg inX4 hown hK hh.1 0 (ci := 4) rfl rfl 24 (by decide) wd_575 rfl dX4_does_393 ?_
              refine lv_iload hx hb dX4_does_396 (lv_at hl 3 rfl) ?_
              refine lv_iload hx hb dX4_does_398 (lv_at hl 0 rfl) ?_
              refine stx hx hb hK hh 17 0 rfl rfl (vp_lim (n := 8) hlA (by decide) (by decide)) dX4_does_400 (wQ k ad (va_up V 17 (upd (V 17) (((V 2) q).toNatClampNeg) (V 17 (V 3 q).toNatClampNeg / V 17 (V 4 q).toNatClampNeg)))) rfl (fun H locs hh => ?_)
              refine lv_aload_n hx hb dX4_does_401 rfl (lv_at hl 4 rfl) ?_
              refine lv_iload hx hb dX4_does_402 (lv_at hl 0 rfl) ?_
              refine pfl hx hb hg inX4 tyX4 tyX4_ok nmX4 hown hK hh 0 (ci := 4) rfl rfl 32 (by decide) wd_583 rfl rfl rfl (Nat.le_of_ble_eq_true rfl) dX4_does_404 (wQ k ad (va_up (va_up V 17 (upd (V 17) (((V 2) q).toNatClampNeg) (V 17 (V 3 q).toNatClampNeg / V 17 (V 4 q).toNatClampNeg))) 0 (upd ((va_up V 17 (upd (V 17) (((V 2) q).toNatClampNeg) (V 17 (V 3 q).toNatClampNeg / V 17 (V 4 q).toNatClampNeg))) 0) 32 (V 17 (V 3 q).toNatClampNeg / V 17 (V 4 q).toNatClampNeg)))) rfl (fun H locs hh => ?_)
              refine lv_iconst (v := 1) hx hb dX4_does_407 (by decide) ?_
              have eT : tlS (pq V) (fun j => V 5 (4 * t + j)) (V 17) (V 18) (V 19) (V 20) q = V 17 (V 3 q).toNatClampNeg / V 17 (V 4 q).toNatClampNeg := ((tl_v hF hkd (by decide) (by decide) (by decide)).trans vl_6).trans (if_neg (show ¬ V 17 (ix (V 4 q)) = 0 from c_45))
              exact retZ (Wd := wQ k ad) (v := 1) (va_up (va_up V 17 (upd (V 17) (((V 2) q).toNatClampNeg) (V 17 (V 3 q).toNatClampNeg / V 17 (V 4 q).toNatClampNeg))) 0 (upd ((va_up V 17 (upd (V 17) (((V 2) q).toNatClampNeg) (V 17 (V 3 q).toNatClampNeg / V 17 (V 4 q).toNatClampNeg))) 0) 32 (V 17 (V 3 q).toNatClampNeg / V 17 (V 4 q).toNatClampNeg))) hx hb hr hlocks rfl dX4_does_408 hh (⟨by rw [hF]; rfl, by rw [re_u hF hkd (by decide), eT, up_n (by decide), up_s]; first | done | rfl, by rw [ti_n hF hkd (by decide), up_n (by decide), up_n (by decide)], by rw [gl_n hF hkd (by decide), up_n (by decide), up_n (by decide)], by rw [up_s, upd_s, eT], ((Fr.rf.up (by decide)).up (by decide)), fun j hj => by rw [up_s, upd_n hj, up_n (by decide)]⟩)
          · exact absurd (show (6 : Int32) = (10 : Int32) from c_67) (by decide)
  · have hkd : kd (pq V) q = 7 := hkd
    have hlA : lim 8 (V 2 q) := hlA
    have hlB : lim 8 (V 3 q) := hlB
    have hlC : lim 4 (V 4 q) := hlC
    have hrow9 : ∃ i, i < 4 ∧ V 20 (V 4 q).toNatClampNeg = nI i := by
      obtain ⟨d1, hd1, e1⟩ := lim_nI hlC (by decide)
      rw [e1]
      show ∃ i, i < 4 ∧ V 20 (ix (nI d1)) = nI i
      rw [ix_nI (by omega)]
      exact hrow d1 hd1
    refine lv_aload_n hx hb dX4_does_27 rfl (lv_at hl 4 rfl) ?_
    refine gfl hx hb hg inX4 hown hK hh.1 0 (ci := 4) rfl rfl 1 (by decide) wd_552 rfl dX4_does_28 ?_
    refine lv_iload_n hx hb dX4_does_31 rfl (lv_at hl 5 rfl) ?_
    refine ldn hx hb hK hh.1 1 0 rfl rfl (by omega) (by decide) dX4_does_32 ?_
    refine topv (7) hk ?_
    refine lv_bipush (v := 6) hx hb dX4_does_33 (by decide) ?_
    refine lv_icmp_ne (tgt := 48) hx hb dX4_does_35 (by decide) (fun c_35 => ?_) (fun c_35 => ?_)
    · refine lv_aload_n hx hb dX4_does_48 rfl (lv_at hl 4 rfl) ?_
      refine gfl hx hb hg inX4 hown hK hh.1 0 (ci := 4) rfl rfl 1 (by decide) wd_552 rfl dX4_does_49 ?_
      refine lv_iload_n hx hb dX4_does_52 rfl (lv_at hl 5 rfl) ?_
      refine ldn hx hb hK hh.1 1 0 rfl rfl (by omega) (by decide) dX4_does_53 ?_
      refine topv (7) hk ?_
      refine lv_bipush (v := 9) hx hb dX4_does_54 (by decide) ?_
      refine lv_icmp_eq (tgt := 70) hx hb dX4_does_56 (by decide) (fun c_56 => ?_) (fun c_56 => ?_)
      · exact absurd (show (7 : Int32) = (9 : Int32) from c_56) (by decide)
      · refine lv_aload_n hx hb dX4_does_59 rfl (lv_at hl 4 rfl) ?_
        refine gfl hx hb hg inX4 hown hK hh.1 0 (ci := 4) rfl rfl 1 (by decide) wd_552 rfl dX4_does_60 ?_
        refine lv_iload_n hx hb dX4_does_63 rfl (lv_at hl 5 rfl) ?_
        refine ldn hx hb hK hh.1 1 0 rfl rfl (by omega) (by decide) dX4_does_64 ?_
        refine topv (7) hk ?_
        refine lv_bipush (v := 10) hx hb dX4_does_65 (by decide) ?_
        refine lv_icmp_ne (tgt := 88) hx hb dX4_does_67 (by decide) (fun c_67 => ?_) (fun c_67 => ?_)
        · have hF : stF (pq V) (V 17) q = false := by unfold stF fgB; rw [hkd]; simp
          refine lv_aload_n hx hb dX4_does_88 rfl (lv_at hl 4 rfl) ?_
          refine gfl hx hb hg inX4 hown hK hh.1 0 (ci := 4) rfl rfl 1 (by decide) wd_552 rfl dX4_does_89 ?_
          refine lv_iload_n hx hb dX4_does_92 rfl (lv_at hl 5 rfl) ?_
          refine ldn hx hb hK hh.1 1 0 rfl rfl (by omega) (by decide) dX4_does_93 ?_
          refine topv (7) hk ?_
          refine lv_tableIn (off := 166) (tgt := 260) hx hb dX4_does_94 (by decide) (by decide) (by rfl) (by decide) ?_
          refine lv_aload_n hx hb dX4_does_260 rfl (lv_at hl 4 rfl) ?_
          refine gfl hx hb hg inX4 hown hK hh.1 0 (ci := 4) rfl rfl 24 (by decide) wd_575 rfl dX4_does_261 ?_
          refine lv_iload hx hb dX4_does_264 (lv_at hl 3 rfl) ?_
          refine ldx hx hb hK hh.1 17 0 rfl rfl (vp_lim (n := 8) hlA (by decide) (by decide)) dX4_does_266 ?_
          refine lv_istore (lv' := [(7, .int ((V 17) ((V 2) q).toNatClampNeg)), (6, .int ((V 4) q)), (5, .int ((V 3) q)), (4, .int ((V 2) q)), (0, .ref (ad 0)), (1, .int (nI q)), (2, .ref (ad 5)), (3, .int (nI (4 * t)))]) hx hb dX4_does_267 hl (by decide) rfl (fun ls hl => ?_)
          refine lv_aload_n hx hb dX4_does_269 rfl (lv_at hl 4 rfl) ?_
          refine gfl hx hb hg inX4 hown hK hh.1 0 (ci := 4) rfl rfl 25 (by decide) wd_576 rfl dX4_does_270 ?_
          refine lv_bipush (v := 8) hx hb dX4_does_273 (by decide) ?_
          refine lv_aload_n hx hb dX4_does_275 rfl (lv_at hl 4 rfl) ?_
          refine gfl hx hb hg inX4 hown hK hh.1 0 (ci := 4) rfl rfl 27 (by decide) wd_578 rfl dX4_does_276 ?_
          refine lv_iload hx hb dX4_does_279 (lv_at hl 1 rfl) ?_
          refine ldx hx hb hK hh.1 20 0 rfl rfl (vp_lim (n := 4) hlC (by decide) (by decide)) dX4_does_281 ?_
          refine lv_imul hx hb dX4_does_282 ?_
          refine lv_aload_n hx hb dX4_does_283 rfl (lv_at hl 4 rfl) ?_
          refine gfl hx hb hg inX4 hown hK hh.1 0 (ci := 4) rfl rfl 24 (by decide) wd_575 rfl dX4_does_284 ?_
          refine lv_iload hx hb dX4_does_287 (lv_at hl 2 rfl) ?_
          refine ldx hx hb hK hh.1 17 0 rfl rfl (vp_lim (n := 8) hlB (by decide) (by decide)) dX4_does_289 ?_
          refine lv_bipush (v := 7) hx hb dX4_does_290 (by decide) ?_
          refine lv_iand hx hb dX4_does_292 ?_
          refine lv_iadd hx hb dX4_does_293 ?_
          refine topv (itI (V 20 (V 4 q).toNatClampNeg) (V 17 (V 3 q).toNatClampNeg)) (by unfold itI; rw [Int32.mul_comm]) ?_
          refine lv_iload hx hb dX4_does_294 (lv_at hl 0 rfl) ?_
          refine stx hx hb hK hh 18 0 rfl rfl (itI_in hrow9) dX4_does_296 (wQ k ad (va_up V 18 (upd (V 18) ((itI (V 20 (V 4 q).toNatClampNeg) (V 17 (V 3 q).toNatClampNeg)).toNatClampNeg) ((V 17) ((V 2) q).toNatClampNeg)))) rfl (fun H locs hh => ?_)
          refine lv_goto (tgt := 384) hx hb dX4_does_297 (by decide) ?_
          refine lv_aload_n hx hb dX4_does_384 rfl (lv_at hl 4 rfl) ?_
          refine lv_iload_n hx hb dX4_does_385 rfl (lv_at hl 5 rfl) ?_
          refine callR (runV hx hb hg hown hml hl.1 (c_X4_sets l D k ad (va_up V 18 (upd (V 18) ((itI (V 20 (V 4 q).toNatClampNeg) (V 17 (V 3 q).toNatClampNeg)).toNatClampNeg) ((V 17) ((V 2) q).toNatClampNeg))) (show okV n (pq (va_up V 18 (upd (V 18) ((itI (V 20 (V 4 q).toNatClampNeg) (V 17 (V 3 q).toNatClampNeg)).toNatClampNeg) ((V 17) ((V 2) q).toNatClampNeg)))) from hv) hq) [.int (nI q)] [] (preR (mapSome_sub hh.1 [0, 1, 2, 3, 4, 5, 6, 7, 8, 9, 10, 11, 12, 13, 14, 15, 16, 17, 18, 19, 20, 21, 22] rfl) hK hN xb0 x0) (va_recv hK hh.1 (ci := 4) (q0 := 0) rfl rfl) wd_755 wd_757 wd_37 wd_53 wd_758 lk_X4_sets ⟨rfl, rfl⟩ ⟨by decide, by decide⟩ ⟨Nat.zero_le _, Nat.zero_le _⟩ rfl (Nat.le_of_ble_eq_true rfl) dX4_does_386) (fun r_386 q_386 => ?_)
          obtain rfl := q_386
          rw [show stI (pq (va_up V 18 (upd (V 18) ((itI (V 20 (V 4 q).toNatClampNeg) (V 17 (V 3 q).toNatClampNeg)).toNatClampNeg) ((V 17) ((V 2) q).toNatClampNeg)))) q = -4 by show stI (pq V) q = -4; unfold stI; rw [hkd]; rfl]
          refine lv_if_lt (tgt := 401) hx hb dX4_does_389 (by decide) (fun c_389 => ?_) (fun c_389 => ?_)
          · refine lv_aload_n hx hb dX4_does_401 rfl (lv_at hl 4 rfl) ?_
            refine lv_iload hx hb dX4_does_402 (lv_at hl 0 rfl) ?_
            refine pfl hx hb hg inX4 tyX4 tyX4_ok nmX4 hown hK hh 0 (ci := 4) rfl rfl 32 (by decide) wd_583 rfl rfl rfl (Nat.le_of_ble_eq_true rfl) dX4_does_404 (wQ k ad (va_up (va_up V 18 (upd (V 18) ((itI (V 20 (V 4 q).toNatClampNeg) (V 17 (V 3 q).toNatClampNeg)).toNatClampNeg) ((V 17) ((V 2) q).toNatClampNeg))) 0 (upd ((va_up V 18 (upd (V 18) ((itI (V 20 (V 4 q).toNatClampNeg) (V 17 (V 3 q).toNatClampNeg)).toNatClampNeg) ((V 17) ((V 2) q).toNatClampNeg))) 0) 32 ((V 17) ((V 2) q).toNatClampNeg)))) rfl (fun H locs hh => ?_)
            refine lv_iconst (v := 1) hx hb dX4_does_407 (by decide) ?_
            have eT : tlS (pq V) (fun j => V 5 (4 * t + j)) (V 17) (V 18) (V 19) (V 20) q = (V 17) ((V 2) q).toNatClampNeg := tl_r hF hkd (by decide)
            exact retZ (Wd := wQ k ad) (v := 1) (va_up (va_up V 18 (upd (V 18) ((itI (V 20 (V 4 q).toNatClampNeg) (V 17 (V 3 q).toNatClampNeg)).toNatClampNeg) ((V 17) ((V 2) q).toNatClampNeg))) 0 (upd ((va_up V 18 (upd (V 18) ((itI (V 20 (V 4 q).toNatClampNeg) (V 17 (V 3 q).toNatClampNeg)).toNatClampNeg) ((V 17) ((V 2) q).toNatClampNeg))) 0) 32 ((V 17) ((V 2) q).toNatClampNeg))) hx hb hr hlocks rfl dX4_does_408 hh (⟨by rw [hF]; rfl, by rw [re_n hF hkd (by decide), up_n (by decide), up_n (by decide)], by rw [ti_u hF hkd, eT, up_n (by decide), up_s]; first | done | rfl, by rw [gl_n hF hkd (by decide), up_n (by decide), up_n (by decide)], by rw [up_s, upd_s, eT], ((Fr.rf.up (by decide)).up (by decide)), fun j hj => by rw [up_s, upd_n hj, up_n (by decide)]⟩)
          · exact absurd (show ¬ ((-4 : Int32) < (0 : Int32)) from c_389) (by decide)
        · exact absurd (show (7 : Int32) = (10 : Int32) from c_67) (by decide)
    · exact absurd (show (7 : Int32) = (6 : Int32) from c_35) (by decide)
  · have hkd : kd (pq V) q = 8 := hkd
    have hlA : lim 8 (V 2 q) := hlA
    have hlB : lim 8 (V 3 q) := hlB
    have hlC : lim 4 (V 4 q) := hlC
    have hrow9 : ∃ i, i < 4 ∧ V 20 (V 4 q).toNatClampNeg = nI i := by
      obtain ⟨d1, hd1, e1⟩ := lim_nI hlC (by decide)
      rw [e1]
      show ∃ i, i < 4 ∧ V 20 (ix (nI d1)) = nI i
      rw [ix_nI (by omega)]
      exact hrow d1 hd1
    obtain ⟨a1, ha1, hae⟩ := lim_nI hlA (by decide)
    refine lv_aload_n hx hb dX4_does_27 rfl (lv_at hl 4 rfl) ?_
    refine gfl hx hb hg inX4 hown hK hh.1 0 (ci := 4) rfl rfl 1 (by decide) wd_552 rfl dX4_does_28 ?_
    refine lv_iload_n hx hb dX4_does_31 rfl (lv_at hl 5 rfl) ?_
    refine ldn hx hb hK hh.1 1 0 rfl rfl (by omega) (by decide) dX4_does_32 ?_
    refine topv (8) hk ?_
    refine lv_bipush (v := 6) hx hb dX4_does_33 (by decide) ?_
    refine lv_icmp_ne (tgt := 48) hx hb dX4_does_35 (by decide) (fun c_35 => ?_) (fun c_35 => ?_)
    · refine lv_aload_n hx hb dX4_does_48 rfl (lv_at hl 4 rfl) ?_
      refine gfl hx hb hg inX4 hown hK hh.1 0 (ci := 4) rfl rfl 1 (by decide) wd_552 rfl dX4_does_49 ?_
      refine lv_iload_n hx hb dX4_does_52 rfl (lv_at hl 5 rfl) ?_
      refine ldn hx hb hK hh.1 1 0 rfl rfl (by omega) (by decide) dX4_does_53 ?_
      refine topv (8) hk ?_
      refine lv_bipush (v := 9) hx hb dX4_does_54 (by decide) ?_
      refine lv_icmp_eq (tgt := 70) hx hb dX4_does_56 (by decide) (fun c_56 => ?_) (fun c_56 => ?_)
      · exact absurd (show (8 : Int32) = (9 : Int32) from c_56) (by decide)
      · refine lv_aload_n hx hb dX4_does_59 rfl (lv_at hl 4 rfl) ?_
        refine gfl hx hb hg inX4 hown hK hh.1 0 (ci := 4) rfl rfl 1 (by decide) wd_552 rfl dX4_does_60 ?_
        refine lv_iload_n hx hb dX4_does_63 rfl (lv_at hl 5 rfl) ?_
        refine ldn hx hb hK hh.1 1 0 rfl rfl (by omega) (by decide) dX4_does_64 ?_
        refine topv (8) hk ?_
        refine lv_bipush (v := 10) hx hb dX4_does_65 (by decide) ?_
        refine lv_icmp_ne (tgt := 88) hx hb dX4_does_67 (by decide) (fun c_67 => ?_) (fun c_67 => ?_)
        · have hF : stF (pq V) (V 17) q = false := by unfold stF fgB; rw [hkd]; simp
          refine lv_aload_n hx hb dX4_does_88 rfl (lv_at hl 4 rfl) ?_
          refine gfl hx hb hg inX4 hown hK hh.1 0 (ci := 4) rfl rfl 1 (by decide) wd_552 rfl dX4_does_89 ?_
          refine lv_iload_n hx hb dX4_does_92 rfl (lv_at hl 5 rfl) ?_
          refine ldn hx hb hK hh.1 1 0 rfl rfl (by omega) (by decide) dX4_does_93 ?_
          refine topv (8) hk ?_
          refine lv_tableIn (off := 206) (tgt := 300) hx hb dX4_does_94 (by decide) (by decide) (by rfl) (by decide) ?_
          refine lv_aload_n hx hb dX4_does_300 rfl (lv_at hl 4 rfl) ?_
          refine gfl hx hb hg inX4 hown hK hh.1 0 (ci := 4) rfl rfl 25 (by decide) wd_576 rfl dX4_does_301 ?_
          refine lv_bipush (v := 8) hx hb dX4_does_304 (by decide) ?_
          refine lv_aload_n hx hb dX4_does_306 rfl (lv_at hl 4 rfl) ?_
          refine gfl hx hb hg inX4 hown hK hh.1 0 (ci := 4) rfl rfl 27 (by decide) wd_578 rfl dX4_does_307 ?_
          refine lv_iload hx hb dX4_does_310 (lv_at hl 1 rfl) ?_
          refine ldx hx hb hK hh.1 20 0 rfl rfl (vp_lim (n := 4) hlC (by decide) (by decide)) dX4_does_312 ?_
          refine lv_imul hx hb dX4_does_313 ?_
          refine lv_aload_n hx hb dX4_does_314 rfl (lv_at hl 4 rfl) ?_
          refine gfl hx hb hg inX4 hown hK hh.1 0 (ci := 4) rfl rfl 24 (by decide) wd_575 rfl dX4_does_315 ?_
          refine lv_iload hx hb dX4_does_318 (lv_at hl 2 rfl) ?_
          refine ldx hx hb hK hh.1 17 0 rfl rfl (vp_lim (n := 8) hlB (by decide) (by decide)) dX4_does_320 ?_
          refine lv_bipush (v := 7) hx hb dX4_does_321 (by decide) ?_
          refine lv_iand hx hb dX4_does_323 ?_
          refine lv_iadd hx hb dX4_does_324 ?_
          refine topv (itI (V 20 (V 4 q).toNatClampNeg) (V 17 (V 3 q).toNatClampNeg)) (by unfold itI; rw [Int32.mul_comm]) ?_
          refine ldx hx hb hK hh.1 18 0 rfl rfl (itI_in hrow9) dX4_does_325 ?_
          refine lv_istore (lv' := [(7, .int ((V 18) (itI (V 20 (V 4 q).toNatClampNeg) (V 17 (V 3 q).toNatClampNeg)).toNatClampNeg)), (6, .int ((V 4) q)), (5, .int ((V 3) q)), (4, .int ((V 2) q)), (0, .ref (ad 0)), (1, .int (nI q)), (2, .ref (ad 5)), (3, .int (nI (4 * t)))]) hx hb dX4_does_326 hl (by decide) rfl (fun ls hl => ?_)
          refine lv_goto (tgt := 384) hx hb dX4_does_328 (by decide) ?_
          refine lv_aload_n hx hb dX4_does_384 rfl (lv_at hl 4 rfl) ?_
          refine lv_iload_n hx hb dX4_does_385 rfl (lv_at hl 5 rfl) ?_
          refine callR (runV hx hb hg hown hml hl.1 (c_X4_sets l D k ad (V) hv hq) [.int (nI q)] [] (preR (mapSome_sub hh.1 [0, 1, 2, 3, 4, 5, 6, 7, 8, 9, 10, 11, 12, 13, 14, 15, 16, 17, 18, 19, 20, 21, 22] rfl) hK hN xb0 x0) (va_recv hK hh.1 (ci := 4) (q0 := 0) rfl rfl) wd_755 wd_757 wd_37 wd_53 wd_758 lk_X4_sets ⟨rfl, rfl⟩ ⟨by decide, by decide⟩ ⟨Nat.zero_le _, Nat.zero_le _⟩ rfl (Nat.le_of_ble_eq_true rfl) dX4_does_386) (fun r_386 q_386 => ?_)
          obtain rfl := q_386
          rw [show stI (pq V) q = nI a1 by unfold stI; rw [hkd]; exact hae]
          refine lv_if_lt (tgt := 401) hx hb dX4_does_389 (by decide) (fun c_389 => ?_) (fun c_389 => ?_)
          · have c_389 : a1 < 0 := (nI_ltI (a := a1) (b := 0) (by omega) (by omega)).mp c_389
            exact absurd c_389 (by omega)
          · have c_389 : ¬ a1 < 0 := fun z => c_389 ((nI_ltI (a := a1) (b := 0) (by omega) (by omega)).mpr z)
            refine lv_aload_n hx hb dX4_does_392 rfl (lv_at hl 4 rfl) ?_
            refine gfl hx hb hg inX4 hown hK hh.1 0 (ci := 4) rfl rfl 24 (by decide) wd_575 rfl dX4_does_393 ?_
            refine lv_iload hx hb dX4_does_396 (lv_at hl 3 rfl) ?_
            refine lv_iload hx hb dX4_does_398 (lv_at hl 0 rfl) ?_
            refine stx hx hb hK hh 17 0 rfl rfl (vp_lim (n := 8) hlA (by decide) (by decide)) dX4_does_400 (wQ k ad (va_up V 17 (upd (V 17) (((V 2) q).toNatClampNeg) ((V 18) (itI (V 20 (V 4 q).toNatClampNeg) (V 17 (V 3 q).toNatClampNeg)).toNatClampNeg)))) rfl (fun H locs hh => ?_)
            refine lv_aload_n hx hb dX4_does_401 rfl (lv_at hl 4 rfl) ?_
            refine lv_iload hx hb dX4_does_402 (lv_at hl 0 rfl) ?_
            refine pfl hx hb hg inX4 tyX4 tyX4_ok nmX4 hown hK hh 0 (ci := 4) rfl rfl 32 (by decide) wd_583 rfl rfl rfl (Nat.le_of_ble_eq_true rfl) dX4_does_404 (wQ k ad (va_up (va_up V 17 (upd (V 17) (((V 2) q).toNatClampNeg) ((V 18) (itI (V 20 (V 4 q).toNatClampNeg) (V 17 (V 3 q).toNatClampNeg)).toNatClampNeg))) 0 (upd ((va_up V 17 (upd (V 17) (((V 2) q).toNatClampNeg) ((V 18) (itI (V 20 (V 4 q).toNatClampNeg) (V 17 (V 3 q).toNatClampNeg)).toNatClampNeg))) 0) 32 ((V 18) (itI (V 20 (V 4 q).toNatClampNeg) (V 17 (V 3 q).toNatClampNeg)).toNatClampNeg)))) rfl (fun H locs hh => ?_)
            refine lv_iconst (v := 1) hx hb dX4_does_407 (by decide) ?_
            have eT : tlS (pq V) (fun j => V 5 (4 * t + j)) (V 17) (V 18) (V 19) (V 20) q = (V 18) (itI (V 20 (V 4 q).toNatClampNeg) (V 17 (V 3 q).toNatClampNeg)).toNatClampNeg := (tl_v hF hkd (by decide) (by decide) (by decide)).trans vl_8
            exact retZ (Wd := wQ k ad) (v := 1) (va_up (va_up V 17 (upd (V 17) (((V 2) q).toNatClampNeg) ((V 18) (itI (V 20 (V 4 q).toNatClampNeg) (V 17 (V 3 q).toNatClampNeg)).toNatClampNeg))) 0 (upd ((va_up V 17 (upd (V 17) (((V 2) q).toNatClampNeg) ((V 18) (itI (V 20 (V 4 q).toNatClampNeg) (V 17 (V 3 q).toNatClampNeg)).toNatClampNeg))) 0) 32 ((V 18) (itI (V 20 (V 4 q).toNatClampNeg) (V 17 (V 3 q).toNatClampNeg)).toNatClampNeg))) hx hb hr hlocks rfl dX4_does_408 hh (⟨by rw [hF]; rfl, by rw [re_u hF hkd (by decide), eT, up_n (by decide), up_s]; first | done | rfl, by rw [ti_n hF hkd (by decide), up_n (by decide), up_n (by decide)], by rw [gl_n hF hkd (by decide), up_n (by decide), up_n (by decide)], by rw [up_s, upd_s, eT], ((Fr.rf.up (by decide)).up (by decide)), fun j hj => by rw [up_s, upd_n hj, up_n (by decide)]⟩)
        · exact absurd (show (8 : Int32) = (10 : Int32) from c_67) (by decide)
    · exact absurd (show (8 : Int32) = (6 : Int32) from c_35) (by decide)
  · have hkd : kd (pq V) q = 9 := hkd
    have hlA : lim 8 (V 2 q) := hlA
    have hlB : lim 4 (V 3 q) := hlB
    obtain ⟨a1, ha1, hae⟩ := lim_nI hlA (by decide)
    refine lv_aload_n hx hb dX4_does_27 rfl (lv_at hl 4 rfl) ?_
    refine gfl hx hb hg inX4 hown hK hh.1 0 (ci := 4) rfl rfl 1 (by decide) wd_552 rfl dX4_does_28 ?_
    refine lv_iload_n hx hb dX4_does_31 rfl (lv_at hl 5 rfl) ?_
    refine ldn hx hb hK hh.1 1 0 rfl rfl (by omega) (by decide) dX4_does_32 ?_
    refine topv (9) hk ?_
    refine lv_bipush (v := 6) hx hb dX4_does_33 (by decide) ?_
    refine lv_icmp_ne (tgt := 48) hx hb dX4_does_35 (by decide) (fun c_35 => ?_) (fun c_35 => ?_)
    · refine lv_aload_n hx hb dX4_does_48 rfl (lv_at hl 4 rfl) ?_
      refine gfl hx hb hg inX4 hown hK hh.1 0 (ci := 4) rfl rfl 1 (by decide) wd_552 rfl dX4_does_49 ?_
      refine lv_iload_n hx hb dX4_does_52 rfl (lv_at hl 5 rfl) ?_
      refine ldn hx hb hK hh.1 1 0 rfl rfl (by omega) (by decide) dX4_does_53 ?_
      refine topv (9) hk ?_
      refine lv_bipush (v := 9) hx hb dX4_does_54 (by decide) ?_
      refine lv_icmp_eq (tgt := 70) hx hb dX4_does_56 (by decide) (fun c_56 => ?_) (fun c_56 => ?_)
      · refine lv_aload_n hx hb dX4_does_70 rfl (lv_at hl 4 rfl) ?_
        refine gfl hx hb hg inX4 hown hK hh.1 0 (ci := 4) rfl rfl 7 (by decide) wd_558 rfl dX4_does_71 ?_
        refine lv_iload hx hb dX4_does_74 (lv_at hl 2 rfl) ?_
        refine ldzx hx hb hK hh.1 7 1 rfl rfl (vp_lim (n := 4) hlB (by decide) (by decide)) dX4_does_76 ?_
        refine lv_if_eq (tgt := 88) hx hb dX4_does_77 (by decide) (fun c_77 => ?_) (fun c_77 => ?_)
        · have c_77 : pq V 6 (ix (pq V 3 q)) = 0 := c_77
          have hF : stF (pq V) (V 17) q = false := by unfold stF fgB; rw [hkd]; simp [c_77]
          refine lv_aload_n hx hb dX4_does_88 rfl (lv_at hl 4 rfl) ?_
          refine gfl hx hb hg inX4 hown hK hh.1 0 (ci := 4) rfl rfl 1 (by decide) wd_552 rfl dX4_does_89 ?_
          refine lv_iload_n hx hb dX4_does_92 rfl (lv_at hl 5 rfl) ?_
          refine ldn hx hb hK hh.1 1 0 rfl rfl (by omega) (by decide) dX4_does_93 ?_
          refine topv (9) hk ?_
          refine lv_tableIn (off := 237) (tgt := 331) hx hb dX4_does_94 (by decide) (by decide) (by rfl) (by decide) ?_
          refine lv_aload_n hx hb dX4_does_331 rfl (lv_at hl 4 rfl) ?_
          refine gfl hx hb hg inX4 hown hK hh.1 0 (ci := 4) rfl rfl 26 (by decide) wd_577 rfl dX4_does_332 ?_
          refine lv_iload hx hb dX4_does_335 (lv_at hl 2 rfl) ?_
          refine ldx hx hb hK hh.1 19 0 rfl rfl (vp_lim (n := 4) hlB (by decide) (by decide)) dX4_does_337 ?_
          refine lv_istore (lv' := [(7, .int ((V 19) ((V 3) q).toNatClampNeg)), (6, .int ((V 4) q)), (5, .int ((V 3) q)), (4, .int ((V 2) q)), (0, .ref (ad 0)), (1, .int (nI q)), (2, .ref (ad 5)), (3, .int (nI (4 * t)))]) hx hb dX4_does_338 hl (by decide) rfl (fun ls hl => ?_)
          refine lv_goto (tgt := 384) hx hb dX4_does_340 (by decide) ?_
          refine lv_aload_n hx hb dX4_does_384 rfl (lv_at hl 4 rfl) ?_
          refine lv_iload_n hx hb dX4_does_385 rfl (lv_at hl 5 rfl) ?_
          refine callR (runV hx hb hg hown hml hl.1 (c_X4_sets l D k ad (V) hv hq) [.int (nI q)] [] (preR (mapSome_sub hh.1 [0, 1, 2, 3, 4, 5, 6, 7, 8, 9, 10, 11, 12, 13, 14, 15, 16, 17, 18, 19, 20, 21, 22] rfl) hK hN xb0 x0) (va_recv hK hh.1 (ci := 4) (q0 := 0) rfl rfl) wd_755 wd_757 wd_37 wd_53 wd_758 lk_X4_sets ⟨rfl, rfl⟩ ⟨by decide, by decide⟩ ⟨Nat.zero_le _, Nat.zero_le _⟩ rfl (Nat.le_of_ble_eq_true rfl) dX4_does_386) (fun r_386 q_386 => ?_)
          obtain rfl := q_386
          rw [show stI (pq V) q = nI a1 by unfold stI; rw [hkd]; exact hae]
          refine lv_if_lt (tgt := 401) hx hb dX4_does_389 (by decide) (fun c_389 => ?_) (fun c_389 => ?_)
          · have c_389 : a1 < 0 := (nI_ltI (a := a1) (b := 0) (by omega) (by omega)).mp c_389
            exact absurd c_389 (by omega)
          · have c_389 : ¬ a1 < 0 := fun z => c_389 ((nI_ltI (a := a1) (b := 0) (by omega) (by omega)).mpr z)
            refine lv_aload_n hx hb dX4_does_392 rfl (lv_at hl 4 rfl) ?_
            refine gfl hx hb hg inX4 hown hK hh.1 0 (ci := 4) rfl rfl 24 (by decide) wd_575 rfl dX4_does_393 ?_
            refine lv_iload hx hb dX4_does_396 (lv_at hl 3 rfl) ?_
            refine lv_iload hx hb dX4_does_398 (lv_at hl 0 rfl) ?_
            refine stx hx hb hK hh 17 0 rfl rfl (vp_lim (n := 8) hlA (by decide) (by decide)) dX4_does_400 (wQ k ad (va_up V 17 (upd (V 17) (((V 2) q).toNatClampNeg) ((V 19) ((V 3) q).toNatClampNeg)))) rfl (fun H locs hh => ?_)
            refine lv_aload_n hx hb dX4_does_401 rfl (lv_at hl 4 rfl) ?_
            refine lv_iload hx hb dX4_does_402 (lv_at hl 0 rfl) ?_
            refine pfl hx hb hg inX4 tyX4 tyX4_ok nmX4 hown hK hh 0 (ci := 4) rfl rfl 32 (by decide) wd_583 rfl rfl rfl (Nat.le_of_ble_eq_true rfl) dX4_does_404 (wQ k ad (va_up (va_up V 17 (upd (V 17) (((V 2) q).toNatClampNeg) ((V 19) ((V 3) q).toNatClampNeg))) 0 (upd ((va_up V 17 (upd (V 17) (((V 2) q).toNatClampNeg) ((V 19) ((V 3) q).toNatClampNeg))) 0) 32 ((V 19) ((V 3) q).toNatClampNeg)))) rfl (fun H locs hh => ?_)
            refine lv_iconst (v := 1) hx hb dX4_does_407 (by decide) ?_
            have eT : tlS (pq V) (fun j => V 5 (4 * t + j)) (V 17) (V 18) (V 19) (V 20) q = (V 19) ((V 3) q).toNatClampNeg := (tl_v hF hkd (by decide) (by decide) (by decide)).trans vl_9
            exact retZ (Wd := wQ k ad) (v := 1) (va_up (va_up V 17 (upd (V 17) (((V 2) q).toNatClampNeg) ((V 19) ((V 3) q).toNatClampNeg))) 0 (upd ((va_up V 17 (upd (V 17) (((V 2) q).toNatClampNeg) ((V 19) ((V 3) q).toNatClampNeg))) 0) 32 ((V 19) ((V 3) q).toNatClampNeg))) hx hb hr hlocks rfl dX4_does_408 hh (⟨by rw [hF]; rfl, by rw [re_u hF hkd (by decide), eT, up_n (by decide), up_s]; first | done | rfl, by rw [ti_n hF hkd (by decide), up_n (by decide), up_n (by decide)], by rw [gl_n hF hkd (by decide), up_n (by decide), up_n (by decide)], by rw [up_s, upd_s, eT], ((Fr.rf.up (by decide)).up (by decide)), fun j hj => by rw [up_s, upd_n hj, up_n (by decide)]⟩)
        · have c_77 : ¬ pq V 6 (ix (pq V 3 q)) = 0 := c_77
          have hF : stF (pq V) (V 17) q = true := by unfold stF fgB; rw [hkd]; simp [c_77]
          refine lv_aload_n hx hb dX4_does_80 rfl (lv_at hl 4 rfl) ?_
          refine lv_ldc (v := 1000000007) hx hb hown (hg _ wd_817) dX4_does_81 ?_
          refine pfl hx hb hg inX4 tyX4 tyX4_ok nmX4 hown hK hh 0 (ci := 4) rfl rfl 32 (by decide) wd_583 rfl rfl rfl (Nat.le_of_ble_eq_true rfl) dX4_does_83 (wQ k ad (va_up V 0 (upd (V 0) 32 1000000007))) rfl (fun H locs hh => ?_)
          refine lv_iconst (v := 0) hx hb dX4_does_86 (by decide) ?_
          exact retZ (Wd := wQ k ad) (v := 0) (va_up V 0 (upd (V 0) 32 1000000007)) hx hb hr hlocks rfl dX4_does_87 hh (⟨by rw [hF]; rfl, by rw [re_F hF, up_n (by decide)], by rw [ti_F hF, up_n (by decide)], by rw [gl_F hF, up_n (by decide)], by rw [tl_F hF, up_s, upd_s], (Fr.rf.up (by decide)), fun j hj => by rw [up_s, upd_n hj]⟩)
      · exact absurd (show ¬ (9 : Int32) = (9 : Int32) from c_56) (by decide)
    · exact absurd (show (9 : Int32) = (6 : Int32) from c_35) (by decide)
  · have hkd : kd (pq V) q = 10 := hkd
    have hlA : lim 8 (V 2 q) := hlA
    have hlB : lim 4 (V 3 q) := hlB
    refine lv_aload_n hx hb dX4_does_27 rfl (lv_at hl 4 rfl) ?_
    refine gfl hx hb hg inX4 hown hK hh.1 0 (ci := 4) rfl rfl 1 (by decide) wd_552 rfl dX4_does_28 ?_
    refine lv_iload_n hx hb dX4_does_31 rfl (lv_at hl 5 rfl) ?_
    refine ldn hx hb hK hh.1 1 0 rfl rfl (by omega) (by decide) dX4_does_32 ?_
    refine topv (10) hk ?_
    refine lv_bipush (v := 6) hx hb dX4_does_33 (by decide) ?_
    refine lv_icmp_ne (tgt := 48) hx hb dX4_does_35 (by decide) (fun c_35 => ?_) (fun c_35 => ?_)
    · refine lv_aload_n hx hb dX4_does_48 rfl (lv_at hl 4 rfl) ?_
      refine gfl hx hb hg inX4 hown hK hh.1 0 (ci := 4) rfl rfl 1 (by decide) wd_552 rfl dX4_does_49 ?_
      refine lv_iload_n hx hb dX4_does_52 rfl (lv_at hl 5 rfl) ?_
      refine ldn hx hb hK hh.1 1 0 rfl rfl (by omega) (by decide) dX4_does_53 ?_
      refine topv (10) hk ?_
      refine lv_bipush (v := 9) hx hb dX4_does_54 (by decide) ?_
      refine lv_icmp_eq (tgt := 70) hx hb dX4_does_56 (by decide) (fun c_56 => ?_) (fun c_56 => ?_)
      · exact absurd (show (10 : Int32) = (9 : Int32) from c_56) (by decide)
      · refine lv_aload_n hx hb dX4_does_59 rfl (lv_at hl 4 rfl) ?_
        refine gfl hx hb hg inX4 hown hK hh.1 0 (ci := 4) rfl rfl 1 (by decide) wd_552 rfl dX4_does_60 ?_
        refine lv_iload_n hx hb dX4_does_63 rfl (lv_at hl 5 rfl) ?_
        refine ldn hx hb hK hh.1 1 0 rfl rfl (by omega) (by decide) dX4_does_64 ?_
        refine topv (10) hk ?_
        refine lv_bipush (v := 10) hx hb dX4_does_65 (by decide) ?_
        refine lv_icmp_ne (tgt := 88) hx hb dX4_does_67 (by decide) (fun c_67 => ?_) (fun c_67 => ?_)
        · exact absurd (show ¬ (10 : Int32) = (10 : Int32) from c_67) (by decide)
        · refine lv_aload_n hx hb dX4_does_70 rfl (lv_at hl 4 rfl) ?_
          refine gfl hx hb hg inX4 hown hK hh.1 0 (ci := 4) rfl rfl 7 (by decide) wd_558 rfl dX4_does_71 ?_
          refine lv_iload hx hb dX4_does_74 (lv_at hl 2 rfl) ?_
          refine ldzx hx hb hK hh.1 7 1 rfl rfl (vp_lim (n := 4) hlB (by decide) (by decide)) dX4_does_76 ?_
          refine lv_if_eq (tgt := 88) hx hb dX4_does_77 (by decide) (fun c_77 => ?_) (fun c_77 => ?_)
          · have c_77 : pq V 6 (ix (pq V 3 q)) = 0 := c_77
            have hF : stF (pq V) (V 17) q = false := by unfold stF fgB; rw [hkd]; simp [c_77]
            refine lv_aload_n hx hb dX4_does_88 rfl (lv_at hl 4 rfl) ?_
            refine gfl hx hb hg inX4 hown hK hh.1 0 (ci := 4) rfl rfl 1 (by decide) wd_552 rfl dX4_does_89 ?_
            refine lv_iload_n hx hb dX4_does_92 rfl (lv_at hl 5 rfl) ?_
            refine ldn hx hb hK hh.1 1 0 rfl rfl (by omega) (by decide) dX4_does_93 ?_
            refine topv (10) hk ?_
            refine lv_tableIn (off := 249) (tgt := 343) hx hb dX4_does_94 (by decide) (by decide) (by rfl) (by decide) ?_
            refine lv_aload_n hx hb dX4_does_343 rfl (lv_at hl 4 rfl) ?_
            refine gfl hx hb hg inX4 hown hK hh.1 0 (ci := 4) rfl rfl 24 (by decide) wd_575 rfl dX4_does_344 ?_
            refine lv_iload hx hb dX4_does_347 (lv_at hl 3 rfl) ?_
            refine ldx hx hb hK hh.1 17 0 rfl rfl (vp_lim (n := 8) hlA (by decide) (by decide)) dX4_does_349 ?_
            refine lv_istore (lv' := [(7, .int ((V 17) ((V 2) q).toNatClampNeg)), (6, .int ((V 4) q)), (5, .int ((V 3) q)), (4, .int ((V 2) q)), (0, .ref (ad 0)), (1, .int (nI q)), (2, .ref (ad 5)), (3, .int (nI (4 * t)))]) hx hb dX4_does_350 hl (by decide) rfl (fun ls hl => ?_)
            refine lv_aload_n hx hb dX4_does_352 rfl (lv_at hl 4 rfl) ?_
            refine gfl hx hb hg inX4 hown hK hh.1 0 (ci := 4) rfl rfl 26 (by decide) wd_577 rfl dX4_does_353 ?_
            refine lv_iload hx hb dX4_does_356 (lv_at hl 2 rfl) ?_
            refine lv_iload hx hb dX4_does_358 (lv_at hl 0 rfl) ?_
            refine stx hx hb hK hh 19 0 rfl rfl (vp_lim (n := 4) hlB (by decide) (by decide)) dX4_does_360 (wQ k ad (va_up V 19 (upd (V 19) (((V 3) q).toNatClampNeg) ((V 17) ((V 2) q).toNatClampNeg)))) rfl (fun H locs hh => ?_)
            refine lv_goto (tgt := 384) hx hb dX4_does_361 (by decide) ?_
            refine lv_aload_n hx hb dX4_does_384 rfl (lv_at hl 4 rfl) ?_
            refine lv_iload_n hx hb dX4_does_385 rfl (lv_at hl 5 rfl) ?_
            refine callR (runV hx hb hg hown hml hl.1 (c_X4_sets l D k ad (va_up V 19 (upd (V 19) (((V 3) q).toNatClampNeg) ((V 17) ((V 2) q).toNatClampNeg))) (show okV n (pq (va_up V 19 (upd (V 19) (((V 3) q).toNatClampNeg) ((V 17) ((V 2) q).toNatClampNeg)))) from hv) hq) [.int (nI q)] [] (preR (mapSome_sub hh.1 [0, 1, 2, 3, 4, 5, 6, 7, 8, 9, 10, 11, 12, 13, 14, 15, 16, 17, 18, 19, 20, 21, 22] rfl) hK hN xb0 x0) (va_recv hK hh.1 (ci := 4) (q0 := 0) rfl rfl) wd_755 wd_757 wd_37 wd_53 wd_758 lk_X4_sets ⟨rfl, rfl⟩ ⟨by decide, by decide⟩ ⟨Nat.zero_le _, Nat.zero_le _⟩ rfl (Nat.le_of_ble_eq_true rfl) dX4_does_386) (fun r_386 q_386 => ?_)
            obtain rfl := q_386
            rw [show stI (pq (va_up V 19 (upd (V 19) (((V 3) q).toNatClampNeg) ((V 17) ((V 2) q).toNatClampNeg)))) q = -4 by show stI (pq V) q = -4; unfold stI; rw [hkd]; rfl]
            refine lv_if_lt (tgt := 401) hx hb dX4_does_389 (by decide) (fun c_389 => ?_) (fun c_389 => ?_)
            · refine lv_aload_n hx hb dX4_does_401 rfl (lv_at hl 4 rfl) ?_
              refine lv_iload hx hb dX4_does_402 (lv_at hl 0 rfl) ?_
              refine pfl hx hb hg inX4 tyX4 tyX4_ok nmX4 hown hK hh 0 (ci := 4) rfl rfl 32 (by decide) wd_583 rfl rfl rfl (Nat.le_of_ble_eq_true rfl) dX4_does_404 (wQ k ad (va_up (va_up V 19 (upd (V 19) (((V 3) q).toNatClampNeg) ((V 17) ((V 2) q).toNatClampNeg))) 0 (upd ((va_up V 19 (upd (V 19) (((V 3) q).toNatClampNeg) ((V 17) ((V 2) q).toNatClampNeg))) 0) 32 ((V 17) ((V 2) q).toNatClampNeg)))) rfl (fun H locs hh => ?_)
              refine lv_iconst (v := 1) hx hb dX4_does_407 (by decide) ?_
              have eT : tlS (pq V) (fun j => V 5 (4 * t + j)) (V 17) (V 18) (V 19) (V 20) q = (V 17) ((V 2) q).toNatClampNeg := tl_r hF hkd (by decide)
              exact retZ (Wd := wQ k ad) (v := 1) (va_up (va_up V 19 (upd (V 19) (((V 3) q).toNatClampNeg) ((V 17) ((V 2) q).toNatClampNeg))) 0 (upd ((va_up V 19 (upd (V 19) (((V 3) q).toNatClampNeg) ((V 17) ((V 2) q).toNatClampNeg))) 0) 32 ((V 17) ((V 2) q).toNatClampNeg))) hx hb hr hlocks rfl dX4_does_408 hh (⟨by rw [hF]; rfl, by rw [re_n hF hkd (by decide), up_n (by decide), up_n (by decide)], by rw [ti_n hF hkd (by decide), up_n (by decide), up_n (by decide)], by rw [gl_u hF hkd, eT, up_n (by decide), up_s]; first | done | rfl, by rw [up_s, upd_s, eT], ((Fr.rf.up (by decide)).up (by decide)), fun j hj => by rw [up_s, upd_n hj, up_n (by decide)]⟩)
            · exact absurd (show ¬ ((-4 : Int32) < (0 : Int32)) from c_389) (by decide)
          · have c_77 : ¬ pq V 6 (ix (pq V 3 q)) = 0 := c_77
            have hF : stF (pq V) (V 17) q = true := by unfold stF fgB; rw [hkd]; simp [c_77]
            refine lv_aload_n hx hb dX4_does_80 rfl (lv_at hl 4 rfl) ?_
            refine lv_ldc (v := 1000000007) hx hb hown (hg _ wd_817) dX4_does_81 ?_
            refine pfl hx hb hg inX4 tyX4 tyX4_ok nmX4 hown hK hh 0 (ci := 4) rfl rfl 32 (by decide) wd_583 rfl rfl rfl (Nat.le_of_ble_eq_true rfl) dX4_does_83 (wQ k ad (va_up V 0 (upd (V 0) 32 1000000007))) rfl (fun H locs hh => ?_)
            refine lv_iconst (v := 0) hx hb dX4_does_86 (by decide) ?_
            exact retZ (Wd := wQ k ad) (v := 0) (va_up V 0 (upd (V 0) 32 1000000007)) hx hb hr hlocks rfl dX4_does_87 hh (⟨by rw [hF]; rfl, by rw [re_F hF, up_n (by decide)], by rw [ti_F hF, up_n (by decide)], by rw [gl_F hF, up_n (by decide)], by rw [tl_F hF, up_s, upd_s], (Fr.rf.up (by decide)), fun j hj => by rw [up_s, upd_n hj]⟩)
    · exact absurd (show (10 : Int32) = (6 : Int32) from c_35) (by decide)
  · have hkd : kd (pq V) q = 11 := hkd
    have hlA : lim 8 (V 2 q) := hlA
    have hlB : lim 25 (V 3 q) := hlB
    refine lv_aload_n hx hb dX4_does_27 rfl (lv_at hl 4 rfl) ?_
    refine gfl hx hb hg inX4 hown hK hh.1 0 (ci := 4) rfl rfl 1 (by decide) wd_552 rfl dX4_does_28 ?_
    refine lv_iload_n hx hb dX4_does_31 rfl (lv_at hl 5 rfl) ?_
    refine ldn hx hb hK hh.1 1 0 rfl rfl (by omega) (by decide) dX4_does_32 ?_
    refine topv (11) hk ?_
    refine lv_bipush (v := 6) hx hb dX4_does_33 (by decide) ?_
    refine lv_icmp_ne (tgt := 48) hx hb dX4_does_35 (by decide) (fun c_35 => ?_) (fun c_35 => ?_)
    · refine lv_aload_n hx hb dX4_does_48 rfl (lv_at hl 4 rfl) ?_
      refine gfl hx hb hg inX4 hown hK hh.1 0 (ci := 4) rfl rfl 1 (by decide) wd_552 rfl dX4_does_49 ?_
      refine lv_iload_n hx hb dX4_does_52 rfl (lv_at hl 5 rfl) ?_
      refine ldn hx hb hK hh.1 1 0 rfl rfl (by omega) (by decide) dX4_does_53 ?_
      refine topv (11) hk ?_
      refine lv_bipush (v := 9) hx hb dX4_does_54 (by decide) ?_
      refine lv_icmp_eq (tgt := 70) hx hb dX4_does_56 (by decide) (fun c_56 => ?_) (fun c_56 => ?_)
      · exact absurd (show (11 : Int32) = (9 : Int32) from c_56) (by decide)
      · refine lv_aload_n hx hb dX4_does_59 rfl (lv_at hl 4 rfl) ?_
        refine gfl hx hb hg inX4 hown hK hh.1 0 (ci := 4) rfl rfl 1 (by decide) wd_552 rfl dX4_does_60 ?_
        refine lv_iload_n hx hb dX4_does_63 rfl (lv_at hl 5 rfl) ?_
        refine ldn hx hb hK hh.1 1 0 rfl rfl (by omega) (by decide) dX4_does_64 ?_
        refine topv (11) hk ?_
        refine lv_bipush (v := 10) hx hb dX4_does_65 (by decide) ?_
        refine lv_icmp_ne (tgt := 88) hx hb dX4_does_67 (by decide) (fun c_67 => ?_) (fun c_67 => ?_)
        · have hF : stF (pq V) (V 17) q = false := by unfold stF fgB; rw [hkd]; simp
          refine lv_aload_n hx hb dX4_does_88 rfl (lv_at hl 4 rfl) ?_
          refine gfl hx hb hg inX4 hown hK hh.1 0 (ci := 4) rfl rfl 1 (by decide) wd_552 rfl dX4_does_89 ?_
          refine lv_iload_n hx hb dX4_does_92 rfl (lv_at hl 5 rfl) ?_
          refine ldn hx hb hK hh.1 1 0 rfl rfl (by omega) (by decide) dX4_does_93 ?_
          refine topv (11) hk ?_
          refine lv_tableIn (off := 270) (tgt := 364) hx hb dX4_does_94 (by decide) (by decide) (by rfl) (by decide) ?_
          refine lv_aload_n hx hb dX4_does_364 rfl (lv_at hl 4 rfl) ?_
          refine gfl hx hb hg inX4 hown hK hh.1 0 (ci := 4) rfl rfl 24 (by decide) wd_575 rfl dX4_does_365 ?_
          refine lv_iload hx hb dX4_does_368 (lv_at hl 3 rfl) ?_
          refine ldx hx hb hK hh.1 17 0 rfl rfl (vp_lim (n := 8) hlA (by decide) (by decide)) dX4_does_370 ?_
          refine lv_if_ne (tgt := 378) hx hb dX4_does_371 (by decide) (fun c_371 => ?_) (fun c_371 => ?_)
          · have c_371 : ¬ V 17 (ix (V 2 q)) = 0 := c_371
            refine lv_iconst (v := 0) hx hb dX4_does_378 (by decide) ?_
            refine lv_istore (lv' := [(7, .int 0), (6, .int ((V 4) q)), (5, .int ((V 3) q)), (4, .int ((V 2) q)), (0, .ref (ad 0)), (1, .int (nI q)), (2, .ref (ad 5)), (3, .int (nI (4 * t)))]) hx hb dX4_does_379 hl (by decide) rfl (fun ls hl => ?_)
            refine lv_goto (tgt := 384) hx hb dX4_does_381 (by decide) ?_
            refine lv_aload_n hx hb dX4_does_384 rfl (lv_at hl 4 rfl) ?_
            refine lv_iload_n hx hb dX4_does_385 rfl (lv_at hl 5 rfl) ?_
            refine callR (runV hx hb hg hown hml hl.1 (c_X4_sets l D k ad (V) hv hq) [.int (nI q)] [] (preR (mapSome_sub hh.1 [0, 1, 2, 3, 4, 5, 6, 7, 8, 9, 10, 11, 12, 13, 14, 15, 16, 17, 18, 19, 20, 21, 22] rfl) hK hN xb0 x0) (va_recv hK hh.1 (ci := 4) (q0 := 0) rfl rfl) wd_755 wd_757 wd_37 wd_53 wd_758 lk_X4_sets ⟨rfl, rfl⟩ ⟨by decide, by decide⟩ ⟨Nat.zero_le _, Nat.zero_le _⟩ rfl (Nat.le_of_ble_eq_true rfl) dX4_does_386) (fun r_386 q_386 => ?_)
            obtain rfl := q_386
            rw [show stI (pq (V)) q = -4 by show stI (pq V) q = -4; unfold stI; rw [hkd]; rfl]
            refine lv_if_lt (tgt := 401) hx hb dX4_does_389 (by decide) (fun c_389 => ?_) (fun c_389 => ?_)
            · refine lv_aload_n hx hb dX4_does_401 rfl (lv_at hl 4 rfl) ?_
              refine lv_iload hx hb dX4_does_402 (lv_at hl 0 rfl) ?_
              refine pfl hx hb hg inX4 tyX4 tyX4_ok nmX4 hown hK hh 0 (ci := 4) rfl rfl 32 (by decide) wd_583 rfl rfl rfl (Nat.le_of_ble_eq_true rfl) dX4_does_404 (wQ k ad (va_up V 0 (upd (V 0) 32 0))) rfl (fun H locs hh => ?_)
              refine lv_iconst (v := 1) hx hb dX4_does_407 (by decide) ?_
              have eT : tlS (pq V) (fun j => V 5 (4 * t + j)) (V 17) (V 18) (V 19) (V 20) q = 0 := (tl_if hF hkd).trans (by show (if V 17 (ix (V 2 q)) = 0 then (1 : Int32) else 0) = _; rw [if_neg c_371])
              exact retZ (Wd := wQ k ad) (v := 1) (va_up V 0 (upd (V 0) 32 0)) hx hb hr hlocks rfl dX4_does_408 hh (⟨by rw [hF]; rfl, by rw [re_n hF hkd (by decide), up_n (by decide)], by rw [ti_n hF hkd (by decide), up_n (by decide)], by rw [gl_n hF hkd (by decide), up_n (by decide)], by rw [up_s, upd_s, eT], (Fr.rf.up (by decide)), fun j hj => by rw [up_s, upd_n hj]⟩)
            · exact absurd (show ¬ ((-4 : Int32) < (0 : Int32)) from c_389) (by decide)
          · have c_371 : V 17 (ix (V 2 q)) = 0 := c_371
            refine lv_iconst (v := 1) hx hb dX4_does_374 (by decide) ?_
            refine lv_goto (tgt := 379) hx hb dX4_does_375 (by decide) ?_
            refine lv_istore (lv' := [(7, .int 1), (6, .int ((V 4) q)), (5, .int ((V 3) q)), (4, .int ((V 2) q)), (0, .ref (ad 0)), (1, .int (nI q)), (2, .ref (ad 5)), (3, .int (nI (4 * t)))]) hx hb dX4_does_379 hl (by decide) rfl (fun ls hl => ?_)
            refine lv_goto (tgt := 384) hx hb dX4_does_381 (by decide) ?_
            refine lv_aload_n hx hb dX4_does_384 rfl (lv_at hl 4 rfl) ?_
            refine lv_iload_n hx hb dX4_does_385 rfl (lv_at hl 5 rfl) ?_
            refine callR (runV hx hb hg hown hml hl.1 (c_X4_sets l D k ad (V) hv hq) [.int (nI q)] [] (preR (mapSome_sub hh.1 [0, 1, 2, 3, 4, 5, 6, 7, 8, 9, 10, 11, 12, 13, 14, 15, 16, 17, 18, 19, 20, 21, 22] rfl) hK hN xb0 x0) (va_recv hK hh.1 (ci := 4) (q0 := 0) rfl rfl) wd_755 wd_757 wd_37 wd_53 wd_758 lk_X4_sets ⟨rfl, rfl⟩ ⟨by decide, by decide⟩ ⟨Nat.zero_le _, Nat.zero_le _⟩ rfl (Nat.le_of_ble_eq_true rfl) dX4_does_386) (fun r_386 q_386 => ?_)
            obtain rfl := q_386
            rw [show stI (pq (V)) q = -4 by show stI (pq V) q = -4; unfold stI; rw [hkd]; rfl]
            refine lv_if_lt (tgt := 401) hx hb dX4_does_389 (by decide) (fun c_389 => ?_) (fun c_389 => ?_)
            · refine lv_aload_n hx hb dX4_does_401 rfl (lv_at hl 4 rfl) ?_
              refine lv_iload hx hb dX4_does_402 (lv_at hl 0 rfl) ?_
              refine pfl hx hb hg inX4 tyX4 tyX4_ok nmX4 hown hK hh 0 (ci := 4) rfl rfl 32 (by decide) wd_583 rfl rfl rfl (Nat.le_of_ble_eq_true rfl) dX4_does_404 (wQ k ad (va_up V 0 (upd (V 0) 32 1))) rfl (fun H locs hh => ?_)
              refine lv_iconst (v := 1) hx hb dX4_does_407 (by decide) ?_
              have eT : tlS (pq V) (fun j => V 5 (4 * t + j)) (V 17) (V 18) (V 19) (V 20) q = 1 := (tl_if hF hkd).trans (by show (if V 17 (ix (V 2 q)) = 0 then (1 : Int32) else 0) = _; rw [if_pos c_371])
              exact retZ (Wd := wQ k ad) (v := 1) (va_up V 0 (upd (V 0) 32 1)) hx hb hr hlocks rfl dX4_does_408 hh (⟨by rw [hF]; rfl, by rw [re_n hF hkd (by decide), up_n (by decide)], by rw [ti_n hF hkd (by decide), up_n (by decide)], by rw [gl_n hF hkd (by decide), up_n (by decide)], by rw [up_s, upd_s, eT], (Fr.rf.up (by decide)), fun j hj => by rw [up_s, upd_n hj]⟩)
            · exact absurd (show ¬ ((-4 : Int32) < (0 : Int32)) from c_389) (by decide)
        · exact absurd (show (11 : Int32) = (10 : Int32) from c_67) (by decide)
    · exact absurd (show (11 : Int32) = (6 : Int32) from c_35) (by decide)
  · have hkd : kd (pq V) q = 12 := hkd
    have hlB : lim 25 (V 3 q) := hlB
    refine lv_aload_n hx hb dX4_does_27 rfl (lv_at hl 4 rfl) ?_
    refine gfl hx hb hg inX4 hown hK hh.1 0 (ci := 4) rfl rfl 1 (by decide) wd_552 rfl dX4_does_28 ?_
    refine lv_iload_n hx hb dX4_does_31 rfl (lv_at hl 5 rfl) ?_
    refine ldn hx hb hK hh.1 1 0 rfl rfl (by omega) (by decide) dX4_does_32 ?_
    refine topv (12) hk ?_
    refine lv_bipush (v := 6) hx hb dX4_does_33 (by decide) ?_
    refine lv_icmp_ne (tgt := 48) hx hb dX4_does_35 (by decide) (fun c_35 => ?_) (fun c_35 => ?_)
    · refine lv_aload_n hx hb dX4_does_48 rfl (lv_at hl 4 rfl) ?_
      refine gfl hx hb hg inX4 hown hK hh.1 0 (ci := 4) rfl rfl 1 (by decide) wd_552 rfl dX4_does_49 ?_
      refine lv_iload_n hx hb dX4_does_52 rfl (lv_at hl 5 rfl) ?_
      refine ldn hx hb hK hh.1 1 0 rfl rfl (by omega) (by decide) dX4_does_53 ?_
      refine topv (12) hk ?_
      refine lv_bipush (v := 9) hx hb dX4_does_54 (by decide) ?_
      refine lv_icmp_eq (tgt := 70) hx hb dX4_does_56 (by decide) (fun c_56 => ?_) (fun c_56 => ?_)
      · exact absurd (show (12 : Int32) = (9 : Int32) from c_56) (by decide)
      · refine lv_aload_n hx hb dX4_does_59 rfl (lv_at hl 4 rfl) ?_
        refine gfl hx hb hg inX4 hown hK hh.1 0 (ci := 4) rfl rfl 1 (by decide) wd_552 rfl dX4_does_60 ?_
        refine lv_iload_n hx hb dX4_does_63 rfl (lv_at hl 5 rfl) ?_
        refine ldn hx hb hK hh.1 1 0 rfl rfl (by omega) (by decide) dX4_does_64 ?_
        refine topv (12) hk ?_
        refine lv_bipush (v := 10) hx hb dX4_does_65 (by decide) ?_
        refine lv_icmp_ne (tgt := 88) hx hb dX4_does_67 (by decide) (fun c_67 => ?_) (fun c_67 => ?_)
        · have hF : stF (pq V) (V 17) q = false := by unfold stF fgB; rw [hkd]; simp
          refine lv_aload_n hx hb dX4_does_88 rfl (lv_at hl 4 rfl) ?_
          refine gfl hx hb hg inX4 hown hK hh.1 0 (ci := 4) rfl rfl 1 (by decide) wd_552 rfl dX4_does_89 ?_
          refine lv_iload_n hx hb dX4_does_92 rfl (lv_at hl 5 rfl) ?_
          refine ldn hx hb hK hh.1 1 0 rfl rfl (by omega) (by decide) dX4_does_93 ?_
          refine topv (12) hk ?_
          refine lv_tableOut (tgt := 384) hx hb dX4_does_94 (by decide) (by decide) ?_
          refine lv_aload_n hx hb dX4_does_384 rfl (lv_at hl 4 rfl) ?_
          refine lv_iload_n hx hb dX4_does_385 rfl (lv_at hl 5 rfl) ?_
          refine callR (runV hx hb hg hown hml hl.1 (c_X4_sets l D k ad (V) hv hq) [.int (nI q)] [] (preR (mapSome_sub hh.1 [0, 1, 2, 3, 4, 5, 6, 7, 8, 9, 10, 11, 12, 13, 14, 15, 16, 17, 18, 19, 20, 21, 22] rfl) hK hN xb0 x0) (va_recv hK hh.1 (ci := 4) (q0 := 0) rfl rfl) wd_755 wd_757 wd_37 wd_53 wd_758 lk_X4_sets ⟨rfl, rfl⟩ ⟨by decide, by decide⟩ ⟨Nat.zero_le _, Nat.zero_le _⟩ rfl (Nat.le_of_ble_eq_true rfl) dX4_does_386) (fun r_386 q_386 => ?_)
          obtain rfl := q_386
          rw [show stI (pq (V)) q = -4 by show stI (pq V) q = -4; unfold stI; rw [hkd]; rfl]
          refine lv_if_lt (tgt := 401) hx hb dX4_does_389 (by decide) (fun c_389 => ?_) (fun c_389 => ?_)
          · refine lv_aload_n hx hb dX4_does_401 rfl (lv_at hl 4 rfl) ?_
            refine lv_iload hx hb dX4_does_402 (lv_at hl 0 rfl) ?_
            refine pfl hx hb hg inX4 tyX4 tyX4_ok nmX4 hown hK hh 0 (ci := 4) rfl rfl 32 (by decide) wd_583 rfl rfl rfl (Nat.le_of_ble_eq_true rfl) dX4_does_404 (wQ k ad (va_up V 0 (upd (V 0) 32 0))) rfl (fun H locs hh => ?_)
            refine lv_iconst (v := 1) hx hb dX4_does_407 (by decide) ?_
            have eT : tlS (pq V) (fun j => V 5 (4 * t + j)) (V 17) (V 18) (V 19) (V 20) q = 0 := tl_0 hF hkd (by decide)
            exact retZ (Wd := wQ k ad) (v := 1) (va_up V 0 (upd (V 0) 32 0)) hx hb hr hlocks rfl dX4_does_408 hh (⟨by rw [hF]; rfl, by rw [re_n hF hkd (by decide), up_n (by decide)], by rw [ti_n hF hkd (by decide), up_n (by decide)], by rw [gl_n hF hkd (by decide), up_n (by decide)], by rw [up_s, upd_s, eT], (Fr.rf.up (by decide)), fun j hj => by rw [up_s, upd_n hj]⟩)
          · exact absurd (show ¬ ((-4 : Int32) < (0 : Int32)) from c_389) (by decide)
        · exact absurd (show (12 : Int32) = (10 : Int32) from c_67) (by decide)
    · exact absurd (show (12 : Int32) = (6 : Int32) from c_35) (by decide)
  · have hkd : kd (pq V) q = 13 := hkd
    refine lv_aload_n hx hb dX4_does_27 rfl (lv_at hl 4 rfl) ?_
    refine gfl hx hb hg inX4 hown hK hh.1 0 (ci := 4) rfl rfl 1 (by decide) wd_552 rfl dX4_does_28 ?_
    refine lv_iload_n hx hb dX4_does_31 rfl (lv_at hl 5 rfl) ?_
    refine ldn hx hb hK hh.1 1 0 rfl rfl (by omega) (by decide) dX4_does_32 ?_
    refine topv (13) hk ?_
    refine lv_bipush (v := 6) hx hb dX4_does_33 (by decide) ?_
    refine lv_icmp_ne (tgt := 48) hx hb dX4_does_35 (by decide) (fun c_35 => ?_) (fun c_35 => ?_)
    · refine lv_aload_n hx hb dX4_does_48 rfl (lv_at hl 4 rfl) ?_
      refine gfl hx hb hg inX4 hown hK hh.1 0 (ci := 4) rfl rfl 1 (by decide) wd_552 rfl dX4_does_49 ?_
      refine lv_iload_n hx hb dX4_does_52 rfl (lv_at hl 5 rfl) ?_
      refine ldn hx hb hK hh.1 1 0 rfl rfl (by omega) (by decide) dX4_does_53 ?_
      refine topv (13) hk ?_
      refine lv_bipush (v := 9) hx hb dX4_does_54 (by decide) ?_
      refine lv_icmp_eq (tgt := 70) hx hb dX4_does_56 (by decide) (fun c_56 => ?_) (fun c_56 => ?_)
      · exact absurd (show (13 : Int32) = (9 : Int32) from c_56) (by decide)
      · refine lv_aload_n hx hb dX4_does_59 rfl (lv_at hl 4 rfl) ?_
        refine gfl hx hb hg inX4 hown hK hh.1 0 (ci := 4) rfl rfl 1 (by decide) wd_552 rfl dX4_does_60 ?_
        refine lv_iload_n hx hb dX4_does_63 rfl (lv_at hl 5 rfl) ?_
        refine ldn hx hb hK hh.1 1 0 rfl rfl (by omega) (by decide) dX4_does_64 ?_
        refine topv (13) hk ?_
        refine lv_bipush (v := 10) hx hb dX4_does_65 (by decide) ?_
        refine lv_icmp_ne (tgt := 88) hx hb dX4_does_67 (by decide) (fun c_67 => ?_) (fun c_67 => ?_)
        · have hF : stF (pq V) (V 17) q = false := by unfold stF fgB; rw [hkd]; simp
          refine lv_aload_n hx hb dX4_does_88 rfl (lv_at hl 4 rfl) ?_
          refine gfl hx hb hg inX4 hown hK hh.1 0 (ci := 4) rfl rfl 1 (by decide) wd_552 rfl dX4_does_89 ?_
          refine lv_iload_n hx hb dX4_does_92 rfl (lv_at hl 5 rfl) ?_
          refine ldn hx hb hK hh.1 1 0 rfl rfl (by omega) (by decide) dX4_does_93 ?_
          refine topv (13) hk ?_
          refine lv_tableOut (tgt := 384) hx hb dX4_does_94 (by decide) (by decide) ?_
          refine lv_aload_n hx hb dX4_does_384 rfl (lv_at hl 4 rfl) ?_
          refine lv_iload_n hx hb dX4_does_385 rfl (lv_at hl 5 rfl) ?_
          refine callR (runV hx hb hg hown hml hl.1 (c_X4_sets l D k ad (V) hv hq) [.int (nI q)] [] (preR (mapSome_sub hh.1 [0, 1, 2, 3, 4, 5, 6, 7, 8, 9, 10, 11, 12, 13, 14, 15, 16, 17, 18, 19, 20, 21, 22] rfl) hK hN xb0 x0) (va_recv hK hh.1 (ci := 4) (q0 := 0) rfl rfl) wd_755 wd_757 wd_37 wd_53 wd_758 lk_X4_sets ⟨rfl, rfl⟩ ⟨by decide, by decide⟩ ⟨Nat.zero_le _, Nat.zero_le _⟩ rfl (Nat.le_of_ble_eq_true rfl) dX4_does_386) (fun r_386 q_386 => ?_)
          obtain rfl := q_386
          rw [show stI (pq (V)) q = -4 by show stI (pq V) q = -4; unfold stI; rw [hkd]; rfl]
          refine lv_if_lt (tgt := 401) hx hb dX4_does_389 (by decide) (fun c_389 => ?_) (fun c_389 => ?_)
          · refine lv_aload_n hx hb dX4_does_401 rfl (lv_at hl 4 rfl) ?_
            refine lv_iload hx hb dX4_does_402 (lv_at hl 0 rfl) ?_
            refine pfl hx hb hg inX4 tyX4 tyX4_ok nmX4 hown hK hh 0 (ci := 4) rfl rfl 32 (by decide) wd_583 rfl rfl rfl (Nat.le_of_ble_eq_true rfl) dX4_does_404 (wQ k ad (va_up V 0 (upd (V 0) 32 0))) rfl (fun H locs hh => ?_)
            refine lv_iconst (v := 1) hx hb dX4_does_407 (by decide) ?_
            have eT : tlS (pq V) (fun j => V 5 (4 * t + j)) (V 17) (V 18) (V 19) (V 20) q = 0 := tl_0 hF hkd (by decide)
            exact retZ (Wd := wQ k ad) (v := 1) (va_up V 0 (upd (V 0) 32 0)) hx hb hr hlocks rfl dX4_does_408 hh (⟨by rw [hF]; rfl, by rw [re_n hF hkd (by decide), up_n (by decide)], by rw [ti_n hF hkd (by decide), up_n (by decide)], by rw [gl_n hF hkd (by decide), up_n (by decide)], by rw [up_s, upd_s, eT], (Fr.rf.up (by decide)), fun j hj => by rw [up_s, upd_n hj]⟩)
          · exact absurd (show ¬ ((-4 : Int32) < (0 : Int32)) from c_389) (by decide)
        · exact absurd (show (13 : Int32) = (10 : Int32) from c_67) (by decide)
    · exact absurd (show (13 : Int32) = (6 : Int32) from c_35) (by decide)
set_option maxHeartbeats 4000000 in
set_option maxRecDepth 100000 in
/-- begin(from, at) -/
theorem c_X4_begin_9 (l : Launch) (D : va_G) (k : Nat → ClassId) (ad : Nat → Nat) (V : St) {n : Nat} (hv : okV n (pq V)) {t : Nat} (ht : t < 3) : CtX noX l yX4_begin cX4_begin 6 none rmX4_begin D (tyL k) (wQ k ad V) [.ref (ad 0), .ref (ad 9), .int (nI (4 * t))] (qV D (wQ k ad) (fun U => bgS (pq V) (fun j => V 9 (4 * t + j)) (tq U) ∧ U 0 28 = 0 ∧ U 0 29 = -4 ∧ U 0 30 = 0 ∧ U 21 = V 21 ∧ FrG V U)) := by
  refine CtX.mk (by decide) (Nat.le_of_ble_eq_true rfl) ?_
  intro p e s m below meth c hx hb hml hown hg hr hlocks hK hN A hA hX hh ls hl
  have hh : Hd D A (wQ k ad V) s.heap s.heap [] := hh
  have hl : lv_has ls 6 [(0, .ref (ad 0)), (1, .ref (ad 9)), (2, .int (nI (4 * t)))] := hl
  have h00 : V 0 0 = nI n := hv.2.1
  have hn24 := hv.1
  obtain ⟨a3, ha3, ea3⟩ := and_max (V 9 (4 * t + 3))
  refine lv_iconst (v := 0) hx hb dX4_begin_0 (by decide) ?_
  refine lv_istore_n (lv' := [(3, .int 0), (0, .ref (ad 0)), (1, .ref (ad 9)), (2, .int (nI (4 * t)))]) hx hb dX4_begin_1 rfl hl (by decide) rfl (fun ls hl => ?_)
  refine loopW (σ := Nat × St) (fun zz9 H locs ls => match zz9 with | (i, U1) => Hd D A (wQ k ad U1) s.heap H locs ∧ lv_has ls 6 [(0, .ref (ad 0)), (1, .ref (ad 9)), (2, .int (nI (4 * t))), (3, .int (nI i))] ∧ (i ≤ 8) ∧ (Fr [17, 18, 19, 20] V U1) ∧ (∀ j, j < i → U1 17 j = 0)) (fun zz9 => match zz9 with | (i, U1) => 8 - i) ?_ (0, V) ⟨hh, (lv_sub hl [1, 2, 3, 0] rfl), (by omega), Fr.rf, (fun j hj => absurd hj (Nat.not_lt_zero _))⟩
  intro zz9 H locs ls hI ih
  obtain ⟨i, U1⟩ := zz9
  obtain ⟨hh, hl, hi, hf, zz_⟩ := hI
  refine lv_iload_n hx hb dX4_begin_2 rfl (lv_at hl 3 rfl) ?_
  refine lv_bipush (v := 8) hx hb dX4_begin_3 (by decide) ?_
  refine lv_icmp_ge (tgt := 21) hx hb dX4_begin_5 (by decide) (fun c_5 => ?_) (fun c_5 => ?_)
  · have c_5 : 8 ≤ i := (nI_leI (a := 8) (b := i) (by omega) (by omega)).mp c_5
    refine lv_iconst (v := 0) hx hb dX4_begin_21 (by decide) ?_
    refine lv_istore_n (lv' := [(3, .int 0), (0, .ref (ad 0)), (1, .ref (ad 9)), (2, .int (nI (4 * t)))]) hx hb dX4_begin_22 rfl hl (by decide) rfl (fun ls hl => ?_)
    refine loopW (σ := Nat × St) (fun zz9 H locs ls => match zz9 with | (i, U2) => Hd D A (wQ k ad U2) s.heap H locs ∧ lv_has ls 6 [(0, .ref (ad 0)), (1, .ref (ad 9)), (2, .int (nI (4 * t))), (3, .int (nI i))] ∧ (i ≤ 32) ∧ (Fr [17, 18, 19, 20] V U2) ∧ (∀ j, j < 8 → U2 17 j = 0) ∧ (∀ j, j < i → U2 18 j = 0)) (fun zz9 => match zz9 with | (i, U2) => 32 - i) ?_ (0, U1) ⟨hh, (lv_sub hl [1, 2, 3, 0] rfl), (by omega), hf, (fun j hj => zz_ j (by omega)), (fun j hj => absurd hj (Nat.not_lt_zero _))⟩
    intro zz9 H locs ls hI ih
    obtain ⟨i, U2⟩ := zz9
    obtain ⟨hh, hl, hi, hf, z17, zz_⟩ := hI
    refine lv_iload_n hx hb dX4_begin_23 rfl (lv_at hl 3 rfl) ?_
    refine lv_bipush (v := 32) hx hb dX4_begin_24 (by decide) ?_
    refine lv_icmp_ge (tgt := 42) hx hb dX4_begin_26 (by decide) (fun c_26 => ?_) (fun c_26 => ?_)
    · have c_26 : 32 ≤ i := (nI_leI (a := 32) (b := i) (by omega) (by omega)).mp c_26
      refine lv_iconst (v := 0) hx hb dX4_begin_42 (by decide) ?_
      refine lv_istore_n (lv' := [(3, .int 0), (0, .ref (ad 0)), (1, .ref (ad 9)), (2, .int (nI (4 * t)))]) hx hb dX4_begin_43 rfl hl (by decide) rfl (fun ls hl => ?_)
      refine loopW (σ := Nat × St) (fun zz9 H locs ls => match zz9 with | (i, U3) => Hd D A (wQ k ad U3) s.heap H locs ∧ lv_has ls 6 [(0, .ref (ad 0)), (1, .ref (ad 9)), (2, .int (nI (4 * t))), (3, .int (nI i))] ∧ (i ≤ 4) ∧ (Fr [17, 18, 19, 20] V U3) ∧ (∀ j, j < 8 → U3 17 j = 0) ∧ (∀ j, j < 32 → U3 18 j = 0) ∧ (∀ j, j < i → U3 19 j = V 6 j) ∧ (∀ j, j < i → U3 20 j = nI (chR (V 8 j) (V 9 (4 * t + 3))))) (fun zz9 => match zz9 with | (i, U3) => 4 - i) ?_ (0, U2) ⟨hh, (lv_sub hl [1, 2, 3, 0] rfl), (by omega), hf, z17, (fun j hj => zz_ j (by omega)), (fun j hj => absurd hj (Nat.not_lt_zero _)), (fun j hj => absurd hj (Nat.not_lt_zero _))⟩
      intro zz9 H locs ls hI ih
      obtain ⟨i, U3⟩ := zz9
      obtain ⟨hh, hl, hi, hf, z17, z18, z19, z20⟩ := hI
      have iho := ih; clear ih
      refine lv_iload_n hx hb dX4_begin_44 rfl (lv_at hl 3 rfl) ?_
      refine lv_iconst (v := 4) hx hb dX4_begin_45 (by decide) ?_
      refine lv_icmp_ge (tgt := 139) hx hb dX4_begin_46 (by decide) (fun c_46 => ?_) (fun c_46 => ?_)
      · have c_46 : 4 ≤ i := (nI_leI (a := 4) (b := i) (by omega) (by omega)).mp c_46
        refine lv_aload_n hx hb dX4_begin_139 rfl (lv_at hl 0 rfl) ?_
        refine lv_iconst (v := 0) hx hb dX4_begin_140 (by decide) ?_
        refine pfl hx hb hg inX4 tyX4 tyX4_ok nmX4 hown hK hh 0 (ci := 4) rfl rfl 28 (by decide) wd_579 rfl rfl rfl (Nat.le_of_ble_eq_true rfl) dX4_begin_141 (wQ k ad (va_up U3 0 (upd (U3 0) 28 0))) rfl (fun H locs hh => ?_)
        refine lv_aload_n hx hb dX4_begin_144 rfl (lv_at hl 0 rfl) ?_
        refine lv_bipush (v := (-4)) hx hb dX4_begin_145 (by decide) ?_
        refine pfl hx hb hg inX4 tyX4 tyX4_ok nmX4 hown hK hh 0 (ci := 4) rfl rfl 29 (by decide) wd_580 rfl rfl rfl (Nat.le_of_ble_eq_true rfl) dX4_begin_147 (wQ k ad (va_up (va_up U3 0 (upd (U3 0) 28 0)) 0 (upd ((va_up U3 0 (upd (U3 0) 28 0)) 0) 29 (-4)))) rfl (fun H locs hh => ?_)
        refine lv_aload_n hx hb dX4_begin_150 rfl (lv_at hl 0 rfl) ?_
        refine lv_iconst (v := 0) hx hb dX4_begin_151 (by decide) ?_
        refine pfl hx hb hg inX4 tyX4 tyX4_ok nmX4 hown hK hh 0 (ci := 4) rfl rfl 30 (by decide) wd_581 rfl rfl rfl (Nat.le_of_ble_eq_true rfl) dX4_begin_152 (wQ k ad (va_up (va_up (va_up U3 0 (upd (U3 0) 28 0)) 0 (upd ((va_up U3 0 (upd (U3 0) 28 0)) 0) 29 (-4))) 0 (upd ((va_up (va_up U3 0 (upd (U3 0) 28 0)) 0 (upd ((va_up U3 0 (upd (U3 0) 28 0)) 0) 29 (-4))) 0) 30 0))) rfl (fun H locs hh => ?_)
        exact retV (Wd := wQ k ad) (va_up (va_up (va_up U3 0 (upd (U3 0) 28 0)) 0 (upd ((va_up U3 0 (upd (U3 0) 28 0)) 0) 29 (-4))) 0 (upd ((va_up (va_up U3 0 (upd (U3 0) 28 0)) 0 (upd ((va_up U3 0 (upd (U3 0) 28 0)) 0) 29 (-4))) 0) 30 0)) hx hb hr hlocks dX4_begin_155 hh (⟨⟨z17, z18, fun j hj => z19 j (by omega), fun j hj => z20 j (by omega)⟩, rfl, rfl, rfl, hf 21 (by decide), ((((hf.mono (ds := [0, 17, 18, 19, 20, 21]) (by intro c hc; simp at hc ⊢; omega)).up (by decide)).up (by decide)).up (by decide)), fun j a b => by rw [up_s, upd_n (by omega)]; show upd (upd (U3 0) 28 0) 29 (-4) j = _; rw [upd_n (by omega), upd_n (by omega), hf 0 (by decide)]⟩)
      · have c_46 : ¬ 4 ≤ i := fun z => c_46 ((nI_leI (a := 4) (b := i) (by omega) (by omega)).mpr z)
        obtain ⟨x7, h71, h715, e7v⟩ := hv.2.2.2.2 i (by omega)
        have e7v : V 8 i = nI x7 := e7v
        have e7 : U3 8 i = nI x7 := by rw [hf 8 (by decide)]; exact e7v
        have hc1 := cntN_15 x7 h71 (by omega)
        have hc4 := cntN_le 4 (nI x7)
        obtain ⟨R0, hR0⟩ := kth_some x7 (by omega) (a3 % cntN 4 (nI x7)) (Nat.mod_lt _ (by omega))
        have hchR : chR (V 8 i) (V 9 (4 * t + 3)) = R0 := by unfold chR; rw [e7v, ea3, ix_nI ha3, hR0]; rfl
        refine lv_aload_n hx hb dX4_begin_49 rfl (lv_at hl 0 rfl) ?_
        refine gfl hx hb hg inX4 hown hK hh.1 0 (ci := 4) rfl rfl 26 (by decide) wd_577 rfl dX4_begin_50 ?_
        refine lv_iload_n hx hb dX4_begin_53 rfl (lv_at hl 3 rfl) ?_
        refine lv_aload_n hx hb dX4_begin_54 rfl (lv_at hl 0 rfl) ?_
        refine gfl hx hb hg inX4 hown hK hh.1 0 (ci := 4) rfl rfl 6 (by decide) wd_557 rfl dX4_begin_55 ?_
        refine lv_iload_n hx hb dX4_begin_58 rfl (lv_at hl 3 rfl) ?_
        refine ldn hx hb hK hh.1 6 0 rfl rfl (by omega) (by decide) dX4_begin_59 ?_
        refine stn (j := i) hx hb hK hh 19 0 rfl rfl (by omega) (by decide) dX4_begin_60 (wQ k ad (va_up U3 19 (upd (U3 19) i ((U3 6) i)))) rfl (fun H locs hh => ?_)
        refine lv_aload_n hx hb dX4_begin_61 rfl (lv_at hl 1 rfl) ?_
        refine lv_iload_n hx hb dX4_begin_62 rfl (lv_at hl 2 rfl) ?_
        refine lv_iconst (v := 3) hx hb dX4_begin_63 (by decide) ?_
        refine lv_iadd hx hb dX4_begin_64 ?_
        refine topv (nI (4 * t + 3)) (nI_add (4 * t) 3) ?_
        refine ldn hx hb hK hh.1 9 0 rfl rfl (by omega) (by decide) dX4_begin_65 ?_
        refine lv_ldc (v := 2147483647) hx hb hown (hg _ wd_809) dX4_begin_66 ?_
        refine lv_iand hx hb dX4_begin_68 ?_
        refine topv (nI a3) (by have h9 := hf 9 (by decide); show U3 9 (4 * t + 3) &&& 2147483647 = nI a3; rw [h9]; exact ea3) ?_
        refine lv_aload_n hx hb dX4_begin_69 rfl (lv_at hl 0 rfl) ?_
        refine gfl hx hb hg inX4 hown hK hh.1 0 (ci := 4) rfl rfl 8 (by decide) wd_559 rfl dX4_begin_70 ?_
        refine lv_iload_n hx hb dX4_begin_73 rfl (lv_at hl 3 rfl) ?_
        refine ldn hx hb hK hh.1 8 0 rfl rfl (by omega) (by decide) dX4_begin_74 ?_
        refine topv (nI x7) e7 ?_
        refine callR (runS hx hb hg hown hml hl.1 (c_X4_many l D k (nI x7)) [.int (nI x7)] [.int (nI a3)] (preR (mapSome_sub hh.1 [] rfl) hK hN xb0 x0) wd_810 wd_811 wd_53 wd_812 lk_X4_many ⟨rfl, rfl⟩ ⟨by decide, by decide⟩ ⟨Nat.zero_le _, Nat.zero_le _⟩ rfl (Nat.le_of_ble_eq_true rfl) dX4_begin_75) (fun r_75 q_75 => ?_)
        obtain rfl := q_75
        refine lv_irem hx hb dX4_begin_78 (fun z => absurd ((nI_eq (a := cntN 4 (nI x7)) (b := 0) (by omega) (by omega)).mp z) (by omega)) ?_
        refine topv (nI (a3 % cntN 4 (nI x7))) (pk_rem ha3 (by omega) (by omega)) ?_
        refine lv_istore (lv' := [(4, .int (nI (a3 % cntN 4 (nI x7)))), (0, .ref (ad 0)), (1, .ref (ad 9)), (2, .int (nI (4 * t))), (3, .int (nI i))]) hx hb dX4_begin_79 hl (by decide) rfl (fun ls hl => ?_)
        refine lv_iconst (v := 0) hx hb dX4_begin_81 (by decide) ?_
        refine lv_istore (lv' := [(5, .int 0), (4, .int (nI (a3 % cntN 4 (nI x7)))), (0, .ref (ad 0)), (1, .ref (ad 9)), (2, .int (nI (4 * t))), (3, .int (nI i))]) hx hb dX4_begin_82 hl (by decide) rfl (fun ls hl => ?_)
        refine loopW (σ := Nat × Nat) (fun zz9 H locs ls => match zz9 with | (row, c1) => Hd D A (wQ k ad (va_up U3 19 (upd (U3 19) i ((U3 6) i)))) s.heap H locs ∧ lv_has ls 6 [(0, .ref (ad 0)), (1, .ref (ad 9)), (2, .int (nI (4 * t))), (3, .int (nI i)), (4, .int (nI c1)), (5, .int (nI row))] ∧ (row ≤ 4) ∧ (c1 < 2 ^ 31) ∧ (kthS (bt (nI x7)) (4 - row) row c1 = some R0)) (fun zz9 => match zz9 with | (row, c1) => 4 - row) ?_ (0, a3 % cntN 4 (nI x7)) ⟨hh, (lv_sub hl [2, 3, 4, 5, 1, 0] rfl), (by omega), (by have := Nat.mod_lt a3 (show 0 < cntN 4 (nI x7) by omega); omega), hR0⟩
        intro zz9 H locs ls hI ih
        obtain ⟨row, c1⟩ := zz9
        obtain ⟨hh, hl, hrw, hc9, he⟩ := hI
        refine lv_iload hx hb dX4_begin_84 (lv_at hl 4 rfl) ?_
        refine lv_if_gt (tgt := 103) hx hb dX4_begin_86 (by decide) (fun c_86 => ?_) (fun c_86 => ?_)
        · have c_86 : 0 < c1 := (nI_ltI (a := 0) (b := c1) (by omega) (by omega)).mp c_86
          refine lv_iload hx hb dX4_begin_103 (lv_at hl 4 rfl) ?_
          refine lv_aload_n hx hb dX4_begin_105 rfl (lv_at hl 0 rfl) ?_
          refine gfl hx hb hg inX4 hown hK hh.1 0 (ci := 4) rfl rfl 8 (by decide) wd_559 rfl dX4_begin_106 ?_
          refine lv_iload_n hx hb dX4_begin_109 rfl (lv_at hl 3 rfl) ?_
          refine ldn hx hb hK hh.1 8 0 rfl rfl (by omega) (by decide) dX4_begin_110 ?_
          refine topv (nI x7) e7 ?_
          refine lv_iload hx hb dX4_begin_111 (lv_at hl 5 rfl) ?_
          refine lv_ishr hx hb dX4_begin_113 ?_
          refine lv_iconst (v := 1) hx hb dX4_begin_114 (by decide) ?_
          refine lv_iand hx hb dX4_begin_115 ?_
          refine lv_isub hx hb dX4_begin_116 ?_
          obtain ⟨hr4, hk9⟩ := lftk he (Or.inl c_86)
          refine topv (nI (c1 - if bt (nI x7) row = true then 1 else 0)) (lft (by omega) (Or.inl c_86)) ?_
          refine lv_istore (lv' := [(4, .int (nI (c1 - if bt (nI x7) row = true then 1 else 0))), (0, .ref (ad 0)), (1, .ref (ad 9)), (2, .int (nI (4 * t))), (3, .int (nI i)), (5, .int (nI row))]) hx hb dX4_begin_117 hl (by decide) rfl (fun ls hl => ?_)
          refine lv_iinc (v := nI (row + 1)) (lv' := [(5, .int (nI (row + 1))), (4, .int (nI (c1 - if bt (nI x7) row = true then 1 else 0))), (0, .ref (ad 0)), (1, .ref (ad 9)), (2, .int (nI (4 * t))), (3, .int (nI i))]) hx hb dX4_begin_119 hl (k := 5) rfl (nI_succ row).symm (by decide) rfl (fun ls hl => ?_)
          refine lv_goto (tgt := 84) hx hb dX4_begin_122 (by decide) ?_
          exact ih (row + 1, c1 - if bt (nI x7) row = true then 1 else 0) _ _ _ ⟨hh, (lv_sub hl [2, 3, 4, 5, 1, 0] rfl), (by omega), (by omega), hk9⟩ (by dsimp only; omega)
        · have c_86 : ¬ 0 < c1 := fun z => c_86 ((nI_ltI (a := 0) (b := c1) (by omega) (by omega)).mpr z)
          refine lv_aload_n hx hb dX4_begin_89 rfl (lv_at hl 0 rfl) ?_
          refine gfl hx hb hg inX4 hown hK hh.1 0 (ci := 4) rfl rfl 8 (by decide) wd_559 rfl dX4_begin_90 ?_
          refine lv_iload_n hx hb dX4_begin_93 rfl (lv_at hl 3 rfl) ?_
          refine ldn hx hb hK hh.1 8 0 rfl rfl (by omega) (by decide) dX4_begin_94 ?_
          refine topv (nI x7) e7 ?_
          refine lv_iload hx hb dX4_begin_95 (lv_at hl 5 rfl) ?_
          refine lv_ishr hx hb dX4_begin_97 ?_
          refine lv_iconst (v := 1) hx hb dX4_begin_98 (by decide) ?_
          refine lv_iand hx hb dX4_begin_99 ?_
          refine lv_if_ne (tgt := 125) hx hb dX4_begin_100 (by decide) (fun c_100 => ?_) (fun c_100 => ?_)
          · have c_100 : bt (nI x7) row = true := by cases hb9 : bt (nI x7) row with | true => rfl | false => exact absurd ((tS0 (nI x7) (p := row) (by omega)).mpr hb9) c_100
            have c_86 : c1 = 0 := by omega
            rw [c_86] at he
            obtain ⟨hr4, hRe⟩ := lfte he c_100
            have hchr : chR (V 8 i) (V 9 (4 * t + 3)) = row := hchR.trans hRe
            refine lv_aload_n hx hb dX4_begin_125 rfl (lv_at hl 0 rfl) ?_
            refine gfl hx hb hg inX4 hown hK hh.1 0 (ci := 4) rfl rfl 27 (by decide) wd_578 rfl dX4_begin_126 ?_
            refine lv_iload_n hx hb dX4_begin_129 rfl (lv_at hl 3 rfl) ?_
            refine lv_iload hx hb dX4_begin_130 (lv_at hl 5 rfl) ?_
            refine stn (j := i) hx hb hK hh 20 0 rfl rfl (by omega) (by decide) dX4_begin_132 (wQ k ad (va_up (va_up U3 19 (upd (U3 19) i ((U3 6) i))) 20 (upd (U3 20) i (nI row)))) rfl (fun H locs hh => ?_)
            refine lv_iinc (v := nI (i + 1)) (lv' := [(3, .int (nI (i + 1))), (0, .ref (ad 0)), (1, .ref (ad 9)), (2, .int (nI (4 * t))), (4, .int (nI c1)), (5, .int (nI row))]) hx hb dX4_begin_133 hl (k := 3) rfl (nI_succ i).symm (by decide) rfl (fun ls hl => ?_)
            refine lv_goto (tgt := 44) hx hb dX4_begin_136 (by decide) ?_
            exact iho (i + 1, va_up (va_up U3 19 (upd (U3 19) i ((U3 6) i))) 20 (upd (U3 20) i (nI row))) _ _ _ ⟨hh, (lv_sub hl [1, 2, 3, 0] rfl), (by omega), ((hf.up (by decide)).up (by decide)), (fun j hj => by rw [up_n (by decide), up_n (by decide)]; exact z17 j hj), (fun j hj => by rw [up_n (by decide), up_n (by decide)]; exact z18 j hj), (fun j hj => by rw [up_n (by decide), up_s]; rcases Classical.em (j = i) with e | e; (subst e; rw [upd_s, hf 6 (by decide)]); (rw [upd_n e]; exact z19 j (by omega))), (fun j hj => by rw [up_s]; rcases Classical.em (j = i) with e | e; (subst e; rw [upd_s, hchr]); (rw [upd_n e]; exact z20 j (by omega)))⟩ (by dsimp only; omega)
          · have c_100 := (tS0 (nI x7) (p := row) (by omega)).mp c_100
            refine lv_iload hx hb dX4_begin_103 (lv_at hl 4 rfl) ?_
            refine lv_aload_n hx hb dX4_begin_105 rfl (lv_at hl 0 rfl) ?_
            refine gfl hx hb hg inX4 hown hK hh.1 0 (ci := 4) rfl rfl 8 (by decide) wd_559 rfl dX4_begin_106 ?_
            refine lv_iload_n hx hb dX4_begin_109 rfl (lv_at hl 3 rfl) ?_
            refine ldn hx hb hK hh.1 8 0 rfl rfl (by omega) (by decide) dX4_begin_110 ?_
            refine topv (nI x7) e7 ?_
            refine lv_iload hx hb dX4_begin_111 (lv_at hl 5 rfl) ?_
            refine lv_ishr hx hb dX4_begin_113 ?_
            refine lv_iconst (v := 1) hx hb dX4_begin_114 (by decide) ?_
            refine lv_iand hx hb dX4_begin_115 ?_
            refine lv_isub hx hb dX4_begin_116 ?_
            obtain ⟨hr4, hk9⟩ := lftk he (Or.inr c_100)
            refine topv (nI (c1 - if bt (nI x7) row = true then 1 else 0)) (lft (by omega) (Or.inr c_100)) ?_
            refine lv_istore (lv' := [(4, .int (nI (c1 - if bt (nI x7) row = true then 1 else 0))), (0, .ref (ad 0)), (1, .ref (ad 9)), (2, .int (nI (4 * t))), (3, .int (nI i)), (5, .int (nI row))]) hx hb dX4_begin_117 hl (by decide) rfl (fun ls hl => ?_)
            refine lv_iinc (v := nI (row + 1)) (lv' := [(5, .int (nI (row + 1))), (4, .int (nI (c1 - if bt (nI x7) row = true then 1 else 0))), (0, .ref (ad 0)), (1, .ref (ad 9)), (2, .int (nI (4 * t))), (3, .int (nI i))]) hx hb dX4_begin_119 hl (k := 5) rfl (nI_succ row).symm (by decide) rfl (fun ls hl => ?_)
            refine lv_goto (tgt := 84) hx hb dX4_begin_122 (by decide) ?_
            exact ih (row + 1, c1 - if bt (nI x7) row = true then 1 else 0) _ _ _ ⟨hh, (lv_sub hl [2, 3, 4, 5, 1, 0] rfl), (by omega), (by omega), hk9⟩ (by dsimp only; omega)
    · have c_26 : ¬ 32 ≤ i := fun z => c_26 ((nI_leI (a := 32) (b := i) (by omega) (by omega)).mpr z)
      refine lv_aload_n hx hb dX4_begin_29 rfl (lv_at hl 0 rfl) ?_
      refine gfl hx hb hg inX4 hown hK hh.1 0 (ci := 4) rfl rfl 25 (by decide) wd_576 rfl dX4_begin_30 ?_
      refine lv_iload_n hx hb dX4_begin_33 rfl (lv_at hl 3 rfl) ?_
      refine lv_iconst (v := 0) hx hb dX4_begin_34 (by decide) ?_
      refine stn (j := i) hx hb hK hh 18 0 rfl rfl (by omega) (by decide) dX4_begin_35 (wQ k ad (va_up U2 18 (upd (U2 18) i 0))) rfl (fun H locs hh => ?_)
      refine lv_iinc (v := nI (i + 1)) (lv' := [(3, .int (nI (i + 1))), (0, .ref (ad 0)), (1, .ref (ad 9)), (2, .int (nI (4 * t)))]) hx hb dX4_begin_36 hl (k := 3) rfl (nI_succ i).symm (by decide) rfl (fun ls hl => ?_)
      refine lv_goto (tgt := 23) hx hb dX4_begin_39 (by decide) ?_
      exact ih (i + 1, va_up U2 18 (upd (U2 18) i 0)) _ _ _ ⟨hh, (lv_sub hl [1, 2, 3, 0] rfl), (by omega), (hf.up (by decide)), (fun j hj => by rw [up_n (by decide)]; exact z17 j hj), (fun j hj => by rcases Classical.em (j = i) with e | e; (subst e; rw [up_s, upd_s]); (rw [up_s, upd_n e]; exact zz_ j (by omega)))⟩ (by dsimp only; omega)
  · have c_5 : ¬ 8 ≤ i := fun z => c_5 ((nI_leI (a := 8) (b := i) (by omega) (by omega)).mpr z)
    refine lv_aload_n hx hb dX4_begin_8 rfl (lv_at hl 0 rfl) ?_
    refine gfl hx hb hg inX4 hown hK hh.1 0 (ci := 4) rfl rfl 24 (by decide) wd_575 rfl dX4_begin_9 ?_
    refine lv_iload_n hx hb dX4_begin_12 rfl (lv_at hl 3 rfl) ?_
    refine lv_iconst (v := 0) hx hb dX4_begin_13 (by decide) ?_
    refine stn (j := i) hx hb hK hh 17 0 rfl rfl (by omega) (by decide) dX4_begin_14 (wQ k ad (va_up U1 17 (upd (U1 17) i 0))) rfl (fun H locs hh => ?_)
    refine lv_iinc (v := nI (i + 1)) (lv' := [(3, .int (nI (i + 1))), (0, .ref (ad 0)), (1, .ref (ad 9)), (2, .int (nI (4 * t)))]) hx hb dX4_begin_15 hl (k := 3) rfl (nI_succ i).symm (by decide) rfl (fun ls hl => ?_)
    refine lv_goto (tgt := 2) hx hb dX4_begin_18 (by decide) ?_
    exact ih (i + 1, va_up U1 17 (upd (U1 17) i 0)) _ _ _ ⟨hh, (lv_sub hl [1, 2, 3, 0] rfl), (by omega), (hf.up (by decide)), (fun j hj => by rcases Classical.em (j = i) with e | e; (subst e; rw [up_s, upd_s]); (rw [up_s, upd_n e]; exact zz_ j (by omega)))⟩ (by dsimp only; omega)
set_option maxHeartbeats 4000000 in
set_option maxRecDepth 100000 in
/-- does(p, from, at) -/
theorem c_X4_does_9 (l : Launch) (D : va_G) (k : Nat → ClassId) (ad : Nat → Nat) (V : St) {n : Nat} (hv : okV n (pq V)) {q : Nat} (hq : q < 24) {t : Nat} (ht : t < 3) (hrow : ∀ d, d < 4 → ∃ i, i < 4 ∧ V 20 d = nI i) : CtX noX l yX4_does cX4_does 8 (some .boolean) rmX4_does D (tyL k) (wQ k ad V) [.ref (ad 0), .int (nI q), .ref (ad 9), .int (nI (4 * t))] (qI D (wQ k ad) (fun r U => r = zI (!stF (pq V) (V 17) q) ∧ U 17 = reS (pq V) (fun j => V 9 (4 * t + j)) (V 17) (V 18) (V 19) (V 20) q ∧ U 18 = tiS (pq V) (fun j => V 9 (4 * t + j)) (V 17) (V 18) (V 19) (V 20) q ∧ U 19 = glS (pq V) (fun j => V 9 (4 * t + j)) (V 17) (V 18) (V 19) (V 20) q ∧ U 0 32 = tlS (pq V) (fun j => V 9 (4 * t + j)) (V 17) (V 18) (V 19) (V 20) q ∧ Fr [0, 17, 18, 19] V U ∧ ∀ j, ¬ j = 32 → U 0 j = V 0 j)) := by
  refine CtX.mk (by decide) (Nat.le_of_ble_eq_true rfl) ?_
  intro p e s m below meth c hx hb hml hown hg hr hlocks hK hN A hA hX hh ls hl
  have hh : Hd D A (wQ k ad V) s.heap s.heap [] := hh
  have hl : lv_has ls 8 [(0, .ref (ad 0)), (1, .int (nI q)), (2, .ref (ad 9)), (3, .int (nI (4 * t)))] := hl
  obtain ⟨j, hk, hj, hlA, hlB, hlC⟩ := hv.2.2.1 q hq
  have hk : V 1 q = nI j := hk
  have hlA : lim (LA.getD j 0) (V 2 q) := hlA
  have hlB : lim (LB.getD j 0) (V 3 q) := hlB
  have hlC : lim (LC.getD j 0) (V 4 q) := hlC
  have hkd : kd (pq V) q = j := kd_of hk hj
  refine lv_aload_n hx hb dX4_does_0 rfl (lv_at hl 0 rfl) ?_
  refine gfl hx hb hg inX4 hown hK hh.1 0 (ci := 4) rfl rfl 2 (by decide) wd_553 rfl dX4_does_1 ?_
  refine lv_iload_n hx hb dX4_does_4 rfl (lv_at hl 1 rfl) ?_
  refine ldn hx hb hK hh.1 2 0 rfl rfl (by omega) (by decide) dX4_does_5 ?_
  refine lv_istore (lv' := [(4, .int ((V 2) q)), (0, .ref (ad 0)), (1, .int (nI q)), (2, .ref (ad 9)), (3, .int (nI (4 * t)))]) hx hb dX4_does_6 hl (by decide) rfl (fun ls hl => ?_)
  refine lv_aload_n hx hb dX4_does_8 rfl (lv_at hl 1 rfl) ?_
  refine gfl hx hb hg inX4 hown hK hh.1 0 (ci := 4) rfl rfl 3 (by decide) wd_554 rfl dX4_does_9 ?_
  refine lv_iload_n hx hb dX4_does_12 rfl (lv_at hl 2 rfl) ?_
  refine ldn hx hb hK hh.1 3 0 rfl rfl (by omega) (by decide) dX4_does_13 ?_
  refine lv_istore (lv' := [(5, .int ((V 3) q)), (4, .int ((V 2) q)), (0, .ref (ad 0)), (1, .int (nI q)), (2, .ref (ad 9)), (3, .int (nI (4 * t)))]) hx hb dX4_does_14 hl (by decide) rfl (fun ls hl => ?_)
  refine lv_aload_n hx hb dX4_does_16 rfl (lv_at hl 2 rfl) ?_
  refine gfl hx hb hg inX4 hown hK hh.1 0 (ci := 4) rfl rfl 4 (by decide) wd_555 rfl dX4_does_17 ?_
  refine lv_iload_n hx hb dX4_does_20 rfl (lv_at hl 3 rfl) ?_
  refine ldn hx hb hK hh.1 4 0 rfl rfl (by omega) (by decide) dX4_does_21 ?_
  refine lv_istore (lv' := [(6, .int ((V 4) q)), (5, .int ((V 3) q)), (4, .int ((V 2) q)), (0, .ref (ad 0)), (1, .int (nI q)), (2, .ref (ad 9)), (3, .int (nI (4 * t)))]) hx hb dX4_does_22 hl (by decide) rfl (fun ls hl => ?_)
  refine lv_iconst (v := 0) hx hb dX4_does_24 (by decide) ?_
  refine lv_istore (lv' := [(7, .int 0), (6, .int ((V 4) q)), (5, .int ((V 3) q)), (4, .int ((V 2) q)), (0, .ref (ad 0)), (1, .int (nI q)), (2, .ref (ad 9)), (3, .int (nI (4 * t)))]) hx hb dX4_does_25 hl (by decide) rfl (fun ls hl => ?_)
  rcases (show j = 0 ∨ j = 1 ∨ j = 2 ∨ j = 3 ∨ j = 4 ∨ j = 5 ∨ j = 6 ∨ j = 7 ∨ j = 8 ∨ j = 9 ∨ j = 10 ∨ j = 11 ∨ j = 12 ∨ j = 13 by omega) with rfl | rfl | rfl | rfl | rfl | rfl | rfl | rfl | rfl | rfl | rfl | rfl | rfl | rfl
  · have hkd : kd (pq V) q = 0 := hkd
    refine lv_aload_n hx hb dX4_does_27 rfl (lv_at hl 4 rfl) ?_
    refine gfl hx hb hg inX4 hown hK hh.1 0 (ci := 4) rfl rfl 1 (by decide) wd_552 rfl dX4_does_28 ?_
    refine lv_iload_n hx hb dX4_does_31 rfl (lv_at hl 5 rfl) ?_
    refine ldn hx hb hK hh.1 1 0 rfl rfl (by omega) (by decide) dX4_does_32 ?_
    refine topv (0) hk ?_
    refine lv_bipush (v := 6) hx hb dX4_does_33 (by decide) ?_
    refine lv_icmp_ne (tgt := 48) hx hb dX4_does_35 (by decide) (fun c_35 => ?_) (fun c_35 => ?_)
    · refine lv_aload_n hx hb dX4_does_48 rfl (lv_at hl 4 rfl) ?_
      refine gfl hx hb hg inX4 hown hK hh.1 0 (ci := 4) rfl rfl 1 (by decide) wd_552 rfl dX4_does_49 ?_
      refine lv_iload_n hx hb dX4_does_52 rfl (lv_at hl 5 rfl) ?_
      refine ldn hx hb hK hh.1 1 0 rfl rfl (by omega) (by decide) dX4_does_53 ?_
      refine topv (0) hk ?_
      refine lv_bipush (v := 9) hx hb dX4_does_54 (by decide) ?_
      refine lv_icmp_eq (tgt := 70) hx hb dX4_does_56 (by decide) (fun c_56 => ?_) (fun c_56 => ?_)
      · exact absurd (show (0 : Int32) = (9 : Int32) from c_56) (by decide)
      · refine lv_aload_n hx hb dX4_does_59 rfl (lv_at hl 4 rfl) ?_
        refine gfl hx hb hg inX4 hown hK hh.1 0 (ci := 4) rfl rfl 1 (by decide) wd_552 rfl dX4_does_60 ?_
        refine lv_iload_n hx hb dX4_does_63 rfl (lv_at hl 5 rfl) ?_
        refine ldn hx hb hK hh.1 1 0 rfl rfl (by omega) (by decide) dX4_does_64 ?_
        refine topv (0) hk ?_
        refine lv_bipush (v := 10) hx hb dX4_does_65 (by decide) ?_
        refine lv_icmp_ne (tgt := 88) hx hb dX4_does_67 (by decide) (fun c_67 => ?_) (fun c_67 => ?_)
        · have hF : stF (pq V) (V 17) q = false := by unfold stF fgB; rw [hkd]; simp
          refine lv_aload_n hx hb dX4_does_88 rfl (lv_at hl 4 rfl) ?_
          refine gfl hx hb hg inX4 hown hK hh.1 0 (ci := 4) rfl rfl 1 (by decide) wd_552 rfl dX4_does_89 ?_
          refine lv_iload_n hx hb dX4_does_92 rfl (lv_at hl 5 rfl) ?_
          refine ldn hx hb hK hh.1 1 0 rfl rfl (by omega) (by decide) dX4_does_93 ?_
          refine topv (0) hk ?_
          refine lv_tableOut (tgt := 384) hx hb dX4_does_94 (by decide) (by decide) ?_
          refine lv_aload_n hx hb dX4_does_384 rfl (lv_at hl 4 rfl) ?_
          refine lv_iload_n hx hb dX4_does_385 rfl (lv_at hl 5 rfl) ?_
          refine callR (runV hx hb hg hown hml hl.1 (c_X4_sets l D k ad (V) hv hq) [.int (nI q)] [] (preR (mapSome_sub hh.1 [0, 1, 2, 3, 4, 5, 6, 7, 8, 9, 10, 11, 12, 13, 14, 15, 16, 17, 18, 19, 20, 21, 22] rfl) hK hN xb0 x0) (va_recv hK hh.1 (ci := 4) (q0 := 0) rfl rfl) wd_755 wd_757 wd_37 wd_53 wd_758 lk_X4_sets ⟨rfl, rfl⟩ ⟨by decide, by decide⟩ ⟨Nat.zero_le _, Nat.zero_le _⟩ rfl (Nat.le_of_ble_eq_true rfl) dX4_does_386) (fun r_386 q_386 => ?_)
          obtain rfl := q_386
          rw [show stI (pq (V)) q = -4 by show stI (pq V) q = -4; unfold stI; rw [hkd]; rfl]
          refine lv_if_lt (tgt := 401) hx hb dX4_does_389 (by decide) (fun c_389 => ?_) (fun c_389 => ?_)
          · refine lv_aload_n hx hb dX4_does_401 rfl (lv_at hl 4 rfl) ?_
            refine lv_iload hx hb dX4_does_402 (lv_at hl 0 rfl) ?_
            refine pfl hx hb hg inX4 tyX4 tyX4_ok nmX4 hown hK hh 0 (ci := 4) rfl rfl 32 (by decide) wd_583 rfl rfl rfl (Nat.le_of_ble_eq_true rfl) dX4_does_404 (wQ k ad (va_up V 0 (upd (V 0) 32 0))) rfl (fun H locs hh => ?_)
            refine lv_iconst (v := 1) hx hb dX4_does_407 (by decide) ?_
            have eT : tlS (pq V) (fun j => V 9 (4 * t + j)) (V 17) (V 18) (V 19) (V 20) q = 0 := tl_0 hF hkd (by decide)
            exact retZ (Wd := wQ k ad) (v := 1) (va_up V 0 (upd (V 0) 32 0)) hx hb hr hlocks rfl dX4_does_408 hh (⟨by rw [hF]; rfl, by rw [re_n hF hkd (by decide), up_n (by decide)], by rw [ti_n hF hkd (by decide), up_n (by decide)], by rw [gl_n hF hkd (by decide), up_n (by decide)], by rw [up_s, upd_s, eT], (Fr.rf.up (by decide)), fun j hj => by rw [up_s, upd_n hj]⟩)
          · exact absurd (show ¬ ((-4 : Int32) < (0 : Int32)) from c_389) (by decide)
        · exact absurd (show (0 : Int32) = (10 : Int32) from c_67) (by decide)
    · exact absurd (show (0 : Int32) = (6 : Int32) from c_35) (by decide)
  · have hkd : kd (pq V) q = 1 := hkd
    have hlA : lim 8 (V 2 q) := hlA
    obtain ⟨a1, ha1, hae⟩ := lim_nI hlA (by decide)
    refine lv_aload_n hx hb dX4_does_27 rfl (lv_at hl 4 rfl) ?_
    refine gfl hx hb hg inX4 hown hK hh.1 0 (ci := 4) rfl rfl 1 (by decide) wd_552 rfl dX4_does_28 ?_
    refine lv_iload_n hx hb dX4_does_31 rfl (lv_at hl 5 rfl) ?_
    refine ldn hx hb hK hh.1 1 0 rfl rfl (by omega) (by decide) dX4_does_32 ?_
    refine topv (1) hk ?_
    refine lv_bipush (v := 6) hx hb dX4_does_33 (by decide) ?_
    refine lv_icmp_ne (tgt := 48) hx hb dX4_does_35 (by decide) (fun c_35 => ?_) (fun c_35 => ?_)
    · refine lv_aload_n hx hb dX4_does_48 rfl (lv_at hl 4 rfl) ?_
      refine gfl hx hb hg inX4 hown hK hh.1 0 (ci := 4) rfl rfl 1 (by decide) wd_552 rfl dX4_does_49 ?_
      refine lv_iload_n hx hb dX4_does_52 rfl (lv_at hl 5 rfl) ?_
      refine ldn hx hb hK hh.1 1 0 rfl rfl (by omega) (by decide) dX4_does_53 ?_
      refine topv (1) hk ?_
      refine lv_bipush (v := 9) hx hb dX4_does_54 (by decide) ?_
      refine lv_icmp_eq (tgt := 70) hx hb dX4_does_56 (by decide) (fun c_56 => ?_) (fun c_56 => ?_)
      · exact absurd (show (1 : Int32) = (9 : Int32) from c_56) (by decide)
      · refine lv_aload_n hx hb dX4_does_59 rfl (lv_at hl 4 rfl) ?_
        refine gfl hx hb hg inX4 hown hK hh.1 0 (ci := 4) rfl rfl 1 (by decide) wd_552 rfl dX4_does_60 ?_
        refine lv_iload_n hx hb dX4_does_63 rfl (lv_at hl 5 rfl) ?_
        refine ldn hx hb hK hh.1 1 0 rfl rfl (by omega) (by decide) dX4_does_64 ?_
        refine topv (1) hk ?_
        refine lv_bipush (v := 10) hx hb dX4_does_65 (by decide) ?_
        refine lv_icmp_ne (tgt := 88) hx hb dX4_does_67 (by decide) (fun c_67 => ?_) (fun c_67 => ?_)
        · have hF : stF (pq V) (V 17) q = false := by unfold stF fgB; rw [hkd]; simp
          refine lv_aload_n hx hb dX4_does_88 rfl (lv_at hl 4 rfl) ?_
          refine gfl hx hb hg inX4 hown hK hh.1 0 (ci := 4) rfl rfl 1 (by decide) wd_552 rfl dX4_does_89 ?_
          refine lv_iload_n hx hb dX4_does_92 rfl (lv_at hl 5 rfl) ?_
          refine ldn hx hb hK hh.1 1 0 rfl rfl (by omega) (by decide) dX4_does_93 ?_
          refine topv (1) hk ?_
          refine lv_tableIn (off := 58) (tgt := 152) hx hb dX4_does_94 (by decide) (by decide) (by rfl) (by decide) ?_
          refine lv_iload hx hb dX4_does_152 (lv_at hl 2 rfl) ?_
          refine lv_istore (lv' := [(7, .int ((V 3) q)), (6, .int ((V 4) q)), (5, .int ((V 3) q)), (4, .int ((V 2) q)), (0, .ref (ad 0)), (1, .int (nI q)), (2, .ref (ad 9)), (3, .int (nI (4 * t)))]) hx hb dX4_does_154 hl (by decide) rfl (fun ls hl => ?_)
          refine lv_goto (tgt := 384) hx hb dX4_does_156 (by decide) ?_
          refine lv_aload_n hx hb dX4_does_384 rfl (lv_at hl 4 rfl) ?_
          refine lv_iload_n hx hb dX4_does_385 rfl (lv_at hl 5 rfl) ?_
          refine callR (runV hx hb hg hown hml hl.1 (c_X4_sets l D k ad (V) hv hq) [.int (nI q)] [] (preR (mapSome_sub hh.1 [0, 1, 2, 3, 4, 5, 6, 7, 8, 9, 10, 11, 12, 13, 14, 15, 16, 17, 18, 19, 20, 21, 22] rfl) hK hN xb0 x0) (va_recv hK hh.1 (ci := 4) (q0 := 0) rfl rfl) wd_755 wd_757 wd_37 wd_53 wd_758 lk_X4_sets ⟨rfl, rfl⟩ ⟨by decide, by decide⟩ ⟨Nat.zero_le _, Nat.zero_le _⟩ rfl (Nat.le_of_ble_eq_true rfl) dX4_does_386) (fun r_386 q_386 => ?_)
          obtain rfl := q_386
          rw [show stI (pq V) q = nI a1 by unfold stI; rw [hkd]; exact hae]
          refine lv_if_lt (tgt := 401) hx hb dX4_does_389 (by decide) (fun c_389 => ?_) (fun c_389 => ?_)
          · have c_389 : a1 < 0 := (nI_ltI (a := a1) (b := 0) (by omega) (by omega)).mp c_389
            exact absurd c_389 (by omega)
          · have c_389 : ¬ a1 < 0 := fun z => c_389 ((nI_ltI (a := a1) (b := 0) (by omega) (by omega)).mpr z)
            refine lv_aload_n hx hb dX4_does_392 rfl (lv_at hl 4 rfl) ?_
            refine gfl hx hb hg inX4 hown hK hh.1 0 (ci := 4) rfl rfl 24 (by decide) wd_575 rfl dX4_does_393 ?_
            refine lv_iload hx hb dX4_does_396 (lv_at hl 3 rfl) ?_
            refine lv_iload hx hb dX4_does_398 (lv_at hl 0 rfl) ?_
            refine stx hx hb hK hh 17 0 rfl rfl (vp_lim (n := 8) hlA (by decide) (by decide)) dX4_does_400 (wQ k ad (va_up V 17 (upd (V 17) (((V 2) q).toNatClampNeg) ((V 3) q)))) rfl (fun H locs hh => ?_)
            refine lv_aload_n hx hb dX4_does_401 rfl (lv_at hl 4 rfl) ?_
            refine lv_iload hx hb dX4_does_402 (lv_at hl 0 rfl) ?_
            refine pfl hx hb hg inX4 tyX4 tyX4_ok nmX4 hown hK hh 0 (ci := 4) rfl rfl 32 (by decide) wd_583 rfl rfl rfl (Nat.le_of_ble_eq_true rfl) dX4_does_404 (wQ k ad (va_up (va_up V 17 (upd (V 17) (((V 2) q).toNatClampNeg) ((V 3) q))) 0 (upd ((va_up V 17 (upd (V 17) (((V 2) q).toNatClampNeg) ((V 3) q))) 0) 32 ((V 3) q)))) rfl (fun H locs hh => ?_)
            refine lv_iconst (v := 1) hx hb dX4_does_407 (by decide) ?_
            have eT : tlS (pq V) (fun j => V 9 (4 * t + j)) (V 17) (V 18) (V 19) (V 20) q = (V 3) q := (tl_v hF hkd (by decide) (by decide) (by decide)).trans vl_1
            exact retZ (Wd := wQ k ad) (v := 1) (va_up (va_up V 17 (upd (V 17) (((V 2) q).toNatClampNeg) ((V 3) q))) 0 (upd ((va_up V 17 (upd (V 17) (((V 2) q).toNatClampNeg) ((V 3) q))) 0) 32 ((V 3) q))) hx hb hr hlocks rfl dX4_does_408 hh (⟨by rw [hF]; rfl, by rw [re_u hF hkd (by decide), eT, up_n (by decide), up_s]; first | done | rfl, by rw [ti_n hF hkd (by decide), up_n (by decide), up_n (by decide)], by rw [gl_n hF hkd (by decide), up_n (by decide), up_n (by decide)], by rw [up_s, upd_s, eT], ((Fr.rf.up (by decide)).up (by decide)), fun j hj => by rw [up_s, upd_n hj, up_n (by decide)]⟩)
        · exact absurd (show (1 : Int32) = (10 : Int32) from c_67) (by decide)
    · exact absurd (show (1 : Int32) = (6 : Int32) from c_35) (by decide)
  · have hkd : kd (pq V) q = 2 := hkd
    have hlA : lim 8 (V 2 q) := hlA
    have hlB : lim 4 (V 3 q) := hlB
    obtain ⟨b1, hb1, hbe⟩ := lim_nI hlB (by decide)
    obtain ⟨a1, ha1, hae⟩ := lim_nI hlA (by decide)
    refine lv_aload_n hx hb dX4_does_27 rfl (lv_at hl 4 rfl) ?_
    refine gfl hx hb hg inX4 hown hK hh.1 0 (ci := 4) rfl rfl 1 (by decide) wd_552 rfl dX4_does_28 ?_
    refine lv_iload_n hx hb dX4_does_31 rfl (lv_at hl 5 rfl) ?_
    refine ldn hx hb hK hh.1 1 0 rfl rfl (by omega) (by decide) dX4_does_32 ?_
    refine topv (2) hk ?_
    refine lv_bipush (v := 6) hx hb dX4_does_33 (by decide) ?_
    refine lv_icmp_ne (tgt := 48) hx hb dX4_does_35 (by decide) (fun c_35 => ?_) (fun c_35 => ?_)
    · refine lv_aload_n hx hb dX4_does_48 rfl (lv_at hl 4 rfl) ?_
      refine gfl hx hb hg inX4 hown hK hh.1 0 (ci := 4) rfl rfl 1 (by decide) wd_552 rfl dX4_does_49 ?_
      refine lv_iload_n hx hb dX4_does_52 rfl (lv_at hl 5 rfl) ?_
      refine ldn hx hb hK hh.1 1 0 rfl rfl (by omega) (by decide) dX4_does_53 ?_
      refine topv (2) hk ?_
      refine lv_bipush (v := 9) hx hb dX4_does_54 (by decide) ?_
      refine lv_icmp_eq (tgt := 70) hx hb dX4_does_56 (by decide) (fun c_56 => ?_) (fun c_56 => ?_)
      · exact absurd (show (2 : Int32) = (9 : Int32) from c_56) (by decide)
      · refine lv_aload_n hx hb dX4_does_59 rfl (lv_at hl 4 rfl) ?_
        refine gfl hx hb hg inX4 hown hK hh.1 0 (ci := 4) rfl rfl 1 (by decide) wd_552 rfl dX4_does_60 ?_
        refine lv_iload_n hx hb dX4_does_63 rfl (lv_at hl 5 rfl) ?_
        refine ldn hx hb hK hh.1 1 0 rfl rfl (by omega) (by decide) dX4_does_64 ?_
        refine topv (2) hk ?_
        refine lv_bipush (v := 10) hx hb dX4_does_65 (by decide) ?_
        refine lv_icmp_ne (tgt := 88) hx hb dX4_does_67 (by decide) (fun c_67 => ?_) (fun c_67 => ?_)
        · have hF : stF (pq V) (V 17) q = false := by unfold stF fgB; rw [hkd]; simp
          refine lv_aload_n hx hb dX4_does_88 rfl (lv_at hl 4 rfl) ?_
          refine gfl hx hb hg inX4 hown hK hh.1 0 (ci := 4) rfl rfl 1 (by decide) wd_552 rfl dX4_does_89 ?_
          refine lv_iload_n hx hb dX4_does_92 rfl (lv_at hl 5 rfl) ?_
          refine ldn hx hb hK hh.1 1 0 rfl rfl (by omega) (by decide) dX4_does_93 ?_
          refine topv (2) hk ?_
          refine lv_tableIn (off := 65) (tgt := 159) hx hb dX4_does_94 (by decide) (by decide) (by rfl) (by decide) ?_
          refine lv_aload_n hx hb dX4_does_159 rfl (lv_at hl 6 rfl) ?_
          refine lv_iload_n hx hb dX4_does_160 rfl (lv_at hl 7 rfl) ?_
          refine lv_iload hx hb dX4_does_161 (lv_at hl 2 rfl) ?_
          refine topv (nI b1) hbe ?_
          refine lv_iadd hx hb dX4_does_163 ?_
          refine topv (nI (4 * t + b1)) (nI_add (4 * t) b1) ?_
          refine ldn hx hb hK hh.1 9 0 rfl rfl (by omega) (by decide) dX4_does_164 ?_
          refine lv_istore (lv' := [(7, .int ((V 9) (4 * t + b1))), (6, .int ((V 4) q)), (5, .int ((V 3) q)), (4, .int ((V 2) q)), (0, .ref (ad 0)), (1, .int (nI q)), (2, .ref (ad 9)), (3, .int (nI (4 * t)))]) hx hb dX4_does_165 hl (by decide) rfl (fun ls hl => ?_)
          refine lv_goto (tgt := 384) hx hb dX4_does_167 (by decide) ?_
          refine lv_aload_n hx hb dX4_does_384 rfl (lv_at hl 4 rfl) ?_
          refine lv_iload_n hx hb dX4_does_385 rfl (lv_at hl 5 rfl) ?_
          refine callR (runV hx hb hg hown hml hl.1 (c_X4_sets l D k ad (V) hv hq) [.int (nI q)] [] (preR (mapSome_sub hh.1 [0, 1, 2, 3, 4, 5, 6, 7, 8, 9, 10, 11, 12, 13, 14, 15, 16, 17, 18, 19, 20, 21, 22] rfl) hK hN xb0 x0) (va_recv hK hh.1 (ci := 4) (q0 := 0) rfl rfl) wd_755 wd_757 wd_37 wd_53 wd_758 lk_X4_sets ⟨rfl, rfl⟩ ⟨by decide, by decide⟩ ⟨Nat.zero_le _, Nat.zero_le _⟩ rfl (Nat.le_of_ble_eq_true rfl) dX4_does_386) (fun r_386 q_386 => ?_)
          obtain rfl := q_386
          rw [show stI (pq V) q = nI a1 by unfold stI; rw [hkd]; exact hae]
          refine lv_if_lt (tgt := 401) hx hb dX4_does_389 (by decide) (fun c_389 => ?_) (fun c_389 => ?_)
          · have c_389 : a1 < 0 := (nI_ltI (a := a1) (b := 0) (by omega) (by omega)).mp c_389
            exact absurd c_389 (by omega)
          · have c_389 : ¬ a1 < 0 := fun z => c_389 ((nI_ltI (a := a1) (b := 0) (by omega) (by omega)).mpr z)
            refine lv_aload_n hx hb dX4_does_392 rfl (lv_at hl 4 rfl) ?_
            refine gfl hx hb hg inX4 hown hK hh.1 0 (ci := 4) rfl rfl 24 (by decide) wd_575 rfl dX4_does_393 ?_
            refine lv_iload hx hb dX4_does_396 (lv_at hl 3 rfl) ?_
            refine lv_iload hx hb dX4_does_398 (lv_at hl 0 rfl) ?_
            refine stx hx hb hK hh 17 0 rfl rfl (vp_lim (n := 8) hlA (by decide) (by decide)) dX4_does_400 (wQ k ad (va_up V 17 (upd (V 17) (((V 2) q).toNatClampNeg) ((V 9) (4 * t + b1))))) rfl (fun H locs hh => ?_)
            refine lv_aload_n hx hb dX4_does_401 rfl (lv_at hl 4 rfl) ?_
            refine lv_iload hx hb dX4_does_402 (lv_at hl 0 rfl) ?_
            refine pfl hx hb hg inX4 tyX4 tyX4_ok nmX4 hown hK hh 0 (ci := 4) rfl rfl 32 (by decide) wd_583 rfl rfl rfl (Nat.le_of_ble_eq_true rfl) dX4_does_404 (wQ k ad (va_up (va_up V 17 (upd (V 17) (((V 2) q).toNatClampNeg) ((V 9) (4 * t + b1)))) 0 (upd ((va_up V 17 (upd (V 17) (((V 2) q).toNatClampNeg) ((V 9) (4 * t + b1)))) 0) 32 ((V 9) (4 * t + b1))))) rfl (fun H locs hh => ?_)
            refine lv_iconst (v := 1) hx hb dX4_does_407 (by decide) ?_
            have eT : tlS (pq V) (fun j => V 9 (4 * t + j)) (V 17) (V 18) (V 19) (V 20) q = (V 9) (4 * t + b1) := ((tl_v hF hkd (by decide) (by decide) (by decide)).trans vl_2).trans (by show V 9 (4 * t + ix (V 3 q)) = _; rw [hbe, ix_nI (by omega)])
            exact retZ (Wd := wQ k ad) (v := 1) (va_up (va_up V 17 (upd (V 17) (((V 2) q).toNatClampNeg) ((V 9) (4 * t + b1)))) 0 (upd ((va_up V 17 (upd (V 17) (((V 2) q).toNatClampNeg) ((V 9) (4 * t + b1)))) 0) 32 ((V 9) (4 * t + b1)))) hx hb hr hlocks rfl dX4_does_408 hh (⟨by rw [hF]; rfl, by rw [re_u hF hkd (by decide), eT, up_n (by decide), up_s]; first | done | rfl, by rw [ti_n hF hkd (by decide), up_n (by decide), up_n (by decide)], by rw [gl_n hF hkd (by decide), up_n (by decide), up_n (by decide)], by rw [up_s, upd_s, eT], ((Fr.rf.up (by decide)).up (by decide)), fun j hj => by rw [up_s, upd_n hj, up_n (by decide)]⟩)
        · exact absurd (show (2 : Int32) = (10 : Int32) from c_67) (by decide)
    · exact absurd (show (2 : Int32) = (6 : Int32) from c_35) (by decide)
  · have hkd : kd (pq V) q = 3 := hkd
    have hlA : lim 8 (V 2 q) := hlA
    have hlB : lim 8 (V 3 q) := hlB
    have hlC : lim 8 (V 4 q) := hlC
    obtain ⟨a1, ha1, hae⟩ := lim_nI hlA (by decide)
    refine lv_aload_n hx hb dX4_does_27 rfl (lv_at hl 4 rfl) ?_
    refine gfl hx hb hg inX4 hown hK hh.1 0 (ci := 4) rfl rfl 1 (by decide) wd_552 rfl dX4_does_28 ?_
    refine lv_iload_n hx hb dX4_does_31 rfl (lv_at hl 5 rfl) ?_
    refine ldn hx hb hK hh.1 1 0 rfl rfl (by omega) (by decide) dX4_does_32 ?_
    refine topv (3) hk ?_
    refine lv_bipush (v := 6) hx hb dX4_does_33 (by decide) ?_
    refine lv_icmp_ne (tgt := 48) hx hb dX4_does_35 (by decide) (fun c_35 => ?_) (fun c_35 => ?_)
    · refine lv_aload_n hx hb dX4_does_48 rfl (lv_at hl 4 rfl) ?_
      refine gfl hx hb hg inX4 hown hK hh.1 0 (ci := 4) rfl rfl 1 (by decide) wd_552 rfl dX4_does_49 ?_
      refine lv_iload_n hx hb dX4_does_52 rfl (lv_at hl 5 rfl) ?_
      refine ldn hx hb hK hh.1 1 0 rfl rfl (by omega) (by decide) dX4_does_53 ?_
      refine topv (3) hk ?_
      refine lv_bipush (v := 9) hx hb dX4_does_54 (by decide) ?_
      refine lv_icmp_eq (tgt := 70) hx hb dX4_does_56 (by decide) (fun c_56 => ?_) (fun c_56 => ?_)
      · exact absurd (show (3 : Int32) = (9 : Int32) from c_56) (by decide)
      · refine lv_aload_n hx hb dX4_does_59 rfl (lv_at hl 4 rfl) ?_
        refine gfl hx hb hg inX4 hown hK hh.1 0 (ci := 4) rfl rfl 1 (by decide) wd_552 rfl dX4_does_60 ?_
        refine lv_iload_n hx hb dX4_does_63 rfl (lv_at hl 5 rfl) ?_
        refine ldn hx hb hK hh.1 1 0 rfl rfl (by omega) (by decide) dX4_does_64 ?_
        refine topv (3) hk ?_
        refine lv_bipush (v := 10) hx hb dX4_does_65 (by decide) ?_
        refine lv_icmp_ne (tgt := 88) hx hb dX4_does_67 (by decide) (fun c_67 => ?_) (fun c_67 => ?_)
        · have hF : stF (pq V) (V 17) q = false := by unfold stF fgB; rw [hkd]; simp
          refine lv_aload_n hx hb dX4_does_88 rfl (lv_at hl 4 rfl) ?_
          refine gfl hx hb hg inX4 hown hK hh.1 0 (ci := 4) rfl rfl 1 (by decide) wd_552 rfl dX4_does_89 ?_
          refine lv_iload_n hx hb dX4_does_92 rfl (lv_at hl 5 rfl) ?_
          refine ldn hx hb hK hh.1 1 0 rfl rfl (by omega) (by decide) dX4_does_93 ?_
          refine topv (3) hk ?_
          refine lv_tableIn (off := 76) (tgt := 170) hx hb dX4_does_94 (by decide) (by decide) (by rfl) (by decide) ?_
          refine lv_aload_n hx hb dX4_does_170 rfl (lv_at hl 4 rfl) ?_
          refine gfl hx hb hg inX4 hown hK hh.1 0 (ci := 4) rfl rfl 24 (by decide) wd_575 rfl dX4_does_171 ?_
          refine lv_iload hx hb dX4_does_174 (lv_at hl 2 rfl) ?_
          refine ldx hx hb hK hh.1 17 0 rfl rfl (vp_lim (n := 8) hlB (by decide) (by decide)) dX4_does_176 ?_
          refine lv_aload_n hx hb dX4_does_177 rfl (lv_at hl 4 rfl) ?_
          refine gfl hx hb hg inX4 hown hK hh.1 0 (ci := 4) rfl rfl 24 (by decide) wd_575 rfl dX4_does_178 ?_
          refine lv_iload hx hb dX4_does_181 (lv_at hl 1 rfl) ?_
          refine ldx hx hb hK hh.1 17 0 rfl rfl (vp_lim (n := 8) hlC (by decide) (by decide)) dX4_does_183 ?_
          refine lv_iadd hx hb dX4_does_184 ?_
          refine lv_istore (lv' := [(7, .int (((V 17) ((V 3) q).toNatClampNeg) + ((V 17) ((V 4) q).toNatClampNeg))), (6, .int ((V 4) q)), (5, .int ((V 3) q)), (4, .int ((V 2) q)), (0, .ref (ad 0)), (1, .int (nI q)), (2, .ref (ad 9)), (3, .int (nI (4 * t)))]) hx hb dX4_does_185 hl (by decide) rfl (fun ls hl => ?_)
          refine lv_goto (tgt := 384) hx hb dX4_does_187 (by decide) ?_
          refine lv_aload_n hx hb dX4_does_384 rfl (lv_at hl 4 rfl) ?_
          refine lv_iload_n hx hb dX4_does_385 rfl (lv_at hl 5 rfl) ?_
          refine callR (runV hx hb hg hown hml hl.1 (c_X4_sets l D k ad (V) hv hq) [.int (nI q)] [] (preR (mapSome_sub hh.1 [0, 1, 2, 3, 4, 5, 6, 7, 8, 9, 10, 11, 12, 13, 14, 15, 16, 17, 18, 19, 20, 21, 22] rfl) hK hN xb0 x0) (va_recv hK hh.1 (ci := 4) (q0 := 0) rfl rfl) wd_755 wd_757 wd_37 wd_53 wd_758 lk_X4_sets ⟨rfl, rfl⟩ ⟨by decide, by decide⟩ ⟨Nat.zero_le _, Nat.zero_le _⟩ rfl (Nat.le_of_ble_eq_true rfl) dX4_does_386) (fun r_386 q_386 => ?_)
          obtain rfl := q_386
          rw [show stI (pq V) q = nI a1 by unfold stI; rw [hkd]; exact hae]
          refine lv_if_lt (tgt := 401) hx hb dX4_does_389 (by decide) (fun c_389 => ?_) (fun c_389 => ?_)
          · have c_389 : a1 < 0 := (nI_ltI (a := a1) (b := 0) (by omega) (by omega)).mp c_389
            exact absurd c_389 (by omega)
          · have c_389 : ¬ a1 < 0 := fun z => c_389 ((nI_ltI (a := a1) (b := 0) (by omega) (by omega)).mpr z)
            refine lv_aload_n hx hb dX4_does_392 rfl (lv_at hl 4 rfl) ?_
            refine gfl hx hb hg inX4 hown hK hh.1 0 (ci := 4) rfl rfl 24 (by decide) wd_575 rfl dX4_does_393 ?_
            refine lv_iload hx hb dX4_does_396 (lv_at hl 3 rfl) ?_
            refine lv_iload hx hb dX4_does_398 (lv_at hl 0 rfl) ?_
            refine stx hx hb hK hh 17 0 rfl rfl (vp_lim (n := 8) hlA (by decide) (by decide)) dX4_does_400 (wQ k ad (va_up V 17 (upd (V 17) (((V 2) q).toNatClampNeg) (((V 17) ((V 3) q).toNatClampNeg) + ((V 17) ((V 4) q).toNatClampNeg))))) rfl (fun H locs hh => ?_)
            refine lv_aload_n hx hb dX4_does_401 rfl (lv_at hl 4 rfl) ?_
            refine lv_iload hx hb dX4_does_402 (lv_at hl 0 rfl) ?_
            refine pfl hx hb hg inX4 tyX4 tyX4_ok nmX4 hown hK hh 0 (ci := 4) rfl rfl 32 (by decide) wd_583 rfl rfl rfl (Nat.le_of_ble_eq_true rfl) dX4_does_404 (wQ k ad (va_up (va_up V 17 (upd (V 17) (((V 2) q).toNatClampNeg) (((V 17) ((V 3) q).toNatClampNeg) + ((V 17) ((V 4) q).toNatClampNeg)))) 0 (upd ((va_up V 17 (upd (V 17) (((V 2) q).toNatClampNeg) (((V 17) ((V 3) q).toNatClampNeg) + ((V 17) ((V 4) q).toNatClampNeg)))) 0) 32 (((V 17) ((V 3) q).toNatClampNeg) + ((V 17) ((V 4) q).toNatClampNeg))))) rfl (fun H locs hh => ?_)
            refine lv_iconst (v := 1) hx hb dX4_does_407 (by decide) ?_
            have eT : tlS (pq V) (fun j => V 9 (4 * t + j)) (V 17) (V 18) (V 19) (V 20) q = ((V 17) ((V 3) q).toNatClampNeg) + ((V 17) ((V 4) q).toNatClampNeg) := (tl_v hF hkd (by decide) (by decide) (by decide)).trans vl_3
            exact retZ (Wd := wQ k ad) (v := 1) (va_up (va_up V 17 (upd (V 17) (((V 2) q).toNatClampNeg) (((V 17) ((V 3) q).toNatClampNeg) + ((V 17) ((V 4) q).toNatClampNeg)))) 0 (upd ((va_up V 17 (upd (V 17) (((V 2) q).toNatClampNeg) (((V 17) ((V 3) q).toNatClampNeg) + ((V 17) ((V 4) q).toNatClampNeg)))) 0) 32 (((V 17) ((V 3) q).toNatClampNeg) + ((V 17) ((V 4) q).toNatClampNeg)))) hx hb hr hlocks rfl dX4_does_408 hh (⟨by rw [hF]; rfl, by rw [re_u hF hkd (by decide), eT, up_n (by decide), up_s]; first | done | rfl, by rw [ti_n hF hkd (by decide), up_n (by decide), up_n (by decide)], by rw [gl_n hF hkd (by decide), up_n (by decide), up_n (by decide)], by rw [up_s, upd_s, eT], ((Fr.rf.up (by decide)).up (by decide)), fun j hj => by rw [up_s, upd_n hj, up_n (by decide)]⟩)
        · exact absurd (show (3 : Int32) = (10 : Int32) from c_67) (by decide)
    · exact absurd (show (3 : Int32) = (6 : Int32) from c_35) (by decide)
  · have hkd : kd (pq V) q = 4 := hkd
    have hlA : lim 8 (V 2 q) := hlA
    have hlB : lim 8 (V 3 q) := hlB
    have hlC : lim 8 (V 4 q) := hlC
    obtain ⟨a1, ha1, hae⟩ := lim_nI hlA (by decide)
    refine lv_aload_n hx hb dX4_does_27 rfl (lv_at hl 4 rfl) ?_
    refine gfl hx hb hg inX4 hown hK hh.1 0 (ci := 4) rfl rfl 1 (by decide) wd_552 rfl dX4_does_28 ?_
    refine lv_iload_n hx hb dX4_does_31 rfl (lv_at hl 5 rfl) ?_
    refine ldn hx hb hK hh.1 1 0 rfl rfl (by omega) (by decide) dX4_does_32 ?_
    refine topv (4) hk ?_
    refine lv_bipush (v := 6) hx hb dX4_does_33 (by decide) ?_
    refine lv_icmp_ne (tgt := 48) hx hb dX4_does_35 (by decide) (fun c_35 => ?_) (fun c_35 => ?_)
    · refine lv_aload_n hx hb dX4_does_48 rfl (lv_at hl 4 rfl) ?_
      refine gfl hx hb hg inX4 hown hK hh.1 0 (ci := 4) rfl rfl 1 (by decide) wd_552 rfl dX4_does_49 ?_
      refine lv_iload_n hx hb dX4_does_52 rfl (lv_at hl 5 rfl) ?_
      refine ldn hx hb hK hh.1 1 0 rfl rfl (by omega) (by decide) dX4_does_53 ?_
      refine topv (4) hk ?_
      refine lv_bipush (v := 9) hx hb dX4_does_54 (by decide) ?_
      refine lv_icmp_eq (tgt := 70) hx hb dX4_does_56 (by decide) (fun c_56 => ?_) (fun c_56 => ?_)
      · exact absurd (show (4 : Int32) = (9 : Int32) from c_56) (by decide)
      · refine lv_aload_n hx hb dX4_does_59 rfl (lv_at hl 4 rfl) ?_
        refine gfl hx hb hg inX4 hown hK hh.1 0 (ci := 4) rfl rfl 1 (by decide) wd_552 rfl dX4_does_60 ?_
        refine lv_iload_n hx hb dX4_does_63 rfl (lv_at hl 5 rfl) ?_
        refine ldn hx hb hK hh.1 1 0 rfl rfl (by omega) (by decide) dX4_does_64 ?_
        refine topv (4) hk ?_
        refine lv_bipush (v := 10) hx hb dX4_does_65 (by decide) ?_
        refine lv_icmp_ne (tgt := 88) hx hb dX4_does_67 (by decide) (fun c_67 => ?_) (fun c_67 => ?_)
        · have hF : stF (pq V) (V 17) q = false := by unfold stF fgB; rw [hkd]; simp
          refine lv_aload_n hx hb dX4_does_88 rfl (lv_at hl 4 rfl) ?_
          refine gfl hx hb hg inX4 hown hK hh.1 0 (ci := 4) rfl rfl 1 (by decide) wd_552 rfl dX4_does_89 ?_
          refine lv_iload_n hx hb dX4_does_92 rfl (lv_at hl 5 rfl) ?_
          refine ldn hx hb hK hh.1 1 0 rfl rfl (by omega) (by decide) dX4_does_93 ?_
          refine topv (4) hk ?_
          refine lv_tableIn (off := 96) (tgt := 190) hx hb dX4_does_94 (by decide) (by decide) (by rfl) (by decide) ?_
          refine lv_aload_n hx hb dX4_does_190 rfl (lv_at hl 4 rfl) ?_
          refine gfl hx hb hg inX4 hown hK hh.1 0 (ci := 4) rfl rfl 24 (by decide) wd_575 rfl dX4_does_191 ?_
          refine lv_iload hx hb dX4_does_194 (lv_at hl 2 rfl) ?_
          refine ldx hx hb hK hh.1 17 0 rfl rfl (vp_lim (n := 8) hlB (by decide) (by decide)) dX4_does_196 ?_
          refine lv_aload_n hx hb dX4_does_197 rfl (lv_at hl 4 rfl) ?_
          refine gfl hx hb hg inX4 hown hK hh.1 0 (ci := 4) rfl rfl 24 (by decide) wd_575 rfl dX4_does_198 ?_
          refine lv_iload hx hb dX4_does_201 (lv_at hl 1 rfl) ?_
          refine ldx hx hb hK hh.1 17 0 rfl rfl (vp_lim (n := 8) hlC (by decide) (by decide)) dX4_does_203 ?_
          refine lv_icmp_ge (tgt := 211) hx hb dX4_does_204 (by decide) (fun c_204 => ?_) (fun c_204 => ?_)
          · have c_204 : ¬ V 17 (ix (V 3 q)) < V 17 (ix (V 4 q)) := i_nlt.mpr c_204
            refine lv_iconst (v := 0) hx hb dX4_does_211 (by decide) ?_
            refine lv_istore (lv' := [(7, .int 0), (6, .int ((V 4) q)), (5, .int ((V 3) q)), (4, .int ((V 2) q)), (0, .ref (ad 0)), (1, .int (nI q)), (2, .ref (ad 9)), (3, .int (nI (4 * t)))]) hx hb dX4_does_212 hl (by decide) rfl (fun ls hl => ?_)
            refine lv_goto (tgt := 384) hx hb dX4_does_214 (by decide) ?_
            refine lv_aload_n hx hb dX4_does_384 rfl (lv_at hl 4 rfl) ?_
            refine lv_iload_n hx hb dX4_does_385 rfl (lv_at hl 5 rfl) ?_
            refine callR (runV hx hb hg hown hml hl.1 (c_X4_sets l D k ad (V) hv hq) [.int (nI q)] [] (preR (mapSome_sub hh.1 [0, 1, 2, 3, 4, 5, 6, 7, 8, 9, 10, 11, 12, 13, 14, 15, 16, 17, 18, 19, 20, 21, 22] rfl) hK hN xb0 x0) (va_recv hK hh.1 (ci := 4) (q0 := 0) rfl rfl) wd_755 wd_757 wd_37 wd_53 wd_758 lk_X4_sets ⟨rfl, rfl⟩ ⟨by decide, by decide⟩ ⟨Nat.zero_le _, Nat.zero_le _⟩ rfl (Nat.le_of_ble_eq_true rfl) dX4_does_386) (fun r_386 q_386 => ?_)
            obtain rfl := q_386
            rw [show stI (pq V) q = nI a1 by unfold stI; rw [hkd]; exact hae]
            refine lv_if_lt (tgt := 401) hx hb dX4_does_389 (by decide) (fun c_389 => ?_) (fun c_389 => ?_)
            · have c_389 : a1 < 0 := (nI_ltI (a := a1) (b := 0) (by omega) (by omega)).mp c_389
              exact absurd c_389 (by omega)
            · have c_389 : ¬ a1 < 0 := fun z => c_389 ((nI_ltI (a := a1) (b := 0) (by omega) (by omega)).mpr z)
              refine lv_aload_n hx hb dX4_does_392 rfl (lv_at hl 4 rfl) ?_
              refine gfl hx hb hg inX4 hown hK hh.1 0 (ci := 4) rfl rfl 24 (by decide) wd_575 rfl dX4_does_393 ?_
              refine lv_iload hx hb dX4_does_396 (lv_at hl 3 rfl) ?_
              refine lv_iload hx hb dX4_does_398 (lv_at hl 0 rfl) ?_
              refine stx hx hb hK hh 17 0 rfl rfl (vp_lim (n := 8) hlA (by decide) (by decide)) dX4_does_400 (wQ k ad (va_up V 17 (upd (V 17) (((V 2) q).toNatClampNeg) 0))) rfl (fun H locs hh => ?_)
              refine lv_aload_n hx hb dX4_does_401 rfl (lv_at hl 4 rfl) ?_
              refine lv_iload hx hb dX4_does_402 (lv_at hl 0 rfl) ?_
              refine pfl hx hb hg inX4 tyX4 tyX4_ok nmX4 hown hK hh 0 (ci := 4) rfl rfl 32 (by decide) wd_583 rfl rfl rfl (Nat.le_of_ble_eq_true rfl) dX4_does_404 (wQ k ad (va_up (va_up V 17 (upd (V 17) (((V 2) q).toNatClampNeg) 0)) 0 (upd ((va_up V 17 (upd (V 17) (((V 2) q).toNatClampNeg) 0)) 0) 32 0))) rfl (fun H locs hh => ?_)
              refine lv_iconst (v := 1) hx hb dX4_does_407 (by decide) ?_
              have eT : tlS (pq V) (fun j => V 9 (4 * t + j)) (V 17) (V 18) (V 19) (V 20) q = 0 := ((tl_v hF hkd (by decide) (by decide) (by decide)).trans vl_4).trans (by show (if V 17 (ix (V 3 q)) < V 17 (ix (V 4 q)) then (1 : Int32) else 0) = _; rw [if_neg c_204])
              exact retZ (Wd := wQ k ad) (v := 1) (va_up (va_up V 17 (upd (V 17) (((V 2) q).toNatClampNeg) 0)) 0 (upd ((va_up V 17 (upd (V 17) (((V 2) q).toNatClampNeg) 0)) 0) 32 0)) hx hb hr hlocks rfl dX4_does_408 hh (⟨by rw [hF]; rfl, by rw [re_u hF hkd (by decide), eT, up_n (by decide), up_s]; first | done | rfl, by rw [ti_n hF hkd (by decide), up_n (by decide), up_n (by decide)], by rw [gl_n hF hkd (by decide), up_n (by decide), up_n (by decide)], by rw [up_s, upd_s, eT], ((Fr.rf.up (by decide)).up (by decide)), fun j hj => by rw [up_s, upd_n hj, up_n (by decide)]⟩)
          · have c_204 : V 17 (ix (V 3 q)) < V 17 (ix (V 4 q)) := i_nle.mp c_204
            refine lv_iconst (v := 1) hx hb dX4_does_207 (by decide) ?_
            refine lv_goto (tgt := 212) hx hb dX4_does_208 (by decide) ?_
            refine lv_istore (lv' := [(7, .int 1), (6, .int ((V 4) q)), (5, .int ((V 3) q)), (4, .int ((V 2) q)), (0, .ref (ad 0)), (1, .int (nI q)), (2, .ref (ad 9)), (3, .int (nI (4 * t)))]) hx hb dX4_does_212 hl (by decide) rfl (fun ls hl => ?_)
            refine lv_goto (tgt := 384) hx hb dX4_does_214 (by decide) ?_
            refine lv_aload_n hx hb dX4_does_384 rfl (lv_at hl 4 rfl) ?_
            refine lv_iload_n hx hb dX4_does_385 rfl (lv_at hl 5 rfl) ?_
            refine callR (runV hx hb hg hown hml hl.1 (c_X4_sets l D k ad (V) hv hq) [.int (nI q)] [] (preR (mapSome_sub hh.1 [0, 1, 2, 3, 4, 5, 6, 7, 8, 9, 10, 11, 12, 13, 14, 15, 16, 17, 18, 19, 20, 21, 22] rfl) hK hN xb0 x0) (va_recv hK hh.1 (ci := 4) (q0 := 0) rfl rfl) wd_755 wd_757 wd_37 wd_53 wd_758 lk_X4_sets ⟨rfl, rfl⟩ ⟨by decide, by decide⟩ ⟨Nat.zero_le _, Nat.zero_le _⟩ rfl (Nat.le_of_ble_eq_true rfl) dX4_does_386) (fun r_386 q_386 => ?_)
            obtain rfl := q_386
            rw [show stI (pq V) q = nI a1 by unfold stI; rw [hkd]; exact hae]
            refine lv_if_lt (tgt := 401) hx hb dX4_does_389 (by decide) (fun c_389 => ?_) (fun c_389 => ?_)
            · have c_389 : a1 < 0 := (nI_ltI (a := a1) (b := 0) (by omega) (by omega)).mp c_389
              exact absurd c_389 (by omega)
            · have c_389 : ¬ a1 < 0 := fun z => c_389 ((nI_ltI (a := a1) (b := 0) (by omega) (by omega)).mpr z)
              refine lv_aload_n hx hb dX4_does_392 rfl (lv_at hl 4 rfl) ?_
              refine gfl hx hb hg inX4 hown hK hh.1 0 (ci := 4) rfl rfl 24 (by decide) wd_575 rfl dX4_does_393 ?_
              refine lv_iload hx hb dX4_does_396 (lv_at hl 3 rfl) ?_
              refine lv_iload hx hb dX4_does_398 (lv_at hl 0 rfl) ?_
              refine stx hx hb hK hh 17 0 rfl rfl (vp_lim (n := 8) hlA (by decide) (by decide)) dX4_does_400 (wQ k ad (va_up V 17 (upd (V 17) (((V 2) q).toNatClampNeg) 1))) rfl (fun H locs hh => ?_)
              refine lv_aload_n hx hb dX4_does_401 rfl (lv_at hl 4 rfl) ?_
              refine lv_iload hx hb dX4_does_402 (lv_at hl 0 rfl) ?_
              refine pfl hx hb hg inX4 tyX4 tyX4_ok nmX4 hown hK hh 0 (ci := 4) rfl rfl 32 (by decide) wd_583 rfl rfl rfl (Nat.le_of_ble_eq_true rfl) dX4_does_404 (wQ k ad (va_up (va_up V 17 (upd (V 17) (((V 2) q).toNatClampNeg) 1)) 0 (upd ((va_up V 17 (upd (V 17) (((V 2) q).toNatClampNeg) 1)) 0) 32 1))) rfl (fun H locs hh => ?_)
              refine lv_iconst (v := 1) hx hb dX4_does_407 (by decide) ?_
              have eT : tlS (pq V) (fun j => V 9 (4 * t + j)) (V 17) (V 18) (V 19) (V 20) q = 1 := ((tl_v hF hkd (by decide) (by decide) (by decide)).trans vl_4).trans (by show (if V 17 (ix (V 3 q)) < V 17 (ix (V 4 q)) then (1 : Int32) else 0) = _; rw [if_pos c_204])
              exact retZ (Wd := wQ k ad) (v := 1) (va_up (va_up V 17 (upd (V 17) (((V 2) q).toNatClampNeg) 1)) 0 (upd ((va_up V 17 (upd (V 17) (((V 2) q).toNatClampNeg) 1)) 0) 32 1)) hx hb hr hlocks rfl dX4_does_408 hh (⟨by rw [hF]; rfl, by rw [re_u hF hkd (by decide), eT, up_n (by decide), up_s]; first | done | rfl, by rw [ti_n hF hkd (by decide), up_n (by decide), up_n (by decide)], by rw [gl_n hF hkd (by decide), up_n (by decide), up_n (by decide)], by rw [up_s, upd_s, eT], ((Fr.rf.up (by decide)).up (by decide)), fun j hj => by rw [up_s, upd_n hj, up_n (by decide)]⟩)
        · exact absurd (show (4 : Int32) = (10 : Int32) from c_67) (by decide)
    · exact absurd (show (4 : Int32) = (6 : Int32) from c_35) (by decide)
  · have hkd : kd (pq V) q = 5 := hkd
    have hlA : lim 8 (V 2 q) := hlA
    have hlB : lim 8 (V 3 q) := hlB
    have hlC : lim 8 (V 4 q) := hlC
    obtain ⟨a1, ha1, hae⟩ := lim_nI hlA (by decide)
    refine lv_aload_n hx hb dX4_does_27 rfl (lv_at hl 4 rfl) ?_
    refine gfl hx hb hg inX4 hown hK hh.1 0 (ci := 4) rfl rfl 1 (by decide) wd_552 rfl dX4_does_28 ?_
    refine lv_iload_n hx hb dX4_does_31 rfl (lv_at hl 5 rfl) ?_
    refine ldn hx hb hK hh.1 1 0 rfl rfl (by omega) (by decide) dX4_does_32 ?_
    refine topv (5) hk ?_
    refine lv_bipush (v := 6) hx hb dX4_does_33 (by decide) ?_
    refine lv_icmp_ne (tgt := 48) hx hb dX4_does_35 (by decide) (fun c_35 => ?_) (fun c_35 => ?_)
    · refine lv_aload_n hx hb dX4_does_48 rfl (lv_at hl 4 rfl) ?_
      refine gfl hx hb hg inX4 hown hK hh.1 0 (ci := 4) rfl rfl 1 (by decide) wd_552 rfl dX4_does_49 ?_
      refine lv_iload_n hx hb dX4_does_52 rfl (lv_at hl 5 rfl) ?_
      refine ldn hx hb hK hh.1 1 0 rfl rfl (by omega) (by decide) dX4_does_53 ?_
      refine topv (5) hk ?_
      refine lv_bipush (v := 9) hx hb dX4_does_54 (by decide) ?_
      refine lv_icmp_eq (tgt := 70) hx hb dX4_does_56 (by decide) (fun c_56 => ?_) (fun c_56 => ?_)
      · exact absurd (show (5 : Int32) = (9 : Int32) from c_56) (by decide)
      · refine lv_aload_n hx hb dX4_does_59 rfl (lv_at hl 4 rfl) ?_
        refine gfl hx hb hg inX4 hown hK hh.1 0 (ci := 4) rfl rfl 1 (by decide) wd_552 rfl dX4_does_60 ?_
        refine lv_iload_n hx hb dX4_does_63 rfl (lv_at hl 5 rfl) ?_
        refine ldn hx hb hK hh.1 1 0 rfl rfl (by omega) (by decide) dX4_does_64 ?_
        refine topv (5) hk ?_
        refine lv_bipush (v := 10) hx hb dX4_does_65 (by decide) ?_
        refine lv_icmp_ne (tgt := 88) hx hb dX4_does_67 (by decide) (fun c_67 => ?_) (fun c_67 => ?_)
        · have hF : stF (pq V) (V 17) q = false := by unfold stF fgB; rw [hkd]; simp
          refine lv_aload_n hx hb dX4_does_88 rfl (lv_at hl 4 rfl) ?_
          refine gfl hx hb hg inX4 hown hK hh.1 0 (ci := 4) rfl rfl 1 (by decide) wd_552 rfl dX4_does_89 ?_
          refine lv_iload_n hx hb dX4_does_92 rfl (lv_at hl 5 rfl) ?_
          refine ldn hx hb hK hh.1 1 0 rfl rfl (by omega) (by decide) dX4_does_93 ?_
          refine topv (5) hk ?_
          refine lv_tableIn (off := 123) (tgt := 217) hx hb dX4_does_94 (by decide) (by decide) (by rfl) (by decide) ?_
          refine lv_aload_n hx hb dX4_does_217 rfl (lv_at hl 4 rfl) ?_
          refine gfl hx hb hg inX4 hown hK hh.1 0 (ci := 4) rfl rfl 24 (by decide) wd_575 rfl dX4_does_218 ?_
          refine lv_iload hx hb dX4_does_221 (lv_at hl 2 rfl) ?_
          refine ldx hx hb hK hh.1 17 0 rfl rfl (vp_lim (n := 8) hlB (by decide) (by decide)) dX4_does_223 ?_
          refine lv_aload_n hx hb dX4_does_224 rfl (lv_at hl 4 rfl) ?_
          refine gfl hx hb hg inX4 hown hK hh.1 0 (ci := 4) rfl rfl 24 (by decide) wd_575 rfl dX4_does_225 ?_
          refine lv_iload hx hb dX4_does_228 (lv_at hl 1 rfl) ?_
          refine ldx hx hb hK hh.1 17 0 rfl rfl (vp_lim (n := 8) hlC (by decide) (by decide)) dX4_does_230 ?_
          refine lv_imul hx hb dX4_does_231 ?_
          refine lv_istore (lv' := [(7, .int (((V 17) ((V 3) q).toNatClampNeg) * ((V 17) ((V 4) q).toNatClampNeg))), (6, .int ((V 4) q)), (5, .int ((V 3) q)), (4, .int ((V 2) q)), (0, .ref (ad 0)), (1, .int (nI q)), (2, .ref (ad 9)), (3, .int (nI (4 * t)))]) hx hb dX4_does_232 hl (by decide) rfl (fun ls hl => ?_)
          refine lv_goto (tgt := 384) hx hb dX4_does_234 (by decide) ?_
          refine lv_aload_n hx hb dX4_does_384 rfl (lv_at hl 4 rfl) ?_
          refine lv_iload_n hx hb dX4_does_385 rfl (lv_at hl 5 rfl) ?_
          refine callR (runV hx hb hg hown hml hl.1 (c_X4_sets l D k ad (V) hv hq) [.int (nI q)] [] (preR (mapSome_sub hh.1 [0, 1, 2, 3, 4, 5, 6, 7, 8, 9, 10, 11, 12, 13, 14, 15, 16, 17, 18, 19, 20, 21, 22] rfl) hK hN xb0 x0) (va_recv hK hh.1 (ci := 4) (q0 := 0) rfl rfl) wd_755 wd_757 wd_37 wd_53 wd_758 lk_X4_sets ⟨rfl, rfl⟩ ⟨by decide, by decide⟩ ⟨Nat.zero_le _, Nat.zero_le _⟩ rfl (Nat.le_of_ble_eq_true rfl) dX4_does_386) (fun r_386 q_386 => ?_)
          obtain rfl := q_386
          rw [show stI (pq V) q = nI a1 by unfold stI; rw [hkd]; exact hae]
          refine lv_if_lt (tgt := 401) hx hb dX4_does_389 (by decide) (fun c_389 => ?_) (fun c_389 => ?_)
          · have c_389 : a1 < 0 := (nI_ltI (a := a1) (b := 0) (by omega) (by omega)).mp c_389
            exact absurd c_389 (by omega)
          · have c_389 : ¬ a1 < 0 := fun z => c_389 ((nI_ltI (a := a1) (b := 0) (by omega) (by omega)).mpr z)
            refine lv_aload_n hx hb dX4_does_392 rfl (lv_at hl 4 rfl) ?_
            refine gfl hx hb hg inX4 hown hK hh.1 0 (ci := 4) rfl rfl 24 (by decide) wd_575 rfl dX4_does_393 ?_
            refine lv_iload hx hb dX4_does_396 (lv_at hl 3 rfl) ?_
            refine lv_iload hx hb dX4_does_398 (lv_at hl 0 rfl) ?_
            refine stx hx hb hK hh 17 0 rfl rfl (vp_lim (n := 8) hlA (by decide) (by decide)) dX4_does_400 (wQ k ad (va_up V 17 (upd (V 17) (((V 2) q).toNatClampNeg) (((V 17) ((V 3) q).toNatClampNeg) * ((V 17) ((V 4) q).toNatClampNeg))))) rfl (fun H locs hh => ?_)
            refine lv_aload_n hx hb dX4_does_401 rfl (lv_at hl 4 rfl) ?_
            refine lv_iload hx hb dX4_does_402 (lv_at hl 0 rfl) ?_
            refine pfl hx hb hg inX4 tyX4 tyX4_ok nmX4 hown hK hh 0 (ci := 4) rfl rfl 32 (by decide) wd_583 rfl rfl rfl (Nat.le_of_ble_eq_true rfl) dX4_does_404 (wQ k ad (va_up (va_up V 17 (upd (V 17) (((V 2) q).toNatClampNeg) (((V 17) ((V 3) q).toNatClampNeg) * ((V 17) ((V 4) q).toNatClampNeg)))) 0 (upd ((va_up V 17 (upd (V 17) (((V 2) q).toNatClampNeg) (((V 17) ((V 3) q).toNatClampNeg) * ((V 17) ((V 4) q).toNatClampNeg)))) 0) 32 (((V 17) ((V 3) q).toNatClampNeg) * ((V 17) ((V 4) q).toNatClampNeg))))) rfl (fun H locs hh => ?_)
            refine lv_iconst (v := 1) hx hb dX4_does_407 (by decide) ?_
            have eT : tlS (pq V) (fun j => V 9 (4 * t + j)) (V 17) (V 18) (V 19) (V 20) q = ((V 17) ((V 3) q).toNatClampNeg) * ((V 17) ((V 4) q).toNatClampNeg) := (tl_v hF hkd (by decide) (by decide) (by decide)).trans vl_5
            exact retZ (Wd := wQ k ad) (v := 1) (va_up (va_up V 17 (upd (V 17) (((V 2) q).toNatClampNeg) (((V 17) ((V 3) q).toNatClampNeg) * ((V 17) ((V 4) q).toNatClampNeg)))) 0 (upd ((va_up V 17 (upd (V 17) (((V 2) q).toNatClampNeg) (((V 17) ((V 3) q).toNatClampNeg) * ((V 17) ((V 4) q).toNatClampNeg)))) 0) 32 (((V 17) ((V 3) q).toNatClampNeg) * ((V 17) ((V 4) q).toNatClampNeg)))) hx hb hr hlocks rfl dX4_does_408 hh (⟨by rw [hF]; rfl, by rw [re_u hF hkd (by decide), eT, up_n (by decide), up_s]; first | done | rfl, by rw [ti_n hF hkd (by decide), up_n (by decide), up_n (by decide)], by rw [gl_n hF hkd (by decide), up_n (by decide), up_n (by decide)], by rw [up_s, upd_s, eT], ((Fr.rf.up (by decide)).up (by decide)), fun j hj => by rw [up_s, upd_n hj, up_n (by decide)]⟩)
        · exact absurd (show (5 : Int32) = (10 : Int32) from c_67) (by decide)
    · exact absurd (show (5 : Int32) = (6 : Int32) from c_35) (by decide)
  · have hkd : kd (pq V) q = 6 := hkd
    have hlA : lim 8 (V 2 q) := hlA
    have hlB : lim 8 (V 3 q) := hlB
    have hlC : lim 8 (V 4 q) := hlC
    obtain ⟨a1, ha1, hae⟩ := lim_nI hlA (by decide)
    refine lv_aload_n hx hb dX4_does_27 rfl (lv_at hl 4 rfl) ?_
    refine gfl hx hb hg inX4 hown hK hh.1 0 (ci := 4) rfl rfl 1 (by decide) wd_552 rfl dX4_does_28 ?_
    refine lv_iload_n hx hb dX4_does_31 rfl (lv_at hl 5 rfl) ?_
    refine ldn hx hb hK hh.1 1 0 rfl rfl (by omega) (by decide) dX4_does_32 ?_
    refine topv (6) hk ?_
    refine lv_bipush (v := 6) hx hb dX4_does_33 (by decide) ?_
    refine lv_icmp_ne (tgt := 48) hx hb dX4_does_35 (by decide) (fun c_35 => ?_) (fun c_35 => ?_)
    · exact absurd (show ¬ (6 : Int32) = (6 : Int32) from c_35) (by decide)
    · refine lv_aload_n hx hb dX4_does_38 rfl (lv_at hl 4 rfl) ?_
      refine gfl hx hb hg inX4 hown hK hh.1 0 (ci := 4) rfl rfl 24 (by decide) wd_575 rfl dX4_does_39 ?_
      refine lv_iload hx hb dX4_does_42 (lv_at hl 1 rfl) ?_
      refine ldx hx hb hK hh.1 17 0 rfl rfl (vp_lim (n := 8) hlC (by decide) (by decide)) dX4_does_44 ?_
      refine lv_if_eq (tgt := 80) hx hb dX4_does_45 (by decide) (fun c_45 => ?_) (fun c_45 => ?_)
      · have c_45 : V 17 (ix (pq V 4 q)) = 0 := c_45
        have hF : stF (pq V) (V 17) q = true := by unfold stF fgB; rw [hkd]; simp [c_45]
        refine lv_aload_n hx hb dX4_does_80 rfl (lv_at hl 4 rfl) ?_
        refine lv_ldc (v := 1000000007) hx hb hown (hg _ wd_817) dX4_does_81 ?_
        refine pfl hx hb hg inX4 tyX4 tyX4_ok nmX4 hown hK hh 0 (ci := 4) rfl rfl 32 (by decide) wd_583 rfl rfl rfl (Nat.le_of_ble_eq_true rfl) dX4_does_83 (wQ k ad (va_up V 0 (upd (V 0) 32 1000000007))) rfl (fun H locs hh => ?_)
        refine lv_iconst (v := 0) hx hb dX4_does_86 (by decide) ?_
        exact retZ (Wd := wQ k ad) (v := 0) (va_up V 0 (upd (V 0) 32 1000000007)) hx hb hr hlocks rfl dX4_does_87 hh (⟨by rw [hF]; rfl, by rw [re_F hF, up_n (by decide)], by rw [ti_F hF, up_n (by decide)], by rw [gl_F hF, up_n (by decide)], by rw [tl_F hF, up_s, upd_s], (Fr.rf.up (by decide)), fun j hj => by rw [up_s, upd_n hj]⟩)
      · have c_45 : ¬ V 17 (ix (pq V 4 q)) = 0 := c_45
        refine lv_aload_n hx hb dX4_does_48 rfl (lv_at hl 4 rfl) ?_
        refine gfl hx hb hg inX4 hown hK hh.1 0 (ci := 4) rfl rfl 1 (by decide) wd_552 rfl dX4_does_49 ?_
        refine lv_iload_n hx hb dX4_does_52 rfl (lv_at hl 5 rfl) ?_
        refine ldn hx hb hK hh.1 1 0 rfl rfl (by omega) (by decide) dX4_does_53 ?_
        refine topv (6) hk ?_
        refine lv_bipush (v := 9) hx hb dX4_does_54 (by decide) ?_
        refine lv_icmp_eq (tgt := 70) hx hb dX4_does_56 (by decide) (fun c_56 => ?_) (fun c_56 => ?_)
        · exact absurd (show (6 : Int32) = (9 : Int32) from c_56) (by decide)
        · refine lv_aload_n hx hb dX4_does_59 rfl (lv_at hl 4 rfl) ?_
          refine gfl hx hb hg inX4 hown hK hh.1 0 (ci := 4) rfl rfl 1 (by decide) wd_552 rfl dX4_does_60 ?_
          refine lv_iload_n hx hb dX4_does_63 rfl (lv_at hl 5 rfl) ?_
          refine ldn hx hb hK hh.1 1 0 rfl rfl (by omega) (by decide) dX4_does_64 ?_
          refine topv (6) hk ?_
          refine lv_bipush (v := 10) hx hb dX4_does_65 (by decide) ?_
          refine lv_icmp_ne (tgt := 88) hx hb dX4_does_67 (by decide) (fun c_67 => ?_) (fun c_67 => ?_)
          · have hF : stF (pq V) (V 17) q = false := by unfold stF fgB; rw [hkd]; simp [c_45]
            refine lv_aload_n hx hb dX4_does_88 rfl (lv_at hl 4 rfl) ?_
            refine gfl hx hb hg inX4 hown hK hh.1 0 (ci := 4) rfl rfl 1 (by decide) wd_552 rfl dX4_does_89 ?_
            refine lv_iload_n hx hb dX4_does_92 rfl (lv_at hl 5 rfl) ?_
            refine ldn hx hb hK hh.1 1 0 rfl rfl (by omega) (by decide) dX4_does_93 ?_
            refine topv (6) hk ?_
            refine lv_tableIn (off := 143) (tgt := 237) hx hb dX4_does_94 (by decide) (by decide) (by rfl) (by decide) ?_
            refine lv_aload_n hx hb dX4_does_237 rfl (lv_at hl 4 rfl) ?_
            refine gfl hx hb hg inX4 hown hK hh.1 0 (ci := 4) rfl rfl 24 (by decide) wd_575 rfl dX4_does_238 ?_
            refine lv_iload hx hb dX4_does_241 (lv_at hl 2 rfl) ?_
            refine ldx hx hb hK hh.1 17 0 rfl rfl (vp_lim (n := 8) hlB (by decide) (by decide)) dX4_does_243 ?_
            refine lv_i2l (v := ((V 17) ((V 3) q).toNatClampNeg).toInt64) hx hb dX4_does_244 rfl ?_
            refine lv_aload_n hx hb dX4_does_245 rfl (lv_at hl 4 rfl) ?_
            refine gfl hx hb hg inX4 hown hK hh.1 0 (ci := 4) rfl rfl 24 (by decide) wd_575 rfl dX4_does_246 ?_
            refine lv_iload hx hb dX4_does_249 (lv_at hl 1 rfl) ?_
            refine ldx hx hb hK hh.1 17 0 rfl rfl (vp_lim (n := 8) hlC (by decide) (by decide)) dX4_does_251 ?_
            refine lv_i2l (v := ((V 17) ((V 4) q).toNatClampNeg).toInt64) hx hb dX4_does_252 rfl ?_
            refine lv_ldiv hx hb dX4_does_253 (l_ne c_45) ?_
            refine lv_l2i (v := V 17 (V 3 q).toNatClampNeg / V 17 (V 4 q).toNatClampNeg) hx hb dX4_does_254 div_l ?_
            refine lv_istore (lv' := [(7, .int (V 17 (V 3 q).toNatClampNeg / V 17 (V 4 q).toNatClampNeg)), (6, .int ((V 4) q)), (5, .int ((V 3) q)), (4, .int ((V 2) q)), (0, .ref (ad 0)), (1, .int (nI q)), (2, .ref (ad 9)), (3, .int (nI (4 * t)))]) hx hb dX4_does_255 hl (by decide) rfl (fun ls hl => ?_)
            refine lv_goto (tgt := 384) hx hb dX4_does_257 (by decide) ?_
            refine lv_aload_n hx hb dX4_does_384 rfl (lv_at hl 4 rfl) ?_
            refine lv_iload_n hx hb dX4_does_385 rfl (lv_at hl 5 rfl) ?_
            refine callR (runV hx hb hg hown hml hl.1 (c_X4_sets l D k ad (V) hv hq) [.int (nI q)] [] (preR (mapSome_sub hh.1 [0, 1, 2, 3, 4, 5, 6, 7, 8, 9, 10, 11, 12, 13, 14, 15, 16, 17, 18, 19, 20, 21, 22] rfl) hK hN xb0 x0) (va_recv hK hh.1 (ci := 4) (q0 := 0) rfl rfl) wd_755 wd_757 wd_37 wd_53 wd_758 lk_X4_sets ⟨rfl, rfl⟩ ⟨by decide, by decide⟩ ⟨Nat.zero_le _, Nat.zero_le _⟩ rfl (Nat.le_of_ble_eq_true rfl) dX4_does_386) (fun r_386 q_386 => ?_)
            obtain rfl := q_386
            rw [show stI (pq V) q = nI a1 by unfold stI; rw [hkd]; exact hae]
            refine lv_if_lt (tgt := 401) hx hb dX4_does_389 (by decide) (fun c_389 => ?_) (fun c_389 => ?_)
            · have c_389 : a1 < 0 := (nI_ltI (a := a1) (b := 0) (by omega) (by omega)).mp c_389
              exact absurd c_389 (by omega)
            · have c_389 : ¬ a1 < 0 := fun z => c_389 ((nI_ltI (a := a1) (b := 0) (by omega) (by omega)).mpr z)
              refine lv_aload_n hx hb dX4_does_392 rfl (lv_at hl 4 rfl) ?_
              refine gfl hx hb hg inX4 hown hK hh.1 0 (ci := 4) rfl rfl 24 (by decide) wd_575 rfl dX4_does_393 ?_
              refine lv_iload hx hb dX4_does_396 (lv_at hl 3 rfl) ?_
              refine lv_iload hx hb dX4_does_398 (lv_at hl 0 rfl) ?_
              refine stx hx hb hK hh 17 0 rfl rfl (vp_lim (n := 8) hlA (by decide) (by decide)) dX4_does_400 (wQ k ad (va_up V 17 (upd (V 17) (((V 2) q).toNatClampNeg) (V 17 (V 3 q).toNatClampNeg / V 17 (V 4 q).toNatClampNeg)))) rfl (fun H locs hh => ?_)
              refine lv_aload_n hx hb dX4_does_401 rfl (lv_at hl 4 rfl) ?_
              refine lv_iload hx hb dX4_does_402 (lv_at hl 0 rfl) ?_
              refine pfl hx hb hg inX4 tyX4 tyX4_ok nmX4 hown hK hh 0 (ci := 4) rfl rfl 32 (by decide) wd_583 rfl rfl rfl (Nat.le_of_ble_eq_true rfl) dX4_does_404 (wQ k ad (va_up (va_up V 17 (upd (V 17) (((V 2) q).toNatClampNeg) (V 17 (V 3 q).toNatClampNeg / V 17 (V 4 q).toNatClampNeg))) 0 (upd ((va_up V 17 (upd (V 17) (((V 2) q).toNatClampNeg) (V 17 (V 3 q).toNatClampNeg / V 17 (V 4 q).toNatClampNeg))) 0) 32 (V 17 (V 3 q).toNatClampNeg / V 17 (V 4 q).toNatClampNeg)))) rfl (fun H locs hh => ?_)
              refine lv_iconst (v := 1) hx hb dX4_does_407 (by decide) ?_
              have eT : tlS (pq V) (fun j => V 9 (4 * t + j)) (V 17) (V 18) (V 19) (V 20) q = V 17 (V 3 q).toNatClampNeg / V 17 (V 4 q).toNatClampNeg := ((tl_v hF hkd (by decide) (by decide) (by decide)).trans vl_6).trans (if_neg (show ¬ V 17 (ix (V 4 q)) = 0 from c_45))
              exact retZ (Wd := wQ k ad) (v := 1) (va_up (va_up V 17 (upd (V 17) (((V 2) q).toNatClampNeg) (V 17 (V 3 q).toNatClampNeg / V 17 (V 4 q).toNatClampNeg))) 0 (upd ((va_up V 17 (upd (V 17) (((V 2) q).toNatClampNeg) (V 17 (V 3 q).toNatClampNeg / V 17 (V 4 q).toNatClampNeg))) 0) 32 (V 17 (V 3 q).toNatClampNeg / V 17 (V 4 q).toNatClampNeg))) hx hb hr hlocks rfl dX4_does_408 hh (⟨by rw [hF]; rfl, by rw [re_u hF hkd (by decide), eT, up_n (by decide), up_s]; first | done | rfl, by rw [ti_n hF hkd (by decide), up_n (by decide), up_n (by decide)], by rw [gl_n hF hkd (by decide), up_n (by decide), up_n (by decide)], by rw [up_s, upd_s, eT], ((Fr.rf.up (by decide)).up (by decide)), fun j hj => by rw [up_s, upd_n hj, up_n (by decide)]⟩)
          · exact absurd (show (6 : Int32) = (10 : Int32) from c_67) (by decide)
  · have hkd : kd (pq V) q = 7 := hkd
    have hlA : lim 8 (V 2 q) := hlA
    have hlB : lim 8 (V 3 q) := hlB
    have hlC : lim 4 (V 4 q) := hlC
    have hrow9 : ∃ i, i < 4 ∧ V 20 (V 4 q).toNatClampNeg = nI i := by
      obtain ⟨d1, hd1, e1⟩ := lim_nI hlC (by decide)
      rw [e1]
      show ∃ i, i < 4 ∧ V 20 (ix (nI d1)) = nI i
      rw [ix_nI (by omega)]
      exact hrow d1 hd1
    refine lv_aload_n hx hb dX4_does_27 rfl (lv_at hl 4 rfl) ?_
    refine gfl hx hb hg inX4 hown hK hh.1 0 (ci := 4) rfl rfl 1 (by decide) wd_552 rfl dX4_does_28 ?_
    refine lv_iload_n hx hb dX4_does_31 rfl (lv_at hl 5 rfl) ?_
    refine ldn hx hb hK hh.1 1 0 rfl rfl (by omega) (by decide) dX4_does_32 ?_
    refine topv (7) hk ?_
    refine lv_bipush (v := 6) hx hb dX4_does_33 (by decide) ?_
    refine lv_icmp_ne (tgt := 48) hx hb dX4_does_35 (by decide) (fun c_35 => ?_) (fun c_35 => ?_)
    · refine lv_aload_n hx hb dX4_does_48 rfl (lv_at hl 4 rfl) ?_
      refine gfl hx hb hg inX4 hown hK hh.1 0 (ci := 4) rfl rfl 1 (by decide) wd_552 rfl dX4_does_49 ?_
      refine lv_iload_n hx hb dX4_does_52 rfl (lv_at hl 5 rfl) ?_
      refine ldn hx hb hK hh.1 1 0 rfl rfl (by omega) (by decide) dX4_does_53 ?_
      refine topv (7) hk ?_
      refine lv_bipush (v := 9) hx hb dX4_does_54 (by decide) ?_
      refine lv_icmp_eq (tgt := 70) hx hb dX4_does_56 (by decide) (fun c_56 => ?_) (fun c_56 => ?_)
      · exact absurd (show (7 : Int32) = (9 : Int32) from c_56) (by decide)
      · refine lv_aload_n hx hb dX4_does_59 rfl (lv_at hl 4 rfl) ?_
        refine gfl hx hb hg inX4 hown hK hh.1 0 (ci := 4) rfl rfl 1 (by decide) wd_552 rfl dX4_does_60 ?_
        refine lv_iload_n hx hb dX4_does_63 rfl (lv_at hl 5 rfl) ?_
        refine ldn hx hb hK hh.1 1 0 rfl rfl (by omega) (by decide) dX4_does_64 ?_
        refine topv (7) hk ?_
        refine lv_bipush (v := 10) hx hb dX4_does_65 (by decide) ?_
        refine lv_icmp_ne (tgt := 88) hx hb dX4_does_67 (by decide) (fun c_67 => ?_) (fun c_67 => ?_)
        · have hF : stF (pq V) (V 17) q = false := by unfold stF fgB; rw [hkd]; simp
          refine lv_aload_n hx hb dX4_does_88 rfl (lv_at hl 4 rfl) ?_
          refine gfl hx hb hg inX4 hown hK hh.1 0 (ci := 4) rfl rfl 1 (by decide) wd_552 rfl dX4_does_89 ?_
          refine lv_iload_n hx hb dX4_does_92 rfl (lv_at hl 5 rfl) ?_
          refine ldn hx hb hK hh.1 1 0 rfl rfl (by omega) (by decide) dX4_does_93 ?_
          refine topv (7) hk ?_
          refine lv_tableIn (off := 166) (tgt := 260) hx hb dX4_does_94 (by decide) (by decide) (by rfl) (by decide) ?_
          refine lv_aload_n hx hb dX4_does_260 rfl (lv_at hl 4 rfl) ?_
          refine gfl hx hb hg inX4 hown hK hh.1 0 (ci := 4) rfl rfl 24 (by decide) wd_575 rfl dX4_does_261 ?_
          refine lv_iload hx hb dX4_does_264 (lv_at hl 3 rfl) ?_
          refine ldx hx hb hK hh.1 17 0 rfl rfl (vp_lim (n := 8) hlA (by decide) (by decide)) dX4_does_266 ?_
          refine lv_istore (lv' := [(7, .int ((V 17) ((V 2) q).toNatClampNeg)), (6, .int ((V 4) q)), (5, .int ((V 3) q)), (4, .int ((V 2) q)), (0, .ref (ad 0)), (1, .int (nI q)), (2, .ref (ad 9)), (3, .int (nI (4 * t)))]) hx hb dX4_does_267 hl (by decide) rfl (fun ls hl => ?_)
          refine lv_aload_n hx hb dX4_does_269 rfl (lv_at hl 4 rfl) ?_
          refine gfl hx hb hg inX4 hown hK hh.1 0 (ci := 4) rfl rfl 25 (by decide) wd_576 rfl dX4_does_270 ?_
          refine lv_bipush (v := 8) hx hb dX4_does_273 (by decide) ?_
          refine lv_aload_n hx hb dX4_does_275 rfl (lv_at hl 4 rfl) ?_
          refine gfl hx hb hg inX4 hown hK hh.1 0 (ci := 4) rfl rfl 27 (by decide) wd_578 rfl dX4_does_276 ?_
          refine lv_iload hx hb dX4_does_279 (lv_at hl 1 rfl) ?_
          refine ldx hx hb hK hh.1 20 0 rfl rfl (vp_lim (n := 4) hlC (by decide) (by decide)) dX4_does_281 ?_
          refine lv_imul hx hb dX4_does_282 ?_
          refine lv_aload_n hx hb dX4_does_283 rfl (lv_at hl 4 rfl) ?_
          refine gfl hx hb hg inX4 hown hK hh.1 0 (ci := 4) rfl rfl 24 (by decide) wd_575 rfl dX4_does_284 ?_
          refine lv_iload hx hb dX4_does_287 (lv_at hl 2 rfl) ?_
          refine ldx hx hb hK hh.1 17 0 rfl rfl (vp_lim (n := 8) hlB (by decide) (by decide)) dX4_does_289 ?_
          refine lv_bipush (v := 7) hx hb dX4_does_290 (by decide) ?_
          refine lv_iand hx hb dX4_does_292 ?_
          refine lv_iadd hx hb dX4_does_293 ?_
          refine topv (itI (V 20 (V 4 q).toNatClampNeg) (V 17 (V 3 q).toNatClampNeg)) (by unfold itI; rw [Int32.mul_comm]) ?_
          refine lv_iload hx hb dX4_does_294 (lv_at hl 0 rfl) ?_
          refine stx hx hb hK hh 18 0 rfl rfl (itI_in hrow9) dX4_does_296 (wQ k ad (va_up V 18 (upd (V 18) ((itI (V 20 (V 4 q).toNatClampNeg) (V 17 (V 3 q).toNatClampNeg)).toNatClampNeg) ((V 17) ((V 2) q).toNatClampNeg)))) rfl (fun H locs hh => ?_)
          refine lv_goto (tgt := 384) hx hb dX4_does_297 (by decide) ?_
          refine lv_aload_n hx hb dX4_does_384 rfl (lv_at hl 4 rfl) ?_
          refine lv_iload_n hx hb dX4_does_385 rfl (lv_at hl 5 rfl) ?_
          refine callR (runV hx hb hg hown hml hl.1 (c_X4_sets l D k ad (va_up V 18 (upd (V 18) ((itI (V 20 (V 4 q).toNatClampNeg) (V 17 (V 3 q).toNatClampNeg)).toNatClampNeg) ((V 17) ((V 2) q).toNatClampNeg))) (show okV n (pq (va_up V 18 (upd (V 18) ((itI (V 20 (V 4 q).toNatClampNeg) (V 17 (V 3 q).toNatClampNeg)).toNatClampNeg) ((V 17) ((V 2) q).toNatClampNeg)))) from hv) hq) [.int (nI q)] [] (preR (mapSome_sub hh.1 [0, 1, 2, 3, 4, 5, 6, 7, 8, 9, 10, 11, 12, 13, 14, 15, 16, 17, 18, 19, 20, 21, 22] rfl) hK hN xb0 x0) (va_recv hK hh.1 (ci := 4) (q0 := 0) rfl rfl) wd_755 wd_757 wd_37 wd_53 wd_758 lk_X4_sets ⟨rfl, rfl⟩ ⟨by decide, by decide⟩ ⟨Nat.zero_le _, Nat.zero_le _⟩ rfl (Nat.le_of_ble_eq_true rfl) dX4_does_386) (fun r_386 q_386 => ?_)
          obtain rfl := q_386
          rw [show stI (pq (va_up V 18 (upd (V 18) ((itI (V 20 (V 4 q).toNatClampNeg) (V 17 (V 3 q).toNatClampNeg)).toNatClampNeg) ((V 17) ((V 2) q).toNatClampNeg)))) q = -4 by show stI (pq V) q = -4; unfold stI; rw [hkd]; rfl]
          refine lv_if_lt (tgt := 401) hx hb dX4_does_389 (by decide) (fun c_389 => ?_) (fun c_389 => ?_)
          · refine lv_aload_n hx hb dX4_does_401 rfl (lv_at hl 4 rfl) ?_
            refine lv_iload hx hb dX4_does_402 (lv_at hl 0 rfl) ?_
            refine pfl hx hb hg inX4 tyX4 tyX4_ok nmX4 hown hK hh 0 (ci := 4) rfl rfl 32 (by decide) wd_583 rfl rfl rfl (Nat.le_of_ble_eq_true rfl) dX4_does_404 (wQ k ad (va_up (va_up V 18 (upd (V 18) ((itI (V 20 (V 4 q).toNatClampNeg) (V 17 (V 3 q).toNatClampNeg)).toNatClampNeg) ((V 17) ((V 2) q).toNatClampNeg))) 0 (upd ((va_up V 18 (upd (V 18) ((itI (V 20 (V 4 q).toNatClampNeg) (V 17 (V 3 q).toNatClampNeg)).toNatClampNeg) ((V 17) ((V 2) q).toNatClampNeg))) 0) 32 ((V 17) ((V 2) q).toNatClampNeg)))) rfl (fun H locs hh => ?_)
            refine lv_iconst (v := 1) hx hb dX4_does_407 (by decide) ?_
            have eT : tlS (pq V) (fun j => V 9 (4 * t + j)) (V 17) (V 18) (V 19) (V 20) q = (V 17) ((V 2) q).toNatClampNeg := tl_r hF hkd (by decide)
            exact retZ (Wd := wQ k ad) (v := 1) (va_up (va_up V 18 (upd (V 18) ((itI (V 20 (V 4 q).toNatClampNeg) (V 17 (V 3 q).toNatClampNeg)).toNatClampNeg) ((V 17) ((V 2) q).toNatClampNeg))) 0 (upd ((va_up V 18 (upd (V 18) ((itI (V 20 (V 4 q).toNatClampNeg) (V 17 (V 3 q).toNatClampNeg)).toNatClampNeg) ((V 17) ((V 2) q).toNatClampNeg))) 0) 32 ((V 17) ((V 2) q).toNatClampNeg))) hx hb hr hlocks rfl dX4_does_408 hh (⟨by rw [hF]; rfl, by rw [re_n hF hkd (by decide), up_n (by decide), up_n (by decide)], by rw [ti_u hF hkd, eT, up_n (by decide), up_s]; first | done | rfl, by rw [gl_n hF hkd (by decide), up_n (by decide), up_n (by decide)], by rw [up_s, upd_s, eT], ((Fr.rf.up (by decide)).up (by decide)), fun j hj => by rw [up_s, upd_n hj, up_n (by decide)]⟩)
          · exact absurd (show ¬ ((-4 : Int32) < (0 : Int32)) from c_389) (by decide)
        · exact absurd (show (7 : Int32) = (10 : Int32) from c_67) (by decide)
    · exact absurd (show (7 : Int32) = (6 : Int32) from c_35) (by decide)
  · have hkd : kd (pq V) q = 8 := hkd
    have hlA : lim 8 (V 2 q) := hlA
    have hlB : lim 8 (V 3 q) := hlB
    have hlC : lim 4 (V 4 q) := hlC
    have hrow9 : ∃ i, i < 4 ∧ V 20 (V 4 q).toNatClampNeg = nI i := by
      obtain ⟨d1, hd1, e1⟩ := lim_nI hlC (by decide)
      rw [e1]
      show ∃ i, i < 4 ∧ V 20 (ix (nI d1)) = nI i
      rw [ix_nI (by omega)]
      exact hrow d1 hd1
    obtain ⟨a1, ha1, hae⟩ := lim_nI hlA (by decide)
    refine lv_aload_n hx hb dX4_does_27 rfl (lv_at hl 4 rfl) ?_
    refine gfl hx hb hg inX4 hown hK hh.1 0 (ci := 4) rfl rfl 1 (by decide) wd_552 rfl dX4_does_28 ?_
    refine lv_iload_n hx hb dX4_does_31 rfl (lv_at hl 5 rfl) ?_
    refine ldn hx hb hK hh.1 1 0 rfl rfl (by omega) (by decide) dX4_does_32 ?_
    refine topv (8) hk ?_
    refine lv_bipush (v := 6) hx hb dX4_does_33 (by decide) ?_
    refine lv_icmp_ne (tgt := 48) hx hb dX4_does_35 (by decide) (fun c_35 => ?_) (fun c_35 => ?_)
    · refine lv_aload_n hx hb dX4_does_48 rfl (lv_at hl 4 rfl) ?_
      refine gfl hx hb hg inX4 hown hK hh.1 0 (ci := 4) rfl rfl 1 (by decide) wd_552 rfl dX4_does_49 ?_
      refine lv_iload_n hx hb dX4_does_52 rfl (lv_at hl 5 rfl) ?_
      refine ldn hx hb hK hh.1 1 0 rfl rfl (by omega) (by decide) dX4_does_53 ?_
      refine topv (8) hk ?_
      refine lv_bipush (v := 9) hx hb dX4_does_54 (by decide) ?_
      refine lv_icmp_eq (tgt := 70) hx hb dX4_does_56 (by decide) (fun c_56 => ?_) (fun c_56 => ?_)
      · exact absurd (show (8 : Int32) = (9 : Int32) from c_56) (by decide)
      · refine lv_aload_n hx hb dX4_does_59 rfl (lv_at hl 4 rfl) ?_
        refine gfl hx hb hg inX4 hown hK hh.1 0 (ci := 4) rfl rfl 1 (by decide) wd_552 rfl dX4_does_60 ?_
        refine lv_iload_n hx hb dX4_does_63 rfl (lv_at hl 5 rfl) ?_
        refine ldn hx hb hK hh.1 1 0 rfl rfl (by omega) (by decide) dX4_does_64 ?_
        refine topv (8) hk ?_
        refine lv_bipush (v := 10) hx hb dX4_does_65 (by decide) ?_
        refine lv_icmp_ne (tgt := 88) hx hb dX4_does_67 (by decide) (fun c_67 => ?_) (fun c_67 => ?_)
        · have hF : stF (pq V) (V 17) q = false := by unfold stF fgB; rw [hkd]; simp
          refine lv_aload_n hx hb dX4_does_88 rfl (lv_at hl 4 rfl) ?_
          refine gfl hx hb hg inX4 hown hK hh.1 0 (ci := 4) rfl rfl 1 (by decide) wd_552 rfl dX4_does_89 ?_
          refine lv_iload_n hx hb dX4_does_92 rfl (lv_at hl 5 rfl) ?_
          refine ldn hx hb hK hh.1 1 0 rfl rfl (by omega) (by decide) dX4_does_93 ?_
          refine topv (8) hk ?_
          refine lv_tableIn (off := 206) (tgt := 300) hx hb dX4_does_94 (by decide) (by decide) (by rfl) (by decide) ?_
          refine lv_aload_n hx hb dX4_does_300 rfl (lv_at hl 4 rfl) ?_
          refine gfl hx hb hg inX4 hown hK hh.1 0 (ci := 4) rfl rfl 25 (by decide) wd_576 rfl dX4_does_301 ?_
          refine lv_bipush (v := 8) hx hb dX4_does_304 (by decide) ?_
          refine lv_aload_n hx hb dX4_does_306 rfl (lv_at hl 4 rfl) ?_
          refine gfl hx hb hg inX4 hown hK hh.1 0 (ci := 4) rfl rfl 27 (by decide) wd_578 rfl dX4_does_307 ?_
          refine lv_iload hx hb dX4_does_310 (lv_at hl 1 rfl) ?_
          refine ldx hx hb hK hh.1 20 0 rfl rfl (vp_lim (n := 4) hlC (by decide) (by decide)) dX4_does_312 ?_
          refine lv_imul hx hb dX4_does_313 ?_
          refine lv_aload_n hx hb dX4_does_314 rfl (lv_at hl 4 rfl) ?_
          refine gfl hx hb hg inX4 hown hK hh.1 0 (ci := 4) rfl rfl 24 (by decide) wd_575 rfl dX4_does_315 ?_
          refine lv_iload hx hb dX4_does_318 (lv_at hl 2 rfl) ?_
          refine ldx hx hb hK hh.1 17 0 rfl rfl (vp_lim (n := 8) hlB (by decide) (by decide)) dX4_does_320 ?_
          refine lv_bipush (v := 7) hx hb dX4_does_321 (by decide) ?_
          refine lv_iand hx hb dX4_does_323 ?_
          refine lv_iadd hx hb dX4_does_324 ?_
          refine topv (itI (V 20 (V 4 q).toNatClampNeg) (V 17 (V 3 q).toNatClampNeg)) (by unfold itI; rw [Int32.mul_comm]) ?_
          refine ldx hx hb hK hh.1 18 0 rfl rfl (itI_in hrow9) dX4_does_325 ?_
          refine lv_istore (lv' := [(7, .int ((V 18) (itI (V 20 (V 4 q).toNatClampNeg) (V 17 (V 3 q).toNatClampNeg)).toNatClampNeg)), (6, .int ((V 4) q)), (5, .int ((V 3) q)), (4, .int ((V 2) q)), (0, .ref (ad 0)), (1, .int (nI q)), (2, .ref (ad 9)), (3, .int (nI (4 * t)))]) hx hb dX4_does_326 hl (by decide) rfl (fun ls hl => ?_)
          refine lv_goto (tgt := 384) hx hb dX4_does_328 (by decide) ?_
          refine lv_aload_n hx hb dX4_does_384 rfl (lv_at hl 4 rfl) ?_
          refine lv_iload_n hx hb dX4_does_385 rfl (lv_at hl 5 rfl) ?_
          refine callR (runV hx hb hg hown hml hl.1 (c_X4_sets l D k ad (V) hv hq) [.int (nI q)] [] (preR (mapSome_sub hh.1 [0, 1, 2, 3, 4, 5, 6, 7, 8, 9, 10, 11, 12, 13, 14, 15, 16, 17, 18, 19, 20, 21, 22] rfl) hK hN xb0 x0) (va_recv hK hh.1 (ci := 4) (q0 := 0) rfl rfl) wd_755 wd_757 wd_37 wd_53 wd_758 lk_X4_sets ⟨rfl, rfl⟩ ⟨by decide, by decide⟩ ⟨Nat.zero_le _, Nat.zero_le _⟩ rfl (Nat.le_of_ble_eq_true rfl) dX4_does_386) (fun r_386 q_386 => ?_)
          obtain rfl := q_386
          rw [show stI (pq V) q = nI a1 by unfold stI; rw [hkd]; exact hae]
          refine lv_if_lt (tgt := 401) hx hb dX4_does_389 (by decide) (fun c_389 => ?_) (fun c_389 => ?_)
          · have c_389 : a1 < 0 := (nI_ltI (a := a1) (b := 0) (by omega) (by omega)).mp c_389
            exact absurd c_389 (by omega)
          · have c_389 : ¬ a1 < 0 := fun z => c_389 ((nI_ltI (a := a1) (b := 0) (by omega) (by omega)).mpr z)
            refine lv_aload_n hx hb dX4_does_392 rfl (lv_at hl 4 rfl) ?_
            refine gfl hx hb hg inX4 hown hK hh.1 0 (ci := 4) rfl rfl 24 (by decide) wd_575 rfl dX4_does_393 ?_
            refine lv_iload hx hb dX4_does_396 (lv_at hl 3 rfl) ?_
            refine lv_iload hx hb dX4_does_398 (lv_at hl 0 rfl) ?_
            refine stx hx hb hK hh 17 0 rfl rfl (vp_lim (n := 8) hlA (by decide) (by decide)) dX4_does_400 (wQ k ad (va_up V 17 (upd (V 17) (((V 2) q).toNatClampNeg) ((V 18) (itI (V 20 (V 4 q).toNatClampNeg) (V 17 (V 3 q).toNatClampNeg)).toNatClampNeg)))) rfl (fun H locs hh => ?_)
            refine lv_aload_n hx hb dX4_does_401 rfl (lv_at hl 4 rfl) ?_
            refine lv_iload hx hb dX4_does_402 (lv_at hl 0 rfl) ?_
            refine pfl hx hb hg inX4 tyX4 tyX4_ok nmX4 hown hK hh 0 (ci := 4) rfl rfl 32 (by decide) wd_583 rfl rfl rfl (Nat.le_of_ble_eq_true rfl) dX4_does_404 (wQ k ad (va_up (va_up V 17 (upd (V 17) (((V 2) q).toNatClampNeg) ((V 18) (itI (V 20 (V 4 q).toNatClampNeg) (V 17 (V 3 q).toNatClampNeg)).toNatClampNeg))) 0 (upd ((va_up V 17 (upd (V 17) (((V 2) q).toNatClampNeg) ((V 18) (itI (V 20 (V 4 q).toNatClampNeg) (V 17 (V 3 q).toNatClampNeg)).toNatClampNeg))) 0) 32 ((V 18) (itI (V 20 (V 4 q).toNatClampNeg) (V 17 (V 3 q).toNatClampNeg)).toNatClampNeg)))) rfl (fun H locs hh => ?_)
            refine lv_iconst (v := 1) hx hb dX4_does_407 (by decide) ?_
            have eT : tlS (pq V) (fun j => V 9 (4 * t + j)) (V 17) (V 18) (V 19) (V 20) q = (V 18) (itI (V 20 (V 4 q).toNatClampNeg) (V 17 (V 3 q).toNatClampNeg)).toNatClampNeg := (tl_v hF hkd (by decide) (by decide) (by decide)).trans vl_8
            exact retZ (Wd := wQ k ad) (v := 1) (va_up (va_up V 17 (upd (V 17) (((V 2) q).toNatClampNeg) ((V 18) (itI (V 20 (V 4 q).toNatClampNeg) (V 17 (V 3 q).toNatClampNeg)).toNatClampNeg))) 0 (upd ((va_up V 17 (upd (V 17) (((V 2) q).toNatClampNeg) ((V 18) (itI (V 20 (V 4 q).toNatClampNeg) (V 17 (V 3 q).toNatClampNeg)).toNatClampNeg))) 0) 32 ((V 18) (itI (V 20 (V 4 q).toNatClampNeg) (V 17 (V 3 q).toNatClampNeg)).toNatClampNeg))) hx hb hr hlocks rfl dX4_does_408 hh (⟨by rw [hF]; rfl, by rw [re_u hF hkd (by decide), eT, up_n (by decide), up_s]; first | done | rfl, by rw [ti_n hF hkd (by decide), up_n (by decide), up_n (by decide)], by rw [gl_n hF hkd (by decide), up_n (by decide), up_n (by decide)], by rw [up_s, upd_s, eT], ((Fr.rf.up (by decide)).up (by decide)), fun j hj => by rw [up_s, upd_n hj, up_n (by decide)]⟩)
        · exact absurd (show (8 : Int32) = (10 : Int32) from c_67) (by decide)
    · exact absurd (show (8 : Int32) = (6 : Int32) from c_35) (by decide)
  · have hkd : kd (pq V) q = 9 := hkd
    have hlA : lim 8 (V 2 q) := hlA
    have hlB : lim 4 (V 3 q) := hlB
    obtain ⟨a1, ha1, hae⟩ := lim_nI hlA (by decide)
    refine lv_aload_n hx hb dX4_does_27 rfl (lv_at hl 4 rfl) ?_
    refine gfl hx hb hg inX4 hown hK hh.1 0 (ci := 4) rfl rfl 1 (by decide) wd_552 rfl dX4_does_28 ?_
    refine lv_iload_n hx hb dX4_does_31 rfl (lv_at hl 5 rfl) ?_
    refine ldn hx hb hK hh.1 1 0 rfl rfl (by omega) (by decide) dX4_does_32 ?_
    refine topv (9) hk ?_
    refine lv_bipush (v := 6) hx hb dX4_does_33 (by decide) ?_
    refine lv_icmp_ne (tgt := 48) hx hb dX4_does_35 (by decide) (fun c_35 => ?_) (fun c_35 => ?_)
    · refine lv_aload_n hx hb dX4_does_48 rfl (lv_at hl 4 rfl) ?_
      refine gfl hx hb hg inX4 hown hK hh.1 0 (ci := 4) rfl rfl 1 (by decide) wd_552 rfl dX4_does_49 ?_
      refine lv_iload_n hx hb dX4_does_52 rfl (lv_at hl 5 rfl) ?_
      refine ldn hx hb hK hh.1 1 0 rfl rfl (by omega) (by decide) dX4_does_53 ?_
      refine topv (9) hk ?_
      refine lv_bipush (v := 9) hx hb dX4_does_54 (by decide) ?_
      refine lv_icmp_eq (tgt := 70) hx hb dX4_does_56 (by decide) (fun c_56 => ?_) (fun c_56 => ?_)
      · refine lv_aload_n hx hb dX4_does_70 rfl (lv_at hl 4 rfl) ?_
        refine gfl hx hb hg inX4 hown hK hh.1 0 (ci := 4) rfl rfl 7 (by decide) wd_558 rfl dX4_does_71 ?_
        refine lv_iload hx hb dX4_does_74 (lv_at hl 2 rfl) ?_
        refine ldzx hx hb hK hh.1 7 1 rfl rfl (vp_lim (n := 4) hlB (by decide) (by decide)) dX4_does_76 ?_
        refine lv_if_eq (tgt := 88) hx hb dX4_does_77 (by decide) (fun c_77 => ?_) (fun c_77 => ?_)
        · have c_77 : pq V 6 (ix (pq V 3 q)) = 0 := c_77
          have hF : stF (pq V) (V 17) q = false := by unfold stF fgB; rw [hkd]; simp [c_77]
          refine lv_aload_n hx hb dX4_does_88 rfl (lv_at hl 4 rfl) ?_
          refine gfl hx hb hg inX4 hown hK hh.1 0 (ci := 4) rfl rfl 1 (by decide) wd_552 rfl dX4_does_89 ?_
          refine lv_iload_n hx hb dX4_does_92 rfl (lv_at hl 5 rfl) ?_
          refine ldn hx hb hK hh.1 1 0 rfl rfl (by omega) (by decide) dX4_does_93 ?_
          refine topv (9) hk ?_
          refine lv_tableIn (off := 237) (tgt := 331) hx hb dX4_does_94 (by decide) (by decide) (by rfl) (by decide) ?_
          refine lv_aload_n hx hb dX4_does_331 rfl (lv_at hl 4 rfl) ?_
          refine gfl hx hb hg inX4 hown hK hh.1 0 (ci := 4) rfl rfl 26 (by decide) wd_577 rfl dX4_does_332 ?_
          refine lv_iload hx hb dX4_does_335 (lv_at hl 2 rfl) ?_
          refine ldx hx hb hK hh.1 19 0 rfl rfl (vp_lim (n := 4) hlB (by decide) (by decide)) dX4_does_337 ?_
          refine lv_istore (lv' := [(7, .int ((V 19) ((V 3) q).toNatClampNeg)), (6, .int ((V 4) q)), (5, .int ((V 3) q)), (4, .int ((V 2) q)), (0, .ref (ad 0)), (1, .int (nI q)), (2, .ref (ad 9)), (3, .int (nI (4 * t)))]) hx hb dX4_does_338 hl (by decide) rfl (fun ls hl => ?_)
          refine lv_goto (tgt := 384) hx hb dX4_does_340 (by decide) ?_
          refine lv_aload_n hx hb dX4_does_384 rfl (lv_at hl 4 rfl) ?_
          refine lv_iload_n hx hb dX4_does_385 rfl (lv_at hl 5 rfl) ?_
          refine callR (runV hx hb hg hown hml hl.1 (c_X4_sets l D k ad (V) hv hq) [.int (nI q)] [] (preR (mapSome_sub hh.1 [0, 1, 2, 3, 4, 5, 6, 7, 8, 9, 10, 11, 12, 13, 14, 15, 16, 17, 18, 19, 20, 21, 22] rfl) hK hN xb0 x0) (va_recv hK hh.1 (ci := 4) (q0 := 0) rfl rfl) wd_755 wd_757 wd_37 wd_53 wd_758 lk_X4_sets ⟨rfl, rfl⟩ ⟨by decide, by decide⟩ ⟨Nat.zero_le _, Nat.zero_le _⟩ rfl (Nat.le_of_ble_eq_true rfl) dX4_does_386) (fun r_386 q_386 => ?_)
          obtain rfl := q_386
          rw [show stI (pq V) q = nI a1 by unfold stI; rw [hkd]; exact hae]
          refine lv_if_lt (tgt := 401) hx hb dX4_does_389 (by decide) (fun c_389 => ?_) (fun c_389 => ?_)
          · have c_389 : a1 < 0 := (nI_ltI (a := a1) (b := 0) (by omega) (by omega)).mp c_389
            exact absurd c_389 (by omega)
          · have c_389 : ¬ a1 < 0 := fun z => c_389 ((nI_ltI (a := a1) (b := 0) (by omega) (by omega)).mpr z)
            refine lv_aload_n hx hb dX4_does_392 rfl (lv_at hl 4 rfl) ?_
            refine gfl hx hb hg inX4 hown hK hh.1 0 (ci := 4) rfl rfl 24 (by decide) wd_575 rfl dX4_does_393 ?_
            refine lv_iload hx hb dX4_does_396 (lv_at hl 3 rfl) ?_
            refine lv_iload hx hb dX4_does_398 (lv_at hl 0 rfl) ?_
            refine stx hx hb hK hh 17 0 rfl rfl (vp_lim (n := 8) hlA (by decide) (by decide)) dX4_does_400 (wQ k ad (va_up V 17 (upd (V 17) (((V 2) q).toNatClampNeg) ((V 19) ((V 3) q).toNatClampNeg)))) rfl (fun H locs hh => ?_)
            refine lv_aload_n hx hb dX4_does_401 rfl (lv_at hl 4 rfl) ?_
            refine lv_iload hx hb dX4_does_402 (lv_at hl 0 rfl) ?_
            refine pfl hx hb hg inX4 tyX4 tyX4_ok nmX4 hown hK hh 0 (ci := 4) rfl rfl 32 (by decide) wd_583 rfl rfl rfl (Nat.le_of_ble_eq_true rfl) dX4_does_404 (wQ k ad (va_up (va_up V 17 (upd (V 17) (((V 2) q).toNatClampNeg) ((V 19) ((V 3) q).toNatClampNeg))) 0 (upd ((va_up V 17 (upd (V 17) (((V 2) q).toNatClampNeg) ((V 19) ((V 3) q).toNatClampNeg))) 0) 32 ((V 19) ((V 3) q).toNatClampNeg)))) rfl (fun H locs hh => ?_)
            refine lv_iconst (v := 1) hx hb dX4_does_407 (by decide) ?_
            have eT : tlS (pq V) (fun j => V 9 (4 * t + j)) (V 17) (V 18) (V 19) (V 20) q = (V 19) ((V 3) q).toNatClampNeg := (tl_v hF hkd (by decide) (by decide) (by decide)).trans vl_9
            exact retZ (Wd := wQ k ad) (v := 1) (va_up (va_up V 17 (upd (V 17) (((V 2) q).toNatClampNeg) ((V 19) ((V 3) q).toNatClampNeg))) 0 (upd ((va_up V 17 (upd (V 17) (((V 2) q).toNatClampNeg) ((V 19) ((V 3) q).toNatClampNeg))) 0) 32 ((V 19) ((V 3) q).toNatClampNeg))) hx hb hr hlocks rfl dX4_does_408 hh (⟨by rw [hF]; rfl, by rw [re_u hF hkd (by decide), eT, up_n (by decide), up_s]; first | done | rfl, by rw [ti_n hF hkd (by decide), up_n (by decide), up_n (by decide)], by rw [gl_n hF hkd (by decide), up_n (by decide), up_n (by decide)], by rw [up_s, upd_s, eT], ((Fr.rf.up (by decide)).up (by decide)), fun j hj => by rw [up_s, upd_n hj, up_n (by decide)]⟩)
        · have c_77 : ¬ pq V 6 (ix (pq V 3 q)) = 0 := c_77
          have hF : stF (pq V) (V 17) q = true := by unfold stF fgB; rw [hkd]; simp [c_77]
          refine lv_aload_n hx hb dX4_does_80 rfl (lv_at hl 4 rfl) ?_
          refine lv_ldc (v := 1000000007) hx hb hown (hg _ wd_817) dX4_does_81 ?_
          refine pfl hx hb hg inX4 tyX4 tyX4_ok nmX4 hown hK hh 0 (ci := 4) rfl rfl 32 (by decide) wd_583 rfl rfl rfl (Nat.le_of_ble_eq_true rfl) dX4_does_83 (wQ k ad (va_up V 0 (upd (V 0) 32 1000000007))) rfl (fun H locs hh => ?_)
          refine lv_iconst (v := 0) hx hb dX4_does_86 (by decide) ?_
          exact retZ (Wd := wQ k ad) (v := 0) (va_up V 0 (upd (V 0) 32 1000000007)) hx hb hr hlocks rfl dX4_does_87 hh (⟨by rw [hF]; rfl, by rw [re_F hF, up_n (by decide)], by rw [ti_F hF, up_n (by decide)], by rw [gl_F hF, up_n (by decide)], by rw [tl_F hF, up_s, upd_s], (Fr.rf.up (by decide)), fun j hj => by rw [up_s, upd_n hj]⟩)
      · exact absurd (show ¬ (9 : Int32) = (9 : Int32) from c_56) (by decide)
    · exact absurd (show (9 : Int32) = (6 : Int32) from c_35) (by decide)
  · have hkd : kd (pq V) q = 10 := hkd
    have hlA : lim 8 (V 2 q) := hlA
    have hlB : lim 4 (V 3 q) := hlB
    refine lv_aload_n hx hb dX4_does_27 rfl (lv_at hl 4 rfl) ?_
    refine gfl hx hb hg inX4 hown hK hh.1 0 (ci := 4) rfl rfl 1 (by decide) wd_552 rfl dX4_does_28 ?_
    refine lv_iload_n hx hb dX4_does_31 rfl (lv_at hl 5 rfl) ?_
    refine ldn hx hb hK hh.1 1 0 rfl rfl (by omega) (by decide) dX4_does_32 ?_
    refine topv (10) hk ?_
    refine lv_bipush (v := 6) hx hb dX4_does_33 (by decide) ?_
    refine lv_icmp_ne (tgt := 48) hx hb dX4_does_35 (by decide) (fun c_35 => ?_) (fun c_35 => ?_)
    · refine lv_aload_n hx hb dX4_does_48 rfl (lv_at hl 4 rfl) ?_
      refine gfl hx hb hg inX4 hown hK hh.1 0 (ci := 4) rfl rfl 1 (by decide) wd_552 rfl dX4_does_49 ?_
      refine lv_iload_n hx hb dX4_does_52 rfl (lv_at hl 5 rfl) ?_
      refine ldn hx hb hK hh.1 1 0 rfl rfl (by omega) (by decide) dX4_does_53 ?_
      refine topv (10) hk ?_
      refine lv_bipush (v := 9) hx hb dX4_does_54 (by decide) ?_
      refine lv_icmp_eq (tgt := 70) hx hb dX4_does_56 (by decide) (fun c_56 => ?_) (fun c_56 => ?_)
      · exact absurd (show (10 : Int32) = (9 : Int32) from c_56) (by decide)
      · refine lv_aload_n hx hb dX4_does_59 rfl (lv_at hl 4 rfl) ?_
        refine gfl hx hb hg inX4 hown hK hh.1 0 (ci := 4) rfl rfl 1 (by decide) wd_552 rfl dX4_does_60 ?_
        refine lv_iload_n hx hb dX4_does_63 rfl (lv_at hl 5 rfl) ?_
        refine ldn hx hb hK hh.1 1 0 rfl rfl (by omega) (by decide) dX4_does_64 ?_
        refine topv (10) hk ?_
        refine lv_bipush (v := 10) hx hb dX4_does_65 (by decide) ?_
        refine lv_icmp_ne (tgt := 88) hx hb dX4_does_67 (by decide) (fun c_67 => ?_) (fun c_67 => ?_)
        · exact absurd (show ¬ (10 : Int32) = (10 : Int32) from c_67) (by decide)
        · refine lv_aload_n hx hb dX4_does_70 rfl (lv_at hl 4 rfl) ?_
          refine gfl hx hb hg inX4 hown hK hh.1 0 (ci := 4) rfl rfl 7 (by decide) wd_558 rfl dX4_does_71 ?_
          refine lv_iload hx hb dX4_does_74 (lv_at hl 2 rfl) ?_
          refine ldzx hx hb hK hh.1 7 1 rfl rfl (vp_lim (n := 4) hlB (by decide) (by decide)) dX4_does_76 ?_
          refine lv_if_eq (tgt := 88) hx hb dX4_does_77 (by decide) (fun c_77 => ?_) (fun c_77 => ?_)
          · have c_77 : pq V 6 (ix (pq V 3 q)) = 0 := c_77
            have hF : stF (pq V) (V 17) q = false := by unfold stF fgB; rw [hkd]; simp [c_77]
            refine lv_aload_n hx hb dX4_does_88 rfl (lv_at hl 4 rfl) ?_
            refine gfl hx hb hg inX4 hown hK hh.1 0 (ci := 4) rfl rfl 1 (by decide) wd_552 rfl dX4_does_89 ?_
            refine lv_iload_n hx hb dX4_does_92 rfl (lv_at hl 5 rfl) ?_
            refine ldn hx hb hK hh.1 1 0 rfl rfl (by omega) (by decide) dX4_does_93 ?_
            refine topv (10) hk ?_
            refine lv_tableIn (off := 249) (tgt := 343) hx hb dX4_does_94 (by decide) (by decide) (by rfl) (by decide) ?_
            refine lv_aload_n hx hb dX4_does_343 rfl (lv_at hl 4 rfl) ?_
            refine gfl hx hb hg inX4 hown hK hh.1 0 (ci := 4) rfl rfl 24 (by decide) wd_575 rfl dX4_does_344 ?_
            refine lv_iload hx hb dX4_does_347 (lv_at hl 3 rfl) ?_
            refine ldx hx hb hK hh.1 17 0 rfl rfl (vp_lim (n := 8) hlA (by decide) (by decide)) dX4_does_349 ?_
            refine lv_istore (lv' := [(7, .int ((V 17) ((V 2) q).toNatClampNeg)), (6, .int ((V 4) q)), (5, .int ((V 3) q)), (4, .int ((V 2) q)), (0, .ref (ad 0)), (1, .int (nI q)), (2, .ref (ad 9)), (3, .int (nI (4 * t)))]) hx hb dX4_does_350 hl (by decide) rfl (fun ls hl => ?_)
            refine lv_aload_n hx hb dX4_does_352 rfl (lv_at hl 4 rfl) ?_
            refine gfl hx hb hg inX4 hown hK hh.1 0 (ci := 4) rfl rfl 26 (by decide) wd_577 rfl dX4_does_353 ?_
            refine lv_iload hx hb dX4_does_356 (lv_at hl 2 rfl) ?_
            refine lv_iload hx hb dX4_does_358 (lv_at hl 0 rfl) ?_
            refine stx hx hb hK hh 19 0 rfl rfl (vp_lim (n := 4) hlB (by decide) (by decide)) dX4_does_360 (wQ k ad (va_up V 19 (upd (V 19) (((V 3) q).toNatClampNeg) ((V 17) ((V 2) q).toNatClampNeg)))) rfl (fun H locs hh => ?_)
            refine lv_goto (tgt := 384) hx hb dX4_does_361 (by decide) ?_
            refine lv_aload_n hx hb dX4_does_384 rfl (lv_at hl 4 rfl) ?_
            refine lv_iload_n hx hb dX4_does_385 rfl (lv_at hl 5 rfl) ?_
            refine callR (runV hx hb hg hown hml hl.1 (c_X4_sets l D k ad (va_up V 19 (upd (V 19) (((V 3) q).toNatClampNeg) ((V 17) ((V 2) q).toNatClampNeg))) (show okV n (pq (va_up V 19 (upd (V 19) (((V 3) q).toNatClampNeg) ((V 17) ((V 2) q).toNatClampNeg)))) from hv) hq) [.int (nI q)] [] (preR (mapSome_sub hh.1 [0, 1, 2, 3, 4, 5, 6, 7, 8, 9, 10, 11, 12, 13, 14, 15, 16, 17, 18, 19, 20, 21, 22] rfl) hK hN xb0 x0) (va_recv hK hh.1 (ci := 4) (q0 := 0) rfl rfl) wd_755 wd_757 wd_37 wd_53 wd_758 lk_X4_sets ⟨rfl, rfl⟩ ⟨by decide, by decide⟩ ⟨Nat.zero_le _, Nat.zero_le _⟩ rfl (Nat.le_of_ble_eq_true rfl) dX4_does_386) (fun r_386 q_386 => ?_)
            obtain rfl := q_386
            rw [show stI (pq (va_up V 19 (upd (V 19) (((V 3) q).toNatClampNeg) ((V 17) ((V 2) q).toNatClampNeg)))) q = -4 by show stI (pq V) q = -4; unfold stI; rw [hkd]; rfl]
            refine lv_if_lt (tgt := 401) hx hb dX4_does_389 (by decide) (fun c_389 => ?_) (fun c_389 => ?_)
            · refine lv_aload_n hx hb dX4_does_401 rfl (lv_at hl 4 rfl) ?_
              refine lv_iload hx hb dX4_does_402 (lv_at hl 0 rfl) ?_
              refine pfl hx hb hg inX4 tyX4 tyX4_ok nmX4 hown hK hh 0 (ci := 4) rfl rfl 32 (by decide) wd_583 rfl rfl rfl (Nat.le_of_ble_eq_true rfl) dX4_does_404 (wQ k ad (va_up (va_up V 19 (upd (V 19) (((V 3) q).toNatClampNeg) ((V 17) ((V 2) q).toNatClampNeg))) 0 (upd ((va_up V 19 (upd (V 19) (((V 3) q).toNatClampNeg) ((V 17) ((V 2) q).toNatClampNeg))) 0) 32 ((V 17) ((V 2) q).toNatClampNeg)))) rfl (fun H locs hh => ?_)
              refine lv_iconst (v := 1) hx hb dX4_does_407 (by decide) ?_
              have eT : tlS (pq V) (fun j => V 9 (4 * t + j)) (V 17) (V 18) (V 19) (V 20) q = (V 17) ((V 2) q).toNatClampNeg := tl_r hF hkd (by decide)
              exact retZ (Wd := wQ k ad) (v := 1) (va_up (va_up V 19 (upd (V 19) (((V 3) q).toNatClampNeg) ((V 17) ((V 2) q).toNatClampNeg))) 0 (upd ((va_up V 19 (upd (V 19) (((V 3) q).toNatClampNeg) ((V 17) ((V 2) q).toNatClampNeg))) 0) 32 ((V 17) ((V 2) q).toNatClampNeg))) hx hb hr hlocks rfl dX4_does_408 hh (⟨by rw [hF]; rfl, by rw [re_n hF hkd (by decide), up_n (by decide), up_n (by decide)], by rw [ti_n hF hkd (by decide), up_n (by decide), up_n (by decide)], by rw [gl_u hF hkd, eT, up_n (by decide), up_s]; first | done | rfl, by rw [up_s, upd_s, eT], ((Fr.rf.up (by decide)).up (by decide)), fun j hj => by rw [up_s, upd_n hj, up_n (by decide)]⟩)
            · exact absurd (show ¬ ((-4 : Int32) < (0 : Int32)) from c_389) (by decide)
          · have c_77 : ¬ pq V 6 (ix (pq V 3 q)) = 0 := c_77
            have hF : stF (pq V) (V 17) q = true := by unfold stF fgB; rw [hkd]; simp [c_77]
            refine lv_aload_n hx hb dX4_does_80 rfl (lv_at hl 4 rfl) ?_
            refine lv_ldc (v := 1000000007) hx hb hown (hg _ wd_817) dX4_does_81 ?_
            refine pfl hx hb hg inX4 tyX4 tyX4_ok nmX4 hown hK hh 0 (ci := 4) rfl rfl 32 (by decide) wd_583 rfl rfl rfl (Nat.le_of_ble_eq_true rfl) dX4_does_83 (wQ k ad (va_up V 0 (upd (V 0) 32 1000000007))) rfl (fun H locs hh => ?_)
            refine lv_iconst (v := 0) hx hb dX4_does_86 (by decide) ?_
            exact retZ (Wd := wQ k ad) (v := 0) (va_up V 0 (upd (V 0) 32 1000000007)) hx hb hr hlocks rfl dX4_does_87 hh (⟨by rw [hF]; rfl, by rw [re_F hF, up_n (by decide)], by rw [ti_F hF, up_n (by decide)], by rw [gl_F hF, up_n (by decide)], by rw [tl_F hF, up_s, upd_s], (Fr.rf.up (by decide)), fun j hj => by rw [up_s, upd_n hj]⟩)
    · exact absurd (show (10 : Int32) = (6 : Int32) from c_35) (by decide)
  · have hkd : kd (pq V) q = 11 := hkd
    have hlA : lim 8 (V 2 q) := hlA
    have hlB : lim 25 (V 3 q) := hlB
    refine lv_aload_n hx hb dX4_does_27 rfl (lv_at hl 4 rfl) ?_
    refine gfl hx hb hg inX4 hown hK hh.1 0 (ci := 4) rfl rfl 1 (by decide) wd_552 rfl dX4_does_28 ?_
    refine lv_iload_n hx hb dX4_does_31 rfl (lv_at hl 5 rfl) ?_
    refine ldn hx hb hK hh.1 1 0 rfl rfl (by omega) (by decide) dX4_does_32 ?_
    refine topv (11) hk ?_
    refine lv_bipush (v := 6) hx hb dX4_does_33 (by decide) ?_
    refine lv_icmp_ne (tgt := 48) hx hb dX4_does_35 (by decide) (fun c_35 => ?_) (fun c_35 => ?_)
    · refine lv_aload_n hx hb dX4_does_48 rfl (lv_at hl 4 rfl) ?_
      refine gfl hx hb hg inX4 hown hK hh.1 0 (ci := 4) rfl rfl 1 (by decide) wd_552 rfl dX4_does_49 ?_
      refine lv_iload_n hx hb dX4_does_52 rfl (lv_at hl 5 rfl) ?_
      refine ldn hx hb hK hh.1 1 0 rfl rfl (by omega) (by decide) dX4_does_53 ?_
      refine topv (11) hk ?_
      refine lv_bipush (v := 9) hx hb dX4_does_54 (by decide) ?_
      refine lv_icmp_eq (tgt := 70) hx hb dX4_does_56 (by decide) (fun c_56 => ?_) (fun c_56 => ?_)
      · exact absurd (show (11 : Int32) = (9 : Int32) from c_56) (by decide)
      · refine lv_aload_n hx hb dX4_does_59 rfl (lv_at hl 4 rfl) ?_
        refine gfl hx hb hg inX4 hown hK hh.1 0 (ci := 4) rfl rfl 1 (by decide) wd_552 rfl dX4_does_60 ?_
        refine lv_iload_n hx hb dX4_does_63 rfl (lv_at hl 5 rfl) ?_
        refine ldn hx hb hK hh.1 1 0 rfl rfl (by omega) (by decide) dX4_does_64 ?_
        refine topv (11) hk ?_
        refine lv_bipush (v := 10) hx hb dX4_does_65 (by decide) ?_
        refine lv_icmp_ne (tgt := 88) hx hb dX4_does_67 (by decide) (fun c_67 => ?_) (fun c_67 => ?_)
        · have hF : stF (pq V) (V 17) q = false := by unfold stF fgB; rw [hkd]; simp
          refine lv_aload_n hx hb dX4_does_88 rfl (lv_at hl 4 rfl) ?_
          refine gfl hx hb hg inX4 hown hK hh.1 0 (ci := 4) rfl rfl 1 (by decide) wd_552 rfl dX4_does_89 ?_
          refine lv_iload_n hx hb dX4_does_92 rfl (lv_at hl 5 rfl) ?_
          refine ldn hx hb hK hh.1 1 0 rfl rfl (by omega) (by decide) dX4_does_93 ?_
          refine topv (11) hk ?_
          refine lv_tableIn (off := 270) (tgt := 364) hx hb dX4_does_94 (by decide) (by decide) (by rfl) (by decide) ?_
          refine lv_aload_n hx hb dX4_does_364 rfl (lv_at hl 4 rfl) ?_
          refine gfl hx hb hg inX4 hown hK hh.1 0 (ci := 4) rfl rfl 24 (by decide) wd_575 rfl dX4_does_365 ?_
          refine lv_iload hx hb dX4_does_368 (lv_at hl 3 rfl) ?_
          refine ldx hx hb hK hh.1 17 0 rfl rfl (vp_lim (n := 8) hlA (by decide) (by decide)) dX4_does_370 ?_
          refine lv_if_ne (tgt := 378) hx hb dX4_does_371 (by decide) (fun c_371 => ?_) (fun c_371 => ?_)
          · have c_371 : ¬ V 17 (ix (V 2 q)) = 0 := c_371
            refine lv_iconst (v := 0) hx hb dX4_does_378 (by decide) ?_
            refine lv_istore (lv' := [(7, .int 0), (6, .int ((V 4) q)), (5, .int ((V 3) q)), (4, .int ((V 2) q)), (0, .ref (ad 0)), (1, .int (nI q)), (2, .ref (ad 9)), (3, .int (nI (4 * t)))]) hx hb dX4_does_379 hl (by decide) rfl (fun ls hl => ?_)
            refine lv_goto (tgt := 384) hx hb dX4_does_381 (by decide) ?_
            refine lv_aload_n hx hb dX4_does_384 rfl (lv_at hl 4 rfl) ?_
            refine lv_iload_n hx hb dX4_does_385 rfl (lv_at hl 5 rfl) ?_
            refine callR (runV hx hb hg hown hml hl.1 (c_X4_sets l D k ad (V) hv hq) [.int (nI q)] [] (preR (mapSome_sub hh.1 [0, 1, 2, 3, 4, 5, 6, 7, 8, 9, 10, 11, 12, 13, 14, 15, 16, 17, 18, 19, 20, 21, 22] rfl) hK hN xb0 x0) (va_recv hK hh.1 (ci := 4) (q0 := 0) rfl rfl) wd_755 wd_757 wd_37 wd_53 wd_758 lk_X4_sets ⟨rfl, rfl⟩ ⟨by decide, by decide⟩ ⟨Nat.zero_le _, Nat.zero_le _⟩ rfl (Nat.le_of_ble_eq_true rfl) dX4_does_386) (fun r_386 q_386 => ?_)
            obtain rfl := q_386
            rw [show stI (pq (V)) q = -4 by show stI (pq V) q = -4; unfold stI; rw [hkd]; rfl]
            refine lv_if_lt (tgt := 401) hx hb dX4_does_389 (by decide) (fun c_389 => ?_) (fun c_389 => ?_)
            · refine lv_aload_n hx hb dX4_does_401 rfl (lv_at hl 4 rfl) ?_
              refine lv_iload hx hb dX4_does_402 (lv_at hl 0 rfl) ?_
              refine pfl hx hb hg inX4 tyX4 tyX4_ok nmX4 hown hK hh 0 (ci := 4) rfl rfl 32 (by decide) wd_583 rfl rfl rfl (Nat.le_of_ble_eq_true rfl) dX4_does_404 (wQ k ad (va_up V 0 (upd (V 0) 32 0))) rfl (fun H locs hh => ?_)
              refine lv_iconst (v := 1) hx hb dX4_does_407 (by decide) ?_
              have eT : tlS (pq V) (fun j => V 9 (4 * t + j)) (V 17) (V 18) (V 19) (V 20) q = 0 := (tl_if hF hkd).trans (by show (if V 17 (ix (V 2 q)) = 0 then (1 : Int32) else 0) = _; rw [if_neg c_371])
              exact retZ (Wd := wQ k ad) (v := 1) (va_up V 0 (upd (V 0) 32 0)) hx hb hr hlocks rfl dX4_does_408 hh (⟨by rw [hF]; rfl, by rw [re_n hF hkd (by decide), up_n (by decide)], by rw [ti_n hF hkd (by decide), up_n (by decide)], by rw [gl_n hF hkd (by decide), up_n (by decide)], by rw [up_s, upd_s, eT], (Fr.rf.up (by decide)), fun j hj => by rw [up_s, upd_n hj]⟩)
            · exact absurd (show ¬ ((-4 : Int32) < (0 : Int32)) from c_389) (by decide)
          · have c_371 : V 17 (ix (V 2 q)) = 0 := c_371
            refine lv_iconst (v := 1) hx hb dX4_does_374 (by decide) ?_
            refine lv_goto (tgt := 379) hx hb dX4_does_375 (by decide) ?_
            refine lv_istore (lv' := [(7, .int 1), (6, .int ((V 4) q)), (5, .int ((V 3) q)), (4, .int ((V 2) q)), (0, .ref (ad 0)), (1, .int (nI q)), (2, .ref (ad 9)), (3, .int (nI (4 * t)))]) hx hb dX4_does_379 hl (by decide) rfl (fun ls hl => ?_)
            refine lv_goto (tgt := 384) hx hb dX4_does_381 (by decide) ?_
            refine lv_aload_n hx hb dX4_does_384 rfl (lv_at hl 4 rfl) ?_
            refine lv_iload_n hx hb dX4_does_385 rfl (lv_at hl 5 rfl) ?_
            refine callR (runV hx hb hg hown hml hl.1 (c_X4_sets l D k ad (V) hv hq) [.int (nI q)] [] (preR (mapSome_sub hh.1 [0, 1, 2, 3, 4, 5, 6, 7, 8, 9, 10, 11, 12, 13, 14, 15, 16, 17, 18, 19, 20, 21, 22] rfl) hK hN xb0 x0) (va_recv hK hh.1 (ci := 4) (q0 := 0) rfl rfl) wd_755 wd_757 wd_37 wd_53 wd_758 lk_X4_sets ⟨rfl, rfl⟩ ⟨by decide, by decide⟩ ⟨Nat.zero_le _, Nat.zero_le _⟩ rfl (Nat.le_of_ble_eq_true rfl) dX4_does_386) (fun r_386 q_386 => ?_)
            obtain rfl := q_386
            rw [show stI (pq (V)) q = -4 by show stI (pq V) q = -4; unfold stI; rw [hkd]; rfl]
            refine lv_if_lt (tgt := 401) hx hb dX4_does_389 (by decide) (fun c_389 => ?_) (fun c_389 => ?_)
            · refine lv_aload_n hx hb dX4_does_401 rfl (lv_at hl 4 rfl) ?_
              refine lv_iload hx hb dX4_does_402 (lv_at hl 0 rfl) ?_
              refine pfl hx hb hg inX4 tyX4 tyX4_ok nmX4 hown hK hh 0 (ci := 4) rfl rfl 32 (by decide) wd_583 rfl rfl rfl (Nat.le_of_ble_eq_true rfl) dX4_does_404 (wQ k ad (va_up V 0 (upd (V 0) 32 1))) rfl (fun H locs hh => ?_)
              refine lv_iconst (v := 1) hx hb dX4_does_407 (by decide) ?_
              have eT : tlS (pq V) (fun j => V 9 (4 * t + j)) (V 17) (V 18) (V 19) (V 20) q = 1 := (tl_if hF hkd).trans (by show (if V 17 (ix (V 2 q)) = 0 then (1 : Int32) else 0) = _; rw [if_pos c_371])
              exact retZ (Wd := wQ k ad) (v := 1) (va_up V 0 (upd (V 0) 32 1)) hx hb hr hlocks rfl dX4_does_408 hh (⟨by rw [hF]; rfl, by rw [re_n hF hkd (by decide), up_n (by decide)], by rw [ti_n hF hkd (by decide), up_n (by decide)], by rw [gl_n hF hkd (by decide), up_n (by decide)], by rw [up_s, upd_s, eT], (Fr.rf.up (by decide)), fun j hj => by rw [up_s, upd_n hj]⟩)
            · exact absurd (show ¬ ((-4 : Int32) < (0 : Int32)) from c_389) (by decide)
        · exact absurd (show (11 : Int32) = (10 : Int32) from c_67) (by decide)
    · exact absurd (show (11 : Int32) = (6 : Int32) from c_35) (by decide)
  · have hkd : kd (pq V) q = 12 := hkd
    have hlB : lim 25 (V 3 q) := hlB
    refine lv_aload_n hx hb dX4_does_27 rfl (lv_at hl 4 rfl) ?_
    refine gfl hx hb hg inX4 hown hK hh.1 0 (ci := 4) rfl rfl 1 (by decide) wd_552 rfl dX4_does_28 ?_
    refine lv_iload_n hx hb dX4_does_31 rfl (lv_at hl 5 rfl) ?_
    refine ldn hx hb hK hh.1 1 0 rfl rfl (by omega) (by decide) dX4_does_32 ?_
    refine topv (12) hk ?_
    refine lv_bipush (v := 6) hx hb dX4_does_33 (by decide) ?_
    refine lv_icmp_ne (tgt := 48) hx hb dX4_does_35 (by decide) (fun c_35 => ?_) (fun c_35 => ?_)
    · refine lv_aload_n hx hb dX4_does_48 rfl (lv_at hl 4 rfl) ?_
      refine gfl hx hb hg inX4 hown hK hh.1 0 (ci := 4) rfl rfl 1 (by decide) wd_552 rfl dX4_does_49 ?_
      refine lv_iload_n hx hb dX4_does_52 rfl (lv_at hl 5 rfl) ?_
      refine ldn hx hb hK hh.1 1 0 rfl rfl (by omega) (by decide) dX4_does_53 ?_
      refine topv (12) hk ?_
      refine lv_bipush (v := 9) hx hb dX4_does_54 (by decide) ?_
      refine lv_icmp_eq (tgt := 70) hx hb dX4_does_56 (by decide) (fun c_56 => ?_) (fun c_56 => ?_)
      · exact absurd (show (12 : Int32) = (9 : Int32) from c_56) (by decide)
      · refine lv_aload_n hx hb dX4_does_59 rfl (lv_at hl 4 rfl) ?_
        refine gfl hx hb hg inX4 hown hK hh.1 0 (ci := 4) rfl rfl 1 (by decide) wd_552 rfl dX4_does_60 ?_
        refine lv_iload_n hx hb dX4_does_63 rfl (lv_at hl 5 rfl) ?_
        refine ldn hx hb hK hh.1 1 0 rfl rfl (by omega) (by decide) dX4_does_64 ?_
        refine topv (12) hk ?_
        refine lv_bipush (v := 10) hx hb dX4_does_65 (by decide) ?_
        refine lv_icmp_ne (tgt := 88) hx hb dX4_does_67 (by decide) (fun c_67 => ?_) (fun c_67 => ?_)
        · have hF : stF (pq V) (V 17) q = false := by unfold stF fgB; rw [hkd]; simp
          refine lv_aload_n hx hb dX4_does_88 rfl (lv_at hl 4 rfl) ?_
          refine gfl hx hb hg inX4 hown hK hh.1 0 (ci := 4) rfl rfl 1 (by decide) wd_552 rfl dX4_does_89 ?_
          refine lv_iload_n hx hb dX4_does_92 rfl (lv_at hl 5 rfl) ?_
          refine ldn hx hb hK hh.1 1 0 rfl rfl (by omega) (by decide) dX4_does_93 ?_
          refine topv (12) hk ?_
          refine lv_tableOut (tgt := 384) hx hb dX4_does_94 (by decide) (by decide) ?_
          refine lv_aload_n hx hb dX4_does_384 rfl (lv_at hl 4 rfl) ?_
          refine lv_iload_n hx hb dX4_does_385 rfl (lv_at hl 5 rfl) ?_
          refine callR (runV hx hb hg hown hml hl.1 (c_X4_sets l D k ad (V) hv hq) [.int (nI q)] [] (preR (mapSome_sub hh.1 [0, 1, 2, 3, 4, 5, 6, 7, 8, 9, 10, 11, 12, 13, 14, 15, 16, 17, 18, 19, 20, 21, 22] rfl) hK hN xb0 x0) (va_recv hK hh.1 (ci := 4) (q0 := 0) rfl rfl) wd_755 wd_757 wd_37 wd_53 wd_758 lk_X4_sets ⟨rfl, rfl⟩ ⟨by decide, by decide⟩ ⟨Nat.zero_le _, Nat.zero_le _⟩ rfl (Nat.le_of_ble_eq_true rfl) dX4_does_386) (fun r_386 q_386 => ?_)
          obtain rfl := q_386
          rw [show stI (pq (V)) q = -4 by show stI (pq V) q = -4; unfold stI; rw [hkd]; rfl]
          refine lv_if_lt (tgt := 401) hx hb dX4_does_389 (by decide) (fun c_389 => ?_) (fun c_389 => ?_)
          · refine lv_aload_n hx hb dX4_does_401 rfl (lv_at hl 4 rfl) ?_
            refine lv_iload hx hb dX4_does_402 (lv_at hl 0 rfl) ?_
            refine pfl hx hb hg inX4 tyX4 tyX4_ok nmX4 hown hK hh 0 (ci := 4) rfl rfl 32 (by decide) wd_583 rfl rfl rfl (Nat.le_of_ble_eq_true rfl) dX4_does_404 (wQ k ad (va_up V 0 (upd (V 0) 32 0))) rfl (fun H locs hh => ?_)
            refine lv_iconst (v := 1) hx hb dX4_does_407 (by decide) ?_
            have eT : tlS (pq V) (fun j => V 9 (4 * t + j)) (V 17) (V 18) (V 19) (V 20) q = 0 := tl_0 hF hkd (by decide)
            exact retZ (Wd := wQ k ad) (v := 1) (va_up V 0 (upd (V 0) 32 0)) hx hb hr hlocks rfl dX4_does_408 hh (⟨by rw [hF]; rfl, by rw [re_n hF hkd (by decide), up_n (by decide)], by rw [ti_n hF hkd (by decide), up_n (by decide)], by rw [gl_n hF hkd (by decide), up_n (by decide)], by rw [up_s, upd_s, eT], (Fr.rf.up (by decide)), fun j hj => by rw [up_s, upd_n hj]⟩)
          · exact absurd (show ¬ ((-4 : Int32) < (0 : Int32)) from c_389) (by decide)
        · exact absurd (show (12 : Int32) = (10 : Int32) from c_67) (by decide)
    · exact absurd (show (12 : Int32) = (6 : Int32) from c_35) (by decide)
  · have hkd : kd (pq V) q = 13 := hkd
    refine lv_aload_n hx hb dX4_does_27 rfl (lv_at hl 4 rfl) ?_
    refine gfl hx hb hg inX4 hown hK hh.1 0 (ci := 4) rfl rfl 1 (by decide) wd_552 rfl dX4_does_28 ?_
    refine lv_iload_n hx hb dX4_does_31 rfl (lv_at hl 5 rfl) ?_
    refine ldn hx hb hK hh.1 1 0 rfl rfl (by omega) (by decide) dX4_does_32 ?_
    refine topv (13) hk ?_
    refine lv_bipush (v := 6) hx hb dX4_does_33 (by decide) ?_
    refine lv_icmp_ne (tgt := 48) hx hb dX4_does_35 (by decide) (fun c_35 => ?_) (fun c_35 => ?_)
    · refine lv_aload_n hx hb dX4_does_48 rfl (lv_at hl 4 rfl) ?_
      refine gfl hx hb hg inX4 hown hK hh.1 0 (ci := 4) rfl rfl 1 (by decide) wd_552 rfl dX4_does_49 ?_
      refine lv_iload_n hx hb dX4_does_52 rfl (lv_at hl 5 rfl) ?_
      refine ldn hx hb hK hh.1 1 0 rfl rfl (by omega) (by decide) dX4_does_53 ?_
      refine topv (13) hk ?_
      refine lv_bipush (v := 9) hx hb dX4_does_54 (by decide) ?_
      refine lv_icmp_eq (tgt := 70) hx hb dX4_does_56 (by decide) (fun c_56 => ?_) (fun c_56 => ?_)
      · exact absurd (show (13 : Int32) = (9 : Int32) from c_56) (by decide)
      · refine lv_aload_n hx hb dX4_does_59 rfl (lv_at hl 4 rfl) ?_
        refine gfl hx hb hg inX4 hown hK hh.1 0 (ci := 4) rfl rfl 1 (by decide) wd_552 rfl dX4_does_60 ?_
        refine lv_iload_n hx hb dX4_does_63 rfl (lv_at hl 5 rfl) ?_
        refine ldn hx hb hK hh.1 1 0 rfl rfl (by omega) (by decide) dX4_does_64 ?_
        refine topv (13) hk ?_
        refine lv_bipush (v := 10) hx hb dX4_does_65 (by decide) ?_
        refine lv_icmp_ne (tgt := 88) hx hb dX4_does_67 (by decide) (fun c_67 => ?_) (fun c_67 => ?_)
        · have hF : stF (pq V) (V 17) q = false := by unfold stF fgB; rw [hkd]; simp
          refine lv_aload_n hx hb dX4_does_88 rfl (lv_at hl 4 rfl) ?_
          refine gfl hx hb hg inX4 hown hK hh.1 0 (ci := 4) rfl rfl 1 (by decide) wd_552 rfl dX4_does_89 ?_
          refine lv_iload_n hx hb dX4_does_92 rfl (lv_at hl 5 rfl) ?_
          refine ldn hx hb hK hh.1 1 0 rfl rfl (by omega) (by decide) dX4_does_93 ?_
          refine topv (13) hk ?_
          refine lv_tableOut (tgt := 384) hx hb dX4_does_94 (by decide) (by decide) ?_
          refine lv_aload_n hx hb dX4_does_384 rfl (lv_at hl 4 rfl) ?_
          refine lv_iload_n hx hb dX4_does_385 rfl (lv_at hl 5 rfl) ?_
          refine callR (runV hx hb hg hown hml hl.1 (c_X4_sets l D k ad (V) hv hq) [.int (nI q)] [] (preR (mapSome_sub hh.1 [0, 1, 2, 3, 4, 5, 6, 7, 8, 9, 10, 11, 12, 13, 14, 15, 16, 17, 18, 19, 20, 21, 22] rfl) hK hN xb0 x0) (va_recv hK hh.1 (ci := 4) (q0 := 0) rfl rfl) wd_755 wd_757 wd_37 wd_53 wd_758 lk_X4_sets ⟨rfl, rfl⟩ ⟨by decide, by decide⟩ ⟨Nat.zero_le _, Nat.zero_le _⟩ rfl (Nat.le_of_ble_eq_true rfl) dX4_does_386) (fun r_386 q_386 => ?_)
          obtain rfl := q_386
          rw [show stI (pq (V)) q = -4 by show stI (pq V) q = -4; unfold stI; rw [hkd]; rfl]
          refine lv_if_lt (tgt := 401) hx hb dX4_does_389 (by decide) (fun c_389 => ?_) (fun c_389 => ?_)
          · refine lv_aload_n hx hb dX4_does_401 rfl (lv_at hl 4 rfl) ?_
            refine lv_iload hx hb dX4_does_402 (lv_at hl 0 rfl) ?_
            refine pfl hx hb hg inX4 tyX4 tyX4_ok nmX4 hown hK hh 0 (ci := 4) rfl rfl 32 (by decide) wd_583 rfl rfl rfl (Nat.le_of_ble_eq_true rfl) dX4_does_404 (wQ k ad (va_up V 0 (upd (V 0) 32 0))) rfl (fun H locs hh => ?_)
            refine lv_iconst (v := 1) hx hb dX4_does_407 (by decide) ?_
            have eT : tlS (pq V) (fun j => V 9 (4 * t + j)) (V 17) (V 18) (V 19) (V 20) q = 0 := tl_0 hF hkd (by decide)
            exact retZ (Wd := wQ k ad) (v := 1) (va_up V 0 (upd (V 0) 32 0)) hx hb hr hlocks rfl dX4_does_408 hh (⟨by rw [hF]; rfl, by rw [re_n hF hkd (by decide), up_n (by decide)], by rw [ti_n hF hkd (by decide), up_n (by decide)], by rw [gl_n hF hkd (by decide), up_n (by decide)], by rw [up_s, upd_s, eT], (Fr.rf.up (by decide)), fun j hj => by rw [up_s, upd_n hj]⟩)
          · exact absurd (show ¬ ((-4 : Int32) < (0 : Int32)) from c_389) (by decide)
        · exact absurd (show (13 : Int32) = (10 : Int32) from c_67) (by decide)
    · exact absurd (show (13 : Int32) = (6 : Int32) from c_35) (by decide)
