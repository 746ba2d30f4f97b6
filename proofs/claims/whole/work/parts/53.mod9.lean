/-! the reference: look -/
abbrev rmX4_look : Room := { frames := 6, cells := 0, slots := 0, locals := 149 }
theorem lk_X4_look : Lk yX4_look 0 := by decide +kernel
set_option maxHeartbeats 4000000 in
set_option maxRecDepth 100000 in
/-- look() -/
theorem c_X4_look (l : Launch) (D : va_G) (k : Nat → ClassId) (ad : Nat → Nat) (V : St) {n : Nat} (hv : okV n (pq V)) (hc : Cq n V) : CtX noX l yX4_look cX4_look 3 none rmX4_look D (tyL k) (wQ k ad V) [.ref (ad 0)] (qV D (wQ k ad) (fun U => FrQ V U ∧ U 0 22 = 1 ∧ MG n (pq V) U)) := by
  refine CtX.mk (by decide) (Nat.le_of_ble_eq_true rfl) ?_
  intro p e s m below meth c hx hb hml hown hg hr hlocks hK hN A hA hX hh ls hl
  have hh : Hd D A (wQ k ad V) s.heap s.heap [] := hh
  have hl : lv_has ls 3 [(0, .ref (ad 0))] := hl
  have h00 : V 0 0 = nI n := hv.2.1
  have hn24 := hv.1
  refine lv_aload_n hx hb dX4_look_0 rfl (lv_at hl 0 rfl) ?_
  refine gfl hx hb hg inX4 hown hK hh.1 0 (ci := 4) rfl rfl 22 (by decide) wd_573 rfl dX4_look_1 ?_
  refine lv_if_eq (tgt := 8) hx hb dX4_look_4 (by decide) (fun c_4 => ?_) (fun c_4 => ?_)
  · refine lv_aload_n hx hb dX4_look_8 rfl (lv_at hl 0 rfl) ?_
    refine lv_iconst (v := 1) hx hb dX4_look_9 (by decide) ?_
    refine pfl hx hb hg inX4 tyX4 tyX4_ok nmX4 hown hK hh 0 (ci := 4) rfl rfl 22 (by decide) wd_573 rfl rfl rfl (Nat.le_of_ble_eq_true rfl) dX4_look_10 (wQ k ad (va_up V 0 (upd (V 0) 22 1))) rfl (fun H locs hh => ?_)
    obtain ⟨V1, eV1⟩ : ∃ z : St, z = va_up V 0 (upd (V 0) 22 1) := ⟨_, rfl⟩
    rw [← eV1] at hh
    have pV1 : pq V1 = pq V := by rw [eV1]; exact pq_eq rfl (fun i h1 _ => up_n (by omega))
    have hvV1 : okV n (pq V1) := by rw [pV1]; exact hv
    refine lv_iconst (v := 0) hx hb dX4_look_13 (by decide) ?_
    refine lv_istore_n (lv' := [(1, .int 0), (0, .ref (ad 0))]) hx hb dX4_look_14 rfl hl (by decide) rfl (fun ls hl => ?_)
    refine loopW (σ := Nat × St) (fun zz9 H locs ls => match zz9 with | (v, U) => Hd D A (wQ k ad U) s.heap H locs ∧ lv_has ls 3 [(0, .ref (ad 0)), (1, .int (nI v))] ∧ (v ≤ n) ∧ (Fr [13] V1 U) ∧ (∀ s1, s1 < v → isM (U 13 s1) (pF n (pq V) s1))) (fun zz9 => match zz9 with | (v, U) => n - v) ?_ (0, V1) ⟨hh, (lv_sub hl [1, 0] rfl), (by omega), Fr.rf, (fun s1 h => absurd h (Nat.not_lt_zero _))⟩
    intro zz9 H locs ls hI ih
    obtain ⟨v, U⟩ := zz9
    obtain ⟨hh, hl, hvn, hf, hBb⟩ := hI
    have pU : pq U = pq V := (pq_eq (by rw [hf 0 (by decide)]) (fun i _ hi => hf i (by simp; omega))).trans pV1
    have hvU : okV n (pq U) := by rw [pU]; exact hv
    have h00U : U 0 0 = nI n := hvU.2.1
    refine lv_iload_n hx hb dX4_look_15 rfl (lv_at hl 1 rfl) ?_
    refine lv_aload_n hx hb dX4_look_16 rfl (lv_at hl 0 rfl) ?_
    refine gfl hx hb hg inX4 hown hK hh.1 0 (ci := 4) rfl rfl 0 (by decide) wd_551 rfl dX4_look_17 ?_
    refine topv (nI n) h00U ?_
    refine lv_icmp_ge (tgt := 40) hx hb dX4_look_20 (by decide) (fun c_20 => ?_) (fun c_20 => ?_)
    · have c_20 : n ≤ v := (nI_leI (a := n) (b := v) (by omega) (by omega)).mp c_20
      have hB1 : ∀ s1, s1 < n → isM (U 13 s1) (pF n (pq V) s1) := fun s1 h => hBb s1 (by omega)
      refine lv_iconst (v := 0) hx hb dX4_look_40 (by decide) ?_
      refine lv_istore_n (lv' := [(1, .int 0), (0, .ref (ad 0))]) hx hb dX4_look_41 rfl hl (by decide) rfl (fun ls hl => ?_)
      refine loopW (σ := Nat × St) (fun zz9 H locs ls => match zz9 with | (v, U2) => Hd D A (wQ k ad U2) s.heap H locs ∧ lv_has ls 3 [(0, .ref (ad 0)), (1, .int (nI v))] ∧ (v ≤ n) ∧ (Fr [14, 15] U U2) ∧ (∀ v9, v9 < v → fatM n (pq V) (U2 14) (U2 15) v9)) (fun zz9 => match zz9 with | (v, U2) => n - v) ?_ (0, U) ⟨hh, (lv_sub hl [1, 0] rfl), (by omega), Fr.rf, (fun v9 h => absurd h (Nat.not_lt_zero _))⟩
      intro zz9 H locs ls hI ih
      obtain ⟨v, U2⟩ := zz9
      obtain ⟨hh, hl, hvn2, fU2, hFt⟩ := hI
      have pU2 : pq U2 = pq V := (pq_eq (by rw [fU2 0 (by decide)]) (fun i _ hi => fU2 i (by simp; omega))).trans pU
      have bU2 : U2 13 = U 13 := fU2 13 (by decide)
      have hvU2 : okV n (pq U2) := by rw [pU2]; exact hv
      have h00U : U2 0 0 = nI n := hvU2.2.1
      refine lv_iload_n hx hb dX4_look_42 rfl (lv_at hl 1 rfl) ?_
      refine lv_aload_n hx hb dX4_look_43 rfl (lv_at hl 0 rfl) ?_
      refine gfl hx hb hg inX4 hown hK hh.1 0 (ci := 4) rfl rfl 0 (by decide) wd_551 rfl dX4_look_44 ?_
      refine topv (nI n) h00U ?_
      refine lv_icmp_ge (tgt := 120) hx hb dX4_look_47 (by decide) (fun c_47 => ?_) (fun c_47 => ?_)
      · have c_47 : n ≤ v := (nI_leI (a := n) (b := v) (by omega) (by omega)).mp c_47
        exact retV (Wd := wQ k ad) (U2) hx hb hr hlocks dX4_look_120 hh (⟨⟨fun c a b => by rw [fU2 c (by simp; omega), hf c (by simp; omega), eV1, up_n b], fun j hj => by rw [fU2 0 (by decide), hf 0 (by decide), eV1, up_s, upd_n hj]⟩, by rw [fU2 0 (by decide), hf 0 (by decide), eV1, up_s, upd_s], fun s1 h => by rw [fU2 13 (by decide)]; exact hB1 s1 h, fun v9 h => hFt v9 (by omega)⟩)
      · have c_47 : ¬ n ≤ v := fun z => c_47 ((nI_leI (a := n) (b := v) (by omega) (by omega)).mpr z)
        refine lv_iconst (v := 1) hx hb dX4_look_50 (by decide) ?_
        refine lv_istore_n (lv' := [(2, .int 1), (0, .ref (ad 0)), (1, .int (nI v))]) hx hb dX4_look_51 rfl hl (by decide) rfl (fun ls hl => ?_)
        refine lv_iload_n hx hb dX4_look_52 rfl (lv_at hl 0 rfl) ?_
        refine lv_iconst (v := 5) hx hb dX4_look_53 (by decide) ?_
        refine lv_icmp_ge (tgt := 82) hx hb dX4_look_54 (by decide) (fun c_54 => ?_) (fun c_54 => ?_)
        · exact absurd (show (5 : Int32) ≤ (1 : Int32) from c_54) (by decide)
        · refine lv_aload_n hx hb dX4_look_57 rfl (lv_at hl 1 rfl) ?_
          refine gfl hx hb hg inX4 hown hK hh.1 0 (ci := 4) rfl rfl 20 (by decide) wd_571 rfl dX4_look_58 ?_
          refine lv_iconst (v := 4) hx hb dX4_look_61 (by decide) ?_
          refine lv_iload_n hx hb dX4_look_62 rfl (lv_at hl 2 rfl) ?_
          refine lv_imul hx hb dX4_look_63 ?_
          refine topv (nI (4 * v)) (pk_mul 4 v) ?_
          refine lv_iload_n hx hb dX4_look_64 rfl (lv_at hl 0 rfl) ?_
          refine lv_iadd hx hb dX4_look_65 ?_
          refine topv (nI (4 * v + 1)) (nI_add (4 * v) 1) ?_
          refine lv_iconst (v := 1) hx hb dX4_look_66 (by decide) ?_
          refine lv_isub hx hb dX4_look_67 ?_
          refine topv (nI (4 * v + 1 - 1)) (pk_sub (a := 4 * v + 1) (b := 1) (by omega)) ?_
          refine lv_aload_n hx hb dX4_look_68 rfl (lv_at hl 1 rfl) ?_
          refine lv_iload_n hx hb dX4_look_69 rfl (lv_at hl 2 rfl) ?_
          refine lv_iload_n hx hb dX4_look_70 rfl (lv_at hl 0 rfl) ?_
          refine lv_iconst (v := 0) hx hb dX4_look_71 (by decide) ?_
          refine callR (runV hx hb hg hown hml hl.1 (c_X4_hangs l D k ad U2 hvU2 (v := v) (by omega) false) [.int (nI v), .int 1, .int 0] [.int (nI (4 * v + 1 - 1)), .ref (ad 14)] (preR (mapSome_sub hh.1 [0, 1, 2, 3, 4, 5, 6, 7, 8, 9, 10, 11, 12, 13, 14, 15, 16, 17, 18, 19, 20, 21, 22] rfl) hK hN xb0 x0) (va_recv hK hh.1 (ci := 4) (q0 := 0) rfl rfl) wd_735 wd_737 wd_32 wd_53 wd_738 lk_X4_hangs ⟨rfl, rfl⟩ ⟨by decide, by decide⟩ ⟨Nat.zero_le _, Nat.zero_le _⟩ rfl (Nat.le_of_ble_eq_true rfl) dX4_look_72) (fun rf1 qrf1 => ?_)
          rw [pU2] at qrf1
          refine stn (j := (4 * v + 1 - 1)) hx hb hK hh 14 0 rfl rfl (by omega) (by decide) dX4_look_75 (wQ k ad (va_up U2 14 (upd (U2 14) (4 * v + 1 - 1) rf1))) rfl (fun H locs hh => ?_)
          obtain ⟨W1, eW1⟩ : ∃ z : St, z = va_up U2 14 (upd (U2 14) (4 * v + 1 - 1) rf1) := ⟨_, rfl⟩
          rw [← eW1] at hh
          have pW1 : pq W1 = pq V := by rw [eW1, pq_up (by decide)]; exact pU2
          have bW1 : W1 13 = U 13 := by rw [eW1, up_n (by decide)]; exact bU2
          have hvW1 : okV n (pq W1) := by rw [pW1]; exact hv
          have fW1 : Fr [14, 15] U W1 := by rw [eW1]; exact fU2.up (by decide)
          have c14_W1 : W1 14 = upd (U2 14) (4 * v + 1 - 1) rf1 := by rw [eW1, up_s]
          have c15_W1 : W1 15 = U2 15 := by rw [eW1, up_n (by decide)]
          refine lv_iinc (v := 2) (lv' := [(2, .int 2), (0, .ref (ad 0)), (1, .int (nI v))]) hx hb dX4_look_76 hl (k := 0) rfl (by decide) (by decide) rfl (fun ls hl => ?_)
          refine lv_goto (tgt := 52) hx hb dX4_look_79 (by decide) ?_
          refine lv_iload_n hx hb dX4_look_52 rfl (lv_at hl 0 rfl) ?_
          refine lv_iconst (v := 5) hx hb dX4_look_53 (by decide) ?_
          refine lv_icmp_ge (tgt := 82) hx hb dX4_look_54 (by decide) (fun c_54 => ?_) (fun c_54 => ?_)
          · exact absurd (show (5 : Int32) ≤ (2 : Int32) from c_54) (by decide)
          · refine lv_aload_n hx hb dX4_look_57 rfl (lv_at hl 1 rfl) ?_
            refine gfl hx hb hg inX4 hown hK hh.1 0 (ci := 4) rfl rfl 20 (by decide) wd_571 rfl dX4_look_58 ?_
            refine lv_iconst (v := 4) hx hb dX4_look_61 (by decide) ?_
            refine lv_iload_n hx hb dX4_look_62 rfl (lv_at hl 2 rfl) ?_
            refine lv_imul hx hb dX4_look_63 ?_
            refine topv (nI (4 * v)) (pk_mul 4 v) ?_
            refine lv_iload_n hx hb dX4_look_64 rfl (lv_at hl 0 rfl) ?_
            refine lv_iadd hx hb dX4_look_65 ?_
            refine topv (nI (4 * v + 2)) (nI_add (4 * v) 2) ?_
            refine lv_iconst (v := 1) hx hb dX4_look_66 (by decide) ?_
            refine lv_isub hx hb dX4_look_67 ?_
            refine topv (nI (4 * v + 2 - 1)) (pk_sub (a := 4 * v + 2) (b := 1) (by omega)) ?_
            refine lv_aload_n hx hb dX4_look_68 rfl (lv_at hl 1 rfl) ?_
            refine lv_iload_n hx hb dX4_look_69 rfl (lv_at hl 2 rfl) ?_
            refine lv_iload_n hx hb dX4_look_70 rfl (lv_at hl 0 rfl) ?_
            refine lv_iconst (v := 0) hx hb dX4_look_71 (by decide) ?_
            refine callR (runV hx hb hg hown hml hl.1 (c_X4_hangs_2 l D k ad W1 hvW1 (v := v) (by omega) false) [.int (nI v), .int 2, .int 0] [.int (nI (4 * v + 2 - 1)), .ref (ad 14)] (preR (mapSome_sub hh.1 [0, 1, 2, 3, 4, 5, 6, 7, 8, 9, 10, 11, 12, 13, 14, 15, 16, 17, 18, 19, 20, 21, 22] rfl) hK hN xb0 x0) (va_recv hK hh.1 (ci := 4) (q0 := 0) rfl rfl) wd_735 wd_737 wd_32 wd_53 wd_738 lk_X4_hangs ⟨rfl, rfl⟩ ⟨by decide, by decide⟩ ⟨Nat.zero_le _, Nat.zero_le _⟩ rfl (Nat.le_of_ble_eq_true rfl) dX4_look_72) (fun rf2 qrf2 => ?_)
            rw [pW1] at qrf2
            refine stn (j := (4 * v + 2 - 1)) hx hb hK hh 14 0 rfl rfl (by omega) (by decide) dX4_look_75 (wQ k ad (va_up W1 14 (upd (W1 14) (4 * v + 2 - 1) rf2))) rfl (fun H locs hh => ?_)
            obtain ⟨W2, eW2⟩ : ∃ z : St, z = va_up W1 14 (upd (W1 14) (4 * v + 2 - 1) rf2) := ⟨_, rfl⟩
            rw [← eW2] at hh
            have pW2 : pq W2 = pq V := by rw [eW2, pq_up (by decide)]; exact pW1
            have bW2 : W2 13 = U 13 := by rw [eW2, up_n (by decide)]; exact bW1
            have hvW2 : okV n (pq W2) := by rw [pW2]; exact hv
            have fW2 : Fr [14, 15] U W2 := by rw [eW2]; exact fW1.up (by decide)
            have c14_W2 : W2 14 = upd (W1 14) (4 * v + 2 - 1) rf2 := by rw [eW2, up_s]
            have c15_W2 : W2 15 = W1 15 := by rw [eW2, up_n (by decide)]
            refine lv_iinc (v := 3) (lv' := [(2, .int 3), (0, .ref (ad 0)), (1, .int (nI v))]) hx hb dX4_look_76 hl (k := 0) rfl (by decide) (by decide) rfl (fun ls hl => ?_)
            refine lv_goto (tgt := 52) hx hb dX4_look_79 (by decide) ?_
            refine lv_iload_n hx hb dX4_look_52 rfl (lv_at hl 0 rfl) ?_
            refine lv_iconst (v := 5) hx hb dX4_look_53 (by decide) ?_
            refine lv_icmp_ge (tgt := 82) hx hb dX4_look_54 (by decide) (fun c_54 => ?_) (fun c_54 => ?_)
            · exact absurd (show (5 : Int32) ≤ (3 : Int32) from c_54) (by decide)
            · refine lv_aload_n hx hb dX4_look_57 rfl (lv_at hl 1 rfl) ?_
              refine gfl hx hb hg inX4 hown hK hh.1 0 (ci := 4) rfl rfl 20 (by decide) wd_571 rfl dX4_look_58 ?_
              refine lv_iconst (v := 4) hx hb dX4_look_61 (by decide) ?_
              refine lv_iload_n hx hb dX4_look_62 rfl (lv_at hl 2 rfl) ?_
              refine lv_imul hx hb dX4_look_63 ?_
              refine topv (nI (4 * v)) (pk_mul 4 v) ?_
              refine lv_iload_n hx hb dX4_look_64 rfl (lv_at hl 0 rfl) ?_
              refine lv_iadd hx hb dX4_look_65 ?_
              refine topv (nI (4 * v + 3)) (nI_add (4 * v) 3) ?_
              refine lv_iconst (v := 1) hx hb dX4_look_66 (by decide) ?_
              refine lv_isub hx hb dX4_look_67 ?_
              refine topv (nI (4 * v + 3 - 1)) (pk_sub (a := 4 * v + 3) (b := 1) (by omega)) ?_
              refine lv_aload_n hx hb dX4_look_68 rfl (lv_at hl 1 rfl) ?_
              refine lv_iload_n hx hb dX4_look_69 rfl (lv_at hl 2 rfl) ?_
              refine lv_iload_n hx hb dX4_look_70 rfl (lv_at hl 0 rfl) ?_
              refine lv_iconst (v := 0) hx hb dX4_look_71 (by decide) ?_
              refine callR (runV hx hb hg hown hml hl.1 (c_X4_hangs_3 l D k ad W2 hvW2 (v := v) (by omega) false) [.int (nI v), .int 3, .int 0] [.int (nI (4 * v + 3 - 1)), .ref (ad 14)] (preR (mapSome_sub hh.1 [0, 1, 2, 3, 4, 5, 6, 7, 8, 9, 10, 11, 12, 13, 14, 15, 16, 17, 18, 19, 20, 21, 22] rfl) hK hN xb0 x0) (va_recv hK hh.1 (ci := 4) (q0 := 0) rfl rfl) wd_735 wd_737 wd_32 wd_53 wd_738 lk_X4_hangs ⟨rfl, rfl⟩ ⟨by decide, by decide⟩ ⟨Nat.zero_le _, Nat.zero_le _⟩ rfl (Nat.le_of_ble_eq_true rfl) dX4_look_72) (fun rf3 qrf3 => ?_)
              rw [pW2] at qrf3
              refine stn (j := (4 * v + 3 - 1)) hx hb hK hh 14 0 rfl rfl (by omega) (by decide) dX4_look_75 (wQ k ad (va_up W2 14 (upd (W2 14) (4 * v + 3 - 1) rf3))) rfl (fun H locs hh => ?_)
              obtain ⟨W3, eW3⟩ : ∃ z : St, z = va_up W2 14 (upd (W2 14) (4 * v + 3 - 1) rf3) := ⟨_, rfl⟩
              rw [← eW3] at hh
              have pW3 : pq W3 = pq V := by rw [eW3, pq_up (by decide)]; exact pW2
              have bW3 : W3 13 = U 13 := by rw [eW3, up_n (by decide)]; exact bW2
              have hvW3 : okV n (pq W3) := by rw [pW3]; exact hv
              have fW3 : Fr [14, 15] U W3 := by rw [eW3]; exact fW2.up (by decide)
              have c14_W3 : W3 14 = upd (W2 14) (4 * v + 3 - 1) rf3 := by rw [eW3, up_s]
              have c15_W3 : W3 15 = W2 15 := by rw [eW3, up_n (by decide)]
              refine lv_iinc (v := 4) (lv' := [(2, .int 4), (0, .ref (ad 0)), (1, .int (nI v))]) hx hb dX4_look_76 hl (k := 0) rfl (by decide) (by decide) rfl (fun ls hl => ?_)
              refine lv_goto (tgt := 52) hx hb dX4_look_79 (by decide) ?_
              refine lv_iload_n hx hb dX4_look_52 rfl (lv_at hl 0 rfl) ?_
              refine lv_iconst (v := 5) hx hb dX4_look_53 (by decide) ?_
              refine lv_icmp_ge (tgt := 82) hx hb dX4_look_54 (by decide) (fun c_54 => ?_) (fun c_54 => ?_)
              · exact absurd (show (5 : Int32) ≤ (4 : Int32) from c_54) (by decide)
              · refine lv_aload_n hx hb dX4_look_57 rfl (lv_at hl 1 rfl) ?_
                refine gfl hx hb hg inX4 hown hK hh.1 0 (ci := 4) rfl rfl 20 (by decide) wd_571 rfl dX4_look_58 ?_
                refine lv_iconst (v := 4) hx hb dX4_look_61 (by decide) ?_
                refine lv_iload_n hx hb dX4_look_62 rfl (lv_at hl 2 rfl) ?_
                refine lv_imul hx hb dX4_look_63 ?_
                refine topv (nI (4 * v)) (pk_mul 4 v) ?_
                refine lv_iload_n hx hb dX4_look_64 rfl (lv_at hl 0 rfl) ?_
                refine lv_iadd hx hb dX4_look_65 ?_
                refine topv (nI (4 * v + 4)) (nI_add (4 * v) 4) ?_
                refine lv_iconst (v := 1) hx hb dX4_look_66 (by decide) ?_
                refine lv_isub hx hb dX4_look_67 ?_
                refine topv (nI (4 * v + 4 - 1)) (pk_sub (a := 4 * v + 4) (b := 1) (by omega)) ?_
                refine lv_aload_n hx hb dX4_look_68 rfl (lv_at hl 1 rfl) ?_
                refine lv_iload_n hx hb dX4_look_69 rfl (lv_at hl 2 rfl) ?_
                refine lv_iload_n hx hb dX4_look_70 rfl (lv_at hl 0 rfl) ?_
                refine lv_iconst (v := 0) hx hb dX4_look_71 (by decide) ?_
                refine callR (runV hx hb hg hown hml hl.1 (c_X4_hangs_4 l D k ad W3 hvW3 (v := v) (by omega) (by rw [pW3, bW3]; exact hB1) false) [.int (nI v), .int 4, .int 0] [.int (nI (4 * v + 4 - 1)), .ref (ad 14)] (preR (mapSome_sub hh.1 [0, 1, 2, 3, 4, 5, 6, 7, 8, 9, 10, 11, 12, 13, 14, 15, 16, 17, 18, 19, 20, 21, 22] rfl) hK hN xb0 x0) (va_recv hK hh.1 (ci := 4) (q0 := 0) rfl rfl) wd_735 wd_737 wd_32 wd_53 wd_738 lk_X4_hangs ⟨rfl, rfl⟩ ⟨by decide, by decide⟩ ⟨Nat.zero_le _, Nat.zero_le _⟩ rfl (Nat.le_of_ble_eq_true rfl) dX4_look_72) (fun rf4 qrf4 => ?_)
                rw [pW3] at qrf4
                refine stn (j := (4 * v + 4 - 1)) hx hb hK hh 14 0 rfl rfl (by omega) (by decide) dX4_look_75 (wQ k ad (va_up W3 14 (upd (W3 14) (4 * v + 4 - 1) rf4))) rfl (fun H locs hh => ?_)
                obtain ⟨W4, eW4⟩ : ∃ z : St, z = va_up W3 14 (upd (W3 14) (4 * v + 4 - 1) rf4) := ⟨_, rfl⟩
                rw [← eW4] at hh
                have pW4 : pq W4 = pq V := by rw [eW4, pq_up (by decide)]; exact pW3
                have bW4 : W4 13 = U 13 := by rw [eW4, up_n (by decide)]; exact bW3
                have hvW4 : okV n (pq W4) := by rw [pW4]; exact hv
                have fW4 : Fr [14, 15] U W4 := by rw [eW4]; exact fW3.up (by decide)
                have c14_W4 : W4 14 = upd (W3 14) (4 * v + 4 - 1) rf4 := by rw [eW4, up_s]
                have c15_W4 : W4 15 = W3 15 := by rw [eW4, up_n (by decide)]
                refine lv_iinc (v := 5) (lv' := [(2, .int 5), (0, .ref (ad 0)), (1, .int (nI v))]) hx hb dX4_look_76 hl (k := 0) rfl (by decide) (by decide) rfl (fun ls hl => ?_)
                refine lv_goto (tgt := 52) hx hb dX4_look_79 (by decide) ?_
                refine lv_iload_n hx hb dX4_look_52 rfl (lv_at hl 0 rfl) ?_
                refine lv_iconst (v := 5) hx hb dX4_look_53 (by decide) ?_
                refine lv_icmp_ge (tgt := 82) hx hb dX4_look_54 (by decide) (fun c_54 => ?_) (fun c_54 => ?_)
                · refine lv_iconst (v := 1) hx hb dX4_look_82 (by decide) ?_
                  refine lv_istore_n (lv' := [(2, .int 1), (0, .ref (ad 0)), (1, .int (nI v))]) hx hb dX4_look_83 rfl hl (by decide) rfl (fun ls hl => ?_)
                  refine lv_iload_n hx hb dX4_look_84 rfl (lv_at hl 0 rfl) ?_
                  refine lv_iconst (v := 4) hx hb dX4_look_85 (by decide) ?_
                  refine lv_icmp_ge (tgt := 114) hx hb dX4_look_86 (by decide) (fun c_86 => ?_) (fun c_86 => ?_)
                  · exact absurd (show (4 : Int32) ≤ (1 : Int32) from c_86) (by decide)
                  · refine lv_aload_n hx hb dX4_look_89 rfl (lv_at hl 1 rfl) ?_
                    refine gfl hx hb hg inX4 hown hK hh.1 0 (ci := 4) rfl rfl 21 (by decide) wd_572 rfl dX4_look_90 ?_
                    refine lv_iconst (v := 3) hx hb dX4_look_93 (by decide) ?_
                    refine lv_iload_n hx hb dX4_look_94 rfl (lv_at hl 2 rfl) ?_
                    refine lv_imul hx hb dX4_look_95 ?_
                    refine topv (nI (3 * v)) (pk_mul 3 v) ?_
                    refine lv_iload_n hx hb dX4_look_96 rfl (lv_at hl 0 rfl) ?_
                    refine lv_iadd hx hb dX4_look_97 ?_
                    refine topv (nI (3 * v + 1)) (nI_add (3 * v) 1) ?_
                    refine lv_iconst (v := 1) hx hb dX4_look_98 (by decide) ?_
                    refine lv_isub hx hb dX4_look_99 ?_
                    refine topv (nI (3 * v + 1 - 1)) (pk_sub (a := 3 * v + 1) (b := 1) (by omega)) ?_
                    refine lv_aload_n hx hb dX4_look_100 rfl (lv_at hl 1 rfl) ?_
                    refine lv_iload_n hx hb dX4_look_101 rfl (lv_at hl 2 rfl) ?_
                    refine lv_iload_n hx hb dX4_look_102 rfl (lv_at hl 0 rfl) ?_
                    refine lv_iconst (v := 1) hx hb dX4_look_103 (by decide) ?_
                    refine callR (runV hx hb hg hown hml hl.1 (c_X4_hangs l D k ad W4 hvW4 (v := v) (by omega) true) [.int (nI v), .int 1, .int 1] [.int (nI (3 * v + 1 - 1)), .ref (ad 15)] (preR (mapSome_sub hh.1 [0, 1, 2, 3, 4, 5, 6, 7, 8, 9, 10, 11, 12, 13, 14, 15, 16, 17, 18, 19, 20, 21, 22] rfl) hK hN xb0 x0) (va_recv hK hh.1 (ci := 4) (q0 := 0) rfl rfl) wd_735 wd_737 wd_32 wd_53 wd_738 lk_X4_hangs ⟨rfl, rfl⟩ ⟨by decide, by decide⟩ ⟨Nat.zero_le _, Nat.zero_le _⟩ rfl (Nat.le_of_ble_eq_true rfl) dX4_look_104) (fun rt1 qrt1 => ?_)
                    rw [pW4] at qrt1
                    refine stn (j := (3 * v + 1 - 1)) hx hb hK hh 15 0 rfl rfl (by omega) (by decide) dX4_look_107 (wQ k ad (va_up W4 15 (upd (W4 15) (3 * v + 1 - 1) rt1))) rfl (fun H locs hh => ?_)
                    obtain ⟨W5, eW5⟩ : ∃ z : St, z = va_up W4 15 (upd (W4 15) (3 * v + 1 - 1) rt1) := ⟨_, rfl⟩
                    rw [← eW5] at hh
                    have pW5 : pq W5 = pq V := by rw [eW5, pq_up (by decide)]; exact pW4
                    have bW5 : W5 13 = U 13 := by rw [eW5, up_n (by decide)]; exact bW4
                    have hvW5 : okV n (pq W5) := by rw [pW5]; exact hv
                    have fW5 : Fr [14, 15] U W5 := by rw [eW5]; exact fW4.up (by decide)
                    have c14_W5 : W5 14 = W4 14 := by rw [eW5, up_n (by decide)]
                    have c15_W5 : W5 15 = upd (W4 15) (3 * v + 1 - 1) rt1 := by rw [eW5, up_s]
                    refine lv_iinc (v := 2) (lv' := [(2, .int 2), (0, .ref (ad 0)), (1, .int (nI v))]) hx hb dX4_look_108 hl (k := 0) rfl (by decide) (by decide) rfl (fun ls hl => ?_)
                    refine lv_goto (tgt := 84) hx hb dX4_look_111 (by decide) ?_
                    refine lv_iload_n hx hb dX4_look_84 rfl (lv_at hl 0 rfl) ?_
                    refine lv_iconst (v := 4) hx hb dX4_look_85 (by decide) ?_
                    refine lv_icmp_ge (tgt := 114) hx hb dX4_look_86 (by decide) (fun c_86 => ?_) (fun c_86 => ?_)
                    · exact absurd (show (4 : Int32) ≤ (2 : Int32) from c_86) (by decide)
                    · refine lv_aload_n hx hb dX4_look_89 rfl (lv_at hl 1 rfl) ?_
                      refine gfl hx hb hg inX4 hown hK hh.1 0 (ci := 4) rfl rfl 21 (by decide) wd_572 rfl dX4_look_90 ?_
                      refine lv_iconst (v := 3) hx hb dX4_look_93 (by decide) ?_
                      refine lv_iload_n hx hb dX4_look_94 rfl (lv_at hl 2 rfl) ?_
                      refine lv_imul hx hb dX4_look_95 ?_
                      refine topv (nI (3 * v)) (pk_mul 3 v) ?_
                      refine lv_iload_n hx hb dX4_look_96 rfl (lv_at hl 0 rfl) ?_
                      refine lv_iadd hx hb dX4_look_97 ?_
                      refine topv (nI (3 * v + 2)) (nI_add (3 * v) 2) ?_
                      refine lv_iconst (v := 1) hx hb dX4_look_98 (by decide) ?_
                      refine lv_isub hx hb dX4_look_99 ?_
                      refine topv (nI (3 * v + 2 - 1)) (pk_sub (a := 3 * v + 2) (b := 1) (by omega)) ?_
                      refine lv_aload_n hx hb dX4_look_100 rfl (lv_at hl 1 rfl) ?_
                      refine lv_iload_n hx hb dX4_look_101 rfl (lv_at hl 2 rfl) ?_
                      refine lv_iload_n hx hb dX4_look_102 rfl (lv_at hl 0 rfl) ?_
                      refine lv_iconst (v := 1) hx hb dX4_look_103 (by decide) ?_
                      refine callR (runV hx hb hg hown hml hl.1 (c_X4_hangs_2 l D k ad W5 hvW5 (v := v) (by omega) true) [.int (nI v), .int 2, .int 1] [.int (nI (3 * v + 2 - 1)), .ref (ad 15)] (preR (mapSome_sub hh.1 [0, 1, 2, 3, 4, 5, 6, 7, 8, 9, 10, 11, 12, 13, 14, 15, 16, 17, 18, 19, 20, 21, 22] rfl) hK hN xb0 x0) (va_recv hK hh.1 (ci := 4) (q0 := 0) rfl rfl) wd_735 wd_737 wd_32 wd_53 wd_738 lk_X4_hangs ⟨rfl, rfl⟩ ⟨by decide, by decide⟩ ⟨Nat.zero_le _, Nat.zero_le _⟩ rfl (Nat.le_of_ble_eq_true rfl) dX4_look_104) (fun rt2 qrt2 => ?_)
                      rw [pW5] at qrt2
                      refine stn (j := (3 * v + 2 - 1)) hx hb hK hh 15 0 rfl rfl (by omega) (by decide) dX4_look_107 (wQ k ad (va_up W5 15 (upd (W5 15) (3 * v + 2 - 1) rt2))) rfl (fun H locs hh => ?_)
                      obtain ⟨W6, eW6⟩ : ∃ z : St, z = va_up W5 15 (upd (W5 15) (3 * v + 2 - 1) rt2) := ⟨_, rfl⟩
                      rw [← eW6] at hh
                      have pW6 : pq W6 = pq V := by rw [eW6, pq_up (by decide)]; exact pW5
                      have bW6 : W6 13 = U 13 := by rw [eW6, up_n (by decide)]; exact bW5
                      have hvW6 : okV n (pq W6) := by rw [pW6]; exact hv
                      have fW6 : Fr [14, 15] U W6 := by rw [eW6]; exact fW5.up (by decide)
                      have c14_W6 : W6 14 = W5 14 := by rw [eW6, up_n (by decide)]
                      have c15_W6 : W6 15 = upd (W5 15) (3 * v + 2 - 1) rt2 := by rw [eW6, up_s]
                      refine lv_iinc (v := 3) (lv' := [(2, .int 3), (0, .ref (ad 0)), (1, .int (nI v))]) hx hb dX4_look_108 hl (k := 0) rfl (by decide) (by decide) rfl (fun ls hl => ?_)
                      refine lv_goto (tgt := 84) hx hb dX4_look_111 (by decide) ?_
                      refine lv_iload_n hx hb dX4_look_84 rfl (lv_at hl 0 rfl) ?_
                      refine lv_iconst (v := 4) hx hb dX4_look_85 (by decide) ?_
                      refine lv_icmp_ge (tgt := 114) hx hb dX4_look_86 (by decide) (fun c_86 => ?_) (fun c_86 => ?_)
                      · exact absurd (show (4 : Int32) ≤ (3 : Int32) from c_86) (by decide)
                      · refine lv_aload_n hx hb dX4_look_89 rfl (lv_at hl 1 rfl) ?_
                        refine gfl hx hb hg inX4 hown hK hh.1 0 (ci := 4) rfl rfl 21 (by decide) wd_572 rfl dX4_look_90 ?_
                        refine lv_iconst (v := 3) hx hb dX4_look_93 (by decide) ?_
                        refine lv_iload_n hx hb dX4_look_94 rfl (lv_at hl 2 rfl) ?_
                        refine lv_imul hx hb dX4_look_95 ?_
                        refine topv (nI (3 * v)) (pk_mul 3 v) ?_
                        refine lv_iload_n hx hb dX4_look_96 rfl (lv_at hl 0 rfl) ?_
                        refine lv_iadd hx hb dX4_look_97 ?_
                        refine topv (nI (3 * v + 3)) (nI_add (3 * v) 3) ?_
                        refine lv_iconst (v := 1) hx hb dX4_look_98 (by decide) ?_
                        refine lv_isub hx hb dX4_look_99 ?_
                        refine topv (nI (3 * v + 3 - 1)) (pk_sub (a := 3 * v + 3) (b := 1) (by omega)) ?_
                        refine lv_aload_n hx hb dX4_look_100 rfl (lv_at hl 1 rfl) ?_
                        refine lv_iload_n hx hb dX4_look_101 rfl (lv_at hl 2 rfl) ?_
                        refine lv_iload_n hx hb dX4_look_102 rfl (lv_at hl 0 rfl) ?_
                        refine lv_iconst (v := 1) hx hb dX4_look_103 (by decide) ?_
                        refine callR (runV hx hb hg hown hml hl.1 (c_X4_hangs_3 l D k ad W6 hvW6 (v := v) (by omega) true) [.int (nI v), .int 3, .int 1] [.int (nI (3 * v + 3 - 1)), .ref (ad 15)] (preR (mapSome_sub hh.1 [0, 1, 2, 3, 4, 5, 6, 7, 8, 9, 10, 11, 12, 13, 14, 15, 16, 17, 18, 19, 20, 21, 22] rfl) hK hN xb0 x0) (va_recv hK hh.1 (ci := 4) (q0 := 0) rfl rfl) wd_735 wd_737 wd_32 wd_53 wd_738 lk_X4_hangs ⟨rfl, rfl⟩ ⟨by decide, by decide⟩ ⟨Nat.zero_le _, Nat.zero_le _⟩ rfl (Nat.le_of_ble_eq_true rfl) dX4_look_104) (fun rt3 qrt3 => ?_)
                        rw [pW6] at qrt3
                        refine stn (j := (3 * v + 3 - 1)) hx hb hK hh 15 0 rfl rfl (by omega) (by decide) dX4_look_107 (wQ k ad (va_up W6 15 (upd (W6 15) (3 * v + 3 - 1) rt3))) rfl (fun H locs hh => ?_)
                        obtain ⟨W7, eW7⟩ : ∃ z : St, z = va_up W6 15 (upd (W6 15) (3 * v + 3 - 1) rt3) := ⟨_, rfl⟩
                        rw [← eW7] at hh
                        have pW7 : pq W7 = pq V := by rw [eW7, pq_up (by decide)]; exact pW6
                        have bW7 : W7 13 = U 13 := by rw [eW7, up_n (by decide)]; exact bW6
                        have hvW7 : okV n (pq W7) := by rw [pW7]; exact hv
                        have fW7 : Fr [14, 15] U W7 := by rw [eW7]; exact fW6.up (by decide)
                        have c14_W7 : W7 14 = W6 14 := by rw [eW7, up_n (by decide)]
                        have c15_W7 : W7 15 = upd (W6 15) (3 * v + 3 - 1) rt3 := by rw [eW7, up_s]
                        refine lv_iinc (v := 4) (lv' := [(2, .int 4), (0, .ref (ad 0)), (1, .int (nI v))]) hx hb dX4_look_108 hl (k := 0) rfl (by decide) (by decide) rfl (fun ls hl => ?_)
                        refine lv_goto (tgt := 84) hx hb dX4_look_111 (by decide) ?_
                        refine lv_iload_n hx hb dX4_look_84 rfl (lv_at hl 0 rfl) ?_
                        refine lv_iconst (v := 4) hx hb dX4_look_85 (by decide) ?_
                        refine lv_icmp_ge (tgt := 114) hx hb dX4_look_86 (by decide) (fun c_86 => ?_) (fun c_86 => ?_)
                        · refine lv_iinc (v := nI (v + 1)) (lv' := [(1, .int (nI (v + 1))), (2, .int 4), (0, .ref (ad 0))]) hx hb dX4_look_114 hl (k := 2) rfl (nI_succ v).symm (by decide) rfl (fun ls hl => ?_)
                          refine lv_goto (tgt := 42) hx hb dX4_look_117 (by decide) ?_
                          have h4 := upd4 (g := W7 14) (f := U2 14) (v := v) (r1 := rf1) (r2 := rf2) (r3 := rf3) (r4 := rf4) (by rw [c14_W7, c14_W6, c14_W5, c14_W4, c14_W3, c14_W2, c14_W1])
                          have h3 := upd3 (g := W7 15) (f := U2 15) (v := v) (r1 := rt1) (r2 := rt2) (r3 := rt3) (by rw [c15_W7, c15_W6, c15_W5, c15_W4, c15_W3, c15_W2, c15_W1])
                          exact ih (v + 1, W7) _ _ _ ⟨hh, (lv_sub hl [2, 0] rfl), (by omega), fW7, (fun v9 hv9 => by rcases Classical.em (v9 = v) with e9 | e9; (subst e9; unfold fatM; rw [h4.1, h4.2.1, h4.2.2.1, h4.2.2.2.1, h3.1, h3.2.1, h3.2.2.1]; exact ⟨⟨qrf1, qrf2, qrf3, qrf4⟩, qrt1, qrt2, qrt3⟩); (have z := hFt v9 (by omega); unfold fatM at z ⊢; rw [h4.2.2.2.2 _ (by omega), h4.2.2.2.2 _ (by omega), h4.2.2.2.2 _ (by omega), h4.2.2.2.2 _ (by omega), h3.2.2.2 _ (by omega), h3.2.2.2 _ (by omega), h3.2.2.2 _ (by omega)]; exact z))⟩ (by dsimp only; omega)
                        · exact absurd (show ¬ ((4 : Int32) ≤ (4 : Int32)) from c_86) (by decide)
                · exact absurd (show ¬ ((5 : Int32) ≤ (5 : Int32)) from c_54) (by decide)
    · have c_20 : ¬ n ≤ v := fun z => c_20 ((nI_leI (a := n) (b := v) (by omega) (by omega)).mpr z)
      refine lv_aload_n hx hb dX4_look_23 rfl (lv_at hl 0 rfl) ?_
      refine gfl hx hb hg inX4 hown hK hh.1 0 (ci := 4) rfl rfl 19 (by decide) wd_570 rfl dX4_look_24 ?_
      refine lv_iload_n hx hb dX4_look_27 rfl (lv_at hl 1 rfl) ?_
      refine lv_aload_n hx hb dX4_look_28 rfl (lv_at hl 0 rfl) ?_
      refine lv_iload_n hx hb dX4_look_29 rfl (lv_at hl 1 rfl) ?_
      refine callR (runV hx hb hg hown hml hl.1 (c_X4_followers l D k ad U hvU (u := v) (by omega)) [.int (nI v)] [.int (nI v), .ref (ad 13)] (preR (mapSome_sub hh.1 [0, 1, 2, 3, 4, 5, 6, 7, 8, 9, 10, 11, 12, 13, 14, 15, 16, 17, 18, 19, 20, 21, 22] rfl) hK hN xb0 x0) (va_recv hK hh.1 (ci := 4) (q0 := 0) rfl rfl) wd_706 wd_708 wd_26 wd_53 wd_709 lk_X4_followers ⟨rfl, rfl⟩ ⟨by decide, by decide⟩ ⟨Nat.zero_le _, Nat.zero_le _⟩ rfl (Nat.le_of_ble_eq_true rfl) dX4_look_30) (fun r_30 q_30 => ?_)
      rw [pU] at q_30
      refine stn (j := v) hx hb hK hh 13 0 rfl rfl (by omega) (by decide) dX4_look_33 (wQ k ad (va_up U 13 (upd (U 13) v r_30))) rfl (fun H locs hh => ?_)
      refine lv_iinc (v := nI (v + 1)) (lv' := [(1, .int (nI (v + 1))), (0, .ref (ad 0))]) hx hb dX4_look_34 hl (k := 1) rfl (nI_succ v).symm (by decide) rfl (fun ls hl => ?_)
      refine lv_goto (tgt := 15) hx hb dX4_look_37 (by decide) ?_
      exact ih (v + 1, va_up U 13 (upd (U 13) v r_30)) _ _ _ ⟨hh, (lv_sub hl [1, 0] rfl), (by omega), (hf.up (by decide)), (fun s1 h => by rcases Classical.em (s1 = v) with e9 | e9; (subst e9; rw [up_s, upd_s]; exact q_30); (rw [up_s, upd_n e9]; exact hBb s1 (by omega)))⟩ (by dsimp only; omega)
  · exact retV (Wd := wQ k ad) (V) hx hb hr hlocks dX4_look_7 hh (⟨FrQ.rf, by rcases hc with h | h; exact absurd h c_4; exact h.1, by rcases hc with h | h; exact absurd h c_4; exact h.2⟩)
