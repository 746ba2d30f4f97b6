/-! the class Reasons: what writes -/
theorem b_plI {n p j : Nat} (hn : n ≤ 24) (h : bt (plI n p) j = true) : j < 25 := by
  unfold plI at h
  split at h
  · rw [b_bit (by omega)] at h; have := of_decide_eq_true h; omega
  · rw [b_bit (by omega)] at h; have := of_decide_eq_true h; omega
theorem b_nxI {n : Nat} {V : St} {p j : Nat} (hn : n ≤ 24) (h : bt (nxI n V p) j = true) : j < 25 := by
  unfold nxI at h
  split at h
  · rw [b_or, Bool.or_eq_true] at h; exact h.elim (b_plI hn) (b_plI hn)
  · split at h
    · exact b_plI hn h
    · split at h
      · rw [b_bit (by omega)] at h; have := of_decide_eq_true h; omega
      · split at h
        · rw [b_or, Bool.or_eq_true, b_bit (by omega)] at h
          rcases h with h | h
          · exact b_plI hn h
          · have := of_decide_eq_true h; omega
        · exact b_plI hn h
abbrev rmX2_takeNexts : Room := { frames := 3, cells := 0, slots := 0, locals := 64 }
theorem lk_X2_takeNexts : Lk yX2_takeNexts 1 := by decide +kernel
set_option maxHeartbeats 4000000 in
set_option maxRecDepth 100000 in
/-- takeNexts(program) -/
theorem c_X2_takeNexts (l : Launch) (D : va_G) (k : Nat → ClassId) (ad : Nat → Nat) (V : St) {n : Nat} (hn : V 0 0 = nI n) (hn24 : n ≤ 24) (bd : Nat → Nat) (Pv : St) (hv : okV n Pv) : CtX noX l yX2_takeNexts cX2_takeNexts 3 none rmX2_takeNexts D (tyL k) ((wR k ad V) ++ (wP k bd Pv)) [.ref (ad 0), .ref (bd 0)] (qV D (fun U => (wR k ad U) ++ (wP k bd Pv)) (fun U => Fr [1, 2] V U ∧ ∀ p, p < n → U 1 p = nxI n Pv p ∧ U 2 p = wnI n Pv p)) := by
  refine CtX.mk (by decide) (Nat.le_of_ble_eq_true rfl) ?_
  intro p e s m below meth c hx hb hml hown hg hr hlocks hK hN A hA hX hh ls hl
  have hh : Hd D A ((wR k ad V) ++ (wP k bd Pv)) s.heap s.heap [] := hh
  have hl : lv_has ls 3 [(0, .ref (ad 0)), (1, .ref (bd 0))] := hl
  refine lv_iconst (v := 0) hx hb dX2_takeNexts_0 (by decide) ?_
  refine lv_istore_n (lv' := [(2, .int 0), (0, .ref (ad 0)), (1, .ref (bd 0))]) hx hb dX2_takeNexts_1 rfl hl (by decide) rfl (fun ls hl => ?_)
  refine loopW (σ := Nat × St) (fun zz9 H locs ls => match zz9 with | (i, U) => Hd D A ((wR k ad U) ++ (wP k bd Pv)) s.heap H locs ∧ lv_has ls 3 [(0, .ref (ad 0)), (1, .ref (bd 0)), (2, .int (nI i))] ∧ (i ≤ n) ∧ (Fr [1, 2] V U) ∧ (∀ p, p < i → U 1 p = nxI n Pv p ∧ U 2 p = wnI n Pv p)) (fun zz9 => match zz9 with | (i, U) => n - i) ?_ (0, V) ⟨hh, (lv_sub hl [1, 2, 0] rfl), (by omega), Fr.rf, (fun p hp => absurd hp (Nat.not_lt_zero _))⟩
  intro zz9 H locs ls hI ih
  obtain ⟨i, U⟩ := zz9
  obtain ⟨hh, hl, hi, hf, hA2⟩ := hI
  have hnU : U 0 0 = nI n := (hf.at 0 (by decide) 0).trans hn
  refine lv_iload_n hx hb dX2_takeNexts_2 rfl (lv_at hl 2 rfl) ?_
  refine lv_aload_n hx hb dX2_takeNexts_3 rfl (lv_at hl 0 rfl) ?_
  refine gfl hx hb hg inX2 hown hK hh.1 0 (ci := 2) rfl rfl 0 (by decide) wd_119 rfl dX2_takeNexts_4 ?_
  refine topv (nI n) hnU ?_
  refine lv_icmp_ge (tgt := 38) hx hb dX2_takeNexts_7 (by decide) (fun c_7 => ?_) (fun c_7 => ?_)
  · have c_7 : n ≤ i := (nI_leI (a := n) (b := i) (by omega) (by omega)).mp c_7
    exact retV (Wd := fun U => (wR k ad U) ++ (wP k bd Pv)) (U) hx hb hr hlocks dX2_takeNexts_38 hh (⟨hf, fun p hp => hA2 p (by omega)⟩)
  · have c_7 : ¬ n ≤ i := fun z => c_7 ((nI_leI (a := n) (b := i) (by omega) (by omega)).mpr z)
    refine lv_aload_n hx hb dX2_takeNexts_10 rfl (lv_at hl 0 rfl) ?_
    refine gfl hx hb hg inX2 hown hK hh.1 0 (ci := 2) rfl rfl 1 (by decide) wd_120 rfl dX2_takeNexts_11 ?_
    refine lv_iload_n hx hb dX2_takeNexts_14 rfl (lv_at hl 2 rfl) ?_
    refine lv_aload_n hx hb dX2_takeNexts_15 rfl (lv_at hl 1 rfl) ?_
    refine lv_iload_n hx hb dX2_takeNexts_16 rfl (lv_at hl 2 rfl) ?_
    refine callR (runV hx hb hg hown hml hl.1 (c_X1_nextsOf l D k bd Pv hv (q := i) (by omega)) [.int (nI i)] [.int (nI i), .ref (ad 1)] (preR (mapSome_sub hh.1 [15, 16, 17, 18, 19, 20, 21, 22] rfl) hK hN xb0 x0) (va_recv hK hh.1 (ci := 1) (q0 := 15) rfl rfl) wd_292 wd_293 wd_294 wd_50 wd_295 lk_X1_nextsOf ⟨rfl, rfl⟩ ⟨by decide, by decide⟩ ⟨Nat.zero_le _, Nat.zero_le _⟩ rfl (Nat.le_of_ble_eq_true rfl) dX2_takeNexts_17) (fun r_17 q_17 => ?_)
    obtain rfl := q_17
    refine stn (j := i) hx hb hK hh 1 0 rfl rfl (by omega) (by decide) dX2_takeNexts_20 ((wR k ad (va_up U 1 (upd (U 1) i (nxI n Pv i)))) ++ (wP k bd Pv)) rfl (fun H locs hh => ?_)
    refine lv_aload_n hx hb dX2_takeNexts_21 rfl (lv_at hl 0 rfl) ?_
    refine gfl hx hb hg inX2 hown hK hh.1 0 (ci := 2) rfl rfl 2 (by decide) wd_121 rfl dX2_takeNexts_22 ?_
    refine lv_iload_n hx hb dX2_takeNexts_25 rfl (lv_at hl 2 rfl) ?_
    refine lv_aload_n hx hb dX2_takeNexts_26 rfl (lv_at hl 1 rfl) ?_
    refine lv_iload_n hx hb dX2_takeNexts_27 rfl (lv_at hl 2 rfl) ?_
    refine callR (runV hx hb hg hown hml hl.1 (c_X1_widerNextsOf l D k bd Pv hv (q := i) (by omega)) [.int (nI i)] [.int (nI i), .ref (ad 2)] (preR (mapSome_sub hh.1 [15, 16, 17, 18, 19, 20, 21, 22] rfl) hK hN xb0 x0) (va_recv hK hh.1 (ci := 1) (q0 := 15) rfl rfl) wd_305 wd_306 wd_307 wd_50 wd_308 lk_X1_widerNextsOf ⟨rfl, rfl⟩ ⟨by decide, by decide⟩ ⟨Nat.zero_le _, Nat.zero_le _⟩ rfl (Nat.le_of_ble_eq_true rfl) dX2_takeNexts_28) (fun r_28 q_28 => ?_)
    obtain rfl := q_28
    refine stn (j := i) hx hb hK hh 2 0 rfl rfl (by omega) (by decide) dX2_takeNexts_31 ((wR k ad (va_up (va_up U 1 (upd (U 1) i (nxI n Pv i))) 2 (upd (U 2) i (wnI n Pv i)))) ++ (wP k bd Pv)) rfl (fun H locs hh => ?_)
    refine lv_iinc (v := nI (i + 1)) (lv' := [(2, .int (nI (i + 1))), (0, .ref (ad 0)), (1, .ref (bd 0))]) hx hb dX2_takeNexts_32 hl (k := 2) rfl (nI_succ i).symm (by decide) rfl (fun ls hl => ?_)
    refine lv_goto (tgt := 2) hx hb dX2_takeNexts_35 (by decide) ?_
    exact ih (i + 1, va_up (va_up U 1 (upd (U 1) i (nxI n Pv i))) 2 (upd (U 2) i (wnI n Pv i))) _ _ _ ⟨hh, (lv_sub hl [1, 2, 0] rfl), (by omega), ((hf.up (by decide)).up (by decide)), (fun p hp => by rcases Classical.em (p = i) with e | e; (subst e; simp [va_up, upd]); (have h1 := hA2 p (by omega); simp [va_up, upd, e, h1]))⟩ (by dsimp only; omega)
abbrev rmX2_forgetHanging : Room := { frames := 0, cells := 0, slots := 0, locals := 0 }
theorem lk_X2_forgetHanging : Lk yX2_forgetHanging 0 := by decide +kernel
set_option maxHeartbeats 4000000 in
set_option maxRecDepth 100000 in
/-- forgetHanging() -/
theorem c_X2_forgetHanging (l : Launch) (D : va_G) (k : Nat → ClassId) (ad : Nat → Nat) (V : St) {n : Nat} (hn : V 0 0 = nI n) (hn24 : n ≤ 24) : CtX noX l yX2_forgetHanging cX2_forgetHanging 3 none rmX2_forgetHanging D (tyL k) (wR k ad V) [.ref (ad 0)] (qV D (wR k ad) (fun U => Fr [3, 6, 11, 12, 13, 14] V U ∧ ∀ p, p < n → U 3 p = 0 ∧ U 6 p = 0 ∧ U 11 p = 0 ∧ U 12 p = 0 ∧ U 13 p = 0 ∧ U 14 p = 0)) := by
  refine CtX.mk (by decide) (Nat.le_of_ble_eq_true rfl) ?_
  intro p e s m below meth c hx hb hml hown hg hr hlocks hK hN A hA hX hh ls hl
  have hh : Hd D A (wR k ad V) s.heap s.heap [] := hh
  have hl : lv_has ls 3 [(0, .ref (ad 0))] := hl
  refine lv_iconst (v := 0) hx hb dX2_forgetHanging_0 (by decide) ?_
  refine lv_istore_n (lv' := [(1, .int 0), (0, .ref (ad 0))]) hx hb dX2_forgetHanging_1 rfl hl (by decide) rfl (fun ls hl => ?_)
  refine loopW (σ := Nat × St) (fun zz9 H locs ls => match zz9 with | (i, U) => Hd D A (wR k ad U) s.heap H locs ∧ lv_has ls 3 [(0, .ref (ad 0)), (1, .int (nI i))] ∧ (i ≤ n) ∧ (Fr [3, 6, 11, 12, 13, 14] V U) ∧ (∀ p, p < i → U 3 p = 0 ∧ U 6 p = 0 ∧ U 11 p = 0 ∧ U 12 p = 0 ∧ U 13 p = 0 ∧ U 14 p = 0)) (fun zz9 => match zz9 with | (i, U) => n - i) ?_ (0, V) ⟨hh, (lv_sub hl [1, 0] rfl), (by omega), Fr.rf, (fun p hp => absurd hp (Nat.not_lt_zero _))⟩
  intro zz9 H locs ls hI ih
  obtain ⟨i, U⟩ := zz9
  obtain ⟨hh, hl, hi, hf, hA2⟩ := hI
  have hnU : U 0 0 = nI n := (hf.at 0 (by decide) 0).trans hn
  refine lv_iload_n hx hb dX2_forgetHanging_2 rfl (lv_at hl 1 rfl) ?_
  refine lv_aload_n hx hb dX2_forgetHanging_3 rfl (lv_at hl 0 rfl) ?_
  refine gfl hx hb hg inX2 hown hK hh.1 0 (ci := 2) rfl rfl 0 (by decide) wd_119 rfl dX2_forgetHanging_4 ?_
  refine topv (nI n) hnU ?_
  refine lv_icmp_ge (tgt := 52) hx hb dX2_forgetHanging_7 (by decide) (fun c_7 => ?_) (fun c_7 => ?_)
  · have c_7 : n ≤ i := (nI_leI (a := n) (b := i) (by omega) (by omega)).mp c_7
    exact retV (Wd := wR k ad) (U) hx hb hr hlocks dX2_forgetHanging_52 hh (⟨hf, fun p hp => hA2 p (by omega)⟩)
  · have c_7 : ¬ n ≤ i := fun z => c_7 ((nI_leI (a := n) (b := i) (by omega) (by omega)).mpr z)
    refine lv_aload_n hx hb dX2_forgetHanging_10 rfl (lv_at hl 0 rfl) ?_
    refine gfl hx hb hg inX2 hown hK hh.1 0 (ci := 2) rfl rfl 3 (by decide) wd_122 rfl dX2_forgetHanging_11 ?_
    refine lv_iload_n hx hb dX2_forgetHanging_14 rfl (lv_at hl 1 rfl) ?_
    refine lv_iconst (v := 0) hx hb dX2_forgetHanging_15 (by decide) ?_
    refine stn (j := i) hx hb hK hh 3 0 rfl rfl (by omega) (by decide) dX2_forgetHanging_16 (wR k ad (va_up U 3 (upd (U 3) i 0))) rfl (fun H locs hh => ?_)
    refine lv_aload_n hx hb dX2_forgetHanging_17 rfl (lv_at hl 0 rfl) ?_
    refine gfl hx hb hg inX2 hown hK hh.1 0 (ci := 2) rfl rfl 6 (by decide) wd_125 rfl dX2_forgetHanging_18 ?_
    refine lv_iload_n hx hb dX2_forgetHanging_21 rfl (lv_at hl 1 rfl) ?_
    refine lv_iconst (v := 0) hx hb dX2_forgetHanging_22 (by decide) ?_
    refine stn (j := i) hx hb hK hh 6 0 rfl rfl (by omega) (by decide) dX2_forgetHanging_23 (wR k ad (va_up (va_up U 3 (upd (U 3) i 0)) 6 (upd (U 6) i 0))) rfl (fun H locs hh => ?_)
    refine lv_iconst (v := 1) hx hb dX2_forgetHanging_24 (by decide) ?_
    refine lv_istore_n (lv' := [(2, .int 1), (0, .ref (ad 0)), (1, .int (nI i))]) hx hb dX2_forgetHanging_25 rfl hl (by decide) rfl (fun ls hl => ?_)
    refine lv_iload_n hx hb dX2_forgetHanging_26 rfl (lv_at hl 0 rfl) ?_
    refine lv_iconst (v := 4) hx hb dX2_forgetHanging_27 (by decide) ?_
    refine lv_icmp_gt (tgt := 46) hx hb dX2_forgetHanging_28 (by decide) (fun c_28 => ?_) (fun c_28 => ?_)
    · exact absurd (show (4 : Int32) < (1 : Int32) from c_28) (by decide)
    · refine lv_aload_n hx hb dX2_forgetHanging_31 rfl (lv_at hl 1 rfl) ?_
      refine gfl hx hb hg inX2 hown hK hh.1 0 (ci := 2) rfl rfl 4 (by decide) wd_123 rfl dX2_forgetHanging_32 ?_
      refine lv_iload_n hx hb dX2_forgetHanging_35 rfl (lv_at hl 0 rfl) ?_
      refine topv (nI 1) rfl ?_
      refine ldq (x := ad (10 + 1)) hx hb hK hh.1 4 2 rfl rfl rfl (by omega) (by decide) rfl dX2_forgetHanging_36 ?_
      refine lv_iload_n hx hb dX2_forgetHanging_37 rfl (lv_at hl 2 rfl) ?_
      refine lv_iconst (v := 0) hx hb dX2_forgetHanging_38 (by decide) ?_
      refine stn (j := i) hx hb hK hh 11 0 rfl rfl (by omega) (by decide) dX2_forgetHanging_39 (wR k ad (va_up (va_up (va_up U 3 (upd (U 3) i 0)) 6 (upd (U 6) i 0)) 11 (upd (U 11) i 0))) rfl (fun H locs hh => ?_)
      refine lv_iinc (v := 2) (lv' := [(2, .int 2), (0, .ref (ad 0)), (1, .int (nI i))]) hx hb dX2_forgetHanging_40 hl (k := 0) rfl (by decide) (by decide) rfl (fun ls hl => ?_)
      refine lv_goto (tgt := 26) hx hb dX2_forgetHanging_43 (by decide) ?_
      refine lv_iload_n hx hb dX2_forgetHanging_26 rfl (lv_at hl 0 rfl) ?_
      refine lv_iconst (v := 4) hx hb dX2_forgetHanging_27 (by decide) ?_
      refine lv_icmp_gt (tgt := 46) hx hb dX2_forgetHanging_28 (by decide) (fun c_28 => ?_) (fun c_28 => ?_)
      · exact absurd (show (4 : Int32) < (2 : Int32) from c_28) (by decide)
      · refine lv_aload_n hx hb dX2_forgetHanging_31 rfl (lv_at hl 1 rfl) ?_
        refine gfl hx hb hg inX2 hown hK hh.1 0 (ci := 2) rfl rfl 4 (by decide) wd_123 rfl dX2_forgetHanging_32 ?_
        refine lv_iload_n hx hb dX2_forgetHanging_35 rfl (lv_at hl 0 rfl) ?_
        refine topv (nI 2) rfl ?_
        refine ldq (x := ad (10 + 2)) hx hb hK hh.1 4 2 rfl rfl rfl (by omega) (by decide) rfl dX2_forgetHanging_36 ?_
        refine lv_iload_n hx hb dX2_forgetHanging_37 rfl (lv_at hl 2 rfl) ?_
        refine lv_iconst (v := 0) hx hb dX2_forgetHanging_38 (by decide) ?_
        refine stn (j := i) hx hb hK hh 12 0 rfl rfl (by omega) (by decide) dX2_forgetHanging_39 (wR k ad (va_up (va_up (va_up (va_up U 3 (upd (U 3) i 0)) 6 (upd (U 6) i 0)) 11 (upd (U 11) i 0)) 12 (upd (U 12) i 0))) rfl (fun H locs hh => ?_)
        refine lv_iinc (v := 3) (lv' := [(2, .int 3), (0, .ref (ad 0)), (1, .int (nI i))]) hx hb dX2_forgetHanging_40 hl (k := 0) rfl (by decide) (by decide) rfl (fun ls hl => ?_)
        refine lv_goto (tgt := 26) hx hb dX2_forgetHanging_43 (by decide) ?_
        refine lv_iload_n hx hb dX2_forgetHanging_26 rfl (lv_at hl 0 rfl) ?_
        refine lv_iconst (v := 4) hx hb dX2_forgetHanging_27 (by decide) ?_
        refine lv_icmp_gt (tgt := 46) hx hb dX2_forgetHanging_28 (by decide) (fun c_28 => ?_) (fun c_28 => ?_)
        · exact absurd (show (4 : Int32) < (3 : Int32) from c_28) (by decide)
        · refine lv_aload_n hx hb dX2_forgetHanging_31 rfl (lv_at hl 1 rfl) ?_
          refine gfl hx hb hg inX2 hown hK hh.1 0 (ci := 2) rfl rfl 4 (by decide) wd_123 rfl dX2_forgetHanging_32 ?_
          refine lv_iload_n hx hb dX2_forgetHanging_35 rfl (lv_at hl 0 rfl) ?_
          refine topv (nI 3) rfl ?_
          refine ldq (x := ad (10 + 3)) hx hb hK hh.1 4 2 rfl rfl rfl (by omega) (by decide) rfl dX2_forgetHanging_36 ?_
          refine lv_iload_n hx hb dX2_forgetHanging_37 rfl (lv_at hl 2 rfl) ?_
          refine lv_iconst (v := 0) hx hb dX2_forgetHanging_38 (by decide) ?_
          refine stn (j := i) hx hb hK hh 13 0 rfl rfl (by omega) (by decide) dX2_forgetHanging_39 (wR k ad (va_up (va_up (va_up (va_up (va_up U 3 (upd (U 3) i 0)) 6 (upd (U 6) i 0)) 11 (upd (U 11) i 0)) 12 (upd (U 12) i 0)) 13 (upd (U 13) i 0))) rfl (fun H locs hh => ?_)
          refine lv_iinc (v := 4) (lv' := [(2, .int 4), (0, .ref (ad 0)), (1, .int (nI i))]) hx hb dX2_forgetHanging_40 hl (k := 0) rfl (by decide) (by decide) rfl (fun ls hl => ?_)
          refine lv_goto (tgt := 26) hx hb dX2_forgetHanging_43 (by decide) ?_
          refine lv_iload_n hx hb dX2_forgetHanging_26 rfl (lv_at hl 0 rfl) ?_
          refine lv_iconst (v := 4) hx hb dX2_forgetHanging_27 (by decide) ?_
          refine lv_icmp_gt (tgt := 46) hx hb dX2_forgetHanging_28 (by decide) (fun c_28 => ?_) (fun c_28 => ?_)
          · exact absurd (show (4 : Int32) < (4 : Int32) from c_28) (by decide)
          · refine lv_aload_n hx hb dX2_forgetHanging_31 rfl (lv_at hl 1 rfl) ?_
            refine gfl hx hb hg inX2 hown hK hh.1 0 (ci := 2) rfl rfl 4 (by decide) wd_123 rfl dX2_forgetHanging_32 ?_
            refine lv_iload_n hx hb dX2_forgetHanging_35 rfl (lv_at hl 0 rfl) ?_
            refine topv (nI 4) rfl ?_
            refine ldq (x := ad (10 + 4)) hx hb hK hh.1 4 2 rfl rfl rfl (by omega) (by decide) rfl dX2_forgetHanging_36 ?_
            refine lv_iload_n hx hb dX2_forgetHanging_37 rfl (lv_at hl 2 rfl) ?_
            refine lv_iconst (v := 0) hx hb dX2_forgetHanging_38 (by decide) ?_
            refine stn (j := i) hx hb hK hh 14 0 rfl rfl (by omega) (by decide) dX2_forgetHanging_39 (wR k ad (va_up (va_up (va_up (va_up (va_up (va_up U 3 (upd (U 3) i 0)) 6 (upd (U 6) i 0)) 11 (upd (U 11) i 0)) 12 (upd (U 12) i 0)) 13 (upd (U 13) i 0)) 14 (upd (U 14) i 0))) rfl (fun H locs hh => ?_)
            refine lv_iinc (v := 5) (lv' := [(2, .int 5), (0, .ref (ad 0)), (1, .int (nI i))]) hx hb dX2_forgetHanging_40 hl (k := 0) rfl (by decide) (by decide) rfl (fun ls hl => ?_)
            refine lv_goto (tgt := 26) hx hb dX2_forgetHanging_43 (by decide) ?_
            refine lv_iload_n hx hb dX2_forgetHanging_26 rfl (lv_at hl 0 rfl) ?_
            refine lv_iconst (v := 4) hx hb dX2_forgetHanging_27 (by decide) ?_
            refine lv_icmp_gt (tgt := 46) hx hb dX2_forgetHanging_28 (by decide) (fun c_28 => ?_) (fun c_28 => ?_)
            · refine lv_iinc (v := nI (i + 1)) (lv' := [(1, .int (nI (i + 1))), (2, .int 5), (0, .ref (ad 0))]) hx hb dX2_forgetHanging_46 hl (k := 2) rfl (nI_succ i).symm (by decide) rfl (fun ls hl => ?_)
              refine lv_goto (tgt := 2) hx hb dX2_forgetHanging_49 (by decide) ?_
              exact ih (i + 1, va_up (va_up (va_up (va_up (va_up (va_up U 3 (upd (U 3) i 0)) 6 (upd (U 6) i 0)) 11 (upd (U 11) i 0)) 12 (upd (U 12) i 0)) 13 (upd (U 13) i 0)) 14 (upd (U 14) i 0)) _ _ _ ⟨hh, (lv_sub hl [2, 0] rfl), (by omega), ((((((hf.up (by decide)).up (by decide)).up (by decide)).up (by decide)).up (by decide)).up (by decide)), (fun p hp => by rcases Classical.em (p = i) with e | e; (subst e; simp [va_up, upd]); (have h1 := hA2 p (by omega); simp [va_up, upd, e, h1]))⟩ (by dsimp only; omega)
            · exact absurd (show ¬ ((4 : Int32) < (5 : Int32)) from c_28) (by decide)
abbrev rmX2_findFollowers : Room := { frames := 1, cells := 0, slots := 0, locals := 25 }
theorem lk_X2_findFollowers : Lk yX2_findFollowers 0 := by decide +kernel
set_option maxHeartbeats 4000000 in
set_option maxRecDepth 100000 in
/-- findFollowers() -/
theorem c_X2_findFollowers (l : Launch) (D : va_G) (k : Nat → ClassId) (ad : Nat → Nat) (V : St) {n : Nat} (hn : V 0 0 = nI n) (hn24 : n ≤ 24) (hz : ∀ u, u < n → V 3 u = 0) : CtX noX l yX2_findFollowers cX2_findFollowers 4 none rmX2_findFollowers D (tyL k) (wR k ad V) [.ref (ad 0)] (qV D (wR k ad) (fun U => Fr [3] V U ∧ ∀ u, u < n → ∀ w, bt (U 3 u) w = true ↔ w < n ∧ (fun u w => ¬ u = w ∧ ¬ Cl (fun j => j = 24) (fun y z => z < n ∧ ¬ z = w ∧ bt (V 2 z) y = true) u) u w)) := by
  refine CtX.mk (by decide) (Nat.le_of_ble_eq_true rfl) ?_
  intro p e s m below meth c hx hb hml hown hg hr hlocks hK hN A hA hX hh ls hl
  have hh : Hd D A (wR k ad V) s.heap s.heap [] := hh
  have hl : lv_has ls 4 [(0, .ref (ad 0))] := hl
  refine lv_iconst (v := 0) hx hb dX2_findFollowers_0 (by decide) ?_
  refine lv_istore_n (lv' := [(1, .int 0), (0, .ref (ad 0))]) hx hb dX2_findFollowers_1 rfl hl (by decide) rfl (fun ls hl => ?_)
  refine loopW (σ := Nat × St) (fun zz9 H locs ls => match zz9 with | (v, U) => Hd D A (wR k ad U) s.heap H locs ∧ lv_has ls 4 [(0, .ref (ad 0)), (1, .int (nI v))] ∧ (v ≤ n) ∧ (Fr [3] V U) ∧ (Grid n v 0 (fun u w => ¬ u = w ∧ ¬ Cl (fun j => j = 24) (fun y z => z < n ∧ ¬ z = w ∧ bt (V 2 z) y = true) u) (U 3))) (fun zz9 => match zz9 with | (v, U) => n - v) ?_ (0, V) ⟨hh, (lv_sub hl [1, 0] rfl), (by omega), Fr.rf, (Grid.start hz)⟩
  intro zz9 H locs ls hI ih
  obtain ⟨v, U⟩ := zz9
  obtain ⟨hh, hl, hvn, hf, gr⟩ := hI
  have iho := ih; clear ih
  have hnU : U 0 0 = nI n := (hf.at 0 (by decide) 0).trans hn
  refine lv_iload_n hx hb dX2_findFollowers_2 rfl (lv_at hl 1 rfl) ?_
  refine lv_aload_n hx hb dX2_findFollowers_3 rfl (lv_at hl 0 rfl) ?_
  refine gfl hx hb hg inX2 hown hK hh.1 0 (ci := 2) rfl rfl 0 (by decide) wd_119 rfl dX2_findFollowers_4 ?_
  refine topv (nI n) hnU ?_
  refine lv_icmp_ge (tgt := 63) hx hb dX2_findFollowers_7 (by decide) (fun c_7 => ?_) (fun c_7 => ?_)
  · have c_7 : n ≤ v := (nI_leI (a := n) (b := v) (by omega) (by omega)).mp c_7
    exact retV (Wd := wR k ad) (U) hx hb hr hlocks dX2_findFollowers_63 hh (by rw [show v = n by omega] at gr; exact ⟨hf, fun u hu w => gr.done u hu w⟩)
  · have c_7 : ¬ n ≤ v := fun z => c_7 ((nI_leI (a := n) (b := v) (by omega) (by omega)).mpr z)
    refine lv_aload_n hx hb dX2_findFollowers_10 rfl (lv_at hl 0 rfl) ?_
    refine lv_iload_n hx hb dX2_findFollowers_11 rfl (lv_at hl 1 rfl) ?_
    refine callR (runV hx hb hg hown hml hl.1 (c_X2_endReachedWithout l D k ad U hnU hn24 (v := v) (by omega)) [.int (nI v)] [] (preR (mapSome_sub hh.1 [0, 1, 2, 3, 4, 5, 6, 7, 8, 9, 10, 11, 12, 13, 14] rfl) hK hN xb0 x0) (va_recv hK hh.1 (ci := 2) (q0 := 0) rfl rfl) wd_318 wd_320 wd_5 wd_51 wd_321 lk_X2_endReachedWithout ⟨rfl, rfl⟩ ⟨by decide, by decide⟩ ⟨Nat.zero_le _, Nat.zero_le _⟩ rfl (Nat.le_of_ble_eq_true rfl) dX2_findFollowers_12) (fun r_12 q_12 => ?_)
    rw [hf 2 (by decide)] at q_12
    refine lv_istore_n (lv' := [(2, .int r_12), (0, .ref (ad 0)), (1, .int (nI v))]) hx hb dX2_findFollowers_15 rfl hl (by decide) rfl (fun ls hl => ?_)
    refine lv_iconst (v := 0) hx hb dX2_findFollowers_16 (by decide) ?_
    refine lv_istore_n (lv' := [(3, .int 0), (2, .int r_12), (0, .ref (ad 0)), (1, .int (nI v))]) hx hb dX2_findFollowers_17 rfl hl (by decide) rfl (fun ls hl => ?_)
    refine loopW (σ := Nat × St) (fun zz9 H locs ls => match zz9 with | (i, U1) => Hd D A (wR k ad U1) s.heap H locs ∧ lv_has ls 4 [(0, .ref (ad 0)), (1, .int (nI v)), (2, .int r_12), (3, .int (nI i))] ∧ (i ≤ n) ∧ (Fr [3] V U1) ∧ (Grid n v i (fun u w => ¬ u = w ∧ ¬ Cl (fun j => j = 24) (fun y z => z < n ∧ ¬ z = w ∧ bt (V 2 z) y = true) u) (U1 3))) (fun zz9 => match zz9 with | (i, U1) => n - i) ?_ (0, U) ⟨hh, (lv_sub hl [2, 3, 1, 0] rfl), (by omega), hf, gr⟩
    intro zz9 H locs ls hI ih
    obtain ⟨i, U1⟩ := zz9
    obtain ⟨hh, hl, hi, hf1, gr1⟩ := hI
    have hnU : U1 0 0 = nI n := (hf1.at 0 (by decide) 0).trans hn
    refine lv_iload_n hx hb dX2_findFollowers_18 rfl (lv_at hl 3 rfl) ?_
    refine lv_aload_n hx hb dX2_findFollowers_19 rfl (lv_at hl 0 rfl) ?_
    refine gfl hx hb hg inX2 hown hK hh.1 0 (ci := 2) rfl rfl 0 (by decide) wd_119 rfl dX2_findFollowers_20 ?_
    refine topv (nI n) hnU ?_
    refine lv_icmp_ge (tgt := 57) hx hb dX2_findFollowers_23 (by decide) (fun c_23 => ?_) (fun c_23 => ?_)
    · have c_23 : n ≤ i := (nI_leI (a := n) (b := i) (by omega) (by omega)).mp c_23
      refine lv_iinc (v := nI (v + 1)) (lv' := [(1, .int (nI (v + 1))), (0, .ref (ad 0)), (2, .int r_12), (3, .int (nI i))]) hx hb dX2_findFollowers_57 hl (k := 1) rfl (nI_succ v).symm (by decide) rfl (fun ls hl => ?_)
      refine lv_goto (tgt := 2) hx hb dX2_findFollowers_60 (by decide) ?_
      have e1 : i = n := by omega
      rw [e1] at gr1
      exact iho (v + 1, U1) _ _ _ ⟨hh, (lv_sub hl [1, 0] rfl), (by omega), hf1, gr1.next⟩ (by dsimp only; omega)
    · have c_23 : ¬ n ≤ i := fun z => c_23 ((nI_leI (a := n) (b := i) (by omega) (by omega)).mpr z)
      refine lv_iload_n hx hb dX2_findFollowers_26 rfl (lv_at hl 3 rfl) ?_
      refine lv_iload_n hx hb dX2_findFollowers_27 rfl (lv_at hl 1 rfl) ?_
      refine lv_icmp_eq (tgt := 51) hx hb dX2_findFollowers_28 (by decide) (fun c_28 => ?_) (fun c_28 => ?_)
      · have c_28 : i = v := (nI_eq (a := i) (b := v) (by omega) (by omega)).mp c_28
        refine lv_iinc (v := nI (i + 1)) (lv' := [(3, .int (nI (i + 1))), (0, .ref (ad 0)), (1, .int (nI v)), (2, .int r_12)]) hx hb dX2_findFollowers_51 hl (k := 3) rfl (nI_succ i).symm (by decide) rfl (fun ls hl => ?_)
        refine lv_goto (tgt := 18) hx hb dX2_findFollowers_54 (by decide) ?_
        exact ih (i + 1, U1) _ _ _ ⟨hh, (lv_sub hl [1, 2, 3, 0] rfl), (by omega), hf1, (gr1.no (fun hq => by first | exact hq.1 c_28 | exact hq.2 ((q_12 i).mp c_36)))⟩ (by dsimp only; omega)
      · have c_28 : ¬ i = v := fun z => c_28 ((nI_eq (a := i) (b := v) (by omega) (by omega)).mpr z)
        refine lv_iload_n hx hb dX2_findFollowers_31 rfl (lv_at hl 2 rfl) ?_
        refine lv_iload_n hx hb dX2_findFollowers_32 rfl (lv_at hl 3 rfl) ?_
        refine callR (runSN hx hb hg hown hml hl.1 hN (c_X3_holds l D k (r_12) (q := i) (by omega)) [.int r_12, .int (nI i)] [] (preR (mapSome_sub hh.1 [] rfl) hK hN xb0 x0) 323 nst_323 wd_324 wd_49 wd_325 lk_X3_holds ⟨rfl, rfl⟩ ⟨by decide, by decide⟩ ⟨Nat.zero_le _, Nat.zero_le _⟩ rfl (Nat.le_of_ble_eq_true rfl) dX2_findFollowers_33) (fun r_33 q_33 => ?_)
        obtain rfl := q_33
        refine lv_if_ne (tgt := 51) hx hb dX2_findFollowers_36 (by decide) (fun c_36 => ?_) (fun c_36 => ?_)
        · have c_36 := zI_ne c_36
          refine lv_iinc (v := nI (i + 1)) (lv' := [(3, .int (nI (i + 1))), (0, .ref (ad 0)), (1, .int (nI v)), (2, .int r_12)]) hx hb dX2_findFollowers_51 hl (k := 3) rfl (nI_succ i).symm (by decide) rfl (fun ls hl => ?_)
          refine lv_goto (tgt := 18) hx hb dX2_findFollowers_54 (by decide) ?_
          exact ih (i + 1, U1) _ _ _ ⟨hh, (lv_sub hl [1, 2, 3, 0] rfl), (by omega), hf1, (gr1.no (fun hq => by first | exact hq.1 c_28 | exact hq.2 ((q_12 i).mp c_36)))⟩ (by dsimp only; omega)
        · have c_36 := zI_0.mp c_36
          refine lv_aload_n hx hb dX2_findFollowers_39 rfl (lv_at hl 0 rfl) ?_
          refine gfl hx hb hg inX2 hown hK hh.1 0 (ci := 2) rfl rfl 3 (by decide) wd_122 rfl dX2_findFollowers_40 ?_
          refine lv_iload_n hx hb dX2_findFollowers_43 rfl (lv_at hl 3 rfl) ?_
          refine lv_dup2_11 hx hb dX2_findFollowers_44 rfl rfl ?_
          refine ldn hx hb hK hh.1 3 0 rfl rfl (by omega) (by decide) dX2_findFollowers_45 ?_
          refine lv_iconst (v := 1) hx hb dX2_findFollowers_46 (by decide) ?_
          refine lv_iload_n hx hb dX2_findFollowers_47 rfl (lv_at hl 1 rfl) ?_
          refine lv_ishl hx hb dX2_findFollowers_48 ?_
          refine topv (bitI v) rfl ?_
          refine lv_ior hx hb dX2_findFollowers_49 ?_
          refine stn (j := i) hx hb hK hh 3 0 rfl rfl (by omega) (by decide) dX2_findFollowers_50 (wR k ad (va_up U1 3 (upd (U1 3) i (((U1 3) i) ||| (bitI v))))) rfl (fun H locs hh => ?_)
          refine lv_iinc (v := nI (i + 1)) (lv' := [(3, .int (nI (i + 1))), (0, .ref (ad 0)), (1, .int (nI v)), (2, .int r_12)]) hx hb dX2_findFollowers_51 hl (k := 3) rfl (nI_succ i).symm (by decide) rfl (fun ls hl => ?_)
          refine lv_goto (tgt := 18) hx hb dX2_findFollowers_54 (by decide) ?_
          exact ih (i + 1, va_up U1 3 (upd (U1 3) i (((U1 3) i) ||| (bitI v)))) _ _ _ ⟨hh, (lv_sub hl [1, 2, 3, 0] rfl), (by omega), (hf1.up (by decide)), (gr1.yes (by omega) ⟨c_28, fun z => by rw [(q_12 i).mpr z] at c_36; cases c_36⟩)⟩ (by dsimp only; omega)
abbrev rmX2_findHangingByControl : Room := { frames := 1, cells := 0, slots := 0, locals := 21 }
theorem lk_X2_findHangingByControl : Lk yX2_findHangingByControl 1 := by decide +kernel
set_option maxHeartbeats 4000000 in
set_option maxRecDepth 100000 in
/-- findHangingByControl(u) -/
theorem c_X2_findHangingByControl (l : Launch) (D : va_G) (k : Nat → ClassId) (ad : Nat → Nat) (V : St) {n : Nat} (hn : V 0 0 = nI n) (hn24 : n ≤ 24) {u : Nat} (hu : u < n) (hg0 : Grid n u 0 (fun v u => (bt (V 2 u) v = true ∨ ∃ s, s < n ∧ bt (V 2 u) s = true ∧ bt (V 3 s) v = true) ∧ ¬ bt (V 3 u) v = true) (V 14)) : CtX noX l yX2_findHangingByControl cX2_findHangingByControl 4 none rmX2_findHangingByControl D (tyL k) (wR k ad V) [.ref (ad 0), .int (nI u)] (qV D (wR k ad) (fun U => Fr [14] V U ∧ Grid n (u + 1) 0 (fun v u => (bt (V 2 u) v = true ∨ ∃ s, s < n ∧ bt (V 2 u) s = true ∧ bt (V 3 s) v = true) ∧ ¬ bt (V 3 u) v = true) (U 14))) := by
  refine CtX.mk (by decide) (Nat.le_of_ble_eq_true rfl) ?_
  intro p e s m below meth c hx hb hml hown hg hr hlocks hK hN A hA hX hh ls hl
  have hh : Hd D A (wR k ad V) s.heap s.heap [] := hh
  have hl : lv_has ls 4 [(0, .ref (ad 0)), (1, .int (nI u))] := hl
  refine lv_aload_n hx hb dX2_findHangingByControl_0 rfl (lv_at hl 0 rfl) ?_
  refine gfl hx hb hg inX2 hown hK hh.1 0 (ci := 2) rfl rfl 2 (by decide) wd_121 rfl dX2_findHangingByControl_1 ?_
  refine lv_iload_n hx hb dX2_findHangingByControl_4 rfl (lv_at hl 1 rfl) ?_
  refine ldn hx hb hK hh.1 2 0 rfl rfl (by omega) (by decide) dX2_findHangingByControl_5 ?_
  refine lv_istore_n (lv' := [(2, .int ((V 2) u)), (0, .ref (ad 0)), (1, .int (nI u))]) hx hb dX2_findHangingByControl_6 rfl hl (by decide) rfl (fun ls hl => ?_)
  refine lv_iconst (v := 0) hx hb dX2_findHangingByControl_7 (by decide) ?_
  refine lv_istore_n (lv' := [(3, .int 0), (2, .int ((V 2) u)), (0, .ref (ad 0)), (1, .int (nI u))]) hx hb dX2_findHangingByControl_8 rfl hl (by decide) rfl (fun ls hl => ?_)
  refine loopW (σ := Int32 × Nat) (fun zz9 H locs ls => match zz9 with | (x, i) => Hd D A (wR k ad V) s.heap H locs ∧ lv_has ls 4 [(0, .ref (ad 0)), (1, .int (nI u)), (2, .int x), (3, .int (nI i))] ∧ (i ≤ n) ∧ (∀ v, bt x v = true ↔ bt (V 2 u) v = true ∨ ∃ s, s < i ∧ bt (V 2 u) s = true ∧ bt (V 3 s) v = true)) (fun zz9 => match zz9 with | (x, i) => n - i) ?_ (V 2 u, 0) ⟨hh, (lv_sub hl [2, 3, 1, 0] rfl), (by omega), (fun v => ⟨Or.inl, fun z => z.elim id (fun ⟨_, h, _⟩ => absurd h (Nat.not_lt_zero _))⟩)⟩
  intro zz9 H locs ls hI ih
  obtain ⟨x, i⟩ := zz9
  obtain ⟨hh, hl, hi, hL⟩ := hI
  refine lv_iload_n hx hb dX2_findHangingByControl_9 rfl (lv_at hl 3 rfl) ?_
  refine lv_aload_n hx hb dX2_findHangingByControl_10 rfl (lv_at hl 0 rfl) ?_
  refine gfl hx hb hg inX2 hown hK hh.1 0 (ci := 2) rfl rfl 0 (by decide) wd_119 rfl dX2_findHangingByControl_11 ?_
  refine topv (nI n) hn ?_
  refine lv_icmp_ge (tgt := 45) hx hb dX2_findHangingByControl_14 (by decide) (fun c_14 => ?_) (fun c_14 => ?_)
  · have c_14 : n ≤ i := (nI_leI (a := n) (b := i) (by omega) (by omega)).mp c_14
    refine lv_iload_n hx hb dX2_findHangingByControl_45 rfl (lv_at hl 2 rfl) ?_
    refine lv_aload_n hx hb dX2_findHangingByControl_46 rfl (lv_at hl 0 rfl) ?_
    refine gfl hx hb hg inX2 hown hK hh.1 0 (ci := 2) rfl rfl 3 (by decide) wd_122 rfl dX2_findHangingByControl_47 ?_
    refine lv_iload_n hx hb dX2_findHangingByControl_50 rfl (lv_at hl 1 rfl) ?_
    refine ldn hx hb hK hh.1 3 0 rfl rfl (by omega) (by decide) dX2_findHangingByControl_51 ?_
    refine lv_iconst (v := (-1)) hx hb dX2_findHangingByControl_52 (by decide) ?_
    refine lv_ixor hx hb dX2_findHangingByControl_53 ?_
    refine lv_iand hx hb dX2_findHangingByControl_54 ?_
    refine lv_istore_n (lv' := [(2, .int (x &&& (((V 3) u) ^^^ (-1)))), (0, .ref (ad 0)), (1, .int (nI u)), (3, .int (nI i))]) hx hb dX2_findHangingByControl_55 rfl hl (by decide) rfl (fun ls hl => ?_)
    have hB : ∀ v, v < 32 → (bt (x &&& (V 3 u ^^^ (-1))) v = true ↔ (fun v u => (bt (V 2 u) v = true ∨ ∃ s, s < n ∧ bt (V 2 u) s = true ∧ bt (V 3 s) v = true) ∧ ¬ bt (V 3 u) v = true) v u) := fun v hv => by rw [b_and, Bool.and_eq_true, b_not hv, hL v, show i = n by omega]; simp
    refine lv_iconst (v := 0) hx hb dX2_findHangingByControl_56 (by decide) ?_
    refine lv_istore_n (lv' := [(3, .int 0), (2, .int (x &&& (((V 3) u) ^^^ (-1)))), (0, .ref (ad 0)), (1, .int (nI u))]) hx hb dX2_findHangingByControl_57 rfl hl (by decide) rfl (fun ls hl => ?_)
    refine loopW (σ := Nat × St) (fun zz9 H locs ls => match zz9 with | (i, U) => Hd D A (wR k ad U) s.heap H locs ∧ lv_has ls 4 [(0, .ref (ad 0)), (1, .int (nI u)), (2, .int (x &&& (((V 3) u) ^^^ (-1)))), (3, .int (nI i))] ∧ (i ≤ n) ∧ (Fr [14] V U) ∧ (Grid n u i (fun v u => (bt (V 2 u) v = true ∨ ∃ s, s < n ∧ bt (V 2 u) s = true ∧ bt (V 3 s) v = true) ∧ ¬ bt (V 3 u) v = true) (U 14))) (fun zz9 => match zz9 with | (i, U) => n - i) ?_ (0, V) ⟨hh, (lv_sub hl [2, 3, 1, 0] rfl), (by omega), Fr.rf, hg0⟩
    intro zz9 H locs ls hI ih
    obtain ⟨i, U⟩ := zz9
    obtain ⟨hh, hl, hi, hf, gr⟩ := hI
    have hnU : U 0 0 = nI n := (hf.at 0 (by decide) 0).trans hn
    refine lv_iload_n hx hb dX2_findHangingByControl_58 rfl (lv_at hl 3 rfl) ?_
    refine lv_aload_n hx hb dX2_findHangingByControl_59 rfl (lv_at hl 0 rfl) ?_
    refine gfl hx hb hg inX2 hown hK hh.1 0 (ci := 2) rfl rfl 0 (by decide) wd_119 rfl dX2_findHangingByControl_60 ?_
    refine topv (nI n) hnU ?_
    refine lv_icmp_ge (tgt := 94) hx hb dX2_findHangingByControl_63 (by decide) (fun c_63 => ?_) (fun c_63 => ?_)
    · have c_63 : n ≤ i := (nI_leI (a := n) (b := i) (by omega) (by omega)).mp c_63
      exact retV (Wd := wR k ad) (U) hx hb hr hlocks dX2_findHangingByControl_94 hh (by rw [show i = n by omega] at gr; exact ⟨hf, gr.next⟩)
    · have c_63 : ¬ n ≤ i := fun z => c_63 ((nI_leI (a := n) (b := i) (by omega) (by omega)).mpr z)
      refine lv_iload_n hx hb dX2_findHangingByControl_66 rfl (lv_at hl 2 rfl) ?_
      refine lv_iload_n hx hb dX2_findHangingByControl_67 rfl (lv_at hl 3 rfl) ?_
      refine callR (runSN hx hb hg hown hml hl.1 hN (c_X3_holds l D k (x &&& (((V 3) u) ^^^ (-1))) (q := i) (by omega)) [.int (x &&& (((V 3) u) ^^^ (-1))), .int (nI i)] [] (preR (mapSome_sub hh.1 [] rfl) hK hN xb0 x0) 323 nst_323 wd_324 wd_49 wd_325 lk_X3_holds ⟨rfl, rfl⟩ ⟨by decide, by decide⟩ ⟨Nat.zero_le _, Nat.zero_le _⟩ rfl (Nat.le_of_ble_eq_true rfl) dX2_findHangingByControl_68) (fun r_68 q_68 => ?_)
      obtain rfl := q_68
      refine lv_if_eq (tgt := 88) hx hb dX2_findHangingByControl_71 (by decide) (fun c_71 => ?_) (fun c_71 => ?_)
      · have c_71 := zI_0.mp c_71
        refine lv_iinc (v := nI (i + 1)) (lv' := [(3, .int (nI (i + 1))), (0, .ref (ad 0)), (1, .int (nI u)), (2, .int (x &&& (((V 3) u) ^^^ (-1))))]) hx hb dX2_findHangingByControl_88 hl (k := 3) rfl (nI_succ i).symm (by decide) rfl (fun ls hl => ?_)
        refine lv_goto (tgt := 58) hx hb dX2_findHangingByControl_91 (by decide) ?_
        exact ih (i + 1, U) _ _ _ ⟨hh, (lv_sub hl [1, 2, 3, 0] rfl), (by omega), hf, (gr.no (fun hq => by rw [(hB i (by omega)).mpr hq] at c_71; cases c_71))⟩ (by dsimp only; omega)
      · have c_71 := zI_ne c_71
        refine lv_aload_n hx hb dX2_findHangingByControl_74 rfl (lv_at hl 0 rfl) ?_
        refine gfl hx hb hg inX2 hown hK hh.1 0 (ci := 2) rfl rfl 4 (by decide) wd_123 rfl dX2_findHangingByControl_75 ?_
        refine lv_iconst (v := 4) hx hb dX2_findHangingByControl_78 (by decide) ?_
        refine topv (nI 4) rfl ?_
        refine ldq (x := ad (10 + 4)) hx hb hK hh.1 4 2 rfl rfl rfl (by omega) (by decide) rfl dX2_findHangingByControl_79 ?_
        refine lv_iload_n hx hb dX2_findHangingByControl_80 rfl (lv_at hl 3 rfl) ?_
        refine lv_dup2_11 hx hb dX2_findHangingByControl_81 rfl rfl ?_
        refine ldn hx hb hK hh.1 14 0 rfl rfl (by omega) (by decide) dX2_findHangingByControl_82 ?_
        refine lv_iconst (v := 1) hx hb dX2_findHangingByControl_83 (by decide) ?_
        refine lv_iload_n hx hb dX2_findHangingByControl_84 rfl (lv_at hl 1 rfl) ?_
        refine lv_ishl hx hb dX2_findHangingByControl_85 ?_
        refine topv (bitI u) rfl ?_
        refine lv_ior hx hb dX2_findHangingByControl_86 ?_
        refine stn (j := i) hx hb hK hh 14 0 rfl rfl (by omega) (by decide) dX2_findHangingByControl_87 (wR k ad (va_up U 14 (upd (U 14) i (((U 14) i) ||| (bitI u))))) rfl (fun H locs hh => ?_)
        refine lv_iinc (v := nI (i + 1)) (lv' := [(3, .int (nI (i + 1))), (0, .ref (ad 0)), (1, .int (nI u)), (2, .int (x &&& (((V 3) u) ^^^ (-1))))]) hx hb dX2_findHangingByControl_88 hl (k := 3) rfl (nI_succ i).symm (by decide) rfl (fun ls hl => ?_)
        refine lv_goto (tgt := 58) hx hb dX2_findHangingByControl_91 (by decide) ?_
        exact ih (i + 1, va_up U 14 (upd (U 14) i (((U 14) i) ||| (bitI u)))) _ _ _ ⟨hh, (lv_sub hl [1, 2, 3, 0] rfl), (by omega), (hf.up (by decide)), (gr.yes (by omega) ((hB i (by omega)).mp c_71))⟩ (by dsimp only; omega)
  · have c_14 : ¬ n ≤ i := fun z => c_14 ((nI_leI (a := n) (b := i) (by omega) (by omega)).mpr z)
    refine lv_aload_n hx hb dX2_findHangingByControl_17 rfl (lv_at hl 0 rfl) ?_
    refine gfl hx hb hg inX2 hown hK hh.1 0 (ci := 2) rfl rfl 2 (by decide) wd_121 rfl dX2_findHangingByControl_18 ?_
    refine lv_iload_n hx hb dX2_findHangingByControl_21 rfl (lv_at hl 1 rfl) ?_
    refine ldn hx hb hK hh.1 2 0 rfl rfl (by omega) (by decide) dX2_findHangingByControl_22 ?_
    refine lv_iload_n hx hb dX2_findHangingByControl_23 rfl (lv_at hl 3 rfl) ?_
    refine callR (runSN hx hb hg hown hml hl.1 hN (c_X3_holds l D k ((V 2) u) (q := i) (by omega)) [.int ((V 2) u), .int (nI i)] [] (preR (mapSome_sub hh.1 [] rfl) hK hN xb0 x0) 323 nst_323 wd_324 wd_49 wd_325 lk_X3_holds ⟨rfl, rfl⟩ ⟨by decide, by decide⟩ ⟨Nat.zero_le _, Nat.zero_le _⟩ rfl (Nat.le_of_ble_eq_true rfl) dX2_findHangingByControl_24) (fun r_24 q_24 => ?_)
    obtain rfl := q_24
    refine lv_if_eq (tgt := 39) hx hb dX2_findHangingByControl_27 (by decide) (fun c_27 => ?_) (fun c_27 => ?_)
    · have c_27 := zI_0.mp c_27
      refine lv_iinc (v := nI (i + 1)) (lv' := [(3, .int (nI (i + 1))), (0, .ref (ad 0)), (1, .int (nI u)), (2, .int x)]) hx hb dX2_findHangingByControl_39 hl (k := 3) rfl (nI_succ i).symm (by decide) rfl (fun ls hl => ?_)
      refine lv_goto (tgt := 9) hx hb dX2_findHangingByControl_42 (by decide) ?_
      exact ih (x, i + 1) _ _ _ ⟨hh, (lv_sub hl [1, 2, 3, 0] rfl), (by omega), (fun v => by rw [hL v]; exact ⟨fun z => by rcases z with z | ⟨s1, h1, h2⟩; exact Or.inl z; exact Or.inr ⟨s1, by omega, h2⟩, fun z => by rcases z with z | ⟨s1, h1, h2, h3⟩; exact Or.inl z; rcases Classical.em (s1 = i) with e | e; (subst e; rw [c_27] at h2; cases h2); exact Or.inr ⟨s1, by omega, h2, h3⟩⟩)⟩ (by dsimp only; omega)
    · have c_27 := zI_ne c_27
      refine lv_iload_n hx hb dX2_findHangingByControl_30 rfl (lv_at hl 2 rfl) ?_
      refine lv_aload_n hx hb dX2_findHangingByControl_31 rfl (lv_at hl 0 rfl) ?_
      refine gfl hx hb hg inX2 hown hK hh.1 0 (ci := 2) rfl rfl 3 (by decide) wd_122 rfl dX2_findHangingByControl_32 ?_
      refine lv_iload_n hx hb dX2_findHangingByControl_35 rfl (lv_at hl 3 rfl) ?_
      refine ldn hx hb hK hh.1 3 0 rfl rfl (by omega) (by decide) dX2_findHangingByControl_36 ?_
      refine lv_ior hx hb dX2_findHangingByControl_37 ?_
      refine lv_istore_n (lv' := [(2, .int (x ||| ((V 3) i))), (0, .ref (ad 0)), (1, .int (nI u)), (3, .int (nI i))]) hx hb dX2_findHangingByControl_38 rfl hl (by decide) rfl (fun ls hl => ?_)
      refine lv_iinc (v := nI (i + 1)) (lv' := [(3, .int (nI (i + 1))), (2, .int (x ||| ((V 3) i))), (0, .ref (ad 0)), (1, .int (nI u))]) hx hb dX2_findHangingByControl_39 hl (k := 3) rfl (nI_succ i).symm (by decide) rfl (fun ls hl => ?_)
      refine lv_goto (tgt := 9) hx hb dX2_findHangingByControl_42 (by decide) ?_
      exact ih (x ||| V 3 i, i + 1) _ _ _ ⟨hh, (lv_sub hl [2, 3, 1, 0] rfl), (by omega), (fun v => by rw [b_or, Bool.or_eq_true, hL v]; exact ⟨fun z => by rcases z with (z | ⟨s1, h1, h2⟩) | z; exact Or.inl z; exact Or.inr ⟨s1, by omega, h2⟩; exact Or.inr ⟨i, by omega, c_27, z⟩, fun z => by rcases z with z | ⟨s1, h1, h2, h3⟩; exact Or.inl (Or.inl z); rcases Classical.em (s1 = i) with e | e; (subst e; exact Or.inr h3); exact Or.inl (Or.inr ⟨s1, by omega, h2, h3⟩)⟩)⟩ (by dsimp only; omega)
def RC (n : Nat) (nx : Nat → Int32) (st : Int32) (u v : Nat) : Prop := Cl (fun j => bt (nx u) j = true) (fun y z => y < n ∧ bt st y = false ∧ bt (nx y) z = true) v
abbrev rmX2_findHangingByNames : Room := { frames := 2, cells := 0, slots := 0, locals := 47 }
theorem lk_X2_findHangingByNames : Lk yX2_findHangingByNames 2 := by decide +kernel
set_option maxHeartbeats 4000000 in
set_option maxRecDepth 100000 in
/-- findHangingByNames(program, u) -/
theorem c_X2_findHangingByNames (l : Launch) (D : va_G) (k : Nat → ClassId) (ad : Nat → Nat) (V : St) {n : Nat} (hn : V 0 0 = nI n) (hn24 : n ≤ 24) (bd : Nat → Nat) (Pv : St) (hv : okV n Pv) (hN1 : ∀ p, p < n → V 1 p = nxI n Pv p) {u : Nat} (hu : u < n) (hg0 : Grid n u 0 (fun v u => kd Pv u = 7 ∧ kd Pv v = 8 ∧ RC n (V 1) 0 u v ∧ shB Pv u v = true) (V 12)) : CtX noX l yX2_findHangingByNames cX2_findHangingByNames 5 none rmX2_findHangingByNames D (tyL k) ((wR k ad V) ++ (wP k bd Pv)) [.ref (ad 0), .ref (bd 0), .int (nI u)] (qV D (fun U => (wR k ad U) ++ (wP k bd Pv)) (fun U => Fr [12] V U ∧ Grid n (u + 1) 0 (fun v u => kd Pv u = 7 ∧ kd Pv v = 8 ∧ RC n (V 1) 0 u v ∧ shB Pv u v = true) (U 12))) := by
  refine CtX.mk (by decide) (Nat.le_of_ble_eq_true rfl) ?_
  intro p e s m below meth c hx hb hml hown hg hr hlocks hK hN A hA hX hh ls hl
  have hh : Hd D A ((wR k ad V) ++ (wP k bd Pv)) s.heap s.heap [] := hh
  have hl : lv_has ls 5 [(0, .ref (ad 0)), (1, .ref (bd 0)), (2, .int (nI u))] := hl
  have hV : ∀ p, p < n → ∀ j, bt (V 1 p) j = true → j < 25 := fun p hp j h => b_nxI hn24 (by rw [← hN1 p hp]; exact h)
  obtain ⟨ju, hku, hju, hlAu, hlBu, hlCu⟩ := hv.2.2.1 u (by omega)
  refine lv_aload_n hx hb dX2_findHangingByNames_0 rfl (lv_at hl 1 rfl) ?_
  refine gflN hx hb hg hN inX1 hown hK hh.1 15 (ci := 1) rfl rfl 0 (by decide) 73 nst_73 rfl dX2_findHangingByNames_1 ?_
  refine lv_iload_n hx hb dX2_findHangingByNames_4 rfl (lv_at hl 2 rfl) ?_
  refine ldn hx hb hK hh.1 16 0 rfl rfl (by omega) (by decide) dX2_findHangingByNames_5 ?_
  refine topv (nI ju) hku ?_
  refine lv_bipush (v := 7) hx hb dX2_findHangingByNames_6 (by decide) ?_
  refine lv_icmp_eq (tgt := 12) hx hb dX2_findHangingByNames_8 (by decide) (fun c_8 => ?_) (fun c_8 => ?_)
  · have c_8 : ju = 7 := (nI_eq (a := ju) (b := 7) (by omega) (by omega)).mp c_8
    have hk7 : kd Pv u = 7 := by rw [kd_of hku hju]; exact c_8
    refine lv_aload_n hx hb dX2_findHangingByNames_12 rfl (lv_at hl 0 rfl) ?_
    refine lv_iload_n hx hb dX2_findHangingByNames_13 rfl (lv_at hl 2 rfl) ?_
    refine lv_iconst (v := 0) hx hb dX2_findHangingByNames_14 (by decide) ?_
    refine callR (runV hx hb hg hown hml hl.1 (c_X2_reachedFrom l D k ad V hn hn24 hV hu 0) [.int (nI u), .int 0] [] (preR (mapSome_sub hh.1 [0, 1, 2, 3, 4, 5, 6, 7, 8, 9, 10, 11, 12, 13, 14] rfl) hK hN xb0 x0) (va_recv hK hh.1 (ci := 2) (q0 := 0) rfl rfl) wd_344 wd_346 wd_8 wd_51 wd_347 lk_X2_reachedFrom ⟨rfl, rfl⟩ ⟨by decide, by decide⟩ ⟨Nat.zero_le _, Nat.zero_le _⟩ rfl (Nat.le_of_ble_eq_true rfl) dX2_findHangingByNames_15) (fun r_15 q_15 => ?_)
    refine lv_istore_n (lv' := [(3, .int r_15), (0, .ref (ad 0)), (1, .ref (bd 0)), (2, .int (nI u))]) hx hb dX2_findHangingByNames_18 rfl hl (by decide) rfl (fun ls hl => ?_)
    refine lv_iconst (v := 0) hx hb dX2_findHangingByNames_19 (by decide) ?_
    refine lv_istore (lv' := [(4, .int 0), (3, .int r_15), (0, .ref (ad 0)), (1, .ref (bd 0)), (2, .int (nI u))]) hx hb dX2_findHangingByNames_20 hl (by decide) rfl (fun ls hl => ?_)
    refine loopW (σ := Nat × St) (fun zz9 H locs ls => match zz9 with | (i, U) => Hd D A ((wR k ad U) ++ (wP k bd Pv)) s.heap H locs ∧ lv_has ls 5 [(0, .ref (ad 0)), (1, .ref (bd 0)), (2, .int (nI u)), (3, .int r_15), (4, .int (nI i))] ∧ (i ≤ n) ∧ (Fr [12] V U) ∧ (Grid n u i (fun v u => kd Pv u = 7 ∧ kd Pv v = 8 ∧ RC n (V 1) 0 u v ∧ shB Pv u v = true) (U 12))) (fun zz9 => match zz9 with | (i, U) => n - i) ?_ (0, V) ⟨hh, (lv_sub hl [2, 3, 4, 1, 0] rfl), (by omega), Fr.rf, hg0⟩
    intro zz9 H locs ls hI ih
    obtain ⟨i, U⟩ := zz9
    obtain ⟨hh, hl, hi, hf, gr⟩ := hI
    have hnU : U 0 0 = nI n := (hf.at 0 (by decide) 0).trans hn
    refine lv_iload hx hb dX2_findHangingByNames_22 (lv_at hl 4 rfl) ?_
    refine lv_aload_n hx hb dX2_findHangingByNames_24 rfl (lv_at hl 0 rfl) ?_
    refine gfl hx hb hg inX2 hown hK hh.1 0 (ci := 2) rfl rfl 0 (by decide) wd_119 rfl dX2_findHangingByNames_25 ?_
    refine topv (nI n) hnU ?_
    refine lv_icmp_ge (tgt := 83) hx hb dX2_findHangingByNames_28 (by decide) (fun c_28 => ?_) (fun c_28 => ?_)
    · have c_28 : n ≤ i := (nI_leI (a := n) (b := i) (by omega) (by omega)).mp c_28
      exact retV (Wd := fun U => (wR k ad U) ++ (wP k bd Pv)) (U) hx hb hr hlocks dX2_findHangingByNames_83 hh (by rw [show i = n by omega] at gr; exact ⟨hf, gr.next⟩)
    · have c_28 : ¬ n ≤ i := fun z => c_28 ((nI_leI (a := n) (b := i) (by omega) (by omega)).mpr z)
      obtain ⟨jv, hkv, hjv, hlAv, hlBv, hlCv⟩ := hv.2.2.1 i (by omega)
      refine lv_iload_n hx hb dX2_findHangingByNames_31 rfl (lv_at hl 3 rfl) ?_
      refine lv_iload hx hb dX2_findHangingByNames_32 (lv_at hl 4 rfl) ?_
      refine callR (runSN hx hb hg hown hml hl.1 hN (c_X3_holds l D k (r_15) (q := i) (by omega)) [.int r_15, .int (nI i)] [] (preR (mapSome_sub hh.1 [] rfl) hK hN xb0 x0) 323 nst_323 wd_324 wd_49 wd_325 lk_X3_holds ⟨rfl, rfl⟩ ⟨by decide, by decide⟩ ⟨Nat.zero_le _, Nat.zero_le _⟩ rfl (Nat.le_of_ble_eq_true rfl) dX2_findHangingByNames_34) (fun r_34 q_34 => ?_)
      obtain rfl := q_34
      refine lv_if_eq (tgt := 77) hx hb dX2_findHangingByNames_37 (by decide) (fun c_37 => ?_) (fun c_37 => ?_)
      · have c_37 := zI_0.mp c_37
        refine lv_iinc (v := nI (i + 1)) (lv' := [(4, .int (nI (i + 1))), (0, .ref (ad 0)), (1, .ref (bd 0)), (2, .int (nI u)), (3, .int r_15)]) hx hb dX2_findHangingByNames_77 hl (k := 4) rfl (nI_succ i).symm (by decide) rfl (fun ls hl => ?_)
        refine lv_goto (tgt := 22) hx hb dX2_findHangingByNames_80 (by decide) ?_
        exact ih (i + 1, U) _ _ _ ⟨hh, (lv_sub hl [1, 2, 3, 4, 0] rfl), (by omega), hf, (gr.no (fun hq => by first | (rw [(q_15 i).mpr hq.2.2.1] at c_37; cases c_37; done) | exact c_49 (by rw [← kd_of hkv hjv]; exact hq.2.1) | (rw [hq.2.2.2] at c_59; cases c_59; done)))⟩ (by dsimp only; omega)
      · have c_37 := zI_ne c_37
        refine lv_aload_n hx hb dX2_findHangingByNames_40 rfl (lv_at hl 1 rfl) ?_
        refine gflN hx hb hg hN inX1 hown hK hh.1 15 (ci := 1) rfl rfl 0 (by decide) 73 nst_73 rfl dX2_findHangingByNames_41 ?_
        refine lv_iload hx hb dX2_findHangingByNames_44 (lv_at hl 4 rfl) ?_
        refine ldn hx hb hK hh.1 16 0 rfl rfl (by omega) (by decide) dX2_findHangingByNames_46 ?_
        refine topv (nI jv) hkv ?_
        refine lv_bipush (v := 8) hx hb dX2_findHangingByNames_47 (by decide) ?_
        refine lv_icmp_ne (tgt := 77) hx hb dX2_findHangingByNames_49 (by decide) (fun c_49 => ?_) (fun c_49 => ?_)
        · have c_49 : ¬ jv = 8 := fun z => c_49 ((nI_eq (a := jv) (b := 8) (by omega) (by omega)).mpr z)
          refine lv_iinc (v := nI (i + 1)) (lv' := [(4, .int (nI (i + 1))), (0, .ref (ad 0)), (1, .ref (bd 0)), (2, .int (nI u)), (3, .int r_15)]) hx hb dX2_findHangingByNames_77 hl (k := 4) rfl (nI_succ i).symm (by decide) rfl (fun ls hl => ?_)
          refine lv_goto (tgt := 22) hx hb dX2_findHangingByNames_80 (by decide) ?_
          exact ih (i + 1, U) _ _ _ ⟨hh, (lv_sub hl [1, 2, 3, 4, 0] rfl), (by omega), hf, (gr.no (fun hq => by first | (rw [(q_15 i).mpr hq.2.2.1] at c_37; cases c_37; done) | exact c_49 (by rw [← kd_of hkv hjv]; exact hq.2.1) | (rw [hq.2.2.2] at c_59; cases c_59; done)))⟩ (by dsimp only; omega)
        · have c_49 : jv = 8 := (nI_eq (a := jv) (b := 8) (by omega) (by omega)).mp c_49
          refine lv_aload_n hx hb dX2_findHangingByNames_52 rfl (lv_at hl 1 rfl) ?_
          refine lv_iload_n hx hb dX2_findHangingByNames_53 rfl (lv_at hl 2 rfl) ?_
          refine lv_iload hx hb dX2_findHangingByNames_54 (lv_at hl 4 rfl) ?_
          refine callR (runV hx hb hg hown hml hl.1 (c_X1_mayShareRow l D k bd Pv hv (q := u) (by omega) (v := i) (by omega) (vp_lim (n := 4) (by rw [c_8] at hlCu; exact hlCu) (by decide) (by decide)) (vp_lim (n := 4) (by rw [c_49] at hlCv; exact hlCv) (by decide) (by decide))) [.int (nI u), .int (nI i)] [] (preR (mapSome_sub hh.1 [15, 16, 17, 18, 19, 20, 21, 22] rfl) hK hN xb0 x0) (va_recv hK hh.1 (ci := 1) (q0 := 15) rfl rfl) wd_361 wd_362 wd_363 wd_50 wd_364 lk_X1_mayShareRow ⟨rfl, rfl⟩ ⟨by decide, by decide⟩ ⟨Nat.zero_le _, Nat.zero_le _⟩ rfl (Nat.le_of_ble_eq_true rfl) dX2_findHangingByNames_56) (fun r_56 q_56 => ?_)
          obtain rfl := q_56
          refine lv_if_eq (tgt := 77) hx hb dX2_findHangingByNames_59 (by decide) (fun c_59 => ?_) (fun c_59 => ?_)
          · have c_59 := zI_0.mp c_59
            refine lv_iinc (v := nI (i + 1)) (lv' := [(4, .int (nI (i + 1))), (0, .ref (ad 0)), (1, .ref (bd 0)), (2, .int (nI u)), (3, .int r_15)]) hx hb dX2_findHangingByNames_77 hl (k := 4) rfl (nI_succ i).symm (by decide) rfl (fun ls hl => ?_)
            refine lv_goto (tgt := 22) hx hb dX2_findHangingByNames_80 (by decide) ?_
            exact ih (i + 1, U) _ _ _ ⟨hh, (lv_sub hl [1, 2, 3, 4, 0] rfl), (by omega), hf, (gr.no (fun hq => by first | (rw [(q_15 i).mpr hq.2.2.1] at c_37; cases c_37; done) | exact c_49 (by rw [← kd_of hkv hjv]; exact hq.2.1) | (rw [hq.2.2.2] at c_59; cases c_59; done)))⟩ (by dsimp only; omega)
          · have c_59 := zI_ne c_59
            refine lv_aload_n hx hb dX2_findHangingByNames_62 rfl (lv_at hl 0 rfl) ?_
            refine gfl hx hb hg inX2 hown hK hh.1 0 (ci := 2) rfl rfl 4 (by decide) wd_123 rfl dX2_findHangingByNames_63 ?_
            refine lv_iconst (v := 2) hx hb dX2_findHangingByNames_66 (by decide) ?_
            refine topv (nI 2) rfl ?_
            refine ldq (x := ad (10 + 2)) hx hb hK hh.1 4 2 rfl rfl rfl (by omega) (by decide) rfl dX2_findHangingByNames_67 ?_
            refine lv_iload hx hb dX2_findHangingByNames_68 (lv_at hl 4 rfl) ?_
            refine lv_dup2_11 hx hb dX2_findHangingByNames_70 rfl rfl ?_
            refine ldn hx hb hK hh.1 12 0 rfl rfl (by omega) (by decide) dX2_findHangingByNames_71 ?_
            refine lv_iconst (v := 1) hx hb dX2_findHangingByNames_72 (by decide) ?_
            refine lv_iload_n hx hb dX2_findHangingByNames_73 rfl (lv_at hl 2 rfl) ?_
            refine lv_ishl hx hb dX2_findHangingByNames_74 ?_
            refine topv (bitI u) rfl ?_
            refine lv_ior hx hb dX2_findHangingByNames_75 ?_
            refine stn (j := i) hx hb hK hh 12 0 rfl rfl (by omega) (by decide) dX2_findHangingByNames_76 ((wR k ad (va_up U 12 (upd (U 12) i (((U 12) i) ||| (bitI u))))) ++ (wP k bd Pv)) rfl (fun H locs hh => ?_)
            refine lv_iinc (v := nI (i + 1)) (lv' := [(4, .int (nI (i + 1))), (0, .ref (ad 0)), (1, .ref (bd 0)), (2, .int (nI u)), (3, .int r_15)]) hx hb dX2_findHangingByNames_77 hl (k := 4) rfl (nI_succ i).symm (by decide) rfl (fun ls hl => ?_)
            refine lv_goto (tgt := 22) hx hb dX2_findHangingByNames_80 (by decide) ?_
            exact ih (i + 1, va_up U 12 (upd (U 12) i (((U 12) i) ||| (bitI u)))) _ _ _ ⟨hh, (lv_sub hl [1, 2, 3, 4, 0] rfl), (by omega), (hf.up (by decide)), (gr.yes (by omega) ⟨hk7, by rw [kd_of hkv hjv]; exact c_49, (q_15 i).mp c_37, c_59⟩)⟩ (by dsimp only; omega)
  · have c_8 : ¬ ju = 7 := fun z => c_8 ((nI_eq (a := ju) (b := 7) (by omega) (by omega)).mpr z)
    exact retV (Wd := fun U => (wR k ad U) ++ (wP k bd Pv)) (V) hx hb hr hlocks dX2_findHangingByNames_11 hh (⟨Fr.rf, hg0.skip (fun v _ hq => c_8 (by rw [← kd_of hku hju]; exact hq.1))⟩)
