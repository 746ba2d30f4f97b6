/-! the class SliceWhy: what makes no reasons -/
theorem pt_lo {y : Int32} (h : y < 1) (h1 : rgt y 16) (h2 : ¬ y = 0) : False := by
  obtain ⟨q, hq, rfl⟩ := h1
  have h3 : q < 1 := (nI_ltI (b := 1) (by omega) (by omega)).mp h
  obtain rfl : q = 0 := by omega
  exact h2 rfl
theorem pt_hi {y : Int32} (h : ¬ y ≤ 15) (h1 : rgt y 16) : False := by
  obtain ⟨q, hq, rfl⟩ := h1
  exact h ((nI_leI (b := 15) (by omega) (by omega)).mpr (by omega))
theorem pt_in {y : Int32} (h : ¬ y < 1) (h1 : y ≤ 15) : rgt y 16 ∧ ¬ y = 0 := by
  have h0 : ¬ y < 0 := fun z => h (by rw [Int32.lt_iff_toInt_lt] at *; have a1 : (0 : Int32).toInt = 0 := (by decide); have a2 : (1 : Int32).toInt = 1 := (by decide); omega)
  obtain ⟨q, hq, rfl⟩ := rgt_yes (x := y) (N := 16) (by decide) h0 (fun z => by rw [Int32.le_iff_toInt_le] at *; rw [nI_toInt (by decide)] at z; have a1 : (15 : Int32).toInt = 15 := (by decide); omega)
  exact ⟨⟨q, hq, rfl⟩, fun z => h (by rw [z]; decide)⟩
abbrev rmX3_seen : Room := { frames := 0, cells := 0, slots := 0, locals := 0 }
theorem lk_X3_seen : Lk yX3_seen 0 := by decide +kernel
set_option maxHeartbeats 4000000 in
set_option maxRecDepth 100000 in
/-- seen() -/
theorem c_X3_seen (l : Launch) (D : va_G) (k : Nat → ClassId) (ad : Nat → Nat) (V : St) : CtR noX l yX3_seen cX3_seen 1 (some .int) rmX3_seen D (tyL k) (wS k ad V) [.ref (ad 0)] (fun r => r = V 31 5) := by
  refine CtR.mk (by decide) (Nat.le_of_ble_eq_true rfl) ?_
  intro p e s m below meth c hx hb hml hown hg hr hlocks hK hN hX H hH hP ls hl
  have hl : lv_has ls 1 [(0, .ref (ad 0))] := hl
  refine lv_aload_n hx hb dX3_seen_0 rfl (lv_at hl 0 rfl) ?_
  refine gfl hx hb hg inX3 hown hK hP 0 (ci := 3) rfl rfl 6 (by decide) wd_197 rfl dX3_seen_1 ?_
  refine gflN hx hb hg hN inX0 hown hK hP 31 (ci := 0) rfl rfl 5 (by decide) 165 nst_165 rfl dX3_seen_4 ?_
  exact retRI (v := V 31 5) hx hb hr hlocks hH dX3_seen_7 (rfl)
abbrev rmX3_saw : Room := { frames := 0, cells := 0, slots := 0, locals := 0 }
theorem lk_X3_saw : Lk yX3_saw 1 := by decide +kernel
set_option maxHeartbeats 4000000 in
set_option maxRecDepth 100000 in
/-- saw(k) -/
theorem c_X3_saw (l : Launch) (D : va_G) (k : Nat → ClassId) (ad : Nat → Nat) (V : St) {c9 : Nat} (h5 : V 31 5 = nI c9) (hc : c9 ≤ 100) (x : Int32) : CtR noX l yX3_saw cX3_saw 2 (some .int) rmX3_saw D (tyL k) (wS k ad V) [.ref (ad 0), .int x] (fun r => (∃ q, q < c9 ∧ x = nI q ∧ r = V 36 q) ∨ (¬ rgt x c9 ∧ r = 0)) := by
  refine CtR.mk (by decide) (Nat.le_of_ble_eq_true rfl) ?_
  intro p e s m below meth c hx hb hml hown hg hr hlocks hK hN hX H hH hP ls hl
  have hl : lv_has ls 2 [(0, .ref (ad 0)), (1, .int x)] := hl
  refine lv_iload_n hx hb dX3_saw_0 rfl (lv_at hl 1 rfl) ?_
  refine lv_if_lt (tgt := 27) hx hb dX3_saw_1 (by decide) (fun c_1 => ?_) (fun c_1 => ?_)
  · refine lv_iconst (v := 0) hx hb dX3_saw_27 (by decide) ?_
    exact retRI (v := 0) hx hb hr hlocks hH dX3_saw_28 (Or.inr ⟨by first | exact rgt_neg (by omega) c_1 | exact rgt_big (by omega) c_12, rfl⟩)
  · refine lv_iload_n hx hb dX3_saw_4 rfl (lv_at hl 1 rfl) ?_
    refine lv_aload_n hx hb dX3_saw_5 rfl (lv_at hl 0 rfl) ?_
    refine gfl hx hb hg inX3 hown hK hP 0 (ci := 3) rfl rfl 6 (by decide) wd_197 rfl dX3_saw_6 ?_
    refine gflN hx hb hg hN inX0 hown hK hP 31 (ci := 0) rfl rfl 5 (by decide) 165 nst_165 rfl dX3_saw_9 ?_
    refine topv (nI c9) h5 ?_
    refine lv_icmp_ge (tgt := 27) hx hb dX3_saw_12 (by decide) (fun c_12 => ?_) (fun c_12 => ?_)
    · refine lv_iconst (v := 0) hx hb dX3_saw_27 (by decide) ?_
      exact retRI (v := 0) hx hb hr hlocks hH dX3_saw_28 (Or.inr ⟨by first | exact rgt_neg (by omega) c_1 | exact rgt_big (by omega) c_12, rfl⟩)
    · obtain ⟨q, hq, hxe⟩ := rgt_yes (N := c9) (by omega) c_1 c_12
      refine lv_aload_n hx hb dX3_saw_15 rfl (lv_at hl 0 rfl) ?_
      refine gfl hx hb hg inX3 hown hK hP 0 (ci := 3) rfl rfl 6 (by decide) wd_197 rfl dX3_saw_16 ?_
      refine gflN hx hb hg hN inX0 hown hK hP 31 (ci := 0) rfl rfl 4 (by decide) 163 nst_163 rfl dX3_saw_19 ?_
      refine lv_iload_n hx hb dX3_saw_22 rfl (lv_at hl 1 rfl) ?_
      refine topv (nI q) hxe ?_
      refine ldn hx hb hK hP 36 0 rfl rfl (by omega) (by decide) dX3_saw_23 ?_
      refine lv_goto (tgt := 28) hx hb dX3_saw_24 (by decide) ?_
      exact retRI (v := (V 36) q) hx hb hr hlocks hH dX3_saw_28 (Or.inl ⟨q, hq, hxe, rfl⟩)
abbrev rmX3_left : Room := { frames := 0, cells := 0, slots := 0, locals := 0 }
theorem lk_X3_left : Lk yX3_left 1 := by decide +kernel
set_option maxHeartbeats 4000000 in
set_option maxRecDepth 100000 in
/-- left(what) -/
theorem c_X3_left (l : Launch) (D : va_G) (k : Nat → ClassId) (ad : Nat → Nat) (V : St) (x : Int32) : CtR noX l yX3_left cX3_left 2 (some .int) rmX3_left D (tyL k) (wS k ad V) [.ref (ad 0), .int x] (fun r => (x = 0 ∧ r = V 31 7) ∨ (x = 1 ∧ r = V 31 8) ∨ (∃ q, q < 8 ∧ x = nI (q + 2) ∧ r = V 32 q) ∨ (¬ rgt x 10 ∧ r = 0)) := by
  refine CtR.mk (by decide) (Nat.le_of_ble_eq_true rfl) ?_
  intro p e s m below meth c hx hb hml hown hg hr hlocks hK hN hX H hH hP ls hl
  have hl : lv_has ls 2 [(0, .ref (ad 0)), (1, .int x)] := hl
  refine lv_iload_n hx hb dX3_left_0 rfl (lv_at hl 1 rfl) ?_
  refine lv_if_ne (tgt := 12) hx hb dX3_left_1 (by decide) (fun c_1 => ?_) (fun c_1 => ?_)
  · refine lv_iload_n hx hb dX3_left_12 rfl (lv_at hl 1 rfl) ?_
    refine lv_iconst (v := 1) hx hb dX3_left_13 (by decide) ?_
    refine lv_icmp_ne (tgt := 25) hx hb dX3_left_14 (by decide) (fun c_14 => ?_) (fun c_14 => ?_)
    · refine lv_iload_n hx hb dX3_left_25 rfl (lv_at hl 1 rfl) ?_
      refine lv_iconst (v := 2) hx hb dX3_left_26 (by decide) ?_
      refine lv_icmp_lt (tgt := 50) hx hb dX3_left_27 (by decide) (fun c_27 => ?_) (fun c_27 => ?_)
      · refine lv_iconst (v := 0) hx hb dX3_left_50 (by decide) ?_
        exact retRI (v := 0) hx hb hr hlocks hH dX3_left_51 (Or.inr (Or.inr (Or.inr ⟨by first | exact left_no c_1 c_14 c_27 | exact rgt_big (N := 10) (by decide) c_33, rfl⟩)))
      · refine lv_iload_n hx hb dX3_left_30 rfl (lv_at hl 1 rfl) ?_
        refine lv_bipush (v := 10) hx hb dX3_left_31 (by decide) ?_
        refine lv_icmp_ge (tgt := 50) hx hb dX3_left_33 (by decide) (fun c_33 => ?_) (fun c_33 => ?_)
        · refine lv_iconst (v := 0) hx hb dX3_left_50 (by decide) ?_
          exact retRI (v := 0) hx hb hr hlocks hH dX3_left_51 (Or.inr (Or.inr (Or.inr ⟨by first | exact left_no c_1 c_14 c_27 | exact rgt_big (N := 10) (by decide) c_33, rfl⟩)))
        · obtain ⟨q, hq, hxe⟩ := left_ix c_27 c_33
          refine lv_aload_n hx hb dX3_left_36 rfl (lv_at hl 0 rfl) ?_
          refine gfl hx hb hg inX3 hown hK hP 0 (ci := 3) rfl rfl 6 (by decide) wd_197 rfl dX3_left_37 ?_
          refine gflN hx hb hg hN inX0 hown hK hP 31 (ci := 0) rfl rfl 0 (by decide) 158 nst_158 rfl dX3_left_40 ?_
          refine lv_iload_n hx hb dX3_left_43 rfl (lv_at hl 1 rfl) ?_
          refine topv (nI (q + 2)) hxe ?_
          refine lv_iconst (v := 2) hx hb dX3_left_44 (by decide) ?_
          refine lv_isub hx hb dX3_left_45 ?_
          refine topv (nI (q + 2 - 2)) (pk_sub (a := q + 2) (b := 2) (by omega)) ?_
          refine topv (nI q) rfl ?_
          refine ldn hx hb hK hP 32 0 rfl rfl (by omega) (by decide) dX3_left_46 ?_
          refine lv_goto (tgt := 51) hx hb dX3_left_47 (by decide) ?_
          exact retRI (v := (V 32) q) hx hb hr hlocks hH dX3_left_51 (Or.inr (Or.inr (Or.inl ⟨q, hq, hxe, rfl⟩)))
    · refine lv_aload_n hx hb dX3_left_17 rfl (lv_at hl 0 rfl) ?_
      refine gfl hx hb hg inX3 hown hK hP 0 (ci := 3) rfl rfl 6 (by decide) wd_197 rfl dX3_left_18 ?_
      refine gflN hx hb hg hN inX0 hown hK hP 31 (ci := 0) rfl rfl 8 (by decide) 170 nst_170 rfl dX3_left_21 ?_
      exact retRI (v := V 31 8) hx hb hr hlocks hH dX3_left_24 (Or.inr (Or.inl ⟨c_14, rfl⟩))
  · refine lv_aload_n hx hb dX3_left_4 rfl (lv_at hl 0 rfl) ?_
    refine gfl hx hb hg inX3 hown hK hP 0 (ci := 3) rfl rfl 6 (by decide) wd_197 rfl dX3_left_5 ?_
    refine gflN hx hb hg hN inX0 hown hK hP 31 (ci := 0) rfl rfl 7 (by decide) 168 nst_168 rfl dX3_left_8 ?_
    exact retRI (v := V 31 7) hx hb hr hlocks hH dX3_left_11 (Or.inl ⟨c_1, rfl⟩)
abbrev rmX3_on : Room := { frames := 0, cells := 0, slots := 0, locals := 0 }
theorem lk_X3_on : Lk yX3_on 1 := by decide +kernel
set_option maxHeartbeats 4000000 in
set_option maxRecDepth 100000 in
/-- on(k) -/
theorem c_X3_on (l : Launch) (D : va_G) (k : Nat → ClassId) (ad : Nat → Nat) (V : St) {wl : Nat} (h11 : V 0 11 = nI wl) (hwl : wl ≤ 24) (x : Int32) : CtR noX l yX3_on cX3_on 2 (some .int) rmX3_on D (tyL k) (wS k ad V) [.ref (ad 0), .int x] (fun r => (∃ q, q < wl ∧ x = nI q ∧ r = V 4 q) ∨ (¬ rgt x wl ∧ r = -4)) := by
  refine CtR.mk (by decide) (Nat.le_of_ble_eq_true rfl) ?_
  intro p e s m below meth c hx hb hml hown hg hr hlocks hK hN hX H hH hP ls hl
  have hl : lv_has ls 2 [(0, .ref (ad 0)), (1, .int x)] := hl
  refine lv_iload_n hx hb dX3_on_0 rfl (lv_at hl 1 rfl) ?_
  refine lv_if_lt (tgt := 21) hx hb dX3_on_1 (by decide) (fun c_1 => ?_) (fun c_1 => ?_)
  · refine lv_bipush (v := (-4)) hx hb dX3_on_21 (by decide) ?_
    exact retRI (v := (-4)) hx hb hr hlocks hH dX3_on_23 (Or.inr ⟨by first | exact rgt_neg (by omega) c_1 | exact rgt_big (by omega) c_9, rfl⟩)
  · refine lv_iload_n hx hb dX3_on_4 rfl (lv_at hl 1 rfl) ?_
    refine lv_aload_n hx hb dX3_on_5 rfl (lv_at hl 0 rfl) ?_
    refine gfl hx hb hg inX3 hown hK hP 0 (ci := 3) rfl rfl 11 (by decide) wd_202 rfl dX3_on_6 ?_
    refine topv (nI wl) h11 ?_
    refine lv_icmp_ge (tgt := 21) hx hb dX3_on_9 (by decide) (fun c_9 => ?_) (fun c_9 => ?_)
    · refine lv_bipush (v := (-4)) hx hb dX3_on_21 (by decide) ?_
      exact retRI (v := (-4)) hx hb hr hlocks hH dX3_on_23 (Or.inr ⟨by first | exact rgt_neg (by omega) c_1 | exact rgt_big (by omega) c_9, rfl⟩)
    · obtain ⟨q, hq, hxe⟩ := rgt_yes (N := wl) (by omega) c_1 c_9
      refine lv_aload_n hx hb dX3_on_12 rfl (lv_at hl 0 rfl) ?_
      refine gfl hx hb hg inX3 hown hK hP 0 (ci := 3) rfl rfl 10 (by decide) wd_201 rfl dX3_on_13 ?_
      refine lv_iload_n hx hb dX3_on_16 rfl (lv_at hl 1 rfl) ?_
      refine topv (nI q) hxe ?_
      refine ldn hx hb hK hP 4 0 rfl rfl (by omega) (by decide) dX3_on_17 ?_
      refine lv_goto (tgt := 23) hx hb dX3_on_18 (by decide) ?_
      exact retRI (v := (V 4) q) hx hb hr hlocks hH dX3_on_23 (Or.inl ⟨q, hq, hxe, rfl⟩)
abbrev rmX3_count : Room := { frames := 0, cells := 0, slots := 0, locals := 0 }
theorem lk_X3_count : Lk yX3_count 1 := by decide +kernel
set_option maxHeartbeats 4000000 in
set_option maxRecDepth 100000 in
/-- count(what) -/
theorem c_X3_count (l : Launch) (D : va_G) (k : Nat → ClassId) (ad : Nat → Nat) (V : St) (x : Int32) : CtR noX l yX3_count cX3_count 2 (some .int) rmX3_count D (tyL k) (wS k ad V) [.ref (ad 0), .int x] (fun r => (x = 0 ∧ r = V 8 7) ∨ (x = 1 ∧ r = V 0 5) ∨ (x = 2 ∧ r = V 0 7) ∨ (¬ rgt x 3 ∧ r = -1)) := by
  refine CtR.mk (by decide) (Nat.le_of_ble_eq_true rfl) ?_
  intro p e s m below meth c hx hb hml hown hg hr hlocks hK hN hX H hH hP ls hl
  have hl : lv_has ls 2 [(0, .ref (ad 0)), (1, .int x)] := hl
  refine lv_iload_n hx hb dX3_count_0 rfl (lv_at hl 1 rfl) ?_
  rcases sw3 x with rfl | rfl | rfl | ⟨ho, hno⟩
  · refine lv_tableIn (off := 27) (tgt := 28) hx hb dX3_count_1 (by decide) (by decide) (by rfl) (by decide) ?_
    refine lv_aload_n hx hb dX3_count_28 rfl (lv_at hl 0 rfl) ?_
    refine gfl hx hb hg inX3 hown hK hP 0 (ci := 3) rfl rfl 0 (by decide) wd_191 rfl dX3_count_29 ?_
    refine gflN hx hb hg hN inX1 hown hK hP 8 (ci := 1) rfl rfl 7 (by decide) 89 nst_89 rfl dX3_count_32 ?_
    exact retRI (v := V 8 7) hx hb hr hlocks hH dX3_count_35 (Or.inl ⟨rfl, rfl⟩)
  · refine lv_tableIn (off := 35) (tgt := 36) hx hb dX3_count_1 (by decide) (by decide) (by rfl) (by decide) ?_
    refine lv_aload_n hx hb dX3_count_36 rfl (lv_at hl 0 rfl) ?_
    refine gfl hx hb hg inX3 hown hK hP 0 (ci := 3) rfl rfl 5 (by decide) wd_196 rfl dX3_count_37 ?_
    exact retRI (v := V 0 5) hx hb hr hlocks hH dX3_count_40 (Or.inr (Or.inl ⟨rfl, rfl⟩))
  · refine lv_tableIn (off := 40) (tgt := 41) hx hb dX3_count_1 (by decide) (by decide) (by rfl) (by decide) ?_
    refine lv_aload_n hx hb dX3_count_41 rfl (lv_at hl 0 rfl) ?_
    refine gfl hx hb hg inX3 hown hK hP 0 (ci := 3) rfl rfl 7 (by decide) wd_198 rfl dX3_count_42 ?_
    exact retRI (v := V 0 7) hx hb hr hlocks hH dX3_count_45 (Or.inr (Or.inr (Or.inl ⟨rfl, rfl⟩)))
  · refine lv_tableOut (tgt := 46) hx hb dX3_count_1 ho (by decide) ?_
    refine lv_iconst (v := (-1)) hx hb dX3_count_46 (by decide) ?_
    exact retRI (v := (-1)) hx hb hr hlocks hH dX3_count_47 (Or.inr (Or.inr (Or.inr ⟨hno, rfl⟩)))
abbrev rmX3_drop : Room := { frames := 0, cells := 0, slots := 0, locals := 0 }
theorem lk_X3_drop : Lk yX3_drop 0 := by decide +kernel
set_option maxHeartbeats 4000000 in
set_option maxRecDepth 100000 in
/-- drop() -/
theorem c_X3_drop (l : Launch) (D : va_G) (k : Nat → ClassId) (ad : Nat → Nat) (V : St) {n : Nat} (hv : okV n (pj V)) : CtX noX l yX3_drop cX3_drop 1 (some .int) rmX3_drop D (tyL k) (wS k ad V) [.ref (ad 0)] (qI D (wS k ad) (fun r U => (n = 0 ∧ r = -3 ∧ U = V) ∨ (0 < n ∧ r = nI (n - 1) ∧ U = oldS (va_up V 8 (upd (V 8) 7 (nI (n - 1))))))) := by
  refine CtX.mk (by decide) (Nat.le_of_ble_eq_true rfl) ?_
  intro p e s m below meth c hx hb hml hown hg hr hlocks hK hN A hA hX hh ls hl
  have hh : Hd D A (wS k ad V) s.heap s.heap [] := hh
  have hl : lv_has ls 1 [(0, .ref (ad 0))] := hl
  have h87 : V 8 7 = nI n := hv.2.1
  have hn24 := hv.1
  refine lv_aload_n hx hb dX3_drop_0 rfl (lv_at hl 0 rfl) ?_
  refine gfl hx hb hg inX3 hown hK hh.1 0 (ci := 3) rfl rfl 0 (by decide) wd_191 rfl dX3_drop_1 ?_
  refine gflN hx hb hg hN inX1 hown hK hh.1 8 (ci := 1) rfl rfl 7 (by decide) 89 nst_89 rfl dX3_drop_4 ?_
  refine topv (nI n) h87 ?_
  refine lv_if_ne (tgt := 13) hx hb dX3_drop_7 (by decide) (fun c_7 => ?_) (fun c_7 => ?_)
  · have c_7 : ¬ n = 0 := fun z => c_7 ((nI_eq (a := n) (b := 0) (by omega) (by omega)).mpr z)
    refine lv_aload_n hx hb dX3_drop_13 rfl (lv_at hl 0 rfl) ?_
    refine gfl hx hb hg inX3 hown hK hh.1 0 (ci := 3) rfl rfl 0 (by decide) wd_191 rfl dX3_drop_14 ?_
    refine lv_dup hx hb dX3_drop_17 rfl ?_
    refine gflN hx hb hg hN inX1 hown hK hh.1 8 (ci := 1) rfl rfl 7 (by decide) 89 nst_89 rfl dX3_drop_18 ?_
    refine topv (nI n) h87 ?_
    refine lv_iconst (v := 1) hx hb dX3_drop_21 (by decide) ?_
    refine lv_isub hx hb dX3_drop_22 ?_
    refine topv (nI (n - 1)) (pk_sub (a := n) (b := 1) (by omega)) ?_
    refine pflN hx hb hg hN inX1 tyX1 tyX1_ok nmX1 hown hK hh 8 (ci := 1) rfl rfl 7 (by decide) 89 nst_89 rfl rfl rfl (Nat.le_of_ble_eq_true rfl) dX3_drop_23 (wS k ad (va_up V 8 (upd (V 8) 7 (nI (n - 1))))) rfl (fun H locs hh => ?_)
    refine lv_aload_n hx hb dX3_drop_26 rfl (lv_at hl 0 rfl) ?_
    refine lv_iconst (v := 1) hx hb dX3_drop_27 (by decide) ?_
    refine pfl hx hb hg inX3 tyX3 tyX3_ok nmX3 hown hK hh 0 (ci := 3) rfl rfl 2 (by decide) wd_193 rfl rfl rfl (Nat.le_of_ble_eq_true rfl) dX3_drop_28 (wS k ad (va_up (va_up V 8 (upd (V 8) 7 (nI (n - 1)))) 0 (upd ((va_up V 8 (upd (V 8) 7 (nI (n - 1)))) 0) 2 1))) rfl (fun H locs hh => ?_)
    refine lv_aload_n hx hb dX3_drop_31 rfl (lv_at hl 0 rfl) ?_
    refine gfl hx hb hg inX3 hown hK hh.1 0 (ci := 3) rfl rfl 0 (by decide) wd_191 rfl dX3_drop_32 ?_
    refine gflN hx hb hg hN inX1 hown hK hh.1 8 (ci := 1) rfl rfl 7 (by decide) 89 nst_89 rfl dX3_drop_35 ?_
    exact retI (Wd := wS k ad) (v := nI (n - 1)) (va_up (va_up V 8 (upd (V 8) 7 (nI (n - 1)))) 0 (upd ((va_up V 8 (upd (V 8) 7 (nI (n - 1)))) 0) 2 1)) hx hb hr hlocks dX3_drop_38 hh (Or.inr ⟨by omega, rfl, rfl⟩)
  · have c_7 : n = 0 := (nI_eq (a := n) (b := 0) (by omega) (by omega)).mp c_7
    refine lv_bipush (v := (-3)) hx hb dX3_drop_10 (by decide) ?_
    exact retI (Wd := wS k ad) (v := (-3)) (V) hx hb hr hlocks dX3_drop_12 hh (Or.inl ⟨c_7, rfl, rfl⟩)
abbrev rmX3_start : Room := { frames := 0, cells := 0, slots := 0, locals := 0 }
theorem lk_X3_start : Lk yX3_start 3 := by decide +kernel
set_option maxHeartbeats 4000000 in
set_option maxRecDepth 100000 in
/-- start(g, n, fails) -/
theorem c_X3_start (l : Launch) (D : va_G) (k : Nat → ClassId) (ad : Nat → Nat) (V : St) (x y : Int32) (w : Bool) : CtX noX l yX3_start cX3_start 4 (some .int) rmX3_start D (tyL k) (wS k ad V) [.ref (ad 0), .int x, .int y, .int (zI w)] (qI D (wS k ad) (fun r U => (¬ rgt x 4 ∧ r = -1 ∧ U = V) ∨ (∃ q, q < 4 ∧ x = nI q ∧ r = 1 ∧ U = oldS (va_up (va_up V 13 (upd (V 13) q y)) 14 (upd (V 14) q (vp_nar .boolean (zI w))))))) := by
  refine CtX.mk (by decide) (Nat.le_of_ble_eq_true rfl) ?_
  intro p e s m below meth c hx hb hml hown hg hr hlocks hK hN A hA hX hh ls hl
  have hh : Hd D A (wS k ad V) s.heap s.heap [] := hh
  have hl : lv_has ls 4 [(0, .ref (ad 0)), (1, .int x), (2, .int y), (3, .int (zI w))] := hl
  refine lv_iload_n hx hb dX3_start_0 rfl (lv_at hl 1 rfl) ?_
  refine lv_if_lt (tgt := 9) hx hb dX3_start_1 (by decide) (fun c_1 => ?_) (fun c_1 => ?_)
  · refine lv_iconst (v := (-1)) hx hb dX3_start_9 (by decide) ?_
    exact retI (Wd := wS k ad) (v := (-1)) (V) hx hb hr hlocks dX3_start_10 hh (Or.inl ⟨by first | exact rgt_neg (by decide) c_1 | exact rgt_big (N := 4) (by decide) (i_nlt.mp c_6), rfl, rfl⟩)
  · refine lv_iload_n hx hb dX3_start_4 rfl (lv_at hl 1 rfl) ?_
    refine lv_iconst (v := 4) hx hb dX3_start_5 (by decide) ?_
    refine lv_icmp_lt (tgt := 11) hx hb dX3_start_6 (by decide) (fun c_6 => ?_) (fun c_6 => ?_)
    · obtain ⟨q, hq, hxe⟩ := rgt_yes (N := 4) (by decide) c_1 (i_nle.mpr c_6)
      refine lv_aload_n hx hb dX3_start_11 rfl (lv_at hl 0 rfl) ?_
      refine gfl hx hb hg inX3 hown hK hh.1 0 (ci := 3) rfl rfl 0 (by decide) wd_191 rfl dX3_start_12 ?_
      refine gflN hx hb hg hN inX1 hown hK hh.1 8 (ci := 1) rfl rfl 4 (by decide) 82 nst_82 rfl dX3_start_15 ?_
      refine lv_iload_n hx hb dX3_start_18 rfl (lv_at hl 1 rfl) ?_
      refine topv (nI q) hxe ?_
      refine lv_iload_n hx hb dX3_start_19 rfl (lv_at hl 2 rfl) ?_
      refine stn (j := q) hx hb hK hh 13 0 rfl rfl (by omega) (by decide) dX3_start_20 (wS k ad (va_up V 13 (upd (V 13) q y))) rfl (fun H locs hh => ?_)
      refine lv_aload_n hx hb dX3_start_21 rfl (lv_at hl 0 rfl) ?_
      refine gfl hx hb hg inX3 hown hK hh.1 0 (ci := 3) rfl rfl 0 (by decide) wd_191 rfl dX3_start_22 ?_
      refine gflN hx hb hg hN inX1 hown hK hh.1 8 (ci := 1) rfl rfl 5 (by decide) 84 nst_84 rfl dX3_start_25 ?_
      refine lv_iload_n hx hb dX3_start_28 rfl (lv_at hl 1 rfl) ?_
      refine topv (nI q) hxe ?_
      refine lv_iload_n hx hb dX3_start_29 rfl (lv_at hl 3 rfl) ?_
      refine stzn (j := q) hx hb hK hh 14 1 rfl rfl (by omega) (by decide) dX3_start_30 (wS k ad (va_up (va_up V 13 (upd (V 13) q y)) 14 (upd (V 14) q (vp_nar .boolean (zI w))))) rfl (fun H locs hh => ?_)
      refine lv_aload_n hx hb dX3_start_31 rfl (lv_at hl 0 rfl) ?_
      refine lv_iconst (v := 1) hx hb dX3_start_32 (by decide) ?_
      refine pfl hx hb hg inX3 tyX3 tyX3_ok nmX3 hown hK hh 0 (ci := 3) rfl rfl 2 (by decide) wd_193 rfl rfl rfl (Nat.le_of_ble_eq_true rfl) dX3_start_33 (wS k ad (va_up (va_up (va_up V 13 (upd (V 13) q y)) 14 (upd (V 14) q (vp_nar .boolean (zI w)))) 0 (upd ((va_up (va_up V 13 (upd (V 13) q y)) 14 (upd (V 14) q (vp_nar .boolean (zI w)))) 0) 2 1))) rfl (fun H locs hh => ?_)
      refine lv_iconst (v := 1) hx hb dX3_start_36 (by decide) ?_
      exact retI (Wd := wS k ad) (v := 1) (va_up (va_up (va_up V 13 (upd (V 13) q y)) 14 (upd (V 14) q (vp_nar .boolean (zI w)))) 0 (upd ((va_up (va_up V 13 (upd (V 13) q y)) 14 (upd (V 14) q (vp_nar .boolean (zI w)))) 0) 2 1)) hx hb hr hlocks dX3_start_37 hh (Or.inr ⟨q, hq, hxe, rfl, rfl⟩)
    · refine lv_iconst (v := (-1)) hx hb dX3_start_9 (by decide) ?_
      exact retI (Wd := wS k ad) (v := (-1)) (V) hx hb hr hlocks dX3_start_10 hh (Or.inl ⟨by first | exact rgt_neg (by decide) c_1 | exact rgt_big (N := 4) (by decide) (i_nlt.mp c_6), rfl, rfl⟩)
abbrev rmX3_input : Room := { frames := 0, cells := 0, slots := 0, locals := 0 }
theorem lk_X3_input : Lk yX3_input 2 := by decide +kernel
set_option maxHeartbeats 4000000 in
set_option maxRecDepth 100000 in
/-- input(k, v) -/
theorem c_X3_input (l : Launch) (D : va_G) (k : Nat → ClassId) (ad : Nat → Nat) (V : St) (x y : Int32) : CtX noX l yX3_input cX3_input 3 (some .int) rmX3_input D (tyL k) (wS k ad V) [.ref (ad 0), .int x, .int y] (qI D (wS k ad) (fun r U => (¬ rgt x 4 ∧ r = -1 ∧ U = V) ∨ (∃ q, q < 4 ∧ x = nI q ∧ r = 1 ∧ U = va_up V 1 (upd (V 1) q y)))) := by
  refine CtX.mk (by decide) (Nat.le_of_ble_eq_true rfl) ?_
  intro p e s m below meth c hx hb hml hown hg hr hlocks hK hN A hA hX hh ls hl
  have hh : Hd D A (wS k ad V) s.heap s.heap [] := hh
  have hl : lv_has ls 3 [(0, .ref (ad 0)), (1, .int x), (2, .int y)] := hl
  refine lv_iload_n hx hb dX3_input_0 rfl (lv_at hl 1 rfl) ?_
  refine lv_if_lt (tgt := 9) hx hb dX3_input_1 (by decide) (fun c_1 => ?_) (fun c_1 => ?_)
  · refine lv_iconst (v := (-1)) hx hb dX3_input_9 (by decide) ?_
    exact retI (Wd := wS k ad) (v := (-1)) (V) hx hb hr hlocks dX3_input_10 hh (Or.inl ⟨by first | exact rgt_neg (by decide) c_1 | exact rgt_big (N := 4) (by decide) (i_nlt.mp c_6), rfl, rfl⟩)
  · refine lv_iload_n hx hb dX3_input_4 rfl (lv_at hl 1 rfl) ?_
    refine lv_iconst (v := 4) hx hb dX3_input_5 (by decide) ?_
    refine lv_icmp_lt (tgt := 11) hx hb dX3_input_6 (by decide) (fun c_6 => ?_) (fun c_6 => ?_)
    · obtain ⟨q, hq, hxe⟩ := rgt_yes (N := 4) (by decide) c_1 (i_nle.mpr c_6)
      refine lv_aload_n hx hb dX3_input_11 rfl (lv_at hl 0 rfl) ?_
      refine gfl hx hb hg inX3 hown hK hh.1 0 (ci := 3) rfl rfl 3 (by decide) wd_194 rfl dX3_input_12 ?_
      refine lv_iload_n hx hb dX3_input_15 rfl (lv_at hl 1 rfl) ?_
      refine topv (nI q) hxe ?_
      refine lv_iload_n hx hb dX3_input_16 rfl (lv_at hl 2 rfl) ?_
      refine stn (j := q) hx hb hK hh 1 0 rfl rfl (by omega) (by decide) dX3_input_17 (wS k ad (va_up V 1 (upd (V 1) q y))) rfl (fun H locs hh => ?_)
      refine lv_iconst (v := 1) hx hb dX3_input_18 (by decide) ?_
      exact retI (Wd := wS k ad) (v := 1) (va_up V 1 (upd (V 1) q y)) hx hb hr hlocks dX3_input_19 hh (Or.inr ⟨q, hq, hxe, rfl, rfl⟩)
    · refine lv_iconst (v := (-1)) hx hb dX3_input_9 (by decide) ?_
      exact retI (Wd := wS k ad) (v := (-1)) (V) hx hb hr hlocks dX3_input_10 hh (Or.inl ⟨by first | exact rgt_neg (by decide) c_1 | exact rgt_big (N := 4) (by decide) (i_nlt.mp c_6), rfl, rfl⟩)
abbrev rmX3_points : Room := { frames := 0, cells := 0, slots := 0, locals := 0 }
theorem lk_X3_points : Lk yX3_points 2 := by decide +kernel
set_option maxHeartbeats 4000000 in
set_option maxRecDepth 100000 in
/-- points(name, rows) -/
theorem c_X3_points (l : Launch) (D : va_G) (k : Nat → ClassId) (ad : Nat → Nat) (V : St) (x y : Int32) : CtX noX l yX3_points cX3_points 4 (some .int) rmX3_points D (tyL k) (wS k ad V) [.ref (ad 0), .int x, .int y] (qI D (wS k ad) (fun r U => (¬ (rgt x 4 ∧ rgt y 16 ∧ ¬ y = 0) ∧ r = -1 ∧ U = V) ∨ (∃ q, q < 4 ∧ x = nI q ∧ (rgt y 16 ∧ ¬ y = 0) ∧ r = V 15 q ∧ U = oldS (va_up V 15 (upd (V 15) q y))))) := by
  refine CtX.mk (by decide) (Nat.le_of_ble_eq_true rfl) ?_
  intro p e s m below meth c hx hb hml hown hg hr hlocks hK hN A hA hX hh ls hl
  have hh : Hd D A (wS k ad V) s.heap s.heap [] := hh
  have hl : lv_has ls 4 [(0, .ref (ad 0)), (1, .int x), (2, .int y)] := hl
  refine lv_iload_n hx hb dX3_points_0 rfl (lv_at hl 1 rfl) ?_
  refine lv_if_lt (tgt := 20) hx hb dX3_points_1 (by decide) (fun c_1 => ?_) (fun c_1 => ?_)
  · refine lv_iconst (v := (-1)) hx hb dX3_points_20 (by decide) ?_
    exact retI (Wd := wS k ad) (v := (-1)) (V) hx hb hr hlocks dX3_points_21 hh (Or.inl ⟨fun z => by first | exact rgt_neg (by decide) c_1 z.1 | exact rgt_big (N := 4) (by decide) c_6 z.1 | exact pt_lo c_11 z.2.1 z.2.2 | exact pt_hi c_17 z.2.1, rfl, rfl⟩)
  · refine lv_iload_n hx hb dX3_points_4 rfl (lv_at hl 1 rfl) ?_
    refine lv_iconst (v := 4) hx hb dX3_points_5 (by decide) ?_
    refine lv_icmp_ge (tgt := 20) hx hb dX3_points_6 (by decide) (fun c_6 => ?_) (fun c_6 => ?_)
    · refine lv_iconst (v := (-1)) hx hb dX3_points_20 (by decide) ?_
      exact retI (Wd := wS k ad) (v := (-1)) (V) hx hb hr hlocks dX3_points_21 hh (Or.inl ⟨fun z => by first | exact rgt_neg (by decide) c_1 z.1 | exact rgt_big (N := 4) (by decide) c_6 z.1 | exact pt_lo c_11 z.2.1 z.2.2 | exact pt_hi c_17 z.2.1, rfl, rfl⟩)
    · obtain ⟨q, hq, hxe⟩ := rgt_yes (N := 4) (by decide) c_1 c_6
      refine lv_iload_n hx hb dX3_points_9 rfl (lv_at hl 2 rfl) ?_
      refine lv_iconst (v := 1) hx hb dX3_points_10 (by decide) ?_
      refine lv_icmp_lt (tgt := 20) hx hb dX3_points_11 (by decide) (fun c_11 => ?_) (fun c_11 => ?_)
      · refine lv_iconst (v := (-1)) hx hb dX3_points_20 (by decide) ?_
        exact retI (Wd := wS k ad) (v := (-1)) (V) hx hb hr hlocks dX3_points_21 hh (Or.inl ⟨fun z => by first | exact rgt_neg (by decide) c_1 z.1 | exact rgt_big (N := 4) (by decide) c_6 z.1 | exact pt_lo c_11 z.2.1 z.2.2 | exact pt_hi c_17 z.2.1, rfl, rfl⟩)
      · refine lv_iload_n hx hb dX3_points_14 rfl (lv_at hl 2 rfl) ?_
        refine lv_bipush (v := 15) hx hb dX3_points_15 (by decide) ?_
        refine lv_icmp_le (tgt := 22) hx hb dX3_points_17 (by decide) (fun c_17 => ?_) (fun c_17 => ?_)
        · refine lv_aload_n hx hb dX3_points_22 rfl (lv_at hl 0 rfl) ?_
          refine gfl hx hb hg inX3 hown hK hh.1 0 (ci := 3) rfl rfl 0 (by decide) wd_191 rfl dX3_points_23 ?_
          refine gflN hx hb hg hN inX1 hown hK hh.1 8 (ci := 1) rfl rfl 6 (by decide) 87 nst_87 rfl dX3_points_26 ?_
          refine lv_iload_n hx hb dX3_points_29 rfl (lv_at hl 1 rfl) ?_
          refine topv (nI q) hxe ?_
          refine ldn hx hb hK hh.1 15 0 rfl rfl (by omega) (by decide) dX3_points_30 ?_
          refine lv_istore_n (lv' := [(3, .int ((V 15) q)), (0, .ref (ad 0)), (1, .int x), (2, .int y)]) hx hb dX3_points_31 rfl hl (by decide) rfl (fun ls hl => ?_)
          refine lv_aload_n hx hb dX3_points_32 rfl (lv_at hl 1 rfl) ?_
          refine gfl hx hb hg inX3 hown hK hh.1 0 (ci := 3) rfl rfl 0 (by decide) wd_191 rfl dX3_points_33 ?_
          refine gflN hx hb hg hN inX1 hown hK hh.1 8 (ci := 1) rfl rfl 6 (by decide) 87 nst_87 rfl dX3_points_36 ?_
          refine lv_iload_n hx hb dX3_points_39 rfl (lv_at hl 2 rfl) ?_
          refine topv (nI q) hxe ?_
          refine lv_iload_n hx hb dX3_points_40 rfl (lv_at hl 3 rfl) ?_
          refine stn (j := q) hx hb hK hh 15 0 rfl rfl (by omega) (by decide) dX3_points_41 (wS k ad (va_up V 15 (upd (V 15) q y))) rfl (fun H locs hh => ?_)
          refine lv_aload_n hx hb dX3_points_42 rfl (lv_at hl 1 rfl) ?_
          refine lv_iconst (v := 1) hx hb dX3_points_43 (by decide) ?_
          refine pfl hx hb hg inX3 tyX3 tyX3_ok nmX3 hown hK hh 0 (ci := 3) rfl rfl 2 (by decide) wd_193 rfl rfl rfl (Nat.le_of_ble_eq_true rfl) dX3_points_44 (wS k ad (va_up (va_up V 15 (upd (V 15) q y)) 0 (upd ((va_up V 15 (upd (V 15) q y)) 0) 2 1))) rfl (fun H locs hh => ?_)
          refine lv_iload_n hx hb dX3_points_47 rfl (lv_at hl 0 rfl) ?_
          exact retI (Wd := wS k ad) (v := (V 15) q) (va_up (va_up V 15 (upd (V 15) q y)) 0 (upd ((va_up V 15 (upd (V 15) q y)) 0) 2 1)) hx hb hr hlocks dX3_points_48 hh (Or.inr ⟨q, hq, hxe, pt_in c_11 c_17, rfl, rfl⟩)
        · refine lv_iconst (v := (-1)) hx hb dX3_points_20 (by decide) ?_
          exact retI (Wd := wS k ad) (v := (-1)) (V) hx hb hr hlocks dX3_points_21 hh (Or.inl ⟨fun z => by first | exact rgt_neg (by decide) c_1 z.1 | exact rgt_big (N := 4) (by decide) c_6 z.1 | exact pt_lo c_11 z.2.1 z.2.2 | exact pt_hi c_17 z.2.1, rfl, rfl⟩)
abbrev rmX3_untest : Room := { frames := 0, cells := 0, slots := 0, locals := 0 }
theorem lk_X3_untest : Lk yX3_untest 0 := by decide +kernel
set_option maxHeartbeats 4000000 in
set_option maxRecDepth 100000 in
/-- untest() -/
theorem c_X3_untest (l : Launch) (D : va_G) (k : Nat → ClassId) (ad : Nat → Nat) (V : St) : CtX noX l yX3_untest cX3_untest 2 (some .int) rmX3_untest D (tyL k) (wS k ad V) [.ref (ad 0)] (qI D (wS k ad) (fun r U => r = V 0 5 ∧ U = va_up V 0 (upd (V 0) 5 0))) := by
  refine CtX.mk (by decide) (Nat.le_of_ble_eq_true rfl) ?_
  intro p e s m below meth c hx hb hml hown hg hr hlocks hK hN A hA hX hh ls hl
  have hh : Hd D A (wS k ad V) s.heap s.heap [] := hh
  have hl : lv_has ls 2 [(0, .ref (ad 0))] := hl
  refine lv_aload_n hx hb dX3_untest_0 rfl (lv_at hl 0 rfl) ?_
  refine gfl hx hb hg inX3 hown hK hh.1 0 (ci := 3) rfl rfl 5 (by decide) wd_196 rfl dX3_untest_1 ?_
  refine lv_istore_n (lv' := [(1, .int (V 0 5)), (0, .ref (ad 0))]) hx hb dX3_untest_4 rfl hl (by decide) rfl (fun ls hl => ?_)
  refine lv_aload_n hx hb dX3_untest_5 rfl (lv_at hl 1 rfl) ?_
  refine lv_iconst (v := 0) hx hb dX3_untest_6 (by decide) ?_
  refine pfl hx hb hg inX3 tyX3 tyX3_ok nmX3 hown hK hh 0 (ci := 3) rfl rfl 5 (by decide) wd_196 rfl rfl rfl (Nat.le_of_ble_eq_true rfl) dX3_untest_7 (wS k ad (va_up V 0 (upd (V 0) 5 0))) rfl (fun H locs hh => ?_)
  refine lv_iload_n hx hb dX3_untest_10 rfl (lv_at hl 0 rfl) ?_
  exact retI (Wd := wS k ad) (v := V 0 5) (va_up V 0 (upd (V 0) 5 0)) hx hb hr hlocks dX3_untest_11 hh (⟨rfl, rfl⟩)
