/-! the reference: leaves -/
abbrev rmX4_in : Room := { frames := 0, cells := 0, slots := 0, locals := 0 }
theorem lk_X4_in : Lk yX4_in 3 := by decide +kernel
set_option maxHeartbeats 4000000 in
set_option maxRecDepth 100000 in
/-- in(v, low, high) -/
theorem c_X4_in (l : Launch) (D : va_G) (k : Nat → ClassId) (v lo hi : Int64) : CtR noX l yX4_in cX4_in 6 (some .boolean) rmX4_in D (tyL k) ([]) [.long v, .long lo, .long hi] (fun r => r = zI (inB v lo hi)) := by
  refine CtR.mk (by decide) (Nat.le_of_ble_eq_true rfl) ?_
  intro p e s m below meth c hx hb hml hown hg hr hlocks hK hN hX H hH hP ls hl
  have hl : lv_has ls 6 [(0, .long v), (2, .long lo), (4, .long hi)] := hl
  refine lv_lload_n hx hb dX4_in_0 rfl (lv_at hl 0 rfl) ?_
  refine lv_lload_n hx hb dX4_in_1 rfl (lv_at hl 1 rfl) ?_
  refine W.lcmp hx hb dX4_in_2 ?_
  refine lv_if_lt (tgt := 17) hx hb dX4_in_3 (by decide) (fun c_3 => ?_) (fun c_3 => ?_)
  · have c_3 := (lg_lt _ _).mp c_3
    refine lv_iconst (v := 0) hx hb dX4_in_17 (by decide) ?_
    exact retRZ (v := 0) hx hb hr hlocks hH rfl dX4_in_18 (by unfold inB; rw [decide_eq_false (fun z => z.1 c_3)]; rfl)
  · have c_3 : ¬ v < lo := fun z => c_3 ((lg_lt _ _).mpr z)
    refine lv_lload_n hx hb dX4_in_6 rfl (lv_at hl 0 rfl) ?_
    refine lv_lload hx hb dX4_in_7 (lv_at hl 2 rfl) ?_
    refine W.lcmp hx hb dX4_in_9 ?_
    refine lv_if_gt (tgt := 17) hx hb dX4_in_10 (by decide) (fun c_10 => ?_) (fun c_10 => ?_)
    · have c_10 := (lg_gt _ _).mp c_10
      refine lv_iconst (v := 0) hx hb dX4_in_17 (by decide) ?_
      exact retRZ (v := 0) hx hb hr hlocks hH rfl dX4_in_18 (by unfold inB; rw [decide_eq_false (fun z => z.2 c_10)]; rfl)
    · have c_10 : ¬ hi < v := fun z => c_10 ((lg_gt _ _).mpr z)
      refine lv_iconst (v := 1) hx hb dX4_in_13 (by decide) ?_
      refine lv_goto (tgt := 18) hx hb dX4_in_14 (by decide) ?_
      exact retRZ (v := 1) hx hb hr hlocks hH rfl dX4_in_18 (by unfold inB; rw [decide_eq_true ⟨c_3, c_10⟩]; rfl)
abbrev rmX4_isPlace : Room := { frames := 1, cells := 0, slots := 0, locals := 25 }
theorem lk_X4_isPlace : Lk yX4_isPlace 1 := by decide +kernel
set_option maxHeartbeats 4000000 in
set_option maxRecDepth 100000 in
/-- isPlace(p) -/
theorem c_X4_isPlace (l : Launch) (D : va_G) (k : Nat → ClassId) (ad : Nat → Nat) (V : St) {n : Nat} (hv : okV n (pq V)) (x : Int32) : CtR noX l yX4_isPlace cX4_isPlace 2 (some .boolean) rmX4_isPlace D (tyL k) (wQ k ad V) [.ref (ad 0), .int x] (fun r => ∃ b : Bool, r = zI b ∧ (b = true ↔ rgt x n)) := by
  refine CtR.mk (by decide) (Nat.le_of_ble_eq_true rfl) ?_
  intro p e s m below meth c hx hb hml hown hg hr hlocks hK hN hX H hH hP ls hl
  have hl : lv_has ls 2 [(0, .ref (ad 0)), (1, .int x)] := hl
  have h00 : V 0 0 = nI n := hv.2.1
  have hn24 := hv.1
  refine lv_iload_n hx hb dX4_isPlace_0 rfl (lv_at hl 1 rfl) ?_
  refine lv_i2l (v := x.toInt64) hx hb dX4_isPlace_1 rfl ?_
  refine lv_lconst (v := 0) hx hb dX4_isPlace_2 (by decide) ?_
  refine lv_aload_n hx hb dX4_isPlace_3 rfl (lv_at hl 0 rfl) ?_
  refine gfl hx hb hg inX4 hown hK hP 0 (ci := 4) rfl rfl 0 (by decide) wd_551 rfl dX4_isPlace_4 ?_
  refine topv (nI n) h00 ?_
  refine lv_iconst (v := 1) hx hb dX4_isPlace_7 (by decide) ?_
  refine lv_isub hx hb dX4_isPlace_8 ?_
  refine lv_i2l (v := ((nI n) - 1).toInt64) hx hb dX4_isPlace_9 rfl ?_
  refine callR (runS hx hb hg hown hml hl.1 (c_X4_in l D k (x.toInt64) (0) (((nI n) - 1).toInt64)) [.long x.toInt64, .long 0, .long (((nI n) - 1).toInt64)] [] (preR (mapSome_sub hP [] rfl) hK hN xb0 x0) wd_668 wd_669 wd_53 wd_670 lk_X4_in ⟨rfl, rfl⟩ ⟨by decide, by decide⟩ ⟨Nat.zero_le _, Nat.zero_le _⟩ rfl (Nat.le_of_ble_eq_true rfl) dX4_isPlace_10) (fun r_10 q_10 => ?_)
  obtain rfl := q_10
  exact retRZ (v := zI (inB x.toInt64 0 (((nI n) - 1).toInt64))) hx hb hr hlocks hH (zI_nar _) dX4_isPlace_13 (⟨_, rfl, inB_rgt (by omega) (by decide) (by rw [l_ti]; exact pk_sub_toInt (a := n) (b := 1) (by omega) (by omega))⟩)
abbrev rmX4_isRegister : Room := { frames := 1, cells := 0, slots := 0, locals := 25 }
theorem lk_X4_isRegister : Lk yX4_isRegister 1 := by decide +kernel
set_option maxHeartbeats 4000000 in
set_option maxRecDepth 100000 in
/-- isRegister(r) -/
theorem c_X4_isRegister (l : Launch) (D : va_G) (k : Nat → ClassId) (x : Int32) : CtR noX l yX4_isRegister cX4_isRegister 1 (some .boolean) rmX4_isRegister D (tyL k) ([]) [.int x] (fun r => ∃ b : Bool, r = zI b ∧ (b = true ↔ rgt x 8)) := by
  refine CtR.mk (by decide) (Nat.le_of_ble_eq_true rfl) ?_
  intro p e s m below meth c hx hb hml hown hg hr hlocks hK hN hX H hH hP ls hl
  have hl : lv_has ls 1 [(0, .int x)] := hl
  refine lv_iload_n hx hb dX4_isRegister_0 rfl (lv_at hl 0 rfl) ?_
  refine lv_i2l (v := x.toInt64) hx hb dX4_isRegister_1 rfl ?_
  refine lv_lconst (v := 0) hx hb dX4_isRegister_2 (by decide) ?_
  refine lv_ldc2 (v := 7) hx hb hown (hg _ wd_667) dX4_isRegister_3 ?_
  refine callR (runS hx hb hg hown hml hl.1 (c_X4_in l D k (x.toInt64) (0) (7)) [.long x.toInt64, .long 0, .long 7] [] (preR (mapSome_sub hP [] rfl) hK hN xb0 x0) wd_668 wd_669 wd_53 wd_670 lk_X4_in ⟨rfl, rfl⟩ ⟨by decide, by decide⟩ ⟨Nat.zero_le _, Nat.zero_le _⟩ rfl (Nat.le_of_ble_eq_true rfl) dX4_isRegister_6) (fun r_6 q_6 => ?_)
  obtain rfl := q_6
  exact retRZ (v := zI (inB x.toInt64 0 7)) hx hb hr hlocks hH (zI_nar _) dX4_isRegister_9 (⟨_, rfl, inB_rgt (by decide) (by decide) (by decide)⟩)
abbrev rmX4_write : Room := { frames := 0, cells := 0, slots := 0, locals := 0 }
theorem lk_X4_write : Lk yX4_write 5 := by decide +kernel
set_option maxHeartbeats 4000000 in
set_option maxRecDepth 100000 in
/-- write(p, kind, a, b, c) -/
theorem c_X4_write (l : Launch) (D : va_G) (k : Nat → ClassId) (ad : Nat → Nat) (V : St) {q : Nat} (hq : q < 24) (x1 x2 x3 x4 : Int32) : CtX noX l yX4_write cX4_write 6 none rmX4_write D (tyL k) (wQ k ad V) [.ref (ad 0), .int (nI q), .int x1, .int x2, .int x3, .int x4] (qV D (wQ k ad) (fun U => U = va_up (va_up (va_up (va_up (va_up V 0 (upd (V 0) 22 0)) 1 (upd (V 1) q x1)) 2 (upd (V 2) q x2)) 3 (upd (V 3) q x3)) 4 (upd (V 4) q x4))) := by
  refine CtX.mk (by decide) (Nat.le_of_ble_eq_true rfl) ?_
  intro p e s m below meth c hx hb hml hown hg hr hlocks hK hN A hA hX hh ls hl
  have hh : Hd D A (wQ k ad V) s.heap s.heap [] := hh
  have hl : lv_has ls 6 [(0, .ref (ad 0)), (1, .int (nI q)), (2, .int x1), (3, .int x2), (4, .int x3), (5, .int x4)] := hl
  refine lv_aload_n hx hb dX4_write_0 rfl (lv_at hl 0 rfl) ?_
  refine lv_iconst (v := 0) hx hb dX4_write_1 (by decide) ?_
  refine pfl hx hb hg inX4 tyX4 tyX4_ok nmX4 hown hK hh 0 (ci := 4) rfl rfl 22 (by decide) wd_573 rfl rfl rfl (Nat.le_of_ble_eq_true rfl) dX4_write_2 (wQ k ad (va_up V 0 (upd (V 0) 22 0))) rfl (fun H locs hh => ?_)
  refine lv_aload_n hx hb dX4_write_5 rfl (lv_at hl 0 rfl) ?_
  refine gfl hx hb hg inX4 hown hK hh.1 0 (ci := 4) rfl rfl 1 (by decide) wd_552 rfl dX4_write_6 ?_
  refine lv_iload_n hx hb dX4_write_9 rfl (lv_at hl 1 rfl) ?_
  refine lv_iload_n hx hb dX4_write_10 rfl (lv_at hl 2 rfl) ?_
  refine stn (j := q) hx hb hK hh 1 0 rfl rfl (by omega) (by decide) dX4_write_11 (wQ k ad (va_up (va_up V 0 (upd (V 0) 22 0)) 1 (upd (V 1) q x1))) rfl (fun H locs hh => ?_)
  refine lv_aload_n hx hb dX4_write_12 rfl (lv_at hl 0 rfl) ?_
  refine gfl hx hb hg inX4 hown hK hh.1 0 (ci := 4) rfl rfl 2 (by decide) wd_553 rfl dX4_write_13 ?_
  refine lv_iload_n hx hb dX4_write_16 rfl (lv_at hl 1 rfl) ?_
  refine lv_iload_n hx hb dX4_write_17 rfl (lv_at hl 3 rfl) ?_
  refine stn (j := q) hx hb hK hh 2 0 rfl rfl (by omega) (by decide) dX4_write_18 (wQ k ad (va_up (va_up (va_up V 0 (upd (V 0) 22 0)) 1 (upd (V 1) q x1)) 2 (upd (V 2) q x2))) rfl (fun H locs hh => ?_)
  refine lv_aload_n hx hb dX4_write_19 rfl (lv_at hl 0 rfl) ?_
  refine gfl hx hb hg inX4 hown hK hh.1 0 (ci := 4) rfl rfl 3 (by decide) wd_554 rfl dX4_write_20 ?_
  refine lv_iload_n hx hb dX4_write_23 rfl (lv_at hl 1 rfl) ?_
  refine lv_iload hx hb dX4_write_24 (lv_at hl 4 rfl) ?_
  refine stn (j := q) hx hb hK hh 3 0 rfl rfl (by omega) (by decide) dX4_write_26 (wQ k ad (va_up (va_up (va_up (va_up V 0 (upd (V 0) 22 0)) 1 (upd (V 1) q x1)) 2 (upd (V 2) q x2)) 3 (upd (V 3) q x3))) rfl (fun H locs hh => ?_)
  refine lv_aload_n hx hb dX4_write_27 rfl (lv_at hl 0 rfl) ?_
  refine gfl hx hb hg inX4 hown hK hh.1 0 (ci := 4) rfl rfl 4 (by decide) wd_555 rfl dX4_write_28 ?_
  refine lv_iload_n hx hb dX4_write_31 rfl (lv_at hl 1 rfl) ?_
  refine lv_iload hx hb dX4_write_32 (lv_at hl 5 rfl) ?_
  refine stn (j := q) hx hb hK hh 4 0 rfl rfl (by omega) (by decide) dX4_write_34 (wQ k ad (va_up (va_up (va_up (va_up (va_up V 0 (upd (V 0) 22 0)) 1 (upd (V 1) q x1)) 2 (upd (V 2) q x2)) 3 (upd (V 3) q x3)) 4 (upd (V 4) q x4))) rfl (fun H locs hh => ?_)
  exact retV (Wd := wQ k ad) (va_up (va_up (va_up (va_up (va_up V 0 (upd (V 0) 22 0)) 1 (upd (V 1) q x1)) 2 (upd (V 2) q x2)) 3 (upd (V 3) q x3)) 4 (upd (V 4) q x4)) hx hb hr hlocks dX4_write_35 hh (rfl)
abbrev rmX4_place : Room := { frames := 0, cells := 0, slots := 0, locals := 0 }
theorem lk_X4_place : Lk yX4_place 1 := by decide +kernel
set_option maxHeartbeats 4000000 in
set_option maxRecDepth 100000 in
/-- place(p) -/
theorem c_X4_place (l : Launch) (D : va_G) (k : Nat → ClassId) (ad : Nat → Nat) (V : St) {n : Nat} (hv : okV n (pq V)) {q : Nat} (hq : q < 2 ^ 31) : CtR noX l yX4_place cX4_place 2 (some .int) rmX4_place D (tyL k) (wQ k ad V) [.ref (ad 0), .int (nI q)] (fun r => r = plI n q) := by
  refine CtR.mk (by decide) (Nat.le_of_ble_eq_true rfl) ?_
  intro p e s m below meth c hx hb hml hown hg hr hlocks hK hN hX H hH hP ls hl
  have hl : lv_has ls 2 [(0, .ref (ad 0)), (1, .int (nI q))] := hl
  have h00 : V 0 0 = nI n := hv.2.1
  have hn24 := hv.1
  refine lv_iload_n hx hb dX4_place_0 rfl (lv_at hl 1 rfl) ?_
  refine lv_aload_n hx hb dX4_place_1 rfl (lv_at hl 0 rfl) ?_
  refine gfl hx hb hg inX4 hown hK hP 0 (ci := 4) rfl rfl 0 (by decide) wd_551 rfl dX4_place_2 ?_
  refine topv (nI n) h00 ?_
  refine lv_icmp_ge (tgt := 14) hx hb dX4_place_5 (by decide) (fun c_5 => ?_) (fun c_5 => ?_)
  · have c_5 : n ≤ q := (nI_leI (a := n) (b := q) (by omega) (by omega)).mp c_5
    refine lv_ldc (v := 16777216) hx hb hown (hg _ wd_722) dX4_place_14 ?_
    refine topv (bitI 24) (by decide) ?_
    exact retRI (v := bitI 24) hx hb hr hlocks hH dX4_place_16 (by unfold plI; first | rw [if_pos (by omega)] | rw [if_neg (by omega)])
  · have c_5 : ¬ n ≤ q := fun z => c_5 ((nI_leI (a := n) (b := q) (by omega) (by omega)).mpr z)
    refine lv_iconst (v := 1) hx hb dX4_place_8 (by decide) ?_
    refine lv_iload_n hx hb dX4_place_9 rfl (lv_at hl 1 rfl) ?_
    refine lv_ishl hx hb dX4_place_10 ?_
    refine topv (bitI q) rfl ?_
    refine lv_goto (tgt := 16) hx hb dX4_place_11 (by decide) ?_
    exact retRI (v := bitI q) hx hb hr hlocks hH dX4_place_16 (by unfold plI; first | rw [if_pos (by omega)] | rw [if_neg (by omega)])
abbrev rmX4_canFail : Room := { frames := 0, cells := 0, slots := 0, locals := 0 }
theorem lk_X4_canFail : Lk yX4_canFail 1 := by decide +kernel
set_option maxHeartbeats 4000000 in
set_option maxRecDepth 100000 in
/-- canFail(p) -/
theorem c_X4_canFail (l : Launch) (D : va_G) (k : Nat → ClassId) (ad : Nat → Nat) (V : St) {n : Nat} (hv : okV n (pq V)) {q : Nat} (hq : q < 24) : CtR noX l yX4_canFail cX4_canFail 2 (some .boolean) rmX4_canFail D (tyL k) (wQ k ad V) [.ref (ad 0), .int (nI q)] (fun r => ∃ b : Bool, r = zI b ∧ (b = true ↔ (kd (pq V) q = 6 ∨ fgB (pq V) q = true))) := by
  refine CtR.mk (by decide) (Nat.le_of_ble_eq_true rfl) ?_
  intro p e s m below meth c hx hb hml hown hg hr hlocks hK hN hX H hH hP ls hl
  have hl : lv_has ls 2 [(0, .ref (ad 0)), (1, .int (nI q))] := hl
  obtain ⟨j, hk, hj, hlA, hlB, hlC⟩ := hv.2.2.1 q hq
  have hk : V 1 q = nI j := hk
  have hlA : lim (LA.getD j 0) (V 2 q) := hlA
  have hlB : lim (LB.getD j 0) (V 3 q) := hlB
  have hlC : lim (LC.getD j 0) (V 4 q) := hlC
  have hkd : kd (pq V) q = j := kd_of hk hj
  refine lv_aload_n hx hb dX4_canFail_0 rfl (lv_at hl 0 rfl) ?_
  refine gfl hx hb hg inX4 hown hK hP 0 (ci := 4) rfl rfl 1 (by decide) wd_552 rfl dX4_canFail_1 ?_
  refine lv_iload_n hx hb dX4_canFail_4 rfl (lv_at hl 1 rfl) ?_
  refine ldn hx hb hK hP 1 0 rfl rfl (by omega) (by decide) dX4_canFail_5 ?_
  refine topv (nI j) hk ?_
  refine lv_bipush (v := 6) hx hb dX4_canFail_6 (by decide) ?_
  refine lv_icmp_eq (tgt := 47) hx hb dX4_canFail_8 (by decide) (fun c_8 => ?_) (fun c_8 => ?_)
  · have c_8 : j = 6 := (nI_eq (a := j) (b := 6) (by omega) (by omega)).mp c_8
    refine lv_iconst (v := 1) hx hb dX4_canFail_47 (by decide) ?_
    refine lv_goto (tgt := 52) hx hb dX4_canFail_48 (by decide) ?_
    exact retRZ (v := 1) hx hb hr hlocks hH rfl dX4_canFail_52 (⟨true, rfl, fun _ => Or.inl (hkd.trans c_8), fun _ => rfl⟩)
  · have c_8 : ¬ j = 6 := fun z => c_8 ((nI_eq (a := j) (b := 6) (by omega) (by omega)).mpr z)
    refine lv_aload_n hx hb dX4_canFail_11 rfl (lv_at hl 0 rfl) ?_
    refine gfl hx hb hg inX4 hown hK hP 0 (ci := 4) rfl rfl 1 (by decide) wd_552 rfl dX4_canFail_12 ?_
    refine lv_iload_n hx hb dX4_canFail_15 rfl (lv_at hl 1 rfl) ?_
    refine ldn hx hb hK hP 1 0 rfl rfl (by omega) (by decide) dX4_canFail_16 ?_
    refine topv (nI j) hk ?_
    refine lv_bipush (v := 9) hx hb dX4_canFail_17 (by decide) ?_
    refine lv_icmp_eq (tgt := 33) hx hb dX4_canFail_19 (by decide) (fun c_19 => ?_) (fun c_19 => ?_)
    · have c_19 : j = 9 := (nI_eq (a := j) (b := 9) (by omega) (by omega)).mp c_19
      refine lv_aload_n hx hb dX4_canFail_33 rfl (lv_at hl 0 rfl) ?_
      refine gfl hx hb hg inX4 hown hK hP 0 (ci := 4) rfl rfl 7 (by decide) wd_558 rfl dX4_canFail_34 ?_
      refine lv_aload_n hx hb dX4_canFail_37 rfl (lv_at hl 0 rfl) ?_
      refine gfl hx hb hg inX4 hown hK hP 0 (ci := 4) rfl rfl 3 (by decide) wd_554 rfl dX4_canFail_38 ?_
      refine lv_iload_n hx hb dX4_canFail_41 rfl (lv_at hl 1 rfl) ?_
      refine ldn hx hb hK hP 3 0 rfl rfl (by omega) (by decide) dX4_canFail_42 ?_
      refine ldzx hx hb hK hP 7 1 rfl rfl (vp_lim (n := 4) (by first | (rw [c_19] at hlB; exact hlB) | (rw [c_30] at hlB; exact hlB)) (by decide) (by decide)) dX4_canFail_43 ?_
      refine lv_if_eq (tgt := 51) hx hb dX4_canFail_44 (by decide) (fun c_44 => ?_) (fun c_44 => ?_)
      · have c_44 : pq V 6 (ix (pq V 3 q)) = 0 := c_44
        refine lv_iconst (v := 0) hx hb dX4_canFail_51 (by decide) ?_
        exact retRZ (v := 0) hx hb hr hlocks hH rfl dX4_canFail_52 (⟨false, rfl, fun z => (by cases z), fun z => by unfold fgB at z; rw [hkd] at z; simp [c_8, c_44] at z⟩)
      · have c_44 : ¬ pq V 6 (ix (pq V 3 q)) = 0 := c_44
        refine lv_iconst (v := 1) hx hb dX4_canFail_47 (by decide) ?_
        refine lv_goto (tgt := 52) hx hb dX4_canFail_48 (by decide) ?_
        exact retRZ (v := 1) hx hb hr hlocks hH rfl dX4_canFail_52 (⟨true, rfl, fun _ => Or.inr (by unfold fgB; rw [hkd]; simp [c_44, c_19]), fun _ => rfl⟩)
    · have c_19 : ¬ j = 9 := fun z => c_19 ((nI_eq (a := j) (b := 9) (by omega) (by omega)).mpr z)
      refine lv_aload_n hx hb dX4_canFail_22 rfl (lv_at hl 0 rfl) ?_
      refine gfl hx hb hg inX4 hown hK hP 0 (ci := 4) rfl rfl 1 (by decide) wd_552 rfl dX4_canFail_23 ?_
      refine lv_iload_n hx hb dX4_canFail_26 rfl (lv_at hl 1 rfl) ?_
      refine ldn hx hb hK hP 1 0 rfl rfl (by omega) (by decide) dX4_canFail_27 ?_
      refine topv (nI j) hk ?_
      refine lv_bipush (v := 10) hx hb dX4_canFail_28 (by decide) ?_
      refine lv_icmp_ne (tgt := 51) hx hb dX4_canFail_30 (by decide) (fun c_30 => ?_) (fun c_30 => ?_)
      · have c_30 : ¬ j = 10 := fun z => c_30 ((nI_eq (a := j) (b := 10) (by omega) (by omega)).mpr z)
        refine lv_iconst (v := 0) hx hb dX4_canFail_51 (by decide) ?_
        exact retRZ (v := 0) hx hb hr hlocks hH rfl dX4_canFail_52 (⟨false, rfl, fun z => (by cases z), fun z => by unfold fgB at z; rw [hkd] at z; simp [c_8, c_19, c_30] at z⟩)
      · have c_30 : j = 10 := (nI_eq (a := j) (b := 10) (by omega) (by omega)).mp c_30
        refine lv_aload_n hx hb dX4_canFail_33 rfl (lv_at hl 0 rfl) ?_
        refine gfl hx hb hg inX4 hown hK hP 0 (ci := 4) rfl rfl 7 (by decide) wd_558 rfl dX4_canFail_34 ?_
        refine lv_aload_n hx hb dX4_canFail_37 rfl (lv_at hl 0 rfl) ?_
        refine gfl hx hb hg inX4 hown hK hP 0 (ci := 4) rfl rfl 3 (by decide) wd_554 rfl dX4_canFail_38 ?_
        refine lv_iload_n hx hb dX4_canFail_41 rfl (lv_at hl 1 rfl) ?_
        refine ldn hx hb hK hP 3 0 rfl rfl (by omega) (by decide) dX4_canFail_42 ?_
        refine ldzx hx hb hK hP 7 1 rfl rfl (vp_lim (n := 4) (by first | (rw [c_19] at hlB; exact hlB) | (rw [c_30] at hlB; exact hlB)) (by decide) (by decide)) dX4_canFail_43 ?_
        refine lv_if_eq (tgt := 51) hx hb dX4_canFail_44 (by decide) (fun c_44 => ?_) (fun c_44 => ?_)
        · have c_44 : pq V 6 (ix (pq V 3 q)) = 0 := c_44
          refine lv_iconst (v := 0) hx hb dX4_canFail_51 (by decide) ?_
          exact retRZ (v := 0) hx hb hr hlocks hH rfl dX4_canFail_52 (⟨false, rfl, fun z => (by cases z), fun z => by unfold fgB at z; rw [hkd] at z; simp [c_8, c_44] at z⟩)
        · have c_44 : ¬ pq V 6 (ix (pq V 3 q)) = 0 := c_44
          refine lv_iconst (v := 1) hx hb dX4_canFail_47 (by decide) ?_
          refine lv_goto (tgt := 52) hx hb dX4_canFail_48 (by decide) ?_
          exact retRZ (v := 1) hx hb hr hlocks hH rfl dX4_canFail_52 (⟨true, rfl, fun _ => Or.inr (by unfold fgB; rw [hkd]; simp [c_44, c_30]), fun _ => rfl⟩)
