/-! holds; the class Program -/
abbrev rmX3_holds : Room := { frames := 0, cells := 0, slots := 0, locals := 0 }
theorem lk_X3_holds : Lk yX3_holds 2 := by decide +kernel
set_option maxHeartbeats 4000000 in
set_option maxRecDepth 100000 in
/-- holds(set, p) -/
theorem c_X3_holds (l : Launch) (D : va_G) (k : Nat → ClassId) (x : Int32) {q : Nat} (hq : q < 32) : CtR noX l yX3_holds cX3_holds 2 (some .boolean) rmX3_holds D (tyL k) ([]) [.int x, .int (nI q)] (fun r => r = zI (bt x q)) := by
  refine CtR.mk (by decide) (Nat.le_of_ble_eq_true rfl) ?_
  intro p e s m below meth c hx hb hml hown hg hr hlocks hK hN hX H hH hP ls hl
  have hl : lv_has ls 2 [(0, .int x), (1, .int (nI q))] := hl
  refine lv_iload_n hx hb dX3_holds_0 rfl (lv_at hl 0 rfl) ?_
  refine lv_iload_n hx hb dX3_holds_1 rfl (lv_at hl 1 rfl) ?_
  refine lv_iushr (v := (x.toUInt32 >>> ((nI q).toUInt32 &&& Int32.toUInt32 31)).toInt32) hx hb dX3_holds_2 rfl ?_
  refine lv_iconst (v := 1) hx hb dX3_holds_3 (by decide) ?_
  refine lv_iand hx hb dX3_holds_4 ?_
  refine lv_if_eq (tgt := 12) hx hb dX3_holds_5 (by decide) (fun c_5 => ?_) (fun c_5 => ?_)
  · refine lv_iconst (v := 0) hx hb dX3_holds_12 (by decide) ?_
    exact retRZ (v := 0) hx hb hr hlocks hH rfl dX3_holds_13 (by first | (rw [show bt x q = true by cases h : bt x q with | false => exact absurd ((tU x hq).mpr h) c_5 | true => rfl]; rfl) | (rw [(tU x hq).mp c_5]; rfl))
  · refine lv_iconst (v := 1) hx hb dX3_holds_8 (by decide) ?_
    refine lv_goto (tgt := 13) hx hb dX3_holds_9 (by decide) ?_
    exact retRZ (v := 1) hx hb hr hlocks hH rfl dX3_holds_13 (by first | (rw [show bt x q = true by cases h : bt x q with | false => exact absurd ((tU x hq).mpr h) c_5 | true => rfl]; rfl) | (rw [(tU x hq).mp c_5]; rfl))
abbrev rmX1_has : Room := { frames := 0, cells := 0, slots := 0, locals := 0 }
theorem lk_X1_has : Lk yX1_has 1 := by decide +kernel
set_option maxHeartbeats 4000000 in
set_option maxRecDepth 100000 in
/-- has(p) -/
theorem c_X1_has (l : Launch) (D : va_G) (k : Nat → ClassId) (ad : Nat → Nat) (V : St) (x : Int32) : CtR noX l yX1_has cX1_has 2 (some .boolean) rmX1_has D (tyL k) (wP k ad V) [.ref (ad 0), .int x] (fun r => r = zI (decide (0 ≤ x ∧ x < V 0 7))) := by
  refine CtR.mk (by decide) (Nat.le_of_ble_eq_true rfl) ?_
  intro p e s m below meth c hx hb hml hown hg hr hlocks hK hN hX H hH hP ls hl
  have hl : lv_has ls 2 [(0, .ref (ad 0)), (1, .int x)] := hl
  refine lv_iload_n hx hb dX1_has_0 rfl (lv_at hl 1 rfl) ?_
  refine lv_if_lt (tgt := 16) hx hb dX1_has_1 (by decide) (fun c_1 => ?_) (fun c_1 => ?_)
  · refine lv_iconst (v := 0) hx hb dX1_has_16 (by decide) ?_
    exact retRZ (v := 0) hx hb hr hlocks hH rfl dX1_has_17 (by first | (rw [decide_eq_true ⟨by rw [Int32.le_iff_toInt_le]; rw [Int32.lt_iff_toInt_lt] at c_1; exact Int.not_lt.mp c_1, by first | exact c_9 | (rw [Int32.lt_iff_toInt_lt]; rw [Int32.le_iff_toInt_le] at c_9; exact Int.not_le.mp c_9)⟩]; rfl) | (rw [decide_eq_false (fun z => absurd z.1 (by rw [Int32.le_iff_toInt_le]; rw [Int32.lt_iff_toInt_lt] at c_1; exact Int.not_le.mpr c_1))]; rfl) | (rw [decide_eq_false (fun z => absurd z.2 (by rw [Int32.lt_iff_toInt_lt]; rw [Int32.le_iff_toInt_le] at c_9; exact Int.not_lt.mpr c_9))]; rfl))
  · refine lv_iload_n hx hb dX1_has_4 rfl (lv_at hl 1 rfl) ?_
    refine lv_aload_n hx hb dX1_has_5 rfl (lv_at hl 0 rfl) ?_
    refine gfl hx hb hg inX1 hown hK hP 0 (ci := 1) rfl rfl 7 (by decide) wd_90 rfl dX1_has_6 ?_
    refine lv_icmp_ge (tgt := 16) hx hb dX1_has_9 (by decide) (fun c_9 => ?_) (fun c_9 => ?_)
    · refine lv_iconst (v := 0) hx hb dX1_has_16 (by decide) ?_
      exact retRZ (v := 0) hx hb hr hlocks hH rfl dX1_has_17 (by first | (rw [decide_eq_true ⟨by rw [Int32.le_iff_toInt_le]; rw [Int32.lt_iff_toInt_lt] at c_1; exact Int.not_lt.mp c_1, by first | exact c_9 | (rw [Int32.lt_iff_toInt_lt]; rw [Int32.le_iff_toInt_le] at c_9; exact Int.not_le.mp c_9)⟩]; rfl) | (rw [decide_eq_false (fun z => absurd z.1 (by rw [Int32.le_iff_toInt_le]; rw [Int32.lt_iff_toInt_lt] at c_1; exact Int.not_le.mpr c_1))]; rfl) | (rw [decide_eq_false (fun z => absurd z.2 (by rw [Int32.lt_iff_toInt_lt]; rw [Int32.le_iff_toInt_le] at c_9; exact Int.not_lt.mpr c_9))]; rfl))
    · refine lv_iconst (v := 1) hx hb dX1_has_12 (by decide) ?_
      refine lv_goto (tgt := 17) hx hb dX1_has_13 (by decide) ?_
      exact retRZ (v := 1) hx hb hr hlocks hH rfl dX1_has_17 (by first | (rw [decide_eq_true ⟨by rw [Int32.le_iff_toInt_le]; rw [Int32.lt_iff_toInt_lt] at c_1; exact Int.not_lt.mp c_1, by first | exact c_9 | (rw [Int32.lt_iff_toInt_lt]; rw [Int32.le_iff_toInt_le] at c_9; exact Int.not_le.mp c_9)⟩]; rfl) | (rw [decide_eq_false (fun z => absurd z.1 (by rw [Int32.le_iff_toInt_le]; rw [Int32.lt_iff_toInt_lt] at c_1; exact Int.not_le.mpr c_1))]; rfl) | (rw [decide_eq_false (fun z => absurd z.2 (by rw [Int32.lt_iff_toInt_lt]; rw [Int32.le_iff_toInt_le] at c_9; exact Int.not_lt.mpr c_9))]; rfl))
abbrev rmX1_all : Room := { frames := 0, cells := 0, slots := 0, locals := 0 }
theorem lk_X1_all : Lk yX1_all 0 := by decide +kernel
set_option maxHeartbeats 4000000 in
set_option maxRecDepth 100000 in
/-- all() -/
theorem c_X1_all (l : Launch) (D : va_G) (k : Nat → ClassId) (ad : Nat → Nat) (V : St) {n : Nat} (hv : okV n V) : CtR noX l yX1_all cX1_all 1 (some .int) rmX1_all D (tyL k) (wP k ad V) [.ref (ad 0)] (fun r => r = bitI n - 1) := by
  refine CtR.mk (by decide) (Nat.le_of_ble_eq_true rfl) ?_
  intro p e s m below meth c hx hb hml hown hg hr hlocks hK hN hX H hH hP ls hl
  have hl : lv_has ls 1 [(0, .ref (ad 0))] := hl
  refine lv_iconst (v := 1) hx hb dX1_all_0 (by decide) ?_
  refine lv_aload_n hx hb dX1_all_1 rfl (lv_at hl 0 rfl) ?_
  refine gfl hx hb hg inX1 hown hK hP 0 (ci := 1) rfl rfl 7 (by decide) wd_90 rfl dX1_all_2 ?_
  refine topv (nI n) hv.2.1 ?_
  refine lv_ishl hx hb dX1_all_5 ?_
  refine topv (bitI n) rfl ?_
  refine lv_iconst (v := 1) hx hb dX1_all_6 (by decide) ?_
  refine lv_isub hx hb dX1_all_7 ?_
  exact retRI (v := (bitI n) - 1) hx hb hr hlocks hH dX1_all_8 (rfl)
abbrev rmX1_write : Room := { frames := 0, cells := 0, slots := 0, locals := 0 }
theorem lk_X1_write : Lk yX1_write 5 := by decide +kernel
set_option maxHeartbeats 4000000 in
set_option maxRecDepth 100000 in
/-- write(p, kind, a, b, c) -/
theorem c_X1_write (l : Launch) (D : va_G) (k : Nat → ClassId) (ad : Nat → Nat) (V : St) {q : Nat} (hq : q < 24) (x1 x2 x3 x4 : Int32) : CtX noX l yX1_write cX1_write 6 none rmX1_write D (tyL k) (wP k ad V) [.ref (ad 0), .int (nI q), .int x1, .int x2, .int x3, .int x4] (qV D (wP k ad) (fun V' => V' = va_up (va_up (va_up (va_up V 1 (upd (V 1) q x1)) 2 (upd (V 2) q x2)) 3 (upd (V 3) q x3)) 4 (upd (V 4) q x4))) := by
  refine CtX.mk (by decide) (Nat.le_of_ble_eq_true rfl) ?_
  intro p e s m below meth c hx hb hml hown hg hr hlocks hK hN A hA hX hh ls hl
  have hh : Hd D A (wP k ad V) s.heap s.heap [] := hh
  have hl : lv_has ls 6 [(0, .ref (ad 0)), (1, .int (nI q)), (2, .int x1), (3, .int x2), (4, .int x3), (5, .int x4)] := hl
  refine lv_aload_n hx hb dX1_write_0 rfl (lv_at hl 0 rfl) ?_
  refine gfl hx hb hg inX1 hown hK hh.1 0 (ci := 1) rfl rfl 0 (by decide) wd_70 rfl dX1_write_1 ?_
  refine lv_iload_n hx hb dX1_write_4 rfl (lv_at hl 1 rfl) ?_
  refine lv_iload_n hx hb dX1_write_5 rfl (lv_at hl 2 rfl) ?_
  refine stn (j := q) hx hb hK hh 1 0 rfl rfl (by omega) (by decide) dX1_write_6 (wP k ad (va_up V 1 (upd (V 1) q x1))) rfl (fun H locs hh => ?_)
  refine lv_aload_n hx hb dX1_write_7 rfl (lv_at hl 0 rfl) ?_
  refine gfl hx hb hg inX1 hown hK hh.1 0 (ci := 1) rfl rfl 1 (by decide) wd_74 rfl dX1_write_8 ?_
  refine lv_iload_n hx hb dX1_write_11 rfl (lv_at hl 1 rfl) ?_
  refine lv_iload_n hx hb dX1_write_12 rfl (lv_at hl 3 rfl) ?_
  refine stn (j := q) hx hb hK hh 2 0 rfl rfl (by omega) (by decide) dX1_write_13 (wP k ad (va_up (va_up V 1 (upd (V 1) q x1)) 2 (upd (V 2) q x2))) rfl (fun H locs hh => ?_)
  refine lv_aload_n hx hb dX1_write_14 rfl (lv_at hl 0 rfl) ?_
  refine gfl hx hb hg inX1 hown hK hh.1 0 (ci := 1) rfl rfl 2 (by decide) wd_76 rfl dX1_write_15 ?_
  refine lv_iload_n hx hb dX1_write_18 rfl (lv_at hl 1 rfl) ?_
  refine lv_iload hx hb dX1_write_19 (lv_at hl 4 rfl) ?_
  refine stn (j := q) hx hb hK hh 3 0 rfl rfl (by omega) (by decide) dX1_write_21 (wP k ad (va_up (va_up (va_up V 1 (upd (V 1) q x1)) 2 (upd (V 2) q x2)) 3 (upd (V 3) q x3))) rfl (fun H locs hh => ?_)
  refine lv_aload_n hx hb dX1_write_22 rfl (lv_at hl 0 rfl) ?_
  refine gfl hx hb hg inX1 hown hK hh.1 0 (ci := 1) rfl rfl 3 (by decide) wd_78 rfl dX1_write_23 ?_
  refine lv_iload_n hx hb dX1_write_26 rfl (lv_at hl 1 rfl) ?_
  refine lv_iload hx hb dX1_write_27 (lv_at hl 5 rfl) ?_
  refine stn (j := q) hx hb hK hh 4 0 rfl rfl (by omega) (by decide) dX1_write_29 (wP k ad (va_up (va_up (va_up (va_up V 1 (upd (V 1) q x1)) 2 (upd (V 2) q x2)) 3 (upd (V 3) q x3)) 4 (upd (V 4) q x4))) rfl (fun H locs hh => ?_)
  exact retV (Wd := wP k ad) (va_up (va_up (va_up (va_up V 1 (upd (V 1) q x1)) 2 (upd (V 2) q x2)) 3 (upd (V 3) q x3)) 4 (upd (V 4) q x4)) hx hb hr hlocks dX1_write_30 hh (rfl)
abbrev rmX1_registerBit : Room := { frames := 0, cells := 0, slots := 0, locals := 0 }
theorem lk_X1_registerBit : Lk yX1_registerBit 1 := by decide +kernel
set_option maxHeartbeats 4000000 in
set_option maxRecDepth 100000 in
/-- registerBit(x) -/
theorem c_X1_registerBit (l : Launch) (D : va_G) (k : Nat → ClassId) {q : Nat} : CtR noX l yX1_registerBit cX1_registerBit 1 (some .int) rmX1_registerBit D (tyL k) ([]) [.int (nI q)] (fun r => r = bitI q) := by
  refine CtR.mk (by decide) (Nat.le_of_ble_eq_true rfl) ?_
  intro p e s m below meth c hx hb hml hown hg hr hlocks hK hN hX H hH hP ls hl
  have hl : lv_has ls 1 [(0, .int (nI q))] := hl
  refine lv_iconst (v := 1) hx hb dX1_registerBit_0 (by decide) ?_
  refine lv_iload_n hx hb dX1_registerBit_1 rfl (lv_at hl 0 rfl) ?_
  refine lv_ishl hx hb dX1_registerBit_2 ?_
  refine topv (bitI q) rfl ?_
  exact retRI (v := bitI q) hx hb hr hlocks hH dX1_registerBit_3 (rfl)
abbrev rmX1_globalBit : Room := { frames := 0, cells := 0, slots := 0, locals := 0 }
theorem lk_X1_globalBit : Lk yX1_globalBit 1 := by decide +kernel
set_option maxHeartbeats 4000000 in
set_option maxRecDepth 100000 in
/-- globalBit(x) -/
theorem c_X1_globalBit (l : Launch) (D : va_G) (k : Nat → ClassId) {q : Nat} : CtR noX l yX1_globalBit cX1_globalBit 1 (some .int) rmX1_globalBit D (tyL k) ([]) [.int (nI q)] (fun r => r = bitI (8 + q)) := by
  refine CtR.mk (by decide) (Nat.le_of_ble_eq_true rfl) ?_
  intro p e s m below meth c hx hb hml hown hg hr hlocks hK hN hX H hH hP ls hl
  have hl : lv_has ls 1 [(0, .int (nI q))] := hl
  refine lv_iconst (v := 1) hx hb dX1_globalBit_0 (by decide) ?_
  refine lv_bipush (v := 8) hx hb dX1_globalBit_1 (by decide) ?_
  refine lv_iload_n hx hb dX1_globalBit_3 rfl (lv_at hl 0 rfl) ?_
  refine lv_iadd hx hb dX1_globalBit_4 ?_
  refine topv (nI (8 + q)) (nI_add 8 q) ?_
  refine lv_ishl hx hb dX1_globalBit_5 ?_
  refine topv (bitI (8 + q)) rfl ?_
  exact retRI (v := bitI (8 + q)) hx hb hr hlocks hH dX1_globalBit_6 (rfl)
abbrev rmX1_bitOf : Room := { frames := 0, cells := 0, slots := 0, locals := 0 }
theorem lk_X1_bitOf : Lk yX1_bitOf 1 := by decide +kernel
set_option maxHeartbeats 4000000 in
set_option maxRecDepth 100000 in
/-- bitOf(to) -/
theorem c_X1_bitOf (l : Launch) (D : va_G) (k : Nat → ClassId) (ad : Nat → Nat) (V : St) {n : Nat} (hv : okV n V) {q : Nat} (hq : q < 2 ^ 31) : CtR noX l yX1_bitOf cX1_bitOf 2 (some .int) rmX1_bitOf D (tyL k) (wP k ad V) [.ref (ad 0), .int (nI q)] (fun r => r = plI n q) := by
  refine CtR.mk (by decide) (Nat.le_of_ble_eq_true rfl) ?_
  intro p e s m below meth c hx hb hml hown hg hr hlocks hK hN hX H hH hP ls hl
  have hl : lv_has ls 2 [(0, .ref (ad 0)), (1, .int (nI q))] := hl
  have hn24 := hv.1
  refine lv_iconst (v := 1) hx hb dX1_bitOf_0 (by decide) ?_
  refine lv_iload_n hx hb dX1_bitOf_1 rfl (lv_at hl 1 rfl) ?_
  refine lv_aload_n hx hb dX1_bitOf_2 rfl (lv_at hl 0 rfl) ?_
  refine gfl hx hb hg inX1 hown hK hP 0 (ci := 1) rfl rfl 7 (by decide) wd_90 rfl dX1_bitOf_3 ?_
  refine topv (nI n) hv.2.1 ?_
  refine lv_icmp_ge (tgt := 13) hx hb dX1_bitOf_6 (by decide) (fun c_6 => ?_) (fun c_6 => ?_)
  · have c_6 : n ≤ q := (nI_leI (a := n) (b := q) (by omega) (by omega)).mp c_6
    refine lv_bipush (v := 24) hx hb dX1_bitOf_13 (by decide) ?_
    refine lv_ishl hx hb dX1_bitOf_15 ?_
    refine topv (bitI 24) rfl ?_
    exact retRI (v := bitI 24) hx hb hr hlocks hH dX1_bitOf_16 (by unfold plI; first | rw [if_pos (by omega)] | rw [if_neg (by omega)])
  · have c_6 : ¬ n ≤ q := fun z => c_6 ((nI_leI (a := n) (b := q) (by omega) (by omega)).mpr z)
    refine lv_iload_n hx hb dX1_bitOf_9 rfl (lv_at hl 1 rfl) ?_
    refine lv_goto (tgt := 15) hx hb dX1_bitOf_10 (by decide) ?_
    refine lv_ishl hx hb dX1_bitOf_15 ?_
    refine topv (bitI q) rfl ?_
    exact retRI (v := bitI q) hx hb hr hlocks hH dX1_bitOf_16 (by unfold plI; first | rw [if_pos (by omega)] | rw [if_neg (by omega)])
abbrev rmX1_isOfFailingGlobal : Room := { frames := 0, cells := 0, slots := 0, locals := 0 }
theorem lk_X1_isOfFailingGlobal : Lk yX1_isOfFailingGlobal 1 := by decide +kernel
set_option maxHeartbeats 4000000 in
set_option maxRecDepth 100000 in
/-- isOfFailingGlobal(p) -/
theorem c_X1_isOfFailingGlobal (l : Launch) (D : va_G) (k : Nat → ClassId) (ad : Nat → Nat) (V : St) {n : Nat} (hv : okV n V) {q : Nat} (hq : q < 24) : CtR noX l yX1_isOfFailingGlobal cX1_isOfFailingGlobal 2 (some .boolean) rmX1_isOfFailingGlobal D (tyL k) (wP k ad V) [.ref (ad 0), .int (nI q)] (fun r => r = zI (fgB V q)) := by
  refine CtR.mk (by decide) (Nat.le_of_ble_eq_true rfl) ?_
  intro p e s m below meth c hx hb hml hown hg hr hlocks hK hN hX H hH hP ls hl
  have hl : lv_has ls 2 [(0, .ref (ad 0)), (1, .int (nI q))] := hl
  obtain ⟨j, hk, hj, hlA, hlB, hlC⟩ := hv.2.2.1 q hq
  refine lv_aload_n hx hb dX1_isOfFailingGlobal_0 rfl (lv_at hl 0 rfl) ?_
  refine gfl hx hb hg inX1 hown hK hP 0 (ci := 1) rfl rfl 0 (by decide) wd_70 rfl dX1_isOfFailingGlobal_1 ?_
  refine lv_iload_n hx hb dX1_isOfFailingGlobal_4 rfl (lv_at hl 1 rfl) ?_
  refine ldn hx hb hK hP 1 0 rfl rfl (by omega) (by decide) dX1_isOfFailingGlobal_5 ?_
  refine topv (nI j) hk ?_
  refine lv_bipush (v := 9) hx hb dX1_isOfFailingGlobal_6 (by decide) ?_
  refine lv_icmp_eq (tgt := 22) hx hb dX1_isOfFailingGlobal_8 (by decide) (fun c_8 => ?_) (fun c_8 => ?_)
  · have c_8 : j = 9 := (nI_eq (a := j) (b := 9) (by omega) (by omega)).mp c_8
    refine lv_aload_n hx hb dX1_isOfFailingGlobal_22 rfl (lv_at hl 0 rfl) ?_
    refine gfl hx hb hg inX1 hown hK hP 0 (ci := 1) rfl rfl 5 (by decide) wd_83 rfl dX1_isOfFailingGlobal_23 ?_
    refine lv_aload_n hx hb dX1_isOfFailingGlobal_26 rfl (lv_at hl 0 rfl) ?_
    refine gfl hx hb hg inX1 hown hK hP 0 (ci := 1) rfl rfl 2 (by decide) wd_76 rfl dX1_isOfFailingGlobal_27 ?_
    refine lv_iload_n hx hb dX1_isOfFailingGlobal_30 rfl (lv_at hl 1 rfl) ?_
    refine ldn hx hb hK hP 3 0 rfl rfl (by omega) (by decide) dX1_isOfFailingGlobal_31 ?_
    refine ldzx hx hb hK hP 6 1 rfl rfl (vp_lim (n := 4) (by first | (rw [c_8] at hlB; exact hlB) | (rw [c_19] at hlB; exact hlB)) (by decide) (by decide)) dX1_isOfFailingGlobal_32 ?_
    refine lv_if_eq (tgt := 40) hx hb dX1_isOfFailingGlobal_33 (by decide) (fun c_33 => ?_) (fun c_33 => ?_)
    · have c_33 : V 6 (ix (V 3 q)) = 0 := c_33
      refine lv_iconst (v := 0) hx hb dX1_isOfFailingGlobal_40 (by decide) ?_
      exact retRZ (v := 0) hx hb hr hlocks hH rfl dX1_isOfFailingGlobal_41 (by unfold fgB; rw [kd_of hk hj]; first | (simp [c_8, c_33, zI]; done) | (simp [c_19, c_33, zI]; done) | (simp [c_8, c_19, zI]; done))
    · have c_33 : ¬ V 6 (ix (V 3 q)) = 0 := c_33
      refine lv_iconst (v := 1) hx hb dX1_isOfFailingGlobal_36 (by decide) ?_
      refine lv_goto (tgt := 41) hx hb dX1_isOfFailingGlobal_37 (by decide) ?_
      exact retRZ (v := 1) hx hb hr hlocks hH rfl dX1_isOfFailingGlobal_41 (by unfold fgB; rw [kd_of hk hj]; first | (simp [c_8, c_33, zI]; done) | (simp [c_19, c_33, zI]; done) | (simp [c_8, c_19, zI]; done))
  · have c_8 : ¬ j = 9 := fun z => c_8 ((nI_eq (a := j) (b := 9) (by omega) (by omega)).mpr z)
    refine lv_aload_n hx hb dX1_isOfFailingGlobal_11 rfl (lv_at hl 0 rfl) ?_
    refine gfl hx hb hg inX1 hown hK hP 0 (ci := 1) rfl rfl 0 (by decide) wd_70 rfl dX1_isOfFailingGlobal_12 ?_
    refine lv_iload_n hx hb dX1_isOfFailingGlobal_15 rfl (lv_at hl 1 rfl) ?_
    refine ldn hx hb hK hP 1 0 rfl rfl (by omega) (by decide) dX1_isOfFailingGlobal_16 ?_
    refine topv (nI j) hk ?_
    refine lv_bipush (v := 10) hx hb dX1_isOfFailingGlobal_17 (by decide) ?_
    refine lv_icmp_ne (tgt := 40) hx hb dX1_isOfFailingGlobal_19 (by decide) (fun c_19 => ?_) (fun c_19 => ?_)
    · have c_19 : ¬ j = 10 := fun z => c_19 ((nI_eq (a := j) (b := 10) (by omega) (by omega)).mpr z)
      have c_19 : ¬ j = 10 := c_19
      refine lv_iconst (v := 0) hx hb dX1_isOfFailingGlobal_40 (by decide) ?_
      exact retRZ (v := 0) hx hb hr hlocks hH rfl dX1_isOfFailingGlobal_41 (by unfold fgB; rw [kd_of hk hj]; first | (simp [c_8, c_33, zI]; done) | (simp [c_19, c_33, zI]; done) | (simp [c_8, c_19, zI]; done))
    · have c_19 : j = 10 := (nI_eq (a := j) (b := 10) (by omega) (by omega)).mp c_19
      refine lv_aload_n hx hb dX1_isOfFailingGlobal_22 rfl (lv_at hl 0 rfl) ?_
      refine gfl hx hb hg inX1 hown hK hP 0 (ci := 1) rfl rfl 5 (by decide) wd_83 rfl dX1_isOfFailingGlobal_23 ?_
      refine lv_aload_n hx hb dX1_isOfFailingGlobal_26 rfl (lv_at hl 0 rfl) ?_
      refine gfl hx hb hg inX1 hown hK hP 0 (ci := 1) rfl rfl 2 (by decide) wd_76 rfl dX1_isOfFailingGlobal_27 ?_
      refine lv_iload_n hx hb dX1_isOfFailingGlobal_30 rfl (lv_at hl 1 rfl) ?_
      refine ldn hx hb hK hP 3 0 rfl rfl (by omega) (by decide) dX1_isOfFailingGlobal_31 ?_
      refine ldzx hx hb hK hP 6 1 rfl rfl (vp_lim (n := 4) (by first | (rw [c_8] at hlB; exact hlB) | (rw [c_19] at hlB; exact hlB)) (by decide) (by decide)) dX1_isOfFailingGlobal_32 ?_
      refine lv_if_eq (tgt := 40) hx hb dX1_isOfFailingGlobal_33 (by decide) (fun c_33 => ?_) (fun c_33 => ?_)
      · have c_33 : V 6 (ix (V 3 q)) = 0 := c_33
        refine lv_iconst (v := 0) hx hb dX1_isOfFailingGlobal_40 (by decide) ?_
        exact retRZ (v := 0) hx hb hr hlocks hH rfl dX1_isOfFailingGlobal_41 (by unfold fgB; rw [kd_of hk hj]; first | (simp [c_8, c_33, zI]; done) | (simp [c_19, c_33, zI]; done) | (simp [c_8, c_19, zI]; done))
      · have c_33 : ¬ V 6 (ix (V 3 q)) = 0 := c_33
        refine lv_iconst (v := 1) hx hb dX1_isOfFailingGlobal_36 (by decide) ?_
        refine lv_goto (tgt := 41) hx hb dX1_isOfFailingGlobal_37 (by decide) ?_
        exact retRZ (v := 1) hx hb hr hlocks hH rfl dX1_isOfFailingGlobal_41 (by unfold fgB; rw [kd_of hk hj]; first | (simp [c_8, c_33, zI]; done) | (simp [c_19, c_33, zI]; done) | (simp [c_8, c_19, zI]; done))
abbrev rmX1_nextsOf : Room := { frames := 1, cells := 0, slots := 0, locals := 21 }
theorem lk_X1_nextsOf : Lk yX1_nextsOf 1 := by decide +kernel
set_option maxHeartbeats 4000000 in
set_option maxRecDepth 100000 in
/-- nextsOf(p) -/
theorem c_X1_nextsOf (l : Launch) (D : va_G) (k : Nat → ClassId) (ad : Nat → Nat) (V : St) {n : Nat} (hv : okV n V) {q : Nat} (hq : q < 24) : CtR noX l yX1_nextsOf cX1_nextsOf 3 (some .int) rmX1_nextsOf D (tyL k) (wP k ad V) [.ref (ad 0), .int (nI q)] (fun r => r = nxI n V q) := by
  refine CtR.mk (by decide) (Nat.le_of_ble_eq_true rfl) ?_
  intro p e s m below meth c hx hb hml hown hg hr hlocks hK hN hX H hH hP ls hl
  have hl : lv_has ls 3 [(0, .ref (ad 0)), (1, .int (nI q))] := hl
  obtain ⟨j, hk, hj, hlA, hlB, hlC⟩ := hv.2.2.1 q hq
  have hn24 := hv.1
  refine lv_aload_n hx hb dX1_nextsOf_0 rfl (lv_at hl 0 rfl) ?_
  refine lv_iload_n hx hb dX1_nextsOf_1 rfl (lv_at hl 1 rfl) ?_
  refine lv_iconst (v := 1) hx hb dX1_nextsOf_2 (by decide) ?_
  refine lv_iadd hx hb dX1_nextsOf_3 ?_
  refine topv (nI (q + 1)) (nI_add q 1) ?_
  refine callR (runV hx hb hg hown hml hl.1 (c_X1_bitOf l D k ad V hv (q := q + 1) (by omega)) [.int (nI (q + 1))] [] (preR (mapSome_sub hP [0, 1, 2, 3, 4, 5, 6, 7] rfl) hK hN xb0 x0) (va_recv hK hP (ci := 1) (q0 := 0) rfl rfl) wd_296 wd_298 wd_2 wd_50 wd_299 lk_X1_bitOf ⟨rfl, rfl⟩ ⟨by decide, by decide⟩ ⟨Nat.zero_le _, Nat.zero_le _⟩ rfl (Nat.le_of_ble_eq_true rfl) dX1_nextsOf_4) (fun r_4 q_4 => ?_)
  obtain rfl := q_4
  refine lv_istore_n (lv' := [(2, .int (plI n (q + 1))), (0, .ref (ad 0)), (1, .int (nI q))]) hx hb dX1_nextsOf_7 rfl hl (by decide) rfl (fun ls hl => ?_)
  refine lv_aload_n hx hb dX1_nextsOf_8 rfl (lv_at hl 1 rfl) ?_
  refine gfl hx hb hg inX1 hown hK hP 0 (ci := 1) rfl rfl 0 (by decide) wd_70 rfl dX1_nextsOf_9 ?_
  refine lv_iload_n hx hb dX1_nextsOf_12 rfl (lv_at hl 2 rfl) ?_
  refine ldn hx hb hK hP 1 0 rfl rfl (by omega) (by decide) dX1_nextsOf_13 ?_
  refine topv (nI j) hk ?_
  rcases (show j = 0 ∨ j = 1 ∨ j = 2 ∨ j = 3 ∨ j = 4 ∨ j = 5 ∨ j = 6 ∨ j = 7 ∨ j = 8 ∨ j = 9 ∨ j = 10 ∨ j = 11 ∨ j = 12 ∨ j = 13 by omega) with rfl | rfl | rfl | rfl | rfl | rfl | rfl | rfl | rfl | rfl | rfl | rfl | rfl | rfl
  · refine lv_tableOut (tgt := 92) hx hb dX1_nextsOf_14 (by decide) (by decide) ?_
    refine lv_aload_n hx hb dX1_nextsOf_92 rfl (lv_at hl 1 rfl) ?_
    refine lv_iload_n hx hb dX1_nextsOf_93 rfl (lv_at hl 2 rfl) ?_
    refine callR (runV hx hb hg hown hml hl.1 (c_X1_isOfFailingGlobal l D k ad V hv hq) [.int (nI q)] [] (preR (mapSome_sub hP [0, 1, 2, 3, 4, 5, 6, 7] rfl) hK hN xb0 x0) (va_recv hK hP (ci := 1) (q0 := 0) rfl rfl) wd_301 wd_302 wd_303 wd_50 wd_304 lk_X1_isOfFailingGlobal ⟨rfl, rfl⟩ ⟨by decide, by decide⟩ ⟨Nat.zero_le _, Nat.zero_le _⟩ rfl (Nat.le_of_ble_eq_true rfl) dX1_nextsOf_94) (fun r_94 q_94 => ?_)
    obtain rfl := q_94
    refine lv_if_eq (tgt := 107) hx hb dX1_nextsOf_97 (by decide) (fun c_97 => ?_) (fun c_97 => ?_)
    · have c_97 := zI_0.mp c_97
      refine lv_iload_n hx hb dX1_nextsOf_107 rfl (lv_at hl 0 rfl) ?_
      exact retRI (v := plI n (q + 1)) hx hb hr hlocks hH dX1_nextsOf_108 (by unfold nxI; rw [kd_of hk hj]; first | (simp [c_97]; done) | (rw [hbe, ix_nI (by omega)]; simp; done) | (simp; done))
    · have c_97 := zI_ne c_97
      refine lv_iload_n hx hb dX1_nextsOf_100 rfl (lv_at hl 0 rfl) ?_
      refine lv_ldc (v := 16777216) hx hb hown (hg _ wd_300) dX1_nextsOf_101 ?_
      refine topv (bitI 24) (by decide) ?_
      refine lv_ior hx hb dX1_nextsOf_103 ?_
      refine lv_goto (tgt := 108) hx hb dX1_nextsOf_104 (by decide) ?_
      exact retRI (v := (plI n (q + 1)) ||| (bitI 24)) hx hb hr hlocks hH dX1_nextsOf_108 (by unfold nxI; rw [kd_of hk hj]; first | (simp [c_97]; done) | (rw [hbe, ix_nI (by omega)]; simp; done) | (simp; done))
  · refine lv_tableOut (tgt := 92) hx hb dX1_nextsOf_14 (by decide) (by decide) ?_
    refine lv_aload_n hx hb dX1_nextsOf_92 rfl (lv_at hl 1 rfl) ?_
    refine lv_iload_n hx hb dX1_nextsOf_93 rfl (lv_at hl 2 rfl) ?_
    refine callR (runV hx hb hg hown hml hl.1 (c_X1_isOfFailingGlobal l D k ad V hv hq) [.int (nI q)] [] (preR (mapSome_sub hP [0, 1, 2, 3, 4, 5, 6, 7] rfl) hK hN xb0 x0) (va_recv hK hP (ci := 1) (q0 := 0) rfl rfl) wd_301 wd_302 wd_303 wd_50 wd_304 lk_X1_isOfFailingGlobal ⟨rfl, rfl⟩ ⟨by decide, by decide⟩ ⟨Nat.zero_le _, Nat.zero_le _⟩ rfl (Nat.le_of_ble_eq_true rfl) dX1_nextsOf_94) (fun r_94 q_94 => ?_)
    obtain rfl := q_94
    refine lv_if_eq (tgt := 107) hx hb dX1_nextsOf_97 (by decide) (fun c_97 => ?_) (fun c_97 => ?_)
    · have c_97 := zI_0.mp c_97
      refine lv_iload_n hx hb dX1_nextsOf_107 rfl (lv_at hl 0 rfl) ?_
      exact retRI (v := plI n (q + 1)) hx hb hr hlocks hH dX1_nextsOf_108 (by unfold nxI; rw [kd_of hk hj]; first | (simp [c_97]; done) | (rw [hbe, ix_nI (by omega)]; simp; done) | (simp; done))
    · have c_97 := zI_ne c_97
      refine lv_iload_n hx hb dX1_nextsOf_100 rfl (lv_at hl 0 rfl) ?_
      refine lv_ldc (v := 16777216) hx hb hown (hg _ wd_300) dX1_nextsOf_101 ?_
      refine topv (bitI 24) (by decide) ?_
      refine lv_ior hx hb dX1_nextsOf_103 ?_
      refine lv_goto (tgt := 108) hx hb dX1_nextsOf_104 (by decide) ?_
      exact retRI (v := (plI n (q + 1)) ||| (bitI 24)) hx hb hr hlocks hH dX1_nextsOf_108 (by unfold nxI; rw [kd_of hk hj]; first | (simp [c_97]; done) | (rw [hbe, ix_nI (by omega)]; simp; done) | (simp; done))
  · refine lv_tableOut (tgt := 92) hx hb dX1_nextsOf_14 (by decide) (by decide) ?_
    refine lv_aload_n hx hb dX1_nextsOf_92 rfl (lv_at hl 1 rfl) ?_
    refine lv_iload_n hx hb dX1_nextsOf_93 rfl (lv_at hl 2 rfl) ?_
    refine callR (runV hx hb hg hown hml hl.1 (c_X1_isOfFailingGlobal l D k ad V hv hq) [.int (nI q)] [] (preR (mapSome_sub hP [0, 1, 2, 3, 4, 5, 6, 7] rfl) hK hN xb0 x0) (va_recv hK hP (ci := 1) (q0 := 0) rfl rfl) wd_301 wd_302 wd_303 wd_50 wd_304 lk_X1_isOfFailingGlobal ⟨rfl, rfl⟩ ⟨by decide, by decide⟩ ⟨Nat.zero_le _, Nat.zero_le _⟩ rfl (Nat.le_of_ble_eq_true rfl) dX1_nextsOf_94) (fun r_94 q_94 => ?_)
    obtain rfl := q_94
    refine lv_if_eq (tgt := 107) hx hb dX1_nextsOf_97 (by decide) (fun c_97 => ?_) (fun c_97 => ?_)
    · have c_97 := zI_0.mp c_97
      refine lv_iload_n hx hb dX1_nextsOf_107 rfl (lv_at hl 0 rfl) ?_
      exact retRI (v := plI n (q + 1)) hx hb hr hlocks hH dX1_nextsOf_108 (by unfold nxI; rw [kd_of hk hj]; first | (simp [c_97]; done) | (rw [hbe, ix_nI (by omega)]; simp; done) | (simp; done))
    · have c_97 := zI_ne c_97
      refine lv_iload_n hx hb dX1_nextsOf_100 rfl (lv_at hl 0 rfl) ?_
      refine lv_ldc (v := 16777216) hx hb hown (hg _ wd_300) dX1_nextsOf_101 ?_
      refine topv (bitI 24) (by decide) ?_
      refine lv_ior hx hb dX1_nextsOf_103 ?_
      refine lv_goto (tgt := 108) hx hb dX1_nextsOf_104 (by decide) ?_
      exact retRI (v := (plI n (q + 1)) ||| (bitI 24)) hx hb hr hlocks hH dX1_nextsOf_108 (by unfold nxI; rw [kd_of hk hj]; first | (simp [c_97]; done) | (rw [hbe, ix_nI (by omega)]; simp; done) | (simp; done))
  · refine lv_tableOut (tgt := 92) hx hb dX1_nextsOf_14 (by decide) (by decide) ?_
    refine lv_aload_n hx hb dX1_nextsOf_92 rfl (lv_at hl 1 rfl) ?_
    refine lv_iload_n hx hb dX1_nextsOf_93 rfl (lv_at hl 2 rfl) ?_
    refine callR (runV hx hb hg hown hml hl.1 (c_X1_isOfFailingGlobal l D k ad V hv hq) [.int (nI q)] [] (preR (mapSome_sub hP [0, 1, 2, 3, 4, 5, 6, 7] rfl) hK hN xb0 x0) (va_recv hK hP (ci := 1) (q0 := 0) rfl rfl) wd_301 wd_302 wd_303 wd_50 wd_304 lk_X1_isOfFailingGlobal ⟨rfl, rfl⟩ ⟨by decide, by decide⟩ ⟨Nat.zero_le _, Nat.zero_le _⟩ rfl (Nat.le_of_ble_eq_true rfl) dX1_nextsOf_94) (fun r_94 q_94 => ?_)
    obtain rfl := q_94
    refine lv_if_eq (tgt := 107) hx hb dX1_nextsOf_97 (by decide) (fun c_97 => ?_) (fun c_97 => ?_)
    · have c_97 := zI_0.mp c_97
      refine lv_iload_n hx hb dX1_nextsOf_107 rfl (lv_at hl 0 rfl) ?_
      exact retRI (v := plI n (q + 1)) hx hb hr hlocks hH dX1_nextsOf_108 (by unfold nxI; rw [kd_of hk hj]; first | (simp [c_97]; done) | (rw [hbe, ix_nI (by omega)]; simp; done) | (simp; done))
    · have c_97 := zI_ne c_97
      refine lv_iload_n hx hb dX1_nextsOf_100 rfl (lv_at hl 0 rfl) ?_
      refine lv_ldc (v := 16777216) hx hb hown (hg _ wd_300) dX1_nextsOf_101 ?_
      refine topv (bitI 24) (by decide) ?_
      refine lv_ior hx hb dX1_nextsOf_103 ?_
      refine lv_goto (tgt := 108) hx hb dX1_nextsOf_104 (by decide) ?_
      exact retRI (v := (plI n (q + 1)) ||| (bitI 24)) hx hb hr hlocks hH dX1_nextsOf_108 (by unfold nxI; rw [kd_of hk hj]; first | (simp [c_97]; done) | (rw [hbe, ix_nI (by omega)]; simp; done) | (simp; done))
  · refine lv_tableOut (tgt := 92) hx hb dX1_nextsOf_14 (by decide) (by decide) ?_
    refine lv_aload_n hx hb dX1_nextsOf_92 rfl (lv_at hl 1 rfl) ?_
    refine lv_iload_n hx hb dX1_nextsOf_93 rfl (lv_at hl 2 rfl) ?_
    refine callR (runV hx hb hg hown hml hl.1 (c_X1_isOfFailingGlobal l D k ad V hv hq) [.int (nI q)] [] (preR (mapSome_sub hP [0, 1, 2, 3, 4, 5, 6, 7] rfl) hK hN xb0 x0) (va_recv hK hP (ci := 1) (q0 := 0) rfl rfl) wd_301 wd_302 wd_303 wd_50 wd_304 lk_X1_isOfFailingGlobal ⟨rfl, rfl⟩ ⟨by decide, by decide⟩ ⟨Nat.zero_le _, Nat.zero_le _⟩ rfl (Nat.le_of_ble_eq_true rfl) dX1_nextsOf_94) (fun r_94 q_94 => ?_)
    obtain rfl := q_94
    refine lv_if_eq (tgt := 107) hx hb dX1_nextsOf_97 (by decide) (fun c_97 => ?_) (fun c_97 => ?_)
    · have c_97 := zI_0.mp c_97
      refine lv_iload_n hx hb dX1_nextsOf_107 rfl (lv_at hl 0 rfl) ?_
      exact retRI (v := plI n (q + 1)) hx hb hr hlocks hH dX1_nextsOf_108 (by unfold nxI; rw [kd_of hk hj]; first | (simp [c_97]; done) | (rw [hbe, ix_nI (by omega)]; simp; done) | (simp; done))
    · have c_97 := zI_ne c_97
      refine lv_iload_n hx hb dX1_nextsOf_100 rfl (lv_at hl 0 rfl) ?_
      refine lv_ldc (v := 16777216) hx hb hown (hg _ wd_300) dX1_nextsOf_101 ?_
      refine topv (bitI 24) (by decide) ?_
      refine lv_ior hx hb dX1_nextsOf_103 ?_
      refine lv_goto (tgt := 108) hx hb dX1_nextsOf_104 (by decide) ?_
      exact retRI (v := (plI n (q + 1)) ||| (bitI 24)) hx hb hr hlocks hH dX1_nextsOf_108 (by unfold nxI; rw [kd_of hk hj]; first | (simp [c_97]; done) | (rw [hbe, ix_nI (by omega)]; simp; done) | (simp; done))
  · refine lv_tableOut (tgt := 92) hx hb dX1_nextsOf_14 (by decide) (by decide) ?_
    refine lv_aload_n hx hb dX1_nextsOf_92 rfl (lv_at hl 1 rfl) ?_
    refine lv_iload_n hx hb dX1_nextsOf_93 rfl (lv_at hl 2 rfl) ?_
    refine callR (runV hx hb hg hown hml hl.1 (c_X1_isOfFailingGlobal l D k ad V hv hq) [.int (nI q)] [] (preR (mapSome_sub hP [0, 1, 2, 3, 4, 5, 6, 7] rfl) hK hN xb0 x0) (va_recv hK hP (ci := 1) (q0 := 0) rfl rfl) wd_301 wd_302 wd_303 wd_50 wd_304 lk_X1_isOfFailingGlobal ⟨rfl, rfl⟩ ⟨by decide, by decide⟩ ⟨Nat.zero_le _, Nat.zero_le _⟩ rfl (Nat.le_of_ble_eq_true rfl) dX1_nextsOf_94) (fun r_94 q_94 => ?_)
    obtain rfl := q_94
    refine lv_if_eq (tgt := 107) hx hb dX1_nextsOf_97 (by decide) (fun c_97 => ?_) (fun c_97 => ?_)
    · have c_97 := zI_0.mp c_97
      refine lv_iload_n hx hb dX1_nextsOf_107 rfl (lv_at hl 0 rfl) ?_
      exact retRI (v := plI n (q + 1)) hx hb hr hlocks hH dX1_nextsOf_108 (by unfold nxI; rw [kd_of hk hj]; first | (simp [c_97]; done) | (rw [hbe, ix_nI (by omega)]; simp; done) | (simp; done))
    · have c_97 := zI_ne c_97
      refine lv_iload_n hx hb dX1_nextsOf_100 rfl (lv_at hl 0 rfl) ?_
      refine lv_ldc (v := 16777216) hx hb hown (hg _ wd_300) dX1_nextsOf_101 ?_
      refine topv (bitI 24) (by decide) ?_
      refine lv_ior hx hb dX1_nextsOf_103 ?_
      refine lv_goto (tgt := 108) hx hb dX1_nextsOf_104 (by decide) ?_
      exact retRI (v := (plI n (q + 1)) ||| (bitI 24)) hx hb hr hlocks hH dX1_nextsOf_108 (by unfold nxI; rw [kd_of hk hj]; first | (simp [c_97]; done) | (rw [hbe, ix_nI (by omega)]; simp; done) | (simp; done))
  · refine lv_tableIn (off := 73) (tgt := 87) hx hb dX1_nextsOf_14 (by decide) (by decide) (by rfl) (by decide) ?_
    refine lv_iload_n hx hb dX1_nextsOf_87 rfl (lv_at hl 0 rfl) ?_
    refine lv_ldc (v := 16777216) hx hb hown (hg _ wd_300) dX1_nextsOf_88 ?_
    refine topv (bitI 24) (by decide) ?_
    refine lv_ior hx hb dX1_nextsOf_90 ?_
    exact retRI (v := (plI n (q + 1)) ||| (bitI 24)) hx hb hr hlocks hH dX1_nextsOf_91 (by unfold nxI; rw [kd_of hk hj]; first | (simp [c_97]; done) | (rw [hbe, ix_nI (by omega)]; simp; done) | (simp; done))
  · refine lv_tableIn (off := 78) (tgt := 92) hx hb dX1_nextsOf_14 (by decide) (by decide) (by rfl) (by decide) ?_
    refine lv_aload_n hx hb dX1_nextsOf_92 rfl (lv_at hl 1 rfl) ?_
    refine lv_iload_n hx hb dX1_nextsOf_93 rfl (lv_at hl 2 rfl) ?_
    refine callR (runV hx hb hg hown hml hl.1 (c_X1_isOfFailingGlobal l D k ad V hv hq) [.int (nI q)] [] (preR (mapSome_sub hP [0, 1, 2, 3, 4, 5, 6, 7] rfl) hK hN xb0 x0) (va_recv hK hP (ci := 1) (q0 := 0) rfl rfl) wd_301 wd_302 wd_303 wd_50 wd_304 lk_X1_isOfFailingGlobal ⟨rfl, rfl⟩ ⟨by decide, by decide⟩ ⟨Nat.zero_le _, Nat.zero_le _⟩ rfl (Nat.le_of_ble_eq_true rfl) dX1_nextsOf_94) (fun r_94 q_94 => ?_)
    obtain rfl := q_94
    refine lv_if_eq (tgt := 107) hx hb dX1_nextsOf_97 (by decide) (fun c_97 => ?_) (fun c_97 => ?_)
    · have c_97 := zI_0.mp c_97
      refine lv_iload_n hx hb dX1_nextsOf_107 rfl (lv_at hl 0 rfl) ?_
      exact retRI (v := plI n (q + 1)) hx hb hr hlocks hH dX1_nextsOf_108 (by unfold nxI; rw [kd_of hk hj]; first | (simp [c_97]; done) | (rw [hbe, ix_nI (by omega)]; simp; done) | (simp; done))
    · have c_97 := zI_ne c_97
      refine lv_iload_n hx hb dX1_nextsOf_100 rfl (lv_at hl 0 rfl) ?_
      refine lv_ldc (v := 16777216) hx hb hown (hg _ wd_300) dX1_nextsOf_101 ?_
      refine topv (bitI 24) (by decide) ?_
      refine lv_ior hx hb dX1_nextsOf_103 ?_
      refine lv_goto (tgt := 108) hx hb dX1_nextsOf_104 (by decide) ?_
      exact retRI (v := (plI n (q + 1)) ||| (bitI 24)) hx hb hr hlocks hH dX1_nextsOf_108 (by unfold nxI; rw [kd_of hk hj]; first | (simp [c_97]; done) | (rw [hbe, ix_nI (by omega)]; simp; done) | (simp; done))
  · refine lv_tableIn (off := 78) (tgt := 92) hx hb dX1_nextsOf_14 (by decide) (by decide) (by rfl) (by decide) ?_
    refine lv_aload_n hx hb dX1_nextsOf_92 rfl (lv_at hl 1 rfl) ?_
    refine lv_iload_n hx hb dX1_nextsOf_93 rfl (lv_at hl 2 rfl) ?_
    refine callR (runV hx hb hg hown hml hl.1 (c_X1_isOfFailingGlobal l D k ad V hv hq) [.int (nI q)] [] (preR (mapSome_sub hP [0, 1, 2, 3, 4, 5, 6, 7] rfl) hK hN xb0 x0) (va_recv hK hP (ci := 1) (q0 := 0) rfl rfl) wd_301 wd_302 wd_303 wd_50 wd_304 lk_X1_isOfFailingGlobal ⟨rfl, rfl⟩ ⟨by decide, by decide⟩ ⟨Nat.zero_le _, Nat.zero_le _⟩ rfl (Nat.le_of_ble_eq_true rfl) dX1_nextsOf_94) (fun r_94 q_94 => ?_)
    obtain rfl := q_94
    refine lv_if_eq (tgt := 107) hx hb dX1_nextsOf_97 (by decide) (fun c_97 => ?_) (fun c_97 => ?_)
    · have c_97 := zI_0.mp c_97
      refine lv_iload_n hx hb dX1_nextsOf_107 rfl (lv_at hl 0 rfl) ?_
      exact retRI (v := plI n (q + 1)) hx hb hr hlocks hH dX1_nextsOf_108 (by unfold nxI; rw [kd_of hk hj]; first | (simp [c_97]; done) | (rw [hbe, ix_nI (by omega)]; simp; done) | (simp; done))
    · have c_97 := zI_ne c_97
      refine lv_iload_n hx hb dX1_nextsOf_100 rfl (lv_at hl 0 rfl) ?_
      refine lv_ldc (v := 16777216) hx hb hown (hg _ wd_300) dX1_nextsOf_101 ?_
      refine topv (bitI 24) (by decide) ?_
      refine lv_ior hx hb dX1_nextsOf_103 ?_
      refine lv_goto (tgt := 108) hx hb dX1_nextsOf_104 (by decide) ?_
      exact retRI (v := (plI n (q + 1)) ||| (bitI 24)) hx hb hr hlocks hH dX1_nextsOf_108 (by unfold nxI; rw [kd_of hk hj]; first | (simp [c_97]; done) | (rw [hbe, ix_nI (by omega)]; simp; done) | (simp; done))
  · refine lv_tableIn (off := 78) (tgt := 92) hx hb dX1_nextsOf_14 (by decide) (by decide) (by rfl) (by decide) ?_
    refine lv_aload_n hx hb dX1_nextsOf_92 rfl (lv_at hl 1 rfl) ?_
    refine lv_iload_n hx hb dX1_nextsOf_93 rfl (lv_at hl 2 rfl) ?_
    refine callR (runV hx hb hg hown hml hl.1 (c_X1_isOfFailingGlobal l D k ad V hv hq) [.int (nI q)] [] (preR (mapSome_sub hP [0, 1, 2, 3, 4, 5, 6, 7] rfl) hK hN xb0 x0) (va_recv hK hP (ci := 1) (q0 := 0) rfl rfl) wd_301 wd_302 wd_303 wd_50 wd_304 lk_X1_isOfFailingGlobal ⟨rfl, rfl⟩ ⟨by decide, by decide⟩ ⟨Nat.zero_le _, Nat.zero_le _⟩ rfl (Nat.le_of_ble_eq_true rfl) dX1_nextsOf_94) (fun r_94 q_94 => ?_)
    obtain rfl := q_94
    refine lv_if_eq (tgt := 107) hx hb dX1_nextsOf_97 (by decide) (fun c_97 => ?_) (fun c_97 => ?_)
    · have c_97 := zI_0.mp c_97
      refine lv_iload_n hx hb dX1_nextsOf_107 rfl (lv_at hl 0 rfl) ?_
      exact retRI (v := plI n (q + 1)) hx hb hr hlocks hH dX1_nextsOf_108 (by unfold nxI; rw [kd_of hk hj]; first | (simp [c_97]; done) | (rw [hbe, ix_nI (by omega)]; simp; done) | (simp; done))
    · have c_97 := zI_ne c_97
      refine lv_iload_n hx hb dX1_nextsOf_100 rfl (lv_at hl 0 rfl) ?_
      refine lv_ldc (v := 16777216) hx hb hown (hg _ wd_300) dX1_nextsOf_101 ?_
      refine topv (bitI 24) (by decide) ?_
      refine lv_ior hx hb dX1_nextsOf_103 ?_
      refine lv_goto (tgt := 108) hx hb dX1_nextsOf_104 (by decide) ?_
      exact retRI (v := (plI n (q + 1)) ||| (bitI 24)) hx hb hr hlocks hH dX1_nextsOf_108 (by unfold nxI; rw [kd_of hk hj]; first | (simp [c_97]; done) | (rw [hbe, ix_nI (by omega)]; simp; done) | (simp; done))
  · refine lv_tableIn (off := 78) (tgt := 92) hx hb dX1_nextsOf_14 (by decide) (by decide) (by rfl) (by decide) ?_
    refine lv_aload_n hx hb dX1_nextsOf_92 rfl (lv_at hl 1 rfl) ?_
    refine lv_iload_n hx hb dX1_nextsOf_93 rfl (lv_at hl 2 rfl) ?_
    refine callR (runV hx hb hg hown hml hl.1 (c_X1_isOfFailingGlobal l D k ad V hv hq) [.int (nI q)] [] (preR (mapSome_sub hP [0, 1, 2, 3, 4, 5, 6, 7] rfl) hK hN xb0 x0) (va_recv hK hP (ci := 1) (q0 := 0) rfl rfl) wd_301 wd_302 wd_303 wd_50 wd_304 lk_X1_isOfFailingGlobal ⟨rfl, rfl⟩ ⟨by decide, by decide⟩ ⟨Nat.zero_le _, Nat.zero_le _⟩ rfl (Nat.le_of_ble_eq_true rfl) dX1_nextsOf_94) (fun r_94 q_94 => ?_)
    obtain rfl := q_94
    refine lv_if_eq (tgt := 107) hx hb dX1_nextsOf_97 (by decide) (fun c_97 => ?_) (fun c_97 => ?_)
    · have c_97 := zI_0.mp c_97
      refine lv_iload_n hx hb dX1_nextsOf_107 rfl (lv_at hl 0 rfl) ?_
      exact retRI (v := plI n (q + 1)) hx hb hr hlocks hH dX1_nextsOf_108 (by unfold nxI; rw [kd_of hk hj]; first | (simp [c_97]; done) | (rw [hbe, ix_nI (by omega)]; simp; done) | (simp; done))
    · have c_97 := zI_ne c_97
      refine lv_iload_n hx hb dX1_nextsOf_100 rfl (lv_at hl 0 rfl) ?_
      refine lv_ldc (v := 16777216) hx hb hown (hg _ wd_300) dX1_nextsOf_101 ?_
      refine topv (bitI 24) (by decide) ?_
      refine lv_ior hx hb dX1_nextsOf_103 ?_
      refine lv_goto (tgt := 108) hx hb dX1_nextsOf_104 (by decide) ?_
      exact retRI (v := (plI n (q + 1)) ||| (bitI 24)) hx hb hr hlocks hH dX1_nextsOf_108 (by unfold nxI; rw [kd_of hk hj]; first | (simp [c_97]; done) | (rw [hbe, ix_nI (by omega)]; simp; done) | (simp; done))
  · obtain ⟨b, hb1, hbe⟩ := lim_nI hlB (by decide)
    have hb1 : b < 25 := hb1
    refine lv_tableIn (off := 46) (tgt := 60) hx hb dX1_nextsOf_14 (by decide) (by decide) (by rfl) (by decide) ?_
    refine lv_iload_n hx hb dX1_nextsOf_60 rfl (lv_at hl 0 rfl) ?_
    refine lv_aload_n hx hb dX1_nextsOf_61 rfl (lv_at hl 1 rfl) ?_
    refine lv_aload_n hx hb dX1_nextsOf_62 rfl (lv_at hl 1 rfl) ?_
    refine gfl hx hb hg inX1 hown hK hP 0 (ci := 1) rfl rfl 2 (by decide) wd_76 rfl dX1_nextsOf_63 ?_
    refine lv_iload_n hx hb dX1_nextsOf_66 rfl (lv_at hl 2 rfl) ?_
    refine ldn hx hb hK hP 3 0 rfl rfl (by omega) (by decide) dX1_nextsOf_67 ?_
    refine topv (nI b) hbe ?_
    refine callR (runV hx hb hg hown hml hl.1 (c_X1_bitOf l D k ad V hv (q := b) (by omega)) [.int (nI b)] [.int (plI n (q + 1))] (preR (mapSome_sub hP [0, 1, 2, 3, 4, 5, 6, 7] rfl) hK hN xb0 x0) (va_recv hK hP (ci := 1) (q0 := 0) rfl rfl) wd_296 wd_298 wd_2 wd_50 wd_299 lk_X1_bitOf ⟨rfl, rfl⟩ ⟨by decide, by decide⟩ ⟨Nat.zero_le _, Nat.zero_le _⟩ rfl (Nat.le_of_ble_eq_true rfl) dX1_nextsOf_68) (fun r_68 q_68 => ?_)
    obtain rfl := q_68
    refine lv_ior hx hb dX1_nextsOf_71 ?_
    exact retRI (v := (plI n (q + 1)) ||| (plI n b)) hx hb hr hlocks hH dX1_nextsOf_72 (by unfold nxI; rw [kd_of hk hj]; first | (simp [c_97]; done) | (rw [hbe, ix_nI (by omega)]; simp; done) | (simp; done))
  · obtain ⟨b, hb1, hbe⟩ := lim_nI hlB (by decide)
    have hb1 : b < 25 := hb1
    refine lv_tableIn (off := 59) (tgt := 73) hx hb dX1_nextsOf_14 (by decide) (by decide) (by rfl) (by decide) ?_
    refine lv_aload_n hx hb dX1_nextsOf_73 rfl (lv_at hl 1 rfl) ?_
    refine lv_aload_n hx hb dX1_nextsOf_74 rfl (lv_at hl 1 rfl) ?_
    refine gfl hx hb hg inX1 hown hK hP 0 (ci := 1) rfl rfl 2 (by decide) wd_76 rfl dX1_nextsOf_75 ?_
    refine lv_iload_n hx hb dX1_nextsOf_78 rfl (lv_at hl 2 rfl) ?_
    refine ldn hx hb hK hP 3 0 rfl rfl (by omega) (by decide) dX1_nextsOf_79 ?_
    refine topv (nI b) hbe ?_
    refine callR (runV hx hb hg hown hml hl.1 (c_X1_bitOf l D k ad V hv (q := b) (by omega)) [.int (nI b)] [] (preR (mapSome_sub hP [0, 1, 2, 3, 4, 5, 6, 7] rfl) hK hN xb0 x0) (va_recv hK hP (ci := 1) (q0 := 0) rfl rfl) wd_296 wd_298 wd_2 wd_50 wd_299 lk_X1_bitOf ⟨rfl, rfl⟩ ⟨by decide, by decide⟩ ⟨Nat.zero_le _, Nat.zero_le _⟩ rfl (Nat.le_of_ble_eq_true rfl) dX1_nextsOf_80) (fun r_80 q_80 => ?_)
    obtain rfl := q_80
    exact retRI (v := plI n b) hx hb hr hlocks hH dX1_nextsOf_83 (by unfold nxI; rw [kd_of hk hj]; first | (simp [c_97]; done) | (rw [hbe, ix_nI (by omega)]; simp; done) | (simp; done))
  · refine lv_tableIn (off := 70) (tgt := 84) hx hb dX1_nextsOf_14 (by decide) (by decide) (by rfl) (by decide) ?_
    refine lv_ldc (v := 16777216) hx hb hown (hg _ wd_300) dX1_nextsOf_84 ?_
    refine topv (bitI 24) (by decide) ?_
    exact retRI (v := bitI 24) hx hb hr hlocks hH dX1_nextsOf_86 (by unfold nxI; rw [kd_of hk hj]; first | (simp [c_97]; done) | (rw [hbe, ix_nI (by omega)]; simp; done) | (simp; done))
abbrev rmX1_widerNextsOf : Room := { frames := 2, cells := 0, slots := 0, locals := 43 }
theorem lk_X1_widerNextsOf : Lk yX1_widerNextsOf 1 := by decide +kernel
set_option maxHeartbeats 4000000 in
set_option maxRecDepth 100000 in
/-- widerNextsOf(p) -/
theorem c_X1_widerNextsOf (l : Launch) (D : va_G) (k : Nat → ClassId) (ad : Nat → Nat) (V : St) {n : Nat} (hv : okV n V) {q : Nat} (hq : q < 24) : CtR noX l yX1_widerNextsOf cX1_widerNextsOf 2 (some .int) rmX1_widerNextsOf D (tyL k) (wP k ad V) [.ref (ad 0), .int (nI q)] (fun r => r = wnI n V q) := by
  refine CtR.mk (by decide) (Nat.le_of_ble_eq_true rfl) ?_
  intro p e s m below meth c hx hb hml hown hg hr hlocks hK hN hX H hH hP ls hl
  have hl : lv_has ls 2 [(0, .ref (ad 0)), (1, .int (nI q))] := hl
  have hn24 := hv.1
  refine lv_aload_n hx hb dX1_widerNextsOf_0 rfl (lv_at hl 0 rfl) ?_
  refine lv_iload_n hx hb dX1_widerNextsOf_1 rfl (lv_at hl 1 rfl) ?_
  refine callR (runV hx hb hg hown hml hl.1 (c_X1_nextsOf l D k ad V hv hq) [.int (nI q)] [] (preR (mapSome_sub hP [0, 1, 2, 3, 4, 5, 6, 7] rfl) hK hN xb0 x0) (va_recv hK hP (ci := 1) (q0 := 0) rfl rfl) wd_309 wd_293 wd_294 wd_50 wd_295 lk_X1_nextsOf ⟨rfl, rfl⟩ ⟨by decide, by decide⟩ ⟨Nat.zero_le _, Nat.zero_le _⟩ rfl (Nat.le_of_ble_eq_true rfl) dX1_widerNextsOf_2) (fun r_2 q_2 => ?_)
  obtain rfl := q_2
  refine lv_aload_n hx hb dX1_widerNextsOf_5 rfl (lv_at hl 0 rfl) ?_
  refine lv_iload_n hx hb dX1_widerNextsOf_6 rfl (lv_at hl 1 rfl) ?_
  refine lv_iconst (v := 1) hx hb dX1_widerNextsOf_7 (by decide) ?_
  refine lv_iadd hx hb dX1_widerNextsOf_8 ?_
  refine topv (nI (q + 1)) (nI_add q 1) ?_
  refine callR (runV hx hb hg hown hml hl.1 (c_X1_bitOf l D k ad V hv (q := q + 1) (by omega)) [.int (nI (q + 1))] [.int (nxI n V q)] (preR (mapSome_sub hP [0, 1, 2, 3, 4, 5, 6, 7] rfl) hK hN xb0 x0) (va_recv hK hP (ci := 1) (q0 := 0) rfl rfl) wd_296 wd_298 wd_2 wd_50 wd_299 lk_X1_bitOf ⟨rfl, rfl⟩ ⟨by decide, by decide⟩ ⟨Nat.zero_le _, Nat.zero_le _⟩ rfl (Nat.le_of_ble_eq_true rfl) dX1_widerNextsOf_9) (fun r_9 q_9 => ?_)
  obtain rfl := q_9
  refine lv_ior hx hb dX1_widerNextsOf_12 ?_
  exact retRI (v := (nxI n V q) ||| (plI n (q + 1))) hx hb hr hlocks hH dX1_widerNextsOf_13 (rfl)
abbrev rmX1_setBy : Room := { frames := 1, cells := 0, slots := 0, locals := 20 }
theorem lk_X1_setBy : Lk yX1_setBy 1 := by decide +kernel
set_option maxHeartbeats 4000000 in
set_option maxRecDepth 100000 in
/-- setBy(p) -/
theorem c_X1_setBy (l : Launch) (D : va_G) (k : Nat → ClassId) (ad : Nat → Nat) (V : St) {n : Nat} (hv : okV n V) {q : Nat} (hq : q < 24) : CtR noX l yX1_setBy cX1_setBy 2 (some .int) rmX1_setBy D (tyL k) (wP k ad V) [.ref (ad 0), .int (nI q)] (fun r => r = setI V q) := by
  refine CtR.mk (by decide) (Nat.le_of_ble_eq_true rfl) ?_
  intro p e s m below meth c hx hb hml hown hg hr hlocks hK hN hX H hH hP ls hl
  have hl : lv_has ls 2 [(0, .ref (ad 0)), (1, .int (nI q))] := hl
  obtain ⟨j, hk, hj, hlA, hlB, hlC⟩ := hv.2.2.1 q hq
  refine lv_aload_n hx hb dX1_setBy_0 rfl (lv_at hl 0 rfl) ?_
  refine gfl hx hb hg inX1 hown hK hP 0 (ci := 1) rfl rfl 0 (by decide) wd_70 rfl dX1_setBy_1 ?_
  refine lv_iload_n hx hb dX1_setBy_4 rfl (lv_at hl 1 rfl) ?_
  refine ldn hx hb hK hP 1 0 rfl rfl (by omega) (by decide) dX1_setBy_5 ?_
  refine topv (nI j) hk ?_
  rcases (show j = 0 ∨ j = 1 ∨ j = 2 ∨ j = 3 ∨ j = 4 ∨ j = 5 ∨ j = 6 ∨ j = 7 ∨ j = 8 ∨ j = 9 ∨ j = 10 ∨ j = 11 ∨ j = 12 ∨ j = 13 by omega) with rfl | rfl | rfl | rfl | rfl | rfl | rfl | rfl | rfl | rfl | rfl | rfl | rfl | rfl
  · refine lv_tableOut (tgt := 80) hx hb dX1_setBy_6 (by decide) (by decide) ?_
    refine lv_iconst (v := 0) hx hb dX1_setBy_80 (by decide) ?_
    exact retRI (v := 0) hx hb hr hlocks hH dX1_setBy_81 (by unfold setI; rw [kd_of hk hj]; first | (simp [hae, hbe, hce, ix_nI (show a < 2 ^ 31 by omega), ix_nI (show b < 2 ^ 31 by omega), ix_nI (show d < 2 ^ 31 by omega)]; done) | (simp [hae, hbe, ix_nI (show a < 2 ^ 31 by omega), ix_nI (show b < 2 ^ 31 by omega)]; done) | (simp [hae, ix_nI (show a < 2 ^ 31 by omega)]; done) | (simp [hbe, ix_nI (show b < 2 ^ 31 by omega)]; done) | (simp; done))
  · obtain ⟨a, ha1, hae⟩ := lim_nI hlA (by decide)
    have ha1 : a < 8 := ha1
    refine lv_tableIn (off := 54) (tgt := 60) hx hb dX1_setBy_6 (by decide) (by decide) (by rfl) (by decide) ?_
    refine lv_aload_n hx hb dX1_setBy_60 rfl (lv_at hl 0 rfl) ?_
    refine gfl hx hb hg inX1 hown hK hP 0 (ci := 1) rfl rfl 1 (by decide) wd_74 rfl dX1_setBy_61 ?_
    refine lv_iload_n hx hb dX1_setBy_64 rfl (lv_at hl 1 rfl) ?_
    refine ldn hx hb hK hP 2 0 rfl rfl (by omega) (by decide) dX1_setBy_65 ?_
    refine topv (nI a) hae ?_
    refine callR (runS hx hb hg hown hml hl.1 (c_X1_registerBit l D k (q := a)) [.int (nI a)] [] (preR (mapSome_sub hP [] rfl) hK hN xb0 x0) wd_334 wd_335 wd_50 wd_336 lk_X1_registerBit ⟨rfl, rfl⟩ ⟨by decide, by decide⟩ ⟨Nat.zero_le _, Nat.zero_le _⟩ rfl (Nat.le_of_ble_eq_true rfl) dX1_setBy_66) (fun r_66 q_66 => ?_)
    obtain rfl := q_66
    exact retRI (v := bitI a) hx hb hr hlocks hH dX1_setBy_69 (by unfold setI; rw [kd_of hk hj]; first | (simp [hae, hbe, hce, ix_nI (show a < 2 ^ 31 by omega), ix_nI (show b < 2 ^ 31 by omega), ix_nI (show d < 2 ^ 31 by omega)]; done) | (simp [hae, hbe, ix_nI (show a < 2 ^ 31 by omega), ix_nI (show b < 2 ^ 31 by omega)]; done) | (simp [hae, ix_nI (show a < 2 ^ 31 by omega)]; done) | (simp [hbe, ix_nI (show b < 2 ^ 31 by omega)]; done) | (simp; done))
  · obtain ⟨a, ha1, hae⟩ := lim_nI hlA (by decide)
    have ha1 : a < 8 := ha1
    obtain ⟨b, hb1, hbe⟩ := lim_nI hlB (by decide)
    have hb1 : b < 4 := hb1
    refine lv_tableIn (off := 54) (tgt := 60) hx hb dX1_setBy_6 (by decide) (by decide) (by rfl) (by decide) ?_
    refine lv_aload_n hx hb dX1_setBy_60 rfl (lv_at hl 0 rfl) ?_
    refine gfl hx hb hg inX1 hown hK hP 0 (ci := 1) rfl rfl 1 (by decide) wd_74 rfl dX1_setBy_61 ?_
    refine lv_iload_n hx hb dX1_setBy_64 rfl (lv_at hl 1 rfl) ?_
    refine ldn hx hb hK hP 2 0 rfl rfl (by omega) (by decide) dX1_setBy_65 ?_
    refine topv (nI a) hae ?_
    refine callR (runS hx hb hg hown hml hl.1 (c_X1_registerBit l D k (q := a)) [.int (nI a)] [] (preR (mapSome_sub hP [] rfl) hK hN xb0 x0) wd_334 wd_335 wd_50 wd_336 lk_X1_registerBit ⟨rfl, rfl⟩ ⟨by decide, by decide⟩ ⟨Nat.zero_le _, Nat.zero_le _⟩ rfl (Nat.le_of_ble_eq_true rfl) dX1_setBy_66) (fun r_66 q_66 => ?_)
    obtain rfl := q_66
    exact retRI (v := bitI a) hx hb hr hlocks hH dX1_setBy_69 (by unfold setI; rw [kd_of hk hj]; first | (simp [hae, hbe, hce, ix_nI (show a < 2 ^ 31 by omega), ix_nI (show b < 2 ^ 31 by omega), ix_nI (show d < 2 ^ 31 by omega)]; done) | (simp [hae, hbe, ix_nI (show a < 2 ^ 31 by omega), ix_nI (show b < 2 ^ 31 by omega)]; done) | (simp [hae, ix_nI (show a < 2 ^ 31 by omega)]; done) | (simp [hbe, ix_nI (show b < 2 ^ 31 by omega)]; done) | (simp; done))
  · obtain ⟨a, ha1, hae⟩ := lim_nI hlA (by decide)
    have ha1 : a < 8 := ha1
    obtain ⟨b, hb1, hbe⟩ := lim_nI hlB (by decide)
    have hb1 : b < 8 := hb1
    obtain ⟨d, hc1, hce⟩ := lim_nI hlC (by decide)
    have hc1 : d < 8 := hc1
    refine lv_tableIn (off := 54) (tgt := 60) hx hb dX1_setBy_6 (by decide) (by decide) (by rfl) (by decide) ?_
    refine lv_aload_n hx hb dX1_setBy_60 rfl (lv_at hl 0 rfl) ?_
    refine gfl hx hb hg inX1 hown hK hP 0 (ci := 1) rfl rfl 1 (by decide) wd_74 rfl dX1_setBy_61 ?_
    refine lv_iload_n hx hb dX1_setBy_64 rfl (lv_at hl 1 rfl) ?_
    refine ldn hx hb hK hP 2 0 rfl rfl (by omega) (by decide) dX1_setBy_65 ?_
    refine topv (nI a) hae ?_
    refine callR (runS hx hb hg hown hml hl.1 (c_X1_registerBit l D k (q := a)) [.int (nI a)] [] (preR (mapSome_sub hP [] rfl) hK hN xb0 x0) wd_334 wd_335 wd_50 wd_336 lk_X1_registerBit ⟨rfl, rfl⟩ ⟨by decide, by decide⟩ ⟨Nat.zero_le _, Nat.zero_le _⟩ rfl (Nat.le_of_ble_eq_true rfl) dX1_setBy_66) (fun r_66 q_66 => ?_)
    obtain rfl := q_66
    exact retRI (v := bitI a) hx hb hr hlocks hH dX1_setBy_69 (by unfold setI; rw [kd_of hk hj]; first | (simp [hae, hbe, hce, ix_nI (show a < 2 ^ 31 by omega), ix_nI (show b < 2 ^ 31 by omega), ix_nI (show d < 2 ^ 31 by omega)]; done) | (simp [hae, hbe, ix_nI (show a < 2 ^ 31 by omega), ix_nI (show b < 2 ^ 31 by omega)]; done) | (simp [hae, ix_nI (show a < 2 ^ 31 by omega)]; done) | (simp [hbe, ix_nI (show b < 2 ^ 31 by omega)]; done) | (simp; done))
  · obtain ⟨a, ha1, hae⟩ := lim_nI hlA (by decide)
    have ha1 : a < 8 := ha1
    obtain ⟨b, hb1, hbe⟩ := lim_nI hlB (by decide)
    have hb1 : b < 8 := hb1
    obtain ⟨d, hc1, hce⟩ := lim_nI hlC (by decide)
    have hc1 : d < 8 := hc1
    refine lv_tableIn (off := 54) (tgt := 60) hx hb dX1_setBy_6 (by decide) (by decide) (by rfl) (by decide) ?_
    refine lv_aload_n hx hb dX1_setBy_60 rfl (lv_at hl 0 rfl) ?_
    refine gfl hx hb hg inX1 hown hK hP 0 (ci := 1) rfl rfl 1 (by decide) wd_74 rfl dX1_setBy_61 ?_
    refine lv_iload_n hx hb dX1_setBy_64 rfl (lv_at hl 1 rfl) ?_
    refine ldn hx hb hK hP 2 0 rfl rfl (by omega) (by decide) dX1_setBy_65 ?_
    refine topv (nI a) hae ?_
    refine callR (runS hx hb hg hown hml hl.1 (c_X1_registerBit l D k (q := a)) [.int (nI a)] [] (preR (mapSome_sub hP [] rfl) hK hN xb0 x0) wd_334 wd_335 wd_50 wd_336 lk_X1_registerBit ⟨rfl, rfl⟩ ⟨by decide, by decide⟩ ⟨Nat.zero_le _, Nat.zero_le _⟩ rfl (Nat.le_of_ble_eq_true rfl) dX1_setBy_66) (fun r_66 q_66 => ?_)
    obtain rfl := q_66
    exact retRI (v := bitI a) hx hb hr hlocks hH dX1_setBy_69 (by unfold setI; rw [kd_of hk hj]; first | (simp [hae, hbe, hce, ix_nI (show a < 2 ^ 31 by omega), ix_nI (show b < 2 ^ 31 by omega), ix_nI (show d < 2 ^ 31 by omega)]; done) | (simp [hae, hbe, ix_nI (show a < 2 ^ 31 by omega), ix_nI (show b < 2 ^ 31 by omega)]; done) | (simp [hae, ix_nI (show a < 2 ^ 31 by omega)]; done) | (simp [hbe, ix_nI (show b < 2 ^ 31 by omega)]; done) | (simp; done))
  · obtain ⟨a, ha1, hae⟩ := lim_nI hlA (by decide)
    have ha1 : a < 8 := ha1
    obtain ⟨b, hb1, hbe⟩ := lim_nI hlB (by decide)
    have hb1 : b < 8 := hb1
    obtain ⟨d, hc1, hce⟩ := lim_nI hlC (by decide)
    have hc1 : d < 8 := hc1
    refine lv_tableIn (off := 54) (tgt := 60) hx hb dX1_setBy_6 (by decide) (by decide) (by rfl) (by decide) ?_
    refine lv_aload_n hx hb dX1_setBy_60 rfl (lv_at hl 0 rfl) ?_
    refine gfl hx hb hg inX1 hown hK hP 0 (ci := 1) rfl rfl 1 (by decide) wd_74 rfl dX1_setBy_61 ?_
    refine lv_iload_n hx hb dX1_setBy_64 rfl (lv_at hl 1 rfl) ?_
    refine ldn hx hb hK hP 2 0 rfl rfl (by omega) (by decide) dX1_setBy_65 ?_
    refine topv (nI a) hae ?_
    refine callR (runS hx hb hg hown hml hl.1 (c_X1_registerBit l D k (q := a)) [.int (nI a)] [] (preR (mapSome_sub hP [] rfl) hK hN xb0 x0) wd_334 wd_335 wd_50 wd_336 lk_X1_registerBit ⟨rfl, rfl⟩ ⟨by decide, by decide⟩ ⟨Nat.zero_le _, Nat.zero_le _⟩ rfl (Nat.le_of_ble_eq_true rfl) dX1_setBy_66) (fun r_66 q_66 => ?_)
    obtain rfl := q_66
    exact retRI (v := bitI a) hx hb hr hlocks hH dX1_setBy_69 (by unfold setI; rw [kd_of hk hj]; first | (simp [hae, hbe, hce, ix_nI (show a < 2 ^ 31 by omega), ix_nI (show b < 2 ^ 31 by omega), ix_nI (show d < 2 ^ 31 by omega)]; done) | (simp [hae, hbe, ix_nI (show a < 2 ^ 31 by omega), ix_nI (show b < 2 ^ 31 by omega)]; done) | (simp [hae, ix_nI (show a < 2 ^ 31 by omega)]; done) | (simp [hbe, ix_nI (show b < 2 ^ 31 by omega)]; done) | (simp; done))
  · obtain ⟨a, ha1, hae⟩ := lim_nI hlA (by decide)
    have ha1 : a < 8 := ha1
    obtain ⟨b, hb1, hbe⟩ := lim_nI hlB (by decide)
    have hb1 : b < 8 := hb1
    obtain ⟨d, hc1, hce⟩ := lim_nI hlC (by decide)
    have hc1 : d < 8 := hc1
    refine lv_tableIn (off := 54) (tgt := 60) hx hb dX1_setBy_6 (by decide) (by decide) (by rfl) (by decide) ?_
    refine lv_aload_n hx hb dX1_setBy_60 rfl (lv_at hl 0 rfl) ?_
    refine gfl hx hb hg inX1 hown hK hP 0 (ci := 1) rfl rfl 1 (by decide) wd_74 rfl dX1_setBy_61 ?_
    refine lv_iload_n hx hb dX1_setBy_64 rfl (lv_at hl 1 rfl) ?_
    refine ldn hx hb hK hP 2 0 rfl rfl (by omega) (by decide) dX1_setBy_65 ?_
    refine topv (nI a) hae ?_
    refine callR (runS hx hb hg hown hml hl.1 (c_X1_registerBit l D k (q := a)) [.int (nI a)] [] (preR (mapSome_sub hP [] rfl) hK hN xb0 x0) wd_334 wd_335 wd_50 wd_336 lk_X1_registerBit ⟨rfl, rfl⟩ ⟨by decide, by decide⟩ ⟨Nat.zero_le _, Nat.zero_le _⟩ rfl (Nat.le_of_ble_eq_true rfl) dX1_setBy_66) (fun r_66 q_66 => ?_)
    obtain rfl := q_66
    exact retRI (v := bitI a) hx hb hr hlocks hH dX1_setBy_69 (by unfold setI; rw [kd_of hk hj]; first | (simp [hae, hbe, hce, ix_nI (show a < 2 ^ 31 by omega), ix_nI (show b < 2 ^ 31 by omega), ix_nI (show d < 2 ^ 31 by omega)]; done) | (simp [hae, hbe, ix_nI (show a < 2 ^ 31 by omega), ix_nI (show b < 2 ^ 31 by omega)]; done) | (simp [hae, ix_nI (show a < 2 ^ 31 by omega)]; done) | (simp [hbe, ix_nI (show b < 2 ^ 31 by omega)]; done) | (simp; done))
  · obtain ⟨a, ha1, hae⟩ := lim_nI hlA (by decide)
    have ha1 : a < 8 := ha1
    obtain ⟨b, hb1, hbe⟩ := lim_nI hlB (by decide)
    have hb1 : b < 8 := hb1
    obtain ⟨d, hc1, hce⟩ := lim_nI hlC (by decide)
    have hc1 : d < 4 := hc1
    refine lv_tableIn (off := 74) (tgt := 80) hx hb dX1_setBy_6 (by decide) (by decide) (by rfl) (by decide) ?_
    refine lv_iconst (v := 0) hx hb dX1_setBy_80 (by decide) ?_
    exact retRI (v := 0) hx hb hr hlocks hH dX1_setBy_81 (by unfold setI; rw [kd_of hk hj]; first | (simp [hae, hbe, hce, ix_nI (show a < 2 ^ 31 by omega), ix_nI (show b < 2 ^ 31 by omega), ix_nI (show d < 2 ^ 31 by omega)]; done) | (simp [hae, hbe, ix_nI (show a < 2 ^ 31 by omega), ix_nI (show b < 2 ^ 31 by omega)]; done) | (simp [hae, ix_nI (show a < 2 ^ 31 by omega)]; done) | (simp [hbe, ix_nI (show b < 2 ^ 31 by omega)]; done) | (simp; done))
  · obtain ⟨a, ha1, hae⟩ := lim_nI hlA (by decide)
    have ha1 : a < 8 := ha1
    obtain ⟨b, hb1, hbe⟩ := lim_nI hlB (by decide)
    have hb1 : b < 8 := hb1
    obtain ⟨d, hc1, hce⟩ := lim_nI hlC (by decide)
    have hc1 : d < 4 := hc1
    refine lv_tableIn (off := 54) (tgt := 60) hx hb dX1_setBy_6 (by decide) (by decide) (by rfl) (by decide) ?_
    refine lv_aload_n hx hb dX1_setBy_60 rfl (lv_at hl 0 rfl) ?_
    refine gfl hx hb hg inX1 hown hK hP 0 (ci := 1) rfl rfl 1 (by decide) wd_74 rfl dX1_setBy_61 ?_
    refine lv_iload_n hx hb dX1_setBy_64 rfl (lv_at hl 1 rfl) ?_
    refine ldn hx hb hK hP 2 0 rfl rfl (by omega) (by decide) dX1_setBy_65 ?_
    refine topv (nI a) hae ?_
    refine callR (runS hx hb hg hown hml hl.1 (c_X1_registerBit l D k (q := a)) [.int (nI a)] [] (preR (mapSome_sub hP [] rfl) hK hN xb0 x0) wd_334 wd_335 wd_50 wd_336 lk_X1_registerBit ⟨rfl, rfl⟩ ⟨by decide, by decide⟩ ⟨Nat.zero_le _, Nat.zero_le _⟩ rfl (Nat.le_of_ble_eq_true rfl) dX1_setBy_66) (fun r_66 q_66 => ?_)
    obtain rfl := q_66
    exact retRI (v := bitI a) hx hb hr hlocks hH dX1_setBy_69 (by unfold setI; rw [kd_of hk hj]; first | (simp [hae, hbe, hce, ix_nI (show a < 2 ^ 31 by omega), ix_nI (show b < 2 ^ 31 by omega), ix_nI (show d < 2 ^ 31 by omega)]; done) | (simp [hae, hbe, ix_nI (show a < 2 ^ 31 by omega), ix_nI (show b < 2 ^ 31 by omega)]; done) | (simp [hae, ix_nI (show a < 2 ^ 31 by omega)]; done) | (simp [hbe, ix_nI (show b < 2 ^ 31 by omega)]; done) | (simp; done))
  · obtain ⟨a, ha1, hae⟩ := lim_nI hlA (by decide)
    have ha1 : a < 8 := ha1
    obtain ⟨b, hb1, hbe⟩ := lim_nI hlB (by decide)
    have hb1 : b < 4 := hb1
    refine lv_tableIn (off := 54) (tgt := 60) hx hb dX1_setBy_6 (by decide) (by decide) (by rfl) (by decide) ?_
    refine lv_aload_n hx hb dX1_setBy_60 rfl (lv_at hl 0 rfl) ?_
    refine gfl hx hb hg inX1 hown hK hP 0 (ci := 1) rfl rfl 1 (by decide) wd_74 rfl dX1_setBy_61 ?_
    refine lv_iload_n hx hb dX1_setBy_64 rfl (lv_at hl 1 rfl) ?_
    refine ldn hx hb hK hP 2 0 rfl rfl (by omega) (by decide) dX1_setBy_65 ?_
    refine topv (nI a) hae ?_
    refine callR (runS hx hb hg hown hml hl.1 (c_X1_registerBit l D k (q := a)) [.int (nI a)] [] (preR (mapSome_sub hP [] rfl) hK hN xb0 x0) wd_334 wd_335 wd_50 wd_336 lk_X1_registerBit ⟨rfl, rfl⟩ ⟨by decide, by decide⟩ ⟨Nat.zero_le _, Nat.zero_le _⟩ rfl (Nat.le_of_ble_eq_true rfl) dX1_setBy_66) (fun r_66 q_66 => ?_)
    obtain rfl := q_66
    exact retRI (v := bitI a) hx hb hr hlocks hH dX1_setBy_69 (by unfold setI; rw [kd_of hk hj]; first | (simp [hae, hbe, hce, ix_nI (show a < 2 ^ 31 by omega), ix_nI (show b < 2 ^ 31 by omega), ix_nI (show d < 2 ^ 31 by omega)]; done) | (simp [hae, hbe, ix_nI (show a < 2 ^ 31 by omega), ix_nI (show b < 2 ^ 31 by omega)]; done) | (simp [hae, ix_nI (show a < 2 ^ 31 by omega)]; done) | (simp [hbe, ix_nI (show b < 2 ^ 31 by omega)]; done) | (simp; done))
  · obtain ⟨a, ha1, hae⟩ := lim_nI hlA (by decide)
    have ha1 : a < 8 := ha1
    obtain ⟨b, hb1, hbe⟩ := lim_nI hlB (by decide)
    have hb1 : b < 4 := hb1
    refine lv_tableIn (off := 64) (tgt := 70) hx hb dX1_setBy_6 (by decide) (by decide) (by rfl) (by decide) ?_
    refine lv_aload_n hx hb dX1_setBy_70 rfl (lv_at hl 0 rfl) ?_
    refine gfl hx hb hg inX1 hown hK hP 0 (ci := 1) rfl rfl 2 (by decide) wd_76 rfl dX1_setBy_71 ?_
    refine lv_iload_n hx hb dX1_setBy_74 rfl (lv_at hl 1 rfl) ?_
    refine ldn hx hb hK hP 3 0 rfl rfl (by omega) (by decide) dX1_setBy_75 ?_
    refine topv (nI b) hbe ?_
    refine callR (runS hx hb hg hown hml hl.1 (c_X1_globalBit l D k (q := b)) [.int (nI b)] [] (preR (mapSome_sub hP [] rfl) hK hN xb0 x0) wd_337 wd_338 wd_50 wd_339 lk_X1_globalBit ⟨rfl, rfl⟩ ⟨by decide, by decide⟩ ⟨Nat.zero_le _, Nat.zero_le _⟩ rfl (Nat.le_of_ble_eq_true rfl) dX1_setBy_76) (fun r_76 q_76 => ?_)
    obtain rfl := q_76
    exact retRI (v := bitI (8 + b)) hx hb hr hlocks hH dX1_setBy_79 (by unfold setI; rw [kd_of hk hj]; first | (simp [hae, hbe, hce, ix_nI (show a < 2 ^ 31 by omega), ix_nI (show b < 2 ^ 31 by omega), ix_nI (show d < 2 ^ 31 by omega)]; done) | (simp [hae, hbe, ix_nI (show a < 2 ^ 31 by omega), ix_nI (show b < 2 ^ 31 by omega)]; done) | (simp [hae, ix_nI (show a < 2 ^ 31 by omega)]; done) | (simp [hbe, ix_nI (show b < 2 ^ 31 by omega)]; done) | (simp; done))
  · obtain ⟨a, ha1, hae⟩ := lim_nI hlA (by decide)
    have ha1 : a < 8 := ha1
    obtain ⟨b, hb1, hbe⟩ := lim_nI hlB (by decide)
    have hb1 : b < 25 := hb1
    refine lv_tableOut (tgt := 80) hx hb dX1_setBy_6 (by decide) (by decide) ?_
    refine lv_iconst (v := 0) hx hb dX1_setBy_80 (by decide) ?_
    exact retRI (v := 0) hx hb hr hlocks hH dX1_setBy_81 (by unfold setI; rw [kd_of hk hj]; first | (simp [hae, hbe, hce, ix_nI (show a < 2 ^ 31 by omega), ix_nI (show b < 2 ^ 31 by omega), ix_nI (show d < 2 ^ 31 by omega)]; done) | (simp [hae, hbe, ix_nI (show a < 2 ^ 31 by omega), ix_nI (show b < 2 ^ 31 by omega)]; done) | (simp [hae, ix_nI (show a < 2 ^ 31 by omega)]; done) | (simp [hbe, ix_nI (show b < 2 ^ 31 by omega)]; done) | (simp; done))
  · obtain ⟨b, hb1, hbe⟩ := lim_nI hlB (by decide)
    have hb1 : b < 25 := hb1
    refine lv_tableOut (tgt := 80) hx hb dX1_setBy_6 (by decide) (by decide) ?_
    refine lv_iconst (v := 0) hx hb dX1_setBy_80 (by decide) ?_
    exact retRI (v := 0) hx hb hr hlocks hH dX1_setBy_81 (by unfold setI; rw [kd_of hk hj]; first | (simp [hae, hbe, hce, ix_nI (show a < 2 ^ 31 by omega), ix_nI (show b < 2 ^ 31 by omega), ix_nI (show d < 2 ^ 31 by omega)]; done) | (simp [hae, hbe, ix_nI (show a < 2 ^ 31 by omega), ix_nI (show b < 2 ^ 31 by omega)]; done) | (simp [hae, ix_nI (show a < 2 ^ 31 by omega)]; done) | (simp [hbe, ix_nI (show b < 2 ^ 31 by omega)]; done) | (simp; done))
  · refine lv_tableOut (tgt := 80) hx hb dX1_setBy_6 (by decide) (by decide) ?_
    refine lv_iconst (v := 0) hx hb dX1_setBy_80 (by decide) ?_
    exact retRI (v := 0) hx hb hr hlocks hH dX1_setBy_81 (by unfold setI; rw [kd_of hk hj]; first | (simp [hae, hbe, hce, ix_nI (show a < 2 ^ 31 by omega), ix_nI (show b < 2 ^ 31 by omega), ix_nI (show d < 2 ^ 31 by omega)]; done) | (simp [hae, hbe, ix_nI (show a < 2 ^ 31 by omega), ix_nI (show b < 2 ^ 31 by omega)]; done) | (simp [hae, ix_nI (show a < 2 ^ 31 by omega)]; done) | (simp [hbe, ix_nI (show b < 2 ^ 31 by omega)]; done) | (simp; done))
abbrev rmX1_thinlyReadBy : Room := { frames := 1, cells := 0, slots := 0, locals := 20 }
theorem lk_X1_thinlyReadBy : Lk yX1_thinlyReadBy 1 := by decide +kernel
set_option maxHeartbeats 4000000 in
set_option maxRecDepth 100000 in
/-- thinlyReadBy(p) -/
theorem c_X1_thinlyReadBy (l : Launch) (D : va_G) (k : Nat → ClassId) (ad : Nat → Nat) (V : St) {n : Nat} (hv : okV n V) {q : Nat} (hq : q < 24) : CtR noX l yX1_thinlyReadBy cX1_thinlyReadBy 2 (some .int) rmX1_thinlyReadBy D (tyL k) (wP k ad V) [.ref (ad 0), .int (nI q)] (fun r => r = thrI V q) := by
  refine CtR.mk (by decide) (Nat.le_of_ble_eq_true rfl) ?_
  intro p e s m below meth c hx hb hml hown hg hr hlocks hK hN hX H hH hP ls hl
  have hl : lv_has ls 2 [(0, .ref (ad 0)), (1, .int (nI q))] := hl
  obtain ⟨j, hk, hj, hlA, hlB, hlC⟩ := hv.2.2.1 q hq
  refine lv_aload_n hx hb dX1_thinlyReadBy_0 rfl (lv_at hl 0 rfl) ?_
  refine gfl hx hb hg inX1 hown hK hP 0 (ci := 1) rfl rfl 0 (by decide) wd_70 rfl dX1_thinlyReadBy_1 ?_
  refine lv_iload_n hx hb dX1_thinlyReadBy_4 rfl (lv_at hl 1 rfl) ?_
  refine ldn hx hb hK hP 1 0 rfl rfl (by omega) (by decide) dX1_thinlyReadBy_5 ?_
  refine topv (nI j) hk ?_
  rcases (show j = 0 ∨ j = 1 ∨ j = 2 ∨ j = 3 ∨ j = 4 ∨ j = 5 ∨ j = 6 ∨ j = 7 ∨ j = 8 ∨ j = 9 ∨ j = 10 ∨ j = 11 ∨ j = 12 ∨ j = 13 by omega) with rfl | rfl | rfl | rfl | rfl | rfl | rfl | rfl | rfl | rfl | rfl | rfl | rfl | rfl
  · refine lv_tableOut (tgt := 92) hx hb dX1_thinlyReadBy_6 (by decide) (by decide) ?_
    refine lv_iconst (v := 0) hx hb dX1_thinlyReadBy_92 (by decide) ?_
    exact retRI (v := 0) hx hb hr hlocks hH dX1_thinlyReadBy_93 (by unfold thrI; rw [kd_of hk hj]; first | (simp [hae, hbe, hce, ix_nI (show a < 2 ^ 31 by omega), ix_nI (show b < 2 ^ 31 by omega), ix_nI (show d < 2 ^ 31 by omega)]; done) | (simp [hae, hbe, ix_nI (show a < 2 ^ 31 by omega), ix_nI (show b < 2 ^ 31 by omega)]; done) | (simp [hae, ix_nI (show a < 2 ^ 31 by omega)]; done) | (simp [hbe, ix_nI (show b < 2 ^ 31 by omega)]; done) | (simp; done))
  · obtain ⟨a, ha1, hae⟩ := lim_nI hlA (by decide)
    have ha1 : a < 8 := ha1
    refine lv_tableOut (tgt := 92) hx hb dX1_thinlyReadBy_6 (by decide) (by decide) ?_
    refine lv_iconst (v := 0) hx hb dX1_thinlyReadBy_92 (by decide) ?_
    exact retRI (v := 0) hx hb hr hlocks hH dX1_thinlyReadBy_93 (by unfold thrI; rw [kd_of hk hj]; first | (simp [hae, hbe, hce, ix_nI (show a < 2 ^ 31 by omega), ix_nI (show b < 2 ^ 31 by omega), ix_nI (show d < 2 ^ 31 by omega)]; done) | (simp [hae, hbe, ix_nI (show a < 2 ^ 31 by omega), ix_nI (show b < 2 ^ 31 by omega)]; done) | (simp [hae, ix_nI (show a < 2 ^ 31 by omega)]; done) | (simp [hbe, ix_nI (show b < 2 ^ 31 by omega)]; done) | (simp; done))
  · obtain ⟨a, ha1, hae⟩ := lim_nI hlA (by decide)
    have ha1 : a < 8 := ha1
    obtain ⟨b, hb1, hbe⟩ := lim_nI hlB (by decide)
    have hb1 : b < 4 := hb1
    refine lv_tableOut (tgt := 92) hx hb dX1_thinlyReadBy_6 (by decide) (by decide) ?_
    refine lv_iconst (v := 0) hx hb dX1_thinlyReadBy_92 (by decide) ?_
    exact retRI (v := 0) hx hb hr hlocks hH dX1_thinlyReadBy_93 (by unfold thrI; rw [kd_of hk hj]; first | (simp [hae, hbe, hce, ix_nI (show a < 2 ^ 31 by omega), ix_nI (show b < 2 ^ 31 by omega), ix_nI (show d < 2 ^ 31 by omega)]; done) | (simp [hae, hbe, ix_nI (show a < 2 ^ 31 by omega), ix_nI (show b < 2 ^ 31 by omega)]; done) | (simp [hae, ix_nI (show a < 2 ^ 31 by omega)]; done) | (simp [hbe, ix_nI (show b < 2 ^ 31 by omega)]; done) | (simp; done))
  · obtain ⟨a, ha1, hae⟩ := lim_nI hlA (by decide)
    have ha1 : a < 8 := ha1
    obtain ⟨b, hb1, hbe⟩ := lim_nI hlB (by decide)
    have hb1 : b < 8 := hb1
    obtain ⟨d, hc1, hce⟩ := lim_nI hlC (by decide)
    have hc1 : d < 8 := hc1
    refine lv_tableIn (off := 46) (tgt := 52) hx hb dX1_thinlyReadBy_6 (by decide) (by decide) (by rfl) (by decide) ?_
    refine lv_aload_n hx hb dX1_thinlyReadBy_52 rfl (lv_at hl 0 rfl) ?_
    refine gfl hx hb hg inX1 hown hK hP 0 (ci := 1) rfl rfl 2 (by decide) wd_76 rfl dX1_thinlyReadBy_53 ?_
    refine lv_iload_n hx hb dX1_thinlyReadBy_56 rfl (lv_at hl 1 rfl) ?_
    refine ldn hx hb hK hP 3 0 rfl rfl (by omega) (by decide) dX1_thinlyReadBy_57 ?_
    refine topv (nI b) hbe ?_
    refine callR (runS hx hb hg hown hml hl.1 (c_X1_registerBit l D k (q := b)) [.int (nI b)] [] (preR (mapSome_sub hP [] rfl) hK hN xb0 x0) wd_334 wd_335 wd_50 wd_336 lk_X1_registerBit ⟨rfl, rfl⟩ ⟨by decide, by decide⟩ ⟨Nat.zero_le _, Nat.zero_le _⟩ rfl (Nat.le_of_ble_eq_true rfl) dX1_thinlyReadBy_58) (fun r_58 q_58 => ?_)
    obtain rfl := q_58
    refine lv_aload_n hx hb dX1_thinlyReadBy_61 rfl (lv_at hl 0 rfl) ?_
    refine gfl hx hb hg inX1 hown hK hP 0 (ci := 1) rfl rfl 3 (by decide) wd_78 rfl dX1_thinlyReadBy_62 ?_
    refine lv_iload_n hx hb dX1_thinlyReadBy_65 rfl (lv_at hl 1 rfl) ?_
    refine ldn hx hb hK hP 4 0 rfl rfl (by omega) (by decide) dX1_thinlyReadBy_66 ?_
    refine topv (nI d) hce ?_
    refine callR (runS hx hb hg hown hml hl.1 (c_X1_registerBit l D k (q := d)) [.int (nI d)] [.int (bitI b)] (preR (mapSome_sub hP [] rfl) hK hN xb0 x0) wd_334 wd_335 wd_50 wd_336 lk_X1_registerBit ⟨rfl, rfl⟩ ⟨by decide, by decide⟩ ⟨Nat.zero_le _, Nat.zero_le _⟩ rfl (Nat.le_of_ble_eq_true rfl) dX1_thinlyReadBy_67) (fun r_67 q_67 => ?_)
    obtain rfl := q_67
    refine lv_ior hx hb dX1_thinlyReadBy_70 ?_
    exact retRI (v := (bitI b) ||| (bitI d)) hx hb hr hlocks hH dX1_thinlyReadBy_71 (by unfold thrI; rw [kd_of hk hj]; first | (simp [hae, hbe, hce, ix_nI (show a < 2 ^ 31 by omega), ix_nI (show b < 2 ^ 31 by omega), ix_nI (show d < 2 ^ 31 by omega)]; done) | (simp [hae, hbe, ix_nI (show a < 2 ^ 31 by omega), ix_nI (show b < 2 ^ 31 by omega)]; done) | (simp [hae, ix_nI (show a < 2 ^ 31 by omega)]; done) | (simp [hbe, ix_nI (show b < 2 ^ 31 by omega)]; done) | (simp; done))
  · obtain ⟨a, ha1, hae⟩ := lim_nI hlA (by decide)
    have ha1 : a < 8 := ha1
    obtain ⟨b, hb1, hbe⟩ := lim_nI hlB (by decide)
    have hb1 : b < 8 := hb1
    obtain ⟨d, hc1, hce⟩ := lim_nI hlC (by decide)
    have hc1 : d < 8 := hc1
    refine lv_tableIn (off := 46) (tgt := 52) hx hb dX1_thinlyReadBy_6 (by decide) (by decide) (by rfl) (by decide) ?_
    refine lv_aload_n hx hb dX1_thinlyReadBy_52 rfl (lv_at hl 0 rfl) ?_
    refine gfl hx hb hg inX1 hown hK hP 0 (ci := 1) rfl rfl 2 (by decide) wd_76 rfl dX1_thinlyReadBy_53 ?_
    refine lv_iload_n hx hb dX1_thinlyReadBy_56 rfl (lv_at hl 1 rfl) ?_
    refine ldn hx hb hK hP 3 0 rfl rfl (by omega) (by decide) dX1_thinlyReadBy_57 ?_
    refine topv (nI b) hbe ?_
    refine callR (runS hx hb hg hown hml hl.1 (c_X1_registerBit l D k (q := b)) [.int (nI b)] [] (preR (mapSome_sub hP [] rfl) hK hN xb0 x0) wd_334 wd_335 wd_50 wd_336 lk_X1_registerBit ⟨rfl, rfl⟩ ⟨by decide, by decide⟩ ⟨Nat.zero_le _, Nat.zero_le _⟩ rfl (Nat.le_of_ble_eq_true rfl) dX1_thinlyReadBy_58) (fun r_58 q_58 => ?_)
    obtain rfl := q_58
    refine lv_aload_n hx hb dX1_thinlyReadBy_61 rfl (lv_at hl 0 rfl) ?_
    refine gfl hx hb hg inX1 hown hK hP 0 (ci := 1) rfl rfl 3 (by decide) wd_78 rfl dX1_thinlyReadBy_62 ?_
    refine lv_iload_n hx hb dX1_thinlyReadBy_65 rfl (lv_at hl 1 rfl) ?_
    refine ldn hx hb hK hP 4 0 rfl rfl (by omega) (by decide) dX1_thinlyReadBy_66 ?_
    refine topv (nI d) hce ?_
    refine callR (runS hx hb hg hown hml hl.1 (c_X1_registerBit l D k (q := d)) [.int (nI d)] [.int (bitI b)] (preR (mapSome_sub hP [] rfl) hK hN xb0 x0) wd_334 wd_335 wd_50 wd_336 lk_X1_registerBit ⟨rfl, rfl⟩ ⟨by decide, by decide⟩ ⟨Nat.zero_le _, Nat.zero_le _⟩ rfl (Nat.le_of_ble_eq_true rfl) dX1_thinlyReadBy_67) (fun r_67 q_67 => ?_)
    obtain rfl := q_67
    refine lv_ior hx hb dX1_thinlyReadBy_70 ?_
    exact retRI (v := (bitI b) ||| (bitI d)) hx hb hr hlocks hH dX1_thinlyReadBy_71 (by unfold thrI; rw [kd_of hk hj]; first | (simp [hae, hbe, hce, ix_nI (show a < 2 ^ 31 by omega), ix_nI (show b < 2 ^ 31 by omega), ix_nI (show d < 2 ^ 31 by omega)]; done) | (simp [hae, hbe, ix_nI (show a < 2 ^ 31 by omega), ix_nI (show b < 2 ^ 31 by omega)]; done) | (simp [hae, ix_nI (show a < 2 ^ 31 by omega)]; done) | (simp [hbe, ix_nI (show b < 2 ^ 31 by omega)]; done) | (simp; done))
  · obtain ⟨a, ha1, hae⟩ := lim_nI hlA (by decide)
    have ha1 : a < 8 := ha1
    obtain ⟨b, hb1, hbe⟩ := lim_nI hlB (by decide)
    have hb1 : b < 8 := hb1
    obtain ⟨d, hc1, hce⟩ := lim_nI hlC (by decide)
    have hc1 : d < 8 := hc1
    refine lv_tableIn (off := 46) (tgt := 52) hx hb dX1_thinlyReadBy_6 (by decide) (by decide) (by rfl) (by decide) ?_
    refine lv_aload_n hx hb dX1_thinlyReadBy_52 rfl (lv_at hl 0 rfl) ?_
    refine gfl hx hb hg inX1 hown hK hP 0 (ci := 1) rfl rfl 2 (by decide) wd_76 rfl dX1_thinlyReadBy_53 ?_
    refine lv_iload_n hx hb dX1_thinlyReadBy_56 rfl (lv_at hl 1 rfl) ?_
    refine ldn hx hb hK hP 3 0 rfl rfl (by omega) (by decide) dX1_thinlyReadBy_57 ?_
    refine topv (nI b) hbe ?_
    refine callR (runS hx hb hg hown hml hl.1 (c_X1_registerBit l D k (q := b)) [.int (nI b)] [] (preR (mapSome_sub hP [] rfl) hK hN xb0 x0) wd_334 wd_335 wd_50 wd_336 lk_X1_registerBit ⟨rfl, rfl⟩ ⟨by decide, by decide⟩ ⟨Nat.zero_le _, Nat.zero_le _⟩ rfl (Nat.le_of_ble_eq_true rfl) dX1_thinlyReadBy_58) (fun r_58 q_58 => ?_)
    obtain rfl := q_58
    refine lv_aload_n hx hb dX1_thinlyReadBy_61 rfl (lv_at hl 0 rfl) ?_
    refine gfl hx hb hg inX1 hown hK hP 0 (ci := 1) rfl rfl 3 (by decide) wd_78 rfl dX1_thinlyReadBy_62 ?_
    refine lv_iload_n hx hb dX1_thinlyReadBy_65 rfl (lv_at hl 1 rfl) ?_
    refine ldn hx hb hK hP 4 0 rfl rfl (by omega) (by decide) dX1_thinlyReadBy_66 ?_
    refine topv (nI d) hce ?_
    refine callR (runS hx hb hg hown hml hl.1 (c_X1_registerBit l D k (q := d)) [.int (nI d)] [.int (bitI b)] (preR (mapSome_sub hP [] rfl) hK hN xb0 x0) wd_334 wd_335 wd_50 wd_336 lk_X1_registerBit ⟨rfl, rfl⟩ ⟨by decide, by decide⟩ ⟨Nat.zero_le _, Nat.zero_le _⟩ rfl (Nat.le_of_ble_eq_true rfl) dX1_thinlyReadBy_67) (fun r_67 q_67 => ?_)
    obtain rfl := q_67
    refine lv_ior hx hb dX1_thinlyReadBy_70 ?_
    exact retRI (v := (bitI b) ||| (bitI d)) hx hb hr hlocks hH dX1_thinlyReadBy_71 (by unfold thrI; rw [kd_of hk hj]; first | (simp [hae, hbe, hce, ix_nI (show a < 2 ^ 31 by omega), ix_nI (show b < 2 ^ 31 by omega), ix_nI (show d < 2 ^ 31 by omega)]; done) | (simp [hae, hbe, ix_nI (show a < 2 ^ 31 by omega), ix_nI (show b < 2 ^ 31 by omega)]; done) | (simp [hae, ix_nI (show a < 2 ^ 31 by omega)]; done) | (simp [hbe, ix_nI (show b < 2 ^ 31 by omega)]; done) | (simp; done))
  · obtain ⟨a, ha1, hae⟩ := lim_nI hlA (by decide)
    have ha1 : a < 8 := ha1
    obtain ⟨b, hb1, hbe⟩ := lim_nI hlB (by decide)
    have hb1 : b < 8 := hb1
    obtain ⟨d, hc1, hce⟩ := lim_nI hlC (by decide)
    have hc1 : d < 8 := hc1
    refine lv_tableIn (off := 46) (tgt := 52) hx hb dX1_thinlyReadBy_6 (by decide) (by decide) (by rfl) (by decide) ?_
    refine lv_aload_n hx hb dX1_thinlyReadBy_52 rfl (lv_at hl 0 rfl) ?_
    refine gfl hx hb hg inX1 hown hK hP 0 (ci := 1) rfl rfl 2 (by decide) wd_76 rfl dX1_thinlyReadBy_53 ?_
    refine lv_iload_n hx hb dX1_thinlyReadBy_56 rfl (lv_at hl 1 rfl) ?_
    refine ldn hx hb hK hP 3 0 rfl rfl (by omega) (by decide) dX1_thinlyReadBy_57 ?_
    refine topv (nI b) hbe ?_
    refine callR (runS hx hb hg hown hml hl.1 (c_X1_registerBit l D k (q := b)) [.int (nI b)] [] (preR (mapSome_sub hP [] rfl) hK hN xb0 x0) wd_334 wd_335 wd_50 wd_336 lk_X1_registerBit ⟨rfl, rfl⟩ ⟨by decide, by decide⟩ ⟨Nat.zero_le _, Nat.zero_le _⟩ rfl (Nat.le_of_ble_eq_true rfl) dX1_thinlyReadBy_58) (fun r_58 q_58 => ?_)
    obtain rfl := q_58
    refine lv_aload_n hx hb dX1_thinlyReadBy_61 rfl (lv_at hl 0 rfl) ?_
    refine gfl hx hb hg inX1 hown hK hP 0 (ci := 1) rfl rfl 3 (by decide) wd_78 rfl dX1_thinlyReadBy_62 ?_
    refine lv_iload_n hx hb dX1_thinlyReadBy_65 rfl (lv_at hl 1 rfl) ?_
    refine ldn hx hb hK hP 4 0 rfl rfl (by omega) (by decide) dX1_thinlyReadBy_66 ?_
    refine topv (nI d) hce ?_
    refine callR (runS hx hb hg hown hml hl.1 (c_X1_registerBit l D k (q := d)) [.int (nI d)] [.int (bitI b)] (preR (mapSome_sub hP [] rfl) hK hN xb0 x0) wd_334 wd_335 wd_50 wd_336 lk_X1_registerBit ⟨rfl, rfl⟩ ⟨by decide, by decide⟩ ⟨Nat.zero_le _, Nat.zero_le _⟩ rfl (Nat.le_of_ble_eq_true rfl) dX1_thinlyReadBy_67) (fun r_67 q_67 => ?_)
    obtain rfl := q_67
    refine lv_ior hx hb dX1_thinlyReadBy_70 ?_
    exact retRI (v := (bitI b) ||| (bitI d)) hx hb hr hlocks hH dX1_thinlyReadBy_71 (by unfold thrI; rw [kd_of hk hj]; first | (simp [hae, hbe, hce, ix_nI (show a < 2 ^ 31 by omega), ix_nI (show b < 2 ^ 31 by omega), ix_nI (show d < 2 ^ 31 by omega)]; done) | (simp [hae, hbe, ix_nI (show a < 2 ^ 31 by omega), ix_nI (show b < 2 ^ 31 by omega)]; done) | (simp [hae, ix_nI (show a < 2 ^ 31 by omega)]; done) | (simp [hbe, ix_nI (show b < 2 ^ 31 by omega)]; done) | (simp; done))
  · obtain ⟨a, ha1, hae⟩ := lim_nI hlA (by decide)
    have ha1 : a < 8 := ha1
    obtain ⟨b, hb1, hbe⟩ := lim_nI hlB (by decide)
    have hb1 : b < 8 := hb1
    obtain ⟨d, hc1, hce⟩ := lim_nI hlC (by decide)
    have hc1 : d < 4 := hc1
    refine lv_tableIn (off := 66) (tgt := 72) hx hb dX1_thinlyReadBy_6 (by decide) (by decide) (by rfl) (by decide) ?_
    refine lv_aload_n hx hb dX1_thinlyReadBy_72 rfl (lv_at hl 0 rfl) ?_
    refine gfl hx hb hg inX1 hown hK hP 0 (ci := 1) rfl rfl 1 (by decide) wd_74 rfl dX1_thinlyReadBy_73 ?_
    refine lv_iload_n hx hb dX1_thinlyReadBy_76 rfl (lv_at hl 1 rfl) ?_
    refine ldn hx hb hK hP 2 0 rfl rfl (by omega) (by decide) dX1_thinlyReadBy_77 ?_
    refine topv (nI a) hae ?_
    refine callR (runS hx hb hg hown hml hl.1 (c_X1_registerBit l D k (q := a)) [.int (nI a)] [] (preR (mapSome_sub hP [] rfl) hK hN xb0 x0) wd_334 wd_335 wd_50 wd_336 lk_X1_registerBit ⟨rfl, rfl⟩ ⟨by decide, by decide⟩ ⟨Nat.zero_le _, Nat.zero_le _⟩ rfl (Nat.le_of_ble_eq_true rfl) dX1_thinlyReadBy_78) (fun r_78 q_78 => ?_)
    obtain rfl := q_78
    exact retRI (v := bitI a) hx hb hr hlocks hH dX1_thinlyReadBy_81 (by unfold thrI; rw [kd_of hk hj]; first | (simp [hae, hbe, hce, ix_nI (show a < 2 ^ 31 by omega), ix_nI (show b < 2 ^ 31 by omega), ix_nI (show d < 2 ^ 31 by omega)]; done) | (simp [hae, hbe, ix_nI (show a < 2 ^ 31 by omega), ix_nI (show b < 2 ^ 31 by omega)]; done) | (simp [hae, ix_nI (show a < 2 ^ 31 by omega)]; done) | (simp [hbe, ix_nI (show b < 2 ^ 31 by omega)]; done) | (simp; done))
  · obtain ⟨a, ha1, hae⟩ := lim_nI hlA (by decide)
    have ha1 : a < 8 := ha1
    obtain ⟨b, hb1, hbe⟩ := lim_nI hlB (by decide)
    have hb1 : b < 8 := hb1
    obtain ⟨d, hc1, hce⟩ := lim_nI hlC (by decide)
    have hc1 : d < 4 := hc1
    refine lv_tableIn (off := 86) (tgt := 92) hx hb dX1_thinlyReadBy_6 (by decide) (by decide) (by rfl) (by decide) ?_
    refine lv_iconst (v := 0) hx hb dX1_thinlyReadBy_92 (by decide) ?_
    exact retRI (v := 0) hx hb hr hlocks hH dX1_thinlyReadBy_93 (by unfold thrI; rw [kd_of hk hj]; first | (simp [hae, hbe, hce, ix_nI (show a < 2 ^ 31 by omega), ix_nI (show b < 2 ^ 31 by omega), ix_nI (show d < 2 ^ 31 by omega)]; done) | (simp [hae, hbe, ix_nI (show a < 2 ^ 31 by omega), ix_nI (show b < 2 ^ 31 by omega)]; done) | (simp [hae, ix_nI (show a < 2 ^ 31 by omega)]; done) | (simp [hbe, ix_nI (show b < 2 ^ 31 by omega)]; done) | (simp; done))
  · obtain ⟨a, ha1, hae⟩ := lim_nI hlA (by decide)
    have ha1 : a < 8 := ha1
    obtain ⟨b, hb1, hbe⟩ := lim_nI hlB (by decide)
    have hb1 : b < 4 := hb1
    refine lv_tableIn (off := 76) (tgt := 82) hx hb dX1_thinlyReadBy_6 (by decide) (by decide) (by rfl) (by decide) ?_
    refine lv_aload_n hx hb dX1_thinlyReadBy_82 rfl (lv_at hl 0 rfl) ?_
    refine gfl hx hb hg inX1 hown hK hP 0 (ci := 1) rfl rfl 2 (by decide) wd_76 rfl dX1_thinlyReadBy_83 ?_
    refine lv_iload_n hx hb dX1_thinlyReadBy_86 rfl (lv_at hl 1 rfl) ?_
    refine ldn hx hb hK hP 3 0 rfl rfl (by omega) (by decide) dX1_thinlyReadBy_87 ?_
    refine topv (nI b) hbe ?_
    refine callR (runS hx hb hg hown hml hl.1 (c_X1_globalBit l D k (q := b)) [.int (nI b)] [] (preR (mapSome_sub hP [] rfl) hK hN xb0 x0) wd_337 wd_338 wd_50 wd_339 lk_X1_globalBit ⟨rfl, rfl⟩ ⟨by decide, by decide⟩ ⟨Nat.zero_le _, Nat.zero_le _⟩ rfl (Nat.le_of_ble_eq_true rfl) dX1_thinlyReadBy_88) (fun r_88 q_88 => ?_)
    obtain rfl := q_88
    exact retRI (v := bitI (8 + b)) hx hb hr hlocks hH dX1_thinlyReadBy_91 (by unfold thrI; rw [kd_of hk hj]; first | (simp [hae, hbe, hce, ix_nI (show a < 2 ^ 31 by omega), ix_nI (show b < 2 ^ 31 by omega), ix_nI (show d < 2 ^ 31 by omega)]; done) | (simp [hae, hbe, ix_nI (show a < 2 ^ 31 by omega), ix_nI (show b < 2 ^ 31 by omega)]; done) | (simp [hae, ix_nI (show a < 2 ^ 31 by omega)]; done) | (simp [hbe, ix_nI (show b < 2 ^ 31 by omega)]; done) | (simp; done))
  · obtain ⟨a, ha1, hae⟩ := lim_nI hlA (by decide)
    have ha1 : a < 8 := ha1
    obtain ⟨b, hb1, hbe⟩ := lim_nI hlB (by decide)
    have hb1 : b < 4 := hb1
    refine lv_tableIn (off := 66) (tgt := 72) hx hb dX1_thinlyReadBy_6 (by decide) (by decide) (by rfl) (by decide) ?_
    refine lv_aload_n hx hb dX1_thinlyReadBy_72 rfl (lv_at hl 0 rfl) ?_
    refine gfl hx hb hg inX1 hown hK hP 0 (ci := 1) rfl rfl 1 (by decide) wd_74 rfl dX1_thinlyReadBy_73 ?_
    refine lv_iload_n hx hb dX1_thinlyReadBy_76 rfl (lv_at hl 1 rfl) ?_
    refine ldn hx hb hK hP 2 0 rfl rfl (by omega) (by decide) dX1_thinlyReadBy_77 ?_
    refine topv (nI a) hae ?_
    refine callR (runS hx hb hg hown hml hl.1 (c_X1_registerBit l D k (q := a)) [.int (nI a)] [] (preR (mapSome_sub hP [] rfl) hK hN xb0 x0) wd_334 wd_335 wd_50 wd_336 lk_X1_registerBit ⟨rfl, rfl⟩ ⟨by decide, by decide⟩ ⟨Nat.zero_le _, Nat.zero_le _⟩ rfl (Nat.le_of_ble_eq_true rfl) dX1_thinlyReadBy_78) (fun r_78 q_78 => ?_)
    obtain rfl := q_78
    exact retRI (v := bitI a) hx hb hr hlocks hH dX1_thinlyReadBy_81 (by unfold thrI; rw [kd_of hk hj]; first | (simp [hae, hbe, hce, ix_nI (show a < 2 ^ 31 by omega), ix_nI (show b < 2 ^ 31 by omega), ix_nI (show d < 2 ^ 31 by omega)]; done) | (simp [hae, hbe, ix_nI (show a < 2 ^ 31 by omega), ix_nI (show b < 2 ^ 31 by omega)]; done) | (simp [hae, ix_nI (show a < 2 ^ 31 by omega)]; done) | (simp [hbe, ix_nI (show b < 2 ^ 31 by omega)]; done) | (simp; done))
  · obtain ⟨a, ha1, hae⟩ := lim_nI hlA (by decide)
    have ha1 : a < 8 := ha1
    obtain ⟨b, hb1, hbe⟩ := lim_nI hlB (by decide)
    have hb1 : b < 25 := hb1
    refine lv_tableOut (tgt := 92) hx hb dX1_thinlyReadBy_6 (by decide) (by decide) ?_
    refine lv_iconst (v := 0) hx hb dX1_thinlyReadBy_92 (by decide) ?_
    exact retRI (v := 0) hx hb hr hlocks hH dX1_thinlyReadBy_93 (by unfold thrI; rw [kd_of hk hj]; first | (simp [hae, hbe, hce, ix_nI (show a < 2 ^ 31 by omega), ix_nI (show b < 2 ^ 31 by omega), ix_nI (show d < 2 ^ 31 by omega)]; done) | (simp [hae, hbe, ix_nI (show a < 2 ^ 31 by omega), ix_nI (show b < 2 ^ 31 by omega)]; done) | (simp [hae, ix_nI (show a < 2 ^ 31 by omega)]; done) | (simp [hbe, ix_nI (show b < 2 ^ 31 by omega)]; done) | (simp; done))
  · obtain ⟨b, hb1, hbe⟩ := lim_nI hlB (by decide)
    have hb1 : b < 25 := hb1
    refine lv_tableOut (tgt := 92) hx hb dX1_thinlyReadBy_6 (by decide) (by decide) ?_
    refine lv_iconst (v := 0) hx hb dX1_thinlyReadBy_92 (by decide) ?_
    exact retRI (v := 0) hx hb hr hlocks hH dX1_thinlyReadBy_93 (by unfold thrI; rw [kd_of hk hj]; first | (simp [hae, hbe, hce, ix_nI (show a < 2 ^ 31 by omega), ix_nI (show b < 2 ^ 31 by omega), ix_nI (show d < 2 ^ 31 by omega)]; done) | (simp [hae, hbe, ix_nI (show a < 2 ^ 31 by omega), ix_nI (show b < 2 ^ 31 by omega)]; done) | (simp [hae, ix_nI (show a < 2 ^ 31 by omega)]; done) | (simp [hbe, ix_nI (show b < 2 ^ 31 by omega)]; done) | (simp; done))
  · refine lv_tableOut (tgt := 92) hx hb dX1_thinlyReadBy_6 (by decide) (by decide) ?_
    refine lv_iconst (v := 0) hx hb dX1_thinlyReadBy_92 (by decide) ?_
    exact retRI (v := 0) hx hb hr hlocks hH dX1_thinlyReadBy_93 (by unfold thrI; rw [kd_of hk hj]; first | (simp [hae, hbe, hce, ix_nI (show a < 2 ^ 31 by omega), ix_nI (show b < 2 ^ 31 by omega), ix_nI (show d < 2 ^ 31 by omega)]; done) | (simp [hae, hbe, ix_nI (show a < 2 ^ 31 by omega), ix_nI (show b < 2 ^ 31 by omega)]; done) | (simp [hae, ix_nI (show a < 2 ^ 31 by omega)]; done) | (simp [hbe, ix_nI (show b < 2 ^ 31 by omega)]; done) | (simp; done))
abbrev rmX1_readBy : Room := { frames := 2, cells := 0, slots := 0, locals := 41 }
theorem lk_X1_readBy : Lk yX1_readBy 1 := by decide +kernel
set_option maxHeartbeats 4000000 in
set_option maxRecDepth 100000 in
/-- readBy(p) -/
theorem c_X1_readBy (l : Launch) (D : va_G) (k : Nat → ClassId) (ad : Nat → Nat) (V : St) {n : Nat} (hv : okV n V) {q : Nat} (hq : q < 24) : CtR noX l yX1_readBy cX1_readBy 2 (some .int) rmX1_readBy D (tyL k) (wP k ad V) [.ref (ad 0), .int (nI q)] (fun r => r = rdI V q) := by
  refine CtR.mk (by decide) (Nat.le_of_ble_eq_true rfl) ?_
  intro p e s m below meth c hx hb hml hown hg hr hlocks hK hN hX H hH hP ls hl
  have hl : lv_has ls 2 [(0, .ref (ad 0)), (1, .int (nI q))] := hl
  obtain ⟨j, hk, hj, hlA, hlB, hlC⟩ := hv.2.2.1 q hq
  refine lv_aload_n hx hb dX1_readBy_0 rfl (lv_at hl 0 rfl) ?_
  refine gfl hx hb hg inX1 hown hK hP 0 (ci := 1) rfl rfl 0 (by decide) wd_70 rfl dX1_readBy_1 ?_
  refine lv_iload_n hx hb dX1_readBy_4 rfl (lv_at hl 1 rfl) ?_
  refine ldn hx hb hK hP 1 0 rfl rfl (by omega) (by decide) dX1_readBy_5 ?_
  refine topv (nI j) hk ?_
  rcases (show j = 0 ∨ j = 1 ∨ j = 2 ∨ j = 3 ∨ j = 4 ∨ j = 5 ∨ j = 6 ∨ j = 7 ∨ j = 8 ∨ j = 9 ∨ j = 10 ∨ j = 11 ∨ j = 12 ∨ j = 13 by omega) with rfl | rfl | rfl | rfl | rfl | rfl | rfl | rfl | rfl | rfl | rfl | rfl | rfl | rfl
  · refine lv_tableOut (tgt := 80) hx hb dX1_readBy_6 (by decide) (by decide) ?_
    refine lv_aload_n hx hb dX1_readBy_80 rfl (lv_at hl 0 rfl) ?_
    refine lv_iload_n hx hb dX1_readBy_81 rfl (lv_at hl 1 rfl) ?_
    refine callR (runV hx hb hg hown hml hl.1 (c_X1_thinlyReadBy l D k ad V hv hq) [.int (nI q)] [] (preR (mapSome_sub hP [0, 1, 2, 3, 4, 5, 6, 7] rfl) hK hN xb0 x0) (va_recv hK hP (ci := 1) (q0 := 0) rfl rfl) wd_352 wd_353 wd_354 wd_50 wd_355 lk_X1_thinlyReadBy ⟨rfl, rfl⟩ ⟨by decide, by decide⟩ ⟨Nat.zero_le _, Nat.zero_le _⟩ rfl (Nat.le_of_ble_eq_true rfl) dX1_readBy_82) (fun r_82 q_82 => ?_)
    obtain rfl := q_82
    exact retRI (v := thrI V q) hx hb hr hlocks hH dX1_readBy_85 (by unfold rdI; rw [kd_of hk hj]; first | (simp [hae, hbe, hce, ix_nI (show a < 2 ^ 31 by omega), ix_nI (show b < 2 ^ 31 by omega), ix_nI (show d < 2 ^ 31 by omega)]; done) | (simp [hae, hbe, ix_nI (show a < 2 ^ 31 by omega), ix_nI (show b < 2 ^ 31 by omega)]; done) | (simp [hae, ix_nI (show a < 2 ^ 31 by omega)]; done) | (simp [hbe, ix_nI (show b < 2 ^ 31 by omega)]; done) | (simp; done))
  · obtain ⟨a, ha1, hae⟩ := lim_nI hlA (by decide)
    have ha1 : a < 8 := ha1
    refine lv_tableOut (tgt := 80) hx hb dX1_readBy_6 (by decide) (by decide) ?_
    refine lv_aload_n hx hb dX1_readBy_80 rfl (lv_at hl 0 rfl) ?_
    refine lv_iload_n hx hb dX1_readBy_81 rfl (lv_at hl 1 rfl) ?_
    refine callR (runV hx hb hg hown hml hl.1 (c_X1_thinlyReadBy l D k ad V hv hq) [.int (nI q)] [] (preR (mapSome_sub hP [0, 1, 2, 3, 4, 5, 6, 7] rfl) hK hN xb0 x0) (va_recv hK hP (ci := 1) (q0 := 0) rfl rfl) wd_352 wd_353 wd_354 wd_50 wd_355 lk_X1_thinlyReadBy ⟨rfl, rfl⟩ ⟨by decide, by decide⟩ ⟨Nat.zero_le _, Nat.zero_le _⟩ rfl (Nat.le_of_ble_eq_true rfl) dX1_readBy_82) (fun r_82 q_82 => ?_)
    obtain rfl := q_82
    exact retRI (v := thrI V q) hx hb hr hlocks hH dX1_readBy_85 (by unfold rdI; rw [kd_of hk hj]; first | (simp [hae, hbe, hce, ix_nI (show a < 2 ^ 31 by omega), ix_nI (show b < 2 ^ 31 by omega), ix_nI (show d < 2 ^ 31 by omega)]; done) | (simp [hae, hbe, ix_nI (show a < 2 ^ 31 by omega), ix_nI (show b < 2 ^ 31 by omega)]; done) | (simp [hae, ix_nI (show a < 2 ^ 31 by omega)]; done) | (simp [hbe, ix_nI (show b < 2 ^ 31 by omega)]; done) | (simp; done))
  · obtain ⟨a, ha1, hae⟩ := lim_nI hlA (by decide)
    have ha1 : a < 8 := ha1
    obtain ⟨b, hb1, hbe⟩ := lim_nI hlB (by decide)
    have hb1 : b < 4 := hb1
    refine lv_tableOut (tgt := 80) hx hb dX1_readBy_6 (by decide) (by decide) ?_
    refine lv_aload_n hx hb dX1_readBy_80 rfl (lv_at hl 0 rfl) ?_
    refine lv_iload_n hx hb dX1_readBy_81 rfl (lv_at hl 1 rfl) ?_
    refine callR (runV hx hb hg hown hml hl.1 (c_X1_thinlyReadBy l D k ad V hv hq) [.int (nI q)] [] (preR (mapSome_sub hP [0, 1, 2, 3, 4, 5, 6, 7] rfl) hK hN xb0 x0) (va_recv hK hP (ci := 1) (q0 := 0) rfl rfl) wd_352 wd_353 wd_354 wd_50 wd_355 lk_X1_thinlyReadBy ⟨rfl, rfl⟩ ⟨by decide, by decide⟩ ⟨Nat.zero_le _, Nat.zero_le _⟩ rfl (Nat.le_of_ble_eq_true rfl) dX1_readBy_82) (fun r_82 q_82 => ?_)
    obtain rfl := q_82
    exact retRI (v := thrI V q) hx hb hr hlocks hH dX1_readBy_85 (by unfold rdI; rw [kd_of hk hj]; first | (simp [hae, hbe, hce, ix_nI (show a < 2 ^ 31 by omega), ix_nI (show b < 2 ^ 31 by omega), ix_nI (show d < 2 ^ 31 by omega)]; done) | (simp [hae, hbe, ix_nI (show a < 2 ^ 31 by omega), ix_nI (show b < 2 ^ 31 by omega)]; done) | (simp [hae, ix_nI (show a < 2 ^ 31 by omega)]; done) | (simp [hbe, ix_nI (show b < 2 ^ 31 by omega)]; done) | (simp; done))
  · obtain ⟨a, ha1, hae⟩ := lim_nI hlA (by decide)
    have ha1 : a < 8 := ha1
    obtain ⟨b, hb1, hbe⟩ := lim_nI hlB (by decide)
    have hb1 : b < 8 := hb1
    obtain ⟨d, hc1, hce⟩ := lim_nI hlC (by decide)
    have hc1 : d < 8 := hc1
    refine lv_tableOut (tgt := 80) hx hb dX1_readBy_6 (by decide) (by decide) ?_
    refine lv_aload_n hx hb dX1_readBy_80 rfl (lv_at hl 0 rfl) ?_
    refine lv_iload_n hx hb dX1_readBy_81 rfl (lv_at hl 1 rfl) ?_
    refine callR (runV hx hb hg hown hml hl.1 (c_X1_thinlyReadBy l D k ad V hv hq) [.int (nI q)] [] (preR (mapSome_sub hP [0, 1, 2, 3, 4, 5, 6, 7] rfl) hK hN xb0 x0) (va_recv hK hP (ci := 1) (q0 := 0) rfl rfl) wd_352 wd_353 wd_354 wd_50 wd_355 lk_X1_thinlyReadBy ⟨rfl, rfl⟩ ⟨by decide, by decide⟩ ⟨Nat.zero_le _, Nat.zero_le _⟩ rfl (Nat.le_of_ble_eq_true rfl) dX1_readBy_82) (fun r_82 q_82 => ?_)
    obtain rfl := q_82
    exact retRI (v := thrI V q) hx hb hr hlocks hH dX1_readBy_85 (by unfold rdI; rw [kd_of hk hj]; first | (simp [hae, hbe, hce, ix_nI (show a < 2 ^ 31 by omega), ix_nI (show b < 2 ^ 31 by omega), ix_nI (show d < 2 ^ 31 by omega)]; done) | (simp [hae, hbe, ix_nI (show a < 2 ^ 31 by omega), ix_nI (show b < 2 ^ 31 by omega)]; done) | (simp [hae, ix_nI (show a < 2 ^ 31 by omega)]; done) | (simp [hbe, ix_nI (show b < 2 ^ 31 by omega)]; done) | (simp; done))
  · obtain ⟨a, ha1, hae⟩ := lim_nI hlA (by decide)
    have ha1 : a < 8 := ha1
    obtain ⟨b, hb1, hbe⟩ := lim_nI hlB (by decide)
    have hb1 : b < 8 := hb1
    obtain ⟨d, hc1, hce⟩ := lim_nI hlC (by decide)
    have hc1 : d < 8 := hc1
    refine lv_tableOut (tgt := 80) hx hb dX1_readBy_6 (by decide) (by decide) ?_
    refine lv_aload_n hx hb dX1_readBy_80 rfl (lv_at hl 0 rfl) ?_
    refine lv_iload_n hx hb dX1_readBy_81 rfl (lv_at hl 1 rfl) ?_
    refine callR (runV hx hb hg hown hml hl.1 (c_X1_thinlyReadBy l D k ad V hv hq) [.int (nI q)] [] (preR (mapSome_sub hP [0, 1, 2, 3, 4, 5, 6, 7] rfl) hK hN xb0 x0) (va_recv hK hP (ci := 1) (q0 := 0) rfl rfl) wd_352 wd_353 wd_354 wd_50 wd_355 lk_X1_thinlyReadBy ⟨rfl, rfl⟩ ⟨by decide, by decide⟩ ⟨Nat.zero_le _, Nat.zero_le _⟩ rfl (Nat.le_of_ble_eq_true rfl) dX1_readBy_82) (fun r_82 q_82 => ?_)
    obtain rfl := q_82
    exact retRI (v := thrI V q) hx hb hr hlocks hH dX1_readBy_85 (by unfold rdI; rw [kd_of hk hj]; first | (simp [hae, hbe, hce, ix_nI (show a < 2 ^ 31 by omega), ix_nI (show b < 2 ^ 31 by omega), ix_nI (show d < 2 ^ 31 by omega)]; done) | (simp [hae, hbe, ix_nI (show a < 2 ^ 31 by omega), ix_nI (show b < 2 ^ 31 by omega)]; done) | (simp [hae, ix_nI (show a < 2 ^ 31 by omega)]; done) | (simp [hbe, ix_nI (show b < 2 ^ 31 by omega)]; done) | (simp; done))
  · obtain ⟨a, ha1, hae⟩ := lim_nI hlA (by decide)
    have ha1 : a < 8 := ha1
    obtain ⟨b, hb1, hbe⟩ := lim_nI hlB (by decide)
    have hb1 : b < 8 := hb1
    obtain ⟨d, hc1, hce⟩ := lim_nI hlC (by decide)
    have hc1 : d < 8 := hc1
    refine lv_tableOut (tgt := 80) hx hb dX1_readBy_6 (by decide) (by decide) ?_
    refine lv_aload_n hx hb dX1_readBy_80 rfl (lv_at hl 0 rfl) ?_
    refine lv_iload_n hx hb dX1_readBy_81 rfl (lv_at hl 1 rfl) ?_
    refine callR (runV hx hb hg hown hml hl.1 (c_X1_thinlyReadBy l D k ad V hv hq) [.int (nI q)] [] (preR (mapSome_sub hP [0, 1, 2, 3, 4, 5, 6, 7] rfl) hK hN xb0 x0) (va_recv hK hP (ci := 1) (q0 := 0) rfl rfl) wd_352 wd_353 wd_354 wd_50 wd_355 lk_X1_thinlyReadBy ⟨rfl, rfl⟩ ⟨by decide, by decide⟩ ⟨Nat.zero_le _, Nat.zero_le _⟩ rfl (Nat.le_of_ble_eq_true rfl) dX1_readBy_82) (fun r_82 q_82 => ?_)
    obtain rfl := q_82
    exact retRI (v := thrI V q) hx hb hr hlocks hH dX1_readBy_85 (by unfold rdI; rw [kd_of hk hj]; first | (simp [hae, hbe, hce, ix_nI (show a < 2 ^ 31 by omega), ix_nI (show b < 2 ^ 31 by omega), ix_nI (show d < 2 ^ 31 by omega)]; done) | (simp [hae, hbe, ix_nI (show a < 2 ^ 31 by omega), ix_nI (show b < 2 ^ 31 by omega)]; done) | (simp [hae, ix_nI (show a < 2 ^ 31 by omega)]; done) | (simp [hbe, ix_nI (show b < 2 ^ 31 by omega)]; done) | (simp; done))
  · obtain ⟨a, ha1, hae⟩ := lim_nI hlA (by decide)
    have ha1 : a < 8 := ha1
    obtain ⟨b, hb1, hbe⟩ := lim_nI hlB (by decide)
    have hb1 : b < 8 := hb1
    obtain ⟨d, hc1, hce⟩ := lim_nI hlC (by decide)
    have hc1 : d < 8 := hc1
    refine lv_tableOut (tgt := 80) hx hb dX1_readBy_6 (by decide) (by decide) ?_
    refine lv_aload_n hx hb dX1_readBy_80 rfl (lv_at hl 0 rfl) ?_
    refine lv_iload_n hx hb dX1_readBy_81 rfl (lv_at hl 1 rfl) ?_
    refine callR (runV hx hb hg hown hml hl.1 (c_X1_thinlyReadBy l D k ad V hv hq) [.int (nI q)] [] (preR (mapSome_sub hP [0, 1, 2, 3, 4, 5, 6, 7] rfl) hK hN xb0 x0) (va_recv hK hP (ci := 1) (q0 := 0) rfl rfl) wd_352 wd_353 wd_354 wd_50 wd_355 lk_X1_thinlyReadBy ⟨rfl, rfl⟩ ⟨by decide, by decide⟩ ⟨Nat.zero_le _, Nat.zero_le _⟩ rfl (Nat.le_of_ble_eq_true rfl) dX1_readBy_82) (fun r_82 q_82 => ?_)
    obtain rfl := q_82
    exact retRI (v := thrI V q) hx hb hr hlocks hH dX1_readBy_85 (by unfold rdI; rw [kd_of hk hj]; first | (simp [hae, hbe, hce, ix_nI (show a < 2 ^ 31 by omega), ix_nI (show b < 2 ^ 31 by omega), ix_nI (show d < 2 ^ 31 by omega)]; done) | (simp [hae, hbe, ix_nI (show a < 2 ^ 31 by omega), ix_nI (show b < 2 ^ 31 by omega)]; done) | (simp [hae, ix_nI (show a < 2 ^ 31 by omega)]; done) | (simp [hbe, ix_nI (show b < 2 ^ 31 by omega)]; done) | (simp; done))
  · obtain ⟨a, ha1, hae⟩ := lim_nI hlA (by decide)
    have ha1 : a < 8 := ha1
    obtain ⟨b, hb1, hbe⟩ := lim_nI hlB (by decide)
    have hb1 : b < 8 := hb1
    obtain ⟨d, hc1, hce⟩ := lim_nI hlC (by decide)
    have hc1 : d < 4 := hc1
    refine lv_tableIn (off := 34) (tgt := 40) hx hb dX1_readBy_6 (by decide) (by decide) (by rfl) (by decide) ?_
    refine lv_aload_n hx hb dX1_readBy_40 rfl (lv_at hl 0 rfl) ?_
    refine gfl hx hb hg inX1 hown hK hP 0 (ci := 1) rfl rfl 1 (by decide) wd_74 rfl dX1_readBy_41 ?_
    refine lv_iload_n hx hb dX1_readBy_44 rfl (lv_at hl 1 rfl) ?_
    refine ldn hx hb hK hP 2 0 rfl rfl (by omega) (by decide) dX1_readBy_45 ?_
    refine topv (nI a) hae ?_
    refine callR (runS hx hb hg hown hml hl.1 (c_X1_registerBit l D k (q := a)) [.int (nI a)] [] (preR (mapSome_sub hP [] rfl) hK hN xb0 x0) wd_334 wd_335 wd_50 wd_336 lk_X1_registerBit ⟨rfl, rfl⟩ ⟨by decide, by decide⟩ ⟨Nat.zero_le _, Nat.zero_le _⟩ rfl (Nat.le_of_ble_eq_true rfl) dX1_readBy_46) (fun r_46 q_46 => ?_)
    obtain rfl := q_46
    refine lv_aload_n hx hb dX1_readBy_49 rfl (lv_at hl 0 rfl) ?_
    refine gfl hx hb hg inX1 hown hK hP 0 (ci := 1) rfl rfl 2 (by decide) wd_76 rfl dX1_readBy_50 ?_
    refine lv_iload_n hx hb dX1_readBy_53 rfl (lv_at hl 1 rfl) ?_
    refine ldn hx hb hK hP 3 0 rfl rfl (by omega) (by decide) dX1_readBy_54 ?_
    refine topv (nI b) hbe ?_
    refine callR (runS hx hb hg hown hml hl.1 (c_X1_registerBit l D k (q := b)) [.int (nI b)] [.int (bitI a)] (preR (mapSome_sub hP [] rfl) hK hN xb0 x0) wd_334 wd_335 wd_50 wd_336 lk_X1_registerBit ⟨rfl, rfl⟩ ⟨by decide, by decide⟩ ⟨Nat.zero_le _, Nat.zero_le _⟩ rfl (Nat.le_of_ble_eq_true rfl) dX1_readBy_55) (fun r_55 q_55 => ?_)
    obtain rfl := q_55
    refine lv_ior hx hb dX1_readBy_58 ?_
    exact retRI (v := (bitI a) ||| (bitI b)) hx hb hr hlocks hH dX1_readBy_59 (by unfold rdI; rw [kd_of hk hj]; first | (simp [hae, hbe, hce, ix_nI (show a < 2 ^ 31 by omega), ix_nI (show b < 2 ^ 31 by omega), ix_nI (show d < 2 ^ 31 by omega)]; done) | (simp [hae, hbe, ix_nI (show a < 2 ^ 31 by omega), ix_nI (show b < 2 ^ 31 by omega)]; done) | (simp [hae, ix_nI (show a < 2 ^ 31 by omega)]; done) | (simp [hbe, ix_nI (show b < 2 ^ 31 by omega)]; done) | (simp; done))
  · obtain ⟨a, ha1, hae⟩ := lim_nI hlA (by decide)
    have ha1 : a < 8 := ha1
    obtain ⟨b, hb1, hbe⟩ := lim_nI hlB (by decide)
    have hb1 : b < 8 := hb1
    obtain ⟨d, hc1, hce⟩ := lim_nI hlC (by decide)
    have hc1 : d < 4 := hc1
    refine lv_tableIn (off := 54) (tgt := 60) hx hb dX1_readBy_6 (by decide) (by decide) (by rfl) (by decide) ?_
    refine lv_aload_n hx hb dX1_readBy_60 rfl (lv_at hl 0 rfl) ?_
    refine gfl hx hb hg inX1 hown hK hP 0 (ci := 1) rfl rfl 2 (by decide) wd_76 rfl dX1_readBy_61 ?_
    refine lv_iload_n hx hb dX1_readBy_64 rfl (lv_at hl 1 rfl) ?_
    refine ldn hx hb hK hP 3 0 rfl rfl (by omega) (by decide) dX1_readBy_65 ?_
    refine topv (nI b) hbe ?_
    refine callR (runS hx hb hg hown hml hl.1 (c_X1_registerBit l D k (q := b)) [.int (nI b)] [] (preR (mapSome_sub hP [] rfl) hK hN xb0 x0) wd_334 wd_335 wd_50 wd_336 lk_X1_registerBit ⟨rfl, rfl⟩ ⟨by decide, by decide⟩ ⟨Nat.zero_le _, Nat.zero_le _⟩ rfl (Nat.le_of_ble_eq_true rfl) dX1_readBy_66) (fun r_66 q_66 => ?_)
    obtain rfl := q_66
    exact retRI (v := bitI b) hx hb hr hlocks hH dX1_readBy_69 (by unfold rdI; rw [kd_of hk hj]; first | (simp [hae, hbe, hce, ix_nI (show a < 2 ^ 31 by omega), ix_nI (show b < 2 ^ 31 by omega), ix_nI (show d < 2 ^ 31 by omega)]; done) | (simp [hae, hbe, ix_nI (show a < 2 ^ 31 by omega), ix_nI (show b < 2 ^ 31 by omega)]; done) | (simp [hae, ix_nI (show a < 2 ^ 31 by omega)]; done) | (simp [hbe, ix_nI (show b < 2 ^ 31 by omega)]; done) | (simp; done))
  · obtain ⟨a, ha1, hae⟩ := lim_nI hlA (by decide)
    have ha1 : a < 8 := ha1
    obtain ⟨b, hb1, hbe⟩ := lim_nI hlB (by decide)
    have hb1 : b < 4 := hb1
    refine lv_tableIn (off := 74) (tgt := 80) hx hb dX1_readBy_6 (by decide) (by decide) (by rfl) (by decide) ?_
    refine lv_aload_n hx hb dX1_readBy_80 rfl (lv_at hl 0 rfl) ?_
    refine lv_iload_n hx hb dX1_readBy_81 rfl (lv_at hl 1 rfl) ?_
    refine callR (runV hx hb hg hown hml hl.1 (c_X1_thinlyReadBy l D k ad V hv hq) [.int (nI q)] [] (preR (mapSome_sub hP [0, 1, 2, 3, 4, 5, 6, 7] rfl) hK hN xb0 x0) (va_recv hK hP (ci := 1) (q0 := 0) rfl rfl) wd_352 wd_353 wd_354 wd_50 wd_355 lk_X1_thinlyReadBy ⟨rfl, rfl⟩ ⟨by decide, by decide⟩ ⟨Nat.zero_le _, Nat.zero_le _⟩ rfl (Nat.le_of_ble_eq_true rfl) dX1_readBy_82) (fun r_82 q_82 => ?_)
    obtain rfl := q_82
    exact retRI (v := thrI V q) hx hb hr hlocks hH dX1_readBy_85 (by unfold rdI; rw [kd_of hk hj]; first | (simp [hae, hbe, hce, ix_nI (show a < 2 ^ 31 by omega), ix_nI (show b < 2 ^ 31 by omega), ix_nI (show d < 2 ^ 31 by omega)]; done) | (simp [hae, hbe, ix_nI (show a < 2 ^ 31 by omega), ix_nI (show b < 2 ^ 31 by omega)]; done) | (simp [hae, ix_nI (show a < 2 ^ 31 by omega)]; done) | (simp [hbe, ix_nI (show b < 2 ^ 31 by omega)]; done) | (simp; done))
  · obtain ⟨a, ha1, hae⟩ := lim_nI hlA (by decide)
    have ha1 : a < 8 := ha1
    obtain ⟨b, hb1, hbe⟩ := lim_nI hlB (by decide)
    have hb1 : b < 4 := hb1
    refine lv_tableIn (off := 74) (tgt := 80) hx hb dX1_readBy_6 (by decide) (by decide) (by rfl) (by decide) ?_
    refine lv_aload_n hx hb dX1_readBy_80 rfl (lv_at hl 0 rfl) ?_
    refine lv_iload_n hx hb dX1_readBy_81 rfl (lv_at hl 1 rfl) ?_
    refine callR (runV hx hb hg hown hml hl.1 (c_X1_thinlyReadBy l D k ad V hv hq) [.int (nI q)] [] (preR (mapSome_sub hP [0, 1, 2, 3, 4, 5, 6, 7] rfl) hK hN xb0 x0) (va_recv hK hP (ci := 1) (q0 := 0) rfl rfl) wd_352 wd_353 wd_354 wd_50 wd_355 lk_X1_thinlyReadBy ⟨rfl, rfl⟩ ⟨by decide, by decide⟩ ⟨Nat.zero_le _, Nat.zero_le _⟩ rfl (Nat.le_of_ble_eq_true rfl) dX1_readBy_82) (fun r_82 q_82 => ?_)
    obtain rfl := q_82
    exact retRI (v := thrI V q) hx hb hr hlocks hH dX1_readBy_85 (by unfold rdI; rw [kd_of hk hj]; first | (simp [hae, hbe, hce, ix_nI (show a < 2 ^ 31 by omega), ix_nI (show b < 2 ^ 31 by omega), ix_nI (show d < 2 ^ 31 by omega)]; done) | (simp [hae, hbe, ix_nI (show a < 2 ^ 31 by omega), ix_nI (show b < 2 ^ 31 by omega)]; done) | (simp [hae, ix_nI (show a < 2 ^ 31 by omega)]; done) | (simp [hbe, ix_nI (show b < 2 ^ 31 by omega)]; done) | (simp; done))
  · obtain ⟨a, ha1, hae⟩ := lim_nI hlA (by decide)
    have ha1 : a < 8 := ha1
    obtain ⟨b, hb1, hbe⟩ := lim_nI hlB (by decide)
    have hb1 : b < 25 := hb1
    refine lv_tableIn (off := 64) (tgt := 70) hx hb dX1_readBy_6 (by decide) (by decide) (by rfl) (by decide) ?_
    refine lv_aload_n hx hb dX1_readBy_70 rfl (lv_at hl 0 rfl) ?_
    refine gfl hx hb hg inX1 hown hK hP 0 (ci := 1) rfl rfl 1 (by decide) wd_74 rfl dX1_readBy_71 ?_
    refine lv_iload_n hx hb dX1_readBy_74 rfl (lv_at hl 1 rfl) ?_
    refine ldn hx hb hK hP 2 0 rfl rfl (by omega) (by decide) dX1_readBy_75 ?_
    refine topv (nI a) hae ?_
    refine callR (runS hx hb hg hown hml hl.1 (c_X1_registerBit l D k (q := a)) [.int (nI a)] [] (preR (mapSome_sub hP [] rfl) hK hN xb0 x0) wd_334 wd_335 wd_50 wd_336 lk_X1_registerBit ⟨rfl, rfl⟩ ⟨by decide, by decide⟩ ⟨Nat.zero_le _, Nat.zero_le _⟩ rfl (Nat.le_of_ble_eq_true rfl) dX1_readBy_76) (fun r_76 q_76 => ?_)
    obtain rfl := q_76
    exact retRI (v := bitI a) hx hb hr hlocks hH dX1_readBy_79 (by unfold rdI; rw [kd_of hk hj]; first | (simp [hae, hbe, hce, ix_nI (show a < 2 ^ 31 by omega), ix_nI (show b < 2 ^ 31 by omega), ix_nI (show d < 2 ^ 31 by omega)]; done) | (simp [hae, hbe, ix_nI (show a < 2 ^ 31 by omega), ix_nI (show b < 2 ^ 31 by omega)]; done) | (simp [hae, ix_nI (show a < 2 ^ 31 by omega)]; done) | (simp [hbe, ix_nI (show b < 2 ^ 31 by omega)]; done) | (simp; done))
  · obtain ⟨b, hb1, hbe⟩ := lim_nI hlB (by decide)
    have hb1 : b < 25 := hb1
    refine lv_tableOut (tgt := 80) hx hb dX1_readBy_6 (by decide) (by decide) ?_
    refine lv_aload_n hx hb dX1_readBy_80 rfl (lv_at hl 0 rfl) ?_
    refine lv_iload_n hx hb dX1_readBy_81 rfl (lv_at hl 1 rfl) ?_
    refine callR (runV hx hb hg hown hml hl.1 (c_X1_thinlyReadBy l D k ad V hv hq) [.int (nI q)] [] (preR (mapSome_sub hP [0, 1, 2, 3, 4, 5, 6, 7] rfl) hK hN xb0 x0) (va_recv hK hP (ci := 1) (q0 := 0) rfl rfl) wd_352 wd_353 wd_354 wd_50 wd_355 lk_X1_thinlyReadBy ⟨rfl, rfl⟩ ⟨by decide, by decide⟩ ⟨Nat.zero_le _, Nat.zero_le _⟩ rfl (Nat.le_of_ble_eq_true rfl) dX1_readBy_82) (fun r_82 q_82 => ?_)
    obtain rfl := q_82
    exact retRI (v := thrI V q) hx hb hr hlocks hH dX1_readBy_85 (by unfold rdI; rw [kd_of hk hj]; first | (simp [hae, hbe, hce, ix_nI (show a < 2 ^ 31 by omega), ix_nI (show b < 2 ^ 31 by omega), ix_nI (show d < 2 ^ 31 by omega)]; done) | (simp [hae, hbe, ix_nI (show a < 2 ^ 31 by omega), ix_nI (show b < 2 ^ 31 by omega)]; done) | (simp [hae, ix_nI (show a < 2 ^ 31 by omega)]; done) | (simp [hbe, ix_nI (show b < 2 ^ 31 by omega)]; done) | (simp; done))
  · refine lv_tableOut (tgt := 80) hx hb dX1_readBy_6 (by decide) (by decide) ?_
    refine lv_aload_n hx hb dX1_readBy_80 rfl (lv_at hl 0 rfl) ?_
    refine lv_iload_n hx hb dX1_readBy_81 rfl (lv_at hl 1 rfl) ?_
    refine callR (runV hx hb hg hown hml hl.1 (c_X1_thinlyReadBy l D k ad V hv hq) [.int (nI q)] [] (preR (mapSome_sub hP [0, 1, 2, 3, 4, 5, 6, 7] rfl) hK hN xb0 x0) (va_recv hK hP (ci := 1) (q0 := 0) rfl rfl) wd_352 wd_353 wd_354 wd_50 wd_355 lk_X1_thinlyReadBy ⟨rfl, rfl⟩ ⟨by decide, by decide⟩ ⟨Nat.zero_le _, Nat.zero_le _⟩ rfl (Nat.le_of_ble_eq_true rfl) dX1_readBy_82) (fun r_82 q_82 => ?_)
    obtain rfl := q_82
    exact retRI (v := thrI V q) hx hb hr hlocks hH dX1_readBy_85 (by unfold rdI; rw [kd_of hk hj]; first | (simp [hae, hbe, hce, ix_nI (show a < 2 ^ 31 by omega), ix_nI (show b < 2 ^ 31 by omega), ix_nI (show d < 2 ^ 31 by omega)]; done) | (simp [hae, hbe, ix_nI (show a < 2 ^ 31 by omega), ix_nI (show b < 2 ^ 31 by omega)]; done) | (simp [hae, ix_nI (show a < 2 ^ 31 by omega)]; done) | (simp [hbe, ix_nI (show b < 2 ^ 31 by omega)]; done) | (simp; done))
abbrev rmX1_mayShareRow : Room := { frames := 0, cells := 0, slots := 0, locals := 0 }
theorem lk_X1_mayShareRow : Lk yX1_mayShareRow 2 := by decide +kernel
set_option maxHeartbeats 4000000 in
set_option maxRecDepth 100000 in
/-- mayShareRow(p, q): of a PUT and a GET -/
theorem c_X1_mayShareRow (l : Launch) (D : va_G) (k : Nat → ClassId) (ad : Nat → Nat) (V : St) {n : Nat} (hv : okV n V) {q : Nat} (hq : q < 24) {v : Nat} (hv2 : v < 24) (h1 : vp_in (V 4 q) 4) (h2 : vp_in (V 4 v) 4) : CtR noX l yX1_mayShareRow cX1_mayShareRow 3 (some .boolean) rmX1_mayShareRow D (tyL k) (wP k ad V) [.ref (ad 0), .int (nI q), .int (nI v)] (fun r => r = zI (shB V q v)) := by
  refine CtR.mk (by decide) (Nat.le_of_ble_eq_true rfl) ?_
  intro p e s m below meth c hx hb hml hown hg hr hlocks hK hN hX H hH hP ls hl
  have hl : lv_has ls 3 [(0, .ref (ad 0)), (1, .int (nI q)), (2, .int (nI v))] := hl
  refine lv_aload_n hx hb dX1_mayShareRow_0 rfl (lv_at hl 0 rfl) ?_
  refine gfl hx hb hg inX1 hown hK hP 0 (ci := 1) rfl rfl 6 (by decide) wd_85 rfl dX1_mayShareRow_1 ?_
  refine lv_aload_n hx hb dX1_mayShareRow_4 rfl (lv_at hl 0 rfl) ?_
  refine gfl hx hb hg inX1 hown hK hP 0 (ci := 1) rfl rfl 3 (by decide) wd_78 rfl dX1_mayShareRow_5 ?_
  refine lv_iload_n hx hb dX1_mayShareRow_8 rfl (lv_at hl 1 rfl) ?_
  refine ldn hx hb hK hP 4 0 rfl rfl (by omega) (by decide) dX1_mayShareRow_9 ?_
  refine ldx hx hb hK hP 7 0 rfl rfl h1 dX1_mayShareRow_10 ?_
  refine lv_aload_n hx hb dX1_mayShareRow_11 rfl (lv_at hl 0 rfl) ?_
  refine gfl hx hb hg inX1 hown hK hP 0 (ci := 1) rfl rfl 6 (by decide) wd_85 rfl dX1_mayShareRow_12 ?_
  refine lv_aload_n hx hb dX1_mayShareRow_15 rfl (lv_at hl 0 rfl) ?_
  refine gfl hx hb hg inX1 hown hK hP 0 (ci := 1) rfl rfl 3 (by decide) wd_78 rfl dX1_mayShareRow_16 ?_
  refine lv_iload_n hx hb dX1_mayShareRow_19 rfl (lv_at hl 2 rfl) ?_
  refine ldn hx hb hK hP 4 0 rfl rfl (by omega) (by decide) dX1_mayShareRow_20 ?_
  refine ldx hx hb hK hP 7 0 rfl rfl h2 dX1_mayShareRow_21 ?_
  refine lv_iand hx hb dX1_mayShareRow_22 ?_
  refine lv_if_eq (tgt := 30) hx hb dX1_mayShareRow_23 (by decide) (fun c_23 => ?_) (fun c_23 => ?_)
  · refine lv_iconst (v := 0) hx hb dX1_mayShareRow_30 (by decide) ?_
    exact retRZ (v := 0) hx hb hr hlocks hH rfl dX1_mayShareRow_31 (by unfold shB; first | (rw [decide_eq_false (fun z => z c_23)]; rfl) | (rw [decide_eq_true c_23]; rfl))
  · refine lv_iconst (v := 1) hx hb dX1_mayShareRow_26 (by decide) ?_
    refine lv_goto (tgt := 31) hx hb dX1_mayShareRow_27 (by decide) ?_
    exact retRZ (v := 1) hx hb hr hlocks hH rfl dX1_mayShareRow_31 (by unfold shB; first | (rw [decide_eq_false (fun z => z c_23)]; rfl) | (rw [decide_eq_true c_23]; rfl))
abbrev rmX1_isBelow : Room := { frames := 0, cells := 0, slots := 0, locals := 0 }
theorem lk_X1_isBelow : Lk yX1_isBelow 2 := by decide +kernel
set_option maxHeartbeats 4000000 in
set_option maxRecDepth 100000 in
/-- isBelow(value, limit) -/
theorem c_X1_isBelow (l : Launch) (D : va_G) (k : Nat → ClassId) (x : Int32) {q : Nat} (hq : q < 2 ^ 31) : CtR noX l yX1_isBelow cX1_isBelow 2 (some .boolean) rmX1_isBelow D (tyL k) ([]) [.int x, .int (nI q)] (fun r => r = zI (decide (q = 0 ∨ (0 ≤ x ∧ x < nI q)))) := by
  refine CtR.mk (by decide) (Nat.le_of_ble_eq_true rfl) ?_
  intro p e s m below meth c hx hb hml hown hg hr hlocks hK hN hX H hH hP ls hl
  have hl : lv_has ls 2 [(0, .int x), (1, .int (nI q))] := hl
  refine lv_iload_n hx hb dX1_isBelow_0 rfl (lv_at hl 1 rfl) ?_
  refine lv_if_eq (tgt := 13) hx hb dX1_isBelow_1 (by decide) (fun c_1 => ?_) (fun c_1 => ?_)
  · have c_1 : q = 0 := (nI_eq (a := q) (b := 0) (by omega) (by omega)).mp c_1
    refine lv_iconst (v := 1) hx hb dX1_isBelow_13 (by decide) ?_
    refine lv_goto (tgt := 18) hx hb dX1_isBelow_14 (by decide) ?_
    exact retRZ (v := 1) hx hb hr hlocks hH rfl dX1_isBelow_18 (by first | (rw [decide_eq_true (Or.inl c_1)]; rfl) | (rw [decide_eq_true (Or.inr ⟨by rw [Int32.le_iff_toInt_le]; rw [Int32.lt_iff_toInt_lt] at c_5; exact Int.not_lt.mp c_5, by rw [Int32.lt_iff_toInt_lt]; rw [Int32.le_iff_toInt_le] at c_10; exact Int.not_le.mp c_10⟩)]; rfl) | (rw [decide_eq_false (fun z => z.elim c_1 (fun z => absurd z.1 (by rw [Int32.le_iff_toInt_le]; rw [Int32.lt_iff_toInt_lt] at c_5; exact Int.not_le.mpr c_5)))]; rfl) | (rw [decide_eq_false (fun z => z.elim c_1 (fun z => absurd z.2 (by rw [Int32.lt_iff_toInt_lt]; rw [Int32.le_iff_toInt_le] at c_10; exact Int.not_lt.mpr c_10)))]; rfl))
  · have c_1 : ¬ q = 0 := fun z => c_1 ((nI_eq (a := q) (b := 0) (by omega) (by omega)).mpr z)
    refine lv_iload_n hx hb dX1_isBelow_4 rfl (lv_at hl 0 rfl) ?_
    refine lv_if_lt (tgt := 17) hx hb dX1_isBelow_5 (by decide) (fun c_5 => ?_) (fun c_5 => ?_)
    · refine lv_iconst (v := 0) hx hb dX1_isBelow_17 (by decide) ?_
      exact retRZ (v := 0) hx hb hr hlocks hH rfl dX1_isBelow_18 (by first | (rw [decide_eq_true (Or.inl c_1)]; rfl) | (rw [decide_eq_true (Or.inr ⟨by rw [Int32.le_iff_toInt_le]; rw [Int32.lt_iff_toInt_lt] at c_5; exact Int.not_lt.mp c_5, by rw [Int32.lt_iff_toInt_lt]; rw [Int32.le_iff_toInt_le] at c_10; exact Int.not_le.mp c_10⟩)]; rfl) | (rw [decide_eq_false (fun z => z.elim c_1 (fun z => absurd z.1 (by rw [Int32.le_iff_toInt_le]; rw [Int32.lt_iff_toInt_lt] at c_5; exact Int.not_le.mpr c_5)))]; rfl) | (rw [decide_eq_false (fun z => z.elim c_1 (fun z => absurd z.2 (by rw [Int32.lt_iff_toInt_lt]; rw [Int32.le_iff_toInt_le] at c_10; exact Int.not_lt.mpr c_10)))]; rfl))
    · refine lv_iload_n hx hb dX1_isBelow_8 rfl (lv_at hl 0 rfl) ?_
      refine lv_iload_n hx hb dX1_isBelow_9 rfl (lv_at hl 1 rfl) ?_
      refine lv_icmp_ge (tgt := 17) hx hb dX1_isBelow_10 (by decide) (fun c_10 => ?_) (fun c_10 => ?_)
      · refine lv_iconst (v := 0) hx hb dX1_isBelow_17 (by decide) ?_
        exact retRZ (v := 0) hx hb hr hlocks hH rfl dX1_isBelow_18 (by first | (rw [decide_eq_true (Or.inl c_1)]; rfl) | (rw [decide_eq_true (Or.inr ⟨by rw [Int32.le_iff_toInt_le]; rw [Int32.lt_iff_toInt_lt] at c_5; exact Int.not_lt.mp c_5, by rw [Int32.lt_iff_toInt_lt]; rw [Int32.le_iff_toInt_le] at c_10; exact Int.not_le.mp c_10⟩)]; rfl) | (rw [decide_eq_false (fun z => z.elim c_1 (fun z => absurd z.1 (by rw [Int32.le_iff_toInt_le]; rw [Int32.lt_iff_toInt_lt] at c_5; exact Int.not_le.mpr c_5)))]; rfl) | (rw [decide_eq_false (fun z => z.elim c_1 (fun z => absurd z.2 (by rw [Int32.lt_iff_toInt_lt]; rw [Int32.le_iff_toInt_le] at c_10; exact Int.not_lt.mpr c_10)))]; rfl))
      · refine lv_iconst (v := 1) hx hb dX1_isBelow_13 (by decide) ?_
        refine lv_goto (tgt := 18) hx hb dX1_isBelow_14 (by decide) ?_
        exact retRZ (v := 1) hx hb hr hlocks hH rfl dX1_isBelow_18 (by first | (rw [decide_eq_true (Or.inl c_1)]; rfl) | (rw [decide_eq_true (Or.inr ⟨by rw [Int32.le_iff_toInt_le]; rw [Int32.lt_iff_toInt_lt] at c_5; exact Int.not_lt.mp c_5, by rw [Int32.lt_iff_toInt_lt]; rw [Int32.le_iff_toInt_le] at c_10; exact Int.not_le.mp c_10⟩)]; rfl) | (rw [decide_eq_false (fun z => z.elim c_1 (fun z => absurd z.1 (by rw [Int32.le_iff_toInt_le]; rw [Int32.lt_iff_toInt_lt] at c_5; exact Int.not_le.mpr c_5)))]; rfl) | (rw [decide_eq_false (fun z => z.elim c_1 (fun z => absurd z.2 (by rw [Int32.lt_iff_toInt_lt]; rw [Int32.le_iff_toInt_le] at c_10; exact Int.not_lt.mpr c_10)))]; rfl))
