/-! holds; the class Program -/
abbrev rmX3_holds : Room := { frames := 0, cells := 0, slots := 0, locals := 0 }
set_option maxHeartbeats 4000000 in
set_option maxRecDepth 100000 in
/-- holds(set, p) -/
theorem c_X3_holds (l : Launch) (D : va_G) (k : Nat → ClassId) (x : Int32) {q : Nat} (hq : q < 32) : CtR noX l yX3_holds cX3_holds 2 (some .boolean) rmX3_holds D (tyL k) ([]) [.int x, .int (nI q)] (fun r => r = zI (bt x q)) := by
  refine CtR.mk (by decide) (Nat.le_of_ble_eq_true rfl) ?_
  intro p e s m below meth c hx hb hml hown hg hr hlocks hK hN hX H hH hP ls hl
  have hl : lv_has ls 2 [(0, .int x), (1, .int (nI q))] := hl
  refine lv_iload_n hx hb dX3_holds_0 rfl (lv_at hl 0 rfl) ?_
  refine lv_iload_n hx hb dX3_holds_1 rfl (lv_at hl 1 rfl) ?_
  refine lv_iushr (v := (x.toUInt32 >>> ((nI q).toUInt32 &&& Int32.toUInt32 31)).toInt32) hx hb dX3_holds_2 rfl ?_
  refine lv_iconst (v := 1) hx hb dX3_holds_3 (by decide) ?_
  refine lv_iand hx hb dX3_holds_4 ?_
  refine lv_if_eq (tgt := 12) hx hb dX3_holds_5 (by decide) (fun c_5 => ?_) (fun c_5 => ?_)
  · refine lv_iconst (v := 0) hx hb dX3_holds_12 (by decide) ?_
    exact retRZ (v := 0) hx hb hr hlocks hH rfl dX3_holds_13 (by first | (rw [show bt x q = true by cases h : bt x q with | false => exact absurd ((tU x hq).mpr h) c_5 | true => rfl]; rfl) | (rw [(tU x hq).mp c_5]; rfl))
  · refine lv_iconst (v := 1) hx hb dX3_holds_8 (by decide) ?_
    refine lv_goto (tgt := 13) hx hb dX3_holds_9 (by decide) ?_
    exact retRZ (v := 1) hx hb hr hlocks hH rfl dX3_holds_13 (by first | (rw [show bt x q = true by cases h : bt x q with | false => exact absurd ((tU x hq).mpr h) c_5 | true => rfl]; rfl) | (rw [(tU x hq).mp c_5]; rfl))
abbrev rmX1_has : Room := { frames := 0, cells := 0, slots := 0, locals := 0 }
set_option maxHeartbeats 4000000 in
set_option maxRecDepth 100000 in
/-- has(p) -/
theorem c_X1_has (l : Launch) (D : va_G) (k : Nat → ClassId) (ad : Nat → Nat) (V : St) (x : Int32) : CtR noX l yX1_has cX1_has 2 (some .boolean) rmX1_has D (tyL k) (wP k ad V) [.ref (ad 0), .int x] (fun r => r = zI (decide (0 ≤ x ∧ x < V 0 7))) := by
  refine CtR.mk (by decide) (Nat.le_of_ble_eq_true rfl) ?_
  intro p e s m below meth c hx hb hml hown hg hr hlocks hK hN hX H hH hP ls hl
  have hl : lv_has ls 2 [(0, .ref (ad 0)), (1, .int x)] := hl
  refine lv_iload_n hx hb dX1_has_0 rfl (lv_at hl 1 rfl) ?_
  refine lv_if_lt (tgt := 16) hx hb dX1_has_1 (by decide) (fun c_1 => ?_) (fun c_1 => ?_)
  · refine lv_iconst (v := 0) hx hb dX1_has_16 (by decide) ?_
    exact retRZ (v := 0) hx hb hr hlocks hH rfl dX1_has_17 (by first | (rw [decide_eq_true ⟨by rw [Int32.le_iff_toInt_le]; rw [Int32.lt_iff_toInt_lt] at c_1; exact Int.not_lt.mp c_1, by first | exact c_9 | (rw [Int32.lt_iff_toInt_lt]; rw [Int32.le_iff_toInt_le] at c_9; exact Int.not_le.mp c_9)⟩]; rfl) | (rw [decide_eq_false (fun z => absurd z.1 (by rw [Int32.le_iff_toInt_le]; rw [Int32.lt_iff_toInt_lt] at c_1; exact Int.not_le.mpr c_1))]; rfl) | (rw [decide_eq_false (fun z => absurd z.2 (by rw [Int32.lt_iff_toInt_lt]; rw [Int32.le_iff_toInt_le] at c_9; exact Int.not_lt.mpr c_9))]; rfl))
  · refine lv_iload_n hx hb dX1_has_4 rfl (lv_at hl 1 rfl) ?_
    refine lv_aload_n hx hb dX1_has_5 rfl (lv_at hl 0 rfl) ?_
    refine gfl hx hb hg inX1 hown hK hP 0 (ci := 1) rfl rfl 7 (by decide) wd_90 rfl dX1_has_6 ?_
    refine lv_icmp_ge (tgt := 16) hx hb dX1_has_9 (by decide) (fun c_9 => ?_) (fun c_9 => ?_)
    · refine lv_iconst (v := 0) hx hb dX1_has_16 (by decide) ?_
      exact retRZ (v := 0) hx hb hr hlocks hH rfl dX1_has_17 (by first | (rw [decide_eq_true ⟨by rw [Int32.le_iff_toInt_le]; rw [Int32.lt_iff_toInt_lt] at c_1; exact Int.not_lt.mp c_1, by first | exact c_9 | (rw [Int32.lt_iff_toInt_lt]; rw [Int32.le_iff_toInt_le] at c_9; exact Int.not_le.mp c_9)⟩]; rfl) | (rw [decide_eq_false (fun z => absurd z.1 (by rw [Int32.le_iff_toInt_le]; rw [Int32.lt_iff_toInt_lt] at c_1; exact Int.not_le.mpr c_1))]; rfl) | (rw [decide_eq_false (fun z => absurd z.2 (by rw [Int32.lt_iff_toInt_lt]; rw [Int32.le_iff_toInt_le] at c_9; exact Int.not_lt.mpr c_9))]; rfl))
    · refine lv_iconst (v := 1) hx hb dX1_has_12 (by decide) ?_
      refine lv_goto (tgt := 17) hx hb dX1_has_13 (by decide) ?_
      exact retRZ (v := 1) hx hb hr hlocks hH rfl dX1_has_17 (by first | (rw [decide_eq_true ⟨by rw [Int32.le_iff_toInt_le]; rw [Int32.lt_iff_toInt_lt] at c_1; exact Int.not_lt.mp c_1, by first | exact c_9 | (rw [Int32.lt_iff_toInt_lt]; rw [Int32.le_iff_toInt_le] at c_9; exact Int.not_le.mp c_9)⟩]; rfl) | (rw [decide_eq_false (fun z => absurd z.1 (by rw [Int32.le_iff_toInt_le]; rw [Int32.lt_iff_toInt_lt] at c_1; exact Int.not_le.mpr c_1))]; rfl) | (rw [decide_eq_false (fun z => absurd z.2 (by rw [Int32.lt_iff_toInt_lt]; rw [Int32.le_iff_toInt_le] at c_9; exact Int.not_lt.mpr c_9))]; rfl))
abbrev rmX1_all : Room := { frames := 0, cells := 0, slots := 0, locals := 0 }
set_option maxHeartbeats 4000000 in
set_option maxRecDepth 100000 in
/-- all() -/
theorem c_X1_all (l : Launch) (D : va_G) (k : Nat → ClassId) (ad : Nat → Nat) (V : St) {n : Nat} (hv : okV n V) : CtR noX l yX1_all cX1_all 1 (some .int) rmX1_all D (tyL k) (wP k ad V) [.ref (ad 0)] (fun r => r = bitI n - 1) := by
  refine CtR.mk (by decide) (Nat.le_of_ble_eq_true rfl) ?_
  intro p e s m below meth c hx hb hml hown hg hr hlocks hK hN hX H hH hP ls hl
  have hl : lv_has ls 1 [(0, .ref (ad 0))] := hl
  refine lv_iconst (v := 1) hx hb dX1_all_0 (by decide) ?_
  refine lv_aload_n hx hb dX1_all_1 rfl (lv_at hl 0 rfl) ?_
  refine gfl hx hb hg inX1 hown hK hP 0 (ci := 1) rfl rfl 7 (by decide) wd_90 rfl dX1_all_2 ?_
  refine topv (nI n) hv.2.1 ?_
  refine lv_ishl hx hb dX1_all_5 ?_
  refine topv (bitI n) rfl ?_
  refine lv_iconst (v := 1) hx hb dX1_all_6 (by decide) ?_
  refine lv_isub hx hb dX1_all_7 ?_
  exact retRI (v := (bitI n) - 1) hx hb hr hlocks hH dX1_all_8 (rfl)
abbrev rmX1_write : Room := { frames := 0, cells := 0, slots := 0, locals := 0 }
set_option maxHeartbeats 4000000 in
set_option maxRecDepth 100000 in
/-- write(p, kind, a, b, c) -/
theorem c_X1_write (l : Launch) (D : va_G) (k : Nat → ClassId) (ad : Nat → Nat) (V : St) {q : Nat} (hq : q < 24) (x1 x2 x3 x4 : Int32) : CtX noX l yX1_write cX1_write 6 none rmX1_write D (tyL k) (wP k ad V) [.ref (ad 0), .int (nI q), .int x1, .int x2, .int x3, .int x4] (qV D (wP k ad) (fun V' => V' = va_up (va_up (va_up (va_up V 1 (upd (V 1) q x1)) 2 (upd (V 2) q x2)) 3 (upd (V 3) q x3)) 4 (upd (V 4) q x4))) := by
  refine CtX.mk (by decide) (Nat.le_of_ble_eq_true rfl) ?_
  intro p e s m below meth c hx hb hml hown hg hr hlocks hK hN A hA hX hh ls hl
  have hh : Hd D A (wP k ad V) s.heap s.heap [] := hh
  have hl : lv_has ls 6 [(0, .ref (ad 0)), (1, .int (nI q)), (2, .int x1), (3, .int x2), (4, .int x3), (5, .int x4)] := hl
  refine lv_aload_n hx hb dX1_write_0 rfl (lv_at hl 0 rfl) ?_
  refine gfl hx hb hg inX1 hown hK hh.1 0 (ci := 1) rfl rfl 0 (by decide) wd_70 rfl dX1_write_1 ?_
  refine lv_iload_n hx hb dX1_write_4 rfl (lv_at hl 1 rfl) ?_
  refine lv_iload_n hx hb dX1_write_5 rfl (lv_at hl 2 rfl) ?_
  refine stn (j := q) hx hb hK hh 1 0 rfl rfl (by omega) (by decide) dX1_write_6 (wP k ad (va_up V 1 (upd (V 1) q x1))) rfl (fun H locs hh => ?_)
  refine lv_aload_n hx hb dX1_write_7 rfl (lv_at hl 0 rfl) ?_
  refine gfl hx hb hg inX1 hown hK hh.1 0 (ci := 1) rfl rfl 1 (by decide) wd_74 rfl dX1_write_8 ?_
  refine lv_iload_n hx hb dX1_write_11 rfl (lv_at hl 1 rfl) ?_
  refine lv_iload_n hx hb dX1_write_12 rfl (lv_at hl 3 rfl) ?_
  refine stn (j := q) hx hb hK hh 2 0 rfl rfl (by omega) (by decide) dX1_write_13 (wP k ad (va_up (va_up V 1 (upd (V 1) q x1)) 2 (upd ((va_up V 1 (upd (V 1) q x1)) 2) q x2))) rfl (fun H locs hh => ?_)
  refine lv_aload_n hx hb dX1_write_14 rfl (lv_at hl 0 rfl) ?_
  refine gfl hx hb hg inX1 hown hK hh.1 0 (ci := 1) rfl rfl 2 (by decide) wd_76 rfl dX1_write_15 ?_
  refine lv_iload_n hx hb dX1_write_18 rfl (lv_at hl 1 rfl) ?_
  refine lv_iload hx hb dX1_write_19 (lv_at hl 4 rfl) ?_
  refine stn (j := q) hx hb hK hh 3 0 rfl rfl (by omega) (by decide) dX1_write_21 (wP k ad (va_up (va_up (va_up V 1 (upd (V 1) q x1)) 2 (upd ((va_up V 1 (upd (V 1) q x1)) 2) q x2)) 3 (upd ((va_up (va_up V 1 (upd (V 1) q x1)) 2 (upd ((va_up V 1 (upd (V 1) q x1)) 2) q x2)) 3) q x3))) rfl (fun H locs hh => ?_)
  refine lv_aload_n hx hb dX1_write_22 rfl (lv_at hl 0 rfl) ?_
  refine gfl hx hb hg inX1 hown hK hh.1 0 (ci := 1) rfl rfl 3 (by decide) wd_78 rfl dX1_write_23 ?_
  refine lv_iload_n hx hb dX1_write_26 rfl (lv_at hl 1 rfl) ?_
  refine lv_iload hx hb dX1_write_27 (lv_at hl 5 rfl) ?_
  refine stn (j := q) hx hb hK hh 4 0 rfl rfl (by omega) (by decide) dX1_write_29 (wP k ad (va_up (va_up (va_up (va_up V 1 (upd (V 1) q x1)) 2 (upd ((va_up V 1 (upd (V 1) q x1)) 2) q x2)) 3 (upd ((va_up (va_up V 1 (upd (V 1) q x1)) 2 (upd ((va_up V 1 (upd (V 1) q x1)) 2) q x2)) 3) q x3)) 4 (upd ((va_up (va_up (va_up V 1 (upd (V 1) q x1)) 2 (upd ((va_up V 1 (upd (V 1) q x1)) 2) q x2)) 3 (upd ((va_up (va_up V 1 (upd (V 1) q x1)) 2 (upd ((va_up V 1 (upd (V 1) q x1)) 2) q x2)) 3) q x3)) 4) q x4))) rfl (fun H locs hh => ?_)
  exact retV (Wd := wP k ad) (va_up (va_up (va_up (va_up V 1 (upd (V 1) q x1)) 2 (upd ((va_up V 1 (upd (V 1) q x1)) 2) q x2)) 3 (upd ((va_up (va_up V 1 (upd (V 1) q x1)) 2 (upd ((va_up V 1 (upd (V 1) q x1)) 2) q x2)) 3) q x3)) 4 (upd ((va_up (va_up (va_up V 1 (upd (V 1) q x1)) 2 (upd ((va_up V 1 (upd (V 1) q x1)) 2) q x2)) 3 (upd ((va_up (va_up V 1 (upd (V 1) q x1)) 2 (upd ((va_up V 1 (upd (V 1) q x1)) 2) q x2)) 3) q x3)) 4) q x4)) hx hb hr hlocks dX1_write_30 hh (rfl)
abbrev rmX1_registerBit : Room := { frames := 0, cells := 0, slots := 0, locals := 0 }
set_option maxHeartbeats 4000000 in
set_option maxRecDepth 100000 in
/-- registerBit(x) -/
theorem c_X1_registerBit (l : Launch) (D : va_G) (k : Nat → ClassId) {q : Nat} : CtR noX l yX1_registerBit cX1_registerBit 1 (some .int) rmX1_registerBit D (tyL k) ([]) [.int (nI q)] (fun r => r = bitI q) := by
  refine CtR.mk (by decide) (Nat.le_of_ble_eq_true rfl) ?_
  intro p e s m below meth c hx hb hml hown hg hr hlocks hK hN hX H hH hP ls hl
  have hl : lv_has ls 1 [(0, .int (nI q))] := hl
  refine lv_iconst (v := 1) hx hb dX1_registerBit_0 (by decide) ?_
  refine lv_iload_n hx hb dX1_registerBit_1 rfl (lv_at hl 0 rfl) ?_
  refine lv_ishl hx hb dX1_registerBit_2 ?_
  refine topv (bitI q) rfl ?_
  exact retRI (v := bitI q) hx hb hr hlocks hH dX1_registerBit_3 (rfl)
abbrev rmX1_globalBit : Room := { frames := 0, cells := 0, slots := 0, locals := 0 }
set_option maxHeartbeats 4000000 in
set_option maxRecDepth 100000 in
/-- globalBit(x) -/
theorem c_X1_globalBit (l : Launch) (D : va_G) (k : Nat → ClassId) {q : Nat} : CtR noX l yX1_globalBit cX1_globalBit 1 (some .int) rmX1_globalBit D (tyL k) ([]) [.int (nI q)] (fun r => r = bitI (8 + q)) := by
  refine CtR.mk (by decide) (Nat.le_of_ble_eq_true rfl) ?_
  intro p e s m below meth c hx hb hml hown hg hr hlocks hK hN hX H hH hP ls hl
  have hl : lv_has ls 1 [(0, .int (nI q))] := hl
  refine lv_iconst (v := 1) hx hb dX1_globalBit_0 (by decide) ?_
  refine lv_bipush (v := 8) hx hb dX1_globalBit_1 (by decide) ?_
  refine lv_iload_n hx hb dX1_globalBit_3 rfl (lv_at hl 0 rfl) ?_
  refine lv_iadd hx hb dX1_globalBit_4 ?_
  refine topv (nI (8 + q)) (nI_add _ _) ?_
  refine lv_ishl hx hb dX1_globalBit_5 ?_
  refine topv (bitI (8 + q)) rfl ?_
  exact retRI (v := bitI (8 + q)) hx hb hr hlocks hH dX1_globalBit_6 (rfl)
abbrev rmX1_bitOf : Room := { frames := 0, cells := 0, slots := 0, locals := 0 }
set_option maxHeartbeats 4000000 in
set_option maxRecDepth 100000 in
/-- bitOf(to) -/
theorem c_X1_bitOf (l : Launch) (D : va_G) (k : Nat → ClassId) (ad : Nat → Nat) (V : St) {n : Nat} (hv : okV n V) {q : Nat} (hq : q < 2 ^ 31) : CtR noX l yX1_bitOf cX1_bitOf 2 (some .int) rmX1_bitOf D (tyL k) (wP k ad V) [.ref (ad 0), .int (nI q)] (fun r => r = plI n q) := by
  refine CtR.mk (by decide) (Nat.le_of_ble_eq_true rfl) ?_
  intro p e s m below meth c hx hb hml hown hg hr hlocks hK hN hX H hH hP ls hl
  have hl : lv_has ls 2 [(0, .ref (ad 0)), (1, .int (nI q))] := hl
  have hn24 := hv.1
  refine lv_iconst (v := 1) hx hb dX1_bitOf_0 (by decide) ?_
  refine lv_iload_n hx hb dX1_bitOf_1 rfl (lv_at hl 1 rfl) ?_
  refine lv_aload_n hx hb dX1_bitOf_2 rfl (lv_at hl 0 rfl) ?_
  refine gfl hx hb hg inX1 hown hK hP 0 (ci := 1) rfl rfl 7 (by decide) wd_90 rfl dX1_bitOf_3 ?_
  refine topv (nI n) hv.2.1 ?_
  refine lv_icmp_ge (tgt := 13) hx hb dX1_bitOf_6 (by decide) (fun c_6 => ?_) (fun c_6 => ?_)
  · have c_6 : n ≤ q := (nI_leI (a := n) (b := q) (by omega) (by omega)).mp c_6
    refine lv_bipush (v := 24) hx hb dX1_bitOf_13 (by decide) ?_
    refine lv_ishl hx hb dX1_bitOf_15 ?_
    refine topv (bitI 24) rfl ?_
    exact retRI (v := bitI 24) hx hb hr hlocks hH dX1_bitOf_16 (by unfold plI; first | rw [if_pos (by omega)] | (rw [if_neg (by omega)]; rfl))
  · have c_6 : ¬ n ≤ q := fun z => c_6 ((nI_leI (a := n) (b := q) (by omega) (by omega)).mpr z)
    refine lv_iload_n hx hb dX1_bitOf_9 rfl (lv_at hl 1 rfl) ?_
    refine lv_goto (tgt := 15) hx hb dX1_bitOf_10 (by decide) ?_
    refine lv_ishl hx hb dX1_bitOf_15 ?_
    refine topv (bitI q) rfl ?_
    exact retRI (v := bitI q) hx hb hr hlocks hH dX1_bitOf_16 (by unfold plI; first | rw [if_pos (by omega)] | (rw [if_neg (by omega)]; rfl))
