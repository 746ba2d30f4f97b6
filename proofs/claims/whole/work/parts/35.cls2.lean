/-! the class SliceWhy: what asks the reasons -/
def slR (n : Nat) (P : St) (x y r : Int32) : Prop := (¬ rgt x n ∧ r = -1) ∨ (∃ q, q < n ∧ x = nI q ∧ ((y = 0 ∧ isM r (Bk n P q)) ∨ (y = 1 ∧ isM r (Tn n P q)) ∨ (y = 2 ∧ isM r (fun v => v < n ∧ Bk n P v q)) ∨ (y = 3 ∧ isM r (fun v => v < n ∧ Tn n P v q)) ∨ (¬ rgt y 4 ∧ r = -1)))
def flR (n : Nat) (P : St) (x r : Int32) : Prop := (¬ rgt x n ∧ r = -1) ∨ (∃ q, q < n ∧ x = nI q ∧ isM r (pF n P q))
def chpR (n : Nat) (P : St) (x y r : Int32) : Prop := (¬ (rgt x n ∧ rgt y n) ∧ r = -1) ∨ (∃ u v, u < n ∧ v < n ∧ x = nI u ∧ y = nI v ∧ isM r (fun j => (j < n ∧ Bk n P j u) ∧ Bk n P v j))
theorem fw_isM {n q : Nat} {f : Nat → Int32} {B : Nat → Nat → Prop} (hn : n ≤ 24) (h : ∀ v, v < n → isM (f v) (B v)) : isM (mkM n (fun v => bt (f v) q)) (fun v => v < n ∧ B v q) := fun j => by
  rw [b_mkM _ n (by omega) j, Bool.and_eq_true, decide_eq_true_eq]
  exact and_congr_right fun hj => h j hj q
/-- what a call that asks the reasons leaves -/
def CaS (n : Nat) (V U : St) : Prop := FrS V U ∧ Ca n U
theorem CaS.rf {n : Nat} {V : St} (h : Ca n V) : CaS n V V := ⟨FrS.rf, h⟩
theorem CaS.of {n : Nat} {V U : St} (f : FrS V U) (h : U 0 2 = 0) (r : RG n (pj V) (tr 16 15 U)) : CaS n V U := ⟨f, Or.inr ⟨h, by rw [f.pj]; exact r⟩⟩
abbrev rmX3_reasonsNow : Room := { frames := 5, cells := 0, slots := 0, locals := 113 }
theorem lk_X3_reasonsNow : Lk yX3_reasonsNow 0 := by decide +kernel
set_option maxHeartbeats 4000000 in
set_option maxRecDepth 100000 in
/-- reasonsNow() -/
theorem c_X3_reasonsNow (l : Launch) (D : va_G) (k : Nat → ClassId) (ad : Nat → Nat) (V : St) {n : Nat} (hv : okV n (pj V)) (hc : Ca n V) : CtX noX l yX3_reasonsNow cX3_reasonsNow 1 (some (.object "SliceWhy$Reasons")) rmX3_reasonsNow D (tyL k) (wS k ad V) [.ref (ad 0)] (qA D (wS k ad) (fun U => FrS V U ∧ U 0 2 = 0 ∧ RG n (pj V) (tr 16 15 U)) (ad 16)) := by
  refine CtX.mk (by decide) (Nat.le_of_ble_eq_true rfl) ?_
  intro p e s m below meth c hx hb hml hown hg hr hlocks hK hN A hA hX hh ls hl
  have hh : Hd D A (wS k ad V) s.heap s.heap [] := hh
  have hl : lv_has ls 1 [(0, .ref (ad 0))] := hl
  refine lv_aload_n hx hb dX3_reasonsNow_0 rfl (lv_at hl 0 rfl) ?_
  refine gfl hx hb hg inX3 hown hK hh.1 0 (ci := 3) rfl rfl 2 (by decide) wd_193 rfl dX3_reasonsNow_1 ?_
  refine lv_if_eq (tgt := 23) hx hb dX3_reasonsNow_4 (by decide) (fun c_4 => ?_) (fun c_4 => ?_)
  · refine lv_aload_n hx hb dX3_reasonsNow_23 rfl (lv_at hl 0 rfl) ?_
    refine gfl hx hb hg inX3 hown hK hh.1 0 (ci := 3) rfl rfl 1 (by decide) wd_192 rfl dX3_reasonsNow_24 ?_
    exact retA (Wd := wS k ad) (V) hx hb hr hlocks dX3_reasonsNow_27 hh (⟨FrS.rf, c_4, (hc.resolve_left (fun z => by rw [z] at c_4; exact absurd c_4 (by decide))).2⟩)
  · refine lv_aload_n hx hb dX3_reasonsNow_7 rfl (lv_at hl 0 rfl) ?_
    refine gfl hx hb hg inX3 hown hK hh.1 0 (ci := 3) rfl rfl 1 (by decide) wd_192 rfl dX3_reasonsNow_8 ?_
    refine lv_aload_n hx hb dX3_reasonsNow_11 rfl (lv_at hl 0 rfl) ?_
    refine gfl hx hb hg inX3 hown hK hh.1 0 (ci := 3) rfl rfl 0 (by decide) wd_191 rfl dX3_reasonsNow_12 ?_
    refine callWV (D := D) (wn := fun u9 => wS k ad (put 16 15 V u9)) (wr := [(ad 0, .inr (3, [.ref (ad 8), .ref (ad 16), .int (V 0 2), .ref (ad 1), .ref (ad 2), .int (V 0 5), .ref (ad 31), .int (V 0 7), .ref (ad 3), .ref (ad 55), .ref (ad 4), .int (V 0 11)])), (ad 1, aI k 4 (V 1)), (ad 2, aR (k 2) 3 (fun i => some (ad (5 + i)))), (ad 3, aR (k 3) 3 (fun i => some (ad (37 + 6 * i)))), (ad 4, aI k 24 (V 4)), (ad 5, aI k 4 (V 5)), (ad 6, aI k 4 (V 6)), (ad 7, aI k 4 (V 7)), (ad 31, .inr (0, [.ref (ad 32), .ref (ad 33), .ref (ad 34), .ref (ad 35), .ref (ad 36), .int (V 31 5), .int (V 31 6), .int (V 31 7), .int (V 31 8)])), (ad 32, aI k 8 (V 32)), (ad 33, aI k 32 (V 33)), (ad 34, aI k 4 (V 34)), (ad 35, aI k 4 (V 35)), (ad 36, aI k 100 (V 36)), (ad 37, .inr (0, [.ref (ad 38), .ref (ad 39), .ref (ad 40), .ref (ad 41), .ref (ad 42), .int (V 37 5), .int (V 37 6), .int (V 37 7), .int (V 37 8)])), (ad 38, aI k 8 (V 38)), (ad 39, aI k 32 (V 39)), (ad 40, aI k 4 (V 40)), (ad 41, aI k 4 (V 41)), (ad 42, aI k 100 (V 42)), (ad 43, .inr (0, [.ref (ad 44), .ref (ad 45), .ref (ad 46), .ref (ad 47), .ref (ad 48), .int (V 43 5), .int (V 43 6), .int (V 43 7), .int (V 43 8)])), (ad 44, aI k 8 (V 44)), (ad 45, aI k 32 (V 45)), (ad 46, aI k 4 (V 46)), (ad 47, aI k 4 (V 47)), (ad 48, aI k 100 (V 48)), (ad 49, .inr (0, [.ref (ad 50), .ref (ad 51), .ref (ad 52), .ref (ad 53), .ref (ad 54), .int (V 49 5), .int (V 49 6), .int (V 49 7), .int (V 49 8)])), (ad 50, aI k 8 (V 50)), (ad 51, aI k 32 (V 51)), (ad 52, aI k 4 (V 52)), (ad 53, aI k 4 (V 53)), (ad 54, aI k 100 (V 54)), (ad 55, .inr (0, [.ref (ad 56), .ref (ad 57), .ref (ad 58), .ref (ad 59), .ref (ad 60), .int (V 55 5), .int (V 55 6), .int (V 55 7), .int (V 55 8)])), (ad 56, aI k 8 (V 56)), (ad 57, aI k 32 (V 57)), (ad 58, aI k 4 (V 58)), (ad 59, aI k 4 (V 59)), (ad 60, aI k 100 (V 60))]) (runV hx hb hg hown hml hl.1 ((c_X2_findAll l D k (sh 16 ad) (tr 16 15 V) (n := n) (sh 8 ad) (pj V) hv) s.heap.size) [.ref (ad 8)] [] (preX (mapSome_sub hh.1 [16, 17, 18, 19, 20, 21, 22, 23, 24, 25, 26, 27, 28, 29, 30, 8, 9, 10, 11, 12, 13, 14, 15] rfl) (hh.2.1.sub [16, 17, 18, 19, 20, 21, 22, 23, 24, 25, 26, 27, 28, 29, 30, 8, 9, 10, 11, 12, 13, 14, 15] (by decide) rfl) hK hN xb0 x0) (va_recv hK hh.1 (ci := 2) (q0 := 16) rfl rfl) wd_284 wd_285 wd_286 wd_51 wd_287 lk_X2_findAll ⟨rfl, rfl⟩ ⟨by decide, by decide⟩ ⟨Nat.zero_le _, Nat.zero_le _⟩ rfl (Nat.le_of_ble_eq_true rfl) dX3_reasonsNow_15) hA hh [16, 17, 18, 19, 20, 21, 22, 23, 24, 25, 26, 27, 28, 29, 30, 8, 9, 10, 11, 12, 13, 14, 15] [0, 1, 2, 3, 4, 5, 6, 7, 31, 32, 33, 34, 35, 36, 37, 38, 39, 40, 41, 42, 43, 44, 45, 46, 47, 48, 49, 50, 51, 52, 53, 54, 55, 56, 57, 58, 59, 60] [0, 1, 2, 3, 4, 5, 6, 7, 53, 54, 55, 56, 57, 58, 59, 60, 38, 39, 40, 41, 42, 43, 44, 45, 46, 47, 48, 49, 50, 51, 52, 8, 9, 10, 11, 12, 13, 14, 15, 16, 17, 18, 19, 20, 21, 22, 23, 24, 25, 26, 27, 28, 29, 30, 31, 32, 33, 34, 35, 36, 37] rfl rfl (by decide) (by decide) (by decide) (fun _ => rfl) (fun u9 H locs q_15 hh => ?_)
    refine lv_aload_n hx hb dX3_reasonsNow_18 rfl (lv_at hl 0 rfl) ?_
    refine lv_iconst (v := 0) hx hb dX3_reasonsNow_19 (by decide) ?_
    refine pfl hx hb hg inX3 tyX3 tyX3_ok nmX3 hown hK hh 0 (ci := 3) rfl rfl 2 (by decide) wd_193 rfl rfl rfl (Nat.le_of_ble_eq_true rfl) dX3_reasonsNow_20 (wS k ad (va_up (put 16 15 V u9) 0 (upd ((put 16 15 V u9) 0) 2 0))) rfl (fun H locs hh => ?_)
    refine lv_aload_n hx hb dX3_reasonsNow_23 rfl (lv_at hl 0 rfl) ?_
    refine gfl hx hb hg inX3 hown hK hh.1 0 (ci := 3) rfl rfl 1 (by decide) wd_192 rfl dX3_reasonsNow_24 ?_
    exact retA (Wd := wS k ad) (va_up (put 16 15 V u9) 0 (upd ((put 16 15 V u9) 0) 2 0)) hx hb hr hlocks dX3_reasonsNow_27 hh (⟨⟨fun c a b => by rw [up_n b, put_out (by omega)], fun j hj => by rw [up_s, upd_n hj, put_out (by omega)]⟩, by rw [up_s, upd_s], q_15.congr (fun i hi => by rw [tr_in hi, up_n (by omega), put_in hi])⟩)
abbrev rmX3_slice : Room := { frames := 6, cells := 0, slots := 0, locals := 133 }
theorem lk_X3_slice : Lk yX3_slice 2 := by decide +kernel
set_option maxHeartbeats 4000000 in
set_option maxRecDepth 100000 in
/-- slice(p, way) -/
theorem c_X3_slice (l : Launch) (D : va_G) (k : Nat → ClassId) (ad : Nat → Nat) (V : St) {n : Nat} (hv : okV n (pj V)) (hc : Ca n V) (x y : Int32) : CtX noX l yX3_slice cX3_slice 3 (some .int) rmX3_slice D (tyL k) (wS k ad V) [.ref (ad 0), .int x, .int y] (qI D (wS k ad) (fun r U => CaS n V U ∧ slR n (pj V) x y r)) := by
  refine CtX.mk (by decide) (Nat.le_of_ble_eq_true rfl) ?_
  intro p e s m below meth c hx hb hml hown hg hr hlocks hK hN A hA hX hh ls hl
  have hh : Hd D A (wS k ad V) s.heap s.heap [] := hh
  have hl : lv_has ls 3 [(0, .ref (ad 0)), (1, .int x), (2, .int y)] := hl
  have hn24 := hv.1
  refine lv_aload_n hx hb dX3_slice_0 rfl (lv_at hl 0 rfl) ?_
  refine gfl hx hb hg inX3 hown hK hh.1 0 (ci := 3) rfl rfl 0 (by decide) wd_191 rfl dX3_slice_1 ?_
  refine lv_iload_n hx hb dX3_slice_4 rfl (lv_at hl 1 rfl) ?_
  refine callR (runV hx hb hg hown hml hl.1 (c_X1_has l D k (sh 8 ad) (pj V) x) [.int x] [] (preR (mapSome_sub hh.1 [8, 9, 10, 11, 12, 13, 14, 15] rfl) hK hN xb0 x0) (va_recv hK hh.1 (ci := 1) (q0 := 8) rfl rfl) wd_252 wd_253 wd_254 wd_50 wd_255 lk_X1_has ⟨rfl, rfl⟩ ⟨by decide, by decide⟩ ⟨Nat.zero_le _, Nat.zero_le _⟩ rfl (Nat.le_of_ble_eq_true rfl) dX3_slice_5) (fun r_5 q_5 => ?_)
  obtain rfl := q_5
  refine lv_if_ne (tgt := 13) hx hb dX3_slice_8 (by decide) (fun c_8 => ?_) (fun c_8 => ?_)
  · obtain ⟨q, hq, hxe⟩ := has_yes hv c_8
    refine lv_iload_n hx hb dX3_slice_13 rfl (lv_at hl 2 rfl) ?_
    rcases sw4 y with rfl | rfl | rfl | rfl | ⟨ho, hno⟩
    · refine lv_tableIn (off := 30) (tgt := 44) hx hb dX3_slice_14 (by decide) (by decide) (by rfl) (by decide) ?_
      refine lv_aload_n hx hb dX3_slice_44 rfl (lv_at hl 0 rfl) ?_
      refine callWA (D := D) (wn := fun U => wS k ad U) (wr := []) (runV hx hb hg hown hml hl.1 ((c_X3_reasonsNow l D k ad V hv hc) s.heap.size) [] [] (preX (mapSome_sub hh.1 [0, 1, 2, 3, 4, 5, 6, 7, 8, 9, 10, 11, 12, 13, 14, 15, 16, 17, 18, 19, 20, 21, 22, 23, 24, 25, 26, 27, 28, 29, 30, 31, 32, 33, 34, 35, 36, 37, 38, 39, 40, 41, 42, 43, 44, 45, 46, 47, 48, 49, 50, 51, 52, 53, 54, 55, 56, 57, 58, 59, 60] rfl) (hh.2.1.sub [0, 1, 2, 3, 4, 5, 6, 7, 8, 9, 10, 11, 12, 13, 14, 15, 16, 17, 18, 19, 20, 21, 22, 23, 24, 25, 26, 27, 28, 29, 30, 31, 32, 33, 34, 35, 36, 37, 38, 39, 40, 41, 42, 43, 44, 45, 46, 47, 48, 49, 50, 51, 52, 53, 54, 55, 56, 57, 58, 59, 60] (by decide) rfl) hK hN xb0 x0) (va_recv hK hh.1 (ci := 3) (q0 := 0) rfl rfl) wd_280 wd_282 wd_0 wd_49 wd_283 lk_X3_reasonsNow ⟨rfl, rfl⟩ ⟨by decide, by decide⟩ ⟨Nat.zero_le _, Nat.zero_le _⟩ rfl (Nat.le_of_ble_eq_true rfl) dX3_slice_45) hA hh [0, 1, 2, 3, 4, 5, 6, 7, 8, 9, 10, 11, 12, 13, 14, 15, 16, 17, 18, 19, 20, 21, 22, 23, 24, 25, 26, 27, 28, 29, 30, 31, 32, 33, 34, 35, 36, 37, 38, 39, 40, 41, 42, 43, 44, 45, 46, 47, 48, 49, 50, 51, 52, 53, 54, 55, 56, 57, 58, 59, 60] [] [0, 1, 2, 3, 4, 5, 6, 7, 8, 9, 10, 11, 12, 13, 14, 15, 16, 17, 18, 19, 20, 21, 22, 23, 24, 25, 26, 27, 28, 29, 30, 31, 32, 33, 34, 35, 36, 37, 38, 39, 40, 41, 42, 43, 44, 45, 46, 47, 48, 49, 50, 51, 52, 53, 54, 55, 56, 57, 58, 59, 60] rfl rfl (by decide) (by decide) (by decide) (fun _ => rfl) (fun U H locs q_45 hh => ?_)
      obtain ⟨fU, o2, hRG⟩ := q_45
      refine lv_iload_n hx hb dX3_slice_48 rfl (lv_at hl 1 rfl) ?_
      refine topv (nI q) hxe ?_
      refine callR (runV hx hb hg hown hml hl.1 (c_X2_backOf l D k (sh 16 ad) (tr 16 15 U) (q := q) (by omega)) [.int (nI q)] [] (preR (mapSome_sub hh.1 [16, 17, 18, 19, 20, 21, 22, 23, 24, 25, 26, 27, 28, 29, 30] rfl) hK hN xb0 x0) (va_recv hK hh.1 (ci := 2) (q0 := 16) rfl rfl) wd_377 wd_378 wd_379 wd_51 wd_380 lk_X2_backOf ⟨rfl, rfl⟩ ⟨by decide, by decide⟩ ⟨Nat.zero_le _, Nat.zero_le _⟩ rfl (Nat.le_of_ble_eq_true rfl) dX3_slice_49) (fun r_49 q_49 => ?_)
      obtain rfl := q_49
      exact retI (Wd := wS k ad) (v := tr 16 15 U 7 q) (U) hx hb hr hlocks dX3_slice_52 hh (⟨CaS.of fU o2 hRG, Or.inr ⟨q, hq, hxe, Or.inl ⟨rfl, hRG.back hq⟩⟩⟩)
    · refine lv_tableIn (off := 39) (tgt := 53) hx hb dX3_slice_14 (by decide) (by decide) (by rfl) (by decide) ?_
      refine lv_aload_n hx hb dX3_slice_53 rfl (lv_at hl 0 rfl) ?_
      refine callWA (D := D) (wn := fun U => wS k ad U) (wr := []) (runV hx hb hg hown hml hl.1 ((c_X3_reasonsNow l D k ad V hv hc) s.heap.size) [] [] (preX (mapSome_sub hh.1 [0, 1, 2, 3, 4, 5, 6, 7, 8, 9, 10, 11, 12, 13, 14, 15, 16, 17, 18, 19, 20, 21, 22, 23, 24, 25, 26, 27, 28, 29, 30, 31, 32, 33, 34, 35, 36, 37, 38, 39, 40, 41, 42, 43, 44, 45, 46, 47, 48, 49, 50, 51, 52, 53, 54, 55, 56, 57, 58, 59, 60] rfl) (hh.2.1.sub [0, 1, 2, 3, 4, 5, 6, 7, 8, 9, 10, 11, 12, 13, 14, 15, 16, 17, 18, 19, 20, 21, 22, 23, 24, 25, 26, 27, 28, 29, 30, 31, 32, 33, 34, 35, 36, 37, 38, 39, 40, 41, 42, 43, 44, 45, 46, 47, 48, 49, 50, 51, 52, 53, 54, 55, 56, 57, 58, 59, 60] (by decide) rfl) hK hN xb0 x0) (va_recv hK hh.1 (ci := 3) (q0 := 0) rfl rfl) wd_280 wd_282 wd_0 wd_49 wd_283 lk_X3_reasonsNow ⟨rfl, rfl⟩ ⟨by decide, by decide⟩ ⟨Nat.zero_le _, Nat.zero_le _⟩ rfl (Nat.le_of_ble_eq_true rfl) dX3_slice_54) hA hh [0, 1, 2, 3, 4, 5, 6, 7, 8, 9, 10, 11, 12, 13, 14, 15, 16, 17, 18, 19, 20, 21, 22, 23, 24, 25, 26, 27, 28, 29, 30, 31, 32, 33, 34, 35, 36, 37, 38, 39, 40, 41, 42, 43, 44, 45, 46, 47, 48, 49, 50, 51, 52, 53, 54, 55, 56, 57, 58, 59, 60] [] [0, 1, 2, 3, 4, 5, 6, 7, 8, 9, 10, 11, 12, 13, 14, 15, 16, 17, 18, 19, 20, 21, 22, 23, 24, 25, 26, 27, 28, 29, 30, 31, 32, 33, 34, 35, 36, 37, 38, 39, 40, 41, 42, 43, 44, 45, 46, 47, 48, 49, 50, 51, 52, 53, 54, 55, 56, 57, 58, 59, 60] rfl rfl (by decide) (by decide) (by decide) (fun _ => rfl) (fun U H locs q_54 hh => ?_)
      obtain ⟨fU, o2, hRG⟩ := q_54
      refine lv_iload_n hx hb dX3_slice_57 rfl (lv_at hl 1 rfl) ?_
      refine topv (nI q) hxe ?_
      refine callR (runV hx hb hg hown hml hl.1 (c_X2_thinOf l D k (sh 16 ad) (tr 16 15 U) (q := q) (by omega)) [.int (nI q)] [] (preR (mapSome_sub hh.1 [16, 17, 18, 19, 20, 21, 22, 23, 24, 25, 26, 27, 28, 29, 30] rfl) hK hN xb0 x0) (va_recv hK hh.1 (ci := 2) (q0 := 16) rfl rfl) wd_437 wd_438 wd_439 wd_51 wd_440 lk_X2_thinOf ⟨rfl, rfl⟩ ⟨by decide, by decide⟩ ⟨Nat.zero_le _, Nat.zero_le _⟩ rfl (Nat.le_of_ble_eq_true rfl) dX3_slice_58) (fun r_58 q_58 => ?_)
      obtain rfl := q_58
      exact retI (Wd := wS k ad) (v := tr 16 15 U 8 q) (U) hx hb hr hlocks dX3_slice_61 hh (⟨CaS.of fU o2 hRG, Or.inr ⟨q, hq, hxe, Or.inr (Or.inl ⟨rfl, hRG.thn hq⟩)⟩⟩)
    · refine lv_tableIn (off := 48) (tgt := 62) hx hb dX3_slice_14 (by decide) (by decide) (by rfl) (by decide) ?_
      refine lv_aload_n hx hb dX3_slice_62 rfl (lv_at hl 0 rfl) ?_
      refine callWA (D := D) (wn := fun U => wS k ad U) (wr := []) (runV hx hb hg hown hml hl.1 ((c_X3_reasonsNow l D k ad V hv hc) s.heap.size) [] [] (preX (mapSome_sub hh.1 [0, 1, 2, 3, 4, 5, 6, 7, 8, 9, 10, 11, 12, 13, 14, 15, 16, 17, 18, 19, 20, 21, 22, 23, 24, 25, 26, 27, 28, 29, 30, 31, 32, 33, 34, 35, 36, 37, 38, 39, 40, 41, 42, 43, 44, 45, 46, 47, 48, 49, 50, 51, 52, 53, 54, 55, 56, 57, 58, 59, 60] rfl) (hh.2.1.sub [0, 1, 2, 3, 4, 5, 6, 7, 8, 9, 10, 11, 12, 13, 14, 15, 16, 17, 18, 19, 20, 21, 22, 23, 24, 25, 26, 27, 28, 29, 30, 31, 32, 33, 34, 35, 36, 37, 38, 39, 40, 41, 42, 43, 44, 45, 46, 47, 48, 49, 50, 51, 52, 53, 54, 55, 56, 57, 58, 59, 60] (by decide) rfl) hK hN xb0 x0) (va_recv hK hh.1 (ci := 3) (q0 := 0) rfl rfl) wd_280 wd_282 wd_0 wd_49 wd_283 lk_X3_reasonsNow ⟨rfl, rfl⟩ ⟨by decide, by decide⟩ ⟨Nat.zero_le _, Nat.zero_le _⟩ rfl (Nat.le_of_ble_eq_true rfl) dX3_slice_63) hA hh [0, 1, 2, 3, 4, 5, 6, 7, 8, 9, 10, 11, 12, 13, 14, 15, 16, 17, 18, 19, 20, 21, 22, 23, 24, 25, 26, 27, 28, 29, 30, 31, 32, 33, 34, 35, 36, 37, 38, 39, 40, 41, 42, 43, 44, 45, 46, 47, 48, 49, 50, 51, 52, 53, 54, 55, 56, 57, 58, 59, 60] [] [0, 1, 2, 3, 4, 5, 6, 7, 8, 9, 10, 11, 12, 13, 14, 15, 16, 17, 18, 19, 20, 21, 22, 23, 24, 25, 26, 27, 28, 29, 30, 31, 32, 33, 34, 35, 36, 37, 38, 39, 40, 41, 42, 43, 44, 45, 46, 47, 48, 49, 50, 51, 52, 53, 54, 55, 56, 57, 58, 59, 60] rfl rfl (by decide) (by decide) (by decide) (fun _ => rfl) (fun U H locs q_63 hh => ?_)
      obtain ⟨fU, o2, hRG⟩ := q_63
      refine lv_iload_n hx hb dX3_slice_66 rfl (lv_at hl 1 rfl) ?_
      refine topv (nI q) hxe ?_
      refine callR (runV hx hb hg hown hml hl.1 (c_X2_forwardOf l D k (sh 16 ad) (tr 16 15 U) hRG.1 hn24 (q := q) (by omega)) [.int (nI q)] [] (preR (mapSome_sub hh.1 [16, 17, 18, 19, 20, 21, 22, 23, 24, 25, 26, 27, 28, 29, 30] rfl) hK hN xb0 x0) (va_recv hK hh.1 (ci := 2) (q0 := 16) rfl rfl) wd_441 wd_442 wd_443 wd_51 wd_444 lk_X2_forwardOf ⟨rfl, rfl⟩ ⟨by decide, by decide⟩ ⟨Nat.zero_le _, Nat.zero_le _⟩ rfl (Nat.le_of_ble_eq_true rfl) dX3_slice_67) (fun r_67 q_67 => ?_)
      obtain rfl := q_67
      exact retI (Wd := wS k ad) (v := mkM n (fun v => bt (tr 16 15 U 7 v) q)) (U) hx hb hr hlocks dX3_slice_70 hh (⟨CaS.of fU o2 hRG, Or.inr ⟨q, hq, hxe, Or.inr (Or.inr (Or.inl ⟨rfl, fw_isM hn24 (fun v hv => hRG.back hv)⟩))⟩⟩)
    · refine lv_tableIn (off := 57) (tgt := 71) hx hb dX3_slice_14 (by decide) (by decide) (by rfl) (by decide) ?_
      refine lv_aload_n hx hb dX3_slice_71 rfl (lv_at hl 0 rfl) ?_
      refine callWA (D := D) (wn := fun U => wS k ad U) (wr := []) (runV hx hb hg hown hml hl.1 ((c_X3_reasonsNow l D k ad V hv hc) s.heap.size) [] [] (preX (mapSome_sub hh.1 [0, 1, 2, 3, 4, 5, 6, 7, 8, 9, 10, 11, 12, 13, 14, 15, 16, 17, 18, 19, 20, 21, 22, 23, 24, 25, 26, 27, 28, 29, 30, 31, 32, 33, 34, 35, 36, 37, 38, 39, 40, 41, 42, 43, 44, 45, 46, 47, 48, 49, 50, 51, 52, 53, 54, 55, 56, 57, 58, 59, 60] rfl) (hh.2.1.sub [0, 1, 2, 3, 4, 5, 6, 7, 8, 9, 10, 11, 12, 13, 14, 15, 16, 17, 18, 19, 20, 21, 22, 23, 24, 25, 26, 27, 28, 29, 30, 31, 32, 33, 34, 35, 36, 37, 38, 39, 40, 41, 42, 43, 44, 45, 46, 47, 48, 49, 50, 51, 52, 53, 54, 55, 56, 57, 58, 59, 60] (by decide) rfl) hK hN xb0 x0) (va_recv hK hh.1 (ci := 3) (q0 := 0) rfl rfl) wd_280 wd_282 wd_0 wd_49 wd_283 lk_X3_reasonsNow ⟨rfl, rfl⟩ ⟨by decide, by decide⟩ ⟨Nat.zero_le _, Nat.zero_le _⟩ rfl (Nat.le_of_ble_eq_true rfl) dX3_slice_72) hA hh [0, 1, 2, 3, 4, 5, 6, 7, 8, 9, 10, 11, 12, 13, 14, 15, 16, 17, 18, 19, 20, 21, 22, 23, 24, 25, 26, 27, 28, 29, 30, 31, 32, 33, 34, 35, 36, 37, 38, 39, 40, 41, 42, 43, 44, 45, 46, 47, 48, 49, 50, 51, 52, 53, 54, 55, 56, 57, 58, 59, 60] [] [0, 1, 2, 3, 4, 5, 6, 7, 8, 9, 10, 11, 12, 13, 14, 15, 16, 17, 18, 19, 20, 21, 22, 23, 24, 25, 26, 27, 28, 29, 30, 31, 32, 33, 34, 35, 36, 37, 38, 39, 40, 41, 42, 43, 44, 45, 46, 47, 48, 49, 50, 51, 52, 53, 54, 55, 56, 57, 58, 59, 60] rfl rfl (by decide) (by decide) (by decide) (fun _ => rfl) (fun U H locs q_72 hh => ?_)
      obtain ⟨fU, o2, hRG⟩ := q_72
      refine lv_iload_n hx hb dX3_slice_75 rfl (lv_at hl 1 rfl) ?_
      refine topv (nI q) hxe ?_
      refine callR (runV hx hb hg hown hml hl.1 (c_X2_thinlyOf l D k (sh 16 ad) (tr 16 15 U) hRG.1 hn24 (q := q) (by omega)) [.int (nI q)] [] (preR (mapSome_sub hh.1 [16, 17, 18, 19, 20, 21, 22, 23, 24, 25, 26, 27, 28, 29, 30] rfl) hK hN xb0 x0) (va_recv hK hh.1 (ci := 2) (q0 := 16) rfl rfl) wd_449 wd_450 wd_451 wd_51 wd_452 lk_X2_thinlyOf ⟨rfl, rfl⟩ ⟨by decide, by decide⟩ ⟨Nat.zero_le _, Nat.zero_le _⟩ rfl (Nat.le_of_ble_eq_true rfl) dX3_slice_76) (fun r_76 q_76 => ?_)
      obtain rfl := q_76
      exact retI (Wd := wS k ad) (v := mkM n (fun v => bt (tr 16 15 U 8 v) q)) (U) hx hb hr hlocks dX3_slice_79 hh (⟨CaS.of fU o2 hRG, Or.inr ⟨q, hq, hxe, Or.inr (Or.inr (Or.inr (Or.inl ⟨rfl, fw_isM hn24 (fun v hv => hRG.thn hv)⟩)))⟩⟩)
    · refine lv_tableOut (tgt := 80) hx hb dX3_slice_14 ho (by decide) ?_
      refine lv_iconst (v := (-1)) hx hb dX3_slice_80 (by decide) ?_
      exact retI (Wd := wS k ad) (v := (-1)) (V) hx hb hr hlocks dX3_slice_81 hh (⟨CaS.rf hc, Or.inr ⟨q, hq, hxe, Or.inr (Or.inr (Or.inr (Or.inr ⟨hno, rfl⟩)))⟩⟩)
  · have c_8 := has_no hv c_8
    refine lv_iconst (v := (-1)) hx hb dX3_slice_11 (by decide) ?_
    exact retI (Wd := wS k ad) (v := (-1)) (V) hx hb hr hlocks dX3_slice_12 hh (⟨CaS.rf hc, Or.inl ⟨c_8, rfl⟩⟩)
