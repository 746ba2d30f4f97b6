/-! the class SliceWhy: same, the tests -/
theorem pf_tr2 {P : St} {I : Nat → Int32} {x : Int32} {w n b : Nat} {r : Int32} {V u : St} (h : pfS P I x w n r u) : pfS P I x w n r (tr b 6 (put b 6 V u)) := by
  obtain ⟨U0, c, s, m, a1, a2, a3, a4, a5, a6, a7⟩ := h
  have e : ∀ i, i < 6 → tr b 6 (put b 6 V u) i = u i := fun i hi => by rw [tr_in hi, put_in hi]
  refine ⟨U0, c, s, m, a1, a2, a3, a4, ?_, ?_, ?_⟩
  · rw [e 0 (by omega)]; exact a5
  · rw [e 0 (by omega)]; exact a6
  · rw [e 0 (by omega), e 1 (by omega), e 2 (by omega), e 3 (by omega), e 5 (by omega)]; exact a7
theorem ns_of {P : St} {Is : Nat → Nat → Int32} {t w n : Nat} {b : Bool} (h : b = false ↔ ∀ j, j < t → ¬ hwF P (Is j) (-1) w n = 2) : b = !nsB P Is t w n := by
  cases hb : b with
  | false => rw [ns_iff.mpr (h.mp hb)]; rfl
  | true =>
    cases hn : nsB P Is t w n with
    | false => rfl
    | true => have := h.mpr (ns_iff.mp hn); rw [hb] at this; cases this
theorem hld.x {P : St} {Is : Nat → Nat → Int32} {w n j : Nat} {V U : St} (h : hld P Is w n V j) (h0 : U (37 + 6 * j) = V (37 + 6 * j)) (h5 : U (37 + 6 * j + 5) = V (37 + 6 * j + 5)) : hld P Is w n U j := by
  unfold hld; rw [h0, h5]; exact h
abbrev rmX3_same : Room := { frames := 6, cells := 0, slots := 0, locals := 133 }
theorem lk_X3_same : Lk yX3_same 1 := by decide +kernel
set_option maxHeartbeats 4000000 in
set_option maxRecDepth 100000 in
/-- same(p) -/
theorem c_X3_same (l : Launch) (D : va_G) (k : Nat → ClassId) (ad : Nat → Nat) (V : St) {n : Nat} (hv : okV n (pj V)) (hc : Ca n V) (x : Int32) : CtX noX l yX3_same cX3_same 2 (some .int) rmX3_same D (tyL k) (wS k ad V) [.ref (ad 0), .int x] (qI D (wS k ad) (fun r U => smR n (pj V) (V 1) x r ∧ FrX [0, 16, 17, 18, 19, 20, 21, 22, 23, 24, 25, 26, 27, 28, 29, 30, 37, 38, 39, 40, 41, 42, 55, 56, 57, 58, 59, 60] [2] V U ∧ Ca n U)) := by
  refine CtX.mk (by decide) (Nat.le_of_ble_eq_true rfl) ?_
  intro p e s m below meth c hx hb hml hown hg hr hlocks hK hN A hA hX hh ls hl
  have hh : Hd D A (wS k ad V) s.heap s.heap [] := hh
  have hl : lv_has ls 2 [(0, .ref (ad 0)), (1, .int x)] := hl
  have hn24 := hv.1
  refine lv_aload_n hx hb dX3_same_0 rfl (lv_at hl 0 rfl) ?_
  refine gfl hx hb hg inX3 hown hK hh.1 0 (ci := 3) rfl rfl 0 (by decide) wd_191 rfl dX3_same_1 ?_
  refine lv_iload_n hx hb dX3_same_4 rfl (lv_at hl 1 rfl) ?_
  refine callR (runV hx hb hg hown hml hl.1 (c_X1_has l D k (sh 8 ad) (pj V) x) [.int x] [] (preR (mapSome_sub hh.1 [8, 9, 10, 11, 12, 13, 14, 15] rfl) hK hN xb0 x0) (va_recv hK hh.1 (ci := 1) (q0 := 8) rfl rfl) wd_252 wd_253 wd_254 wd_50 wd_255 lk_X1_has ⟨rfl, rfl⟩ ⟨by decide, by decide⟩ ⟨Nat.zero_le _, Nat.zero_le _⟩ rfl (Nat.le_of_ble_eq_true rfl) dX3_same_5) (fun r_5 q_5 => ?_)
  obtain rfl := q_5
  refine lv_if_ne (tgt := 13) hx hb dX3_same_8 (by decide) (fun c_8 => ?_) (fun c_8 => ?_)
  · obtain ⟨q, hq, hxe⟩ := has_yes hv c_8
    refine lv_aload_n hx hb dX3_same_13 rfl (lv_at hl 0 rfl) ?_
    refine gfl hx hb hg inX3 hown hK hh.1 0 (ci := 3) rfl rfl 8 (by decide) wd_199 rfl dX3_same_14 ?_
    refine lv_iconst (v := 0) hx hb dX3_same_17 (by decide) ?_
    refine topv (nI 0) rfl ?_
    refine ldq (x := ad (37 + 6 * 0)) hx hb hK hh.1 3 3 rfl rfl rfl (by omega) (by decide) rfl dX3_same_18 ?_
    refine lv_aload_n hx hb dX3_same_19 rfl (lv_at hl 0 rfl) ?_
    refine gfl hx hb hg inX3 hown hK hh.1 0 (ci := 3) rfl rfl 0 (by decide) wd_191 rfl dX3_same_20 ?_
    refine lv_aload_n hx hb dX3_same_23 rfl (lv_at hl 0 rfl) ?_
    refine gfl hx hb hg inX3 hown hK hh.1 0 (ci := 3) rfl rfl 3 (by decide) wd_194 rfl dX3_same_24 ?_
    refine lv_aload_n hx hb dX3_same_27 rfl (lv_at hl 0 rfl) ?_
    refine gfl hx hb hg inX3 hown hK hh.1 0 (ci := 3) rfl rfl 0 (by decide) wd_191 rfl dX3_same_28 ?_
    refine callR (runV hx hb hg hown hml hl.1 (c_X1_all l D k (sh 8 ad) (pj V) hv) [] [.ref (ad 1), .ref (ad 8), .ref (ad 37)] (preR (mapSome_sub hh.1 [8, 9, 10, 11, 12, 13, 14, 15] rfl) hK hN xb0 x0) (va_recv hK hh.1 (ci := 1) (q0 := 8) rfl rfl) wd_276 wd_277 wd_278 wd_50 wd_279 lk_X1_all ⟨rfl, rfl⟩ ⟨by decide, by decide⟩ ⟨Nat.zero_le _, Nat.zero_le _⟩ rfl (Nat.le_of_ble_eq_true rfl) dX3_same_31) (fun r_31 q_31 => ?_)
    obtain rfl := q_31
    refine lv_iload_n hx hb dX3_same_34 rfl (lv_at hl 1 rfl) ?_
    refine topv (nI q) hxe ?_
    refine callWI (D := D) (wn := fun u9 => wS k ad (put 37 6 V u9)) (wr := [(ad 0, .inr (3, [.ref (ad 8), .ref (ad 16), .int (V 0 2), .ref (ad 1), .ref (ad 2), .int (V 0 5), .ref (ad 31), .int (V 0 7), .ref (ad 3), .ref (ad 55), .ref (ad 4), .int (V 0 11)])), (ad 2, aR (k 2) 3 (fun i => some (ad (5 + i)))), (ad 3, aR (k 3) 3 (fun i => some (ad (37 + 6 * i)))), (ad 4, aI k 24 (V 4)), (ad 5, aI k 4 (V 5)), (ad 6, aI k 4 (V 6)), (ad 7, aI k 4 (V 7)), (ad 16, .inr (2, [.int (V 16 0), .ref (ad 17), .ref (ad 18), .ref (ad 19), .ref (ad 20), .ref (ad 21), .ref (ad 22), .ref (ad 23), .ref (ad 24), .ref (ad 25)])), (ad 17, aI k 24 (V 17)), (ad 18, aI k 24 (V 18)), (ad 19, aI k 24 (V 19)), (ad 20, aR (k 2) 5 (fun i => some (ad (16 + (10 + i))))), (ad 21, aI k 24 (V 21)), (ad 22, aI k 24 (V 22)), (ad 23, aI k 24 (V 23)), (ad 24, aI k 24 (V 24)), (ad 25, aI k 24 (V 25)), (ad 26, aI k 24 (V 26)), (ad 27, aI k 24 (V 27)), (ad 28, aI k 24 (V 28)), (ad 29, aI k 24 (V 29)), (ad 30, aI k 24 (V 30)), (ad 31, .inr (0, [.ref (ad 32), .ref (ad 33), .ref (ad 34), .ref (ad 35), .ref (ad 36), .int (V 31 5), .int (V 31 6), .int (V 31 7), .int (V 31 8)])), (ad 32, aI k 8 (V 32)), (ad 33, aI k 32 (V 33)), (ad 34, aI k 4 (V 34)), (ad 35, aI k 4 (V 35)), (ad 36, aI k 100 (V 36)), (ad 43, .inr (0, [.ref (ad 44), .ref (ad 45), .ref (ad 46), .ref (ad 47), .ref (ad 48), .int (V 43 5), .int (V 43 6), .int (V 43 7), .int (V 43 8)])), (ad 44, aI k 8 (V 44)), (ad 45, aI k 32 (V 45)), (ad 46, aI k 4 (V 46)), (ad 47, aI k 4 (V 47)), (ad 48, aI k 100 (V 48)), (ad 49, .inr (0, [.ref (ad 50), .ref (ad 51), .ref (ad 52), .ref (ad 53), .ref (ad 54), .int (V 49 5), .int (V 49 6), .int (V 49 7), .int (V 49 8)])), (ad 50, aI k 8 (V 50)), (ad 51, aI k 32 (V 51)), (ad 52, aI k 4 (V 52)), (ad 53, aI k 4 (V 53)), (ad 54, aI k 100 (V 54)), (ad 55, .inr (0, [.ref (ad 56), .ref (ad 57), .ref (ad 58), .ref (ad 59), .ref (ad 60), .int (V 55 5), .int (V 55 6), .int (V 55 7), .int (V 55 8)])), (ad 56, aI k 8 (V 56)), (ad 57, aI k 32 (V 57)), (ad 58, aI k 4 (V 58)), (ad 59, aI k 4 (V 59)), (ad 60, aI k 100 (V 60))]) (runV hx hb hg hown hml hl.1 ((c_X0_perform l D k (sh 37 ad) (tr 37 6 V) (sh 8 ad) (pj V) hv (ad 1) (V 1) (bitI n - 1) (w := q) (by omega)) s.heap.size) [.ref (ad 8), .ref (ad 1), .int (bitI n - 1), .int (nI q)] [] (preX (mapSome_sub hh.1 [37, 38, 39, 40, 41, 42, 8, 9, 10, 11, 12, 13, 14, 15, 1] rfl) (hh.2.1.sub [37, 38, 39, 40, 41, 42, 8, 9, 10, 11, 12, 13, 14, 15, 1] (by decide) rfl) hK hN xb0 x0) (va_recv hK hh.1 (ci := 0) (q0 := 37) rfl rfl) wd_381 wd_382 wd_383 wd_52 wd_384 lk_X0_perform ⟨rfl, rfl⟩ ⟨by decide, by decide⟩ ⟨Nat.zero_le _, Nat.zero_le _⟩ rfl (Nat.le_of_ble_eq_true rfl) dX3_same_35) hA hh [37, 38, 39, 40, 41, 42, 8, 9, 10, 11, 12, 13, 14, 15, 1] [0, 2, 3, 4, 5, 6, 7, 16, 17, 18, 19, 20, 21, 22, 23, 24, 25, 26, 27, 28, 29, 30, 31, 32, 33, 34, 35, 36, 43, 44, 45, 46, 47, 48, 49, 50, 51, 52, 53, 54, 55, 56, 57, 58, 59, 60] [0, 60, 1, 2, 3, 4, 5, 6, 52, 53, 54, 55, 56, 57, 58, 59, 7, 8, 9, 10, 11, 12, 13, 14, 15, 16, 17, 18, 19, 20, 21, 22, 23, 24, 25, 26, 27, 46, 47, 48, 49, 50, 51, 28, 29, 30, 31, 32, 33, 34, 35, 36, 37, 38, 39, 40, 41, 42, 43, 44, 45] rfl rfl (by decide) (by decide) (by decide) (fun _ => rfl) (fun r_35 u9 H locs q_35 hh => ?_)
    obtain ⟨d1, d2, d3, d4⟩ := pf_F hv q_35
    obtain ⟨a1, a2, a3⟩ := run_ag (w := q) (I := V 1) (I' := V 1) hv (fun _ _ => rfl) (all_m1 hn24)
    rw [a1] at d1
    rw [d1]
    have hw2 := hw_le (P := pj V) (I := V 1) (x := -1) (w := q) (n := n)
    refine lv_iconst (v := 2) hx hb dX3_same_38 (by decide) ?_
    refine lv_icmp_ne (tgt := 44) hx hb dX3_same_39 (by decide) (fun c_39 => ?_) (fun c_39 => ?_)
    · have c_39 : ¬ hwF (pj V) (V 1) (-1) q n = 2 := fun z => c_39 ((nI_eq (a := hwF (pj V) (V 1) (-1) q n) (b := 2) (by omega) (by omega)).mpr z)
      obtain ⟨V1, eV1⟩ : ∃ z : St, z = put 37 6 V u9 := ⟨_, rfl⟩
      rw [← eV1] at hh
      have f1 : FrX [0, 16, 17, 18, 19, 20, 21, 22, 23, 24, 25, 26, 27, 28, 29, 30, 37, 38, 39, 40, 41, 42, 55, 56, 57, 58, 59, 60] [2] V V1 := by rw [eV1]; exact (put_x (cs := [0, 16, 17, 18, 19, 20, 21, 22, 23, 24, 25, 26, 27, 28, 29, 30, 37, 38, 39, 40, 41, 42, 55, 56, 57, 58, 59, 60]) (by intro i hi; simp; omega) (by decide)).mono (fun c h => h) (by simp)
      have f1c : FrX [37, 38, 39, 40, 41, 42, 43, 44, 45, 46, 47, 48, 49, 50, 51, 52, 53, 54] [] V V1 := by rw [eV1]; exact put_x (by intro i hi; simp; omega) (by decide)
      have p1 : pj V1 = pj V := f1c.pj (by intro i hi; simp; omega)
      have hv1 : okV n (pj V1) := by rw [p1]; exact hv
      have hc1 : Ca n V1 := f1c.ca (by intro i hi; simp; omega) (by simp) hc
      refine lv_aload_n hx hb dX3_same_44 rfl (lv_at hl 0 rfl) ?_
      refine gfl hx hb hg inX3 hown hK hh.1 0 (ci := 3) rfl rfl 9 (by decide) wd_200 rfl dX3_same_45 ?_
      refine lv_aload_n hx hb dX3_same_48 rfl (lv_at hl 0 rfl) ?_
      refine gfl hx hb hg inX3 hown hK hh.1 0 (ci := 3) rfl rfl 0 (by decide) wd_191 rfl dX3_same_49 ?_
      refine lv_aload_n hx hb dX3_same_52 rfl (lv_at hl 0 rfl) ?_
      refine gfl hx hb hg inX3 hown hK hh.1 0 (ci := 3) rfl rfl 3 (by decide) wd_194 rfl dX3_same_53 ?_
      refine lv_aload_n hx hb dX3_same_56 rfl (lv_at hl 0 rfl) ?_
      refine callWA (D := D) (wn := fun U => wS k ad U) (wr := []) (runV hx hb hg hown hml hl.1 ((c_X3_reasonsNow l D k ad V1 hv1 hc1) H.size) [] [.ref (ad 1), .ref (ad 8), .ref (ad 55)] (preX (mapSome_sub hh.1 [0, 1, 2, 3, 4, 5, 6, 7, 8, 9, 10, 11, 12, 13, 14, 15, 16, 17, 18, 19, 20, 21, 22, 23, 24, 25, 26, 27, 28, 29, 30, 31, 32, 33, 34, 35, 36, 37, 38, 39, 40, 41, 42, 43, 44, 45, 46, 47, 48, 49, 50, 51, 52, 53, 54, 55, 56, 57, 58, 59, 60] rfl) (hh.2.1.sub [0, 1, 2, 3, 4, 5, 6, 7, 8, 9, 10, 11, 12, 13, 14, 15, 16, 17, 18, 19, 20, 21, 22, 23, 24, 25, 26, 27, 28, 29, 30, 31, 32, 33, 34, 35, 36, 37, 38, 39, 40, 41, 42, 43, 44, 45, 46, 47, 48, 49, 50, 51, 52, 53, 54, 55, 56, 57, 58, 59, 60] (by decide) rfl) hK hN xb0 x0) (va_recv hK hh.1 (ci := 3) (q0 := 0) rfl rfl) wd_280 wd_282 wd_0 wd_49 wd_283 lk_X3_reasonsNow ⟨rfl, rfl⟩ ⟨by decide, by decide⟩ ⟨Nat.zero_le _, Nat.zero_le _⟩ rfl (Nat.le_of_ble_eq_true rfl) dX3_same_57) hA hh [0, 1, 2, 3, 4, 5, 6, 7, 8, 9, 10, 11, 12, 13, 14, 15, 16, 17, 18, 19, 20, 21, 22, 23, 24, 25, 26, 27, 28, 29, 30, 31, 32, 33, 34, 35, 36, 37, 38, 39, 40, 41, 42, 43, 44, 45, 46, 47, 48, 49, 50, 51, 52, 53, 54, 55, 56, 57, 58, 59, 60] [] [0, 1, 2, 3, 4, 5, 6, 7, 8, 9, 10, 11, 12, 13, 14, 15, 16, 17, 18, 19, 20, 21, 22, 23, 24, 25, 26, 27, 28, 29, 30, 31, 32, 33, 34, 35, 36, 37, 38, 39, 40, 41, 42, 43, 44, 45, 46, 47, 48, 49, 50, 51, 52, 53, 54, 55, 56, 57, 58, 59, 60] rfl rfl (by decide) (by decide) (by decide) (fun _ => rfl) (fun U H locs q_57 hh => ?_)
      obtain ⟨fU, o2, hRG⟩ := q_57
      have hRG1 := hRG
      rw [p1] at hRG
      have pU : pj U = pj V := fU.pj.trans p1
      have hvU : okV n (pj U) := by rw [pU]; exact hv
      have eU1 : U 1 = V 1 := (fU.1 1 (by decide) (by decide)).trans (f1.1 1 (by decide))
      refine lv_iload_n hx hb dX3_same_60 rfl (lv_at hl 1 rfl) ?_
      refine topv (nI q) hxe ?_
      refine callR (runV hx hb hg hown hml hl.1 (c_X2_backOf l D k (sh 16 ad) (tr 16 15 U) (q := q) (by omega)) [.int (nI q)] [.ref (ad 1), .ref (ad 8), .ref (ad 55)] (preR (mapSome_sub hh.1 [16, 17, 18, 19, 20, 21, 22, 23, 24, 25, 26, 27, 28, 29, 30] rfl) hK hN xb0 x0) (va_recv hK hh.1 (ci := 2) (q0 := 16) rfl rfl) wd_377 wd_378 wd_379 wd_51 wd_380 lk_X2_backOf ⟨rfl, rfl⟩ ⟨by decide, by decide⟩ ⟨Nat.zero_le _, Nat.zero_le _⟩ rfl (Nat.le_of_ble_eq_true rfl) dX3_same_61) (fun r_61 q_61 => ?_)
      obtain rfl := q_61
      refine lv_iload_n hx hb dX3_same_64 rfl (lv_at hl 1 rfl) ?_
      refine topv (nI q) hxe ?_
      refine callWI (D := D) (wn := fun u8 => wS k ad (put 55 6 U u8)) (wr := [(ad 0, .inr (3, [.ref (ad 8), .ref (ad 16), .int (U 0 2), .ref (ad 1), .ref (ad 2), .int (U 0 5), .ref (ad 31), .int (U 0 7), .ref (ad 3), .ref (ad 55), .ref (ad 4), .int (U 0 11)])), (ad 2, aR (k 2) 3 (fun i => some (ad (5 + i)))), (ad 3, aR (k 3) 3 (fun i => some (ad (37 + 6 * i)))), (ad 4, aI k 24 (U 4)), (ad 5, aI k 4 (U 5)), (ad 6, aI k 4 (U 6)), (ad 7, aI k 4 (U 7)), (ad 16, .inr (2, [.int (U 16 0), .ref (ad 17), .ref (ad 18), .ref (ad 19), .ref (ad 20), .ref (ad 21), .ref (ad 22), .ref (ad 23), .ref (ad 24), .ref (ad 25)])), (ad 17, aI k 24 (U 17)), (ad 18, aI k 24 (U 18)), (ad 19, aI k 24 (U 19)), (ad 20, aR (k 2) 5 (fun i => some (ad (16 + (10 + i))))), (ad 21, aI k 24 (U 21)), (ad 22, aI k 24 (U 22)), (ad 23, aI k 24 (U 23)), (ad 24, aI k 24 (U 24)), (ad 25, aI k 24 (U 25)), (ad 26, aI k 24 (U 26)), (ad 27, aI k 24 (U 27)), (ad 28, aI k 24 (U 28)), (ad 29, aI k 24 (U 29)), (ad 30, aI k 24 (U 30)), (ad 31, .inr (0, [.ref (ad 32), .ref (ad 33), .ref (ad 34), .ref (ad 35), .ref (ad 36), .int (U 31 5), .int (U 31 6), .int (U 31 7), .int (U 31 8)])), (ad 32, aI k 8 (U 32)), (ad 33, aI k 32 (U 33)), (ad 34, aI k 4 (U 34)), (ad 35, aI k 4 (U 35)), (ad 36, aI k 100 (U 36)), (ad 37, .inr (0, [.ref (ad 38), .ref (ad 39), .ref (ad 40), .ref (ad 41), .ref (ad 42), .int (U 37 5), .int (U 37 6), .int (U 37 7), .int (U 37 8)])), (ad 38, aI k 8 (U 38)), (ad 39, aI k 32 (U 39)), (ad 40, aI k 4 (U 40)), (ad 41, aI k 4 (U 41)), (ad 42, aI k 100 (U 42)), (ad 43, .inr (0, [.ref (ad 44), .ref (ad 45), .ref (ad 46), .ref (ad 47), .ref (ad 48), .int (U 43 5), .int (U 43 6), .int (U 43 7), .int (U 43 8)])), (ad 44, aI k 8 (U 44)), (ad 45, aI k 32 (U 45)), (ad 46, aI k 4 (U 46)), (ad 47, aI k 4 (U 47)), (ad 48, aI k 100 (U 48)), (ad 49, .inr (0, [.ref (ad 50), .ref (ad 51), .ref (ad 52), .ref (ad 53), .ref (ad 54), .int (U 49 5), .int (U 49 6), .int (U 49 7), .int (U 49 8)])), (ad 50, aI k 8 (U 50)), (ad 51, aI k 32 (U 51)), (ad 52, aI k 4 (U 52)), (ad 53, aI k 4 (U 53)), (ad 54, aI k 100 (U 54))]) (runV hx hb hg hown hml hl.1 ((c_X0_perform l D k (sh 55 ad) (tr 55 6 U) (sh 8 ad) (pj U) hvU (ad 1) (U 1) (tr 16 15 U 7 q) (w := q) (by omega)) H.size) [.ref (ad 8), .ref (ad 1), .int (tr 16 15 U 7 q), .int (nI q)] [] (preX (mapSome_sub hh.1 [55, 56, 57, 58, 59, 60, 8, 9, 10, 11, 12, 13, 14, 15, 1] rfl) (hh.2.1.sub [55, 56, 57, 58, 59, 60, 8, 9, 10, 11, 12, 13, 14, 15, 1] (by decide) rfl) hK hN xb0 x0) (va_recv hK hh.1 (ci := 0) (q0 := 55) rfl rfl) wd_381 wd_382 wd_383 wd_52 wd_384 lk_X0_perform ⟨rfl, rfl⟩ ⟨by decide, by decide⟩ ⟨Nat.zero_le _, Nat.zero_le _⟩ rfl (Nat.le_of_ble_eq_true rfl) dX3_same_65) hA hh [55, 56, 57, 58, 59, 60, 8, 9, 10, 11, 12, 13, 14, 15, 1] [0, 2, 3, 4, 5, 6, 7, 16, 17, 18, 19, 20, 21, 22, 23, 24, 25, 26, 27, 28, 29, 30, 31, 32, 33, 34, 35, 36, 37, 38, 39, 40, 41, 42, 43, 44, 45, 46, 47, 48, 49, 50, 51, 52, 53, 54] [0, 60, 1, 2, 3, 4, 5, 6, 52, 53, 54, 55, 56, 57, 58, 59, 7, 8, 9, 10, 11, 12, 13, 14, 15, 16, 17, 18, 19, 20, 21, 22, 23, 24, 25, 26, 27, 28, 29, 30, 31, 32, 33, 34, 35, 36, 37, 38, 39, 40, 41, 42, 43, 44, 45, 46, 47, 48, 49, 50, 51] rfl rfl (by decide) (by decide) (by decide) (fun _ => rfl) (fun r_65 u8 H locs q_65 hh => ?_)
      have h8 := q_65
      rw [pU, eU1] at h8
      obtain ⟨g1, g2, g3, g4⟩ := pf_F hv h8
      refine lv_pop hx hb dX3_same_68 rfl ?_
      obtain ⟨U2, eU2⟩ : ∃ z : St, z = put 55 6 U u8 := ⟨_, rfl⟩
      rw [← eU2] at hh
      have f2 : FrX [0, 16, 17, 18, 19, 20, 21, 22, 23, 24, 25, 26, 27, 28, 29, 30, 37, 38, 39, 40, 41, 42, 55, 56, 57, 58, 59, 60] [2] V U2 := by rw [eU2]; exact (f1.trans (fU.x.mono (by intro c hc; simp at hc ⊢; omega) (by intro c hc; simp at hc ⊢; omega))).trans ((put_x (cs := [0, 16, 17, 18, 19, 20, 21, 22, 23, 24, 25, 26, 27, 28, 29, 30, 37, 38, 39, 40, 41, 42, 55, 56, 57, 58, 59, 60]) (by intro i hi; simp; omega) (by decide)).mono (fun c h => h) (by simp))
      have hc2 : Ca n U2 := by rw [eU2]; exact (put_x (cs := [55, 56, 57, 58, 59, 60]) (by intro i hi; simp; omega) (by decide)).ca (by intro i hi; simp; omega) (by simp) (CaS.of fU o2 hRG1).2
      have e55 : tr 55 6 U2 0 5 = nI (tcF (pj V) (V 1) (tr 16 15 U 7 q) q n) := by rw [tr_in (by decide), eU2, put_in (by decide)]; exact g2
      have e55t : ∀ j, j < tcF (pj V) (V 1) (tr 16 15 U 7 q) q n → tr 55 6 U2 5 j = tdF (pj V) (V 1) (tr 16 15 U 7 q) q n j := fun j hj => by rw [tr_in (by decide), eU2, put_in (by decide)]; exact g4 j hj
      have e37 : tr 37 6 U2 0 5 = nI (tcF (pj V) (V 1) (-1) q n) := by rw [tr_in (by decide), eU2, put_out (by omega), fU.1 (37 + 0) (by omega) (by omega), eV1, put_in (by decide), ← a2]; exact d2
      have e37t : ∀ j, j < tcF (pj V) (V 1) (-1) q n → tr 37 6 U2 5 j = tdF (pj V) (V 1) (-1) q n j := fun j hj => by rw [tr_in (by decide), eU2, put_out (by omega), fU.1 (37 + 5) (by omega) (by omega), eV1, put_in (by decide), d4 j (by omega), a3 j (by omega)]
      refine lv_aload_n hx hb dX3_same_69 rfl (lv_at hl 0 rfl) ?_
      refine gfl hx hb hg inX3 hown hK hh.1 0 (ci := 3) rfl rfl 9 (by decide) wd_200 rfl dX3_same_70 ?_
      refine lv_aload_n hx hb dX3_same_73 rfl (lv_at hl 0 rfl) ?_
      refine gfl hx hb hg inX3 hown hK hh.1 0 (ci := 3) rfl rfl 8 (by decide) wd_199 rfl dX3_same_74 ?_
      refine lv_iconst (v := 0) hx hb dX3_same_77 (by decide) ?_
      refine topv (nI 0) rfl ?_
      refine ldq (x := ad (37 + 6 * 0)) hx hb hK hh.1 3 3 rfl rfl rfl (by omega) (by decide) rfl dX3_same_78 ?_
      refine callR (runV hx hb hg hown hml hl.1 (c_X0_toldLike l D k (sh 55 ad) (tr 55 6 U2) (sh 37 ad) (tr 37 6 U2) e55 e37 g3 tc_le) [.ref (ad 37)] [] (preR (mapSome_sub hh.1 [55, 56, 57, 58, 59, 60, 37, 38, 39, 40, 41, 42] rfl) hK hN xb0 x0) (va_recv hK hh.1 (ci := 0) (q0 := 55) rfl rfl) wd_510 wd_511 wd_512 wd_52 wd_513 lk_X0_toldLike ⟨rfl, rfl⟩ ⟨by decide, by decide⟩ ⟨Nat.zero_le _, Nat.zero_le _⟩ rfl (Nat.le_of_ble_eq_true rfl) dX3_same_79) (fun r_79 q_79 => ?_)
      obtain ⟨b9, rfl, hb9⟩ := q_79
      have hb9 : b9 = lkB (pj V) (V 1) (tr 16 15 U 7 q) (-1) q n := lk_of (hb9.trans ⟨fun z => ⟨z.1, fun j hj => by rw [← e55t j hj, ← e37t j (by omega)]; exact z.2 j hj⟩, fun z => ⟨z.1, fun j hj => by rw [e55t j hj, e37t j (by omega)]; exact z.2 j hj⟩⟩)
      refine lv_if_eq (tgt := 89) hx hb dX3_same_82 (by decide) (fun c_82 => ?_) (fun c_82 => ?_)
      · have c_82 := zI_0.mp c_82
        refine lv_iconst (v := 0) hx hb dX3_same_89 (by decide) ?_
        exact retI (Wd := wS k ad) (v := 0) (U2) hx hb hr hlocks dX3_same_90 hh (⟨Or.inr ⟨q, hq, hxe, Or.inr ⟨c_39, tr 16 15 U 7 q, hRG.back hq, by rw [← hb9, c_82]; rfl⟩⟩, f2, hc2⟩)
      · have c_82 := zI_ne c_82
        refine lv_iconst (v := 1) hx hb dX3_same_85 (by decide) ?_
        refine lv_goto (tgt := 90) hx hb dX3_same_86 (by decide) ?_
        exact retI (Wd := wS k ad) (v := 1) (U2) hx hb hr hlocks dX3_same_90 hh (⟨Or.inr ⟨q, hq, hxe, Or.inr ⟨c_39, tr 16 15 U 7 q, hRG.back hq, by rw [← hb9, c_82]; rfl⟩⟩, f2, hc2⟩)
    · have c_39 : hwF (pj V) (V 1) (-1) q n = 2 := (nI_eq (a := hwF (pj V) (V 1) (-1) q n) (b := 2) (by omega) (by omega)).mp c_39
      obtain ⟨V1, eV1⟩ : ∃ z : St, z = put 37 6 V u9 := ⟨_, rfl⟩
      rw [← eV1] at hh
      have f1 : FrX [0, 16, 17, 18, 19, 20, 21, 22, 23, 24, 25, 26, 27, 28, 29, 30, 37, 38, 39, 40, 41, 42, 55, 56, 57, 58, 59, 60] [2] V V1 := by rw [eV1]; exact (put_x (cs := [0, 16, 17, 18, 19, 20, 21, 22, 23, 24, 25, 26, 27, 28, 29, 30, 37, 38, 39, 40, 41, 42, 55, 56, 57, 58, 59, 60]) (by intro i hi; simp; omega) (by decide)).mono (fun c h => h) (by simp)
      have f1c : FrX [37, 38, 39, 40, 41, 42, 43, 44, 45, 46, 47, 48, 49, 50, 51, 52, 53, 54] [] V V1 := by rw [eV1]; exact put_x (by intro i hi; simp; omega) (by decide)
      have p1 : pj V1 = pj V := f1c.pj (by intro i hi; simp; omega)
      have hv1 : okV n (pj V1) := by rw [p1]; exact hv
      have hc1 : Ca n V1 := f1c.ca (by intro i hi; simp; omega) (by simp) hc
      refine lv_iconst (v := 2) hx hb dX3_same_42 (by decide) ?_
      exact retI (Wd := wS k ad) (v := 2) (V1) hx hb hr hlocks dX3_same_43 hh (⟨Or.inr ⟨q, hq, hxe, Or.inl ⟨c_39, rfl⟩⟩, f1, hc1⟩)
  · have c_8 := has_no hv c_8
    refine lv_iconst (v := (-1)) hx hb dX3_same_11 (by decide) ?_
    exact retI (Wd := wS k ad) (v := (-1)) (V) hx hb hr hlocks dX3_same_12 hh (⟨Or.inl ⟨c_8, rfl⟩, FrX.rf, hc⟩)
abbrev rmX3_wholeIsSpentInATest : Room := { frames := 4, cells := 0, slots := 0, locals := 98 }
theorem lk_X3_wholeIsSpentInATest : Lk yX3_wholeIsSpentInATest 1 := by decide +kernel
set_option maxHeartbeats 4000000 in
set_option maxRecDepth 100000 in
/-- wholeIsSpentInATest(p) -/
theorem c_X3_wholeIsSpentInATest (l : Launch) (D : va_G) (k : Nat → ClassId) (ad : Nat → Nat) (V : St) {n : Nat} (hv : okV n (pj V)) {t : Nat} (h5 : V 0 5 = nI t) (ht : t ≤ 3) {q : Nat} (hq : q < n) : CtX noX l yX3_wholeIsSpentInATest cX3_wholeIsSpentInATest 4 (some .boolean) rmX3_wholeIsSpentInATest D (tyL k) (wS k ad V) [.ref (ad 0), .int (nI q)] (qI D (wS k ad) (fun r U => r = zI (!nsB (pj V) (fun i => V (5 + i)) t q n) ∧ FrX [37, 38, 39, 40, 41, 42, 43, 44, 45, 46, 47, 48, 49, 50, 51, 52, 53, 54] [] V U ∧ ∀ j, j < t → hld (pj V) (fun i => V (5 + i)) q n U j)) := by
  refine CtX.mk (by decide) (Nat.le_of_ble_eq_true rfl) ?_
  intro p e s m below meth c hx hb hml hown hg hr hlocks hK hN A hA hX hh ls hl
  have hh : Hd D A (wS k ad V) s.heap s.heap [] := hh
  have hl : lv_has ls 4 [(0, .ref (ad 0)), (1, .int (nI q))] := hl
  have hn24 := hv.1
  refine lv_iconst (v := 0) hx hb dX3_wholeIsSpentInATest_0 (by decide) ?_
  refine lv_istore_n (lv' := [(2, .int 0), (0, .ref (ad 0)), (1, .int (nI q))]) hx hb dX3_wholeIsSpentInATest_1 rfl hl (by decide) rfl (fun ls hl => ?_)
  refine lv_iconst (v := 0) hx hb dX3_wholeIsSpentInATest_2 (by decide) ?_
  refine lv_istore_n (lv' := [(3, .int 0), (2, .int 0), (0, .ref (ad 0)), (1, .int (nI q))]) hx hb dX3_wholeIsSpentInATest_3 rfl hl (by decide) rfl (fun ls hl => ?_)
  refine loopW (σ := Nat × Bool × St) (fun zz9 H locs ls => match zz9 with | (i, b, U) => Hd D A (wS k ad U) s.heap H locs ∧ lv_has ls 4 [(0, .ref (ad 0)), (1, .int (nI q)), (2, .int (zI b)), (3, .int (nI i))] ∧ (i ≤ t) ∧ (FrX [37, 38, 39, 40, 41, 42, 43, 44, 45, 46, 47, 48, 49, 50, 51, 52, 53, 54] [] V U) ∧ (∀ j, j < i → hld (pj V) (fun i => V (5 + i)) q n U j) ∧ (b = false ↔ ∀ j, j < i → ¬ hwF (pj V) (V (5 + j)) (-1) q n = 2)) (fun zz9 => match zz9 with | (i, b, U) => t - i) ?_ (0, false, V) ⟨hh, (lv_sub hl [2, 3, 1, 0] rfl), (by omega), FrX.rf, (fun j hj => absurd hj (Nat.not_lt_zero _)), ⟨fun _ j hj => absurd hj (Nat.not_lt_zero _), fun _ => rfl⟩⟩
  intro zz9 H locs ls hI ih
  obtain ⟨i, b, U⟩ := zz9
  obtain ⟨hh, hl, hi, fw, hT, hb2⟩ := hI
  have pU : pj U = pj V := fw.pj (by intro i hi; simp; omega)
  have hvU : okV n (pj U) := by rw [pU]; exact hv
  refine lv_iload_n hx hb dX3_wholeIsSpentInATest_4 rfl (lv_at hl 3 rfl) ?_
  refine lv_aload_n hx hb dX3_wholeIsSpentInATest_5 rfl (lv_at hl 0 rfl) ?_
  refine gfl hx hb hg inX3 hown hK hh.1 0 (ci := 3) rfl rfl 5 (by decide) wd_196 rfl dX3_wholeIsSpentInATest_6 ?_
  refine topv (nI t) ((fw.2 5 (by simp)).trans h5) ?_
  refine lv_icmp_ge (tgt := 57) hx hb dX3_wholeIsSpentInATest_9 (by decide) (fun c_9 => ?_) (fun c_9 => ?_)
  · have c_9 : t ≤ i := (nI_leI (a := t) (b := i) (by omega) (by omega)).mp c_9
    refine lv_iload_n hx hb dX3_wholeIsSpentInATest_57 rfl (lv_at hl 2 rfl) ?_
    exact retZ (Wd := wS k ad) (v := zI b) (U) hx hb hr hlocks (zI_nar _) dX3_wholeIsSpentInATest_58 hh (⟨congrArg zI (ns_of (hb2.trans ⟨fun z j hj => z j (by omega), fun z j hj => z j (by omega)⟩)), fw, fun j hj => hT j (by omega)⟩)
  · have c_9 : ¬ t ≤ i := fun z => c_9 ((nI_leI (a := t) (b := i) (by omega) (by omega)).mpr z)
    rcases (show i = 0 ∨ i = 1 ∨ i = 2 by omega) with e9 | e9 | e9
    · refine lv_iload_n hx hb dX3_wholeIsSpentInATest_12 rfl (lv_at hl 2 rfl) ?_
      refine lv_aload_n hx hb dX3_wholeIsSpentInATest_13 rfl (lv_at hl 0 rfl) ?_
      refine gfl hx hb hg inX3 hown hK hh.1 0 (ci := 3) rfl rfl 8 (by decide) wd_199 rfl dX3_wholeIsSpentInATest_14 ?_
      refine lv_iload_n hx hb dX3_wholeIsSpentInATest_17 rfl (lv_at hl 3 rfl) ?_
      refine topv (0) (by rw [e9]; rfl) ?_
      refine topv (nI 0) rfl ?_
      refine ldq (x := ad (37 + 6 * 0)) hx hb hK hh.1 3 3 rfl rfl rfl (by omega) (by decide) rfl dX3_wholeIsSpentInATest_18 ?_
      refine lv_aload_n hx hb dX3_wholeIsSpentInATest_19 rfl (lv_at hl 0 rfl) ?_
      refine gfl hx hb hg inX3 hown hK hh.1 0 (ci := 3) rfl rfl 0 (by decide) wd_191 rfl dX3_wholeIsSpentInATest_20 ?_
      refine lv_aload_n hx hb dX3_wholeIsSpentInATest_23 rfl (lv_at hl 0 rfl) ?_
      refine gfl hx hb hg inX3 hown hK hh.1 0 (ci := 3) rfl rfl 4 (by decide) wd_195 rfl dX3_wholeIsSpentInATest_24 ?_
      refine lv_iload_n hx hb dX3_wholeIsSpentInATest_27 rfl (lv_at hl 3 rfl) ?_
      refine topv (0) (by rw [e9]; rfl) ?_
      refine topv (nI 0) rfl ?_
      refine ldq (x := ad (5 + 0)) hx hb hK hh.1 2 2 rfl rfl rfl (by omega) (by decide) rfl dX3_wholeIsSpentInATest_28 ?_
      refine lv_aload_n hx hb dX3_wholeIsSpentInATest_29 rfl (lv_at hl 0 rfl) ?_
      refine gfl hx hb hg inX3 hown hK hh.1 0 (ci := 3) rfl rfl 0 (by decide) wd_191 rfl dX3_wholeIsSpentInATest_30 ?_
      refine callR (runV hx hb hg hown hml hl.1 (c_X1_all l D k (sh 8 ad) (pj U) hvU) [] [.ref (ad 5), .ref (ad 8), .ref (ad 37), .int (zI b)] (preR (mapSome_sub hh.1 [8, 9, 10, 11, 12, 13, 14, 15] rfl) hK hN xb0 x0) (va_recv hK hh.1 (ci := 1) (q0 := 8) rfl rfl) wd_276 wd_277 wd_278 wd_50 wd_279 lk_X1_all ⟨rfl, rfl⟩ ⟨by decide, by decide⟩ ⟨Nat.zero_le _, Nat.zero_le _⟩ rfl (Nat.le_of_ble_eq_true rfl) dX3_wholeIsSpentInATest_33) (fun r_33 q_33 => ?_)
      obtain rfl := q_33
      refine lv_iload_n hx hb dX3_wholeIsSpentInATest_36 rfl (lv_at hl 1 rfl) ?_
      refine callWI (D := D) (wn := fun u9 => wS k ad (put 37 6 U u9)) (wr := [(ad 0, .inr (3, [.ref (ad 8), .ref (ad 16), .int (U 0 2), .ref (ad 1), .ref (ad 2), .int (U 0 5), .ref (ad 31), .int (U 0 7), .ref (ad 3), .ref (ad 55), .ref (ad 4), .int (U 0 11)])), (ad 1, aI k 4 (U 1)), (ad 2, aR (k 2) 3 (fun i => some (ad (5 + i)))), (ad 3, aR (k 3) 3 (fun i => some (ad (37 + 6 * i)))), (ad 4, aI k 24 (U 4)), (ad 6, aI k 4 (U 6)), (ad 7, aI k 4 (U 7)), (ad 16, .inr (2, [.int (U 16 0), .ref (ad 17), .ref (ad 18), .ref (ad 19), .ref (ad 20), .ref (ad 21), .ref (ad 22), .ref (ad 23), .ref (ad 24), .ref (ad 25)])), (ad 17, aI k 24 (U 17)), (ad 18, aI k 24 (U 18)), (ad 19, aI k 24 (U 19)), (ad 20, aR (k 2) 5 (fun i => some (ad (16 + (10 + i))))), (ad 21, aI k 24 (U 21)), (ad 22, aI k 24 (U 22)), (ad 23, aI k 24 (U 23)), (ad 24, aI k 24 (U 24)), (ad 25, aI k 24 (U 25)), (ad 26, aI k 24 (U 26)), (ad 27, aI k 24 (U 27)), (ad 28, aI k 24 (U 28)), (ad 29, aI k 24 (U 29)), (ad 30, aI k 24 (U 30)), (ad 31, .inr (0, [.ref (ad 32), .ref (ad 33), .ref (ad 34), .ref (ad 35), .ref (ad 36), .int (U 31 5), .int (U 31 6), .int (U 31 7), .int (U 31 8)])), (ad 32, aI k 8 (U 32)), (ad 33, aI k 32 (U 33)), (ad 34, aI k 4 (U 34)), (ad 35, aI k 4 (U 35)), (ad 36, aI k 100 (U 36)), (ad 43, .inr (0, [.ref (ad 44), .ref (ad 45), .ref (ad 46), .ref (ad 47), .ref (ad 48), .int (U 43 5), .int (U 43 6), .int (U 43 7), .int (U 43 8)])), (ad 44, aI k 8 (U 44)), (ad 45, aI k 32 (U 45)), (ad 46, aI k 4 (U 46)), (ad 47, aI k 4 (U 47)), (ad 48, aI k 100 (U 48)), (ad 49, .inr (0, [.ref (ad 50), .ref (ad 51), .ref (ad 52), .ref (ad 53), .ref (ad 54), .int (U 49 5), .int (U 49 6), .int (U 49 7), .int (U 49 8)])), (ad 50, aI k 8 (U 50)), (ad 51, aI k 32 (U 51)), (ad 52, aI k 4 (U 52)), (ad 53, aI k 4 (U 53)), (ad 54, aI k 100 (U 54)), (ad 55, .inr (0, [.ref (ad 56), .ref (ad 57), .ref (ad 58), .ref (ad 59), .ref (ad 60), .int (U 55 5), .int (U 55 6), .int (U 55 7), .int (U 55 8)])), (ad 56, aI k 8 (U 56)), (ad 57, aI k 32 (U 57)), (ad 58, aI k 4 (U 58)), (ad 59, aI k 4 (U 59)), (ad 60, aI k 100 (U 60))]) (runV hx hb hg hown hml hl.1 ((c_X0_perform l D k (sh 37 ad) (tr 37 6 U) (sh 8 ad) (pj U) hvU (ad 5) (U 5) (bitI n - 1) (w := q) (by omega)) H.size) [.ref (ad 8), .ref (ad 5), .int (bitI n - 1), .int (nI q)] [.int (zI b)] (preX (mapSome_sub hh.1 [37, 38, 39, 40, 41, 42, 8, 9, 10, 11, 12, 13, 14, 15, 5] rfl) (hh.2.1.sub [37, 38, 39, 40, 41, 42, 8, 9, 10, 11, 12, 13, 14, 15, 5] (by decide) rfl) hK hN xb0 x0) (va_recv hK hh.1 (ci := 0) (q0 := 37) rfl rfl) wd_381 wd_382 wd_383 wd_52 wd_384 lk_X0_perform ⟨rfl, rfl⟩ ⟨by decide, by decide⟩ ⟨Nat.zero_le _, Nat.zero_le _⟩ rfl (Nat.le_of_ble_eq_true rfl) dX3_wholeIsSpentInATest_37) hA hh [37, 38, 39, 40, 41, 42, 8, 9, 10, 11, 12, 13, 14, 15, 5] [0, 1, 2, 3, 4, 6, 7, 16, 17, 18, 19, 20, 21, 22, 23, 24, 25, 26, 27, 28, 29, 30, 31, 32, 33, 34, 35, 36, 43, 44, 45, 46, 47, 48, 49, 50, 51, 52, 53, 54, 55, 56, 57, 58, 59, 60] [0, 1, 2, 3, 4, 60, 5, 6, 52, 53, 54, 55, 56, 57, 58, 59, 7, 8, 9, 10, 11, 12, 13, 14, 15, 16, 17, 18, 19, 20, 21, 22, 23, 24, 25, 26, 27, 46, 47, 48, 49, 50, 51, 28, 29, 30, 31, 32, 33, 34, 35, 36, 37, 38, 39, 40, 41, 42, 43, 44, 45] rfl rfl (by decide) (by decide) (by decide) (fun _ => rfl) (fun r_37 u9 H locs q_37 hh => ?_)
      have h8 := q_37
      rw [pU, show U 5 = V 5 from fw.1 5 (by decide)] at h8
      obtain ⟨d1, d2, d3, d4⟩ := pf_F hv h8
      obtain ⟨a1, a2, a3⟩ := run_ag (w := q) (I := V 5) (I' := V 5) hv (fun _ _ => rfl) (all_m1 hn24)
      rw [a1] at d1
      rw [d1]
      have hw2 := hw_le (P := pj V) (I := V 5) (x := -1) (w := q) (n := n)
      refine lv_iconst (v := 2) hx hb dX3_wholeIsSpentInATest_40 (by decide) ?_
      refine lv_icmp_ne (tgt := 48) hx hb dX3_wholeIsSpentInATest_41 (by decide) (fun c_41 => ?_) (fun c_41 => ?_)
      · have c_41 : ¬ hwF (pj V) (V 5) (-1) q n = 2 := fun z => c_41 ((nI_eq (a := hwF (pj V) (V 5) (-1) q n) (b := 2) (by omega) (by omega)).mpr z)
        refine lv_iconst (v := 0) hx hb dX3_wholeIsSpentInATest_48 (by decide) ?_
        refine lv_ior hx hb dX3_wholeIsSpentInATest_49 ?_
        refine topv (zI b) (zor0 b) ?_
        refine lv_istore_n (lv' := [(2, .int (zI b)), (0, .ref (ad 0)), (1, .int (nI q)), (3, .int (nI i))]) hx hb dX3_wholeIsSpentInATest_50 rfl hl (by decide) rfl (fun ls hl => ?_)
        refine lv_iinc (v := nI (i + 1)) (lv' := [(3, .int (nI (i + 1))), (2, .int (zI b)), (0, .ref (ad 0)), (1, .int (nI q))]) hx hb dX3_wholeIsSpentInATest_51 hl (k := 3) rfl (nI_succ i).symm (by decide) rfl (fun ls hl => ?_)
        refine lv_goto (tgt := 4) hx hb dX3_wholeIsSpentInATest_54 (by decide) ?_
        exact ih (i + 1, b, put 37 6 U u9) _ _ _ ⟨hh, (lv_sub hl [2, 3, 1, 0] rfl), (by omega), (fw.trans (put_x (by intro i hi; simp; omega) (by decide))), (fun j hj => by rcases Classical.em (j = 0) with e | e; (rw [e]; exact ⟨by show put 37 6 U u9 (37 + 0) 5 = nI (tcF (pj V) (V 5) (-1) q n); rw [put_in (by decide), ← a2]; exact d2, fun i hi => by have hi : i < tcF (pj V) (V 5) (-1) q n := hi; show put 37 6 U u9 (37 + 5) i = tdF (pj V) (V 5) (-1) q n i; rw [put_in (by decide), d4 i (by omega), a3 i (by omega)]⟩); exact (hT j (by omega)).x (put_out (by omega)) (put_out (by omega))), ⟨fun z j hj => by rcases Classical.em (j = 0) with e | e; (rw [e]; exact c_41); exact hb2.mp z j (by omega), fun z => hb2.mpr (fun j hj => z j (by omega))⟩⟩ (by dsimp only; omega)
      · have c_41 : hwF (pj V) (V 5) (-1) q n = 2 := (nI_eq (a := hwF (pj V) (V 5) (-1) q n) (b := 2) (by omega) (by omega)).mp c_41
        refine lv_iconst (v := 1) hx hb dX3_wholeIsSpentInATest_44 (by decide) ?_
        refine lv_goto (tgt := 49) hx hb dX3_wholeIsSpentInATest_45 (by decide) ?_
        refine lv_ior hx hb dX3_wholeIsSpentInATest_49 ?_
        refine topv (zI true) (zor1 b) ?_
        refine lv_istore_n (lv' := [(2, .int (zI true)), (0, .ref (ad 0)), (1, .int (nI q)), (3, .int (nI i))]) hx hb dX3_wholeIsSpentInATest_50 rfl hl (by decide) rfl (fun ls hl => ?_)
        refine lv_iinc (v := nI (i + 1)) (lv' := [(3, .int (nI (i + 1))), (2, .int (zI true)), (0, .ref (ad 0)), (1, .int (nI q))]) hx hb dX3_wholeIsSpentInATest_51 hl (k := 3) rfl (nI_succ i).symm (by decide) rfl (fun ls hl => ?_)
        refine lv_goto (tgt := 4) hx hb dX3_wholeIsSpentInATest_54 (by decide) ?_
        exact ih (i + 1, true, put 37 6 U u9) _ _ _ ⟨hh, (lv_sub hl [2, 3, 1, 0] rfl), (by omega), (fw.trans (put_x (by intro i hi; simp; omega) (by decide))), (fun j hj => by rcases Classical.em (j = 0) with e | e; (rw [e]; exact ⟨by show put 37 6 U u9 (37 + 0) 5 = nI (tcF (pj V) (V 5) (-1) q n); rw [put_in (by decide), ← a2]; exact d2, fun i hi => by have hi : i < tcF (pj V) (V 5) (-1) q n := hi; show put 37 6 U u9 (37 + 5) i = tdF (pj V) (V 5) (-1) q n i; rw [put_in (by decide), d4 i (by omega), a3 i (by omega)]⟩); exact (hT j (by omega)).x (put_out (by omega)) (put_out (by omega))), ⟨fun z => (by cases z), fun z => absurd c_41 (z 0 (by omega))⟩⟩ (by dsimp only; omega)
    · refine lv_iload_n hx hb dX3_wholeIsSpentInATest_12 rfl (lv_at hl 2 rfl) ?_
      refine lv_aload_n hx hb dX3_wholeIsSpentInATest_13 rfl (lv_at hl 0 rfl) ?_
      refine gfl hx hb hg inX3 hown hK hh.1 0 (ci := 3) rfl rfl 8 (by decide) wd_199 rfl dX3_wholeIsSpentInATest_14 ?_
      refine lv_iload_n hx hb dX3_wholeIsSpentInATest_17 rfl (lv_at hl 3 rfl) ?_
      refine topv (1) (by rw [e9]; rfl) ?_
      refine topv (nI 1) rfl ?_
      refine ldq (x := ad (37 + 6 * 1)) hx hb hK hh.1 3 3 rfl rfl rfl (by omega) (by decide) rfl dX3_wholeIsSpentInATest_18 ?_
      refine lv_aload_n hx hb dX3_wholeIsSpentInATest_19 rfl (lv_at hl 0 rfl) ?_
      refine gfl hx hb hg inX3 hown hK hh.1 0 (ci := 3) rfl rfl 0 (by decide) wd_191 rfl dX3_wholeIsSpentInATest_20 ?_
      refine lv_aload_n hx hb dX3_wholeIsSpentInATest_23 rfl (lv_at hl 0 rfl) ?_
      refine gfl hx hb hg inX3 hown hK hh.1 0 (ci := 3) rfl rfl 4 (by decide) wd_195 rfl dX3_wholeIsSpentInATest_24 ?_
      refine lv_iload_n hx hb dX3_wholeIsSpentInATest_27 rfl (lv_at hl 3 rfl) ?_
      refine topv (1) (by rw [e9]; rfl) ?_
      refine topv (nI 1) rfl ?_
      refine ldq (x := ad (5 + 1)) hx hb hK hh.1 2 2 rfl rfl rfl (by omega) (by decide) rfl dX3_wholeIsSpentInATest_28 ?_
      refine lv_aload_n hx hb dX3_wholeIsSpentInATest_29 rfl (lv_at hl 0 rfl) ?_
      refine gfl hx hb hg inX3 hown hK hh.1 0 (ci := 3) rfl rfl 0 (by decide) wd_191 rfl dX3_wholeIsSpentInATest_30 ?_
      refine callR (runV hx hb hg hown hml hl.1 (c_X1_all l D k (sh 8 ad) (pj U) hvU) [] [.ref (ad 6), .ref (ad 8), .ref (ad 43), .int (zI b)] (preR (mapSome_sub hh.1 [8, 9, 10, 11, 12, 13, 14, 15] rfl) hK hN xb0 x0) (va_recv hK hh.1 (ci := 1) (q0 := 8) rfl rfl) wd_276 wd_277 wd_278 wd_50 wd_279 lk_X1_all ⟨rfl, rfl⟩ ⟨by decide, by decide⟩ ⟨Nat.zero_le _, Nat.zero_le _⟩ rfl (Nat.le_of_ble_eq_true rfl) dX3_wholeIsSpentInATest_33) (fun r_33 q_33 => ?_)
      obtain rfl := q_33
      refine lv_iload_n hx hb dX3_wholeIsSpentInATest_36 rfl (lv_at hl 1 rfl) ?_
      refine callWI (D := D) (wn := fun u9 => wS k ad (put 43 6 U u9)) (wr := [(ad 0, .inr (3, [.ref (ad 8), .ref (ad 16), .int (U 0 2), .ref (ad 1), .ref (ad 2), .int (U 0 5), .ref (ad 31), .int (U 0 7), .ref (ad 3), .ref (ad 55), .ref (ad 4), .int (U 0 11)])), (ad 1, aI k 4 (U 1)), (ad 2, aR (k 2) 3 (fun i => some (ad (5 + i)))), (ad 3, aR (k 3) 3 (fun i => some (ad (37 + 6 * i)))), (ad 4, aI k 24 (U 4)), (ad 5, aI k 4 (U 5)), (ad 7, aI k 4 (U 7)), (ad 16, .inr (2, [.int (U 16 0), .ref (ad 17), .ref (ad 18), .ref (ad 19), .ref (ad 20), .ref (ad 21), .ref (ad 22), .ref (ad 23), .ref (ad 24), .ref (ad 25)])), (ad 17, aI k 24 (U 17)), (ad 18, aI k 24 (U 18)), (ad 19, aI k 24 (U 19)), (ad 20, aR (k 2) 5 (fun i => some (ad (16 + (10 + i))))), (ad 21, aI k 24 (U 21)), (ad 22, aI k 24 (U 22)), (ad 23, aI k 24 (U 23)), (ad 24, aI k 24 (U 24)), (ad 25, aI k 24 (U 25)), (ad 26, aI k 24 (U 26)), (ad 27, aI k 24 (U 27)), (ad 28, aI k 24 (U 28)), (ad 29, aI k 24 (U 29)), (ad 30, aI k 24 (U 30)), (ad 31, .inr (0, [.ref (ad 32), .ref (ad 33), .ref (ad 34), .ref (ad 35), .ref (ad 36), .int (U 31 5), .int (U 31 6), .int (U 31 7), .int (U 31 8)])), (ad 32, aI k 8 (U 32)), (ad 33, aI k 32 (U 33)), (ad 34, aI k 4 (U 34)), (ad 35, aI k 4 (U 35)), (ad 36, aI k 100 (U 36)), (ad 37, .inr (0, [.ref (ad 38), .ref (ad 39), .ref (ad 40), .ref (ad 41), .ref (ad 42), .int (U 37 5), .int (U 37 6), .int (U 37 7), .int (U 37 8)])), (ad 38, aI k 8 (U 38)), (ad 39, aI k 32 (U 39)), (ad 40, aI k 4 (U 40)), (ad 41, aI k 4 (U 41)), (ad 42, aI k 100 (U 42)), (ad 49, .inr (0, [.ref (ad 50), .ref (ad 51), .ref (ad 52), .ref (ad 53), .ref (ad 54), .int (U 49 5), .int (U 49 6), .int (U 49 7), .int (U 49 8)])), (ad 50, aI k 8 (U 50)), (ad 51, aI k 32 (U 51)), (ad 52, aI k 4 (U 52)), (ad 53, aI k 4 (U 53)), (ad 54, aI k 100 (U 54)), (ad 55, .inr (0, [.ref (ad 56), .ref (ad 57), .ref (ad 58), .ref (ad 59), .ref (ad 60), .int (U 55 5), .int (U 55 6), .int (U 55 7), .int (U 55 8)])), (ad 56, aI k 8 (U 56)), (ad 57, aI k 32 (U 57)), (ad 58, aI k 4 (U 58)), (ad 59, aI k 4 (U 59)), (ad 60, aI k 100 (U 60))]) (runV hx hb hg hown hml hl.1 ((c_X0_perform l D k (sh 43 ad) (tr 43 6 U) (sh 8 ad) (pj U) hvU (ad 6) (U 6) (bitI n - 1) (w := q) (by omega)) H.size) [.ref (ad 8), .ref (ad 6), .int (bitI n - 1), .int (nI q)] [.int (zI b)] (preX (mapSome_sub hh.1 [43, 44, 45, 46, 47, 48, 8, 9, 10, 11, 12, 13, 14, 15, 6] rfl) (hh.2.1.sub [43, 44, 45, 46, 47, 48, 8, 9, 10, 11, 12, 13, 14, 15, 6] (by decide) rfl) hK hN xb0 x0) (va_recv hK hh.1 (ci := 0) (q0 := 43) rfl rfl) wd_381 wd_382 wd_383 wd_52 wd_384 lk_X0_perform ⟨rfl, rfl⟩ ⟨by decide, by decide⟩ ⟨Nat.zero_le _, Nat.zero_le _⟩ rfl (Nat.le_of_ble_eq_true rfl) dX3_wholeIsSpentInATest_37) hA hh [43, 44, 45, 46, 47, 48, 8, 9, 10, 11, 12, 13, 14, 15, 6] [0, 1, 2, 3, 4, 5, 7, 16, 17, 18, 19, 20, 21, 22, 23, 24, 25, 26, 27, 28, 29, 30, 31, 32, 33, 34, 35, 36, 37, 38, 39, 40, 41, 42, 49, 50, 51, 52, 53, 54, 55, 56, 57, 58, 59, 60] [0, 1, 2, 3, 4, 5, 60, 6, 52, 53, 54, 55, 56, 57, 58, 59, 7, 8, 9, 10, 11, 12, 13, 14, 15, 16, 17, 18, 19, 20, 21, 22, 23, 24, 25, 26, 27, 28, 29, 30, 31, 32, 33, 46, 47, 48, 49, 50, 51, 34, 35, 36, 37, 38, 39, 40, 41, 42, 43, 44, 45] rfl rfl (by decide) (by decide) (by decide) (fun _ => rfl) (fun r_37 u9 H locs q_37 hh => ?_)
      have h8 := q_37
      rw [pU, show U 6 = V 6 from fw.1 6 (by decide)] at h8
      obtain ⟨d1, d2, d3, d4⟩ := pf_F hv h8
      obtain ⟨a1, a2, a3⟩ := run_ag (w := q) (I := V 6) (I' := V 6) hv (fun _ _ => rfl) (all_m1 hn24)
      rw [a1] at d1
      rw [d1]
      have hw2 := hw_le (P := pj V) (I := V 6) (x := -1) (w := q) (n := n)
      refine lv_iconst (v := 2) hx hb dX3_wholeIsSpentInATest_40 (by decide) ?_
      refine lv_icmp_ne (tgt := 48) hx hb dX3_wholeIsSpentInATest_41 (by decide) (fun c_41 => ?_) (fun c_41 => ?_)
      · have c_41 : ¬ hwF (pj V) (V 6) (-1) q n = 2 := fun z => c_41 ((nI_eq (a := hwF (pj V) (V 6) (-1) q n) (b := 2) (by omega) (by omega)).mpr z)
        refine lv_iconst (v := 0) hx hb dX3_wholeIsSpentInATest_48 (by decide) ?_
        refine lv_ior hx hb dX3_wholeIsSpentInATest_49 ?_
        refine topv (zI b) (zor0 b) ?_
        refine lv_istore_n (lv' := [(2, .int (zI b)), (0, .ref (ad 0)), (1, .int (nI q)), (3, .int (nI i))]) hx hb dX3_wholeIsSpentInATest_50 rfl hl (by decide) rfl (fun ls hl => ?_)
        refine lv_iinc (v := nI (i + 1)) (lv' := [(3, .int (nI (i + 1))), (2, .int (zI b)), (0, .ref (ad 0)), (1, .int (nI q))]) hx hb dX3_wholeIsSpentInATest_51 hl (k := 3) rfl (nI_succ i).symm (by decide) rfl (fun ls hl => ?_)
        refine lv_goto (tgt := 4) hx hb dX3_wholeIsSpentInATest_54 (by decide) ?_
        exact ih (i + 1, b, put 43 6 U u9) _ _ _ ⟨hh, (lv_sub hl [2, 3, 1, 0] rfl), (by omega), (fw.trans (put_x (by intro i hi; simp; omega) (by decide))), (fun j hj => by rcases Classical.em (j = 1) with e | e; (rw [e]; exact ⟨by show put 43 6 U u9 (43 + 0) 5 = nI (tcF (pj V) (V 6) (-1) q n); rw [put_in (by decide), ← a2]; exact d2, fun i hi => by have hi : i < tcF (pj V) (V 6) (-1) q n := hi; show put 43 6 U u9 (43 + 5) i = tdF (pj V) (V 6) (-1) q n i; rw [put_in (by decide), d4 i (by omega), a3 i (by omega)]⟩); exact (hT j (by omega)).x (put_out (by omega)) (put_out (by omega))), ⟨fun z j hj => by rcases Classical.em (j = 1) with e | e; (rw [e]; exact c_41); exact hb2.mp z j (by omega), fun z => hb2.mpr (fun j hj => z j (by omega))⟩⟩ (by dsimp only; omega)
      · have c_41 : hwF (pj V) (V 6) (-1) q n = 2 := (nI_eq (a := hwF (pj V) (V 6) (-1) q n) (b := 2) (by omega) (by omega)).mp c_41
        refine lv_iconst (v := 1) hx hb dX3_wholeIsSpentInATest_44 (by decide) ?_
        refine lv_goto (tgt := 49) hx hb dX3_wholeIsSpentInATest_45 (by decide) ?_
        refine lv_ior hx hb dX3_wholeIsSpentInATest_49 ?_
        refine topv (zI true) (zor1 b) ?_
        refine lv_istore_n (lv' := [(2, .int (zI true)), (0, .ref (ad 0)), (1, .int (nI q)), (3, .int (nI i))]) hx hb dX3_wholeIsSpentInATest_50 rfl hl (by decide) rfl (fun ls hl => ?_)
        refine lv_iinc (v := nI (i + 1)) (lv' := [(3, .int (nI (i + 1))), (2, .int (zI true)), (0, .ref (ad 0)), (1, .int (nI q))]) hx hb dX3_wholeIsSpentInATest_51 hl (k := 3) rfl (nI_succ i).symm (by decide) rfl (fun ls hl => ?_)
        refine lv_goto (tgt := 4) hx hb dX3_wholeIsSpentInATest_54 (by decide) ?_
        exact ih (i + 1, true, put 43 6 U u9) _ _ _ ⟨hh, (lv_sub hl [2, 3, 1, 0] rfl), (by omega), (fw.trans (put_x (by intro i hi; simp; omega) (by decide))), (fun j hj => by rcases Classical.em (j = 1) with e | e; (rw [e]; exact ⟨by show put 43 6 U u9 (43 + 0) 5 = nI (tcF (pj V) (V 6) (-1) q n); rw [put_in (by decide), ← a2]; exact d2, fun i hi => by have hi : i < tcF (pj V) (V 6) (-1) q n := hi; show put 43 6 U u9 (43 + 5) i = tdF (pj V) (V 6) (-1) q n i; rw [put_in (by decide), d4 i (by omega), a3 i (by omega)]⟩); exact (hT j (by omega)).x (put_out (by omega)) (put_out (by omega))), ⟨fun z => (by cases z), fun z => absurd c_41 (z 1 (by omega))⟩⟩ (by dsimp only; omega)
    · refine lv_iload_n hx hb dX3_wholeIsSpentInATest_12 rfl (lv_at hl 2 rfl) ?_
      refine lv_aload_n hx hb dX3_wholeIsSpentInATest_13 rfl (lv_at hl 0 rfl) ?_
      refine gfl hx hb hg inX3 hown hK hh.1 0 (ci := 3) rfl rfl 8 (by decide) wd_199 rfl dX3_wholeIsSpentInATest_14 ?_
      refine lv_iload_n hx hb dX3_wholeIsSpentInATest_17 rfl (lv_at hl 3 rfl) ?_
      refine topv (2) (by rw [e9]; rfl) ?_
      refine topv (nI 2) rfl ?_
      refine ldq (x := ad (37 + 6 * 2)) hx hb hK hh.1 3 3 rfl rfl rfl (by omega) (by decide) rfl dX3_wholeIsSpentInATest_18 ?_
      refine lv_aload_n hx hb dX3_wholeIsSpentInATest_19 rfl (lv_at hl 0 rfl) ?_
      refine gfl hx hb hg inX3 hown hK hh.1 0 (ci := 3) rfl rfl 0 (by decide) wd_191 rfl dX3_wholeIsSpentInATest_20 ?_
      refine lv_aload_n hx hb dX3_wholeIsSpentInATest_23 rfl (lv_at hl 0 rfl) ?_
      refine gfl hx hb hg inX3 hown hK hh.1 0 (ci := 3) rfl rfl 4 (by decide) wd_195 rfl dX3_wholeIsSpentInATest_24 ?_
      refine lv_iload_n hx hb dX3_wholeIsSpentInATest_27 rfl (lv_at hl 3 rfl) ?_
      refine topv (2) (by rw [e9]; rfl) ?_
      refine topv (nI 2) rfl ?_
      refine ldq (x := ad (5 + 2)) hx hb hK hh.1 2 2 rfl rfl rfl (by omega) (by decide) rfl dX3_wholeIsSpentInATest_28 ?_
      refine lv_aload_n hx hb dX3_wholeIsSpentInATest_29 rfl (lv_at hl 0 rfl) ?_
      refine gfl hx hb hg inX3 hown hK hh.1 0 (ci := 3) rfl rfl 0 (by decide) wd_191 rfl dX3_wholeIsSpentInATest_30 ?_
      refine callR (runV hx hb hg hown hml hl.1 (c_X1_all l D k (sh 8 ad) (pj U) hvU) [] [.ref (ad 7), .ref (ad 8), .ref (ad 49), .int (zI b)] (preR (mapSome_sub hh.1 [8, 9, 10, 11, 12, 13, 14, 15] rfl) hK hN xb0 x0) (va_recv hK hh.1 (ci := 1) (q0 := 8) rfl rfl) wd_276 wd_277 wd_278 wd_50 wd_279 lk_X1_all ⟨rfl, rfl⟩ ⟨by decide, by decide⟩ ⟨Nat.zero_le _, Nat.zero_le _⟩ rfl (Nat.le_of_ble_eq_true rfl) dX3_wholeIsSpentInATest_33) (fun r_33 q_33 => ?_)
      obtain rfl := q_33
      refine lv_iload_n hx hb dX3_wholeIsSpentInATest_36 rfl (lv_at hl 1 rfl) ?_
      refine callWI (D := D) (wn := fun u9 => wS k ad (put 49 6 U u9)) (wr := [(ad 0, .inr (3, [.ref (ad 8), .ref (ad 16), .int (U 0 2), .ref (ad 1), .ref (ad 2), .int (U 0 5), .ref (ad 31), .int (U 0 7), .ref (ad 3), .ref (ad 55), .ref (ad 4), .int (U 0 11)])), (ad 1, aI k 4 (U 1)), (ad 2, aR (k 2) 3 (fun i => some (ad (5 + i)))), (ad 3, aR (k 3) 3 (fun i => some (ad (37 + 6 * i)))), (ad 4, aI k 24 (U 4)), (ad 5, aI k 4 (U 5)), (ad 6, aI k 4 (U 6)), (ad 16, .inr (2, [.int (U 16 0), .ref (ad 17), .ref (ad 18), .ref (ad 19), .ref (ad 20), .ref (ad 21), .ref (ad 22), .ref (ad 23), .ref (ad 24), .ref (ad 25)])), (ad 17, aI k 24 (U 17)), (ad 18, aI k 24 (U 18)), (ad 19, aI k 24 (U 19)), (ad 20, aR (k 2) 5 (fun i => some (ad (16 + (10 + i))))), (ad 21, aI k 24 (U 21)), (ad 22, aI k 24 (U 22)), (ad 23, aI k 24 (U 23)), (ad 24, aI k 24 (U 24)), (ad 25, aI k 24 (U 25)), (ad 26, aI k 24 (U 26)), (ad 27, aI k 24 (U 27)), (ad 28, aI k 24 (U 28)), (ad 29, aI k 24 (U 29)), (ad 30, aI k 24 (U 30)), (ad 31, .inr (0, [.ref (ad 32), .ref (ad 33), .ref (ad 34), .ref (ad 35), .ref (ad 36), .int (U 31 5), .int (U 31 6), .int (U 31 7), .int (U 31 8)])), (ad 32, aI k 8 (U 32)), (ad 33, aI k 32 (U 33)), (ad 34, aI k 4 (U 34)), (ad 35, aI k 4 (U 35)), (ad 36, aI k 100 (U 36)), (ad 37, .inr (0, [.ref (ad 38), .ref (ad 39), .ref (ad 40), .ref (ad 41), .ref (ad 42), .int (U 37 5), .int (U 37 6), .int (U 37 7), .int (U 37 8)])), (ad 38, aI k 8 (U 38)), (ad 39, aI k 32 (U 39)), (ad 40, aI k 4 (U 40)), (ad 41, aI k 4 (U 41)), (ad 42, aI k 100 (U 42)), (ad 43, .inr (0, [.ref (ad 44), .ref (ad 45), .ref (ad 46), .ref (ad 47), .ref (ad 48), .int (U 43 5), .int (U 43 6), .int (U 43 7), .int (U 43 8)])), (ad 44, aI k 8 (U 44)), (ad 45, aI k 32 (U 45)), (ad 46, aI k 4 (U 46)), (ad 47, aI k 4 (U 47)), (ad 48, aI k 100 (U 48)), (ad 55, .inr (0, [.ref (ad 56), .ref (ad 57), .ref (ad 58), .ref (ad 59), .ref (ad 60), .int (U 55 5), .int (U 55 6), .int (U 55 7), .int (U 55 8)])), (ad 56, aI k 8 (U 56)), (ad 57, aI k 32 (U 57)), (ad 58, aI k 4 (U 58)), (ad 59, aI k 4 (U 59)), (ad 60, aI k 100 (U 60))]) (runV hx hb hg hown hml hl.1 ((c_X0_perform l D k (sh 49 ad) (tr 49 6 U) (sh 8 ad) (pj U) hvU (ad 7) (U 7) (bitI n - 1) (w := q) (by omega)) H.size) [.ref (ad 8), .ref (ad 7), .int (bitI n - 1), .int (nI q)] [.int (zI b)] (preX (mapSome_sub hh.1 [49, 50, 51, 52, 53, 54, 8, 9, 10, 11, 12, 13, 14, 15, 7] rfl) (hh.2.1.sub [49, 50, 51, 52, 53, 54, 8, 9, 10, 11, 12, 13, 14, 15, 7] (by decide) rfl) hK hN xb0 x0) (va_recv hK hh.1 (ci := 0) (q0 := 49) rfl rfl) wd_381 wd_382 wd_383 wd_52 wd_384 lk_X0_perform ⟨rfl, rfl⟩ ⟨by decide, by decide⟩ ⟨Nat.zero_le _, Nat.zero_le _⟩ rfl (Nat.le_of_ble_eq_true rfl) dX3_wholeIsSpentInATest_37) hA hh [49, 50, 51, 52, 53, 54, 8, 9, 10, 11, 12, 13, 14, 15, 7] [0, 1, 2, 3, 4, 5, 6, 16, 17, 18, 19, 20, 21, 22, 23, 24, 25, 26, 27, 28, 29, 30, 31, 32, 33, 34, 35, 36, 37, 38, 39, 40, 41, 42, 43, 44, 45, 46, 47, 48, 55, 56, 57, 58, 59, 60] [0, 1, 2, 3, 4, 5, 6, 60, 52, 53, 54, 55, 56, 57, 58, 59, 7, 8, 9, 10, 11, 12, 13, 14, 15, 16, 17, 18, 19, 20, 21, 22, 23, 24, 25, 26, 27, 28, 29, 30, 31, 32, 33, 34, 35, 36, 37, 38, 39, 46, 47, 48, 49, 50, 51, 40, 41, 42, 43, 44, 45] rfl rfl (by decide) (by decide) (by decide) (fun _ => rfl) (fun r_37 u9 H locs q_37 hh => ?_)
      have h8 := q_37
      rw [pU, show U 7 = V 7 from fw.1 7 (by decide)] at h8
      obtain ⟨d1, d2, d3, d4⟩ := pf_F hv h8
      obtain ⟨a1, a2, a3⟩ := run_ag (w := q) (I := V 7) (I' := V 7) hv (fun _ _ => rfl) (all_m1 hn24)
      rw [a1] at d1
      rw [d1]
      have hw2 := hw_le (P := pj V) (I := V 7) (x := -1) (w := q) (n := n)
      refine lv_iconst (v := 2) hx hb dX3_wholeIsSpentInATest_40 (by decide) ?_
      refine lv_icmp_ne (tgt := 48) hx hb dX3_wholeIsSpentInATest_41 (by decide) (fun c_41 => ?_) (fun c_41 => ?_)
      · have c_41 : ¬ hwF (pj V) (V 7) (-1) q n = 2 := fun z => c_41 ((nI_eq (a := hwF (pj V) (V 7) (-1) q n) (b := 2) (by omega) (by omega)).mpr z)
        refine lv_iconst (v := 0) hx hb dX3_wholeIsSpentInATest_48 (by decide) ?_
        refine lv_ior hx hb dX3_wholeIsSpentInATest_49 ?_
        refine topv (zI b) (zor0 b) ?_
        refine lv_istore_n (lv' := [(2, .int (zI b)), (0, .ref (ad 0)), (1, .int (nI q)), (3, .int (nI i))]) hx hb dX3_wholeIsSpentInATest_50 rfl hl (by decide) rfl (fun ls hl => ?_)
        refine lv_iinc (v := nI (i + 1)) (lv' := [(3, .int (nI (i + 1))), (2, .int (zI b)), (0, .ref (ad 0)), (1, .int (nI q))]) hx hb dX3_wholeIsSpentInATest_51 hl (k := 3) rfl (nI_succ i).symm (by decide) rfl (fun ls hl => ?_)
        refine lv_goto (tgt := 4) hx hb dX3_wholeIsSpentInATest_54 (by decide) ?_
        exact ih (i + 1, b, put 49 6 U u9) _ _ _ ⟨hh, (lv_sub hl [2, 3, 1, 0] rfl), (by omega), (fw.trans (put_x (by intro i hi; simp; omega) (by decide))), (fun j hj => by rcases Classical.em (j = 2) with e | e; (rw [e]; exact ⟨by show put 49 6 U u9 (49 + 0) 5 = nI (tcF (pj V) (V 7) (-1) q n); rw [put_in (by decide), ← a2]; exact d2, fun i hi => by have hi : i < tcF (pj V) (V 7) (-1) q n := hi; show put 49 6 U u9 (49 + 5) i = tdF (pj V) (V 7) (-1) q n i; rw [put_in (by decide), d4 i (by omega), a3 i (by omega)]⟩); exact (hT j (by omega)).x (put_out (by omega)) (put_out (by omega))), ⟨fun z j hj => by rcases Classical.em (j = 2) with e | e; (rw [e]; exact c_41); exact hb2.mp z j (by omega), fun z => hb2.mpr (fun j hj => z j (by omega))⟩⟩ (by dsimp only; omega)
      · have c_41 : hwF (pj V) (V 7) (-1) q n = 2 := (nI_eq (a := hwF (pj V) (V 7) (-1) q n) (b := 2) (by omega) (by omega)).mp c_41
        refine lv_iconst (v := 1) hx hb dX3_wholeIsSpentInATest_44 (by decide) ?_
        refine lv_goto (tgt := 49) hx hb dX3_wholeIsSpentInATest_45 (by decide) ?_
        refine lv_ior hx hb dX3_wholeIsSpentInATest_49 ?_
        refine topv (zI true) (zor1 b) ?_
        refine lv_istore_n (lv' := [(2, .int (zI true)), (0, .ref (ad 0)), (1, .int (nI q)), (3, .int (nI i))]) hx hb dX3_wholeIsSpentInATest_50 rfl hl (by decide) rfl (fun ls hl => ?_)
        refine lv_iinc (v := nI (i + 1)) (lv' := [(3, .int (nI (i + 1))), (2, .int (zI true)), (0, .ref (ad 0)), (1, .int (nI q))]) hx hb dX3_wholeIsSpentInATest_51 hl (k := 3) rfl (nI_succ i).symm (by decide) rfl (fun ls hl => ?_)
        refine lv_goto (tgt := 4) hx hb dX3_wholeIsSpentInATest_54 (by decide) ?_
        exact ih (i + 1, true, put 49 6 U u9) _ _ _ ⟨hh, (lv_sub hl [2, 3, 1, 0] rfl), (by omega), (fw.trans (put_x (by intro i hi; simp; omega) (by decide))), (fun j hj => by rcases Classical.em (j = 2) with e | e; (rw [e]; exact ⟨by show put 49 6 U u9 (49 + 0) 5 = nI (tcF (pj V) (V 7) (-1) q n); rw [put_in (by decide), ← a2]; exact d2, fun i hi => by have hi : i < tcF (pj V) (V 7) (-1) q n := hi; show put 49 6 U u9 (49 + 5) i = tdF (pj V) (V 7) (-1) q n i; rw [put_in (by decide), d4 i (by omega), a3 i (by omega)]⟩); exact (hT j (by omega)).x (put_out (by omega)) (put_out (by omega))), ⟨fun z => (by cases z), fun z => absurd c_41 (z 2 (by omega))⟩⟩ (by dsimp only; omega)
abbrev rmX3_testsAgree : Room := { frames := 4, cells := 0, slots := 0, locals := 98 }
theorem lk_X3_testsAgree : Lk yX3_testsAgree 2 := by decide +kernel
set_option maxHeartbeats 4000000 in
set_option maxRecDepth 100000 in
/-- testsAgree(set, p) -/
theorem c_X3_testsAgree (l : Launch) (D : va_G) (k : Nat → ClassId) (ad : Nat → Nat) (V : St) {n : Nat} (hv : okV n (pj V)) {t : Nat} (h5 : V 0 5 = nI t) (ht : t ≤ 3) (x : Int32) {q : Nat} (hq : q < n) (hT : ∀ j, j < t → hld (pj V) (fun i => V (5 + i)) q n V j) : CtX noX l yX3_testsAgree cX3_testsAgree 5 (some .boolean) rmX3_testsAgree D (tyL k) (wS k ad V) [.ref (ad 0), .int x, .int (nI q)] (qI D (wS k ad) (fun r U => r = zI (agB (pj V) (fun i => V (5 + i)) t x q n) ∧ FrX [55, 56, 57, 58, 59, 60] [] V U)) := by
  refine CtX.mk (by decide) (Nat.le_of_ble_eq_true rfl) ?_
  intro p e s m below meth c hx hb hml hown hg hr hlocks hK hN A hA hX hh ls hl
  have hh : Hd D A (wS k ad V) s.heap s.heap [] := hh
  have hl : lv_has ls 5 [(0, .ref (ad 0)), (1, .int x), (2, .int (nI q))] := hl
  have hn24 := hv.1
  refine lv_iconst (v := 0) hx hb dX3_testsAgree_0 (by decide) ?_
  refine lv_istore_n (lv' := [(3, .int 0), (0, .ref (ad 0)), (1, .int x), (2, .int (nI q))]) hx hb dX3_testsAgree_1 rfl hl (by decide) rfl (fun ls hl => ?_)
  refine loopW (σ := Nat × St) (fun zz9 H locs ls => match zz9 with | (i, U) => Hd D A (wS k ad U) s.heap H locs ∧ lv_has ls 5 [(0, .ref (ad 0)), (1, .int x), (2, .int (nI q)), (3, .int (nI i))] ∧ (i ≤ t) ∧ (FrX [55, 56, 57, 58, 59, 60] [] V U) ∧ (∀ j, j < i → ¬ hwF (pj V) (V (5 + j)) x q n = 2 ∧ lkB (pj V) (V (5 + j)) x (-1) q n = true)) (fun zz9 => match zz9 with | (i, U) => t - i) ?_ (0, V) ⟨hh, (lv_sub hl [1, 2, 3, 0] rfl), (by omega), FrX.rf, (fun j hj => absurd hj (Nat.not_lt_zero _))⟩
  intro zz9 H locs ls hI ih
  obtain ⟨i, U⟩ := zz9
  obtain ⟨hh, hl, hi, fw, hA2⟩ := hI
  have pU : pj U = pj V := fw.pj (by intro i hi; simp; omega)
  have hvU : okV n (pj U) := by rw [pU]; exact hv
  refine lv_iload_n hx hb dX3_testsAgree_2 rfl (lv_at hl 3 rfl) ?_
  refine lv_aload_n hx hb dX3_testsAgree_3 rfl (lv_at hl 0 rfl) ?_
  refine gfl hx hb hg inX3 hown hK hh.1 0 (ci := 3) rfl rfl 5 (by decide) wd_196 rfl dX3_testsAgree_4 ?_
  refine topv (nI t) ((fw.2 5 (by simp)).trans h5) ?_
  refine lv_icmp_ge (tgt := 69) hx hb dX3_testsAgree_7 (by decide) (fun c_7 => ?_) (fun c_7 => ?_)
  · have c_7 : t ≤ i := (nI_leI (a := t) (b := i) (by omega) (by omega)).mp c_7
    refine lv_iconst (v := 1) hx hb dX3_testsAgree_69 (by decide) ?_
    have hA9 : true = agB (pj V) (fun i => V (5 + i)) t x q n := ag_of (P := pj V) (Is := (fun i => V (5 + i))) (b := true) ⟨fun _ j hj => hA2 j (by omega), fun _ => rfl⟩
    exact retZ (Wd := wS k ad) (v := 1) (U) hx hb hr hlocks rfl dX3_testsAgree_70 hh (⟨by rw [← hA9]; rfl, fw⟩)
  · have c_7 : ¬ t ≤ i := fun z => c_7 ((nI_leI (a := t) (b := i) (by omega) (by omega)).mpr z)
    rcases (show i = 0 ∨ i = 1 ∨ i = 2 by omega) with e9 | e9 | e9
    · refine lv_aload_n hx hb dX3_testsAgree_10 rfl (lv_at hl 0 rfl) ?_
      refine gfl hx hb hg inX3 hown hK hh.1 0 (ci := 3) rfl rfl 9 (by decide) wd_200 rfl dX3_testsAgree_11 ?_
      refine lv_aload_n hx hb dX3_testsAgree_14 rfl (lv_at hl 0 rfl) ?_
      refine gfl hx hb hg inX3 hown hK hh.1 0 (ci := 3) rfl rfl 0 (by decide) wd_191 rfl dX3_testsAgree_15 ?_
      refine lv_aload_n hx hb dX3_testsAgree_18 rfl (lv_at hl 0 rfl) ?_
      refine gfl hx hb hg inX3 hown hK hh.1 0 (ci := 3) rfl rfl 4 (by decide) wd_195 rfl dX3_testsAgree_19 ?_
      refine lv_iload_n hx hb dX3_testsAgree_22 rfl (lv_at hl 3 rfl) ?_
      refine topv (0) (by rw [e9]; rfl) ?_
      refine topv (nI 0) rfl ?_
      refine ldq (x := ad (5 + 0)) hx hb hK hh.1 2 2 rfl rfl rfl (by omega) (by decide) rfl dX3_testsAgree_23 ?_
      refine lv_iload_n hx hb dX3_testsAgree_24 rfl (lv_at hl 1 rfl) ?_
      refine lv_iload_n hx hb dX3_testsAgree_25 rfl (lv_at hl 2 rfl) ?_
      refine callWI (D := D) (wn := fun u9 => wS k ad (put 55 6 U u9)) (wr := [(ad 0, .inr (3, [.ref (ad 8), .ref (ad 16), .int (U 0 2), .ref (ad 1), .ref (ad 2), .int (U 0 5), .ref (ad 31), .int (U 0 7), .ref (ad 3), .ref (ad 55), .ref (ad 4), .int (U 0 11)])), (ad 1, aI k 4 (U 1)), (ad 2, aR (k 2) 3 (fun i => some (ad (5 + i)))), (ad 3, aR (k 3) 3 (fun i => some (ad (37 + 6 * i)))), (ad 4, aI k 24 (U 4)), (ad 6, aI k 4 (U 6)), (ad 7, aI k 4 (U 7)), (ad 16, .inr (2, [.int (U 16 0), .ref (ad 17), .ref (ad 18), .ref (ad 19), .ref (ad 20), .ref (ad 21), .ref (ad 22), .ref (ad 23), .ref (ad 24), .ref (ad 25)])), (ad 17, aI k 24 (U 17)), (ad 18, aI k 24 (U 18)), (ad 19, aI k 24 (U 19)), (ad 20, aR (k 2) 5 (fun i => some (ad (16 + (10 + i))))), (ad 21, aI k 24 (U 21)), (ad 22, aI k 24 (U 22)), (ad 23, aI k 24 (U 23)), (ad 24, aI k 24 (U 24)), (ad 25, aI k 24 (U 25)), (ad 26, aI k 24 (U 26)), (ad 27, aI k 24 (U 27)), (ad 28, aI k 24 (U 28)), (ad 29, aI k 24 (U 29)), (ad 30, aI k 24 (U 30)), (ad 31, .inr (0, [.ref (ad 32), .ref (ad 33), .ref (ad 34), .ref (ad 35), .ref (ad 36), .int (U 31 5), .int (U 31 6), .int (U 31 7), .int (U 31 8)])), (ad 32, aI k 8 (U 32)), (ad 33, aI k 32 (U 33)), (ad 34, aI k 4 (U 34)), (ad 35, aI k 4 (U 35)), (ad 36, aI k 100 (U 36)), (ad 37, .inr (0, [.ref (ad 38), .ref (ad 39), .ref (ad 40), .ref (ad 41), .ref (ad 42), .int (U 37 5), .int (U 37 6), .int (U 37 7), .int (U 37 8)])), (ad 38, aI k 8 (U 38)), (ad 39, aI k 32 (U 39)), (ad 40, aI k 4 (U 40)), (ad 41, aI k 4 (U 41)), (ad 42, aI k 100 (U 42)), (ad 43, .inr (0, [.ref (ad 44), .ref (ad 45), .ref (ad 46), .ref (ad 47), .ref (ad 48), .int (U 43 5), .int (U 43 6), .int (U 43 7), .int (U 43 8)])), (ad 44, aI k 8 (U 44)), (ad 45, aI k 32 (U 45)), (ad 46, aI k 4 (U 46)), (ad 47, aI k 4 (U 47)), (ad 48, aI k 100 (U 48)), (ad 49, .inr (0, [.ref (ad 50), .ref (ad 51), .ref (ad 52), .ref (ad 53), .ref (ad 54), .int (U 49 5), .int (U 49 6), .int (U 49 7), .int (U 49 8)])), (ad 50, aI k 8 (U 50)), (ad 51, aI k 32 (U 51)), (ad 52, aI k 4 (U 52)), (ad 53, aI k 4 (U 53)), (ad 54, aI k 100 (U 54))]) (runV hx hb hg hown hml hl.1 ((c_X0_perform l D k (sh 55 ad) (tr 55 6 U) (sh 8 ad) (pj U) hvU (ad 5) (U 5) (x) (w := q) (by omega)) H.size) [.ref (ad 8), .ref (ad 5), .int x, .int (nI q)] [] (preX (mapSome_sub hh.1 [55, 56, 57, 58, 59, 60, 8, 9, 10, 11, 12, 13, 14, 15, 5] rfl) (hh.2.1.sub [55, 56, 57, 58, 59, 60, 8, 9, 10, 11, 12, 13, 14, 15, 5] (by decide) rfl) hK hN xb0 x0) (va_recv hK hh.1 (ci := 0) (q0 := 55) rfl rfl) wd_381 wd_382 wd_383 wd_52 wd_384 lk_X0_perform ⟨rfl, rfl⟩ ⟨by decide, by decide⟩ ⟨Nat.zero_le _, Nat.zero_le _⟩ rfl (Nat.le_of_ble_eq_true rfl) dX3_testsAgree_26) hA hh [55, 56, 57, 58, 59, 60, 8, 9, 10, 11, 12, 13, 14, 15, 5] [0, 1, 2, 3, 4, 6, 7, 16, 17, 18, 19, 20, 21, 22, 23, 24, 25, 26, 27, 28, 29, 30, 31, 32, 33, 34, 35, 36, 37, 38, 39, 40, 41, 42, 43, 44, 45, 46, 47, 48, 49, 50, 51, 52, 53, 54] [0, 1, 2, 3, 4, 60, 5, 6, 52, 53, 54, 55, 56, 57, 58, 59, 7, 8, 9, 10, 11, 12, 13, 14, 15, 16, 17, 18, 19, 20, 21, 22, 23, 24, 25, 26, 27, 28, 29, 30, 31, 32, 33, 34, 35, 36, 37, 38, 39, 40, 41, 42, 43, 44, 45, 46, 47, 48, 49, 50, 51] rfl rfl (by decide) (by decide) (by decide) (fun _ => rfl) (fun r_26 u9 H locs q_26 hh => ?_)
      have h8 := q_26
      rw [pU, show U 5 = V 5 from fw.1 5 (by decide)] at h8
      obtain ⟨d1, d2, d3, d4⟩ := pf_F hv h8
      rw [d1]
      have hw2 := hw_le (P := pj V) (I := V 5) (x := x) (w := q) (n := n)
      obtain ⟨U2, eU2⟩ : ∃ z : St, z = put 55 6 U u9 := ⟨_, rfl⟩
      rw [← eU2] at hh
      have fw2 : FrX [55, 56, 57, 58, 59, 60] [] V U2 := by rw [eU2]; exact fw.trans (put_x (by intro i hi; simp; omega) (by decide))
      have e55 : tr 55 6 U2 0 5 = nI (tcF (pj V) (V 5) x q n) := by rw [tr_in (by decide), eU2, put_in (by decide)]; exact d2
      have e55t : ∀ j, j < tcF (pj V) (V 5) x q n → tr 55 6 U2 5 j = tdF (pj V) (V 5) x q n j := fun j hj => by rw [tr_in (by decide), eU2, put_in (by decide)]; exact d4 j hj
      have hk9 := hT 0 (by omega)
      have e37 : tr 37 6 U2 0 5 = nI (tcF (pj V) (V 5) (-1) q n) := by rw [tr_in (by decide), fw2.1 (37 + 0) (by decide)]; exact hk9.1
      have e37t : ∀ j, j < tcF (pj V) (V 5) (-1) q n → tr 37 6 U2 5 j = tdF (pj V) (V 5) (-1) q n j := fun j hj => by rw [tr_in (by decide), fw2.1 (37 + 5) (by decide)]; exact hk9.2 j hj
      refine lv_iconst (v := 2) hx hb dX3_testsAgree_29 (by decide) ?_
      refine lv_icmp_ne (tgt := 37) hx hb dX3_testsAgree_30 (by decide) (fun c_30 => ?_) (fun c_30 => ?_)
      · have c_30 : ¬ hwF (pj V) (V 5) x q n = 2 := fun z => c_30 ((nI_eq (a := hwF (pj V) (V 5) x q n) (b := 2) (by omega) (by omega)).mpr z)
        refine lv_iconst (v := 0) hx hb dX3_testsAgree_37 (by decide) ?_
        refine lv_istore (lv' := [(4, .int 0), (0, .ref (ad 0)), (1, .int x), (2, .int (nI q)), (3, .int (nI i))]) hx hb dX3_testsAgree_38 hl (by decide) rfl (fun ls hl => ?_)
        refine lv_iload hx hb dX3_testsAgree_40 (lv_at hl 0 rfl) ?_
        refine lv_if_ne (tgt := 61) hx hb dX3_testsAgree_42 (by decide) (fun c_42 => ?_) (fun c_42 => ?_)
        · exact absurd (show ¬ (0 : Int32) = (0 : Int32) from c_42) (by decide)
        · refine lv_aload_n hx hb dX3_testsAgree_45 rfl (lv_at hl 1 rfl) ?_
          refine gfl hx hb hg inX3 hown hK hh.1 0 (ci := 3) rfl rfl 9 (by decide) wd_200 rfl dX3_testsAgree_46 ?_
          refine lv_aload_n hx hb dX3_testsAgree_49 rfl (lv_at hl 1 rfl) ?_
          refine gfl hx hb hg inX3 hown hK hh.1 0 (ci := 3) rfl rfl 8 (by decide) wd_199 rfl dX3_testsAgree_50 ?_
          refine lv_iload_n hx hb dX3_testsAgree_53 rfl (lv_at hl 4 rfl) ?_
          refine topv (0) (by rw [e9]; rfl) ?_
          refine topv (nI 0) rfl ?_
          refine ldq (x := ad (37 + 6 * 0)) hx hb hK hh.1 3 3 rfl rfl rfl (by omega) (by decide) rfl dX3_testsAgree_54 ?_
          refine callR (runV hx hb hg hown hml hl.1 (c_X0_toldLike l D k (sh 55 ad) (tr 55 6 U2) (sh 37 ad) (tr 37 6 U2) e55 e37 d3 tc_le) [.ref (ad 37)] [] (preR (mapSome_sub hh.1 [55, 56, 57, 58, 59, 60, 37, 38, 39, 40, 41, 42] rfl) hK hN xb0 x0) (va_recv hK hh.1 (ci := 0) (q0 := 55) rfl rfl) wd_510 wd_511 wd_512 wd_52 wd_513 lk_X0_toldLike ⟨rfl, rfl⟩ ⟨by decide, by decide⟩ ⟨Nat.zero_le _, Nat.zero_le _⟩ rfl (Nat.le_of_ble_eq_true rfl) dX3_testsAgree_55) (fun r_55 q_55 => ?_)
          obtain ⟨b9, rfl, hb9⟩ := q_55
          have hb9 : b9 = lkB (pj V) (V 5) x (-1) q n := lk_of (hb9.trans ⟨fun z => ⟨z.1, fun j hj => by rw [← e55t j hj, ← e37t j (by omega)]; exact z.2 j hj⟩, fun z => ⟨z.1, fun j hj => by rw [e55t j hj, e37t j (by omega)]; exact z.2 j hj⟩⟩)
          refine lv_if_ne (tgt := 63) hx hb dX3_testsAgree_58 (by decide) (fun c_58 => ?_) (fun c_58 => ?_)
          · have c_58 := zI_ne c_58
            refine lv_iinc (v := nI (i + 1)) (lv' := [(3, .int (nI (i + 1))), (4, .int 0), (0, .ref (ad 0)), (1, .int x), (2, .int (nI q))]) hx hb dX3_testsAgree_63 hl (k := 4) rfl (nI_succ i).symm (by decide) rfl (fun ls hl => ?_)
            refine lv_goto (tgt := 2) hx hb dX3_testsAgree_66 (by decide) ?_
            exact ih (i + 1, U2) _ _ _ ⟨hh, (lv_sub hl [2, 3, 4, 0] rfl), (by omega), fw2, (fun j hj => by rcases Classical.em (j = 0) with e | e; (rw [e]; exact ⟨c_30, hb9.symm.trans c_58⟩); exact hA2 j (by omega))⟩ (by dsimp only; omega)
          · have c_58 := zI_0.mp c_58
            refine lv_iconst (v := 0) hx hb dX3_testsAgree_61 (by decide) ?_
            have hA9 : false = agB (pj V) (fun i => V (5 + i)) t x q n := ag_of (P := pj V) (Is := (fun i => V (5 + i))) (b := false) ⟨fun z => (by cases z), fun z => absurd z (fun z => absurd (z 0 (by omega)).2 (by show ¬ lkB (pj V) (V 5) x (-1) q n = true; rw [← hb9, c_58]; decide))⟩
            exact retZ (Wd := wS k ad) (v := 0) (U2) hx hb hr hlocks rfl dX3_testsAgree_62 hh (⟨by rw [← hA9]; rfl, fw2⟩)
      · have c_30 : hwF (pj V) (V 5) x q n = 2 := (nI_eq (a := hwF (pj V) (V 5) x q n) (b := 2) (by omega) (by omega)).mp c_30
        refine lv_iconst (v := 1) hx hb dX3_testsAgree_33 (by decide) ?_
        refine lv_goto (tgt := 38) hx hb dX3_testsAgree_34 (by decide) ?_
        refine lv_istore (lv' := [(4, .int 1), (0, .ref (ad 0)), (1, .int x), (2, .int (nI q)), (3, .int (nI i))]) hx hb dX3_testsAgree_38 hl (by decide) rfl (fun ls hl => ?_)
        refine lv_iload hx hb dX3_testsAgree_40 (lv_at hl 0 rfl) ?_
        refine lv_if_ne (tgt := 61) hx hb dX3_testsAgree_42 (by decide) (fun c_42 => ?_) (fun c_42 => ?_)
        · refine lv_iconst (v := 0) hx hb dX3_testsAgree_61 (by decide) ?_
          have hA9 : false = agB (pj V) (fun i => V (5 + i)) t x q n := ag_of (P := pj V) (Is := (fun i => V (5 + i))) (b := false) ⟨fun z => (by cases z), fun z => absurd z (fun z => (z 0 (by omega)).1 c_30)⟩
          exact retZ (Wd := wS k ad) (v := 0) (U2) hx hb hr hlocks rfl dX3_testsAgree_62 hh (⟨by rw [← hA9]; rfl, fw2⟩)
        · exact absurd (show (1 : Int32) = (0 : Int32) from c_42) (by decide)
    · refine lv_aload_n hx hb dX3_testsAgree_10 rfl (lv_at hl 0 rfl) ?_
      refine gfl hx hb hg inX3 hown hK hh.1 0 (ci := 3) rfl rfl 9 (by decide) wd_200 rfl dX3_testsAgree_11 ?_
      refine lv_aload_n hx hb dX3_testsAgree_14 rfl (lv_at hl 0 rfl) ?_
      refine gfl hx hb hg inX3 hown hK hh.1 0 (ci := 3) rfl rfl 0 (by decide) wd_191 rfl dX3_testsAgree_15 ?_
      refine lv_aload_n hx hb dX3_testsAgree_18 rfl (lv_at hl 0 rfl) ?_
      refine gfl hx hb hg inX3 hown hK hh.1 0 (ci := 3) rfl rfl 4 (by decide) wd_195 rfl dX3_testsAgree_19 ?_
      refine lv_iload_n hx hb dX3_testsAgree_22 rfl (lv_at hl 3 rfl) ?_
      refine topv (1) (by rw [e9]; rfl) ?_
      refine topv (nI 1) rfl ?_
      refine ldq (x := ad (5 + 1)) hx hb hK hh.1 2 2 rfl rfl rfl (by omega) (by decide) rfl dX3_testsAgree_23 ?_
      refine lv_iload_n hx hb dX3_testsAgree_24 rfl (lv_at hl 1 rfl) ?_
      refine lv_iload_n hx hb dX3_testsAgree_25 rfl (lv_at hl 2 rfl) ?_
      refine callWI (D := D) (wn := fun u9 => wS k ad (put 55 6 U u9)) (wr := [(ad 0, .inr (3, [.ref (ad 8), .ref (ad 16), .int (U 0 2), .ref (ad 1), .ref (ad 2), .int (U 0 5), .ref (ad 31), .int (U 0 7), .ref (ad 3), .ref (ad 55), .ref (ad 4), .int (U 0 11)])), (ad 1, aI k 4 (U 1)), (ad 2, aR (k 2) 3 (fun i => some (ad (5 + i)))), (ad 3, aR (k 3) 3 (fun i => some (ad (37 + 6 * i)))), (ad 4, aI k 24 (U 4)), (ad 5, aI k 4 (U 5)), (ad 7, aI k 4 (U 7)), (ad 16, .inr (2, [.int (U 16 0), .ref (ad 17), .ref (ad 18), .ref (ad 19), .ref (ad 20), .ref (ad 21), .ref (ad 22), .ref (ad 23), .ref (ad 24), .ref (ad 25)])), (ad 17, aI k 24 (U 17)), (ad 18, aI k 24 (U 18)), (ad 19, aI k 24 (U 19)), (ad 20, aR (k 2) 5 (fun i => some (ad (16 + (10 + i))))), (ad 21, aI k 24 (U 21)), (ad 22, aI k 24 (U 22)), (ad 23, aI k 24 (U 23)), (ad 24, aI k 24 (U 24)), (ad 25, aI k 24 (U 25)), (ad 26, aI k 24 (U 26)), (ad 27, aI k 24 (U 27)), (ad 28, aI k 24 (U 28)), (ad 29, aI k 24 (U 29)), (ad 30, aI k 24 (U 30)), (ad 31, .inr (0, [.ref (ad 32), .ref (ad 33), .ref (ad 34), .ref (ad 35), .ref (ad 36), .int (U 31 5), .int (U 31 6), .int (U 31 7), .int (U 31 8)])), (ad 32, aI k 8 (U 32)), (ad 33, aI k 32 (U 33)), (ad 34, aI k 4 (U 34)), (ad 35, aI k 4 (U 35)), (ad 36, aI k 100 (U 36)), (ad 37, .inr (0, [.ref (ad 38), .ref (ad 39), .ref (ad 40), .ref (ad 41), .ref (ad 42), .int (U 37 5), .int (U 37 6), .int (U 37 7), .int (U 37 8)])), (ad 38, aI k 8 (U 38)), (ad 39, aI k 32 (U 39)), (ad 40, aI k 4 (U 40)), (ad 41, aI k 4 (U 41)), (ad 42, aI k 100 (U 42)), (ad 43, .inr (0, [.ref (ad 44), .ref (ad 45), .ref (ad 46), .ref (ad 47), .ref (ad 48), .int (U 43 5), .int (U 43 6), .int (U 43 7), .int (U 43 8)])), (ad 44, aI k 8 (U 44)), (ad 45, aI k 32 (U 45)), (ad 46, aI k 4 (U 46)), (ad 47, aI k 4 (U 47)), (ad 48, aI k 100 (U 48)), (ad 49, .inr (0, [.ref (ad 50), .ref (ad 51), .ref (ad 52), .ref (ad 53), .ref (ad 54), .int (U 49 5), .int (U 49 6), .int (U 49 7), .int (U 49 8)])), (ad 50, aI k 8 (U 50)), (ad 51, aI k 32 (U 51)), (ad 52, aI k 4 (U 52)), (ad 53, aI k 4 (U 53)), (ad 54, aI k 100 (U 54))]) (runV hx hb hg hown hml hl.1 ((c_X0_perform l D k (sh 55 ad) (tr 55 6 U) (sh 8 ad) (pj U) hvU (ad 6) (U 6) (x) (w := q) (by omega)) H.size) [.ref (ad 8), .ref (ad 6), .int x, .int (nI q)] [] (preX (mapSome_sub hh.1 [55, 56, 57, 58, 59, 60, 8, 9, 10, 11, 12, 13, 14, 15, 6] rfl) (hh.2.1.sub [55, 56, 57, 58, 59, 60, 8, 9, 10, 11, 12, 13, 14, 15, 6] (by decide) rfl) hK hN xb0 x0) (va_recv hK hh.1 (ci := 0) (q0 := 55) rfl rfl) wd_381 wd_382 wd_383 wd_52 wd_384 lk_X0_perform ⟨rfl, rfl⟩ ⟨by decide, by decide⟩ ⟨Nat.zero_le _, Nat.zero_le _⟩ rfl (Nat.le_of_ble_eq_true rfl) dX3_testsAgree_26) hA hh [55, 56, 57, 58, 59, 60, 8, 9, 10, 11, 12, 13, 14, 15, 6] [0, 1, 2, 3, 4, 5, 7, 16, 17, 18, 19, 20, 21, 22, 23, 24, 25, 26, 27, 28, 29, 30, 31, 32, 33, 34, 35, 36, 37, 38, 39, 40, 41, 42, 43, 44, 45, 46, 47, 48, 49, 50, 51, 52, 53, 54] [0, 1, 2, 3, 4, 5, 60, 6, 52, 53, 54, 55, 56, 57, 58, 59, 7, 8, 9, 10, 11, 12, 13, 14, 15, 16, 17, 18, 19, 20, 21, 22, 23, 24, 25, 26, 27, 28, 29, 30, 31, 32, 33, 34, 35, 36, 37, 38, 39, 40, 41, 42, 43, 44, 45, 46, 47, 48, 49, 50, 51] rfl rfl (by decide) (by decide) (by decide) (fun _ => rfl) (fun r_26 u9 H locs q_26 hh => ?_)
      have h8 := q_26
      rw [pU, show U 6 = V 6 from fw.1 6 (by decide)] at h8
      obtain ⟨d1, d2, d3, d4⟩ := pf_F hv h8
      rw [d1]
      have hw2 := hw_le (P := pj V) (I := V 6) (x := x) (w := q) (n := n)
      obtain ⟨U2, eU2⟩ : ∃ z : St, z = put 55 6 U u9 := ⟨_, rfl⟩
      rw [← eU2] at hh
      have fw2 : FrX [55, 56, 57, 58, 59, 60] [] V U2 := by rw [eU2]; exact fw.trans (put_x (by intro i hi; simp; omega) (by decide))
      have e55 : tr 55 6 U2 0 5 = nI (tcF (pj V) (V 6) x q n) := by rw [tr_in (by decide), eU2, put_in (by decide)]; exact d2
      have e55t : ∀ j, j < tcF (pj V) (V 6) x q n → tr 55 6 U2 5 j = tdF (pj V) (V 6) x q n j := fun j hj => by rw [tr_in (by decide), eU2, put_in (by decide)]; exact d4 j hj
      have hk9 := hT 1 (by omega)
      have e37 : tr 43 6 U2 0 5 = nI (tcF (pj V) (V 6) (-1) q n) := by rw [tr_in (by decide), fw2.1 (43 + 0) (by decide)]; exact hk9.1
      have e37t : ∀ j, j < tcF (pj V) (V 6) (-1) q n → tr 43 6 U2 5 j = tdF (pj V) (V 6) (-1) q n j := fun j hj => by rw [tr_in (by decide), fw2.1 (43 + 5) (by decide)]; exact hk9.2 j hj
      refine lv_iconst (v := 2) hx hb dX3_testsAgree_29 (by decide) ?_
      refine lv_icmp_ne (tgt := 37) hx hb dX3_testsAgree_30 (by decide) (fun c_30 => ?_) (fun c_30 => ?_)
      · have c_30 : ¬ hwF (pj V) (V 6) x q n = 2 := fun z => c_30 ((nI_eq (a := hwF (pj V) (V 6) x q n) (b := 2) (by omega) (by omega)).mpr z)
        refine lv_iconst (v := 0) hx hb dX3_testsAgree_37 (by decide) ?_
        refine lv_istore (lv' := [(4, .int 0), (0, .ref (ad 0)), (1, .int x), (2, .int (nI q)), (3, .int (nI i))]) hx hb dX3_testsAgree_38 hl (by decide) rfl (fun ls hl => ?_)
        refine lv_iload hx hb dX3_testsAgree_40 (lv_at hl 0 rfl) ?_
        refine lv_if_ne (tgt := 61) hx hb dX3_testsAgree_42 (by decide) (fun c_42 => ?_) (fun c_42 => ?_)
        · exact absurd (show ¬ (0 : Int32) = (0 : Int32) from c_42) (by decide)
        · refine lv_aload_n hx hb dX3_testsAgree_45 rfl (lv_at hl 1 rfl) ?_
          refine gfl hx hb hg inX3 hown hK hh.1 0 (ci := 3) rfl rfl 9 (by decide) wd_200 rfl dX3_testsAgree_46 ?_
          refine lv_aload_n hx hb dX3_testsAgree_49 rfl (lv_at hl 1 rfl) ?_
          refine gfl hx hb hg inX3 hown hK hh.1 0 (ci := 3) rfl rfl 8 (by decide) wd_199 rfl dX3_testsAgree_50 ?_
          refine lv_iload_n hx hb dX3_testsAgree_53 rfl (lv_at hl 4 rfl) ?_
          refine topv (1) (by rw [e9]; rfl) ?_
          refine topv (nI 1) rfl ?_
          refine ldq (x := ad (37 + 6 * 1)) hx hb hK hh.1 3 3 rfl rfl rfl (by omega) (by decide) rfl dX3_testsAgree_54 ?_
          refine callR (runV hx hb hg hown hml hl.1 (c_X0_toldLike l D k (sh 55 ad) (tr 55 6 U2) (sh 43 ad) (tr 43 6 U2) e55 e37 d3 tc_le) [.ref (ad 43)] [] (preR (mapSome_sub hh.1 [55, 56, 57, 58, 59, 60, 43, 44, 45, 46, 47, 48] rfl) hK hN xb0 x0) (va_recv hK hh.1 (ci := 0) (q0 := 55) rfl rfl) wd_510 wd_511 wd_512 wd_52 wd_513 lk_X0_toldLike ⟨rfl, rfl⟩ ⟨by decide, by decide⟩ ⟨Nat.zero_le _, Nat.zero_le _⟩ rfl (Nat.le_of_ble_eq_true rfl) dX3_testsAgree_55) (fun r_55 q_55 => ?_)
          obtain ⟨b9, rfl, hb9⟩ := q_55
          have hb9 : b9 = lkB (pj V) (V 6) x (-1) q n := lk_of (hb9.trans ⟨fun z => ⟨z.1, fun j hj => by rw [← e55t j hj, ← e37t j (by omega)]; exact z.2 j hj⟩, fun z => ⟨z.1, fun j hj => by rw [e55t j hj, e37t j (by omega)]; exact z.2 j hj⟩⟩)
          refine lv_if_ne (tgt := 63) hx hb dX3_testsAgree_58 (by decide) (fun c_58 => ?_) (fun c_58 => ?_)
          · have c_58 := zI_ne c_58
            refine lv_iinc (v := nI (i + 1)) (lv' := [(3, .int (nI (i + 1))), (4, .int 0), (0, .ref (ad 0)), (1, .int x), (2, .int (nI q))]) hx hb dX3_testsAgree_63 hl (k := 4) rfl (nI_succ i).symm (by decide) rfl (fun ls hl => ?_)
            refine lv_goto (tgt := 2) hx hb dX3_testsAgree_66 (by decide) ?_
            exact ih (i + 1, U2) _ _ _ ⟨hh, (lv_sub hl [2, 3, 4, 0] rfl), (by omega), fw2, (fun j hj => by rcases Classical.em (j = 1) with e | e; (rw [e]; exact ⟨c_30, hb9.symm.trans c_58⟩); exact hA2 j (by omega))⟩ (by dsimp only; omega)
          · have c_58 := zI_0.mp c_58
            refine lv_iconst (v := 0) hx hb dX3_testsAgree_61 (by decide) ?_
            have hA9 : false = agB (pj V) (fun i => V (5 + i)) t x q n := ag_of (P := pj V) (Is := (fun i => V (5 + i))) (b := false) ⟨fun z => (by cases z), fun z => absurd z (fun z => absurd (z 1 (by omega)).2 (by show ¬ lkB (pj V) (V 6) x (-1) q n = true; rw [← hb9, c_58]; decide))⟩
            exact retZ (Wd := wS k ad) (v := 0) (U2) hx hb hr hlocks rfl dX3_testsAgree_62 hh (⟨by rw [← hA9]; rfl, fw2⟩)
      · have c_30 : hwF (pj V) (V 6) x q n = 2 := (nI_eq (a := hwF (pj V) (V 6) x q n) (b := 2) (by omega) (by omega)).mp c_30
        refine lv_iconst (v := 1) hx hb dX3_testsAgree_33 (by decide) ?_
        refine lv_goto (tgt := 38) hx hb dX3_testsAgree_34 (by decide) ?_
        refine lv_istore (lv' := [(4, .int 1), (0, .ref (ad 0)), (1, .int x), (2, .int (nI q)), (3, .int (nI i))]) hx hb dX3_testsAgree_38 hl (by decide) rfl (fun ls hl => ?_)
        refine lv_iload hx hb dX3_testsAgree_40 (lv_at hl 0 rfl) ?_
        refine lv_if_ne (tgt := 61) hx hb dX3_testsAgree_42 (by decide) (fun c_42 => ?_) (fun c_42 => ?_)
        · refine lv_iconst (v := 0) hx hb dX3_testsAgree_61 (by decide) ?_
          have hA9 : false = agB (pj V) (fun i => V (5 + i)) t x q n := ag_of (P := pj V) (Is := (fun i => V (5 + i))) (b := false) ⟨fun z => (by cases z), fun z => absurd z (fun z => (z 1 (by omega)).1 c_30)⟩
          exact retZ (Wd := wS k ad) (v := 0) (U2) hx hb hr hlocks rfl dX3_testsAgree_62 hh (⟨by rw [← hA9]; rfl, fw2⟩)
        · exact absurd (show (1 : Int32) = (0 : Int32) from c_42) (by decide)
    · refine lv_aload_n hx hb dX3_testsAgree_10 rfl (lv_at hl 0 rfl) ?_
      refine gfl hx hb hg inX3 hown hK hh.1 0 (ci := 3) rfl rfl 9 (by decide) wd_200 rfl dX3_testsAgree_11 ?_
      refine lv_aload_n hx hb dX3_testsAgree_14 rfl (lv_at hl 0 rfl) ?_
      refine gfl hx hb hg inX3 hown hK hh.1 0 (ci := 3) rfl rfl 0 (by decide) wd_191 rfl dX3_testsAgree_15 ?_
      refine lv_aload_n hx hb dX3_testsAgree_18 rfl (lv_at hl 0 rfl) ?_
      refine gfl hx hb hg inX3 hown hK hh.1 0 (ci := 3) rfl rfl 4 (by decide) wd_195 rfl dX3_testsAgree_19 ?_
      refine lv_iload_n hx hb dX3_testsAgree_22 rfl (lv_at hl 3 rfl) ?_
      refine topv (2) (by rw [e9]; rfl) ?_
      refine topv (nI 2) rfl ?_
      refine ldq (x := ad (5 + 2)) hx hb hK hh.1 2 2 rfl rfl rfl (by omega) (by decide) rfl dX3_testsAgree_23 ?_
      refine lv_iload_n hx hb dX3_testsAgree_24 rfl (lv_at hl 1 rfl) ?_
      refine lv_iload_n hx hb dX3_testsAgree_25 rfl (lv_at hl 2 rfl) ?_
      refine callWI (D := D) (wn := fun u9 => wS k ad (put 55 6 U u9)) (wr := [(ad 0, .inr (3, [.ref (ad 8), .ref (ad 16), .int (U 0 2), .ref (ad 1), .ref (ad 2), .int (U 0 5), .ref (ad 31), .int (U 0 7), .ref (ad 3), .ref (ad 55), .ref (ad 4), .int (U 0 11)])), (ad 1, aI k 4 (U 1)), (ad 2, aR (k 2) 3 (fun i => some (ad (5 + i)))), (ad 3, aR (k 3) 3 (fun i => some (ad (37 + 6 * i)))), (ad 4, aI k 24 (U 4)), (ad 5, aI k 4 (U 5)), (ad 6, aI k 4 (U 6)), (ad 16, .inr (2, [.int (U 16 0), .ref (ad 17), .ref (ad 18), .ref (ad 19), .ref (ad 20), .ref (ad 21), .ref (ad 22), .ref (ad 23), .ref (ad 24), .ref (ad 25)])), (ad 17, aI k 24 (U 17)), (ad 18, aI k 24 (U 18)), (ad 19, aI k 24 (U 19)), (ad 20, aR (k 2) 5 (fun i => some (ad (16 + (10 + i))))), (ad 21, aI k 24 (U 21)), (ad 22, aI k 24 (U 22)), (ad 23, aI k 24 (U 23)), (ad 24, aI k 24 (U 24)), (ad 25, aI k 24 (U 25)), (ad 26, aI k 24 (U 26)), (ad 27, aI k 24 (U 27)), (ad 28, aI k 24 (U 28)), (ad 29, aI k 24 (U 29)), (ad 30, aI k 24 (U 30)), (ad 31, .inr (0, [.ref (ad 32), .ref (ad 33), .ref (ad 34), .ref (ad 35), .ref (ad 36), .int (U 31 5), .int (U 31 6), .int (U 31 7), .int (U 31 8)])), (ad 32, aI k 8 (U 32)), (ad 33, aI k 32 (U 33)), (ad 34, aI k 4 (U 34)), (ad 35, aI k 4 (U 35)), (ad 36, aI k 100 (U 36)), (ad 37, .inr (0, [.ref (ad 38), .ref (ad 39), .ref (ad 40), .ref (ad 41), .ref (ad 42), .int (U 37 5), .int (U 37 6), .int (U 37 7), .int (U 37 8)])), (ad 38, aI k 8 (U 38)), (ad 39, aI k 32 (U 39)), (ad 40, aI k 4 (U 40)), (ad 41, aI k 4 (U 41)), (ad 42, aI k 100 (U 42)), (ad 43, .inr (0, [.ref (ad 44), .ref (ad 45), .ref (ad 46), .ref (ad 47), .ref (ad 48), .int (U 43 5), .int (U 43 6), .int (U 43 7), .int (U 43 8)])), (ad 44, aI k 8 (U 44)), (ad 45, aI k 32 (U 45)), (ad 46, aI k 4 (U 46)), (ad 47, aI k 4 (U 47)), (ad 48, aI k 100 (U 48)), (ad 49, .inr (0, [.ref (ad 50), .ref (ad 51), .ref (ad 52), .ref (ad 53), .ref (ad 54), .int (U 49 5), .int (U 49 6), .int (U 49 7), .int (U 49 8)])), (ad 50, aI k 8 (U 50)), (ad 51, aI k 32 (U 51)), (ad 52, aI k 4 (U 52)), (ad 53, aI k 4 (U 53)), (ad 54, aI k 100 (U 54))]) (runV hx hb hg hown hml hl.1 ((c_X0_perform l D k (sh 55 ad) (tr 55 6 U) (sh 8 ad) (pj U) hvU (ad 7) (U 7) (x) (w := q) (by omega)) H.size) [.ref (ad 8), .ref (ad 7), .int x, .int (nI q)] [] (preX (mapSome_sub hh.1 [55, 56, 57, 58, 59, 60, 8, 9, 10, 11, 12, 13, 14, 15, 7] rfl) (hh.2.1.sub [55, 56, 57, 58, 59, 60, 8, 9, 10, 11, 12, 13, 14, 15, 7] (by decide) rfl) hK hN xb0 x0) (va_recv hK hh.1 (ci := 0) (q0 := 55) rfl rfl) wd_381 wd_382 wd_383 wd_52 wd_384 lk_X0_perform ⟨rfl, rfl⟩ ⟨by decide, by decide⟩ ⟨Nat.zero_le _, Nat.zero_le _⟩ rfl (Nat.le_of_ble_eq_true rfl) dX3_testsAgree_26) hA hh [55, 56, 57, 58, 59, 60, 8, 9, 10, 11, 12, 13, 14, 15, 7] [0, 1, 2, 3, 4, 5, 6, 16, 17, 18, 19, 20, 21, 22, 23, 24, 25, 26, 27, 28, 29, 30, 31, 32, 33, 34, 35, 36, 37, 38, 39, 40, 41, 42, 43, 44, 45, 46, 47, 48, 49, 50, 51, 52, 53, 54] [0, 1, 2, 3, 4, 5, 6, 60, 52, 53, 54, 55, 56, 57, 58, 59, 7, 8, 9, 10, 11, 12, 13, 14, 15, 16, 17, 18, 19, 20, 21, 22, 23, 24, 25, 26, 27, 28, 29, 30, 31, 32, 33, 34, 35, 36, 37, 38, 39, 40, 41, 42, 43, 44, 45, 46, 47, 48, 49, 50, 51] rfl rfl (by decide) (by decide) (by decide) (fun _ => rfl) (fun r_26 u9 H locs q_26 hh => ?_)
      have h8 := q_26
      rw [pU, show U 7 = V 7 from fw.1 7 (by decide)] at h8
      obtain ⟨d1, d2, d3, d4⟩ := pf_F hv h8
      rw [d1]
      have hw2 := hw_le (P := pj V) (I := V 7) (x := x) (w := q) (n := n)
      obtain ⟨U2, eU2⟩ : ∃ z : St, z = put 55 6 U u9 := ⟨_, rfl⟩
      rw [← eU2] at hh
      have fw2 : FrX [55, 56, 57, 58, 59, 60] [] V U2 := by rw [eU2]; exact fw.trans (put_x (by intro i hi; simp; omega) (by decide))
      have e55 : tr 55 6 U2 0 5 = nI (tcF (pj V) (V 7) x q n) := by rw [tr_in (by decide), eU2, put_in (by decide)]; exact d2
      have e55t : ∀ j, j < tcF (pj V) (V 7) x q n → tr 55 6 U2 5 j = tdF (pj V) (V 7) x q n j := fun j hj => by rw [tr_in (by decide), eU2, put_in (by decide)]; exact d4 j hj
      have hk9 := hT 2 (by omega)
      have e37 : tr 49 6 U2 0 5 = nI (tcF (pj V) (V 7) (-1) q n) := by rw [tr_in (by decide), fw2.1 (49 + 0) (by decide)]; exact hk9.1
      have e37t : ∀ j, j < tcF (pj V) (V 7) (-1) q n → tr 49 6 U2 5 j = tdF (pj V) (V 7) (-1) q n j := fun j hj => by rw [tr_in (by decide), fw2.1 (49 + 5) (by decide)]; exact hk9.2 j hj
      refine lv_iconst (v := 2) hx hb dX3_testsAgree_29 (by decide) ?_
      refine lv_icmp_ne (tgt := 37) hx hb dX3_testsAgree_30 (by decide) (fun c_30 => ?_) (fun c_30 => ?_)
      · have c_30 : ¬ hwF (pj V) (V 7) x q n = 2 := fun z => c_30 ((nI_eq (a := hwF (pj V) (V 7) x q n) (b := 2) (by omega) (by omega)).mpr z)
        refine lv_iconst (v := 0) hx hb dX3_testsAgree_37 (by decide) ?_
        refine lv_istore (lv' := [(4, .int 0), (0, .ref (ad 0)), (1, .int x), (2, .int (nI q)), (3, .int (nI i))]) hx hb dX3_testsAgree_38 hl (by decide) rfl (fun ls hl => ?_)
        refine lv_iload hx hb dX3_testsAgree_40 (lv_at hl 0 rfl) ?_
        refine lv_if_ne (tgt := 61) hx hb dX3_testsAgree_42 (by decide) (fun c_42 => ?_) (fun c_42 => ?_)
        · exact absurd (show ¬ (0 : Int32) = (0 : Int32) from c_42) (by decide)
        · refine lv_aload_n hx hb dX3_testsAgree_45 rfl (lv_at hl 1 rfl) ?_
          refine gfl hx hb hg inX3 hown hK hh.1 0 (ci := 3) rfl rfl 9 (by decide) wd_200 rfl dX3_testsAgree_46 ?_
          refine lv_aload_n hx hb dX3_testsAgree_49 rfl (lv_at hl 1 rfl) ?_
          refine gfl hx hb hg inX3 hown hK hh.1 0 (ci := 3) rfl rfl 8 (by decide) wd_199 rfl dX3_testsAgree_50 ?_
          refine lv_iload_n hx hb dX3_testsAgree_53 rfl (lv_at hl 4 rfl) ?_
          refine topv (2) (by rw [e9]; rfl) ?_
          refine topv (nI 2) rfl ?_
          refine ldq (x := ad (37 + 6 * 2)) hx hb hK hh.1 3 3 rfl rfl rfl (by omega) (by decide) rfl dX3_testsAgree_54 ?_
          refine callR (runV hx hb hg hown hml hl.1 (c_X0_toldLike l D k (sh 55 ad) (tr 55 6 U2) (sh 49 ad) (tr 49 6 U2) e55 e37 d3 tc_le) [.ref (ad 49)] [] (preR (mapSome_sub hh.1 [55, 56, 57, 58, 59, 60, 49, 50, 51, 52, 53, 54] rfl) hK hN xb0 x0) (va_recv hK hh.1 (ci := 0) (q0 := 55) rfl rfl) wd_510 wd_511 wd_512 wd_52 wd_513 lk_X0_toldLike ⟨rfl, rfl⟩ ⟨by decide, by decide⟩ ⟨Nat.zero_le _, Nat.zero_le _⟩ rfl (Nat.le_of_ble_eq_true rfl) dX3_testsAgree_55) (fun r_55 q_55 => ?_)
          obtain ⟨b9, rfl, hb9⟩ := q_55
          have hb9 : b9 = lkB (pj V) (V 7) x (-1) q n := lk_of (hb9.trans ⟨fun z => ⟨z.1, fun j hj => by rw [← e55t j hj, ← e37t j (by omega)]; exact z.2 j hj⟩, fun z => ⟨z.1, fun j hj => by rw [e55t j hj, e37t j (by omega)]; exact z.2 j hj⟩⟩)
          refine lv_if_ne (tgt := 63) hx hb dX3_testsAgree_58 (by decide) (fun c_58 => ?_) (fun c_58 => ?_)
          · have c_58 := zI_ne c_58
            refine lv_iinc (v := nI (i + 1)) (lv' := [(3, .int (nI (i + 1))), (4, .int 0), (0, .ref (ad 0)), (1, .int x), (2, .int (nI q))]) hx hb dX3_testsAgree_63 hl (k := 4) rfl (nI_succ i).symm (by decide) rfl (fun ls hl => ?_)
            refine lv_goto (tgt := 2) hx hb dX3_testsAgree_66 (by decide) ?_
            exact ih (i + 1, U2) _ _ _ ⟨hh, (lv_sub hl [2, 3, 4, 0] rfl), (by omega), fw2, (fun j hj => by rcases Classical.em (j = 2) with e | e; (rw [e]; exact ⟨c_30, hb9.symm.trans c_58⟩); exact hA2 j (by omega))⟩ (by dsimp only; omega)
          · have c_58 := zI_0.mp c_58
            refine lv_iconst (v := 0) hx hb dX3_testsAgree_61 (by decide) ?_
            have hA9 : false = agB (pj V) (fun i => V (5 + i)) t x q n := ag_of (P := pj V) (Is := (fun i => V (5 + i))) (b := false) ⟨fun z => (by cases z), fun z => absurd z (fun z => absurd (z 2 (by omega)).2 (by show ¬ lkB (pj V) (V 7) x (-1) q n = true; rw [← hb9, c_58]; decide))⟩
            exact retZ (Wd := wS k ad) (v := 0) (U2) hx hb hr hlocks rfl dX3_testsAgree_62 hh (⟨by rw [← hA9]; rfl, fw2⟩)
      · have c_30 : hwF (pj V) (V 7) x q n = 2 := (nI_eq (a := hwF (pj V) (V 7) x q n) (b := 2) (by omega) (by omega)).mp c_30
        refine lv_iconst (v := 1) hx hb dX3_testsAgree_33 (by decide) ?_
        refine lv_goto (tgt := 38) hx hb dX3_testsAgree_34 (by decide) ?_
        refine lv_istore (lv' := [(4, .int 1), (0, .ref (ad 0)), (1, .int x), (2, .int (nI q)), (3, .int (nI i))]) hx hb dX3_testsAgree_38 hl (by decide) rfl (fun ls hl => ?_)
        refine lv_iload hx hb dX3_testsAgree_40 (lv_at hl 0 rfl) ?_
        refine lv_if_ne (tgt := 61) hx hb dX3_testsAgree_42 (by decide) (fun c_42 => ?_) (fun c_42 => ?_)
        · refine lv_iconst (v := 0) hx hb dX3_testsAgree_61 (by decide) ?_
          have hA9 : false = agB (pj V) (fun i => V (5 + i)) t x q n := ag_of (P := pj V) (Is := (fun i => V (5 + i))) (b := false) ⟨fun z => (by cases z), fun z => absurd z (fun z => (z 2 (by omega)).1 c_30)⟩
          exact retZ (Wd := wS k ad) (v := 0) (U2) hx hb hr hlocks rfl dX3_testsAgree_62 hh (⟨by rw [← hA9]; rfl, fw2⟩)
        · exact absurd (show (1 : Int32) = (0 : Int32) from c_42) (by decide)
