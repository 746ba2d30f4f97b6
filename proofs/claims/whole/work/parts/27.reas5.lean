/-! the class Reasons: findAll, ways -/
/-- what Reasons knows of a program behind findAll -/
def RG (n : Nat) (Pv V : St) : Prop :=
  V 0 0 = nI n ∧ (∀ p, p < n → V 1 p = nxI n Pv p ∧ V 2 p = wnI n Pv p) ∧
  (∀ u, u < n → ∀ w, bt (V 3 u) w = true ↔ w < n ∧ hqF n (V 2) u w) ∧
  (∀ v, v < n → ∀ u, (bt (V 11 v) u = true ↔ u < n ∧ hqR n (V 1) Pv v u) ∧ (bt (V 12 v) u = true ↔ u < n ∧ hqN n (V 1) Pv v u) ∧ (bt (V 13 v) u = true ↔ u < n ∧ hqG n (V 1) Pv v u) ∧ (bt (V 14 v) u = true ↔ u < n ∧ hqC n (V 2) (V 3) v u)) ∧
  (∀ p, p < n → V 5 p = V 11 p ||| V 12 p ||| V 13 p ||| V 14 p) ∧
  (∀ v, v < n → ∀ u, bt (V 6 v) u = true ↔ u < n ∧ (hqT n (V 1) Pv v u ∨ hqN n (V 1) Pv v u)) ∧
  (∀ p, p < n → (∀ j, bt (V 7 p) j = true ↔ Cl (fun j => j = p) (fun y z => y < n ∧ bt (V 5 y) z = true) j) ∧ (∀ j, bt (V 8 p) j = true ↔ Cl (fun j => j = p) (fun y z => y < n ∧ bt (V 6 y) z = true) j))
abbrev rmX2_findAll : Room := { frames := 4, cells := 0, slots := 0, locals := 91 }
theorem lk_X2_findAll : Lk yX2_findAll 1 := by decide +kernel
set_option maxHeartbeats 4000000 in
set_option maxRecDepth 100000 in
/-- findAll(program) -/
theorem c_X2_findAll (l : Launch) (D : va_G) (k : Nat → ClassId) (ad : Nat → Nat) (V : St) {n : Nat} (bd : Nat → Nat) (Pv : St) (hv : okV n Pv) : CtX noX l yX2_findAll cX2_findAll 3 none rmX2_findAll D (tyL k) ((wR k ad V) ++ (wP k bd Pv)) [.ref (ad 0), .ref (bd 0)] (qV D (fun U => (wR k ad U) ++ (wP k bd Pv)) (fun U => RG n Pv U)) := by
  refine CtX.mk (by decide) (Nat.le_of_ble_eq_true rfl) ?_
  intro p e s m below meth c hx hb hml hown hg hr hlocks hK hN A hA hX hh ls hl
  have hh : Hd D A ((wR k ad V) ++ (wP k bd Pv)) s.heap s.heap [] := hh
  have hl : lv_has ls 3 [(0, .ref (ad 0)), (1, .ref (bd 0))] := hl
  have hn24 := hv.1
  refine lv_aload_n hx hb dX2_findAll_0 rfl (lv_at hl 0 rfl) ?_
  refine lv_aload_n hx hb dX2_findAll_1 rfl (lv_at hl 1 rfl) ?_
  refine gflN hx hb hg hN inX1 hown hK hh.1 15 (ci := 1) rfl rfl 7 (by decide) 91 nst_91 rfl dX2_findAll_2 ?_
  refine topv (nI n) hv.2.1 ?_
  refine pfl hx hb hg inX2 tyX2 tyX2_ok nmX2 hown hK hh 0 (ci := 2) rfl rfl 0 (by decide) wd_119 rfl rfl rfl (Nat.le_of_ble_eq_true rfl) dX2_findAll_5 ((wR k ad (va_up V 0 (upd (V 0) 0 (nI n)))) ++ (wP k bd Pv)) rfl (fun H locs hh => ?_)
  obtain ⟨V1, eV1⟩ : ∃ z : St, z = va_up V 0 (upd (V 0) 0 (nI n)) := ⟨_, rfl⟩
  rw [← eV1] at hh
  have hn1 : V1 0 0 = nI n := by rw [eV1]; rfl
  refine lv_aload_n hx hb dX2_findAll_8 rfl (lv_at hl 0 rfl) ?_
  refine lv_aload_n hx hb dX2_findAll_9 rfl (lv_at hl 1 rfl) ?_
  refine callWV (D := D) (wn := fun V2 => (wR k ad V2) ++ (wP k bd Pv)) (wr := []) (runV hx hb hg hown hml hl.1 ((c_X2_takeNexts l D k ad V1 hn1 hn24 bd Pv hv) H.size) [.ref (bd 0)] [] (preX (mapSome_sub hh.1 [0, 1, 2, 3, 4, 5, 6, 7, 8, 9, 10, 11, 12, 13, 14, 15, 16, 17, 18, 19, 20, 21, 22] rfl) (hh.2.1.sub [0, 1, 2, 3, 4, 5, 6, 7, 8, 9, 10, 11, 12, 13, 14, 15, 16, 17, 18, 19, 20, 21, 22] (by decide) rfl) hK hN xb0 x0) (va_recv hK hh.1 (ci := 2) (q0 := 0) rfl rfl) wd_288 wd_290 wd_1 wd_51 wd_291 lk_X2_takeNexts ⟨rfl, rfl⟩ ⟨by decide, by decide⟩ ⟨Nat.zero_le _, Nat.zero_le _⟩ rfl (Nat.le_of_ble_eq_true rfl) dX2_findAll_10) hA hh [0, 1, 2, 3, 4, 5, 6, 7, 8, 9, 10, 11, 12, 13, 14, 15, 16, 17, 18, 19, 20, 21, 22] [] [0, 1, 2, 3, 4, 5, 6, 7, 8, 9, 10, 11, 12, 13, 14, 15, 16, 17, 18, 19, 20, 21, 22] rfl rfl (by decide) (by decide) (by decide) (fun _ => rfl) (fun V2 H locs q_10 hh => ?_)
  obtain ⟨f2, N2⟩ := q_10
  have hn2 : V2 0 0 = nI n := (f2.at 0 (by decide) 0).trans hn1
  refine lv_aload_n hx hb dX2_findAll_13 rfl (lv_at hl 0 rfl) ?_
  refine callWV (D := D) (wn := fun V3 => (wR k ad V3) ++ (wP k bd Pv)) (wr := [(bd 0, .inr (1, [.ref (bd 1), .ref (bd 2), .ref (bd 3), .ref (bd 4), .ref (bd 5), .ref (bd 6), .ref (bd 7), .int (Pv 0 7)])), (bd 1, aI k 24 (Pv 1)), (bd 2, aI k 24 (Pv 2)), (bd 3, aI k 24 (Pv 3)), (bd 4, aI k 24 (Pv 4)), (bd 5, aI k 4 (Pv 5)), (bd 6, aZ k 4 (Pv 6)), (bd 7, aI k 4 (Pv 7))]) (runV hx hb hg hown hml hl.1 ((c_X2_forgetHanging l D k ad V2 hn2 hn24) H.size) [] [] (preX (mapSome_sub hh.1 [0, 1, 2, 3, 4, 5, 6, 7, 8, 9, 10, 11, 12, 13, 14] rfl) (hh.2.1.sub [0, 1, 2, 3, 4, 5, 6, 7, 8, 9, 10, 11, 12, 13, 14] (by decide) rfl) hK hN xb0 x0) (va_recv hK hh.1 (ci := 2) (q0 := 0) rfl rfl) wd_310 wd_312 wd_3 wd_51 wd_313 lk_X2_forgetHanging ⟨rfl, rfl⟩ ⟨by decide, by decide⟩ ⟨Nat.zero_le _, Nat.zero_le _⟩ rfl (Nat.le_of_ble_eq_true rfl) dX2_findAll_14) hA hh [0, 1, 2, 3, 4, 5, 6, 7, 8, 9, 10, 11, 12, 13, 14] [15, 16, 17, 18, 19, 20, 21, 22] [8, 9, 10, 11, 12, 13, 14, 15, 16, 17, 18, 19, 20, 21, 22, 0, 1, 2, 3, 4, 5, 6, 7] rfl rfl (by decide) (by decide) (by decide) (fun _ => rfl) (fun V3 H locs q_14 hh => ?_)
  obtain ⟨f3, Z3⟩ := q_14
  have hn3 : V3 0 0 = nI n := (f3.at 0 (by decide) 0).trans hn2
  refine lv_aload_n hx hb dX2_findAll_17 rfl (lv_at hl 0 rfl) ?_
  refine callWV (D := D) (wn := fun V4 => (wR k ad V4) ++ (wP k bd Pv)) (wr := [(bd 0, .inr (1, [.ref (bd 1), .ref (bd 2), .ref (bd 3), .ref (bd 4), .ref (bd 5), .ref (bd 6), .ref (bd 7), .int (Pv 0 7)])), (bd 1, aI k 24 (Pv 1)), (bd 2, aI k 24 (Pv 2)), (bd 3, aI k 24 (Pv 3)), (bd 4, aI k 24 (Pv 4)), (bd 5, aI k 4 (Pv 5)), (bd 6, aZ k 4 (Pv 6)), (bd 7, aI k 4 (Pv 7))]) (runV hx hb hg hown hml hl.1 ((c_X2_findFollowers l D k ad V3 hn3 hn24 (fun u hu => (Z3 u hu).1)) H.size) [] [] (preX (mapSome_sub hh.1 [0, 1, 2, 3, 4, 5, 6, 7, 8, 9, 10, 11, 12, 13, 14] rfl) (hh.2.1.sub [0, 1, 2, 3, 4, 5, 6, 7, 8, 9, 10, 11, 12, 13, 14] (by decide) rfl) hK hN xb0 x0) (va_recv hK hh.1 (ci := 2) (q0 := 0) rfl rfl) wd_314 wd_316 wd_4 wd_51 wd_317 lk_X2_findFollowers ⟨rfl, rfl⟩ ⟨by decide, by decide⟩ ⟨Nat.zero_le _, Nat.zero_le _⟩ rfl (Nat.le_of_ble_eq_true rfl) dX2_findAll_18) hA hh [0, 1, 2, 3, 4, 5, 6, 7, 8, 9, 10, 11, 12, 13, 14] [15, 16, 17, 18, 19, 20, 21, 22] [8, 9, 10, 11, 12, 13, 14, 15, 16, 17, 18, 19, 20, 21, 22, 0, 1, 2, 3, 4, 5, 6, 7] rfl rfl (by decide) (by decide) (by decide) (fun _ => rfl) (fun V4 H locs q_18 hh => ?_)
  obtain ⟨f4, F4⟩ := q_18
  have hn4 : V4 0 0 = nI n := (f4.at 0 (by decide) 0).trans hn3
  refine lv_iconst (v := 0) hx hb dX2_findAll_21 (by decide) ?_
  refine lv_istore_n (lv' := [(2, .int 0), (0, .ref (ad 0)), (1, .ref (bd 0))]) hx hb dX2_findAll_22 rfl hl (by decide) rfl (fun ls hl => ?_)
  refine loopW (σ := Nat × St) (fun zz9 H locs ls => match zz9 with | (u, U) => Hd D A ((wR k ad U) ++ (wP k bd Pv)) s.heap H locs ∧ lv_has ls 3 [(0, .ref (ad 0)), (1, .ref (bd 0)), (2, .int (nI u))] ∧ (u ≤ n) ∧ (Fr [6, 11, 12, 13, 14] V4 U) ∧ (Grid n u 0 (hqR n (V4 1) Pv) (U 11)) ∧ (Grid n u 0 (hqN n (V4 1) Pv) (U 12)) ∧ (Grid n u 0 (hqG n (V4 1) Pv) (U 13)) ∧ (Grid n u 0 (hqC n (V4 2) (V4 3)) (U 14)) ∧ (Grid n u 0 (hqT n (V4 1) Pv) (U 6))) (fun zz9 => match zz9 with | (u, U) => n - u) ?_ (0, V4) ⟨hh, (lv_sub hl [1, 2, 0] rfl), (by omega), Fr.rf, (Grid.start (fun v hv => by rw [f4 11 (by decide)]; exact (Z3 v hv).2.2.1)), (Grid.start (fun v hv => by rw [f4 12 (by decide)]; exact (Z3 v hv).2.2.2.1)), (Grid.start (fun v hv => by rw [f4 13 (by decide)]; exact (Z3 v hv).2.2.2.2.1)), (Grid.start (fun v hv => by rw [f4 14 (by decide)]; exact (Z3 v hv).2.2.2.2.2)), (Grid.start (fun v hv => by rw [f4 6 (by decide)]; exact (Z3 v hv).2.1))⟩
  intro zz9 H locs ls hI ih
  obtain ⟨u, U⟩ := zz9
  obtain ⟨hh, hl, hu, hf, gR, gN, gG, gC, gT⟩ := hI
  have hnU : U 0 0 = nI n := (hf.at 0 (by decide) 0).trans hn4
  have hN1 : ∀ p, p < n → U 1 p = nxI n Pv p := fun p hp => by rw [hf 1 (by decide), f4 1 (by decide), f3 1 (by decide)]; exact (N2 p hp).1
  refine lv_iload_n hx hb dX2_findAll_23 rfl (lv_at hl 2 rfl) ?_
  refine lv_aload_n hx hb dX2_findAll_24 rfl (lv_at hl 0 rfl) ?_
  refine gfl hx hb hg inX2 hown hK hh.1 0 (ci := 2) rfl rfl 0 (by decide) wd_119 rfl dX2_findAll_25 ?_
  refine topv (nI n) hnU ?_
  refine lv_icmp_ge (tgt := 54) hx hb dX2_findAll_28 (by decide) (fun c_28 => ?_) (fun c_28 => ?_)
  · have c_28 : n ≤ u := (nI_leI (a := n) (b := u) (by omega) (by omega)).mp c_28
    have eu : u = n := by omega
    rw [eu] at gR gN gG gC gT
    refine lv_aload_n hx hb dX2_findAll_54 rfl (lv_at hl 0 rfl) ?_
    refine callWV (D := D) (wn := fun X => (wR k ad X) ++ (wP k bd Pv)) (wr := [(bd 0, .inr (1, [.ref (bd 1), .ref (bd 2), .ref (bd 3), .ref (bd 4), .ref (bd 5), .ref (bd 6), .ref (bd 7), .int (Pv 0 7)])), (bd 1, aI k 24 (Pv 1)), (bd 2, aI k 24 (Pv 2)), (bd 3, aI k 24 (Pv 3)), (bd 4, aI k 24 (Pv 4)), (bd 5, aI k 4 (Pv 5)), (bd 6, aZ k 4 (Pv 6)), (bd 7, aI k 4 (Pv 7))]) (runV hx hb hg hown hml hl.1 ((c_X2_closeHanging l D k ad U hnU hn24 (fun p hp j => ⟨fun h => by have := (gT.done p hp j).mp h; omega, fun h => by have := (gR.done p hp j).mp h; omega, fun h => by have := (gN.done p hp j).mp h; omega, fun h => by have := (gG.done p hp j).mp h; omega, fun h => by have := (gC.done p hp j).mp h; omega⟩)) H.size) [] [] (preX (mapSome_sub hh.1 [0, 1, 2, 3, 4, 5, 6, 7, 8, 9, 10, 11, 12, 13, 14] rfl) (hh.2.1.sub [0, 1, 2, 3, 4, 5, 6, 7, 8, 9, 10, 11, 12, 13, 14] (by decide) rfl) hK hN xb0 x0) (va_recv hK hh.1 (ci := 2) (q0 := 0) rfl rfl) wd_369 wd_371 wd_11 wd_51 wd_372 lk_X2_closeHanging ⟨rfl, rfl⟩ ⟨by decide, by decide⟩ ⟨Nat.zero_le _, Nat.zero_le _⟩ rfl (Nat.le_of_ble_eq_true rfl) dX2_findAll_55) hA hh [0, 1, 2, 3, 4, 5, 6, 7, 8, 9, 10, 11, 12, 13, 14] [15, 16, 17, 18, 19, 20, 21, 22] [8, 9, 10, 11, 12, 13, 14, 15, 16, 17, 18, 19, 20, 21, 22, 0, 1, 2, 3, 4, 5, 6, 7] rfl rfl (by decide) (by decide) (by decide) (fun _ => rfl) (fun X H locs q_55 hh => ?_)
    obtain ⟨fx, CX⟩ := q_55
    have e1 : X 1 = V4 1 := (fx 1 (by decide)).trans (hf 1 (by decide))
    have e2 : X 2 = V4 2 := (fx 2 (by decide)).trans (hf 2 (by decide))
    have e3 : X 3 = V4 3 := (fx 3 (by decide)).trans (hf 3 (by decide))
    have hRG : RG n Pv X := by
      refine ⟨(fx.at 0 (by decide) 0).trans hnU, fun p hp => ?_, fun u hu w => ?_, fun v hv u => ?_, fun p hp => ?_, fun v hv u => ?_, fun p hp => (CX p hp).2.2⟩
      · rw [e1, e2, f4 1 (by decide), f4 2 (by decide), f3 1 (by decide), f3 2 (by decide)]; exact N2 p hp
      · rw [e3, e2, F4 u hu w, f4 2 (by decide)]; exact Iff.rfl
      · rw [e1, e2, e3, fx 11 (by decide), fx 12 (by decide), fx 13 (by decide), fx 14 (by decide)]; exact ⟨gR.done v hv u, gN.done v hv u, gG.done v hv u, gC.done v hv u⟩
      · rw [fx 11 (by decide), fx 12 (by decide), fx 13 (by decide), fx 14 (by decide)]; exact (CX p hp).1
      · rw [(CX v hv).2.1, b_or, Bool.or_eq_true, gT.done v hv u, gN.done v hv u, e1]; exact ⟨fun z => z.elim (fun z => ⟨z.1, Or.inl z.2⟩) (fun z => ⟨z.1, Or.inr z.2⟩), fun z => z.2.elim (fun y => Or.inl ⟨z.1, y⟩) (fun y => Or.inr ⟨z.1, y⟩)⟩
    exact retV (Wd := fun U => (wR k ad U) ++ (wP k bd Pv)) (X) hx hb hr hlocks dX2_findAll_58 hh (hRG)
  · have c_28 : ¬ n ≤ u := fun z => c_28 ((nI_leI (a := n) (b := u) (by omega) (by omega)).mpr z)
    refine lv_aload_n hx hb dX2_findAll_31 rfl (lv_at hl 0 rfl) ?_
    refine lv_aload_n hx hb dX2_findAll_32 rfl (lv_at hl 1 rfl) ?_
    refine lv_iload_n hx hb dX2_findAll_33 rfl (lv_at hl 2 rfl) ?_
    refine callWV (D := D) (wn := fun Ua => (wR k ad Ua) ++ (wP k bd Pv)) (wr := []) (runV hx hb hg hown hml hl.1 ((c_X2_findHangingByData l D k ad U hnU hn24 bd Pv hv hN1 (u := u) (by omega) (by rw [hf 1 (by decide)]; exact gR) (by rw [hf 1 (by decide)]; exact gG) (by rw [hf 1 (by decide)]; exact gT)) H.size) [.ref (bd 0), .int (nI u)] [] (preX (mapSome_sub hh.1 [0, 1, 2, 3, 4, 5, 6, 7, 8, 9, 10, 11, 12, 13, 14, 15, 16, 17, 18, 19, 20, 21, 22] rfl) (hh.2.1.sub [0, 1, 2, 3, 4, 5, 6, 7, 8, 9, 10, 11, 12, 13, 14, 15, 16, 17, 18, 19, 20, 21, 22] (by decide) rfl) hK hN xb0 x0) (va_recv hK hh.1 (ci := 2) (q0 := 0) rfl rfl) wd_326 wd_328 wd_6 wd_51 wd_329 lk_X2_findHangingByData ⟨rfl, rfl⟩ ⟨by decide, by decide⟩ ⟨Nat.zero_le _, Nat.zero_le _⟩ rfl (Nat.le_of_ble_eq_true rfl) dX2_findAll_34) hA hh [0, 1, 2, 3, 4, 5, 6, 7, 8, 9, 10, 11, 12, 13, 14, 15, 16, 17, 18, 19, 20, 21, 22] [] [0, 1, 2, 3, 4, 5, 6, 7, 8, 9, 10, 11, 12, 13, 14, 15, 16, 17, 18, 19, 20, 21, 22] rfl rfl (by decide) (by decide) (by decide) (fun _ => rfl) (fun Ua H locs q_34 hh => ?_)
    rw [hf 1 (by decide)] at q_34
    obtain ⟨fa, aR, aG, aT⟩ := q_34
    have hna : Ua 0 0 = nI n := (fa.at 0 (by decide) 0).trans hnU
    refine lv_aload_n hx hb dX2_findAll_37 rfl (lv_at hl 0 rfl) ?_
    refine lv_aload_n hx hb dX2_findAll_38 rfl (lv_at hl 1 rfl) ?_
    refine lv_iload_n hx hb dX2_findAll_39 rfl (lv_at hl 2 rfl) ?_
    refine callWV (D := D) (wn := fun Ub => (wR k ad Ub) ++ (wP k bd Pv)) (wr := []) (runV hx hb hg hown hml hl.1 ((c_X2_findHangingByNames l D k ad Ua hna hn24 bd Pv hv (by rw [fa 1 (by decide)]; exact hN1) (u := u) (by omega) (by rw [fa 1 (by decide), hf 1 (by decide), fa 12 (by decide)]; exact gN)) H.size) [.ref (bd 0), .int (nI u)] [] (preX (mapSome_sub hh.1 [0, 1, 2, 3, 4, 5, 6, 7, 8, 9, 10, 11, 12, 13, 14, 15, 16, 17, 18, 19, 20, 21, 22] rfl) (hh.2.1.sub [0, 1, 2, 3, 4, 5, 6, 7, 8, 9, 10, 11, 12, 13, 14, 15, 16, 17, 18, 19, 20, 21, 22] (by decide) rfl) hK hN xb0 x0) (va_recv hK hh.1 (ci := 2) (q0 := 0) rfl rfl) wd_357 wd_359 wd_9 wd_51 wd_360 lk_X2_findHangingByNames ⟨rfl, rfl⟩ ⟨by decide, by decide⟩ ⟨Nat.zero_le _, Nat.zero_le _⟩ rfl (Nat.le_of_ble_eq_true rfl) dX2_findAll_40) hA hh [0, 1, 2, 3, 4, 5, 6, 7, 8, 9, 10, 11, 12, 13, 14, 15, 16, 17, 18, 19, 20, 21, 22] [] [0, 1, 2, 3, 4, 5, 6, 7, 8, 9, 10, 11, 12, 13, 14, 15, 16, 17, 18, 19, 20, 21, 22] rfl rfl (by decide) (by decide) (by decide) (fun _ => rfl) (fun Ub H locs q_40 hh => ?_)
    rw [fa 1 (by decide), hf 1 (by decide)] at q_40
    obtain ⟨fb, bN⟩ := q_40
    have hnb : Ub 0 0 = nI n := (fb.at 0 (by decide) 0).trans hna
    refine lv_aload_n hx hb dX2_findAll_43 rfl (lv_at hl 0 rfl) ?_
    refine lv_iload_n hx hb dX2_findAll_44 rfl (lv_at hl 2 rfl) ?_
    refine callWV (D := D) (wn := fun Uc => (wR k ad Uc) ++ (wP k bd Pv)) (wr := [(bd 0, .inr (1, [.ref (bd 1), .ref (bd 2), .ref (bd 3), .ref (bd 4), .ref (bd 5), .ref (bd 6), .ref (bd 7), .int (Pv 0 7)])), (bd 1, aI k 24 (Pv 1)), (bd 2, aI k 24 (Pv 2)), (bd 3, aI k 24 (Pv 3)), (bd 4, aI k 24 (Pv 4)), (bd 5, aI k 4 (Pv 5)), (bd 6, aZ k 4 (Pv 6)), (bd 7, aI k 4 (Pv 7))]) (runV hx hb hg hown hml hl.1 ((c_X2_findHangingByControl l D k ad Ub hnb hn24 (u := u) (by omega) (by rw [fb 2 (by decide), fb 3 (by decide), fa 2 (by decide), fa 3 (by decide), hf 2 (by decide), hf 3 (by decide), fb 14 (by decide), fa 14 (by decide)]; exact gC)) H.size) [.int (nI u)] [] (preX (mapSome_sub hh.1 [0, 1, 2, 3, 4, 5, 6, 7, 8, 9, 10, 11, 12, 13, 14] rfl) (hh.2.1.sub [0, 1, 2, 3, 4, 5, 6, 7, 8, 9, 10, 11, 12, 13, 14] (by decide) rfl) hK hN xb0 x0) (va_recv hK hh.1 (ci := 2) (q0 := 0) rfl rfl) wd_365 wd_367 wd_10 wd_51 wd_368 lk_X2_findHangingByControl ⟨rfl, rfl⟩ ⟨by decide, by decide⟩ ⟨Nat.zero_le _, Nat.zero_le _⟩ rfl (Nat.le_of_ble_eq_true rfl) dX2_findAll_45) hA hh [0, 1, 2, 3, 4, 5, 6, 7, 8, 9, 10, 11, 12, 13, 14] [15, 16, 17, 18, 19, 20, 21, 22] [8, 9, 10, 11, 12, 13, 14, 15, 16, 17, 18, 19, 20, 21, 22, 0, 1, 2, 3, 4, 5, 6, 7] rfl rfl (by decide) (by decide) (by decide) (fun _ => rfl) (fun Uc H locs q_45 hh => ?_)
    rw [fb 2 (by decide), fb 3 (by decide), fa 2 (by decide), fa 3 (by decide), hf 2 (by decide), hf 3 (by decide)] at q_45
    obtain ⟨fc, cC⟩ := q_45
    refine lv_iinc (v := nI (u + 1)) (lv' := [(2, .int (nI (u + 1))), (0, .ref (ad 0)), (1, .ref (bd 0))]) hx hb dX2_findAll_48 hl (k := 2) rfl (nI_succ u).symm (by decide) rfl (fun ls hl => ?_)
    refine lv_goto (tgt := 23) hx hb dX2_findAll_51 (by decide) ?_
    exact ih (u + 1, Uc) _ _ _ ⟨hh, (lv_sub hl [1, 2, 0] rfl), (by omega), (((hf.trans (fa.mono (by decide))).trans (fb.mono (by decide))).trans (fc.mono (by decide))), (by rw [fc 11 (by decide), fb 11 (by decide)]; exact aR), (by rw [fc 12 (by decide)]; exact bN), (by rw [fc 13 (by decide), fb 13 (by decide)]; exact aG), cC, (by rw [fc 6 (by decide), fb 6 (by decide)]; exact aT)⟩ (by dsimp only; omega)
def awS (n : Nat) (h5 : Nat → Int32) (u : Nat) : Nat → Int32
  | 0 => bitI u
  | d + 1 => mkM n (fun p => decide (¬ h5 p &&& awS n h5 u d = 0))
def dsS (n : Nat) (h5 : Nat → Int32) (v u : Nat) : Nat := firstB (fun d => bt (awS n h5 u d) v) 23 0
theorem firstB_le (f : Nat → Bool) : ∀ (m i : Nat), firstB f m i ≤ i + m
  | 0, i => Nat.le_refl _
  | m + 1, i => by
    show ite _ _ _ ≤ _
    split
    · omega
    · have := firstB_le f m (i + 1); omega
theorem dsS_le (n : Nat) (h5 : Nat → Int32) (v u : Nat) : dsS n h5 v u ≤ 23 := by have := firstB_le (fun d => bt (awS n h5 u d) v) 23 0; unfold dsS; omega
def wyS (n : Nat) (h5 : Nat → Int32) (v u : Nat) : Nat → Nat
  | 0 => v
  | j + 1 => firstB (bt (h5 (wyS n h5 v u j) &&& awS n h5 u (dsS n h5 v u - (j + 1)))) 23 0
theorem wyS_lt {n : Nat} {h5 : Nat → Int32} {v u : Nat} (hv : v < 24) : ∀ j, wyS n h5 v u j < 24
  | 0 => hv
  | j + 1 => by have := firstB_le (bt (h5 (wyS n h5 v u j) &&& awS n h5 u (dsS n h5 v u - (j + 1)))) 23 0; show firstB _ _ _ < 24; omega
abbrev rmX2_measureWays : Room := { frames := 1, cells := 0, slots := 0, locals := 23 }
theorem lk_X2_measureWays : Lk yX2_measureWays 2 := by decide +kernel
set_option maxHeartbeats 4000000 in
set_option maxRecDepth 100000 in
/-- measureWays(v, u) -/
theorem c_X2_measureWays (l : Launch) (D : va_G) (k : Nat → ClassId) (ad : Nat → Nat) (V : St) {n : Nat} (hn : V 0 0 = nI n) (hn24 : n ≤ 24) {v : Nat} (hv : v < 24) {u : Nat} (hu : u < 24) : CtX noX l yX2_measureWays cX2_measureWays 4 (some .int) rmX2_measureWays D (tyL k) (wR k ad V) [.ref (ad 0), .int (nI v), .int (nI u)] (qI D (wR k ad) (fun r U => r = nI (dsS n (V 5) v u) ∧ Fr [9] V U ∧ ∀ j, j ≤ dsS n (V 5) v u → U 9 j = awS n (V 5) u j)) := by
  refine CtX.mk (by decide) (Nat.le_of_ble_eq_true rfl) ?_
  intro p e s m below meth c hx hb hml hown hg hr hlocks hK hN A hA hX hh ls hl
  have hh : Hd D A (wR k ad V) s.heap s.heap [] := hh
  have hl : lv_has ls 4 [(0, .ref (ad 0)), (1, .int (nI v)), (2, .int (nI u))] := hl
  refine lv_aload_n hx hb dX2_measureWays_0 rfl (lv_at hl 0 rfl) ?_
  refine gfl hx hb hg inX2 hown hK hh.1 0 (ci := 2) rfl rfl 9 (by decide) wd_128 rfl dX2_measureWays_1 ?_
  refine lv_iconst (v := 0) hx hb dX2_measureWays_4 (by decide) ?_
  refine lv_iconst (v := 1) hx hb dX2_measureWays_5 (by decide) ?_
  refine lv_iload_n hx hb dX2_measureWays_6 rfl (lv_at hl 2 rfl) ?_
  refine lv_ishl hx hb dX2_measureWays_7 ?_
  refine topv (bitI u) rfl ?_
  refine stn (j := 0) hx hb hK hh 9 0 rfl rfl (by omega) (by decide) dX2_measureWays_8 (wR k ad (va_up V 9 (upd (V 9) 0 (bitI u)))) rfl (fun H locs hh => ?_)
  refine lv_iconst (v := 0) hx hb dX2_measureWays_9 (by decide) ?_
  refine lv_istore_n (lv' := [(3, .int 0), (0, .ref (ad 0)), (1, .int (nI v)), (2, .int (nI u))]) hx hb dX2_measureWays_10 rfl hl (by decide) rfl (fun ls hl => ?_)
  refine loopW (σ := Nat × St) (fun zz9 H locs ls => match zz9 with | (d, U) => Hd D A (wR k ad U) s.heap H locs ∧ lv_has ls 4 [(0, .ref (ad 0)), (1, .int (nI v)), (2, .int (nI u)), (3, .int (nI d))] ∧ (d ≤ 23) ∧ (Fr [9] V U) ∧ (∀ j, j ≤ d → U 9 j = awS n (V 5) u j) ∧ (firstB (fun d => bt (awS n (V 5) u d) v) (23 - d) d = dsS n (V 5) v u)) (fun zz9 => match zz9 with | (d, U) => 23 - d) ?_ (0, va_up V 9 (upd (V 9) 0 (bitI u))) ⟨hh, (lv_sub hl [1, 2, 3, 0] rfl), (by omega), (Fr.rf.up (by decide)), (fun j hj => by obtain rfl : j = 0 := (by omega); rw [up_s, upd_s]; rfl), rfl⟩
  intro zz9 H locs ls hI ih
  obtain ⟨d, U⟩ := zz9
  obtain ⟨hh, hl, hd, hf, hA2, he⟩ := hI
  have hnU : U 0 0 = nI n := (hf.at 0 (by decide) 0).trans hn
  refine lv_aload_n hx hb dX2_measureWays_11 rfl (lv_at hl 0 rfl) ?_
  refine gfl hx hb hg inX2 hown hK hh.1 0 (ci := 2) rfl rfl 9 (by decide) wd_128 rfl dX2_measureWays_12 ?_
  refine lv_iload_n hx hb dX2_measureWays_15 rfl (lv_at hl 3 rfl) ?_
  refine ldn hx hb hK hh.1 9 0 rfl rfl (by omega) (by decide) dX2_measureWays_16 ?_
  refine lv_iload_n hx hb dX2_measureWays_17 rfl (lv_at hl 1 rfl) ?_
  refine callR (runSN hx hb hg hown hml hl.1 hN (c_X3_holds l D k (U 9 d) (q := v) (by omega)) [.int ((U 9) d), .int (nI v)] [] (preR (mapSome_sub hh.1 [] rfl) hK hN xb0 x0) 323 nst_323 wd_324 wd_49 wd_325 lk_X3_holds ⟨rfl, rfl⟩ ⟨by decide, by decide⟩ ⟨Nat.zero_le _, Nat.zero_le _⟩ rfl (Nat.le_of_ble_eq_true rfl) dX2_measureWays_18) (fun r_18 q_18 => ?_)
  obtain rfl := q_18
  rw [hA2 d (Nat.le_refl d)]
  refine lv_if_ne (tgt := 54) hx hb dX2_measureWays_21 (by decide) (fun c_21 => ?_) (fun c_21 => ?_)
  · have c_21 := zI_ne c_21
    refine lv_iload_n hx hb dX2_measureWays_54 rfl (lv_at hl 3 rfl) ?_
    exact retI (Wd := wR k ad) (v := nI d) (U) hx hb hr hlocks dX2_measureWays_55 hh (by have e9 : d = dsS n (V 5) v u := (by rw [← he]; first | (rw [show 23 - d = 0 by omega]; rfl) | rw [firstB_t (f := (fun d => bt (awS n (V 5) u d) v)) (i := d) c_21]); exact ⟨by rw [← e9], hf, fun j hj => hA2 j (by omega)⟩)
  · have c_21 := zI_0.mp c_21
    refine lv_iload_n hx hb dX2_measureWays_24 rfl (lv_at hl 3 rfl) ?_
    refine lv_bipush (v := 23) hx hb dX2_measureWays_25 (by decide) ?_
    refine lv_icmp_ge (tgt := 54) hx hb dX2_measureWays_27 (by decide) (fun c_27 => ?_) (fun c_27 => ?_)
    · have c_27 : 23 ≤ d := (nI_leI (a := 23) (b := d) (by omega) (by omega)).mp c_27
      refine lv_iload_n hx hb dX2_measureWays_54 rfl (lv_at hl 3 rfl) ?_
      exact retI (Wd := wR k ad) (v := nI d) (U) hx hb hr hlocks dX2_measureWays_55 hh (by have e9 : d = dsS n (V 5) v u := (by rw [← he]; first | (rw [show 23 - d = 0 by omega]; rfl) | rw [firstB_t (f := (fun d => bt (awS n (V 5) u d) v)) (i := d) c_21]); exact ⟨by rw [← e9], hf, fun j hj => hA2 j (by omega)⟩)
    · have c_27 : ¬ 23 ≤ d := fun z => c_27 ((nI_leI (a := 23) (b := d) (by omega) (by omega)).mpr z)
      refine lv_iinc (v := nI (d + 1)) (lv' := [(3, .int (nI (d + 1))), (0, .ref (ad 0)), (1, .int (nI v)), (2, .int (nI u))]) hx hb dX2_measureWays_30 hl (k := 3) rfl (nI_succ d).symm (by decide) rfl (fun ls hl => ?_)
      refine lv_aload_n hx hb dX2_measureWays_33 rfl (lv_at hl 1 rfl) ?_
      refine gfl hx hb hg inX2 hown hK hh.1 0 (ci := 2) rfl rfl 9 (by decide) wd_128 rfl dX2_measureWays_34 ?_
      refine lv_iload_n hx hb dX2_measureWays_37 rfl (lv_at hl 0 rfl) ?_
      refine lv_aload_n hx hb dX2_measureWays_38 rfl (lv_at hl 1 rfl) ?_
      refine lv_aload_n hx hb dX2_measureWays_39 rfl (lv_at hl 1 rfl) ?_
      refine gfl hx hb hg inX2 hown hK hh.1 0 (ci := 2) rfl rfl 9 (by decide) wd_128 rfl dX2_measureWays_40 ?_
      refine lv_iload_n hx hb dX2_measureWays_43 rfl (lv_at hl 0 rfl) ?_
      refine lv_iconst (v := 1) hx hb dX2_measureWays_44 (by decide) ?_
      refine lv_isub hx hb dX2_measureWays_45 ?_
      refine topv (nI (d + 1 - 1)) (pk_sub (a := d + 1) (b := 1) (by omega)) ?_
      refine topv (nI d) rfl ?_
      refine ldn hx hb hK hh.1 9 0 rfl rfl (by omega) (by decide) dX2_measureWays_46 ?_
      refine callR (runV hx hb hg hown hml hl.1 (c_X2_allThatHangOn l D k ad U hnU hn24 (U 9 d)) [.int ((U 9) d)] [.int (nI (d + 1)), .ref (ad 9)] (preR (mapSome_sub hh.1 [0, 1, 2, 3, 4, 5, 6, 7, 8, 9, 10, 11, 12, 13, 14] rfl) hK hN xb0 x0) (va_recv hK hh.1 (ci := 2) (q0 := 0) rfl rfl) wd_495 wd_497 wd_20 wd_51 wd_498 lk_X2_allThatHangOn ⟨rfl, rfl⟩ ⟨by decide, by decide⟩ ⟨Nat.zero_le _, Nat.zero_le _⟩ rfl (Nat.le_of_ble_eq_true rfl) dX2_measureWays_47) (fun r_47 q_47 => ?_)
      obtain rfl := q_47
      refine stn (j := (d + 1)) hx hb hK hh 9 0 rfl rfl (by omega) (by decide) dX2_measureWays_50 (wR k ad (va_up U 9 (upd (U 9) (d + 1) (mkM n (fun v => decide (¬ U 5 v &&& U 9 d = 0)))))) rfl (fun H locs hh => ?_)
      refine lv_goto (tgt := 11) hx hb dX2_measureWays_51 (by decide) ?_
      exact ih (d + 1, va_up U 9 (upd (U 9) (d + 1) (mkM n (fun v => decide (¬ U 5 v &&& U 9 d = 0))))) _ _ _ ⟨hh, (lv_sub hl [1, 2, 3, 0] rfl), (by omega), (hf.up (by decide)), (fun j hj => by rcases Classical.em (j = d + 1) with e | e; (subst e; rw [up_s, upd_s, hf 5 (by decide), hA2 d (Nat.le_refl d)]; rfl); (rw [up_s, upd_n e]; exact hA2 j (by omega))), (by rw [← he, firstB_f (f := (fun d => bt (awS n (V 5) u d) v)) (i := d) c_21 (by omega), Nat.sub_sub])⟩ (by dsimp only; omega)
abbrev rmX2_shortestWay : Room := { frames := 2, cells := 0, slots := 0, locals := 46 }
theorem lk_X2_shortestWay : Lk yX2_shortestWay 3 := by decide +kernel
set_option maxHeartbeats 4000000 in
set_option maxRecDepth 100000 in
/-- shortestWay(v, u, places) -/
theorem c_X2_shortestWay (l : Launch) (D : va_G) (k : Nat → ClassId) (ad : Nat → Nat) (V : St) {n : Nat} (hn : V 0 0 = nI n) (hn24 : n ≤ 24) {v : Nat} (hv : v < 24) {u : Nat} (hu : u < 24) (wd : Nat) (f : Nat → Int32) : CtX noX l yX2_shortestWay cX2_shortestWay 7 (some .int) rmX2_shortestWay D (tyL k) ((wR k ad V) ++ ([(wd, aI k 24 f)])) [.ref (ad 0), .int (nI v), .int (nI u), .ref wd] (qI D (fun z : St × (Nat → Int32) => (wR k ad z.1) ++ ([(wd, aI k 24 z.2)])) (fun r z => r = nI (dsS n (V 5) v u + 1) ∧ Fr [9] V z.1 ∧ ∀ j, j ≤ dsS n (V 5) v u → z.2 j = nI (wyS n (V 5) v u j))) := by
  refine CtX.mk (by decide) (Nat.le_of_ble_eq_true rfl) ?_
  intro p e s m below meth c hx hb hml hown hg hr hlocks hK hN A hA hX hh ls hl
  have hh : Hd D A ((wR k ad V) ++ ([(wd, aI k 24 f)])) s.heap s.heap [] := hh
  have hl : lv_has ls 7 [(0, .ref (ad 0)), (1, .int (nI v)), (2, .int (nI u)), (3, .ref wd)] := hl
  have hds := dsS_le n (V 5) v u
  refine lv_aload_n hx hb dX2_shortestWay_0 rfl (lv_at hl 0 rfl) ?_
  refine lv_iload_n hx hb dX2_shortestWay_1 rfl (lv_at hl 1 rfl) ?_
  refine lv_iload_n hx hb dX2_shortestWay_2 rfl (lv_at hl 2 rfl) ?_
  refine callWI (D := D) (wn := fun V1 => (wR k ad V1) ++ ([(wd, aI k 24 f)])) (wr := [(wd, aI k 24 f)]) (runV hx hb hg hown hml hl.1 ((c_X2_measureWays l D k ad V hn hn24 hv hu) s.heap.size) [.int (nI v), .int (nI u)] [] (preX (mapSome_sub hh.1 [0, 1, 2, 3, 4, 5, 6, 7, 8, 9, 10, 11, 12, 13, 14] rfl) (hh.2.1.sub [0, 1, 2, 3, 4, 5, 6, 7, 8, 9, 10, 11, 12, 13, 14] (by decide) rfl) hK hN xb0 x0) (va_recv hK hh.1 (ci := 2) (q0 := 0) rfl rfl) wd_491 wd_493 wd_19 wd_51 wd_494 lk_X2_measureWays ⟨rfl, rfl⟩ ⟨by decide, by decide⟩ ⟨Nat.zero_le _, Nat.zero_le _⟩ rfl (Nat.le_of_ble_eq_true rfl) dX2_shortestWay_3) hA hh [0, 1, 2, 3, 4, 5, 6, 7, 8, 9, 10, 11, 12, 13, 14] [15] [1, 2, 3, 4, 5, 6, 7, 8, 9, 10, 11, 12, 13, 14, 15, 0] rfl rfl (by decide) (by decide) (by decide) (fun _ => rfl) (fun r_3 V1 H locs q_3 hh => ?_)
  obtain ⟨rfl, f1, M1⟩ := q_3
  refine lv_istore (lv' := [(4, .int (nI (dsS n (V 5) v u))), (0, .ref (ad 0)), (1, .int (nI v)), (2, .int (nI u)), (3, .ref wd)]) hx hb dX2_shortestWay_6 hl (by decide) rfl (fun ls hl => ?_)
  refine lv_iload_n hx hb dX2_shortestWay_8 rfl (lv_at hl 2 rfl) ?_
  refine lv_istore (lv' := [(5, .int (nI v)), (4, .int (nI (dsS n (V 5) v u))), (0, .ref (ad 0)), (1, .int (nI v)), (2, .int (nI u)), (3, .ref wd)]) hx hb dX2_shortestWay_9 hl (by decide) rfl (fun ls hl => ?_)
  refine lv_aload_n hx hb dX2_shortestWay_11 rfl (lv_at hl 5 rfl) ?_
  refine lv_iconst (v := 0) hx hb dX2_shortestWay_12 (by decide) ?_
  refine lv_iload_n hx hb dX2_shortestWay_13 rfl (lv_at hl 3 rfl) ?_
  refine stn (j := 0) hx hb hK hh 15 0 rfl rfl (by omega) (by decide) dX2_shortestWay_14 ((wR k ad V1) ++ ([(wd, aI k 24 (upd f 0 (nI v)))])) rfl (fun H locs hh => ?_)
  refine lv_iconst (v := 1) hx hb dX2_shortestWay_15 (by decide) ?_
  refine lv_istore (lv' := [(6, .int 1), (5, .int (nI v)), (4, .int (nI (dsS n (V 5) v u))), (0, .ref (ad 0)), (1, .int (nI v)), (2, .int (nI u)), (3, .ref wd)]) hx hb dX2_shortestWay_16 hl (by decide) rfl (fun ls hl => ?_)
  refine loopW (σ := Nat × Nat × (Nat → Int32)) (fun zz9 H locs ls => match zz9 with | (t, at1, g1) => Hd D A ((wR k ad V1) ++ ([(wd, aI k 24 g1)])) s.heap H locs ∧ lv_has ls 7 [(0, .ref (ad 0)), (1, .int (nI v)), (2, .int (nI u)), (3, .ref wd), (4, .int (nI (dsS n (V 5) v u))), (5, .int (nI at1)), (6, .int (nI t))] ∧ (1 ≤ t) ∧ (t ≤ dsS n (V 5) v u + 1) ∧ (at1 = wyS n (V 5) v u (t - 1)) ∧ (at1 < 24) ∧ (∀ j, j < t → g1 j = nI (wyS n (V 5) v u j))) (fun zz9 => match zz9 with | (t, at1, g1) => dsS n (V 5) v u + 1 - t) ?_ (1, v, upd f 0 (nI v)) ⟨hh, (lv_sub hl [3, 4, 5, 6, 2, 1, 0] rfl), (by omega), (by omega), rfl, hv, (fun j hj => by obtain rfl : j = 0 := (by omega); rw [upd_s]; rfl)⟩
  intro zz9 H locs ls hI ih
  obtain ⟨t, at1, g1⟩ := zz9
  obtain ⟨hh, hl, h1, ht, hat, h24, hA2⟩ := hI
  refine lv_iload hx hb dX2_shortestWay_18 (lv_at hl 6 rfl) ?_
  refine lv_iload hx hb dX2_shortestWay_20 (lv_at hl 4 rfl) ?_
  refine lv_icmp_gt (tgt := 60) hx hb dX2_shortestWay_22 (by decide) (fun c_22 => ?_) (fun c_22 => ?_)
  · have c_22 : dsS n (V 5) v u < t := (nI_ltI (a := dsS n (V 5) v u) (b := t) (by omega) (by omega)).mp c_22
    refine lv_iload hx hb dX2_shortestWay_60 (lv_at hl 4 rfl) ?_
    refine lv_iconst (v := 1) hx hb dX2_shortestWay_62 (by decide) ?_
    refine lv_iadd hx hb dX2_shortestWay_63 ?_
    refine topv (nI (dsS n (V 5) v u + 1)) (nI_add (dsS n (V 5) v u) 1) ?_
    exact retI (Wd := fun z : St × (Nat → Int32) => (wR k ad z.1) ++ ([(wd, aI k 24 z.2)])) (v := nI (dsS n (V 5) v u + 1)) (V1, g1) hx hb hr hlocks dX2_shortestWay_64 hh (⟨rfl, f1, fun j hj => hA2 j (by omega)⟩)
  · have c_22 : ¬ dsS n (V 5) v u < t := fun z => c_22 ((nI_ltI (a := dsS n (V 5) v u) (b := t) (by omega) (by omega)).mpr z)
    refine lv_aload_n hx hb dX2_shortestWay_25 rfl (lv_at hl 0 rfl) ?_
    refine gfl hx hb hg inX2 hown hK hh.1 0 (ci := 2) rfl rfl 5 (by decide) wd_124 rfl dX2_shortestWay_26 ?_
    refine lv_iload hx hb dX2_shortestWay_29 (lv_at hl 5 rfl) ?_
    refine ldn hx hb hK hh.1 5 0 rfl rfl (by omega) (by decide) dX2_shortestWay_31 ?_
    refine lv_aload_n hx hb dX2_shortestWay_32 rfl (lv_at hl 0 rfl) ?_
    refine gfl hx hb hg inX2 hown hK hh.1 0 (ci := 2) rfl rfl 9 (by decide) wd_128 rfl dX2_shortestWay_33 ?_
    refine lv_iload hx hb dX2_shortestWay_36 (lv_at hl 4 rfl) ?_
    refine lv_iload hx hb dX2_shortestWay_38 (lv_at hl 6 rfl) ?_
    refine lv_isub hx hb dX2_shortestWay_40 ?_
    refine topv (nI (dsS n (V 5) v u - t)) (pk_sub (a := dsS n (V 5) v u) (b := t) (by omega)) ?_
    refine ldn hx hb hK hh.1 9 0 rfl rfl (by omega) (by decide) dX2_shortestWay_41 ?_
    refine lv_iand hx hb dX2_shortestWay_42 ?_
    refine callR (runS hx hb hg hown hml hl.1 (c_X2_leastOf l D k (((V1 5) at1) &&& ((V1 9) (dsS n (V 5) v u - t)))) [.int (((V1 5) at1) &&& ((V1 9) (dsS n (V 5) v u - t)))] [] (preR (mapSome_sub hh.1 [] rfl) hK hN xb0 x0) wd_499 wd_500 wd_51 wd_501 lk_X2_leastOf ⟨rfl, rfl⟩ ⟨by decide, by decide⟩ ⟨Nat.zero_le _, Nat.zero_le _⟩ rfl (Nat.le_of_ble_eq_true rfl) dX2_shortestWay_43) (fun r_43 q_43 => ?_)
    obtain rfl := q_43
    refine lv_istore (lv' := [(5, .int (nI (firstB (bt (((V1 5) at1) &&& ((V1 9) (dsS n (V 5) v u - t)))) 23 0))), (0, .ref (ad 0)), (1, .int (nI v)), (2, .int (nI u)), (3, .ref wd), (4, .int (nI (dsS n (V 5) v u))), (6, .int (nI t))]) hx hb dX2_shortestWay_46 hl (by decide) rfl (fun ls hl => ?_)
    refine lv_aload_n hx hb dX2_shortestWay_48 rfl (lv_at hl 4 rfl) ?_
    refine lv_iload hx hb dX2_shortestWay_49 (lv_at hl 6 rfl) ?_
    refine lv_iload hx hb dX2_shortestWay_51 (lv_at hl 0 rfl) ?_
    refine stn (j := t) hx hb hK hh 15 0 rfl rfl (by omega) (by decide) dX2_shortestWay_53 ((wR k ad V1) ++ ([(wd, aI k 24 (upd g1 t (nI (firstB (bt (((V1 5) at1) &&& ((V1 9) (dsS n (V 5) v u - t)))) 23 0))))])) rfl (fun H locs hh => ?_)
    refine lv_iinc (v := nI (t + 1)) (lv' := [(6, .int (nI (t + 1))), (5, .int (nI (firstB (bt (((V1 5) at1) &&& ((V1 9) (dsS n (V 5) v u - t)))) 23 0))), (0, .ref (ad 0)), (1, .int (nI v)), (2, .int (nI u)), (3, .ref wd), (4, .int (nI (dsS n (V 5) v u)))]) hx hb dX2_shortestWay_54 hl (k := 6) rfl (nI_succ t).symm (by decide) rfl (fun ls hl => ?_)
    refine lv_goto (tgt := 18) hx hb dX2_shortestWay_57 (by decide) ?_
    have eW : firstB (bt (((V1 5) at1) &&& ((V1 9) (dsS n (V 5) v u - t)))) 23 0 = wyS n (V 5) v u t := by
      rw [f1 5 (by decide), M1 _ (by omega), hat]
      obtain ⟨t1, rfl⟩ : ∃ t1, t = t1 + 1 := ⟨t - 1, by omega⟩
      rfl
    rw [eW] at hl hh
    exact ih (t + 1, wyS n (V 5) v u t, upd g1 t (nI (wyS n (V 5) v u t))) _ _ _ ⟨hh, (lv_sub hl [2, 3, 4, 5, 6, 1, 0] rfl), (by omega), (by omega), (by rw [Nat.add_sub_cancel]), (wyS_lt hv t), (fun j hj => by rcases Classical.em (j = t) with e | e; (subst e; rw [upd_s]); (rw [upd_n e]; exact hA2 j (by omega)))⟩ (by dsimp only; omega)
