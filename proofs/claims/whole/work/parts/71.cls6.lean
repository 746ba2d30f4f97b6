/-! the class SliceWhy: withoutNeedless, least -/
theorem ag_Is {P : St} {Is Is' : Nat → Nat → Int32} {t : Nat} (h : ∀ j, j < t → Is j = Is' j) : agB P Is t = agB P Is' t := by
  funext y w n
  unfold agB
  refine decide_eq_decide.mpr ⟨fun h1 j hj => ?_, fun h1 j hj => ?_⟩
  · rw [← h j hj]; exact h1 j hj
  · rw [h j hj]; exact h1 j hj
theorem hld.is {P : St} {Is Is' : Nat → Nat → Int32} {w n j : Nat} {V : St} (h : hld P Is w n V j) (e : Is j = Is' j) : hld P Is' w n V j := by
  unfold hld at h ⊢; rw [← e]; exact h
theorem itr_0 {f : Int32 → Int32} {x : Int32} : x = itr f 0 x := rfl
abbrev rmX3_withoutNeedless : Room := { frames := 5, cells := 0, slots := 0, locals := 122 }
theorem lk_X3_withoutNeedless : Lk yX3_withoutNeedless 2 := by decide +kernel
set_option maxHeartbeats 4000000 in
set_option maxRecDepth 100000 in
/-- withoutNeedless(set, p) -/
theorem c_X3_withoutNeedless (l : Launch) (D : va_G) (k : Nat → ClassId) (ad : Nat → Nat) (V : St) {n : Nat} (hv : okV n (pj V)) {t : Nat} (h5 : V 0 5 = nI t) (ht : t ≤ 3) (x : Int32) {q : Nat} (hq : q < n) (hT : ∀ j, j < t → hld (pj V) (fun i => V (5 + i)) q n V j) : CtX noX l yX3_withoutNeedless cX3_withoutNeedless 5 (some .int) rmX3_withoutNeedless D (tyL k) (wS k ad V) [.ref (ad 0), .int x, .int (nI q)] (qI D (wS k ad) (fun r U => r = psF (fun y => agB (pj V) (fun i => V (5 + i)) t y q n) q n x ∧ FrX [55, 56, 57, 58, 59, 60] [] V U)) := by
  refine CtX.mk (by decide) (Nat.le_of_ble_eq_true rfl) ?_
  intro p e s m below meth c hx hb hml hown hg hr hlocks hK hN A hA hX hh ls hl
  have hh : Hd D A (wS k ad V) s.heap s.heap [] := hh
  have hl : lv_has ls 5 [(0, .ref (ad 0)), (1, .int x), (2, .int (nI q))] := hl
  have hn24 := hv.1
  refine lv_iload_n hx hb dX3_withoutNeedless_0 rfl (lv_at hl 1 rfl) ?_
  refine lv_istore_n (lv' := [(3, .int x), (0, .ref (ad 0)), (1, .int x), (2, .int (nI q))]) hx hb dX3_withoutNeedless_1 rfl hl (by decide) rfl (fun ls hl => ?_)
  refine lv_aload_n hx hb dX3_withoutNeedless_2 rfl (lv_at hl 1 rfl) ?_
  refine gfl hx hb hg inX3 hown hK hh.1 0 (ci := 3) rfl rfl 0 (by decide) wd_191 rfl dX3_withoutNeedless_3 ?_
  refine gflN hx hb hg hN inX1 hown hK hh.1 8 (ci := 1) rfl rfl 7 (by decide) 89 nst_89 rfl dX3_withoutNeedless_6 ?_
  refine topv (nI n) hv.2.1 ?_
  refine lv_iconst (v := 1) hx hb dX3_withoutNeedless_9 (by decide) ?_
  refine lv_isub hx hb dX3_withoutNeedless_10 ?_
  refine lv_istore (lv' := [(4, .int ((nI n) - 1)), (3, .int x), (0, .ref (ad 0)), (1, .int x), (2, .int (nI q))]) hx hb dX3_withoutNeedless_11 hl (by decide) rfl (fun ls hl => ?_)
  refine loopW (σ := Nat × Int32 × St) (fun zz9 H locs ls => match zz9 with | (i, x2, U) => Hd D A (wS k ad U) s.heap H locs ∧ lv_has ls 5 [(0, .ref (ad 0)), (1, .int x), (2, .int (nI q)), (3, .int x2), (4, .int ((nI i) - 1))] ∧ (i ≤ n) ∧ (psF (fun y => agB (pj V) (fun i => V (5 + i)) t y q n) q i x2 = psF (fun y => agB (pj V) (fun i => V (5 + i)) t y q n) q n x) ∧ (FrX [55, 56, 57, 58, 59, 60] [] V U)) (fun zz9 => match zz9 with | (i, x2, U) => i) ?_ (n, x, V) ⟨hh, (lv_sub hl [2, 3, 4, 1, 0] rfl), (by omega), rfl, FrX.rf⟩
  intro zz9 H locs ls hI ih
  obtain ⟨i, x2, U⟩ := zz9
  obtain ⟨hh, hl, hi, hps, fw⟩ := hI
  have pU : pj U = pj V := fw.pj (by intro i hi; simp; omega)
  have hvU : okV n (pj U) := by rw [pU]; exact hv
  have hU5 : U 0 5 = nI t := (fw.2 5 (by simp)).trans h5
  have eIs : agB (pj V) (fun i => U (5 + i)) t = agB (pj V) (fun i => V (5 + i)) t := ag_Is (fun j hj => fw.1 (5 + j) (by simp; omega))
  have hTU : ∀ j, j < t → hld (pj U) (fun i => U (5 + i)) q n U j := fun j hj => by rw [pU]; exact ((hT j hj).x (U := U) (fw.1 _ (by simp; omega)) (fw.1 _ (by simp; omega))).is (fw.1 (5 + j) (by simp; omega)).symm
  refine lv_iload hx hb dX3_withoutNeedless_13 (lv_at hl 4 rfl) ?_
  refine lv_if_lt (tgt := 64) hx hb dX3_withoutNeedless_15 (by decide) (fun c_15 => ?_) (fun c_15 => ?_)
  · have hi0 := m1_neg c_15 (by omega)
    refine lv_iload_n hx hb dX3_withoutNeedless_64 rfl (lv_at hl 3 rfl) ?_
    exact retI (Wd := wS k ad) (v := x2) (U) hx hb hr hlocks dX3_withoutNeedless_65 hh (⟨by rw [← hps, hi0]; rfl, fw⟩)
  · have hi0 : ¬ i = 0 := fun z => c_15 (by rw [z]; decide)
    obtain ⟨i1, hi1⟩ : ∃ z, i = z + 1 := ⟨i - 1, by omega⟩
    have e1 : (nI i) - 1 = nI i1 := by rw [hi1]; exact pk_sub (a := i1 + 1) (b := 1) (by omega)
    refine lv_iload hx hb dX3_withoutNeedless_18 (lv_at hl 4 rfl) ?_
    refine topv (nI i1) e1 ?_
    refine lv_iload_n hx hb dX3_withoutNeedless_20 rfl (lv_at hl 2 rfl) ?_
    refine lv_icmp_eq (tgt := 58) hx hb dX3_withoutNeedless_21 (by decide) (fun c_21 => ?_) (fun c_21 => ?_)
    · have c_21 : i1 = q := (nI_eq (a := i1) (b := q) (by omega) (by omega)).mp c_21
      refine lv_iinc (v := (nI i1) - 1) (lv' := [(4, .int ((nI i1) - 1)), (0, .ref (ad 0)), (1, .int x), (2, .int (nI q)), (3, .int x2)]) hx hb dX3_withoutNeedless_58 hl (k := 4) rfl (by rw [e1, show (Int32.ofInt (-1)) = -1 from rfl, i_m1]) (by decide) rfl (fun ls hl => ?_)
      refine lv_goto (tgt := 13) hx hb dX3_withoutNeedless_61 (by decide) ?_
      exact ih (i1, x2, U) _ _ _ ⟨hh, (lv_sub hl [1, 2, 3, 4, 0] rfl), (by omega), (by rw [← hps, hi1, ps_no (fun z => z.1 c_21)]), fw⟩ (by dsimp only; omega)
    · have c_21 : ¬ i1 = q := fun z => c_21 ((nI_eq (a := i1) (b := q) (by omega) (by omega)).mpr z)
      refine lv_iload_n hx hb dX3_withoutNeedless_24 rfl (lv_at hl 3 rfl) ?_
      refine lv_iload hx hb dX3_withoutNeedless_25 (lv_at hl 4 rfl) ?_
      refine topv (nI i1) e1 ?_
      refine callR (runS hx hb hg hown hml hl.1 (c_X3_holds l D k (x2) (q := i1) (by omega)) [.int x2, .int (nI i1)] [] (preR (mapSome_sub hh.1 [] rfl) hK hN xb0 x0) wd_486 wd_324 wd_49 wd_325 lk_X3_holds ⟨rfl, rfl⟩ ⟨by decide, by decide⟩ ⟨Nat.zero_le _, Nat.zero_le _⟩ rfl (Nat.le_of_ble_eq_true rfl) dX3_withoutNeedless_27) (fun r_27 q_27 => ?_)
      obtain rfl := q_27
      refine lv_if_eq (tgt := 58) hx hb dX3_withoutNeedless_30 (by decide) (fun c_30 => ?_) (fun c_30 => ?_)
      · have c_30 := zI_0.mp c_30
        refine lv_iinc (v := (nI i1) - 1) (lv' := [(4, .int ((nI i1) - 1)), (0, .ref (ad 0)), (1, .int x), (2, .int (nI q)), (3, .int x2)]) hx hb dX3_withoutNeedless_58 hl (k := 4) rfl (by rw [e1, show (Int32.ofInt (-1)) = -1 from rfl, i_m1]) (by decide) rfl (fun ls hl => ?_)
        refine lv_goto (tgt := 13) hx hb dX3_withoutNeedless_61 (by decide) ?_
        exact ih (i1, x2, U) _ _ _ ⟨hh, (lv_sub hl [1, 2, 3, 4, 0] rfl), (by omega), (by rw [← hps, hi1, ps_no (fun z => absurd z.2.1 (by rw [c_30]; decide))]), fw⟩ (by dsimp only; omega)
      · have c_30 := zI_ne c_30
        refine lv_aload_n hx hb dX3_withoutNeedless_33 rfl (lv_at hl 0 rfl) ?_
        refine lv_iload_n hx hb dX3_withoutNeedless_34 rfl (lv_at hl 3 rfl) ?_
        refine lv_iconst (v := 1) hx hb dX3_withoutNeedless_35 (by decide) ?_
        refine lv_iload hx hb dX3_withoutNeedless_36 (lv_at hl 4 rfl) ?_
        refine topv (nI i1) e1 ?_
        refine lv_ishl hx hb dX3_withoutNeedless_38 ?_
        refine topv (bitI i1) rfl ?_
        refine lv_iconst (v := (-1)) hx hb dX3_withoutNeedless_39 (by decide) ?_
        refine lv_ixor hx hb dX3_withoutNeedless_40 ?_
        refine lv_iand hx hb dX3_withoutNeedless_41 ?_
        refine topv (clr x2 i1) rfl ?_
        refine lv_iload_n hx hb dX3_withoutNeedless_42 rfl (lv_at hl 2 rfl) ?_
        refine callWI (D := D) (wn := fun U2 => wS k ad U2) (wr := []) (runV hx hb hg hown hml hl.1 ((c_X3_testsAgree l D k ad U hvU hU5 ht (clr x2 i1) (q := q) hq hTU) H.size) [.int (clr x2 i1), .int (nI q)] [] (preX (mapSome_sub hh.1 [0, 1, 2, 3, 4, 5, 6, 7, 8, 9, 10, 11, 12, 13, 14, 15, 16, 17, 18, 19, 20, 21, 22, 23, 24, 25, 26, 27, 28, 29, 30, 31, 32, 33, 34, 35, 36, 37, 38, 39, 40, 41, 42, 43, 44, 45, 46, 47, 48, 49, 50, 51, 52, 53, 54, 55, 56, 57, 58, 59, 60] rfl) (hh.2.1.sub [0, 1, 2, 3, 4, 5, 6, 7, 8, 9, 10, 11, 12, 13, 14, 15, 16, 17, 18, 19, 20, 21, 22, 23, 24, 25, 26, 27, 28, 29, 30, 31, 32, 33, 34, 35, 36, 37, 38, 39, 40, 41, 42, 43, 44, 45, 46, 47, 48, 49, 50, 51, 52, 53, 54, 55, 56, 57, 58, 59, 60] (by decide) rfl) hK hN xb0 x0) (va_recv hK hh.1 (ci := 3) (q0 := 0) rfl rfl) wd_537 wd_539 wd_23 wd_49 wd_540 lk_X3_testsAgree ⟨rfl, rfl⟩ ⟨by decide, by decide⟩ ⟨Nat.zero_le _, Nat.zero_le _⟩ rfl (Nat.le_of_ble_eq_true rfl) dX3_withoutNeedless_43) hA hh [0, 1, 2, 3, 4, 5, 6, 7, 8, 9, 10, 11, 12, 13, 14, 15, 16, 17, 18, 19, 20, 21, 22, 23, 24, 25, 26, 27, 28, 29, 30, 31, 32, 33, 34, 35, 36, 37, 38, 39, 40, 41, 42, 43, 44, 45, 46, 47, 48, 49, 50, 51, 52, 53, 54, 55, 56, 57, 58, 59, 60] [] [0, 1, 2, 3, 4, 5, 6, 7, 8, 9, 10, 11, 12, 13, 14, 15, 16, 17, 18, 19, 20, 21, 22, 23, 24, 25, 26, 27, 28, 29, 30, 31, 32, 33, 34, 35, 36, 37, 38, 39, 40, 41, 42, 43, 44, 45, 46, 47, 48, 49, 50, 51, 52, 53, 54, 55, 56, 57, 58, 59, 60] rfl rfl (by decide) (by decide) (by decide) (fun _ => rfl) (fun r_43 U2 H locs q_43 hh => ?_)
        obtain ⟨rfl, f2⟩ := q_43
        have fw2 := fw.trans f2
        refine topv (zI (agB (pj V) (fun i => V (5 + i)) t (clr x2 i1) q n)) (by rw [pU, eIs]) ?_
        refine lv_if_eq (tgt := 58) hx hb dX3_withoutNeedless_46 (by decide) (fun c_46 => ?_) (fun c_46 => ?_)
        · have c_46 := zI_0.mp c_46
          refine lv_iinc (v := (nI i1) - 1) (lv' := [(4, .int ((nI i1) - 1)), (0, .ref (ad 0)), (1, .int x), (2, .int (nI q)), (3, .int x2)]) hx hb dX3_withoutNeedless_58 hl (k := 4) rfl (by rw [e1, show (Int32.ofInt (-1)) = -1 from rfl, i_m1]) (by decide) rfl (fun ls hl => ?_)
          refine lv_goto (tgt := 13) hx hb dX3_withoutNeedless_61 (by decide) ?_
          exact ih (i1, x2, U2) _ _ _ ⟨hh, (lv_sub hl [1, 2, 3, 4, 0] rfl), (by omega), (by rw [← hps, hi1, ps_no (fun z => absurd z.2.2 (by show ¬ agB (pj V) (fun i => V (5 + i)) t (clr x2 i1) q n = true; rw [c_46]; decide))]), fw2⟩ (by dsimp only; omega)
        · have c_46 := zI_ne c_46
          refine lv_iload_n hx hb dX3_withoutNeedless_49 rfl (lv_at hl 3 rfl) ?_
          refine lv_iconst (v := 1) hx hb dX3_withoutNeedless_50 (by decide) ?_
          refine lv_iload hx hb dX3_withoutNeedless_51 (lv_at hl 4 rfl) ?_
          refine topv (nI i1) e1 ?_
          refine lv_ishl hx hb dX3_withoutNeedless_53 ?_
          refine topv (bitI i1) rfl ?_
          refine lv_iconst (v := (-1)) hx hb dX3_withoutNeedless_54 (by decide) ?_
          refine lv_ixor hx hb dX3_withoutNeedless_55 ?_
          refine lv_iand hx hb dX3_withoutNeedless_56 ?_
          refine topv (clr x2 i1) rfl ?_
          refine lv_istore_n (lv' := [(3, .int (clr x2 i1)), (0, .ref (ad 0)), (1, .int x), (2, .int (nI q)), (4, .int ((nI i) - 1))]) hx hb dX3_withoutNeedless_57 rfl hl (by decide) rfl (fun ls hl => ?_)
          refine lv_iinc (v := (nI i1) - 1) (lv' := [(4, .int ((nI i1) - 1)), (3, .int (clr x2 i1)), (0, .ref (ad 0)), (1, .int x), (2, .int (nI q))]) hx hb dX3_withoutNeedless_58 hl (k := 4) rfl (by rw [e1, show (Int32.ofInt (-1)) = -1 from rfl, i_m1]) (by decide) rfl (fun ls hl => ?_)
          refine lv_goto (tgt := 13) hx hb dX3_withoutNeedless_61 (by decide) ?_
          exact ih (i1, clr x2 i1, U2) _ _ _ ⟨hh, (lv_sub hl [2, 3, 4, 1, 0] rfl), (by omega), (by rw [← hps, hi1, ps_yes c_21 c_30 c_46]), fw2⟩ (by dsimp only; omega)
abbrev rmX3_least : Room := { frames := 6, cells := 0, slots := 0, locals := 146 }
theorem lk_X3_least : Lk yX3_least 1 := by decide +kernel
set_option maxHeartbeats 4000000 in
set_option maxRecDepth 100000 in
/-- least(p) -/
theorem c_X3_least (l : Launch) (D : va_G) (k : Nat → ClassId) (ad : Nat → Nat) (V : St) {n : Nat} (hv : okV n (pj V)) (hc : Ca n V) {t : Nat} (h5 : V 0 5 = nI t) (ht : t ≤ 3) (x : Int32) : CtX noX l yX3_least cX3_least 6 (some .int) rmX3_least D (tyL k) (wS k ad V) [.ref (ad 0), .int x] (qI D (wS k ad) (fun r U => leR n (pj V) (fun i => V (5 + i)) t x r ∧ FrX (0 :: 16 :: 17 :: 18 :: 19 :: 20 :: 21 :: 22 :: 23 :: 24 :: 25 :: 26 :: 27 :: 28 :: 29 :: 30 :: 37 :: 38 :: 39 :: 40 :: 41 :: 42 :: 43 :: 44 :: 45 :: 46 :: 47 :: 48 :: 49 :: 50 :: 51 :: 52 :: 53 :: 54 :: 55 :: 56 :: 57 :: 58 :: 59 :: 60 :: []) [2] V U ∧ Ca n U)) := by
  refine CtX.mk (by decide) (Nat.le_of_ble_eq_true rfl) ?_
  intro p e s m below meth c hx hb hml hown hg hr hlocks hK hN A hA hX hh ls hl
  have hh : Hd D A (wS k ad V) s.heap s.heap [] := hh
  have hl : lv_has ls 6 [(0, .ref (ad 0)), (1, .int x)] := hl
  have hn24 := hv.1
  refine lv_aload_n hx hb dX3_least_0 rfl (lv_at hl 0 rfl) ?_
  refine gfl hx hb hg inX3 hown hK hh.1 0 (ci := 3) rfl rfl 0 (by decide) wd_191 rfl dX3_least_1 ?_
  refine lv_iload_n hx hb dX3_least_4 rfl (lv_at hl 1 rfl) ?_
  refine callR (runV hx hb hg hown hml hl.1 (c_X1_has l D k (sh 8 ad) (pj V) x) [.int x] [] (preR (mapSome_sub hh.1 [8, 9, 10, 11, 12, 13, 14, 15] rfl) hK hN xb0 x0) (va_recv hK hh.1 (ci := 1) (q0 := 8) rfl rfl) wd_252 wd_253 wd_254 wd_50 wd_255 lk_X1_has ⟨rfl, rfl⟩ ⟨by decide, by decide⟩ ⟨Nat.zero_le _, Nat.zero_le _⟩ rfl (Nat.le_of_ble_eq_true rfl) dX3_least_5) (fun r_5 q_5 => ?_)
  obtain rfl := q_5
  refine lv_if_ne (tgt := 13) hx hb dX3_least_8 (by decide) (fun c_8 => ?_) (fun c_8 => ?_)
  · obtain ⟨q, hq, hxe⟩ := has_yes hv c_8
    refine lv_aload_n hx hb dX3_least_13 rfl (lv_at hl 0 rfl) ?_
    refine gfl hx hb hg inX3 hown hK hh.1 0 (ci := 3) rfl rfl 5 (by decide) wd_196 rfl dX3_least_14 ?_
    refine topv (nI t) h5 ?_
    refine lv_if_eq (tgt := 28) hx hb dX3_least_17 (by decide) (fun c_17 => ?_) (fun c_17 => ?_)
    · have c_17 : t = 0 := (nI_eq (a := t) (b := 0) (by omega) (by omega)).mp c_17
      refine lv_bipush (v := (-3)) hx hb dX3_least_28 (by decide) ?_
      exact retI (Wd := wS k ad) (v := (-3)) (V) hx hb hr hlocks dX3_least_30 hh (⟨Or.inr ⟨q, hq, hxe, Or.inl ⟨Or.inl c_17, rfl⟩⟩, FrX.rf, hc⟩)
    · have c_17 : ¬ t = 0 := fun z => c_17 ((nI_eq (a := t) (b := 0) (by omega) (by omega)).mpr z)
      refine lv_aload_n hx hb dX3_least_20 rfl (lv_at hl 0 rfl) ?_
      refine lv_iload_n hx hb dX3_least_21 rfl (lv_at hl 1 rfl) ?_
      refine topv (nI q) hxe ?_
      refine callWI (D := D) (wn := fun U1 => wS k ad U1) (wr := []) (runV hx hb hg hown hml hl.1 ((c_X3_wholeIsSpentInATest l D k ad V hv h5 ht (q := q) hq) s.heap.size) [.int (nI q)] [] (preX (mapSome_sub hh.1 [0, 1, 2, 3, 4, 5, 6, 7, 8, 9, 10, 11, 12, 13, 14, 15, 16, 17, 18, 19, 20, 21, 22, 23, 24, 25, 26, 27, 28, 29, 30, 31, 32, 33, 34, 35, 36, 37, 38, 39, 40, 41, 42, 43, 44, 45, 46, 47, 48, 49, 50, 51, 52, 53, 54, 55, 56, 57, 58, 59, 60] rfl) (hh.2.1.sub [0, 1, 2, 3, 4, 5, 6, 7, 8, 9, 10, 11, 12, 13, 14, 15, 16, 17, 18, 19, 20, 21, 22, 23, 24, 25, 26, 27, 28, 29, 30, 31, 32, 33, 34, 35, 36, 37, 38, 39, 40, 41, 42, 43, 44, 45, 46, 47, 48, 49, 50, 51, 52, 53, 54, 55, 56, 57, 58, 59, 60] (by decide) rfl) hK hN xb0 x0) (va_recv hK hh.1 (ci := 3) (q0 := 0) rfl rfl) wd_529 wd_531 wd_21 wd_49 wd_532 lk_X3_wholeIsSpentInATest ⟨rfl, rfl⟩ ⟨by decide, by decide⟩ ⟨Nat.zero_le _, Nat.zero_le _⟩ rfl (Nat.le_of_ble_eq_true rfl) dX3_least_22) hA hh [0, 1, 2, 3, 4, 5, 6, 7, 8, 9, 10, 11, 12, 13, 14, 15, 16, 17, 18, 19, 20, 21, 22, 23, 24, 25, 26, 27, 28, 29, 30, 31, 32, 33, 34, 35, 36, 37, 38, 39, 40, 41, 42, 43, 44, 45, 46, 47, 48, 49, 50, 51, 52, 53, 54, 55, 56, 57, 58, 59, 60] [] [0, 1, 2, 3, 4, 5, 6, 7, 8, 9, 10, 11, 12, 13, 14, 15, 16, 17, 18, 19, 20, 21, 22, 23, 24, 25, 26, 27, 28, 29, 30, 31, 32, 33, 34, 35, 36, 37, 38, 39, 40, 41, 42, 43, 44, 45, 46, 47, 48, 49, 50, 51, 52, 53, 54, 55, 56, 57, 58, 59, 60] rfl rfl (by decide) (by decide) (by decide) (fun _ => rfl) (fun r_22 U1 H locs q_22 hh => ?_)
      obtain ⟨rfl, f1, hT⟩ := q_22
      have p1 : pj U1 = pj V := f1.pj (by intro i hi; simp; omega)
      have hv1 : okV n (pj U1) := by rw [p1]; exact hv
      have hc1 : Ca n U1 := f1.ca (by intro i hi; simp; omega) (by simp) hc
      refine lv_if_eq (tgt := 31) hx hb dX3_least_25 (by decide) (fun c_25 => ?_) (fun c_25 => ?_)
      · refine lv_aload_n hx hb dX3_least_31 rfl (lv_at hl 0 rfl) ?_
        refine callWA (D := D) (wn := fun U2 => wS k ad U2) (wr := []) (runV hx hb hg hown hml hl.1 ((c_X3_reasonsNow l D k ad U1 hv1 hc1) H.size) [] [] (preX (mapSome_sub hh.1 [0, 1, 2, 3, 4, 5, 6, 7, 8, 9, 10, 11, 12, 13, 14, 15, 16, 17, 18, 19, 20, 21, 22, 23, 24, 25, 26, 27, 28, 29, 30, 31, 32, 33, 34, 35, 36, 37, 38, 39, 40, 41, 42, 43, 44, 45, 46, 47, 48, 49, 50, 51, 52, 53, 54, 55, 56, 57, 58, 59, 60] rfl) (hh.2.1.sub [0, 1, 2, 3, 4, 5, 6, 7, 8, 9, 10, 11, 12, 13, 14, 15, 16, 17, 18, 19, 20, 21, 22, 23, 24, 25, 26, 27, 28, 29, 30, 31, 32, 33, 34, 35, 36, 37, 38, 39, 40, 41, 42, 43, 44, 45, 46, 47, 48, 49, 50, 51, 52, 53, 54, 55, 56, 57, 58, 59, 60] (by decide) rfl) hK hN xb0 x0) (va_recv hK hh.1 (ci := 3) (q0 := 0) rfl rfl) wd_280 wd_282 wd_0 wd_49 wd_283 lk_X3_reasonsNow ⟨rfl, rfl⟩ ⟨by decide, by decide⟩ ⟨Nat.zero_le _, Nat.zero_le _⟩ rfl (Nat.le_of_ble_eq_true rfl) dX3_least_32) hA hh [0, 1, 2, 3, 4, 5, 6, 7, 8, 9, 10, 11, 12, 13, 14, 15, 16, 17, 18, 19, 20, 21, 22, 23, 24, 25, 26, 27, 28, 29, 30, 31, 32, 33, 34, 35, 36, 37, 38, 39, 40, 41, 42, 43, 44, 45, 46, 47, 48, 49, 50, 51, 52, 53, 54, 55, 56, 57, 58, 59, 60] [] [0, 1, 2, 3, 4, 5, 6, 7, 8, 9, 10, 11, 12, 13, 14, 15, 16, 17, 18, 19, 20, 21, 22, 23, 24, 25, 26, 27, 28, 29, 30, 31, 32, 33, 34, 35, 36, 37, 38, 39, 40, 41, 42, 43, 44, 45, 46, 47, 48, 49, 50, 51, 52, 53, 54, 55, 56, 57, 58, 59, 60] rfl rfl (by decide) (by decide) (by decide) (fun _ => rfl) (fun U2 H locs q_32 hh => ?_)
        obtain ⟨fU, o2, hRG⟩ := q_32
        have hc2 : Ca n U2 := (CaS.of fU o2 hRG).2
        rw [p1] at hRG
        have f2 : FrX (0 :: 16 :: 17 :: 18 :: 19 :: 20 :: 21 :: 22 :: 23 :: 24 :: 25 :: 26 :: 27 :: 28 :: 29 :: 30 :: 37 :: 38 :: 39 :: 40 :: 41 :: 42 :: 43 :: 44 :: 45 :: 46 :: 47 :: 48 :: 49 :: 50 :: 51 :: 52 :: 53 :: 54 :: 55 :: 56 :: 57 :: 58 :: 59 :: 60 :: []) [2] V U2 := (f1.mono (by intro c hc; simp at hc ⊢; omega) (by simp)).trans (fU.x.mono (by intro c hc; simp at hc ⊢; omega) (by intro c hc; simp at hc ⊢; omega))
        have hm24 : ∀ i, bt (tr 16 15 U2 7 q) i = true → i < 24 := fun i hi => by
          have h9 := (hRG.back hq i).mp hi
          have h8 := h9 (fun z => z < n) (fun y hy => by rw [hy]; exact hq) (fun y z _ hr => HA_lt hr.2)
          omega
        refine lv_iload_n hx hb dX3_least_35 rfl (lv_at hl 1 rfl) ?_
        refine topv (nI q) hxe ?_
        refine callR (runV hx hb hg hown hml hl.1 (c_X2_backOf l D k (sh 16 ad) (tr 16 15 U2) (q := q) (by omega)) [.int (nI q)] [] (preR (mapSome_sub hh.1 [16, 17, 18, 19, 20, 21, 22, 23, 24, 25, 26, 27, 28, 29, 30] rfl) hK hN xb0 x0) (va_recv hK hh.1 (ci := 2) (q0 := 16) rfl rfl) wd_377 wd_378 wd_379 wd_51 wd_380 lk_X2_backOf ⟨rfl, rfl⟩ ⟨by decide, by decide⟩ ⟨Nat.zero_le _, Nat.zero_le _⟩ rfl (Nat.le_of_ble_eq_true rfl) dX3_least_36) (fun r_36 q_36 => ?_)
        obtain rfl := q_36
        refine lv_istore_n (lv' := [(2, .int (tr 16 15 U2 7 q)), (0, .ref (ad 0)), (1, .int x)]) hx hb dX3_least_39 rfl hl (by decide) rfl (fun ls hl => ?_)
        refine lv_iconst (v := 1) hx hb dX3_least_40 (by decide) ?_
        refine lv_istore_n (lv' := [(3, .int 1), (2, .int (tr 16 15 U2 7 q)), (0, .ref (ad 0)), (1, .int x)]) hx hb dX3_least_41 rfl hl (by decide) rfl (fun ls hl => ?_)
        refine lv_iconst (v := 0) hx hb dX3_least_42 (by decide) ?_
        refine lv_istore (lv' := [(4, .int 0), (3, .int 1), (2, .int (tr 16 15 U2 7 q)), (0, .ref (ad 0)), (1, .int x)]) hx hb dX3_least_43 hl (by decide) rfl (fun ls hl => ?_)
        refine loopW (σ := Nat × Int32 × Bool × St) (fun zz9 H locs ls => match zz9 with | (k9, x1, b2, U3) => Hd D A (wS k ad U3) s.heap H locs ∧ lv_has ls 6 [(0, .ref (ad 0)), (1, .int x), (2, .int x1), (3, .int (zI b2)), (4, .int (nI k9))] ∧ (k9 ≤ 24) ∧ (x1 = itr (psF (fun y => agB (pj V) (fun i => V (5 + i)) t y q n) q n) k9 (tr 16 15 U2 7 q)) ∧ (b2 = false → psF (fun y => agB (pj V) (fun i => V (5 + i)) t y q n) q n x1 = x1) ∧ (b2 = true → cnt x1 + k9 ≤ 24) ∧ (FrX [55, 56, 57, 58, 59, 60] [] U2 U3)) (fun zz9 => match zz9 with | (k9, x1, b2, U3) => 24 - k9) ?_ (0, tr 16 15 U2 7 q, true, U2) ⟨hh, (lv_sub hl [3, 4, 2, 1, 0] rfl), (by omega), itr_0, (fun z => by cases z), (fun _ => by have := cnt_24 hm24; omega), FrX.rf⟩
        intro zz9 H locs ls hI ih
        obtain ⟨k9, x1, b2, U3⟩ := zz9
        obtain ⟨hh, hl, hk9, hx1, hb3, hcn, f3⟩ := hI
        have f03 : FrX (0 :: 16 :: 17 :: 18 :: 19 :: 20 :: 21 :: 22 :: 23 :: 24 :: 25 :: 26 :: 27 :: 28 :: 29 :: 30 :: 37 :: 38 :: 39 :: 40 :: 41 :: 42 :: 43 :: 44 :: 45 :: 46 :: 47 :: 48 :: 49 :: 50 :: 51 :: 52 :: 53 :: 54 :: 55 :: 56 :: 57 :: 58 :: 59 :: 60 :: []) [2] V U3 := f2.trans (f3.mono (by intro c hc; simp at hc ⊢; omega) (by simp))
        have p3 : pj U3 = pj V := f03.pj (by intro i hi; simp; omega)
        have hv3 : okV n (pj U3) := by rw [p3]; exact hv
        have h35 : U3 0 5 = nI t := (f03.2 5 (by decide)).trans h5
        have eIs : agB (pj V) (fun i => U3 (5 + i)) t = agB (pj V) (fun i => V (5 + i)) t := ag_Is (fun j hj => f03.1 (5 + j) (by simp; omega))
        have hT3 : ∀ j, j < t → hld (pj U3) (fun i => U3 (5 + i)) q n U3 j := fun j hj => by rw [p3]; exact ((hT j hj).x (U := U3) (by rw [f3.1 _ (by simp; omega), fU.1 _ (by omega) (by omega)]) (by rw [f3.1 _ (by simp; omega), fU.1 _ (by omega) (by omega)])).is (f03.1 (5 + j) (by simp; omega)).symm
        refine lv_iload_n hx hb dX3_least_45 rfl (lv_at hl 3 rfl) ?_
        refine lv_if_eq (tgt := 85) hx hb dX3_least_46 (by decide) (fun c_46 => ?_) (fun c_46 => ?_)
        · refine lv_iload_n hx hb dX3_least_85 rfl (lv_at hl 2 rfl) ?_
          exact retI (Wd := wS k ad) (v := x1) (U3) hx hb hr hlocks dX3_least_86 hh (⟨Or.inr ⟨q, hq, hxe, Or.inr ⟨c_17, (by cases hb8 : nsB (pj V) (fun i => V (5 + i)) t q n with | true => rfl | false => (rw [hb8] at c_25; exact absurd c_25 (by decide))), tr 16 15 U2 7 q, k9, hRG.back hq, hx1, (hb3 (zI_0.mp c_46))⟩⟩, f03, f3.ca (by intro i hi; simp; omega) (by simp) hc2⟩)
        · refine lv_iload hx hb dX3_least_49 (lv_at hl 4 rfl) ?_
          refine lv_bipush (v := 24) hx hb dX3_least_51 (by decide) ?_
          refine lv_icmp_ge (tgt := 85) hx hb dX3_least_53 (by decide) (fun c_53 => ?_) (fun c_53 => ?_)
          · have c_53 : 24 ≤ k9 := (nI_leI (a := 24) (b := k9) (by omega) (by omega)).mp c_53
            refine lv_iload_n hx hb dX3_least_85 rfl (lv_at hl 2 rfl) ?_
            exact retI (Wd := wS k ad) (v := x1) (U3) hx hb hr hlocks dX3_least_86 hh (⟨Or.inr ⟨q, hq, hxe, Or.inr ⟨c_17, (by cases hb8 : nsB (pj V) (fun i => V (5 + i)) t q n with | true => rfl | false => (rw [hb8] at c_25; exact absurd c_25 (by decide))), tr 16 15 U2 7 q, k9, hRG.back hq, hx1, (by have h9 := hcn (zI_ne c_46); have h0 : x1 = 0 := Classical.byContradiction fun z => by { have := cnt_pos z; omega }; rw [h0]; exact ps_0 n (by omega))⟩⟩, f03, f3.ca (by intro i hi; simp; omega) (by simp) hc2⟩)
          · have c_53 : ¬ 24 ≤ k9 := fun z => c_53 ((nI_leI (a := 24) (b := k9) (by omega) (by omega)).mpr z)
            refine lv_aload_n hx hb dX3_least_56 rfl (lv_at hl 0 rfl) ?_
            refine lv_iload_n hx hb dX3_least_57 rfl (lv_at hl 2 rfl) ?_
            refine lv_iload_n hx hb dX3_least_58 rfl (lv_at hl 1 rfl) ?_
            refine topv (nI q) hxe ?_
            refine callWI (D := D) (wn := fun U4 => wS k ad U4) (wr := []) (runV hx hb hg hown hml hl.1 ((c_X3_withoutNeedless l D k ad U3 hv3 h35 ht x1 (q := q) hq hT3) H.size) [.int x1, .int (nI q)] [] (preX (mapSome_sub hh.1 [0, 1, 2, 3, 4, 5, 6, 7, 8, 9, 10, 11, 12, 13, 14, 15, 16, 17, 18, 19, 20, 21, 22, 23, 24, 25, 26, 27, 28, 29, 30, 31, 32, 33, 34, 35, 36, 37, 38, 39, 40, 41, 42, 43, 44, 45, 46, 47, 48, 49, 50, 51, 52, 53, 54, 55, 56, 57, 58, 59, 60] rfl) (hh.2.1.sub [0, 1, 2, 3, 4, 5, 6, 7, 8, 9, 10, 11, 12, 13, 14, 15, 16, 17, 18, 19, 20, 21, 22, 23, 24, 25, 26, 27, 28, 29, 30, 31, 32, 33, 34, 35, 36, 37, 38, 39, 40, 41, 42, 43, 44, 45, 46, 47, 48, 49, 50, 51, 52, 53, 54, 55, 56, 57, 58, 59, 60] (by decide) rfl) hK hN xb0 x0) (va_recv hK hh.1 (ci := 3) (q0 := 0) rfl rfl) wd_533 wd_535 wd_22 wd_49 wd_536 lk_X3_withoutNeedless ⟨rfl, rfl⟩ ⟨by decide, by decide⟩ ⟨Nat.zero_le _, Nat.zero_le _⟩ rfl (Nat.le_of_ble_eq_true rfl) dX3_least_59) hA hh [0, 1, 2, 3, 4, 5, 6, 7, 8, 9, 10, 11, 12, 13, 14, 15, 16, 17, 18, 19, 20, 21, 22, 23, 24, 25, 26, 27, 28, 29, 30, 31, 32, 33, 34, 35, 36, 37, 38, 39, 40, 41, 42, 43, 44, 45, 46, 47, 48, 49, 50, 51, 52, 53, 54, 55, 56, 57, 58, 59, 60] [] [0, 1, 2, 3, 4, 5, 6, 7, 8, 9, 10, 11, 12, 13, 14, 15, 16, 17, 18, 19, 20, 21, 22, 23, 24, 25, 26, 27, 28, 29, 30, 31, 32, 33, 34, 35, 36, 37, 38, 39, 40, 41, 42, 43, 44, 45, 46, 47, 48, 49, 50, 51, 52, 53, 54, 55, 56, 57, 58, 59, 60] rfl rfl (by decide) (by decide) (by decide) (fun _ => rfl) (fun r_59 U4 H locs q_59 hh => ?_)
            obtain ⟨rfl, f4⟩ := q_59
            refine topv (psF (fun y => agB (pj V) (fun i => V (5 + i)) t y q n) q n x1) (by rw [p3, eIs]) ?_
            refine lv_istore (lv' := [(5, .int (psF (fun y => agB (pj V) (fun i => V (5 + i)) t y q n) q n x1)), (0, .ref (ad 0)), (1, .int x), (2, .int x1), (3, .int (zI b2)), (4, .int (nI k9))]) hx hb dX3_least_62 hl (by decide) rfl (fun ls hl => ?_)
            refine lv_iload hx hb dX3_least_64 (lv_at hl 0 rfl) ?_
            refine lv_iload_n hx hb dX3_least_66 rfl (lv_at hl 3 rfl) ?_
            refine lv_icmp_eq (tgt := 74) hx hb dX3_least_67 (by decide) (fun c_67 => ?_) (fun c_67 => ?_)
            · refine lv_iconst (v := 0) hx hb dX3_least_74 (by decide) ?_
              refine lv_istore_n (lv' := [(3, .int 0), (5, .int (psF (fun y => agB (pj V) (fun i => V (5 + i)) t y q n) q n x1)), (0, .ref (ad 0)), (1, .int x), (2, .int x1), (4, .int (nI k9))]) hx hb dX3_least_75 rfl hl (by decide) rfl (fun ls hl => ?_)
              refine lv_iload hx hb dX3_least_76 (lv_at hl 1 rfl) ?_
              refine lv_istore_n (lv' := [(2, .int (psF (fun y => agB (pj V) (fun i => V (5 + i)) t y q n) q n x1)), (3, .int 0), (5, .int (psF (fun y => agB (pj V) (fun i => V (5 + i)) t y q n) q n x1)), (0, .ref (ad 0)), (1, .int x), (4, .int (nI k9))]) hx hb dX3_least_78 rfl hl (by decide) rfl (fun ls hl => ?_)
              refine lv_iinc (v := nI (k9 + 1)) (lv' := [(4, .int (nI (k9 + 1))), (2, .int (psF (fun y => agB (pj V) (fun i => V (5 + i)) t y q n) q n x1)), (3, .int 0), (5, .int (psF (fun y => agB (pj V) (fun i => V (5 + i)) t y q n) q n x1)), (0, .ref (ad 0)), (1, .int x)]) hx hb dX3_least_79 hl (k := 5) rfl (nI_succ k9).symm (by decide) rfl (fun ls hl => ?_)
              refine lv_goto (tgt := 45) hx hb dX3_least_82 (by decide) ?_
              exact ih (k9 + 1, psF (fun y => agB (pj V) (fun i => V (5 + i)) t y q n) q n x1, false, U4) _ _ _ ⟨hh, (lv_sub hl [4, 5, 1, 2, 0] rfl), (by omega), (by show psF (fun y => agB (pj V) (fun i => V (5 + i)) t y q n) q n x1 = psF (fun y => agB (pj V) (fun i => V (5 + i)) t y q n) q n (itr (psF (fun y => agB (pj V) (fun i => V (5 + i)) t y q n) q n) k9 (tr 16 15 U2 7 q)); rw [← hx1]), (fun _ => by rw [c_67]; exact c_67), (fun z => by cases z), (f3.trans f4)⟩ (by dsimp only; omega)
            · refine lv_iconst (v := 1) hx hb dX3_least_70 (by decide) ?_
              refine lv_goto (tgt := 75) hx hb dX3_least_71 (by decide) ?_
              refine lv_istore_n (lv' := [(3, .int 1), (5, .int (psF (fun y => agB (pj V) (fun i => V (5 + i)) t y q n) q n x1)), (0, .ref (ad 0)), (1, .int x), (2, .int x1), (4, .int (nI k9))]) hx hb dX3_least_75 rfl hl (by decide) rfl (fun ls hl => ?_)
              refine lv_iload hx hb dX3_least_76 (lv_at hl 1 rfl) ?_
              refine lv_istore_n (lv' := [(2, .int (psF (fun y => agB (pj V) (fun i => V (5 + i)) t y q n) q n x1)), (3, .int 1), (5, .int (psF (fun y => agB (pj V) (fun i => V (5 + i)) t y q n) q n x1)), (0, .ref (ad 0)), (1, .int x), (4, .int (nI k9))]) hx hb dX3_least_78 rfl hl (by decide) rfl (fun ls hl => ?_)
              refine lv_iinc (v := nI (k9 + 1)) (lv' := [(4, .int (nI (k9 + 1))), (2, .int (psF (fun y => agB (pj V) (fun i => V (5 + i)) t y q n) q n x1)), (3, .int 1), (5, .int (psF (fun y => agB (pj V) (fun i => V (5 + i)) t y q n) q n x1)), (0, .ref (ad 0)), (1, .int x)]) hx hb dX3_least_79 hl (k := 5) rfl (nI_succ k9).symm (by decide) rfl (fun ls hl => ?_)
              refine lv_goto (tgt := 45) hx hb dX3_least_82 (by decide) ?_
              exact ih (k9 + 1, psF (fun y => agB (pj V) (fun i => V (5 + i)) t y q n) q n x1, true, U4) _ _ _ ⟨hh, (lv_sub hl [4, 5, 1, 2, 0] rfl), (by omega), (by show psF (fun y => agB (pj V) (fun i => V (5 + i)) t y q n) q n x1 = psF (fun y => agB (pj V) (fun i => V (5 + i)) t y q n) q n (itr (psF (fun y => agB (pj V) (fun i => V (5 + i)) t y q n) q n) k9 (tr 16 15 U2 7 q)); rw [← hx1]), (fun z => by cases z), (fun _ => by have h9 := hcn (zI_ne c_46); have h8 := cnt_lt (x := psF (fun y => agB (pj V) (fun i => V (5 + i)) t y q n) q n x1) (y := x1) (fun i hi => ps_sub n x1 (by omega) i hi) (fun e => c_67 e.symm); omega), (f3.trans f4)⟩ (by dsimp only; omega)
      · refine lv_bipush (v := (-3)) hx hb dX3_least_28 (by decide) ?_
        exact retI (Wd := wS k ad) (v := (-3)) (U1) hx hb hr hlocks dX3_least_30 hh (⟨Or.inr ⟨q, hq, hxe, Or.inl ⟨Or.inr (by cases hb8 : nsB (pj V) (fun i => V (5 + i)) t q n with | false => rfl | true => (rw [hb8] at c_25; exact absurd rfl c_25)), rfl⟩⟩, f1.mono (by intro c hc; simp at hc ⊢; omega) (by simp), hc1⟩)
  · have c_8 := has_no hv c_8
    refine lv_iconst (v := (-1)) hx hb dX3_least_11 (by decide) ?_
    exact retI (Wd := wS k ad) (v := (-1)) (V) hx hb hr hlocks dX3_least_12 hh (⟨Or.inl ⟨c_8, rfl⟩, FrX.rf, hc⟩)
