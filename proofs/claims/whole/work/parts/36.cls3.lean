/-! the class SliceWhy: follows, chop, cause, run -/
theorem and_isM {a b : Int32} {A B : Nat → Prop} (h : isM a A) (h2 : isM b B) : isM (a &&& b) (fun j => A j ∧ B j) := fun j => by
  rw [b_and, Bool.and_eq_true, h j, h2 j]
def cuR (n : Nat) (P : St) (x y z r : Int32) : Prop := (¬ (rgt x n ∧ ¬ y < 0 ∧ rgt z 2) ∧ r = -1) ∨ (∃ q kk, q < n ∧ x = nI q ∧ kk < 2 ^ 31 ∧ y = nI kk ∧ rgt z 2 ∧ ∃ f : Nat → Bool, (∀ i, f i = true ↔ pH n P (i % 4) q (i / 4)) ∧ r = (match kthS f (4 * n) 0 kk with | none => -4 | some i => if z = 1 then nI (1 + i % 4) else nI (i / 4)))
theorem le1_rgt {z : Int32} (h0 : ¬ z < 0) (h1 : z ≤ 1) : rgt z 2 := rgt_yes (by decide) h0 (fun h => by
  rw [Int32.le_iff_toInt_le] at h h1
  rw [nI_toInt (by decide)] at h
  have : (1 : Int32).toInt = 1 := by decide
  omega)
theorem gt1_rgt {z : Int32} (h1 : ¬ z ≤ 1) : ¬ rgt z 2 := by
  rintro ⟨q, hq, rfl⟩
  exact h1 ((nI_leI (b := 1) (by omega) (by omega)).mpr (by omega))
/-- what run() leaves but the run itself -/
def FrR (n : Nat) (V U : St) : Prop := (∀ c, ¬ (16 ≤ c ∧ c < 37) → ¬ c = 0 → U c = V c) ∧ (∀ j, ¬ j = 2 → ¬ j = 7 → U 0 j = V 0 j) ∧ U 0 7 = V 0 7 + 1 ∧ Ca n U
/-- the set of a run -/
def seR (n : Nat) (P : St) (x m : Int32) : Prop := (x = -4 ∧ ∀ j, j < n → bt m j = true) ∨ (∃ q, q < n ∧ x = nI q ∧ isM m (Bk n P q))
theorem all_bt {n : Nat} (hn : n ≤ 24) : ∀ j, j < n → bt (bitI n - 1) j = true := by
  have h : ∀ n, n < 25 → ∀ j, j < n → bt (bitI n - 1) j = true := by decide +kernel
  exact h n (by omega)
abbrev rmX3_follows : Room := { frames := 6, cells := 0, slots := 0, locals := 133 }
theorem lk_X3_follows : Lk yX3_follows 1 := by decide +kernel
set_option maxHeartbeats 4000000 in
set_option maxRecDepth 100000 in
/-- follows(p) -/
theorem c_X3_follows (l : Launch) (D : va_G) (k : Nat → ClassId) (ad : Nat → Nat) (V : St) {n : Nat} (hv : okV n (pj V)) (hc : Ca n V) (x : Int32) : CtX noX l yX3_follows cX3_follows 2 (some .int) rmX3_follows D (tyL k) (wS k ad V) [.ref (ad 0), .int x] (qI D (wS k ad) (fun r U => CaS n V U ∧ flR n (pj V) x r)) := by
  refine CtX.mk (by decide) (Nat.le_of_ble_eq_true rfl) ?_
  intro p e s m below meth c hx hb hml hown hg hr hlocks hK hN A hA hX hh ls hl
  have hh : Hd D A (wS k ad V) s.heap s.heap [] := hh
  have hl : lv_has ls 2 [(0, .ref (ad 0)), (1, .int x)] := hl
  have hn24 := hv.1
  refine lv_aload_n hx hb dX3_follows_0 rfl (lv_at hl 0 rfl) ?_
  refine gfl hx hb hg inX3 hown hK hh.1 0 (ci := 3) rfl rfl 0 (by decide) wd_191 rfl dX3_follows_1 ?_
  refine lv_iload_n hx hb dX3_follows_4 rfl (lv_at hl 1 rfl) ?_
  refine callR (runV hx hb hg hown hml hl.1 (c_X1_has l D k (sh 8 ad) (pj V) x) [.int x] [] (preR (mapSome_sub hh.1 [8, 9, 10, 11, 12, 13, 14, 15] rfl) hK hN xb0 x0) (va_recv hK hh.1 (ci := 1) (q0 := 8) rfl rfl) wd_252 wd_253 wd_254 wd_50 wd_255 lk_X1_has ⟨rfl, rfl⟩ ⟨by decide, by decide⟩ ⟨Nat.zero_le _, Nat.zero_le _⟩ rfl (Nat.le_of_ble_eq_true rfl) dX3_follows_5) (fun r_5 q_5 => ?_)
  obtain rfl := q_5
  refine lv_if_eq (tgt := 22) hx hb dX3_follows_8 (by decide) (fun c_8 => ?_) (fun c_8 => ?_)
  · have c_8 := has_no hv c_8
    refine lv_iconst (v := (-1)) hx hb dX3_follows_22 (by decide) ?_
    exact retI (Wd := wS k ad) (v := (-1)) (V) hx hb hr hlocks dX3_follows_23 hh (⟨CaS.rf hc, Or.inl ⟨c_8, rfl⟩⟩)
  · obtain ⟨q, hq, hxe⟩ := has_yes hv c_8
    refine lv_aload_n hx hb dX3_follows_11 rfl (lv_at hl 0 rfl) ?_
    refine callWA (D := D) (wn := fun U => wS k ad U) (wr := []) (runV hx hb hg hown hml hl.1 ((c_X3_reasonsNow l D k ad V hv hc) s.heap.size) [] [] (preX (mapSome_sub hh.1 [0, 1, 2, 3, 4, 5, 6, 7, 8, 9, 10, 11, 12, 13, 14, 15, 16, 17, 18, 19, 20, 21, 22, 23, 24, 25, 26, 27, 28, 29, 30, 31, 32, 33, 34, 35, 36, 37, 38, 39, 40, 41, 42, 43, 44, 45, 46, 47, 48, 49, 50, 51, 52, 53, 54, 55, 56, 57, 58, 59, 60] rfl) (hh.2.1.sub [0, 1, 2, 3, 4, 5, 6, 7, 8, 9, 10, 11, 12, 13, 14, 15, 16, 17, 18, 19, 20, 21, 22, 23, 24, 25, 26, 27, 28, 29, 30, 31, 32, 33, 34, 35, 36, 37, 38, 39, 40, 41, 42, 43, 44, 45, 46, 47, 48, 49, 50, 51, 52, 53, 54, 55, 56, 57, 58, 59, 60] (by decide) rfl) hK hN xb0 x0) (va_recv hK hh.1 (ci := 3) (q0 := 0) rfl rfl) wd_280 wd_282 wd_0 wd_49 wd_283 lk_X3_reasonsNow ⟨rfl, rfl⟩ ⟨by decide, by decide⟩ ⟨Nat.zero_le _, Nat.zero_le _⟩ rfl (Nat.le_of_ble_eq_true rfl) dX3_follows_12) hA hh [0, 1, 2, 3, 4, 5, 6, 7, 8, 9, 10, 11, 12, 13, 14, 15, 16, 17, 18, 19, 20, 21, 22, 23, 24, 25, 26, 27, 28, 29, 30, 31, 32, 33, 34, 35, 36, 37, 38, 39, 40, 41, 42, 43, 44, 45, 46, 47, 48, 49, 50, 51, 52, 53, 54, 55, 56, 57, 58, 59, 60] [] [0, 1, 2, 3, 4, 5, 6, 7, 8, 9, 10, 11, 12, 13, 14, 15, 16, 17, 18, 19, 20, 21, 22, 23, 24, 25, 26, 27, 28, 29, 30, 31, 32, 33, 34, 35, 36, 37, 38, 39, 40, 41, 42, 43, 44, 45, 46, 47, 48, 49, 50, 51, 52, 53, 54, 55, 56, 57, 58, 59, 60] rfl rfl (by decide) (by decide) (by decide) (fun _ => rfl) (fun U H locs q_12 hh => ?_)
    obtain ⟨fU, o2, hRG⟩ := q_12
    refine lv_iload_n hx hb dX3_follows_15 rfl (lv_at hl 1 rfl) ?_
    refine topv (nI q) hxe ?_
    refine callR (runV hx hb hg hown hml hl.1 (c_X2_followersOf l D k (sh 16 ad) (tr 16 15 U) (q := q) (by omega)) [.int (nI q)] [] (preR (mapSome_sub hh.1 [16, 17, 18, 19, 20, 21, 22, 23, 24, 25, 26, 27, 28, 29, 30] rfl) hK hN xb0 x0) (va_recv hK hh.1 (ci := 2) (q0 := 16) rfl rfl) wd_457 wd_458 wd_459 wd_51 wd_460 lk_X2_followersOf ⟨rfl, rfl⟩ ⟨by decide, by decide⟩ ⟨Nat.zero_le _, Nat.zero_le _⟩ rfl (Nat.le_of_ble_eq_true rfl) dX3_follows_16) (fun r_16 q_16 => ?_)
    obtain rfl := q_16
    refine lv_goto (tgt := 23) hx hb dX3_follows_19 (by decide) ?_
    exact retI (Wd := wS k ad) (v := tr 16 15 U 3 q) (U) hx hb hr hlocks dX3_follows_23 hh (⟨CaS.of fU o2 hRG, Or.inr ⟨q, hq, hxe, fun w => hRG.fol hq w⟩⟩)
abbrev rmX3_chop : Room := { frames := 6, cells := 0, slots := 0, locals := 133 }
theorem lk_X3_chop : Lk yX3_chop 2 := by decide +kernel
set_option maxHeartbeats 4000000 in
set_option maxRecDepth 100000 in
/-- chop(u, v) -/
theorem c_X3_chop (l : Launch) (D : va_G) (k : Nat → ClassId) (ad : Nat → Nat) (V : St) {n : Nat} (hv : okV n (pj V)) (hc : Ca n V) (x y : Int32) : CtX noX l yX3_chop cX3_chop 3 (some .int) rmX3_chop D (tyL k) (wS k ad V) [.ref (ad 0), .int x, .int y] (qI D (wS k ad) (fun r U => CaS n V U ∧ chpR n (pj V) x y r)) := by
  refine CtX.mk (by decide) (Nat.le_of_ble_eq_true rfl) ?_
  intro p e s m below meth c hx hb hml hown hg hr hlocks hK hN A hA hX hh ls hl
  have hh : Hd D A (wS k ad V) s.heap s.heap [] := hh
  have hl : lv_has ls 3 [(0, .ref (ad 0)), (1, .int x), (2, .int y)] := hl
  have hn24 := hv.1
  refine lv_aload_n hx hb dX3_chop_0 rfl (lv_at hl 0 rfl) ?_
  refine gfl hx hb hg inX3 hown hK hh.1 0 (ci := 3) rfl rfl 0 (by decide) wd_191 rfl dX3_chop_1 ?_
  refine lv_iload_n hx hb dX3_chop_4 rfl (lv_at hl 1 rfl) ?_
  refine callR (runV hx hb hg hown hml hl.1 (c_X1_has l D k (sh 8 ad) (pj V) x) [.int x] [] (preR (mapSome_sub hh.1 [8, 9, 10, 11, 12, 13, 14, 15] rfl) hK hN xb0 x0) (va_recv hK hh.1 (ci := 1) (q0 := 8) rfl rfl) wd_252 wd_253 wd_254 wd_50 wd_255 lk_X1_has ⟨rfl, rfl⟩ ⟨by decide, by decide⟩ ⟨Nat.zero_le _, Nat.zero_le _⟩ rfl (Nat.le_of_ble_eq_true rfl) dX3_chop_5) (fun r_5 q_5 => ?_)
  obtain rfl := q_5
  refine lv_if_eq (tgt := 22) hx hb dX3_chop_8 (by decide) (fun c_8 => ?_) (fun c_8 => ?_)
  · have c_8 := has_no hv c_8
    refine lv_iconst (v := (-1)) hx hb dX3_chop_22 (by decide) ?_
    exact retI (Wd := wS k ad) (v := (-1)) (V) hx hb hr hlocks dX3_chop_23 hh (⟨CaS.rf hc, Or.inl ⟨fun z => c_8 z.1, rfl⟩⟩)
  · obtain ⟨q, hq, hxe⟩ := has_yes hv c_8
    refine lv_aload_n hx hb dX3_chop_11 rfl (lv_at hl 0 rfl) ?_
    refine gfl hx hb hg inX3 hown hK hh.1 0 (ci := 3) rfl rfl 0 (by decide) wd_191 rfl dX3_chop_12 ?_
    refine lv_iload_n hx hb dX3_chop_15 rfl (lv_at hl 2 rfl) ?_
    refine callR (runV hx hb hg hown hml hl.1 (c_X1_has l D k (sh 8 ad) (pj V) y) [.int y] [] (preR (mapSome_sub hh.1 [8, 9, 10, 11, 12, 13, 14, 15] rfl) hK hN xb0 x0) (va_recv hK hh.1 (ci := 1) (q0 := 8) rfl rfl) wd_252 wd_253 wd_254 wd_50 wd_255 lk_X1_has ⟨rfl, rfl⟩ ⟨by decide, by decide⟩ ⟨Nat.zero_le _, Nat.zero_le _⟩ rfl (Nat.le_of_ble_eq_true rfl) dX3_chop_16) (fun r_16 q_16 => ?_)
    obtain rfl := q_16
    refine lv_if_ne (tgt := 24) hx hb dX3_chop_19 (by decide) (fun c_19 => ?_) (fun c_19 => ?_)
    · obtain ⟨q2, hq2, hye⟩ := has_yes hv c_19
      refine lv_aload_n hx hb dX3_chop_24 rfl (lv_at hl 0 rfl) ?_
      refine callWA (D := D) (wn := fun U => wS k ad U) (wr := []) (runV hx hb hg hown hml hl.1 ((c_X3_reasonsNow l D k ad V hv hc) s.heap.size) [] [] (preX (mapSome_sub hh.1 [0, 1, 2, 3, 4, 5, 6, 7, 8, 9, 10, 11, 12, 13, 14, 15, 16, 17, 18, 19, 20, 21, 22, 23, 24, 25, 26, 27, 28, 29, 30, 31, 32, 33, 34, 35, 36, 37, 38, 39, 40, 41, 42, 43, 44, 45, 46, 47, 48, 49, 50, 51, 52, 53, 54, 55, 56, 57, 58, 59, 60] rfl) (hh.2.1.sub [0, 1, 2, 3, 4, 5, 6, 7, 8, 9, 10, 11, 12, 13, 14, 15, 16, 17, 18, 19, 20, 21, 22, 23, 24, 25, 26, 27, 28, 29, 30, 31, 32, 33, 34, 35, 36, 37, 38, 39, 40, 41, 42, 43, 44, 45, 46, 47, 48, 49, 50, 51, 52, 53, 54, 55, 56, 57, 58, 59, 60] (by decide) rfl) hK hN xb0 x0) (va_recv hK hh.1 (ci := 3) (q0 := 0) rfl rfl) wd_280 wd_282 wd_0 wd_49 wd_283 lk_X3_reasonsNow ⟨rfl, rfl⟩ ⟨by decide, by decide⟩ ⟨Nat.zero_le _, Nat.zero_le _⟩ rfl (Nat.le_of_ble_eq_true rfl) dX3_chop_25) hA hh [0, 1, 2, 3, 4, 5, 6, 7, 8, 9, 10, 11, 12, 13, 14, 15, 16, 17, 18, 19, 20, 21, 22, 23, 24, 25, 26, 27, 28, 29, 30, 31, 32, 33, 34, 35, 36, 37, 38, 39, 40, 41, 42, 43, 44, 45, 46, 47, 48, 49, 50, 51, 52, 53, 54, 55, 56, 57, 58, 59, 60] [] [0, 1, 2, 3, 4, 5, 6, 7, 8, 9, 10, 11, 12, 13, 14, 15, 16, 17, 18, 19, 20, 21, 22, 23, 24, 25, 26, 27, 28, 29, 30, 31, 32, 33, 34, 35, 36, 37, 38, 39, 40, 41, 42, 43, 44, 45, 46, 47, 48, 49, 50, 51, 52, 53, 54, 55, 56, 57, 58, 59, 60] rfl rfl (by decide) (by decide) (by decide) (fun _ => rfl) (fun U H locs q_25 hh => ?_)
      obtain ⟨fU, o2, hRG⟩ := q_25
      have hvU : okV n (pj U) := by rw [fU.pj]; exact hv
      refine lv_iload_n hx hb dX3_chop_28 rfl (lv_at hl 1 rfl) ?_
      refine topv (nI q) hxe ?_
      refine callR (runV hx hb hg hown hml hl.1 (c_X2_forwardOf l D k (sh 16 ad) (tr 16 15 U) hRG.1 hn24 (q := q) (by omega)) [.int (nI q)] [] (preR (mapSome_sub hh.1 [16, 17, 18, 19, 20, 21, 22, 23, 24, 25, 26, 27, 28, 29, 30] rfl) hK hN xb0 x0) (va_recv hK hh.1 (ci := 2) (q0 := 16) rfl rfl) wd_441 wd_442 wd_443 wd_51 wd_444 lk_X2_forwardOf ⟨rfl, rfl⟩ ⟨by decide, by decide⟩ ⟨Nat.zero_le _, Nat.zero_le _⟩ rfl (Nat.le_of_ble_eq_true rfl) dX3_chop_29) (fun r_29 q_29 => ?_)
      obtain rfl := q_29
      refine lv_aload_n hx hb dX3_chop_32 rfl (lv_at hl 0 rfl) ?_
      refine callWA (D := D) (wn := fun U2 => wS k ad U2) (wr := []) (runV hx hb hg hown hml hl.1 ((c_X3_reasonsNow l D k ad U hvU (CaS.of fU o2 hRG).2) H.size) [] [.int (mkM n (fun v => bt (tr 16 15 U 7 v) q))] (preX (mapSome_sub hh.1 [0, 1, 2, 3, 4, 5, 6, 7, 8, 9, 10, 11, 12, 13, 14, 15, 16, 17, 18, 19, 20, 21, 22, 23, 24, 25, 26, 27, 28, 29, 30, 31, 32, 33, 34, 35, 36, 37, 38, 39, 40, 41, 42, 43, 44, 45, 46, 47, 48, 49, 50, 51, 52, 53, 54, 55, 56, 57, 58, 59, 60] rfl) (hh.2.1.sub [0, 1, 2, 3, 4, 5, 6, 7, 8, 9, 10, 11, 12, 13, 14, 15, 16, 17, 18, 19, 20, 21, 22, 23, 24, 25, 26, 27, 28, 29, 30, 31, 32, 33, 34, 35, 36, 37, 38, 39, 40, 41, 42, 43, 44, 45, 46, 47, 48, 49, 50, 51, 52, 53, 54, 55, 56, 57, 58, 59, 60] (by decide) rfl) hK hN xb0 x0) (va_recv hK hh.1 (ci := 3) (q0 := 0) rfl rfl) wd_280 wd_282 wd_0 wd_49 wd_283 lk_X3_reasonsNow ⟨rfl, rfl⟩ ⟨by decide, by decide⟩ ⟨Nat.zero_le _, Nat.zero_le _⟩ rfl (Nat.le_of_ble_eq_true rfl) dX3_chop_33) hA hh [0, 1, 2, 3, 4, 5, 6, 7, 8, 9, 10, 11, 12, 13, 14, 15, 16, 17, 18, 19, 20, 21, 22, 23, 24, 25, 26, 27, 28, 29, 30, 31, 32, 33, 34, 35, 36, 37, 38, 39, 40, 41, 42, 43, 44, 45, 46, 47, 48, 49, 50, 51, 52, 53, 54, 55, 56, 57, 58, 59, 60] [] [0, 1, 2, 3, 4, 5, 6, 7, 8, 9, 10, 11, 12, 13, 14, 15, 16, 17, 18, 19, 20, 21, 22, 23, 24, 25, 26, 27, 28, 29, 30, 31, 32, 33, 34, 35, 36, 37, 38, 39, 40, 41, 42, 43, 44, 45, 46, 47, 48, 49, 50, 51, 52, 53, 54, 55, 56, 57, 58, 59, 60] rfl rfl (by decide) (by decide) (by decide) (fun _ => rfl) (fun U2 H locs q_33 hh => ?_)
      obtain ⟨fU2, o22, hRG2⟩ := q_33
      refine lv_iload_n hx hb dX3_chop_36 rfl (lv_at hl 2 rfl) ?_
      refine topv (nI q2) hye ?_
      rw [fU.pj] at hRG2
      refine callR (runV hx hb hg hown hml hl.1 (c_X2_backOf l D k (sh 16 ad) (tr 16 15 U2) (q := q2) (by omega)) [.int (nI q2)] [.int (mkM n (fun v => bt (tr 16 15 U 7 v) q))] (preR (mapSome_sub hh.1 [16, 17, 18, 19, 20, 21, 22, 23, 24, 25, 26, 27, 28, 29, 30] rfl) hK hN xb0 x0) (va_recv hK hh.1 (ci := 2) (q0 := 16) rfl rfl) wd_377 wd_378 wd_379 wd_51 wd_380 lk_X2_backOf ⟨rfl, rfl⟩ ⟨by decide, by decide⟩ ⟨Nat.zero_le _, Nat.zero_le _⟩ rfl (Nat.le_of_ble_eq_true rfl) dX3_chop_37) (fun r_37 q_37 => ?_)
      obtain rfl := q_37
      refine lv_iand hx hb dX3_chop_40 ?_
      exact retI (Wd := wS k ad) (v := (mkM n (fun v => bt (tr 16 15 U 7 v) q)) &&& (tr 16 15 U2 7 q2)) (U2) hx hb hr hlocks dX3_chop_41 hh (⟨CaS.of (fU.trans fU2) o22 hRG2, Or.inr ⟨q, q2, hq, hq2, hxe, hye, and_isM (fw_isM hn24 (fun v hv => hRG.back hv)) (hRG2.back hq2)⟩⟩)
    · have c_19 := has_no hv c_19
      refine lv_iconst (v := (-1)) hx hb dX3_chop_22 (by decide) ?_
      exact retI (Wd := wS k ad) (v := (-1)) (V) hx hb hr hlocks dX3_chop_23 hh (⟨CaS.rf hc, Or.inl ⟨fun z => c_19 z.2, rfl⟩⟩)
abbrev rmX3_cause : Room := { frames := 6, cells := 0, slots := 0, locals := 133 }
theorem lk_X3_cause : Lk yX3_cause 3 := by decide +kernel
set_option maxHeartbeats 4000000 in
set_option maxRecDepth 100000 in
/-- cause(p, k, what) -/
theorem c_X3_cause (l : Launch) (D : va_G) (k : Nat → ClassId) (ad : Nat → Nat) (V : St) {n : Nat} (hv : okV n (pj V)) (hc : Ca n V) (x y z : Int32) : CtX noX l yX3_cause cX3_cause 4 (some .int) rmX3_cause D (tyL k) (wS k ad V) [.ref (ad 0), .int x, .int y, .int z] (qI D (wS k ad) (fun r U => CaS n V U ∧ cuR n (pj V) x y z r)) := by
  refine CtX.mk (by decide) (Nat.le_of_ble_eq_true rfl) ?_
  intro p e s m below meth c hx hb hml hown hg hr hlocks hK hN A hA hX hh ls hl
  have hh : Hd D A (wS k ad V) s.heap s.heap [] := hh
  have hl : lv_has ls 4 [(0, .ref (ad 0)), (1, .int x), (2, .int y), (3, .int z)] := hl
  have hn24 := hv.1
  refine lv_aload_n hx hb dX3_cause_0 rfl (lv_at hl 0 rfl) ?_
  refine gfl hx hb hg inX3 hown hK hh.1 0 (ci := 3) rfl rfl 0 (by decide) wd_191 rfl dX3_cause_1 ?_
  refine lv_iload_n hx hb dX3_cause_4 rfl (lv_at hl 1 rfl) ?_
  refine callR (runV hx hb hg hown hml hl.1 (c_X1_has l D k (sh 8 ad) (pj V) x) [.int x] [] (preR (mapSome_sub hh.1 [8, 9, 10, 11, 12, 13, 14, 15] rfl) hK hN xb0 x0) (va_recv hK hh.1 (ci := 1) (q0 := 8) rfl rfl) wd_252 wd_253 wd_254 wd_50 wd_255 lk_X1_has ⟨rfl, rfl⟩ ⟨by decide, by decide⟩ ⟨Nat.zero_le _, Nat.zero_le _⟩ rfl (Nat.le_of_ble_eq_true rfl) dX3_cause_5) (fun r_5 q_5 => ?_)
  obtain rfl := q_5
  refine lv_if_eq (tgt := 24) hx hb dX3_cause_8 (by decide) (fun c_8 => ?_) (fun c_8 => ?_)
  · have c_8 := has_no hv c_8
    refine lv_iconst (v := (-1)) hx hb dX3_cause_24 (by decide) ?_
    exact retI (Wd := wS k ad) (v := (-1)) (V) hx hb hr hlocks dX3_cause_25 hh (⟨CaS.rf hc, Or.inl ⟨fun h => c_8 h.1, rfl⟩⟩)
  · obtain ⟨q, hq, hxe⟩ := has_yes hv c_8
    refine lv_iload_n hx hb dX3_cause_11 rfl (lv_at hl 2 rfl) ?_
    refine lv_if_lt (tgt := 24) hx hb dX3_cause_12 (by decide) (fun c_12 => ?_) (fun c_12 => ?_)
    · refine lv_iconst (v := (-1)) hx hb dX3_cause_24 (by decide) ?_
      exact retI (Wd := wS k ad) (v := (-1)) (V) hx hb hr hlocks dX3_cause_25 hh (⟨CaS.rf hc, Or.inl ⟨fun h => h.2.1 c_12, rfl⟩⟩)
    · refine lv_iload_n hx hb dX3_cause_15 rfl (lv_at hl 3 rfl) ?_
      refine lv_if_lt (tgt := 24) hx hb dX3_cause_16 (by decide) (fun c_16 => ?_) (fun c_16 => ?_)
      · refine lv_iconst (v := (-1)) hx hb dX3_cause_24 (by decide) ?_
        exact retI (Wd := wS k ad) (v := (-1)) (V) hx hb hr hlocks dX3_cause_25 hh (⟨CaS.rf hc, Or.inl ⟨fun h => rgt_neg (by decide) c_16 h.2.2, rfl⟩⟩)
      · refine lv_iload_n hx hb dX3_cause_19 rfl (lv_at hl 3 rfl) ?_
        refine lv_iconst (v := 1) hx hb dX3_cause_20 (by decide) ?_
        refine lv_icmp_le (tgt := 26) hx hb dX3_cause_21 (by decide) (fun c_21 => ?_) (fun c_21 => ?_)
        · have hz2 := le1_rgt c_16 c_21
          obtain ⟨kk, hkk, hye⟩ := nI_of c_12
          refine lv_aload_n hx hb dX3_cause_26 rfl (lv_at hl 0 rfl) ?_
          refine callWA (D := D) (wn := fun U => wS k ad U) (wr := []) (runV hx hb hg hown hml hl.1 ((c_X3_reasonsNow l D k ad V hv hc) s.heap.size) [] [] (preX (mapSome_sub hh.1 [0, 1, 2, 3, 4, 5, 6, 7, 8, 9, 10, 11, 12, 13, 14, 15, 16, 17, 18, 19, 20, 21, 22, 23, 24, 25, 26, 27, 28, 29, 30, 31, 32, 33, 34, 35, 36, 37, 38, 39, 40, 41, 42, 43, 44, 45, 46, 47, 48, 49, 50, 51, 52, 53, 54, 55, 56, 57, 58, 59, 60] rfl) (hh.2.1.sub [0, 1, 2, 3, 4, 5, 6, 7, 8, 9, 10, 11, 12, 13, 14, 15, 16, 17, 18, 19, 20, 21, 22, 23, 24, 25, 26, 27, 28, 29, 30, 31, 32, 33, 34, 35, 36, 37, 38, 39, 40, 41, 42, 43, 44, 45, 46, 47, 48, 49, 50, 51, 52, 53, 54, 55, 56, 57, 58, 59, 60] (by decide) rfl) hK hN xb0 x0) (va_recv hK hh.1 (ci := 3) (q0 := 0) rfl rfl) wd_280 wd_282 wd_0 wd_49 wd_283 lk_X3_reasonsNow ⟨rfl, rfl⟩ ⟨by decide, by decide⟩ ⟨Nat.zero_le _, Nat.zero_le _⟩ rfl (Nat.le_of_ble_eq_true rfl) dX3_cause_27) hA hh [0, 1, 2, 3, 4, 5, 6, 7, 8, 9, 10, 11, 12, 13, 14, 15, 16, 17, 18, 19, 20, 21, 22, 23, 24, 25, 26, 27, 28, 29, 30, 31, 32, 33, 34, 35, 36, 37, 38, 39, 40, 41, 42, 43, 44, 45, 46, 47, 48, 49, 50, 51, 52, 53, 54, 55, 56, 57, 58, 59, 60] [] [0, 1, 2, 3, 4, 5, 6, 7, 8, 9, 10, 11, 12, 13, 14, 15, 16, 17, 18, 19, 20, 21, 22, 23, 24, 25, 26, 27, 28, 29, 30, 31, 32, 33, 34, 35, 36, 37, 38, 39, 40, 41, 42, 43, 44, 45, 46, 47, 48, 49, 50, 51, 52, 53, 54, 55, 56, 57, 58, 59, 60] rfl rfl (by decide) (by decide) (by decide) (fun _ => rfl) (fun U H locs q_27 hh => ?_)
          obtain ⟨fU, o2, hRG⟩ := q_27
          refine lv_iload_n hx hb dX3_cause_30 rfl (lv_at hl 1 rfl) ?_
          refine topv (nI q) hxe ?_
          refine lv_iload_n hx hb dX3_cause_31 rfl (lv_at hl 2 rfl) ?_
          refine topv (nI kk) hye ?_
          refine lv_iload_n hx hb dX3_cause_32 rfl (lv_at hl 3 rfl) ?_
          refine lv_iconst (v := 1) hx hb dX3_cause_33 (by decide) ?_
          refine lv_icmp_ne (tgt := 41) hx hb dX3_cause_34 (by decide) (fun c_34 => ?_) (fun c_34 => ?_)
          · refine lv_iconst (v := 0) hx hb dX3_cause_41 (by decide) ?_
            refine callR (runV hx hb hg hown hml hl.1 (c_X2_kthCause l D k (sh 16 ad) (tr 16 15 U) hRG.1 hn24 (q := q) (by omega) (kk := kk) hkk false) [.int (nI q), .int (nI kk), .int 0] [] (preR (mapSome_sub hh.1 [16, 17, 18, 19, 20, 21, 22, 23, 24, 25, 26, 27, 28, 29, 30] rfl) hK hN xb0 x0) (va_recv hK hh.1 (ci := 2) (q0 := 16) rfl rfl) wd_474 wd_475 wd_476 wd_51 wd_477 lk_X2_kthCause ⟨rfl, rfl⟩ ⟨by decide, by decide⟩ ⟨Nat.zero_le _, Nat.zero_le _⟩ rfl (Nat.le_of_ble_eq_true rfl) dX3_cause_42) (fun r_42 q_42 => ?_)
            obtain rfl := q_42
            exact retI (Wd := wS k ad) (v := match kthS (hgF (tr 16 15 U) q) (4 * n) 0 kk with | none => -4 | some i => if false = true then nI (1 + i % 4) else nI (i / 4)) (U) hx hb hr hlocks dX3_cause_45 hh (⟨CaS.of fU o2 hRG, Or.inr ⟨q, kk, hq, hxe, hkk, hye, hz2, hgF (tr 16 15 U) q, (fun i => by show bt (tr 16 15 U (11 + i % 4) q) (i / 4) = true ↔ _; exact hRG.row hq (Nat.mod_lt i (by decide)) (i / 4)), by cases kthS (hgF (tr 16 15 U) q) (4 * n) 0 kk with | none => rfl | some i => (show _ = ite _ _ _; rw [if_neg c_34]; rfl)⟩⟩)
          · refine lv_iconst (v := 1) hx hb dX3_cause_37 (by decide) ?_
            refine lv_goto (tgt := 42) hx hb dX3_cause_38 (by decide) ?_
            refine callR (runV hx hb hg hown hml hl.1 (c_X2_kthCause l D k (sh 16 ad) (tr 16 15 U) hRG.1 hn24 (q := q) (by omega) (kk := kk) hkk true) [.int (nI q), .int (nI kk), .int 1] [] (preR (mapSome_sub hh.1 [16, 17, 18, 19, 20, 21, 22, 23, 24, 25, 26, 27, 28, 29, 30] rfl) hK hN xb0 x0) (va_recv hK hh.1 (ci := 2) (q0 := 16) rfl rfl) wd_474 wd_475 wd_476 wd_51 wd_477 lk_X2_kthCause ⟨rfl, rfl⟩ ⟨by decide, by decide⟩ ⟨Nat.zero_le _, Nat.zero_le _⟩ rfl (Nat.le_of_ble_eq_true rfl) dX3_cause_42) (fun r_42 q_42 => ?_)
            obtain rfl := q_42
            exact retI (Wd := wS k ad) (v := match kthS (hgF (tr 16 15 U) q) (4 * n) 0 kk with | none => -4 | some i => if true = true then nI (1 + i % 4) else nI (i / 4)) (U) hx hb hr hlocks dX3_cause_45 hh (⟨CaS.of fU o2 hRG, Or.inr ⟨q, kk, hq, hxe, hkk, hye, hz2, hgF (tr 16 15 U) q, (fun i => by show bt (tr 16 15 U (11 + i % 4) q) (i / 4) = true ↔ _; exact hRG.row hq (Nat.mod_lt i (by decide)) (i / 4)), by cases kthS (hgF (tr 16 15 U) q) (4 * n) 0 kk with | none => rfl | some i => (show _ = ite _ _ _; rw [if_pos c_34]; rfl)⟩⟩)
        · refine lv_iconst (v := (-1)) hx hb dX3_cause_24 (by decide) ?_
          exact retI (Wd := wS k ad) (v := (-1)) (V) hx hb hr hlocks dX3_cause_25 hh (⟨CaS.rf hc, Or.inl ⟨fun h => gt1_rgt c_21 h.2.2, rfl⟩⟩)
theorem pf_tr {P : St} {I : Nat → Int32} {x : Int32} {w n : Nat} {r : Int32} {V u : St} (h : pfS P I x w n r u) : pfS P I x w n r (tr 31 6 (put 31 6 V u)) := by
  obtain ⟨U0, c, s, m, a1, a2, a3, a4, a5, a6, a7⟩ := h
  have e : ∀ i, i < 6 → tr 31 6 (put 31 6 V u) i = u i := fun i hi => by rw [tr_in hi, put_in hi]
  refine ⟨U0, c, s, m, a1, a2, a3, a4, ?_, ?_, ?_⟩
  · rw [e 0 (by omega)]; exact a5
  · rw [e 0 (by omega)]; exact a6
  · rw [e 0 (by omega), e 1 (by omega), e 2 (by omega), e 3 (by omega), e 5 (by omega)]; exact a7
abbrev rmX3_run : Room := { frames := 6, cells := 0, slots := 0, locals := 133 }
theorem lk_X3_run : Lk yX3_run 2 := by decide +kernel
set_option maxHeartbeats 4000000 in
set_option maxRecDepth 100000 in
/-- run(of, w) -/
theorem c_X3_run (l : Launch) (D : va_G) (k : Nat → ClassId) (ad : Nat → Nat) (V : St) {n : Nat} (hv : okV n (pj V)) (hc : Ca n V) (x y : Int32) : CtX noX l yX3_run cX3_run 4 (some .int) rmX3_run D (tyL k) (wS k ad V) [.ref (ad 0), .int x, .int y] (qI D (wS k ad) (fun r U => (¬ (rgt y n ∧ (x = -4 ∨ rgt x n)) ∧ r = -1 ∧ U = V) ∨ (∃ w m, w < n ∧ y = nI w ∧ seR n (pj V) x m ∧ pfS (pj V) (V 1) m w n r (tr 31 6 U) ∧ FrR n V U))) := by
  refine CtX.mk (by decide) (Nat.le_of_ble_eq_true rfl) ?_
  intro p e s m below meth c hx hb hml hown hg hr hlocks hK hN A hA hX hh ls hl
  have hh : Hd D A (wS k ad V) s.heap s.heap [] := hh
  have hl : lv_has ls 4 [(0, .ref (ad 0)), (1, .int x), (2, .int y)] := hl
  have hn24 := hv.1
  refine lv_aload_n hx hb dX3_run_0 rfl (lv_at hl 0 rfl) ?_
  refine gfl hx hb hg inX3 hown hK hh.1 0 (ci := 3) rfl rfl 0 (by decide) wd_191 rfl dX3_run_1 ?_
  refine lv_iload_n hx hb dX3_run_4 rfl (lv_at hl 2 rfl) ?_
  refine callR (runV hx hb hg hown hml hl.1 (c_X1_has l D k (sh 8 ad) (pj V) y) [.int y] [] (preR (mapSome_sub hh.1 [8, 9, 10, 11, 12, 13, 14, 15] rfl) hK hN xb0 x0) (va_recv hK hh.1 (ci := 1) (q0 := 8) rfl rfl) wd_252 wd_253 wd_254 wd_50 wd_255 lk_X1_has ⟨rfl, rfl⟩ ⟨by decide, by decide⟩ ⟨Nat.zero_le _, Nat.zero_le _⟩ rfl (Nat.le_of_ble_eq_true rfl) dX3_run_5) (fun r_5 q_5 => ?_)
  obtain rfl := q_5
  refine lv_if_eq (tgt := 28) hx hb dX3_run_8 (by decide) (fun c_8 => ?_) (fun c_8 => ?_)
  · have c_8 := has_no hv c_8
    refine lv_iconst (v := (-1)) hx hb dX3_run_28 (by decide) ?_
    exact retI (Wd := wS k ad) (v := (-1)) (V) hx hb hr hlocks dX3_run_29 hh (Or.inl ⟨fun z => c_8 z.1, rfl, rfl⟩)
  · obtain ⟨q2, hq2, hye⟩ := has_yes hv c_8
    refine lv_iload_n hx hb dX3_run_11 rfl (lv_at hl 1 rfl) ?_
    refine lv_bipush (v := (-4)) hx hb dX3_run_12 (by decide) ?_
    refine lv_icmp_eq (tgt := 30) hx hb dX3_run_14 (by decide) (fun c_14 => ?_) (fun c_14 => ?_)
    · refine lv_aload_n hx hb dX3_run_30 rfl (lv_at hl 0 rfl) ?_
      refine lv_dup hx hb dX3_run_31 rfl ?_
      refine gfl hx hb hg inX3 hown hK hh.1 0 (ci := 3) rfl rfl 7 (by decide) wd_198 rfl dX3_run_32 ?_
      refine lv_iconst (v := 1) hx hb dX3_run_35 (by decide) ?_
      refine lv_iadd hx hb dX3_run_36 ?_
      refine pfl hx hb hg inX3 tyX3 tyX3_ok nmX3 hown hK hh 0 (ci := 3) rfl rfl 7 (by decide) wd_198 rfl rfl rfl (Nat.le_of_ble_eq_true rfl) dX3_run_37 (wS k ad (va_up V 0 (upd (V 0) 7 ((V 0 7) + 1)))) rfl (fun H locs hh => ?_)
      obtain ⟨V1, eV1⟩ : ∃ z : St, z = va_up V 0 (upd (V 0) 7 ((V 0 7) + 1)) := ⟨_, rfl⟩
      rw [← eV1] at hh
      have p1 : pj V1 = pj V := by rw [eV1]; exact pj_eq (fun i hi => up_n (by omega))
      have hv1 : okV n (pj V1) := by rw [p1]; exact hv
      have hc1 : Ca n V1 := by
        unfold Ca
        rw [p1, show tr 16 15 V1 = tr 16 15 V by rw [eV1]; exact tr_eq (fun i hi => up_n (by omega)), show V1 0 2 = V 0 2 by rw [eV1]; rfl]
        exact hc
      have f1 : ∀ c, ¬ c = 0 → V1 c = V c := fun c h => by rw [eV1, up_n h]
      have g1 : ∀ j, ¬ j = 7 → V1 0 j = V 0 j := fun j h => by rw [eV1, up_s, upd_n h]
      have g7 : V1 0 7 = V 0 7 + 1 := by rw [eV1, up_s, upd_s]
      refine lv_iload_n hx hb dX3_run_40 rfl (lv_at hl 1 rfl) ?_
      refine lv_bipush (v := (-4)) hx hb dX3_run_41 (by decide) ?_
      refine lv_icmp_ne (tgt := 56) hx hb dX3_run_43 (by decide) (fun c_43 => ?_) (fun c_43 => ?_)
      · exact absurd c_14 c_43
      · refine lv_aload_n hx hb dX3_run_46 rfl (lv_at hl 0 rfl) ?_
        refine gfl hx hb hg inX3 hown hK hh.1 0 (ci := 3) rfl rfl 0 (by decide) wd_191 rfl dX3_run_47 ?_
        refine callR (runV hx hb hg hown hml hl.1 (c_X1_all l D k (sh 8 ad) (pj V1) hv1) [] [] (preR (mapSome_sub hh.1 [8, 9, 10, 11, 12, 13, 14, 15] rfl) hK hN xb0 x0) (va_recv hK hh.1 (ci := 1) (q0 := 8) rfl rfl) wd_276 wd_277 wd_278 wd_50 wd_279 lk_X1_all ⟨rfl, rfl⟩ ⟨by decide, by decide⟩ ⟨Nat.zero_le _, Nat.zero_le _⟩ rfl (Nat.le_of_ble_eq_true rfl) dX3_run_50) (fun r_50 q_50 => ?_)
        obtain rfl := q_50
        refine lv_goto (tgt := 64) hx hb dX3_run_53 (by decide) ?_
        refine lv_istore_n (lv' := [(3, .int (bitI n - 1)), (0, .ref (ad 0)), (1, .int x), (2, .int y)]) hx hb dX3_run_64 rfl hl (by decide) rfl (fun ls hl => ?_)
        refine lv_aload_n hx hb dX3_run_65 rfl (lv_at hl 1 rfl) ?_
        refine gfl hx hb hg inX3 hown hK hh.1 0 (ci := 3) rfl rfl 6 (by decide) wd_197 rfl dX3_run_66 ?_
        refine lv_aload_n hx hb dX3_run_69 rfl (lv_at hl 1 rfl) ?_
        refine gfl hx hb hg inX3 hown hK hh.1 0 (ci := 3) rfl rfl 0 (by decide) wd_191 rfl dX3_run_70 ?_
        refine lv_aload_n hx hb dX3_run_73 rfl (lv_at hl 1 rfl) ?_
        refine gfl hx hb hg inX3 hown hK hh.1 0 (ci := 3) rfl rfl 3 (by decide) wd_194 rfl dX3_run_74 ?_
        refine lv_iload_n hx hb dX3_run_77 rfl (lv_at hl 0 rfl) ?_
        refine lv_iload_n hx hb dX3_run_78 rfl (lv_at hl 3 rfl) ?_
        refine topv (nI q2) hye ?_
        refine callWI (D := D) (wn := fun u9 => wS k ad (put 31 6 V1 u9)) (wr := [(ad 0, .inr (3, [.ref (ad 8), .ref (ad 16), .int (V1 0 2), .ref (ad 1), .ref (ad 2), .int (V1 0 5), .ref (ad 31), .int (V1 0 7), .ref (ad 3), .ref (ad 55), .ref (ad 4), .int (V1 0 11)])), (ad 2, aR (k 2) 3 (fun i => some (ad (5 + i)))), (ad 3, aR (k 3) 3 (fun i => some (ad (37 + 6 * i)))), (ad 4, aI k 24 (V1 4)), (ad 5, aI k 4 (V1 5)), (ad 6, aI k 4 (V1 6)), (ad 7, aI k 4 (V1 7)), (ad 16, .inr (2, [.int (V1 16 0), .ref (ad 17), .ref (ad 18), .ref (ad 19), .ref (ad 20), .ref (ad 21), .ref (ad 22), .ref (ad 23), .ref (ad 24), .ref (ad 25)])), (ad 17, aI k 24 (V1 17)), (ad 18, aI k 24 (V1 18)), (ad 19, aI k 24 (V1 19)), (ad 20, aR (k 2) 5 (fun i => some (ad (16 + (10 + i))))), (ad 21, aI k 24 (V1 21)), (ad 22, aI k 24 (V1 22)), (ad 23, aI k 24 (V1 23)), (ad 24, aI k 24 (V1 24)), (ad 25, aI k 24 (V1 25)), (ad 26, aI k 24 (V1 26)), (ad 27, aI k 24 (V1 27)), (ad 28, aI k 24 (V1 28)), (ad 29, aI k 24 (V1 29)), (ad 30, aI k 24 (V1 30)), (ad 37, .inr (0, [.ref (ad 38), .ref (ad 39), .ref (ad 40), .ref (ad 41), .ref (ad 42), .int (V1 37 5), .int (V1 37 6), .int (V1 37 7), .int (V1 37 8)])), (ad 38, aI k 8 (V1 38)), (ad 39, aI k 32 (V1 39)), (ad 40, aI k 4 (V1 40)), (ad 41, aI k 4 (V1 41)), (ad 42, aI k 100 (V1 42)), (ad 43, .inr (0, [.ref (ad 44), .ref (ad 45), .ref (ad 46), .ref (ad 47), .ref (ad 48), .int (V1 43 5), .int (V1 43 6), .int (V1 43 7), .int (V1 43 8)])), (ad 44, aI k 8 (V1 44)), (ad 45, aI k 32 (V1 45)), (ad 46, aI k 4 (V1 46)), (ad 47, aI k 4 (V1 47)), (ad 48, aI k 100 (V1 48)), (ad 49, .inr (0, [.ref (ad 50), .ref (ad 51), .ref (ad 52), .ref (ad 53), .ref (ad 54), .int (V1 49 5), .int (V1 49 6), .int (V1 49 7), .int (V1 49 8)])), (ad 50, aI k 8 (V1 50)), (ad 51, aI k 32 (V1 51)), (ad 52, aI k 4 (V1 52)), (ad 53, aI k 4 (V1 53)), (ad 54, aI k 100 (V1 54)), (ad 55, .inr (0, [.ref (ad 56), .ref (ad 57), .ref (ad 58), .ref (ad 59), .ref (ad 60), .int (V1 55 5), .int (V1 55 6), .int (V1 55 7), .int (V1 55 8)])), (ad 56, aI k 8 (V1 56)), (ad 57, aI k 32 (V1 57)), (ad 58, aI k 4 (V1 58)), (ad 59, aI k 4 (V1 59)), (ad 60, aI k 100 (V1 60))]) (runV hx hb hg hown hml hl.1 ((c_X0_perform l D k (sh 31 ad) (tr 31 6 V1) (sh 8 ad) (pj V1) hv1 (ad 1) (V1 1) (bitI n - 1) (w := q2) (by omega)) H.size) [.ref (ad 8), .ref (ad 1), .int (bitI n - 1), .int (nI q2)] [] (preX (mapSome_sub hh.1 [31, 32, 33, 34, 35, 36, 8, 9, 10, 11, 12, 13, 14, 15, 1] rfl) (hh.2.1.sub [31, 32, 33, 34, 35, 36, 8, 9, 10, 11, 12, 13, 14, 15, 1] (by decide) rfl) hK hN xb0 x0) (va_recv hK hh.1 (ci := 0) (q0 := 31) rfl rfl) wd_381 wd_382 wd_383 wd_52 wd_384 lk_X0_perform ⟨rfl, rfl⟩ ⟨by decide, by decide⟩ ⟨Nat.zero_le _, Nat.zero_le _⟩ rfl (Nat.le_of_ble_eq_true rfl) dX3_run_79) hA hh [31, 32, 33, 34, 35, 36, 8, 9, 10, 11, 12, 13, 14, 15, 1] [0, 2, 3, 4, 5, 6, 7, 16, 17, 18, 19, 20, 21, 22, 23, 24, 25, 26, 27, 28, 29, 30, 37, 38, 39, 40, 41, 42, 43, 44, 45, 46, 47, 48, 49, 50, 51, 52, 53, 54, 55, 56, 57, 58, 59, 60] [0, 60, 1, 2, 3, 4, 5, 6, 52, 53, 54, 55, 56, 57, 58, 59, 7, 8, 9, 10, 11, 12, 13, 14, 15, 16, 17, 18, 19, 20, 21, 46, 47, 48, 49, 50, 51, 22, 23, 24, 25, 26, 27, 28, 29, 30, 31, 32, 33, 34, 35, 36, 37, 38, 39, 40, 41, 42, 43, 44, 45] rfl rfl (by decide) (by decide) (by decide) (fun _ => rfl) (fun r_79 u9 H locs q_79 hh => ?_)
        exact retI (Wd := wS k ad) (v := r_79) (put 31 6 V1 u9) hx hb hr hlocks dX3_run_82 hh (Or.inr ⟨q2, _, hq2, hye, Or.inl ⟨c_43, all_bt hn24⟩, by rw [p1, f1 1 (by decide)] at q_79; exact pf_tr q_79, ⟨fun c a b => by rw [put_out (by omega), f1 c b], fun j a b => by rw [put_out (by omega), g1 j b], by rw [put_out (by omega), g7], by unfold Ca; rw [show pj (put 31 6 V1 u9) = pj V1 from pj_eq (fun i hi => put_out (by omega)), show tr 16 15 (put 31 6 V1 u9) = tr 16 15 V1 from tr_eq (fun i hi => put_out (by omega)), put_out (by omega)]; exact hc1⟩⟩)
    · refine lv_aload_n hx hb dX3_run_17 rfl (lv_at hl 0 rfl) ?_
      refine gfl hx hb hg inX3 hown hK hh.1 0 (ci := 3) rfl rfl 0 (by decide) wd_191 rfl dX3_run_18 ?_
      refine lv_iload_n hx hb dX3_run_21 rfl (lv_at hl 1 rfl) ?_
      refine callR (runV hx hb hg hown hml hl.1 (c_X1_has l D k (sh 8 ad) (pj V) x) [.int x] [] (preR (mapSome_sub hh.1 [8, 9, 10, 11, 12, 13, 14, 15] rfl) hK hN xb0 x0) (va_recv hK hh.1 (ci := 1) (q0 := 8) rfl rfl) wd_252 wd_253 wd_254 wd_50 wd_255 lk_X1_has ⟨rfl, rfl⟩ ⟨by decide, by decide⟩ ⟨Nat.zero_le _, Nat.zero_le _⟩ rfl (Nat.le_of_ble_eq_true rfl) dX3_run_22) (fun r_22 q_22 => ?_)
      obtain rfl := q_22
      refine lv_if_ne (tgt := 30) hx hb dX3_run_25 (by decide) (fun c_25 => ?_) (fun c_25 => ?_)
      · obtain ⟨q, hq, hxe⟩ := has_yes hv c_25
        refine lv_aload_n hx hb dX3_run_30 rfl (lv_at hl 0 rfl) ?_
        refine lv_dup hx hb dX3_run_31 rfl ?_
        refine gfl hx hb hg inX3 hown hK hh.1 0 (ci := 3) rfl rfl 7 (by decide) wd_198 rfl dX3_run_32 ?_
        refine lv_iconst (v := 1) hx hb dX3_run_35 (by decide) ?_
        refine lv_iadd hx hb dX3_run_36 ?_
        refine pfl hx hb hg inX3 tyX3 tyX3_ok nmX3 hown hK hh 0 (ci := 3) rfl rfl 7 (by decide) wd_198 rfl rfl rfl (Nat.le_of_ble_eq_true rfl) dX3_run_37 (wS k ad (va_up V 0 (upd (V 0) 7 ((V 0 7) + 1)))) rfl (fun H locs hh => ?_)
        obtain ⟨V1, eV1⟩ : ∃ z : St, z = va_up V 0 (upd (V 0) 7 ((V 0 7) + 1)) := ⟨_, rfl⟩
        rw [← eV1] at hh
        have p1 : pj V1 = pj V := by rw [eV1]; exact pj_eq (fun i hi => up_n (by omega))
        have hv1 : okV n (pj V1) := by rw [p1]; exact hv
        have hc1 : Ca n V1 := by
          unfold Ca
          rw [p1, show tr 16 15 V1 = tr 16 15 V by rw [eV1]; exact tr_eq (fun i hi => up_n (by omega)), show V1 0 2 = V 0 2 by rw [eV1]; rfl]
          exact hc
        have f1 : ∀ c, ¬ c = 0 → V1 c = V c := fun c h => by rw [eV1, up_n h]
        have g1 : ∀ j, ¬ j = 7 → V1 0 j = V 0 j := fun j h => by rw [eV1, up_s, upd_n h]
        have g7 : V1 0 7 = V 0 7 + 1 := by rw [eV1, up_s, upd_s]
        refine lv_iload_n hx hb dX3_run_40 rfl (lv_at hl 1 rfl) ?_
        refine lv_bipush (v := (-4)) hx hb dX3_run_41 (by decide) ?_
        refine lv_icmp_ne (tgt := 56) hx hb dX3_run_43 (by decide) (fun c_43 => ?_) (fun c_43 => ?_)
        · refine lv_aload_n hx hb dX3_run_56 rfl (lv_at hl 0 rfl) ?_
          refine callWA (D := D) (wn := fun U => wS k ad U) (wr := []) (runV hx hb hg hown hml hl.1 ((c_X3_reasonsNow l D k ad V1 hv1 hc1) H.size) [] [] (preX (mapSome_sub hh.1 [0, 1, 2, 3, 4, 5, 6, 7, 8, 9, 10, 11, 12, 13, 14, 15, 16, 17, 18, 19, 20, 21, 22, 23, 24, 25, 26, 27, 28, 29, 30, 31, 32, 33, 34, 35, 36, 37, 38, 39, 40, 41, 42, 43, 44, 45, 46, 47, 48, 49, 50, 51, 52, 53, 54, 55, 56, 57, 58, 59, 60] rfl) (hh.2.1.sub [0, 1, 2, 3, 4, 5, 6, 7, 8, 9, 10, 11, 12, 13, 14, 15, 16, 17, 18, 19, 20, 21, 22, 23, 24, 25, 26, 27, 28, 29, 30, 31, 32, 33, 34, 35, 36, 37, 38, 39, 40, 41, 42, 43, 44, 45, 46, 47, 48, 49, 50, 51, 52, 53, 54, 55, 56, 57, 58, 59, 60] (by decide) rfl) hK hN xb0 x0) (va_recv hK hh.1 (ci := 3) (q0 := 0) rfl rfl) wd_280 wd_282 wd_0 wd_49 wd_283 lk_X3_reasonsNow ⟨rfl, rfl⟩ ⟨by decide, by decide⟩ ⟨Nat.zero_le _, Nat.zero_le _⟩ rfl (Nat.le_of_ble_eq_true rfl) dX3_run_57) hA hh [0, 1, 2, 3, 4, 5, 6, 7, 8, 9, 10, 11, 12, 13, 14, 15, 16, 17, 18, 19, 20, 21, 22, 23, 24, 25, 26, 27, 28, 29, 30, 31, 32, 33, 34, 35, 36, 37, 38, 39, 40, 41, 42, 43, 44, 45, 46, 47, 48, 49, 50, 51, 52, 53, 54, 55, 56, 57, 58, 59, 60] [] [0, 1, 2, 3, 4, 5, 6, 7, 8, 9, 10, 11, 12, 13, 14, 15, 16, 17, 18, 19, 20, 21, 22, 23, 24, 25, 26, 27, 28, 29, 30, 31, 32, 33, 34, 35, 36, 37, 38, 39, 40, 41, 42, 43, 44, 45, 46, 47, 48, 49, 50, 51, 52, 53, 54, 55, 56, 57, 58, 59, 60] rfl rfl (by decide) (by decide) (by decide) (fun _ => rfl) (fun U H locs q_57 hh => ?_)
          obtain ⟨fU, o2, hRG⟩ := q_57
          have hvU : okV n (pj U) := by rw [fU.pj]; exact hv1
          refine lv_iload_n hx hb dX3_run_60 rfl (lv_at hl 1 rfl) ?_
          refine topv (nI q) hxe ?_
          refine callR (runV hx hb hg hown hml hl.1 (c_X2_backOf l D k (sh 16 ad) (tr 16 15 U) (q := q) (by omega)) [.int (nI q)] [] (preR (mapSome_sub hh.1 [16, 17, 18, 19, 20, 21, 22, 23, 24, 25, 26, 27, 28, 29, 30] rfl) hK hN xb0 x0) (va_recv hK hh.1 (ci := 2) (q0 := 16) rfl rfl) wd_377 wd_378 wd_379 wd_51 wd_380 lk_X2_backOf ⟨rfl, rfl⟩ ⟨by decide, by decide⟩ ⟨Nat.zero_le _, Nat.zero_le _⟩ rfl (Nat.le_of_ble_eq_true rfl) dX3_run_61) (fun r_61 q_61 => ?_)
          obtain rfl := q_61
          refine lv_istore_n (lv' := [(3, .int (tr 16 15 U 7 q)), (0, .ref (ad 0)), (1, .int x), (2, .int y)]) hx hb dX3_run_64 rfl hl (by decide) rfl (fun ls hl => ?_)
          refine lv_aload_n hx hb dX3_run_65 rfl (lv_at hl 1 rfl) ?_
          refine gfl hx hb hg inX3 hown hK hh.1 0 (ci := 3) rfl rfl 6 (by decide) wd_197 rfl dX3_run_66 ?_
          refine lv_aload_n hx hb dX3_run_69 rfl (lv_at hl 1 rfl) ?_
          refine gfl hx hb hg inX3 hown hK hh.1 0 (ci := 3) rfl rfl 0 (by decide) wd_191 rfl dX3_run_70 ?_
          refine lv_aload_n hx hb dX3_run_73 rfl (lv_at hl 1 rfl) ?_
          refine gfl hx hb hg inX3 hown hK hh.1 0 (ci := 3) rfl rfl 3 (by decide) wd_194 rfl dX3_run_74 ?_
          refine lv_iload_n hx hb dX3_run_77 rfl (lv_at hl 0 rfl) ?_
          refine lv_iload_n hx hb dX3_run_78 rfl (lv_at hl 3 rfl) ?_
          refine topv (nI q2) hye ?_
          refine callWI (D := D) (wn := fun u9 => wS k ad (put 31 6 U u9)) (wr := [(ad 0, .inr (3, [.ref (ad 8), .ref (ad 16), .int (U 0 2), .ref (ad 1), .ref (ad 2), .int (U 0 5), .ref (ad 31), .int (U 0 7), .ref (ad 3), .ref (ad 55), .ref (ad 4), .int (U 0 11)])), (ad 2, aR (k 2) 3 (fun i => some (ad (5 + i)))), (ad 3, aR (k 3) 3 (fun i => some (ad (37 + 6 * i)))), (ad 4, aI k 24 (U 4)), (ad 5, aI k 4 (U 5)), (ad 6, aI k 4 (U 6)), (ad 7, aI k 4 (U 7)), (ad 16, .inr (2, [.int (U 16 0), .ref (ad 17), .ref (ad 18), .ref (ad 19), .ref (ad 20), .ref (ad 21), .ref (ad 22), .ref (ad 23), .ref (ad 24), .ref (ad 25)])), (ad 17, aI k 24 (U 17)), (ad 18, aI k 24 (U 18)), (ad 19, aI k 24 (U 19)), (ad 20, aR (k 2) 5 (fun i => some (ad (16 + (10 + i))))), (ad 21, aI k 24 (U 21)), (ad 22, aI k 24 (U 22)), (ad 23, aI k 24 (U 23)), (ad 24, aI k 24 (U 24)), (ad 25, aI k 24 (U 25)), (ad 26, aI k 24 (U 26)), (ad 27, aI k 24 (U 27)), (ad 28, aI k 24 (U 28)), (ad 29, aI k 24 (U 29)), (ad 30, aI k 24 (U 30)), (ad 37, .inr (0, [.ref (ad 38), .ref (ad 39), .ref (ad 40), .ref (ad 41), .ref (ad 42), .int (U 37 5), .int (U 37 6), .int (U 37 7), .int (U 37 8)])), (ad 38, aI k 8 (U 38)), (ad 39, aI k 32 (U 39)), (ad 40, aI k 4 (U 40)), (ad 41, aI k 4 (U 41)), (ad 42, aI k 100 (U 42)), (ad 43, .inr (0, [.ref (ad 44), .ref (ad 45), .ref (ad 46), .ref (ad 47), .ref (ad 48), .int (U 43 5), .int (U 43 6), .int (U 43 7), .int (U 43 8)])), (ad 44, aI k 8 (U 44)), (ad 45, aI k 32 (U 45)), (ad 46, aI k 4 (U 46)), (ad 47, aI k 4 (U 47)), (ad 48, aI k 100 (U 48)), (ad 49, .inr (0, [.ref (ad 50), .ref (ad 51), .ref (ad 52), .ref (ad 53), .ref (ad 54), .int (U 49 5), .int (U 49 6), .int (U 49 7), .int (U 49 8)])), (ad 50, aI k 8 (U 50)), (ad 51, aI k 32 (U 51)), (ad 52, aI k 4 (U 52)), (ad 53, aI k 4 (U 53)), (ad 54, aI k 100 (U 54)), (ad 55, .inr (0, [.ref (ad 56), .ref (ad 57), .ref (ad 58), .ref (ad 59), .ref (ad 60), .int (U 55 5), .int (U 55 6), .int (U 55 7), .int (U 55 8)])), (ad 56, aI k 8 (U 56)), (ad 57, aI k 32 (U 57)), (ad 58, aI k 4 (U 58)), (ad 59, aI k 4 (U 59)), (ad 60, aI k 100 (U 60))]) (runV hx hb hg hown hml hl.1 ((c_X0_perform l D k (sh 31 ad) (tr 31 6 U) (sh 8 ad) (pj U) hvU (ad 1) (U 1) (tr 16 15 U 7 q) (w := q2) (by omega)) H.size) [.ref (ad 8), .ref (ad 1), .int (tr 16 15 U 7 q), .int (nI q2)] [] (preX (mapSome_sub hh.1 [31, 32, 33, 34, 35, 36, 8, 9, 10, 11, 12, 13, 14, 15, 1] rfl) (hh.2.1.sub [31, 32, 33, 34, 35, 36, 8, 9, 10, 11, 12, 13, 14, 15, 1] (by decide) rfl) hK hN xb0 x0) (va_recv hK hh.1 (ci := 0) (q0 := 31) rfl rfl) wd_381 wd_382 wd_383 wd_52 wd_384 lk_X0_perform ⟨rfl, rfl⟩ ⟨by decide, by decide⟩ ⟨Nat.zero_le _, Nat.zero_le _⟩ rfl (Nat.le_of_ble_eq_true rfl) dX3_run_79) hA hh [31, 32, 33, 34, 35, 36, 8, 9, 10, 11, 12, 13, 14, 15, 1] [0, 2, 3, 4, 5, 6, 7, 16, 17, 18, 19, 20, 21, 22, 23, 24, 25, 26, 27, 28, 29, 30, 37, 38, 39, 40, 41, 42, 43, 44, 45, 46, 47, 48, 49, 50, 51, 52, 53, 54, 55, 56, 57, 58, 59, 60] [0, 60, 1, 2, 3, 4, 5, 6, 52, 53, 54, 55, 56, 57, 58, 59, 7, 8, 9, 10, 11, 12, 13, 14, 15, 16, 17, 18, 19, 20, 21, 46, 47, 48, 49, 50, 51, 22, 23, 24, 25, 26, 27, 28, 29, 30, 31, 32, 33, 34, 35, 36, 37, 38, 39, 40, 41, 42, 43, 44, 45] rfl rfl (by decide) (by decide) (by decide) (fun _ => rfl) (fun r_79 u9 H locs q_79 hh => ?_)
          exact retI (Wd := wS k ad) (v := r_79) (put 31 6 U u9) hx hb hr hlocks dX3_run_82 hh (Or.inr ⟨q2, _, hq2, hye, Or.inr ⟨q, hq, hxe, by rw [← p1]; exact hRG.back hq⟩, by rw [(fU.pj.trans p1), fU.1 1 (by decide) (by decide), f1 1 (by decide)] at q_79; exact pf_tr q_79, ⟨fun c a b => by rw [put_out (by omega), fU.1 c (by omega) b, f1 c b], fun j a b => by rw [put_out (by omega), fU.2 j a, g1 j b], by rw [put_out (by omega), fU.2 7 (by decide), g7], by unfold Ca; rw [show pj (put 31 6 U u9) = pj U from pj_eq (fun i hi => put_out (by omega)), show tr 16 15 (put 31 6 U u9) = tr 16 15 U from tr_eq (fun i hi => put_out (by omega)), put_out (by omega)]; exact (CaS.of fU o2 hRG).2⟩⟩)
        · exact absurd c_43 c_14
      · have c_25 := has_no hv c_25
        refine lv_iconst (v := (-1)) hx hb dX3_run_28 (by decide) ?_
        exact retI (Wd := wS k ad) (v := (-1)) (V) hx hb hr hlocks dX3_run_29 hh (Or.inl ⟨fun z => z.2.elim c_14 c_25, rfl, rfl⟩)
