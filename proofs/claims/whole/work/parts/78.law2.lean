/-! the law: the other calls -/
set_option maxHeartbeats 4000000 in
set_option maxRecDepth 100000 in
theorem law_11 {p : Program} {l : Launch} {e : Env} {s : State} {m : MethodId} {below : List Frame} {meth : Method} {c : Code} {b L : Nat} {xs : Nat → Int32} {D : va_G} {k : Nat → ClassId} {ad bd : Nat → Nat} {A : Nat → Prop} {cells slots : Nat} {Z : State → Prop} (hx : p.tables.exec = Jvm.exec) (hb : c.code = code) (hg : ∀ w ∈ Gw, w.before #[Value.ref b] s = true) (hml : c.maxLocals = 4) (hown : s.vm.findClass "SliceWhyLaw" = some m.cls) (hK : va_K D vwCl (tyL k) s) (hN : NstU s) (hA : ∀ q, s.heap.size ≤ q → A q) (hX : va_X b L xs s s.heap) (hbl : b < s.heap.size) (hbA : ¬ A b) (hL : L ≤ 3072) (hcs : cells ≤ 600000 ∧ slots ≤ 7302249) (hSt : Sta A s s.heap) {i : Nat} (hi : i + 6 ≤ L) {n t c9 wl : Nat} {V Q : St} (hR : Rel n t c9 wl V Q) {H : Heap} {locs : List Loc} {ls : Array Slot} (hh : Hd D A (wS k ad V ++ wQ k bd Q) s.heap H locs) (hl : lv_has ls 4 [(0, .ref b), (1, .ref (ad 0)), (2, .ref (bd 0)), (3, .int (nI i))]) (kk : ∀ (n t c9 wl : Nat) (V Q : St) (H : Heap) (locs : List Loc) (ls : Array Slot), Rel n t c9 wl V Q → Hd D A (wS k ad V ++ wQ k bd Q) s.heap H locs → lv_has ls 4 [(0, .ref b), (1, .ref (ad 0)), (2, .ref (bd 0)), (3, .int (nI i))] → W p l e room_1 s m #[Value.ref b] below meth c H locs cells slots Z (F0 m 788 ls [])) : W p l e room_1 s m #[Value.ref b] below meth c H locs cells slots Z (F0 m 515 ls []) := by
  have hv := hR.1.1
  have hpq := hR.1.2.1
  have hca := hR.1.2.2.1
  have hcq := hR.1.2.2.2
  have hvq : okV n (pq Q) := by rw [← hpq]; exact hv
  refine lv_aload_n hx hb dL_law_515 rfl (lv_at hl 1 rfl) ?_
  refine lv_aload_n hx hb dL_law_516 rfl (lv_at hl 0 rfl) ?_
  refine lv_iload_n hx hb dL_law_517 rfl (lv_at hl 3 rfl) ?_
  refine lv_iconst (v := 1) hx hb dL_law_518 (by decide) ?_
  refine lv_iadd hx hb dL_law_519 ?_
  refine topv (nI (i + 1)) (nI_add i 1) ?_
  refine sld hx hb hX hbl hbA hh (by omega) (by omega) dL_law_520 ?_
  refine callWI (D := D) (wn := fun V1 => wS k ad V1 ++ wQ k bd Q) (wr := wQ k bd Q) (runV hx hb hg hown hml hl.1 ((c_X3_follows l D k ad V hv hca (xs (i + 1))) H.size) [.int (xs (i + 1))] [] (preX (mapSome_sub hh.1 (0 :: 1 :: 2 :: 3 :: 4 :: 5 :: 6 :: 7 :: 8 :: 9 :: 10 :: 11 :: 12 :: 13 :: 14 :: 15 :: 16 :: 17 :: 18 :: 19 :: 20 :: 21 :: 22 :: 23 :: 24 :: 25 :: 26 :: 27 :: 28 :: 29 :: 30 :: 31 :: 32 :: 33 :: 34 :: 35 :: 36 :: 37 :: 38 :: 39 :: 40 :: 41 :: 42 :: 43 :: 44 :: 45 :: 46 :: 47 :: 48 :: 49 :: 50 :: 51 :: 52 :: 53 :: 54 :: 55 :: 56 :: 57 :: 58 :: 59 :: 60 :: []) rfl) (hh.2.1.sub (0 :: 1 :: 2 :: 3 :: 4 :: 5 :: 6 :: 7 :: 8 :: 9 :: 10 :: 11 :: 12 :: 13 :: 14 :: 15 :: 16 :: 17 :: 18 :: 19 :: 20 :: 21 :: 22 :: 23 :: 24 :: 25 :: 26 :: 27 :: 28 :: 29 :: 30 :: 31 :: 32 :: 33 :: 34 :: 35 :: 36 :: 37 :: 38 :: 39 :: 40 :: 41 :: 42 :: 43 :: 44 :: 45 :: 46 :: 47 :: 48 :: 49 :: 50 :: 51 :: 52 :: 53 :: 54 :: 55 :: 56 :: 57 :: 58 :: 59 :: 60 :: []) (by decide) rfl) hK hN xb0 x0) (va_recv hK hh.1 (ci := 3) (q0 := 0) rfl rfl) wd_453 wd_454 wd_455 wd_49 wd_456 lk_X3_follows ⟨rfl, rfl⟩ ⟨by decide, by decide⟩ hcs rfl (Nat.le_of_ble_eq_true rfl) dL_law_521) hA hh (0 :: 1 :: 2 :: 3 :: 4 :: 5 :: 6 :: 7 :: 8 :: 9 :: 10 :: 11 :: 12 :: 13 :: 14 :: 15 :: 16 :: 17 :: 18 :: 19 :: 20 :: 21 :: 22 :: 23 :: 24 :: 25 :: 26 :: 27 :: 28 :: 29 :: 30 :: 31 :: 32 :: 33 :: 34 :: 35 :: 36 :: 37 :: 38 :: 39 :: 40 :: 41 :: 42 :: 43 :: 44 :: 45 :: 46 :: 47 :: 48 :: 49 :: 50 :: 51 :: 52 :: 53 :: 54 :: 55 :: 56 :: 57 :: 58 :: 59 :: 60 :: []) [61, 62, 63, 64, 65, 66, 67, 68, 69, 70, 71, 72, 73, 74, 75, 76, 77, 78, 79, 80, 81, 82, 83] (23 :: 24 :: 25 :: 26 :: 27 :: 28 :: 29 :: 30 :: 31 :: 32 :: 33 :: 34 :: 35 :: 36 :: 37 :: 38 :: 39 :: 40 :: 41 :: 42 :: 43 :: 44 :: 45 :: 46 :: 47 :: 48 :: 49 :: 50 :: 51 :: 52 :: 53 :: 54 :: 55 :: 56 :: 57 :: 58 :: 59 :: 60 :: 61 :: 62 :: 63 :: 64 :: 65 :: 66 :: 67 :: 68 :: 69 :: 70 :: 71 :: 72 :: 73 :: 74 :: 75 :: 76 :: 77 :: 78 :: 79 :: 80 :: 81 :: 82 :: 83 :: 0 :: 1 :: 2 :: 3 :: 4 :: 5 :: 6 :: 7 :: 8 :: 9 :: 10 :: 11 :: 12 :: 13 :: 14 :: 15 :: 16 :: 17 :: 18 :: 19 :: 20 :: 21 :: 22 :: []) rfl rfl (by decide) (by decide) (by decide) (fun _ => rfl) (fun r1 V1 H locs q1 hh => ?_)
  refine lv_aload_n hx hb dL_law_524 rfl (lv_at hl 2 rfl) ?_
  refine lv_aload_n hx hb dL_law_525 rfl (lv_at hl 0 rfl) ?_
  refine lv_iload_n hx hb dL_law_526 rfl (lv_at hl 3 rfl) ?_
  refine lv_iconst (v := 1) hx hb dL_law_527 (by decide) ?_
  refine lv_iadd hx hb dL_law_528 ?_
  refine topv (nI (i + 1)) (nI_add i 1) ?_
  refine sld hx hb hX hbl hbA hh (by omega) (by omega) dL_law_529 ?_
  refine callR (runV hx hb hg hown hml hl.1 (c_X4_follows l D k bd Q hvq (xs (i + 1))) [.int (xs (i + 1))] [.int r1] (preR (mapSome_sub hh.1 [61, 62, 63, 64, 65, 66, 67, 68, 69, 70, 71, 72, 73, 74, 75, 76, 77, 78, 79, 80, 81, 82, 83] rfl) hK hN xb0 x0) (va_recv hK hh.1 (ci := 4) (q0 := 61) rfl rfl) wd_702 wd_703 wd_704 wd_53 wd_705 lk_X4_follows ⟨rfl, rfl⟩ ⟨by decide, by decide⟩ hcs rfl (Nat.le_of_ble_eq_true rfl) dL_law_530) (fun r2 q2 => ?_)
  rw [← hpq] at q2
  have hE := flR_u hv.1 q1.2 q2
  have hR1 := hR.viewF q1.1
  refine lv_icmp_eq (tgt := 788) hx hb dL_law_533 (by decide) (fun c9 => ?_) (fun c9 => absurd hE c9)
  exact kk _ _ _ _ V1 Q H locs ls hR1 hh hl
set_option maxHeartbeats 4000000 in
set_option maxRecDepth 100000 in
theorem law_12 {p : Program} {l : Launch} {e : Env} {s : State} {m : MethodId} {below : List Frame} {meth : Method} {c : Code} {b L : Nat} {xs : Nat → Int32} {D : va_G} {k : Nat → ClassId} {ad bd : Nat → Nat} {A : Nat → Prop} {cells slots : Nat} {Z : State → Prop} (hx : p.tables.exec = Jvm.exec) (hb : c.code = code) (hg : ∀ w ∈ Gw, w.before #[Value.ref b] s = true) (hml : c.maxLocals = 4) (hown : s.vm.findClass "SliceWhyLaw" = some m.cls) (hK : va_K D vwCl (tyL k) s) (hN : NstU s) (hA : ∀ q, s.heap.size ≤ q → A q) (hX : va_X b L xs s s.heap) (hbl : b < s.heap.size) (hbA : ¬ A b) (hL : L ≤ 3072) (hcs : cells ≤ 600000 ∧ slots ≤ 7302249) (hSt : Sta A s s.heap) {i : Nat} (hi : i + 6 ≤ L) {n t c9 wl : Nat} {V Q : St} (hR : Rel n t c9 wl V Q) {H : Heap} {locs : List Loc} {ls : Array Slot} (hh : Hd D A (wS k ad V ++ wQ k bd Q) s.heap H locs) (hl : lv_has ls 4 [(0, .ref b), (1, .ref (ad 0)), (2, .ref (bd 0)), (3, .int (nI i))]) (kk : ∀ (n t c9 wl : Nat) (V Q : St) (H : Heap) (locs : List Loc) (ls : Array Slot), Rel n t c9 wl V Q → Hd D A (wS k ad V ++ wQ k bd Q) s.heap H locs → lv_has ls 4 [(0, .ref b), (1, .ref (ad 0)), (2, .ref (bd 0)), (3, .int (nI i))] → W p l e room_1 s m #[Value.ref b] below meth c H locs cells slots Z (F0 m 788 ls [])) : W p l e room_1 s m #[Value.ref b] below meth c H locs cells slots Z (F0 m 538 ls []) := by
  have hv := hR.1.1
  have hpq := hR.1.2.1
  have hca := hR.1.2.2.1
  have hcq := hR.1.2.2.2
  have hvq : okV n (pq Q) := by rw [← hpq]; exact hv
  refine lv_aload_n hx hb dL_law_538 rfl (lv_at hl 1 rfl) ?_
  refine lv_aload_n hx hb dL_law_539 rfl (lv_at hl 0 rfl) ?_
  refine lv_iload_n hx hb dL_law_540 rfl (lv_at hl 3 rfl) ?_
  refine lv_iconst (v := 1) hx hb dL_law_541 (by decide) ?_
  refine lv_iadd hx hb dL_law_542 ?_
  refine topv (nI (i + 1)) (nI_add i 1) ?_
  refine sld hx hb hX hbl hbA hh (by omega) (by omega) dL_law_543 ?_
  refine callWI (D := D) (wn := fun V1 => wS k ad V1 ++ wQ k bd Q) (wr := wQ k bd Q) (runV hx hb hg hown hml hl.1 ((c_X3_causes l D k ad V hv hca (xs (i + 1))) H.size) [.int (xs (i + 1))] [] (preX (mapSome_sub hh.1 (0 :: 1 :: 2 :: 3 :: 4 :: 5 :: 6 :: 7 :: 8 :: 9 :: 10 :: 11 :: 12 :: 13 :: 14 :: 15 :: 16 :: 17 :: 18 :: 19 :: 20 :: 21 :: 22 :: 23 :: 24 :: 25 :: 26 :: 27 :: 28 :: 29 :: 30 :: 31 :: 32 :: 33 :: 34 :: 35 :: 36 :: 37 :: 38 :: 39 :: 40 :: 41 :: 42 :: 43 :: 44 :: 45 :: 46 :: 47 :: 48 :: 49 :: 50 :: 51 :: 52 :: 53 :: 54 :: 55 :: 56 :: 57 :: 58 :: 59 :: 60 :: []) rfl) (hh.2.1.sub (0 :: 1 :: 2 :: 3 :: 4 :: 5 :: 6 :: 7 :: 8 :: 9 :: 10 :: 11 :: 12 :: 13 :: 14 :: 15 :: 16 :: 17 :: 18 :: 19 :: 20 :: 21 :: 22 :: 23 :: 24 :: 25 :: 26 :: 27 :: 28 :: 29 :: 30 :: 31 :: 32 :: 33 :: 34 :: 35 :: 36 :: 37 :: 38 :: 39 :: 40 :: 41 :: 42 :: 43 :: 44 :: 45 :: 46 :: 47 :: 48 :: 49 :: 50 :: 51 :: 52 :: 53 :: 54 :: 55 :: 56 :: 57 :: 58 :: 59 :: 60 :: []) (by decide) rfl) hK hN xb0 x0) (va_recv hK hh.1 (ci := 3) (q0 := 0) rfl rfl) wd_461 wd_462 wd_463 wd_49 wd_464 lk_X3_causes ⟨rfl, rfl⟩ ⟨by decide, by decide⟩ hcs rfl (Nat.le_of_ble_eq_true rfl) dL_law_544) hA hh (0 :: 1 :: 2 :: 3 :: 4 :: 5 :: 6 :: 7 :: 8 :: 9 :: 10 :: 11 :: 12 :: 13 :: 14 :: 15 :: 16 :: 17 :: 18 :: 19 :: 20 :: 21 :: 22 :: 23 :: 24 :: 25 :: 26 :: 27 :: 28 :: 29 :: 30 :: 31 :: 32 :: 33 :: 34 :: 35 :: 36 :: 37 :: 38 :: 39 :: 40 :: 41 :: 42 :: 43 :: 44 :: 45 :: 46 :: 47 :: 48 :: 49 :: 50 :: 51 :: 52 :: 53 :: 54 :: 55 :: 56 :: 57 :: 58 :: 59 :: 60 :: []) [61, 62, 63, 64, 65, 66, 67, 68, 69, 70, 71, 72, 73, 74, 75, 76, 77, 78, 79, 80, 81, 82, 83] (23 :: 24 :: 25 :: 26 :: 27 :: 28 :: 29 :: 30 :: 31 :: 32 :: 33 :: 34 :: 35 :: 36 :: 37 :: 38 :: 39 :: 40 :: 41 :: 42 :: 43 :: 44 :: 45 :: 46 :: 47 :: 48 :: 49 :: 50 :: 51 :: 52 :: 53 :: 54 :: 55 :: 56 :: 57 :: 58 :: 59 :: 60 :: 61 :: 62 :: 63 :: 64 :: 65 :: 66 :: 67 :: 68 :: 69 :: 70 :: 71 :: 72 :: 73 :: 74 :: 75 :: 76 :: 77 :: 78 :: 79 :: 80 :: 81 :: 82 :: 83 :: 0 :: 1 :: 2 :: 3 :: 4 :: 5 :: 6 :: 7 :: 8 :: 9 :: 10 :: 11 :: 12 :: 13 :: 14 :: 15 :: 16 :: 17 :: 18 :: 19 :: 20 :: 21 :: 22 :: []) rfl rfl (by decide) (by decide) (by decide) (fun _ => rfl) (fun r1 V1 H locs q1 hh => ?_)
  refine lv_aload_n hx hb dL_law_547 rfl (lv_at hl 2 rfl) ?_
  refine lv_aload_n hx hb dL_law_548 rfl (lv_at hl 0 rfl) ?_
  refine lv_iload_n hx hb dL_law_549 rfl (lv_at hl 3 rfl) ?_
  refine lv_iconst (v := 1) hx hb dL_law_550 (by decide) ?_
  refine lv_iadd hx hb dL_law_551 ?_
  refine topv (nI (i + 1)) (nI_add i 1) ?_
  refine sld hx hb hX hbl hbA hh (by omega) (by omega) dL_law_552 ?_
  refine callWI (D := D) (wn := fun Q1 => wS k ad V1 ++ wQ k bd Q1) (wr := wS k ad V1) (runV hx hb hg hown hml hl.1 ((c_X4_causes l D k bd Q hvq hcq (xs (i + 1))) H.size) [.int (xs (i + 1))] [.int r1] (preX (mapSome_sub hh.1 [61, 62, 63, 64, 65, 66, 67, 68, 69, 70, 71, 72, 73, 74, 75, 76, 77, 78, 79, 80, 81, 82, 83] rfl) (hh.2.1.sub [61, 62, 63, 64, 65, 66, 67, 68, 69, 70, 71, 72, 73, 74, 75, 76, 77, 78, 79, 80, 81, 82, 83] (by decide) rfl) hK hN xb0 x0) (va_recv hK hh.1 (ci := 4) (q0 := 61) rfl rfl) wd_776 wd_777 wd_778 wd_53 wd_779 lk_X4_causes ⟨rfl, rfl⟩ ⟨by decide, by decide⟩ hcs rfl (Nat.le_of_ble_eq_true rfl) dL_law_553) hA hh [61, 62, 63, 64, 65, 66, 67, 68, 69, 70, 71, 72, 73, 74, 75, 76, 77, 78, 79, 80, 81, 82, 83] (0 :: 1 :: 2 :: 3 :: 4 :: 5 :: 6 :: 7 :: 8 :: 9 :: 10 :: 11 :: 12 :: 13 :: 14 :: 15 :: 16 :: 17 :: 18 :: 19 :: 20 :: 21 :: 22 :: 23 :: 24 :: 25 :: 26 :: 27 :: 28 :: 29 :: 30 :: 31 :: 32 :: 33 :: 34 :: 35 :: 36 :: 37 :: 38 :: 39 :: 40 :: 41 :: 42 :: 43 :: 44 :: 45 :: 46 :: 47 :: 48 :: 49 :: 50 :: 51 :: 52 :: 53 :: 54 :: 55 :: 56 :: 57 :: 58 :: 59 :: 60 :: []) (0 :: 1 :: 2 :: 3 :: 4 :: 5 :: 6 :: 7 :: 8 :: 9 :: 10 :: 11 :: 12 :: 13 :: 14 :: 15 :: 16 :: 17 :: 18 :: 19 :: 20 :: 21 :: 22 :: 23 :: 24 :: 25 :: 26 :: 27 :: 28 :: 29 :: 30 :: 31 :: 32 :: 33 :: 34 :: 35 :: 36 :: 37 :: 38 :: 39 :: 40 :: 41 :: 42 :: 43 :: 44 :: 45 :: 46 :: 47 :: 48 :: 49 :: 50 :: 51 :: 52 :: 53 :: 54 :: 55 :: 56 :: 57 :: 58 :: 59 :: 60 :: 61 :: 62 :: 63 :: 64 :: 65 :: 66 :: 67 :: 68 :: 69 :: 70 :: 71 :: 72 :: 73 :: 74 :: 75 :: 76 :: 77 :: 78 :: 79 :: 80 :: 81 :: 82 :: 83 :: []) rfl rfl (by decide) (by decide) (by decide) (fun _ => rfl) (fun r2 Q1 H locs q2 hh => ?_)
  rw [← hpq] at q2
  have hE := csR_u hv.1 q1.2 q2.2
  have hR1 := hR.view q1.1 q2.1
  refine lv_icmp_eq (tgt := 788) hx hb dL_law_556 (by decide) (fun c9 => ?_) (fun c9 => absurd hE c9)
  exact kk _ _ _ _ V1 Q1 H locs ls hR1 hh hl
set_option maxHeartbeats 4000000 in
set_option maxRecDepth 100000 in
theorem law_13 {p : Program} {l : Launch} {e : Env} {s : State} {m : MethodId} {below : List Frame} {meth : Method} {c : Code} {b L : Nat} {xs : Nat → Int32} {D : va_G} {k : Nat → ClassId} {ad bd : Nat → Nat} {A : Nat → Prop} {cells slots : Nat} {Z : State → Prop} (hx : p.tables.exec = Jvm.exec) (hb : c.code = code) (hg : ∀ w ∈ Gw, w.before #[Value.ref b] s = true) (hml : c.maxLocals = 4) (hown : s.vm.findClass "SliceWhyLaw" = some m.cls) (hK : va_K D vwCl (tyL k) s) (hN : NstU s) (hA : ∀ q, s.heap.size ≤ q → A q) (hX : va_X b L xs s s.heap) (hbl : b < s.heap.size) (hbA : ¬ A b) (hL : L ≤ 3072) (hcs : cells ≤ 600000 ∧ slots ≤ 7302249) (hSt : Sta A s s.heap) {i : Nat} (hi : i + 6 ≤ L) {n t c9 wl : Nat} {V Q : St} (hR : Rel n t c9 wl V Q) {H : Heap} {locs : List Loc} {ls : Array Slot} (hh : Hd D A (wS k ad V ++ wQ k bd Q) s.heap H locs) (hl : lv_has ls 4 [(0, .ref b), (1, .ref (ad 0)), (2, .ref (bd 0)), (3, .int (nI i))]) (kk : ∀ (n t c9 wl : Nat) (V Q : St) (H : Heap) (locs : List Loc) (ls : Array Slot), Rel n t c9 wl V Q → Hd D A (wS k ad V ++ wQ k bd Q) s.heap H locs → lv_has ls 4 [(0, .ref b), (1, .ref (ad 0)), (2, .ref (bd 0)), (3, .int (nI i))] → W p l e room_1 s m #[Value.ref b] below meth c H locs cells slots Z (F0 m 788 ls [])) : W p l e room_1 s m #[Value.ref b] below meth c H locs cells slots Z (F0 m 561 ls []) := by
  have hv := hR.1.1
  have hpq := hR.1.2.1
  have hca := hR.1.2.2.1
  have hcq := hR.1.2.2.2
  have hvq : okV n (pq Q) := by rw [← hpq]; exact hv
  refine lv_aload_n hx hb dL_law_561 rfl (lv_at hl 1 rfl) ?_
  refine lv_aload_n hx hb dL_law_562 rfl (lv_at hl 0 rfl) ?_
  refine lv_iload_n hx hb dL_law_563 rfl (lv_at hl 3 rfl) ?_
  refine lv_iconst (v := 1) hx hb dL_law_564 (by decide) ?_
  refine lv_iadd hx hb dL_law_565 ?_
  refine topv (nI (i + 1)) (nI_add i 1) ?_
  refine sld hx hb hX hbl hbA hh (by omega) (by omega) dL_law_566 ?_
  refine lv_aload_n hx hb dL_law_567 rfl (lv_at hl 0 rfl) ?_
  refine lv_iload_n hx hb dL_law_568 rfl (lv_at hl 3 rfl) ?_
  refine lv_iconst (v := 2) hx hb dL_law_569 (by decide) ?_
  refine lv_iadd hx hb dL_law_570 ?_
  refine topv (nI (i + 2)) (nI_add i 2) ?_
  refine sld hx hb hX hbl hbA hh (by omega) (by omega) dL_law_571 ?_
  refine lv_aload_n hx hb dL_law_572 rfl (lv_at hl 0 rfl) ?_
  refine lv_iload_n hx hb dL_law_573 rfl (lv_at hl 3 rfl) ?_
  refine lv_iconst (v := 3) hx hb dL_law_574 (by decide) ?_
  refine lv_iadd hx hb dL_law_575 ?_
  refine topv (nI (i + 3)) (nI_add i 3) ?_
  refine sld hx hb hX hbl hbA hh (by omega) (by omega) dL_law_576 ?_
  refine callWI (D := D) (wn := fun V1 => wS k ad V1 ++ wQ k bd Q) (wr := wQ k bd Q) (runV hx hb hg hown hml hl.1 ((c_X3_cause l D k ad V hv hca (xs (i + 1)) (xs (i + 2)) (xs (i + 3))) H.size) [.int (xs (i + 1)), .int (xs (i + 2)), .int (xs (i + 3))] [] (preX (mapSome_sub hh.1 (0 :: 1 :: 2 :: 3 :: 4 :: 5 :: 6 :: 7 :: 8 :: 9 :: 10 :: 11 :: 12 :: 13 :: 14 :: 15 :: 16 :: 17 :: 18 :: 19 :: 20 :: 21 :: 22 :: 23 :: 24 :: 25 :: 26 :: 27 :: 28 :: 29 :: 30 :: 31 :: 32 :: 33 :: 34 :: 35 :: 36 :: 37 :: 38 :: 39 :: 40 :: 41 :: 42 :: 43 :: 44 :: 45 :: 46 :: 47 :: 48 :: 49 :: 50 :: 51 :: 52 :: 53 :: 54 :: 55 :: 56 :: 57 :: 58 :: 59 :: 60 :: []) rfl) (hh.2.1.sub (0 :: 1 :: 2 :: 3 :: 4 :: 5 :: 6 :: 7 :: 8 :: 9 :: 10 :: 11 :: 12 :: 13 :: 14 :: 15 :: 16 :: 17 :: 18 :: 19 :: 20 :: 21 :: 22 :: 23 :: 24 :: 25 :: 26 :: 27 :: 28 :: 29 :: 30 :: 31 :: 32 :: 33 :: 34 :: 35 :: 36 :: 37 :: 38 :: 39 :: 40 :: 41 :: 42 :: 43 :: 44 :: 45 :: 46 :: 47 :: 48 :: 49 :: 50 :: 51 :: 52 :: 53 :: 54 :: 55 :: 56 :: 57 :: 58 :: 59 :: 60 :: []) (by decide) rfl) hK hN xb0 x0) (va_recv hK hh.1 (ci := 3) (q0 := 0) rfl rfl) wd_470 wd_471 wd_472 wd_49 wd_473 lk_X3_cause ⟨rfl, rfl⟩ ⟨by decide, by decide⟩ hcs rfl (Nat.le_of_ble_eq_true rfl) dL_law_577) hA hh (0 :: 1 :: 2 :: 3 :: 4 :: 5 :: 6 :: 7 :: 8 :: 9 :: 10 :: 11 :: 12 :: 13 :: 14 :: 15 :: 16 :: 17 :: 18 :: 19 :: 20 :: 21 :: 22 :: 23 :: 24 :: 25 :: 26 :: 27 :: 28 :: 29 :: 30 :: 31 :: 32 :: 33 :: 34 :: 35 :: 36 :: 37 :: 38 :: 39 :: 40 :: 41 :: 42 :: 43 :: 44 :: 45 :: 46 :: 47 :: 48 :: 49 :: 50 :: 51 :: 52 :: 53 :: 54 :: 55 :: 56 :: 57 :: 58 :: 59 :: 60 :: []) [61, 62, 63, 64, 65, 66, 67, 68, 69, 70, 71, 72, 73, 74, 75, 76, 77, 78, 79, 80, 81, 82, 83] (23 :: 24 :: 25 :: 26 :: 27 :: 28 :: 29 :: 30 :: 31 :: 32 :: 33 :: 34 :: 35 :: 36 :: 37 :: 38 :: 39 :: 40 :: 41 :: 42 :: 43 :: 44 :: 45 :: 46 :: 47 :: 48 :: 49 :: 50 :: 51 :: 52 :: 53 :: 54 :: 55 :: 56 :: 57 :: 58 :: 59 :: 60 :: 61 :: 62 :: 63 :: 64 :: 65 :: 66 :: 67 :: 68 :: 69 :: 70 :: 71 :: 72 :: 73 :: 74 :: 75 :: 76 :: 77 :: 78 :: 79 :: 80 :: 81 :: 82 :: 83 :: 0 :: 1 :: 2 :: 3 :: 4 :: 5 :: 6 :: 7 :: 8 :: 9 :: 10 :: 11 :: 12 :: 13 :: 14 :: 15 :: 16 :: 17 :: 18 :: 19 :: 20 :: 21 :: 22 :: []) rfl rfl (by decide) (by decide) (by decide) (fun _ => rfl) (fun r1 V1 H locs q1 hh => ?_)
  refine lv_aload_n hx hb dL_law_580 rfl (lv_at hl 2 rfl) ?_
  refine lv_aload_n hx hb dL_law_581 rfl (lv_at hl 0 rfl) ?_
  refine lv_iload_n hx hb dL_law_582 rfl (lv_at hl 3 rfl) ?_
  refine lv_iconst (v := 1) hx hb dL_law_583 (by decide) ?_
  refine lv_iadd hx hb dL_law_584 ?_
  refine topv (nI (i + 1)) (nI_add i 1) ?_
  refine sld hx hb hX hbl hbA hh (by omega) (by omega) dL_law_585 ?_
  refine lv_aload_n hx hb dL_law_586 rfl (lv_at hl 0 rfl) ?_
  refine lv_iload_n hx hb dL_law_587 rfl (lv_at hl 3 rfl) ?_
  refine lv_iconst (v := 2) hx hb dL_law_588 (by decide) ?_
  refine lv_iadd hx hb dL_law_589 ?_
  refine topv (nI (i + 2)) (nI_add i 2) ?_
  refine sld hx hb hX hbl hbA hh (by omega) (by omega) dL_law_590 ?_
  refine lv_aload_n hx hb dL_law_591 rfl (lv_at hl 0 rfl) ?_
  refine lv_iload_n hx hb dL_law_592 rfl (lv_at hl 3 rfl) ?_
  refine lv_iconst (v := 3) hx hb dL_law_593 (by decide) ?_
  refine lv_iadd hx hb dL_law_594 ?_
  refine topv (nI (i + 3)) (nI_add i 3) ?_
  refine sld hx hb hX hbl hbA hh (by omega) (by omega) dL_law_595 ?_
  refine callWI (D := D) (wn := fun Q1 => wS k ad V1 ++ wQ k bd Q1) (wr := wS k ad V1) (runV hx hb hg hown hml hl.1 ((c_X4_cause l D k bd Q hvq hcq (xs (i + 1)) (xs (i + 2)) (xs (i + 3))) H.size) [.int (xs (i + 1)), .int (xs (i + 2)), .int (xs (i + 3))] [.int r1] (preX (mapSome_sub hh.1 [61, 62, 63, 64, 65, 66, 67, 68, 69, 70, 71, 72, 73, 74, 75, 76, 77, 78, 79, 80, 81, 82, 83] rfl) (hh.2.1.sub [61, 62, 63, 64, 65, 66, 67, 68, 69, 70, 71, 72, 73, 74, 75, 76, 77, 78, 79, 80, 81, 82, 83] (by decide) rfl) hK hN xb0 x0) (va_recv hK hh.1 (ci := 4) (q0 := 61) rfl rfl) wd_780 wd_781 wd_782 wd_53 wd_783 lk_X4_cause ⟨rfl, rfl⟩ ⟨by decide, by decide⟩ hcs rfl (Nat.le_of_ble_eq_true rfl) dL_law_596) hA hh [61, 62, 63, 64, 65, 66, 67, 68, 69, 70, 71, 72, 73, 74, 75, 76, 77, 78, 79, 80, 81, 82, 83] (0 :: 1 :: 2 :: 3 :: 4 :: 5 :: 6 :: 7 :: 8 :: 9 :: 10 :: 11 :: 12 :: 13 :: 14 :: 15 :: 16 :: 17 :: 18 :: 19 :: 20 :: 21 :: 22 :: 23 :: 24 :: 25 :: 26 :: 27 :: 28 :: 29 :: 30 :: 31 :: 32 :: 33 :: 34 :: 35 :: 36 :: 37 :: 38 :: 39 :: 40 :: 41 :: 42 :: 43 :: 44 :: 45 :: 46 :: 47 :: 48 :: 49 :: 50 :: 51 :: 52 :: 53 :: 54 :: 55 :: 56 :: 57 :: 58 :: 59 :: 60 :: []) (0 :: 1 :: 2 :: 3 :: 4 :: 5 :: 6 :: 7 :: 8 :: 9 :: 10 :: 11 :: 12 :: 13 :: 14 :: 15 :: 16 :: 17 :: 18 :: 19 :: 20 :: 21 :: 22 :: 23 :: 24 :: 25 :: 26 :: 27 :: 28 :: 29 :: 30 :: 31 :: 32 :: 33 :: 34 :: 35 :: 36 :: 37 :: 38 :: 39 :: 40 :: 41 :: 42 :: 43 :: 44 :: 45 :: 46 :: 47 :: 48 :: 49 :: 50 :: 51 :: 52 :: 53 :: 54 :: 55 :: 56 :: 57 :: 58 :: 59 :: 60 :: 61 :: 62 :: 63 :: 64 :: 65 :: 66 :: 67 :: 68 :: 69 :: 70 :: 71 :: 72 :: 73 :: 74 :: 75 :: 76 :: 77 :: 78 :: 79 :: 80 :: 81 :: 82 :: 83 :: []) rfl rfl (by decide) (by decide) (by decide) (fun _ => rfl) (fun r2 Q1 H locs q2 hh => ?_)
  rw [← hpq] at q2
  have hE := cuR_u hv.1 q1.2 q2.2
  have hR1 := hR.view q1.1 q2.1
  refine lv_icmp_eq (tgt := 788) hx hb dL_law_599 (by decide) (fun c9 => ?_) (fun c9 => absurd hE c9)
  exact kk _ _ _ _ V1 Q1 H locs ls hR1 hh hl
set_option maxHeartbeats 4000000 in
set_option maxRecDepth 100000 in
theorem law_14 {p : Program} {l : Launch} {e : Env} {s : State} {m : MethodId} {below : List Frame} {meth : Method} {c : Code} {b L : Nat} {xs : Nat → Int32} {D : va_G} {k : Nat → ClassId} {ad bd : Nat → Nat} {A : Nat → Prop} {cells slots : Nat} {Z : State → Prop} (hx : p.tables.exec = Jvm.exec) (hb : c.code = code) (hg : ∀ w ∈ Gw, w.before #[Value.ref b] s = true) (hml : c.maxLocals = 4) (hown : s.vm.findClass "SliceWhyLaw" = some m.cls) (hK : va_K D vwCl (tyL k) s) (hN : NstU s) (hA : ∀ q, s.heap.size ≤ q → A q) (hX : va_X b L xs s s.heap) (hbl : b < s.heap.size) (hbA : ¬ A b) (hL : L ≤ 3072) (hcs : cells ≤ 600000 ∧ slots ≤ 7302249) (hSt : Sta A s s.heap) {i : Nat} (hi : i + 6 ≤ L) {n t c9 wl : Nat} {V Q : St} (hR : Rel n t c9 wl V Q) {H : Heap} {locs : List Loc} {ls : Array Slot} (hh : Hd D A (wS k ad V ++ wQ k bd Q) s.heap H locs) (hl : lv_has ls 4 [(0, .ref b), (1, .ref (ad 0)), (2, .ref (bd 0)), (3, .int (nI i))]) (kk : ∀ (n t c9 wl : Nat) (V Q : St) (H : Heap) (locs : List Loc) (ls : Array Slot), Rel n t c9 wl V Q → Hd D A (wS k ad V ++ wQ k bd Q) s.heap H locs → lv_has ls 4 [(0, .ref b), (1, .ref (ad 0)), (2, .ref (bd 0)), (3, .int (nI i))] → W p l e room_1 s m #[Value.ref b] below meth c H locs cells slots Z (F0 m 788 ls [])) : W p l e room_1 s m #[Value.ref b] below meth c H locs cells slots Z (F0 m 604 ls []) := by
  have hv := hR.1.1
  have hpq := hR.1.2.1
  have hca := hR.1.2.2.1
  have hcq := hR.1.2.2.2
  have hvq : okV n (pq Q) := by rw [← hpq]; exact hv
  refine lv_aload_n hx hb dL_law_604 rfl (lv_at hl 1 rfl) ?_
  refine lv_aload_n hx hb dL_law_605 rfl (lv_at hl 0 rfl) ?_
  refine lv_iload_n hx hb dL_law_606 rfl (lv_at hl 3 rfl) ?_
  refine lv_iconst (v := 1) hx hb dL_law_607 (by decide) ?_
  refine lv_iadd hx hb dL_law_608 ?_
  refine topv (nI (i + 1)) (nI_add i 1) ?_
  refine sld hx hb hX hbl hbA hh (by omega) (by omega) dL_law_609 ?_
  refine lv_aload_n hx hb dL_law_610 rfl (lv_at hl 0 rfl) ?_
  refine lv_iload_n hx hb dL_law_611 rfl (lv_at hl 3 rfl) ?_
  refine lv_iconst (v := 2) hx hb dL_law_612 (by decide) ?_
  refine lv_iadd hx hb dL_law_613 ?_
  refine topv (nI (i + 2)) (nI_add i 2) ?_
  refine sld hx hb hX hbl hbA hh (by omega) (by omega) dL_law_614 ?_
  refine callWI (D := D) (wn := fun V1 => wS k ad V1 ++ wQ k bd Q) (wr := wQ k bd Q) (runV hx hb hg hown hml hl.1 ((c_X3_chop l D k ad V hv hca (xs (i + 1)) (xs (i + 2))) H.size) [.int (xs (i + 1)), .int (xs (i + 2))] [] (preX (mapSome_sub hh.1 (0 :: 1 :: 2 :: 3 :: 4 :: 5 :: 6 :: 7 :: 8 :: 9 :: 10 :: 11 :: 12 :: 13 :: 14 :: 15 :: 16 :: 17 :: 18 :: 19 :: 20 :: 21 :: 22 :: 23 :: 24 :: 25 :: 26 :: 27 :: 28 :: 29 :: 30 :: 31 :: 32 :: 33 :: 34 :: 35 :: 36 :: 37 :: 38 :: 39 :: 40 :: 41 :: 42 :: 43 :: 44 :: 45 :: 46 :: 47 :: 48 :: 49 :: 50 :: 51 :: 52 :: 53 :: 54 :: 55 :: 56 :: 57 :: 58 :: 59 :: 60 :: []) rfl) (hh.2.1.sub (0 :: 1 :: 2 :: 3 :: 4 :: 5 :: 6 :: 7 :: 8 :: 9 :: 10 :: 11 :: 12 :: 13 :: 14 :: 15 :: 16 :: 17 :: 18 :: 19 :: 20 :: 21 :: 22 :: 23 :: 24 :: 25 :: 26 :: 27 :: 28 :: 29 :: 30 :: 31 :: 32 :: 33 :: 34 :: 35 :: 36 :: 37 :: 38 :: 39 :: 40 :: 41 :: 42 :: 43 :: 44 :: 45 :: 46 :: 47 :: 48 :: 49 :: 50 :: 51 :: 52 :: 53 :: 54 :: 55 :: 56 :: 57 :: 58 :: 59 :: 60 :: []) (by decide) rfl) hK hN xb0 x0) (va_recv hK hh.1 (ci := 3) (q0 := 0) rfl rfl) wd_478 wd_479 wd_480 wd_49 wd_481 lk_X3_chop ⟨rfl, rfl⟩ ⟨by decide, by decide⟩ hcs rfl (Nat.le_of_ble_eq_true rfl) dL_law_615) hA hh (0 :: 1 :: 2 :: 3 :: 4 :: 5 :: 6 :: 7 :: 8 :: 9 :: 10 :: 11 :: 12 :: 13 :: 14 :: 15 :: 16 :: 17 :: 18 :: 19 :: 20 :: 21 :: 22 :: 23 :: 24 :: 25 :: 26 :: 27 :: 28 :: 29 :: 30 :: 31 :: 32 :: 33 :: 34 :: 35 :: 36 :: 37 :: 38 :: 39 :: 40 :: 41 :: 42 :: 43 :: 44 :: 45 :: 46 :: 47 :: 48 :: 49 :: 50 :: 51 :: 52 :: 53 :: 54 :: 55 :: 56 :: 57 :: 58 :: 59 :: 60 :: []) [61, 62, 63, 64, 65, 66, 67, 68, 69, 70, 71, 72, 73, 74, 75, 76, 77, 78, 79, 80, 81, 82, 83] (23 :: 24 :: 25 :: 26 :: 27 :: 28 :: 29 :: 30 :: 31 :: 32 :: 33 :: 34 :: 35 :: 36 :: 37 :: 38 :: 39 :: 40 :: 41 :: 42 :: 43 :: 44 :: 45 :: 46 :: 47 :: 48 :: 49 :: 50 :: 51 :: 52 :: 53 :: 54 :: 55 :: 56 :: 57 :: 58 :: 59 :: 60 :: 61 :: 62 :: 63 :: 64 :: 65 :: 66 :: 67 :: 68 :: 69 :: 70 :: 71 :: 72 :: 73 :: 74 :: 75 :: 76 :: 77 :: 78 :: 79 :: 80 :: 81 :: 82 :: 83 :: 0 :: 1 :: 2 :: 3 :: 4 :: 5 :: 6 :: 7 :: 8 :: 9 :: 10 :: 11 :: 12 :: 13 :: 14 :: 15 :: 16 :: 17 :: 18 :: 19 :: 20 :: 21 :: 22 :: []) rfl rfl (by decide) (by decide) (by decide) (fun _ => rfl) (fun r1 V1 H locs q1 hh => ?_)
  refine lv_aload_n hx hb dL_law_618 rfl (lv_at hl 2 rfl) ?_
  refine lv_aload_n hx hb dL_law_619 rfl (lv_at hl 0 rfl) ?_
  refine lv_iload_n hx hb dL_law_620 rfl (lv_at hl 3 rfl) ?_
  refine lv_iconst (v := 1) hx hb dL_law_621 (by decide) ?_
  refine lv_iadd hx hb dL_law_622 ?_
  refine topv (nI (i + 1)) (nI_add i 1) ?_
  refine sld hx hb hX hbl hbA hh (by omega) (by omega) dL_law_623 ?_
  refine lv_aload_n hx hb dL_law_624 rfl (lv_at hl 0 rfl) ?_
  refine lv_iload_n hx hb dL_law_625 rfl (lv_at hl 3 rfl) ?_
  refine lv_iconst (v := 2) hx hb dL_law_626 (by decide) ?_
  refine lv_iadd hx hb dL_law_627 ?_
  refine topv (nI (i + 2)) (nI_add i 2) ?_
  refine sld hx hb hX hbl hbA hh (by omega) (by omega) dL_law_628 ?_
  refine callWI (D := D) (wn := fun Q1 => wS k ad V1 ++ wQ k bd Q1) (wr := wS k ad V1) (runV hx hb hg hown hml hl.1 ((c_X4_chop l D k bd Q hvq hcq (xs (i + 1)) (xs (i + 2))) H.size) [.int (xs (i + 1)), .int (xs (i + 2))] [.int r1] (preX (mapSome_sub hh.1 [61, 62, 63, 64, 65, 66, 67, 68, 69, 70, 71, 72, 73, 74, 75, 76, 77, 78, 79, 80, 81, 82, 83] rfl) (hh.2.1.sub [61, 62, 63, 64, 65, 66, 67, 68, 69, 70, 71, 72, 73, 74, 75, 76, 77, 78, 79, 80, 81, 82, 83] (by decide) rfl) hK hN xb0 x0) (va_recv hK hh.1 (ci := 4) (q0 := 61) rfl rfl) wd_784 wd_785 wd_786 wd_53 wd_787 lk_X4_chop ⟨rfl, rfl⟩ ⟨by decide, by decide⟩ hcs rfl (Nat.le_of_ble_eq_true rfl) dL_law_629) hA hh [61, 62, 63, 64, 65, 66, 67, 68, 69, 70, 71, 72, 73, 74, 75, 76, 77, 78, 79, 80, 81, 82, 83] (0 :: 1 :: 2 :: 3 :: 4 :: 5 :: 6 :: 7 :: 8 :: 9 :: 10 :: 11 :: 12 :: 13 :: 14 :: 15 :: 16 :: 17 :: 18 :: 19 :: 20 :: 21 :: 22 :: 23 :: 24 :: 25 :: 26 :: 27 :: 28 :: 29 :: 30 :: 31 :: 32 :: 33 :: 34 :: 35 :: 36 :: 37 :: 38 :: 39 :: 40 :: 41 :: 42 :: 43 :: 44 :: 45 :: 46 :: 47 :: 48 :: 49 :: 50 :: 51 :: 52 :: 53 :: 54 :: 55 :: 56 :: 57 :: 58 :: 59 :: 60 :: []) (0 :: 1 :: 2 :: 3 :: 4 :: 5 :: 6 :: 7 :: 8 :: 9 :: 10 :: 11 :: 12 :: 13 :: 14 :: 15 :: 16 :: 17 :: 18 :: 19 :: 20 :: 21 :: 22 :: 23 :: 24 :: 25 :: 26 :: 27 :: 28 :: 29 :: 30 :: 31 :: 32 :: 33 :: 34 :: 35 :: 36 :: 37 :: 38 :: 39 :: 40 :: 41 :: 42 :: 43 :: 44 :: 45 :: 46 :: 47 :: 48 :: 49 :: 50 :: 51 :: 52 :: 53 :: 54 :: 55 :: 56 :: 57 :: 58 :: 59 :: 60 :: 61 :: 62 :: 63 :: 64 :: 65 :: 66 :: 67 :: 68 :: 69 :: 70 :: 71 :: 72 :: 73 :: 74 :: 75 :: 76 :: 77 :: 78 :: 79 :: 80 :: 81 :: 82 :: 83 :: []) rfl rfl (by decide) (by decide) (by decide) (fun _ => rfl) (fun r2 Q1 H locs q2 hh => ?_)
  rw [← hpq] at q2
  have hE := chpR_u hv.1 q1.2 q2.2
  have hR1 := hR.view q1.1 q2.1
  refine lv_icmp_eq (tgt := 788) hx hb dL_law_632 (by decide) (fun c9 => ?_) (fun c9 => absurd hE c9)
  exact kk _ _ _ _ V1 Q1 H locs ls hR1 hh hl
set_option maxHeartbeats 4000000 in
set_option maxRecDepth 100000 in
theorem law_15 {p : Program} {l : Launch} {e : Env} {s : State} {m : MethodId} {below : List Frame} {meth : Method} {c : Code} {b L : Nat} {xs : Nat → Int32} {D : va_G} {k : Nat → ClassId} {ad bd : Nat → Nat} {A : Nat → Prop} {cells slots : Nat} {Z : State → Prop} (hx : p.tables.exec = Jvm.exec) (hb : c.code = code) (hg : ∀ w ∈ Gw, w.before #[Value.ref b] s = true) (hml : c.maxLocals = 4) (hown : s.vm.findClass "SliceWhyLaw" = some m.cls) (hK : va_K D vwCl (tyL k) s) (hN : NstU s) (hA : ∀ q, s.heap.size ≤ q → A q) (hX : va_X b L xs s s.heap) (hbl : b < s.heap.size) (hbA : ¬ A b) (hL : L ≤ 3072) (hcs : cells ≤ 600000 ∧ slots ≤ 7302249) (hSt : Sta A s s.heap) {i : Nat} (hi : i + 6 ≤ L) {n t c9 wl : Nat} {V Q : St} (hR : Rel n t c9 wl V Q) {H : Heap} {locs : List Loc} {ls : Array Slot} (hh : Hd D A (wS k ad V ++ wQ k bd Q) s.heap H locs) (hl : lv_has ls 4 [(0, .ref b), (1, .ref (ad 0)), (2, .ref (bd 0)), (3, .int (nI i))]) (kk : ∀ (n t c9 wl : Nat) (V Q : St) (H : Heap) (locs : List Loc) (ls : Array Slot), Rel n t c9 wl V Q → Hd D A (wS k ad V ++ wQ k bd Q) s.heap H locs → lv_has ls 4 [(0, .ref b), (1, .ref (ad 0)), (2, .ref (bd 0)), (3, .int (nI i))] → W p l e room_1 s m #[Value.ref b] below meth c H locs cells slots Z (F0 m 788 ls [])) : W p l e room_1 s m #[Value.ref b] below meth c H locs cells slots Z (F0 m 637 ls []) := by
  have hv := hR.1.1
  have hpq := hR.1.2.1
  have hca := hR.1.2.2.1
  have hcq := hR.1.2.2.2
  have hvq : okV n (pq Q) := by rw [← hpq]; exact hv
  refine lv_aload_n hx hb dL_law_637 rfl (lv_at hl 1 rfl) ?_
  refine lv_aload_n hx hb dL_law_638 rfl (lv_at hl 0 rfl) ?_
  refine lv_iload_n hx hb dL_law_639 rfl (lv_at hl 3 rfl) ?_
  refine lv_iconst (v := 1) hx hb dL_law_640 (by decide) ?_
  refine lv_iadd hx hb dL_law_641 ?_
  refine topv (nI (i + 1)) (nI_add i 1) ?_
  refine sld hx hb hX hbl hbA hh (by omega) (by omega) dL_law_642 ?_
  refine lv_aload_n hx hb dL_law_643 rfl (lv_at hl 0 rfl) ?_
  refine lv_iload_n hx hb dL_law_644 rfl (lv_at hl 3 rfl) ?_
  refine lv_iconst (v := 2) hx hb dL_law_645 (by decide) ?_
  refine lv_iadd hx hb dL_law_646 ?_
  refine topv (nI (i + 2)) (nI_add i 2) ?_
  refine sld hx hb hX hbl hbA hh (by omega) (by omega) dL_law_647 ?_
  refine callWI (D := D) (wn := fun V1 => wS k ad V1 ++ wQ k bd Q) (wr := wQ k bd Q) (runV hx hb hg hown hml hl.1 ((c_X3_way l D k ad V hv hca (xs (i + 1)) (xs (i + 2))) H.size) [.int (xs (i + 1)), .int (xs (i + 2))] [] (preX (mapSome_sub hh.1 (0 :: 1 :: 2 :: 3 :: 4 :: 5 :: 6 :: 7 :: 8 :: 9 :: 10 :: 11 :: 12 :: 13 :: 14 :: 15 :: 16 :: 17 :: 18 :: 19 :: 20 :: 21 :: 22 :: 23 :: 24 :: 25 :: 26 :: 27 :: 28 :: 29 :: 30 :: 31 :: 32 :: 33 :: 34 :: 35 :: 36 :: 37 :: 38 :: 39 :: 40 :: 41 :: 42 :: 43 :: 44 :: 45 :: 46 :: 47 :: 48 :: 49 :: 50 :: 51 :: 52 :: 53 :: 54 :: 55 :: 56 :: 57 :: 58 :: 59 :: 60 :: []) rfl) (hh.2.1.sub (0 :: 1 :: 2 :: 3 :: 4 :: 5 :: 6 :: 7 :: 8 :: 9 :: 10 :: 11 :: 12 :: 13 :: 14 :: 15 :: 16 :: 17 :: 18 :: 19 :: 20 :: 21 :: 22 :: 23 :: 24 :: 25 :: 26 :: 27 :: 28 :: 29 :: 30 :: 31 :: 32 :: 33 :: 34 :: 35 :: 36 :: 37 :: 38 :: 39 :: 40 :: 41 :: 42 :: 43 :: 44 :: 45 :: 46 :: 47 :: 48 :: 49 :: 50 :: 51 :: 52 :: 53 :: 54 :: 55 :: 56 :: 57 :: 58 :: 59 :: 60 :: []) (by decide) rfl) hK hN xb0 x0) (va_recv hK hh.1 (ci := 3) (q0 := 0) rfl rfl) wd_482 wd_483 wd_484 wd_49 wd_485 lk_X3_way ⟨rfl, rfl⟩ ⟨by decide, by decide⟩ hcs rfl (Nat.le_of_ble_eq_true rfl) dL_law_648) hA hh (0 :: 1 :: 2 :: 3 :: 4 :: 5 :: 6 :: 7 :: 8 :: 9 :: 10 :: 11 :: 12 :: 13 :: 14 :: 15 :: 16 :: 17 :: 18 :: 19 :: 20 :: 21 :: 22 :: 23 :: 24 :: 25 :: 26 :: 27 :: 28 :: 29 :: 30 :: 31 :: 32 :: 33 :: 34 :: 35 :: 36 :: 37 :: 38 :: 39 :: 40 :: 41 :: 42 :: 43 :: 44 :: 45 :: 46 :: 47 :: 48 :: 49 :: 50 :: 51 :: 52 :: 53 :: 54 :: 55 :: 56 :: 57 :: 58 :: 59 :: 60 :: []) [61, 62, 63, 64, 65, 66, 67, 68, 69, 70, 71, 72, 73, 74, 75, 76, 77, 78, 79, 80, 81, 82, 83] (23 :: 24 :: 25 :: 26 :: 27 :: 28 :: 29 :: 30 :: 31 :: 32 :: 33 :: 34 :: 35 :: 36 :: 37 :: 38 :: 39 :: 40 :: 41 :: 42 :: 43 :: 44 :: 45 :: 46 :: 47 :: 48 :: 49 :: 50 :: 51 :: 52 :: 53 :: 54 :: 55 :: 56 :: 57 :: 58 :: 59 :: 60 :: 61 :: 62 :: 63 :: 64 :: 65 :: 66 :: 67 :: 68 :: 69 :: 70 :: 71 :: 72 :: 73 :: 74 :: 75 :: 76 :: 77 :: 78 :: 79 :: 80 :: 81 :: 82 :: 83 :: 0 :: 1 :: 2 :: 3 :: 4 :: 5 :: 6 :: 7 :: 8 :: 9 :: 10 :: 11 :: 12 :: 13 :: 14 :: 15 :: 16 :: 17 :: 18 :: 19 :: 20 :: 21 :: 22 :: []) rfl rfl (by decide) (by decide) (by decide) (fun _ => rfl) (fun r1 V1 H locs q1 hh => ?_)
  refine lv_aload_n hx hb dL_law_651 rfl (lv_at hl 2 rfl) ?_
  refine lv_aload_n hx hb dL_law_652 rfl (lv_at hl 0 rfl) ?_
  refine lv_iload_n hx hb dL_law_653 rfl (lv_at hl 3 rfl) ?_
  refine lv_iconst (v := 1) hx hb dL_law_654 (by decide) ?_
  refine lv_iadd hx hb dL_law_655 ?_
  refine topv (nI (i + 1)) (nI_add i 1) ?_
  refine sld hx hb hX hbl hbA hh (by omega) (by omega) dL_law_656 ?_
  refine lv_aload_n hx hb dL_law_657 rfl (lv_at hl 0 rfl) ?_
  refine lv_iload_n hx hb dL_law_658 rfl (lv_at hl 3 rfl) ?_
  refine lv_iconst (v := 2) hx hb dL_law_659 (by decide) ?_
  refine lv_iadd hx hb dL_law_660 ?_
  refine topv (nI (i + 2)) (nI_add i 2) ?_
  refine sld hx hb hX hbl hbA hh (by omega) (by omega) dL_law_661 ?_
  refine callWI (D := D) (wn := fun Q1 => wS k ad V1 ++ wQ k bd Q1) (wr := wS k ad V1) (runV hx hb hg hown hml hl.1 ((c_X4_way l D k bd Q hvq hcq (xs (i + 1)) (xs (i + 2))) H.size) [.int (xs (i + 1)), .int (xs (i + 2))] [.int r1] (preX (mapSome_sub hh.1 [61, 62, 63, 64, 65, 66, 67, 68, 69, 70, 71, 72, 73, 74, 75, 76, 77, 78, 79, 80, 81, 82, 83] rfl) (hh.2.1.sub [61, 62, 63, 64, 65, 66, 67, 68, 69, 70, 71, 72, 73, 74, 75, 76, 77, 78, 79, 80, 81, 82, 83] (by decide) rfl) hK hN xb0 x0) (va_recv hK hh.1 (ci := 4) (q0 := 61) rfl rfl) wd_788 wd_789 wd_790 wd_53 wd_791 lk_X4_way ⟨rfl, rfl⟩ ⟨by decide, by decide⟩ hcs rfl (Nat.le_of_ble_eq_true rfl) dL_law_662) hA hh [61, 62, 63, 64, 65, 66, 67, 68, 69, 70, 71, 72, 73, 74, 75, 76, 77, 78, 79, 80, 81, 82, 83] (0 :: 1 :: 2 :: 3 :: 4 :: 5 :: 6 :: 7 :: 8 :: 9 :: 10 :: 11 :: 12 :: 13 :: 14 :: 15 :: 16 :: 17 :: 18 :: 19 :: 20 :: 21 :: 22 :: 23 :: 24 :: 25 :: 26 :: 27 :: 28 :: 29 :: 30 :: 31 :: 32 :: 33 :: 34 :: 35 :: 36 :: 37 :: 38 :: 39 :: 40 :: 41 :: 42 :: 43 :: 44 :: 45 :: 46 :: 47 :: 48 :: 49 :: 50 :: 51 :: 52 :: 53 :: 54 :: 55 :: 56 :: 57 :: 58 :: 59 :: 60 :: []) (0 :: 1 :: 2 :: 3 :: 4 :: 5 :: 6 :: 7 :: 8 :: 9 :: 10 :: 11 :: 12 :: 13 :: 14 :: 15 :: 16 :: 17 :: 18 :: 19 :: 20 :: 21 :: 22 :: 23 :: 24 :: 25 :: 26 :: 27 :: 28 :: 29 :: 30 :: 31 :: 32 :: 33 :: 34 :: 35 :: 36 :: 37 :: 38 :: 39 :: 40 :: 41 :: 42 :: 43 :: 44 :: 45 :: 46 :: 47 :: 48 :: 49 :: 50 :: 51 :: 52 :: 53 :: 54 :: 55 :: 56 :: 57 :: 58 :: 59 :: 60 :: 61 :: 62 :: 63 :: 64 :: 65 :: 66 :: 67 :: 68 :: 69 :: 70 :: 71 :: 72 :: 73 :: 74 :: 75 :: 76 :: 77 :: 78 :: 79 :: 80 :: 81 :: 82 :: 83 :: []) rfl rfl (by decide) (by decide) (by decide) (fun _ => rfl) (fun r2 Q1 H locs q2 hh => ?_)
  obtain ⟨hE, n1, hR1⟩ := op_way hR (by intro i hi; simp at hi; omega) q1 q2
  refine lv_icmp_eq (tgt := 788) hx hb dL_law_665 (by decide) (fun c9 => ?_) (fun c9 => absurd hE c9)
  exact kk _ _ _ _ V1 Q1 H locs ls hR1 hh hl
set_option maxHeartbeats 4000000 in
set_option maxRecDepth 100000 in
theorem law_16 {p : Program} {l : Launch} {e : Env} {s : State} {m : MethodId} {below : List Frame} {meth : Method} {c : Code} {b L : Nat} {xs : Nat → Int32} {D : va_G} {k : Nat → ClassId} {ad bd : Nat → Nat} {A : Nat → Prop} {cells slots : Nat} {Z : State → Prop} (hx : p.tables.exec = Jvm.exec) (hb : c.code = code) (hg : ∀ w ∈ Gw, w.before #[Value.ref b] s = true) (hml : c.maxLocals = 4) (hown : s.vm.findClass "SliceWhyLaw" = some m.cls) (hK : va_K D vwCl (tyL k) s) (hN : NstU s) (hA : ∀ q, s.heap.size ≤ q → A q) (hX : va_X b L xs s s.heap) (hbl : b < s.heap.size) (hbA : ¬ A b) (hL : L ≤ 3072) (hcs : cells ≤ 600000 ∧ slots ≤ 7302249) (hSt : Sta A s s.heap) {i : Nat} (hi : i + 6 ≤ L) {n t c9 wl : Nat} {V Q : St} (hR : Rel n t c9 wl V Q) {H : Heap} {locs : List Loc} {ls : Array Slot} (hh : Hd D A (wS k ad V ++ wQ k bd Q) s.heap H locs) (hl : lv_has ls 4 [(0, .ref b), (1, .ref (ad 0)), (2, .ref (bd 0)), (3, .int (nI i))]) (kk : ∀ (n t c9 wl : Nat) (V Q : St) (H : Heap) (locs : List Loc) (ls : Array Slot), Rel n t c9 wl V Q → Hd D A (wS k ad V ++ wQ k bd Q) s.heap H locs → lv_has ls 4 [(0, .ref b), (1, .ref (ad 0)), (2, .ref (bd 0)), (3, .int (nI i))] → W p l e room_1 s m #[Value.ref b] below meth c H locs cells slots Z (F0 m 788 ls [])) : W p l e room_1 s m #[Value.ref b] below meth c H locs cells slots Z (F0 m 670 ls []) := by
  have hv := hR.1.1
  have hpq := hR.1.2.1
  have hca := hR.1.2.2.1
  have hcq := hR.1.2.2.2
  have hvq : okV n (pq Q) := by rw [← hpq]; exact hv
  refine lv_aload_n hx hb dL_law_670 rfl (lv_at hl 1 rfl) ?_
  refine lv_aload_n hx hb dL_law_671 rfl (lv_at hl 0 rfl) ?_
  refine lv_iload_n hx hb dL_law_672 rfl (lv_at hl 3 rfl) ?_
  refine lv_iconst (v := 1) hx hb dL_law_673 (by decide) ?_
  refine lv_iadd hx hb dL_law_674 ?_
  refine topv (nI (i + 1)) (nI_add i 1) ?_
  refine sld hx hb hX hbl hbA hh (by omega) (by omega) dL_law_675 ?_
  refine callR (runV hx hb hg hown hml hl.1 (c_X3_on l D k ad V hR.2.2.2.2.2.1 hR.2.2.2.2.2.2.2.1 (xs (i + 1))) [.int (xs (i + 1))] [] (preR (mapSome_sub hh.1 (0 :: 1 :: 2 :: 3 :: 4 :: 5 :: 6 :: 7 :: 8 :: 9 :: 10 :: 11 :: 12 :: 13 :: 14 :: 15 :: 16 :: 17 :: 18 :: 19 :: 20 :: 21 :: 22 :: 23 :: 24 :: 25 :: 26 :: 27 :: 28 :: 29 :: 30 :: 31 :: 32 :: 33 :: 34 :: 35 :: 36 :: 37 :: 38 :: 39 :: 40 :: 41 :: 42 :: 43 :: 44 :: 45 :: 46 :: 47 :: 48 :: 49 :: 50 :: 51 :: 52 :: 53 :: 54 :: 55 :: 56 :: 57 :: 58 :: 59 :: 60 :: []) rfl) hK hN xb0 x0) (va_recv hK hh.1 (ci := 3) (q0 := 0) rfl rfl) wd_502 wd_503 wd_504 wd_49 wd_505 lk_X3_on ⟨rfl, rfl⟩ ⟨by decide, by decide⟩ hcs rfl (Nat.le_of_ble_eq_true rfl) dL_law_676) (fun r1 q1 => ?_)
  refine lv_aload_n hx hb dL_law_679 rfl (lv_at hl 2 rfl) ?_
  refine lv_aload_n hx hb dL_law_680 rfl (lv_at hl 0 rfl) ?_
  refine lv_iload_n hx hb dL_law_681 rfl (lv_at hl 3 rfl) ?_
  refine lv_iconst (v := 1) hx hb dL_law_682 (by decide) ?_
  refine lv_iadd hx hb dL_law_683 ?_
  refine topv (nI (i + 1)) (nI_add i 1) ?_
  refine sld hx hb hX hbl hbA hh (by omega) (by omega) dL_law_684 ?_
  refine callR (runV hx hb hg hown hml hl.1 (c_X4_on_ l D k bd Q hR.2.2.2.2.2.2.1 hR.2.2.2.2.2.2.2.1 (xs (i + 1))) [.int (xs (i + 1))] [.int r1] (preR (mapSome_sub hh.1 [61, 62, 63, 64, 65, 66, 67, 68, 69, 70, 71, 72, 73, 74, 75, 76, 77, 78, 79, 80, 81, 82, 83] rfl) hK hN xb0 x0) (va_recv hK hh.1 (ci := 4) (q0 := 61) rfl rfl) wd_792 wd_793 wd_794 wd_53 wd_795 lk_X4_on_ ⟨rfl, rfl⟩ ⟨by decide, by decide⟩ hcs rfl (Nat.le_of_ble_eq_true rfl) dL_law_685) (fun r2 q2 => ?_)
  have hE := op_on hR q1 q2
  have hR1 := hR
  refine lv_icmp_eq (tgt := 788) hx hb dL_law_688 (by decide) (fun c9 => ?_) (fun c9 => absurd hE c9)
  exact kk _ _ _ _ V Q H locs ls hR1 hh hl
set_option maxHeartbeats 4000000 in
set_option maxRecDepth 100000 in
theorem law_17 {p : Program} {l : Launch} {e : Env} {s : State} {m : MethodId} {below : List Frame} {meth : Method} {c : Code} {b L : Nat} {xs : Nat → Int32} {D : va_G} {k : Nat → ClassId} {ad bd : Nat → Nat} {A : Nat → Prop} {cells slots : Nat} {Z : State → Prop} (hx : p.tables.exec = Jvm.exec) (hb : c.code = code) (hg : ∀ w ∈ Gw, w.before #[Value.ref b] s = true) (hml : c.maxLocals = 4) (hown : s.vm.findClass "SliceWhyLaw" = some m.cls) (hK : va_K D vwCl (tyL k) s) (hN : NstU s) (hA : ∀ q, s.heap.size ≤ q → A q) (hX : va_X b L xs s s.heap) (hbl : b < s.heap.size) (hbA : ¬ A b) (hL : L ≤ 3072) (hcs : cells ≤ 600000 ∧ slots ≤ 7302249) (hSt : Sta A s s.heap) {i : Nat} (hi : i + 6 ≤ L) {n t c9 wl : Nat} {V Q : St} (hR : Rel n t c9 wl V Q) {H : Heap} {locs : List Loc} {ls : Array Slot} (hh : Hd D A (wS k ad V ++ wQ k bd Q) s.heap H locs) (hl : lv_has ls 4 [(0, .ref b), (1, .ref (ad 0)), (2, .ref (bd 0)), (3, .int (nI i))]) (kk : ∀ (n t c9 wl : Nat) (V Q : St) (H : Heap) (locs : List Loc) (ls : Array Slot), Rel n t c9 wl V Q → Hd D A (wS k ad V ++ wQ k bd Q) s.heap H locs → lv_has ls 4 [(0, .ref b), (1, .ref (ad 0)), (2, .ref (bd 0)), (3, .int (nI i))] → W p l e room_1 s m #[Value.ref b] below meth c H locs cells slots Z (F0 m 788 ls [])) : W p l e room_1 s m #[Value.ref b] below meth c H locs cells slots Z (F0 m 693 ls []) := by
  have hv := hR.1.1
  have hpq := hR.1.2.1
  have hca := hR.1.2.2.1
  have hcq := hR.1.2.2.2
  have hvq : okV n (pq Q) := by rw [← hpq]; exact hv
  refine lv_aload_n hx hb dL_law_693 rfl (lv_at hl 1 rfl) ?_
  refine lv_aload_n hx hb dL_law_694 rfl (lv_at hl 0 rfl) ?_
  refine lv_iload_n hx hb dL_law_695 rfl (lv_at hl 3 rfl) ?_
  refine lv_iconst (v := 1) hx hb dL_law_696 (by decide) ?_
  refine lv_iadd hx hb dL_law_697 ?_
  refine topv (nI (i + 1)) (nI_add i 1) ?_
  refine sld hx hb hX hbl hbA hh (by omega) (by omega) dL_law_698 ?_
  refine callWI (D := D) (wn := fun V1 => wS k ad V1 ++ wQ k bd Q) (wr := wQ k bd Q) (runV hx hb hg hown hml hl.1 ((c_X3_same l D k ad V hv hca (xs (i + 1))) H.size) [.int (xs (i + 1))] [] (preX (mapSome_sub hh.1 (0 :: 1 :: 2 :: 3 :: 4 :: 5 :: 6 :: 7 :: 8 :: 9 :: 10 :: 11 :: 12 :: 13 :: 14 :: 15 :: 16 :: 17 :: 18 :: 19 :: 20 :: 21 :: 22 :: 23 :: 24 :: 25 :: 26 :: 27 :: 28 :: 29 :: 30 :: 31 :: 32 :: 33 :: 34 :: 35 :: 36 :: 37 :: 38 :: 39 :: 40 :: 41 :: 42 :: 43 :: 44 :: 45 :: 46 :: 47 :: 48 :: 49 :: 50 :: 51 :: 52 :: 53 :: 54 :: 55 :: 56 :: 57 :: 58 :: 59 :: 60 :: []) rfl) (hh.2.1.sub (0 :: 1 :: 2 :: 3 :: 4 :: 5 :: 6 :: 7 :: 8 :: 9 :: 10 :: 11 :: 12 :: 13 :: 14 :: 15 :: 16 :: 17 :: 18 :: 19 :: 20 :: 21 :: 22 :: 23 :: 24 :: 25 :: 26 :: 27 :: 28 :: 29 :: 30 :: 31 :: 32 :: 33 :: 34 :: 35 :: 36 :: 37 :: 38 :: 39 :: 40 :: 41 :: 42 :: 43 :: 44 :: 45 :: 46 :: 47 :: 48 :: 49 :: 50 :: 51 :: 52 :: 53 :: 54 :: 55 :: 56 :: 57 :: 58 :: 59 :: 60 :: []) (by decide) rfl) hK hN xb0 x0) (va_recv hK hh.1 (ci := 3) (q0 := 0) rfl rfl) wd_506 wd_507 wd_508 wd_49 wd_509 lk_X3_same ⟨rfl, rfl⟩ ⟨by decide, by decide⟩ hcs rfl (Nat.le_of_ble_eq_true rfl) dL_law_699) hA hh (0 :: 1 :: 2 :: 3 :: 4 :: 5 :: 6 :: 7 :: 8 :: 9 :: 10 :: 11 :: 12 :: 13 :: 14 :: 15 :: 16 :: 17 :: 18 :: 19 :: 20 :: 21 :: 22 :: 23 :: 24 :: 25 :: 26 :: 27 :: 28 :: 29 :: 30 :: 31 :: 32 :: 33 :: 34 :: 35 :: 36 :: 37 :: 38 :: 39 :: 40 :: 41 :: 42 :: 43 :: 44 :: 45 :: 46 :: 47 :: 48 :: 49 :: 50 :: 51 :: 52 :: 53 :: 54 :: 55 :: 56 :: 57 :: 58 :: 59 :: 60 :: []) [61, 62, 63, 64, 65, 66, 67, 68, 69, 70, 71, 72, 73, 74, 75, 76, 77, 78, 79, 80, 81, 82, 83] (23 :: 24 :: 25 :: 26 :: 27 :: 28 :: 29 :: 30 :: 31 :: 32 :: 33 :: 34 :: 35 :: 36 :: 37 :: 38 :: 39 :: 40 :: 41 :: 42 :: 43 :: 44 :: 45 :: 46 :: 47 :: 48 :: 49 :: 50 :: 51 :: 52 :: 53 :: 54 :: 55 :: 56 :: 57 :: 58 :: 59 :: 60 :: 61 :: 62 :: 63 :: 64 :: 65 :: 66 :: 67 :: 68 :: 69 :: 70 :: 71 :: 72 :: 73 :: 74 :: 75 :: 76 :: 77 :: 78 :: 79 :: 80 :: 81 :: 82 :: 83 :: 0 :: 1 :: 2 :: 3 :: 4 :: 5 :: 6 :: 7 :: 8 :: 9 :: 10 :: 11 :: 12 :: 13 :: 14 :: 15 :: 16 :: 17 :: 18 :: 19 :: 20 :: 21 :: 22 :: []) rfl rfl (by decide) (by decide) (by decide) (fun _ => rfl) (fun r1 V1 H locs q1 hh => ?_)
  refine lv_aload_n hx hb dL_law_702 rfl (lv_at hl 2 rfl) ?_
  refine lv_aload_n hx hb dL_law_703 rfl (lv_at hl 0 rfl) ?_
  refine lv_iload_n hx hb dL_law_704 rfl (lv_at hl 3 rfl) ?_
  refine lv_iconst (v := 1) hx hb dL_law_705 (by decide) ?_
  refine lv_iadd hx hb dL_law_706 ?_
  refine topv (nI (i + 1)) (nI_add i 1) ?_
  refine sld hx hb hX hbl hbA hh (by omega) (by omega) dL_law_707 ?_
  refine callWI (D := D) (wn := fun Q1 => wS k ad V1 ++ wQ k bd Q1) (wr := wS k ad V1) (runV hx hb hg hown hml hl.1 ((c_X4_same l D k bd Q hvq hcq (xs (i + 1))) H.size) [.int (xs (i + 1))] [.int r1] (preX (mapSome_sub hh.1 [61, 62, 63, 64, 65, 66, 67, 68, 69, 70, 71, 72, 73, 74, 75, 76, 77, 78, 79, 80, 81, 82, 83] rfl) (hh.2.1.sub [61, 62, 63, 64, 65, 66, 67, 68, 69, 70, 71, 72, 73, 74, 75, 76, 77, 78, 79, 80, 81, 82, 83] (by decide) rfl) hK hN xb0 x0) (va_recv hK hh.1 (ci := 4) (q0 := 61) rfl rfl) wd_832 wd_833 wd_834 wd_53 wd_835 lk_X4_same ⟨rfl, rfl⟩ ⟨by decide, by decide⟩ hcs rfl (Nat.le_of_ble_eq_true rfl) dL_law_708) hA hh [61, 62, 63, 64, 65, 66, 67, 68, 69, 70, 71, 72, 73, 74, 75, 76, 77, 78, 79, 80, 81, 82, 83] (0 :: 1 :: 2 :: 3 :: 4 :: 5 :: 6 :: 7 :: 8 :: 9 :: 10 :: 11 :: 12 :: 13 :: 14 :: 15 :: 16 :: 17 :: 18 :: 19 :: 20 :: 21 :: 22 :: 23 :: 24 :: 25 :: 26 :: 27 :: 28 :: 29 :: 30 :: 31 :: 32 :: 33 :: 34 :: 35 :: 36 :: 37 :: 38 :: 39 :: 40 :: 41 :: 42 :: 43 :: 44 :: 45 :: 46 :: 47 :: 48 :: 49 :: 50 :: 51 :: 52 :: 53 :: 54 :: 55 :: 56 :: 57 :: 58 :: 59 :: 60 :: []) (0 :: 1 :: 2 :: 3 :: 4 :: 5 :: 6 :: 7 :: 8 :: 9 :: 10 :: 11 :: 12 :: 13 :: 14 :: 15 :: 16 :: 17 :: 18 :: 19 :: 20 :: 21 :: 22 :: 23 :: 24 :: 25 :: 26 :: 27 :: 28 :: 29 :: 30 :: 31 :: 32 :: 33 :: 34 :: 35 :: 36 :: 37 :: 38 :: 39 :: 40 :: 41 :: 42 :: 43 :: 44 :: 45 :: 46 :: 47 :: 48 :: 49 :: 50 :: 51 :: 52 :: 53 :: 54 :: 55 :: 56 :: 57 :: 58 :: 59 :: 60 :: 61 :: 62 :: 63 :: 64 :: 65 :: 66 :: 67 :: 68 :: 69 :: 70 :: 71 :: 72 :: 73 :: 74 :: 75 :: 76 :: 77 :: 78 :: 79 :: 80 :: 81 :: 82 :: 83 :: []) rfl rfl (by decide) (by decide) (by decide) (fun _ => rfl) (fun r2 Q1 H locs q2 hh => ?_)
  obtain ⟨hE, hR1⟩ := op_same hR (by intro i hi; simp at hi; omega) q1 q2
  refine lv_icmp_eq (tgt := 788) hx hb dL_law_711 (by decide) (fun c9 => ?_) (fun c9 => absurd hE c9)
  exact kk _ _ _ _ V1 Q1 H locs ls hR1 hh hl
set_option maxHeartbeats 4000000 in
set_option maxRecDepth 100000 in
theorem law_18 {p : Program} {l : Launch} {e : Env} {s : State} {m : MethodId} {below : List Frame} {meth : Method} {c : Code} {b L : Nat} {xs : Nat → Int32} {D : va_G} {k : Nat → ClassId} {ad bd : Nat → Nat} {A : Nat → Prop} {cells slots : Nat} {Z : State → Prop} (hx : p.tables.exec = Jvm.exec) (hb : c.code = code) (hg : ∀ w ∈ Gw, w.before #[Value.ref b] s = true) (hml : c.maxLocals = 4) (hown : s.vm.findClass "SliceWhyLaw" = some m.cls) (hK : va_K D vwCl (tyL k) s) (hN : NstU s) (hA : ∀ q, s.heap.size ≤ q → A q) (hX : va_X b L xs s s.heap) (hbl : b < s.heap.size) (hbA : ¬ A b) (hL : L ≤ 3072) (hcs : cells ≤ 600000 ∧ slots ≤ 7302249) (hSt : Sta A s s.heap) {i : Nat} (hi : i + 6 ≤ L) {n t c9 wl : Nat} {V Q : St} (hR : Rel n t c9 wl V Q) {H : Heap} {locs : List Loc} {ls : Array Slot} (hh : Hd D A (wS k ad V ++ wQ k bd Q) s.heap H locs) (hl : lv_has ls 4 [(0, .ref b), (1, .ref (ad 0)), (2, .ref (bd 0)), (3, .int (nI i))]) (kk : ∀ (n t c9 wl : Nat) (V Q : St) (H : Heap) (locs : List Loc) (ls : Array Slot), Rel n t c9 wl V Q → Hd D A (wS k ad V ++ wQ k bd Q) s.heap H locs → lv_has ls 4 [(0, .ref b), (1, .ref (ad 0)), (2, .ref (bd 0)), (3, .int (nI i))] → W p l e room_1 s m #[Value.ref b] below meth c H locs cells slots Z (F0 m 788 ls [])) : W p l e room_1 s m #[Value.ref b] below meth c H locs cells slots Z (F0 m 716 ls []) := by
  have hv := hR.1.1
  have hpq := hR.1.2.1
  have hca := hR.1.2.2.1
  have hcq := hR.1.2.2.2
  have hvq : okV n (pq Q) := by rw [← hpq]; exact hv
  refine lv_aload_n hx hb dL_law_716 rfl (lv_at hl 1 rfl) ?_
  refine callWI (D := D) (wn := fun V1 => wS k ad V1 ++ wQ k bd Q) (wr := wQ k bd Q) (runV hx hb hg hown hml hl.1 ((c_X3_test l D k ad V hR.2.2.1.1 hR.2.2.1.2.2.1) H.size) [] [] (preX (mapSome_sub hh.1 (0 :: 1 :: 2 :: 3 :: 4 :: 5 :: 6 :: 7 :: 8 :: 9 :: 10 :: 11 :: 12 :: 13 :: 14 :: 15 :: 16 :: 17 :: 18 :: 19 :: 20 :: 21 :: 22 :: 23 :: 24 :: 25 :: 26 :: 27 :: 28 :: 29 :: 30 :: 31 :: 32 :: 33 :: 34 :: 35 :: 36 :: 37 :: 38 :: 39 :: 40 :: 41 :: 42 :: 43 :: 44 :: 45 :: 46 :: 47 :: 48 :: 49 :: 50 :: 51 :: 52 :: 53 :: 54 :: 55 :: 56 :: 57 :: 58 :: 59 :: 60 :: []) rfl) (hh.2.1.sub (0 :: 1 :: 2 :: 3 :: 4 :: 5 :: 6 :: 7 :: 8 :: 9 :: 10 :: 11 :: 12 :: 13 :: 14 :: 15 :: 16 :: 17 :: 18 :: 19 :: 20 :: 21 :: 22 :: 23 :: 24 :: 25 :: 26 :: 27 :: 28 :: 29 :: 30 :: 31 :: 32 :: 33 :: 34 :: 35 :: 36 :: 37 :: 38 :: 39 :: 40 :: 41 :: 42 :: 43 :: 44 :: 45 :: 46 :: 47 :: 48 :: 49 :: 50 :: 51 :: 52 :: 53 :: 54 :: 55 :: 56 :: 57 :: 58 :: 59 :: 60 :: []) (by decide) rfl) hK hN xb0 x0) (va_recv hK hh.1 (ci := 3) (q0 := 0) rfl rfl) wd_514 wd_515 wd_516 wd_49 wd_517 lk_X3_test ⟨rfl, rfl⟩ ⟨by decide, by decide⟩ hcs rfl (Nat.le_of_ble_eq_true rfl) dL_law_717) hA hh (0 :: 1 :: 2 :: 3 :: 4 :: 5 :: 6 :: 7 :: 8 :: 9 :: 10 :: 11 :: 12 :: 13 :: 14 :: 15 :: 16 :: 17 :: 18 :: 19 :: 20 :: 21 :: 22 :: 23 :: 24 :: 25 :: 26 :: 27 :: 28 :: 29 :: 30 :: 31 :: 32 :: 33 :: 34 :: 35 :: 36 :: 37 :: 38 :: 39 :: 40 :: 41 :: 42 :: 43 :: 44 :: 45 :: 46 :: 47 :: 48 :: 49 :: 50 :: 51 :: 52 :: 53 :: 54 :: 55 :: 56 :: 57 :: 58 :: 59 :: 60 :: []) [61, 62, 63, 64, 65, 66, 67, 68, 69, 70, 71, 72, 73, 74, 75, 76, 77, 78, 79, 80, 81, 82, 83] (23 :: 24 :: 25 :: 26 :: 27 :: 28 :: 29 :: 30 :: 31 :: 32 :: 33 :: 34 :: 35 :: 36 :: 37 :: 38 :: 39 :: 40 :: 41 :: 42 :: 43 :: 44 :: 45 :: 46 :: 47 :: 48 :: 49 :: 50 :: 51 :: 52 :: 53 :: 54 :: 55 :: 56 :: 57 :: 58 :: 59 :: 60 :: 61 :: 62 :: 63 :: 64 :: 65 :: 66 :: 67 :: 68 :: 69 :: 70 :: 71 :: 72 :: 73 :: 74 :: 75 :: 76 :: 77 :: 78 :: 79 :: 80 :: 81 :: 82 :: 83 :: 0 :: 1 :: 2 :: 3 :: 4 :: 5 :: 6 :: 7 :: 8 :: 9 :: 10 :: 11 :: 12 :: 13 :: 14 :: 15 :: 16 :: 17 :: 18 :: 19 :: 20 :: 21 :: 22 :: []) rfl rfl (by decide) (by decide) (by decide) (fun _ => rfl) (fun r1 V1 H locs q1 hh => ?_)
  refine lv_aload_n hx hb dL_law_720 rfl (lv_at hl 2 rfl) ?_
  refine callWI (D := D) (wn := fun Q1 => wS k ad V1 ++ wQ k bd Q1) (wr := wS k ad V1) (runV hx hb hg hown hml hl.1 ((c_X4_test l D k bd Q hR.2.2.1.2.1 hR.2.2.1.2.2.1) H.size) [] [.int r1] (preX (mapSome_sub hh.1 [61, 62, 63, 64, 65, 66, 67, 68, 69, 70, 71, 72, 73, 74, 75, 76, 77, 78, 79, 80, 81, 82, 83] rfl) (hh.2.1.sub [61, 62, 63, 64, 65, 66, 67, 68, 69, 70, 71, 72, 73, 74, 75, 76, 77, 78, 79, 80, 81, 82, 83] (by decide) rfl) hK hN xb0 x0) (va_recv hK hh.1 (ci := 4) (q0 := 61) rfl rfl) wd_844 wd_845 wd_846 wd_53 wd_847 lk_X4_test ⟨rfl, rfl⟩ ⟨by decide, by decide⟩ hcs rfl (Nat.le_of_ble_eq_true rfl) dL_law_721) hA hh [61, 62, 63, 64, 65, 66, 67, 68, 69, 70, 71, 72, 73, 74, 75, 76, 77, 78, 79, 80, 81, 82, 83] (0 :: 1 :: 2 :: 3 :: 4 :: 5 :: 6 :: 7 :: 8 :: 9 :: 10 :: 11 :: 12 :: 13 :: 14 :: 15 :: 16 :: 17 :: 18 :: 19 :: 20 :: 21 :: 22 :: 23 :: 24 :: 25 :: 26 :: 27 :: 28 :: 29 :: 30 :: 31 :: 32 :: 33 :: 34 :: 35 :: 36 :: 37 :: 38 :: 39 :: 40 :: 41 :: 42 :: 43 :: 44 :: 45 :: 46 :: 47 :: 48 :: 49 :: 50 :: 51 :: 52 :: 53 :: 54 :: 55 :: 56 :: 57 :: 58 :: 59 :: 60 :: []) (0 :: 1 :: 2 :: 3 :: 4 :: 5 :: 6 :: 7 :: 8 :: 9 :: 10 :: 11 :: 12 :: 13 :: 14 :: 15 :: 16 :: 17 :: 18 :: 19 :: 20 :: 21 :: 22 :: 23 :: 24 :: 25 :: 26 :: 27 :: 28 :: 29 :: 30 :: 31 :: 32 :: 33 :: 34 :: 35 :: 36 :: 37 :: 38 :: 39 :: 40 :: 41 :: 42 :: 43 :: 44 :: 45 :: 46 :: 47 :: 48 :: 49 :: 50 :: 51 :: 52 :: 53 :: 54 :: 55 :: 56 :: 57 :: 58 :: 59 :: 60 :: 61 :: 62 :: 63 :: 64 :: 65 :: 66 :: 67 :: 68 :: 69 :: 70 :: 71 :: 72 :: 73 :: 74 :: 75 :: 76 :: 77 :: 78 :: 79 :: 80 :: 81 :: 82 :: 83 :: []) rfl rfl (by decide) (by decide) (by decide) (fun _ => rfl) (fun r2 Q1 H locs q2 hh => ?_)
  obtain ⟨hE, n1, hR1⟩ := op_test hR q1 q2
  refine lv_icmp_eq (tgt := 788) hx hb dL_law_724 (by decide) (fun c9 => ?_) (fun c9 => absurd hE c9)
  exact kk _ _ _ _ V1 Q1 H locs ls hR1 hh hl
set_option maxHeartbeats 4000000 in
set_option maxRecDepth 100000 in
theorem law_19 {p : Program} {l : Launch} {e : Env} {s : State} {m : MethodId} {below : List Frame} {meth : Method} {c : Code} {b L : Nat} {xs : Nat → Int32} {D : va_G} {k : Nat → ClassId} {ad bd : Nat → Nat} {A : Nat → Prop} {cells slots : Nat} {Z : State → Prop} (hx : p.tables.exec = Jvm.exec) (hb : c.code = code) (hg : ∀ w ∈ Gw, w.before #[Value.ref b] s = true) (hml : c.maxLocals = 4) (hown : s.vm.findClass "SliceWhyLaw" = some m.cls) (hK : va_K D vwCl (tyL k) s) (hN : NstU s) (hA : ∀ q, s.heap.size ≤ q → A q) (hX : va_X b L xs s s.heap) (hbl : b < s.heap.size) (hbA : ¬ A b) (hL : L ≤ 3072) (hcs : cells ≤ 600000 ∧ slots ≤ 7302249) (hSt : Sta A s s.heap) {i : Nat} (hi : i + 6 ≤ L) {n t c9 wl : Nat} {V Q : St} (hR : Rel n t c9 wl V Q) {H : Heap} {locs : List Loc} {ls : Array Slot} (hh : Hd D A (wS k ad V ++ wQ k bd Q) s.heap H locs) (hl : lv_has ls 4 [(0, .ref b), (1, .ref (ad 0)), (2, .ref (bd 0)), (3, .int (nI i))]) (kk : ∀ (n t c9 wl : Nat) (V Q : St) (H : Heap) (locs : List Loc) (ls : Array Slot), Rel n t c9 wl V Q → Hd D A (wS k ad V ++ wQ k bd Q) s.heap H locs → lv_has ls 4 [(0, .ref b), (1, .ref (ad 0)), (2, .ref (bd 0)), (3, .int (nI i))] → W p l e room_1 s m #[Value.ref b] below meth c H locs cells slots Z (F0 m 788 ls [])) : W p l e room_1 s m #[Value.ref b] below meth c H locs cells slots Z (F0 m 729 ls []) := by
  have hv := hR.1.1
  have hpq := hR.1.2.1
  have hca := hR.1.2.2.1
  have hcq := hR.1.2.2.2
  have hvq : okV n (pq Q) := by rw [← hpq]; exact hv
  refine lv_aload_n hx hb dL_law_729 rfl (lv_at hl 1 rfl) ?_
  refine callWI (D := D) (wn := fun V1 => wS k ad V1 ++ wQ k bd Q) (wr := wQ k bd Q) (runV hx hb hg hown hml hl.1 ((c_X3_untest l D k ad V) H.size) [] [] (preX (mapSome_sub hh.1 (0 :: 1 :: 2 :: 3 :: 4 :: 5 :: 6 :: 7 :: 8 :: 9 :: 10 :: 11 :: 12 :: 13 :: 14 :: 15 :: 16 :: 17 :: 18 :: 19 :: 20 :: 21 :: 22 :: 23 :: 24 :: 25 :: 26 :: 27 :: 28 :: 29 :: 30 :: 31 :: 32 :: 33 :: 34 :: 35 :: 36 :: 37 :: 38 :: 39 :: 40 :: 41 :: 42 :: 43 :: 44 :: 45 :: 46 :: 47 :: 48 :: 49 :: 50 :: 51 :: 52 :: 53 :: 54 :: 55 :: 56 :: 57 :: 58 :: 59 :: 60 :: []) rfl) (hh.2.1.sub (0 :: 1 :: 2 :: 3 :: 4 :: 5 :: 6 :: 7 :: 8 :: 9 :: 10 :: 11 :: 12 :: 13 :: 14 :: 15 :: 16 :: 17 :: 18 :: 19 :: 20 :: 21 :: 22 :: 23 :: 24 :: 25 :: 26 :: 27 :: 28 :: 29 :: 30 :: 31 :: 32 :: 33 :: 34 :: 35 :: 36 :: 37 :: 38 :: 39 :: 40 :: 41 :: 42 :: 43 :: 44 :: 45 :: 46 :: 47 :: 48 :: 49 :: 50 :: 51 :: 52 :: 53 :: 54 :: 55 :: 56 :: 57 :: 58 :: 59 :: 60 :: []) (by decide) rfl) hK hN xb0 x0) (va_recv hK hh.1 (ci := 3) (q0 := 0) rfl rfl) wd_521 wd_522 wd_523 wd_49 wd_524 lk_X3_untest ⟨rfl, rfl⟩ ⟨by decide, by decide⟩ hcs rfl (Nat.le_of_ble_eq_true rfl) dL_law_730) hA hh (0 :: 1 :: 2 :: 3 :: 4 :: 5 :: 6 :: 7 :: 8 :: 9 :: 10 :: 11 :: 12 :: 13 :: 14 :: 15 :: 16 :: 17 :: 18 :: 19 :: 20 :: 21 :: 22 :: 23 :: 24 :: 25 :: 26 :: 27 :: 28 :: 29 :: 30 :: 31 :: 32 :: 33 :: 34 :: 35 :: 36 :: 37 :: 38 :: 39 :: 40 :: 41 :: 42 :: 43 :: 44 :: 45 :: 46 :: 47 :: 48 :: 49 :: 50 :: 51 :: 52 :: 53 :: 54 :: 55 :: 56 :: 57 :: 58 :: 59 :: 60 :: []) [61, 62, 63, 64, 65, 66, 67, 68, 69, 70, 71, 72, 73, 74, 75, 76, 77, 78, 79, 80, 81, 82, 83] (23 :: 24 :: 25 :: 26 :: 27 :: 28 :: 29 :: 30 :: 31 :: 32 :: 33 :: 34 :: 35 :: 36 :: 37 :: 38 :: 39 :: 40 :: 41 :: 42 :: 43 :: 44 :: 45 :: 46 :: 47 :: 48 :: 49 :: 50 :: 51 :: 52 :: 53 :: 54 :: 55 :: 56 :: 57 :: 58 :: 59 :: 60 :: 61 :: 62 :: 63 :: 64 :: 65 :: 66 :: 67 :: 68 :: 69 :: 70 :: 71 :: 72 :: 73 :: 74 :: 75 :: 76 :: 77 :: 78 :: 79 :: 80 :: 81 :: 82 :: 83 :: 0 :: 1 :: 2 :: 3 :: 4 :: 5 :: 6 :: 7 :: 8 :: 9 :: 10 :: 11 :: 12 :: 13 :: 14 :: 15 :: 16 :: 17 :: 18 :: 19 :: 20 :: 21 :: 22 :: []) rfl rfl (by decide) (by decide) (by decide) (fun _ => rfl) (fun r1 V1 H locs q1 hh => ?_)
  refine lv_aload_n hx hb dL_law_733 rfl (lv_at hl 2 rfl) ?_
  refine callWI (D := D) (wn := fun Q1 => wS k ad V1 ++ wQ k bd Q1) (wr := wS k ad V1) (runV hx hb hg hown hml hl.1 ((c_X4_untest l D k bd Q) H.size) [] [.int r1] (preX (mapSome_sub hh.1 [61, 62, 63, 64, 65, 66, 67, 68, 69, 70, 71, 72, 73, 74, 75, 76, 77, 78, 79, 80, 81, 82, 83] rfl) (hh.2.1.sub [61, 62, 63, 64, 65, 66, 67, 68, 69, 70, 71, 72, 73, 74, 75, 76, 77, 78, 79, 80, 81, 82, 83] (by decide) rfl) hK hN xb0 x0) (va_recv hK hh.1 (ci := 4) (q0 := 61) rfl rfl) wd_848 wd_849 wd_850 wd_53 wd_851 lk_X4_untest ⟨rfl, rfl⟩ ⟨by decide, by decide⟩ hcs rfl (Nat.le_of_ble_eq_true rfl) dL_law_734) hA hh [61, 62, 63, 64, 65, 66, 67, 68, 69, 70, 71, 72, 73, 74, 75, 76, 77, 78, 79, 80, 81, 82, 83] (0 :: 1 :: 2 :: 3 :: 4 :: 5 :: 6 :: 7 :: 8 :: 9 :: 10 :: 11 :: 12 :: 13 :: 14 :: 15 :: 16 :: 17 :: 18 :: 19 :: 20 :: 21 :: 22 :: 23 :: 24 :: 25 :: 26 :: 27 :: 28 :: 29 :: 30 :: 31 :: 32 :: 33 :: 34 :: 35 :: 36 :: 37 :: 38 :: 39 :: 40 :: 41 :: 42 :: 43 :: 44 :: 45 :: 46 :: 47 :: 48 :: 49 :: 50 :: 51 :: 52 :: 53 :: 54 :: 55 :: 56 :: 57 :: 58 :: 59 :: 60 :: []) (0 :: 1 :: 2 :: 3 :: 4 :: 5 :: 6 :: 7 :: 8 :: 9 :: 10 :: 11 :: 12 :: 13 :: 14 :: 15 :: 16 :: 17 :: 18 :: 19 :: 20 :: 21 :: 22 :: 23 :: 24 :: 25 :: 26 :: 27 :: 28 :: 29 :: 30 :: 31 :: 32 :: 33 :: 34 :: 35 :: 36 :: 37 :: 38 :: 39 :: 40 :: 41 :: 42 :: 43 :: 44 :: 45 :: 46 :: 47 :: 48 :: 49 :: 50 :: 51 :: 52 :: 53 :: 54 :: 55 :: 56 :: 57 :: 58 :: 59 :: 60 :: 61 :: 62 :: 63 :: 64 :: 65 :: 66 :: 67 :: 68 :: 69 :: 70 :: 71 :: 72 :: 73 :: 74 :: 75 :: 76 :: 77 :: 78 :: 79 :: 80 :: 81 :: 82 :: 83 :: []) rfl rfl (by decide) (by decide) (by decide) (fun _ => rfl) (fun r2 Q1 H locs q2 hh => ?_)
  obtain ⟨hE, hR1⟩ := op_untest hR q1 q2
  refine lv_icmp_eq (tgt := 788) hx hb dL_law_737 (by decide) (fun c9 => ?_) (fun c9 => absurd hE c9)
  exact kk _ _ _ _ V1 Q1 H locs ls hR1 hh hl
set_option maxHeartbeats 4000000 in
set_option maxRecDepth 100000 in
theorem law_20 {p : Program} {l : Launch} {e : Env} {s : State} {m : MethodId} {below : List Frame} {meth : Method} {c : Code} {b L : Nat} {xs : Nat → Int32} {D : va_G} {k : Nat → ClassId} {ad bd : Nat → Nat} {A : Nat → Prop} {cells slots : Nat} {Z : State → Prop} (hx : p.tables.exec = Jvm.exec) (hb : c.code = code) (hg : ∀ w ∈ Gw, w.before #[Value.ref b] s = true) (hml : c.maxLocals = 4) (hown : s.vm.findClass "SliceWhyLaw" = some m.cls) (hK : va_K D vwCl (tyL k) s) (hN : NstU s) (hA : ∀ q, s.heap.size ≤ q → A q) (hX : va_X b L xs s s.heap) (hbl : b < s.heap.size) (hbA : ¬ A b) (hL : L ≤ 3072) (hcs : cells ≤ 600000 ∧ slots ≤ 7302249) (hSt : Sta A s s.heap) {i : Nat} (hi : i + 6 ≤ L) {n t c9 wl : Nat} {V Q : St} (hR : Rel n t c9 wl V Q) {H : Heap} {locs : List Loc} {ls : Array Slot} (hh : Hd D A (wS k ad V ++ wQ k bd Q) s.heap H locs) (hl : lv_has ls 4 [(0, .ref b), (1, .ref (ad 0)), (2, .ref (bd 0)), (3, .int (nI i))]) (kk : ∀ (n t c9 wl : Nat) (V Q : St) (H : Heap) (locs : List Loc) (ls : Array Slot), Rel n t c9 wl V Q → Hd D A (wS k ad V ++ wQ k bd Q) s.heap H locs → lv_has ls 4 [(0, .ref b), (1, .ref (ad 0)), (2, .ref (bd 0)), (3, .int (nI i))] → W p l e room_1 s m #[Value.ref b] below meth c H locs cells slots Z (F0 m 788 ls [])) : W p l e room_1 s m #[Value.ref b] below meth c H locs cells slots Z (F0 m 742 ls []) := by
  have hv := hR.1.1
  have hpq := hR.1.2.1
  have hca := hR.1.2.2.1
  have hcq := hR.1.2.2.2
  have hvq : okV n (pq Q) := by rw [← hpq]; exact hv
  refine lv_aload_n hx hb dL_law_742 rfl (lv_at hl 1 rfl) ?_
  refine lv_aload_n hx hb dL_law_743 rfl (lv_at hl 0 rfl) ?_
  refine lv_iload_n hx hb dL_law_744 rfl (lv_at hl 3 rfl) ?_
  refine lv_iconst (v := 1) hx hb dL_law_745 (by decide) ?_
  refine lv_iadd hx hb dL_law_746 ?_
  refine topv (nI (i + 1)) (nI_add i 1) ?_
  refine sld hx hb hX hbl hbA hh (by omega) (by omega) dL_law_747 ?_
  refine callWI (D := D) (wn := fun V1 => wS k ad V1 ++ wQ k bd Q) (wr := wQ k bd Q) (runV hx hb hg hown hml hl.1 ((c_X3_least l D k ad V hv hca hR.2.2.1.1 hR.2.2.1.2.2.1 (xs (i + 1))) H.size) [.int (xs (i + 1))] [] (preX (mapSome_sub hh.1 (0 :: 1 :: 2 :: 3 :: 4 :: 5 :: 6 :: 7 :: 8 :: 9 :: 10 :: 11 :: 12 :: 13 :: 14 :: 15 :: 16 :: 17 :: 18 :: 19 :: 20 :: 21 :: 22 :: 23 :: 24 :: 25 :: 26 :: 27 :: 28 :: 29 :: 30 :: 31 :: 32 :: 33 :: 34 :: 35 :: 36 :: 37 :: 38 :: 39 :: 40 :: 41 :: 42 :: 43 :: 44 :: 45 :: 46 :: 47 :: 48 :: 49 :: 50 :: 51 :: 52 :: 53 :: 54 :: 55 :: 56 :: 57 :: 58 :: 59 :: 60 :: []) rfl) (hh.2.1.sub (0 :: 1 :: 2 :: 3 :: 4 :: 5 :: 6 :: 7 :: 8 :: 9 :: 10 :: 11 :: 12 :: 13 :: 14 :: 15 :: 16 :: 17 :: 18 :: 19 :: 20 :: 21 :: 22 :: 23 :: 24 :: 25 :: 26 :: 27 :: 28 :: 29 :: 30 :: 31 :: 32 :: 33 :: 34 :: 35 :: 36 :: 37 :: 38 :: 39 :: 40 :: 41 :: 42 :: 43 :: 44 :: 45 :: 46 :: 47 :: 48 :: 49 :: 50 :: 51 :: 52 :: 53 :: 54 :: 55 :: 56 :: 57 :: 58 :: 59 :: 60 :: []) (by decide) rfl) hK hN xb0 x0) (va_recv hK hh.1 (ci := 3) (q0 := 0) rfl rfl) wd_525 wd_526 wd_527 wd_49 wd_528 lk_X3_least ⟨rfl, rfl⟩ ⟨by decide, by decide⟩ hcs rfl (Nat.le_of_ble_eq_true rfl) dL_law_748) hA hh (0 :: 1 :: 2 :: 3 :: 4 :: 5 :: 6 :: 7 :: 8 :: 9 :: 10 :: 11 :: 12 :: 13 :: 14 :: 15 :: 16 :: 17 :: 18 :: 19 :: 20 :: 21 :: 22 :: 23 :: 24 :: 25 :: 26 :: 27 :: 28 :: 29 :: 30 :: 31 :: 32 :: 33 :: 34 :: 35 :: 36 :: 37 :: 38 :: 39 :: 40 :: 41 :: 42 :: 43 :: 44 :: 45 :: 46 :: 47 :: 48 :: 49 :: 50 :: 51 :: 52 :: 53 :: 54 :: 55 :: 56 :: 57 :: 58 :: 59 :: 60 :: []) [61, 62, 63, 64, 65, 66, 67, 68, 69, 70, 71, 72, 73, 74, 75, 76, 77, 78, 79, 80, 81, 82, 83] (23 :: 24 :: 25 :: 26 :: 27 :: 28 :: 29 :: 30 :: 31 :: 32 :: 33 :: 34 :: 35 :: 36 :: 37 :: 38 :: 39 :: 40 :: 41 :: 42 :: 43 :: 44 :: 45 :: 46 :: 47 :: 48 :: 49 :: 50 :: 51 :: 52 :: 53 :: 54 :: 55 :: 56 :: 57 :: 58 :: 59 :: 60 :: 61 :: 62 :: 63 :: 64 :: 65 :: 66 :: 67 :: 68 :: 69 :: 70 :: 71 :: 72 :: 73 :: 74 :: 75 :: 76 :: 77 :: 78 :: 79 :: 80 :: 81 :: 82 :: 83 :: 0 :: 1 :: 2 :: 3 :: 4 :: 5 :: 6 :: 7 :: 8 :: 9 :: 10 :: 11 :: 12 :: 13 :: 14 :: 15 :: 16 :: 17 :: 18 :: 19 :: 20 :: 21 :: 22 :: []) rfl rfl (by decide) (by decide) (by decide) (fun _ => rfl) (fun r1 V1 H locs q1 hh => ?_)
  refine lv_aload_n hx hb dL_law_751 rfl (lv_at hl 2 rfl) ?_
  refine lv_aload_n hx hb dL_law_752 rfl (lv_at hl 0 rfl) ?_
  refine lv_iload_n hx hb dL_law_753 rfl (lv_at hl 3 rfl) ?_
  refine lv_iconst (v := 1) hx hb dL_law_754 (by decide) ?_
  refine lv_iadd hx hb dL_law_755 ?_
  refine topv (nI (i + 1)) (nI_add i 1) ?_
  refine sld hx hb hX hbl hbA hh (by omega) (by omega) dL_law_756 ?_
  refine callWI (D := D) (wn := fun Q1 => wS k ad V1 ++ wQ k bd Q1) (wr := wS k ad V1) (runV hx hb hg hown hml hl.1 ((c_X4_least l D k bd Q hvq hcq hR.2.2.1.2.1 hR.2.2.1.2.2.1 (xs (i + 1))) H.size) [.int (xs (i + 1))] [.int r1] (preX (mapSome_sub hh.1 [61, 62, 63, 64, 65, 66, 67, 68, 69, 70, 71, 72, 73, 74, 75, 76, 77, 78, 79, 80, 81, 82, 83] rfl) (hh.2.1.sub [61, 62, 63, 64, 65, 66, 67, 68, 69, 70, 71, 72, 73, 74, 75, 76, 77, 78, 79, 80, 81, 82, 83] (by decide) rfl) hK hN xb0 x0) (va_recv hK hh.1 (ci := 4) (q0 := 61) rfl rfl) wd_852 wd_853 wd_854 wd_53 wd_855 lk_X4_least ⟨rfl, rfl⟩ ⟨by decide, by decide⟩ hcs rfl (Nat.le_of_ble_eq_true rfl) dL_law_757) hA hh [61, 62, 63, 64, 65, 66, 67, 68, 69, 70, 71, 72, 73, 74, 75, 76, 77, 78, 79, 80, 81, 82, 83] (0 :: 1 :: 2 :: 3 :: 4 :: 5 :: 6 :: 7 :: 8 :: 9 :: 10 :: 11 :: 12 :: 13 :: 14 :: 15 :: 16 :: 17 :: 18 :: 19 :: 20 :: 21 :: 22 :: 23 :: 24 :: 25 :: 26 :: 27 :: 28 :: 29 :: 30 :: 31 :: 32 :: 33 :: 34 :: 35 :: 36 :: 37 :: 38 :: 39 :: 40 :: 41 :: 42 :: 43 :: 44 :: 45 :: 46 :: 47 :: 48 :: 49 :: 50 :: 51 :: 52 :: 53 :: 54 :: 55 :: 56 :: 57 :: 58 :: 59 :: 60 :: []) (0 :: 1 :: 2 :: 3 :: 4 :: 5 :: 6 :: 7 :: 8 :: 9 :: 10 :: 11 :: 12 :: 13 :: 14 :: 15 :: 16 :: 17 :: 18 :: 19 :: 20 :: 21 :: 22 :: 23 :: 24 :: 25 :: 26 :: 27 :: 28 :: 29 :: 30 :: 31 :: 32 :: 33 :: 34 :: 35 :: 36 :: 37 :: 38 :: 39 :: 40 :: 41 :: 42 :: 43 :: 44 :: 45 :: 46 :: 47 :: 48 :: 49 :: 50 :: 51 :: 52 :: 53 :: 54 :: 55 :: 56 :: 57 :: 58 :: 59 :: 60 :: 61 :: 62 :: 63 :: 64 :: 65 :: 66 :: 67 :: 68 :: 69 :: 70 :: 71 :: 72 :: 73 :: 74 :: 75 :: 76 :: 77 :: 78 :: 79 :: 80 :: 81 :: 82 :: 83 :: []) rfl rfl (by decide) (by decide) (by decide) (fun _ => rfl) (fun r2 Q1 H locs q2 hh => ?_)
  obtain ⟨hE, hR1⟩ := op_least hR (by intro i hi; simp at hi; omega) q1 q2
  refine lv_icmp_eq (tgt := 788) hx hb dL_law_760 (by decide) (fun c9 => ?_) (fun c9 => absurd hE c9)
  exact kk _ _ _ _ V1 Q1 H locs ls hR1 hh hl
set_option maxHeartbeats 4000000 in
set_option maxRecDepth 100000 in
theorem law_21 {p : Program} {l : Launch} {e : Env} {s : State} {m : MethodId} {below : List Frame} {meth : Method} {c : Code} {b L : Nat} {xs : Nat → Int32} {D : va_G} {k : Nat → ClassId} {ad bd : Nat → Nat} {A : Nat → Prop} {cells slots : Nat} {Z : State → Prop} (hx : p.tables.exec = Jvm.exec) (hb : c.code = code) (hg : ∀ w ∈ Gw, w.before #[Value.ref b] s = true) (hml : c.maxLocals = 4) (hown : s.vm.findClass "SliceWhyLaw" = some m.cls) (hK : va_K D vwCl (tyL k) s) (hN : NstU s) (hA : ∀ q, s.heap.size ≤ q → A q) (hX : va_X b L xs s s.heap) (hbl : b < s.heap.size) (hbA : ¬ A b) (hL : L ≤ 3072) (hcs : cells ≤ 600000 ∧ slots ≤ 7302249) (hSt : Sta A s s.heap) {i : Nat} (hi : i + 6 ≤ L) {n t c9 wl : Nat} {V Q : St} (hR : Rel n t c9 wl V Q) {H : Heap} {locs : List Loc} {ls : Array Slot} (hh : Hd D A (wS k ad V ++ wQ k bd Q) s.heap H locs) (hl : lv_has ls 4 [(0, .ref b), (1, .ref (ad 0)), (2, .ref (bd 0)), (3, .int (nI i))]) (kk : ∀ (n t c9 wl : Nat) (V Q : St) (H : Heap) (locs : List Loc) (ls : Array Slot), Rel n t c9 wl V Q → Hd D A (wS k ad V ++ wQ k bd Q) s.heap H locs → lv_has ls 4 [(0, .ref b), (1, .ref (ad 0)), (2, .ref (bd 0)), (3, .int (nI i))] → W p l e room_1 s m #[Value.ref b] below meth c H locs cells slots Z (F0 m 788 ls [])) : W p l e room_1 s m #[Value.ref b] below meth c H locs cells slots Z (F0 m 765 ls []) := by
  have hv := hR.1.1
  have hpq := hR.1.2.1
  have hca := hR.1.2.2.1
  have hcq := hR.1.2.2.2
  have hvq : okV n (pq Q) := by rw [← hpq]; exact hv
  refine lv_aload_n hx hb dL_law_765 rfl (lv_at hl 1 rfl) ?_
  refine lv_aload_n hx hb dL_law_766 rfl (lv_at hl 0 rfl) ?_
  refine lv_iload_n hx hb dL_law_767 rfl (lv_at hl 3 rfl) ?_
  refine lv_iconst (v := 1) hx hb dL_law_768 (by decide) ?_
  refine lv_iadd hx hb dL_law_769 ?_
  refine topv (nI (i + 1)) (nI_add i 1) ?_
  refine sld hx hb hX hbl hbA hh (by omega) (by omega) dL_law_770 ?_
  refine callR (runV hx hb hg hown hml hl.1 (c_X3_count l D k ad V (xs (i + 1))) [.int (xs (i + 1))] [] (preR (mapSome_sub hh.1 (0 :: 1 :: 2 :: 3 :: 4 :: 5 :: 6 :: 7 :: 8 :: 9 :: 10 :: 11 :: 12 :: 13 :: 14 :: 15 :: 16 :: 17 :: 18 :: 19 :: 20 :: 21 :: 22 :: 23 :: 24 :: 25 :: 26 :: 27 :: 28 :: 29 :: 30 :: 31 :: 32 :: 33 :: 34 :: 35 :: 36 :: 37 :: 38 :: 39 :: 40 :: 41 :: 42 :: 43 :: 44 :: 45 :: 46 :: 47 :: 48 :: 49 :: 50 :: 51 :: 52 :: 53 :: 54 :: 55 :: 56 :: 57 :: 58 :: 59 :: 60 :: []) rfl) hK hN xb0 x0) (va_recv hK hh.1 (ci := 3) (q0 := 0) rfl rfl) wd_541 wd_542 wd_543 wd_49 wd_544 lk_X3_count ⟨rfl, rfl⟩ ⟨by decide, by decide⟩ hcs rfl (Nat.le_of_ble_eq_true rfl) dL_law_771) (fun r1 q1 => ?_)
  refine lv_aload_n hx hb dL_law_774 rfl (lv_at hl 2 rfl) ?_
  refine lv_aload_n hx hb dL_law_775 rfl (lv_at hl 0 rfl) ?_
  refine lv_iload_n hx hb dL_law_776 rfl (lv_at hl 3 rfl) ?_
  refine lv_iconst (v := 1) hx hb dL_law_777 (by decide) ?_
  refine lv_iadd hx hb dL_law_778 ?_
  refine topv (nI (i + 1)) (nI_add i 1) ?_
  refine sld hx hb hX hbl hbA hh (by omega) (by omega) dL_law_779 ?_
  refine callR (runV hx hb hg hown hml hl.1 (c_X4_count l D k bd Q (xs (i + 1))) [.int (xs (i + 1))] [.int r1] (preR (mapSome_sub hh.1 [61, 62, 63, 64, 65, 66, 67, 68, 69, 70, 71, 72, 73, 74, 75, 76, 77, 78, 79, 80, 81, 82, 83] rfl) hK hN xb0 x0) (va_recv hK hh.1 (ci := 4) (q0 := 61) rfl rfl) wd_860 wd_861 wd_862 wd_53 wd_863 lk_X4_count ⟨rfl, rfl⟩ ⟨by decide, by decide⟩ hcs rfl (Nat.le_of_ble_eq_true rfl) dL_law_780) (fun r2 q2 => ?_)
  have hE := op_count hR q1 q2
  have hR1 := hR
  refine lv_icmp_eq (tgt := 788) hx hb dL_law_783 (by decide) (fun c9 => ?_) (fun c9 => absurd hE c9)
  exact kk _ _ _ _ V Q H locs ls hR1 hh hl
