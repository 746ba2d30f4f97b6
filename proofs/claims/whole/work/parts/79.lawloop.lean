/-! the law's loop -/
theorem lw_gt {L i : Nat} (hL : L ≤ 3072) (hi : i ≤ 4000) : (nI L - 6 < nI i) ↔ L < i + 6 := by
  rw [Int32.lt_iff_toInt_lt, show (nI L - 6).toInt = (L : Int) - 6 from pk_sub_toInt (a := L) (b := 6) (by omega) (by omega), nI_toInt (by omega)]
  omega
set_option maxHeartbeats 4000000 in
set_option maxRecDepth 100000 in
theorem law_loop {p : Program} {l : Launch} {e : Env} {s : State} {m : MethodId} {below : List Frame} {meth : Method} {c : Code} {b L : Nat} {xs : Nat → Int32} {D : va_G} {k : Nat → ClassId} {ad bd : Nat → Nat} {A : Nat → Prop} {cells slots : Nat} {Z : State → Prop} (hx : p.tables.exec = Jvm.exec) (hb : c.code = code) (hg : ∀ w ∈ Gw, w.before #[Value.ref b] s = true) (hml : c.maxLocals = 4) (hown : s.vm.findClass "SliceWhyLaw" = some m.cls) (hK : va_K D vwCl (tyL k) s) (hN : NstU s) (hA : ∀ q, s.heap.size ≤ q → A q) (hX : va_X b L xs s s.heap) (hbl : b < s.heap.size) (hbA : ¬ A b) (hL : L ≤ 3072) (hcs : cells ≤ 600000 ∧ slots ≤ 7302249) (hSt : Sta A s s.heap) {n0 t0 c0 w0 : Nat} {V0 Q0 : St} (hR0 : Rel n0 t0 c0 w0 V0 Q0) {H : Heap} {locs : List Loc} {ls : Array Slot} (hh : Hd D A (wS k ad V0 ++ wQ k bd Q0) s.heap H locs) (hl : lv_has ls 4 [(0, .ref b), (1, .ref (ad 0)), (2, .ref (bd 0)), (3, .int (nI 0))])
    (kE : ∀ (H : Heap) (locs : List Loc) (ls : Array Slot), va_S A s.heap H locs → W p l e room_1 s m #[Value.ref b] below meth c H locs cells slots Z (F0 m 794 ls [])) : W p l e room_1 s m #[Value.ref b] below meth c H locs cells slots Z (F0 m 18 ls []) := by
  refine loopW (σ := Nat) (fun i H locs ls => i ≤ L + 6 ∧ ∃ (n t c9 wl : Nat) (V Q : St), Rel n t c9 wl V Q ∧ Hd D A (wS k ad V ++ wQ k bd Q) s.heap H locs ∧ lv_has ls 4 [(0, .ref b), (1, .ref (ad 0)), (2, .ref (bd 0)), (3, .int (nI i))]) (fun i => L + 6 - i) ?_ 0 ⟨by omega, n0, t0, c0, w0, V0, Q0, hR0, hh, hl⟩
  intro i H locs ls hI ih
  obtain ⟨hi6, n, t, c9, wl, V, Q, hR, hh, hl⟩ := hI
  refine lv_iload_n hx hb dL_law_18 rfl (lv_at hl 3 rfl) ?_
  refine lv_aload_n hx hb dL_law_19 rfl (lv_at hl 0 rfl) ?_
  refine va_slen hx hb hX hbl hbA hh.2.2 dL_law_20 ?_
  refine topv (nI L) (by first | rfl | simp [nI]) ?_
  refine lv_bipush (v := 6) hx hb dL_law_21 (by decide) ?_
  refine lv_isub hx hb dL_law_23 ?_
  refine lv_icmp_gt (tgt := 794) hx hb dL_law_24 (by decide) (fun g9 => ?_) (fun g9 => ?_)
  · exact kE H locs ls hh.2.2
  · have hi : i + 6 ≤ L := Nat.not_lt.mp (fun z => g9 ((lw_gt hL (by omega)).mpr z))
    have kk : ∀ (n t c9 wl : Nat) (V Q : St) (H : Heap) (locs : List Loc) (ls : Array Slot), Rel n t c9 wl V Q → Hd D A (wS k ad V ++ wQ k bd Q) s.heap H locs → lv_has ls 4 [(0, .ref b), (1, .ref (ad 0)), (2, .ref (bd 0)), (3, .int (nI i))] → W p l e room_1 s m #[Value.ref b] below meth c H locs cells slots Z (F0 m 788 ls []) := by
      intro n t c9 wl V Q H locs ls hR hh hl
      refine lv_iinc (v := nI (i + 6)) (lv' := [(3, .int (nI (i + 6))), (0, .ref b), (1, .ref (ad 0)), (2, .ref (bd 0))]) hx hb dL_law_788 hl (k := 3) rfl (by rw [show (Int32.ofInt 6) = nI 6 from rfl]; exact nI_add i 6) (by decide) rfl (fun ls hl => ?_)
      refine lv_goto (tgt := 18) hx hb dL_law_791 (by decide) ?_
      exact ih (i + 6) _ _ _ ⟨by omega, n, t, c9, wl, V, Q, hR, hh, lv_sub hl [1, 2, 3, 0] rfl⟩ (by omega)
    refine lv_aload_n hx hb dL_law_27 rfl (lv_at hl 0 rfl) ?_
    refine lv_iload_n hx hb dL_law_28 rfl (lv_at hl 3 rfl) ?_
    refine sld hx hb hX hbl hbA hh (by omega) (by omega) dL_law_29 ?_
    refine lv_bipush (v := 31) hx hb dL_law_30 (by decide) ?_
    refine lv_iand hx hb dL_law_32 ?_
    obtain ⟨j, hj, hje⟩ := pk_andE (xs i) (m := 31) 5 (by decide)
    refine topv (nI j) hje ?_
    rcases (show j = 0 ∨ j = 1 ∨ j = 2 ∨ j = 3 ∨ j = 4 ∨ j = 5 ∨ j = 6 ∨ j = 7 ∨ j = 8 ∨ j = 9 ∨ j = 10 ∨ j = 11 ∨ j = 12 ∨ j = 13 ∨ j = 14 ∨ j = 15 ∨ j = 16 ∨ j = 17 ∨ j = 18 ∨ j = 19 ∨ j = 20 ∨ j = 21 ∨ 22 ≤ j by omega) with rfl | rfl | rfl | rfl | rfl | rfl | rfl | rfl | rfl | rfl | rfl | rfl | rfl | rfl | rfl | rfl | rfl | rfl | rfl | rfl | rfl | rfl | h22
    · refine lv_tableIn (off := 103) (tgt := 136) hx hb dL_law_33 (by decide) (by decide) (by rfl) (by decide) ?_
      exact law_0 hx hb hg hml hown hK hN hA hX hbl hbA hL hcs hSt hi hR hh hl kk
    · refine lv_tableIn (off := 156) (tgt := 189) hx hb dL_law_33 (by decide) (by decide) (by rfl) (by decide) ?_
      exact law_1 hx hb hg hml hown hK hN hA hX hbl hbA hL hcs hSt hi hR hh hl kk
    · refine lv_tableIn (off := 219) (tgt := 252) hx hb dL_law_33 (by decide) (by decide) (by rfl) (by decide) ?_
      exact law_2 hx hb hg hml hown hK hN hA hX hbl hbA hL hcs hSt hi hR hh hl kk
    · refine lv_tableIn (off := 232) (tgt := 265) hx hb dL_law_33 (by decide) (by decide) (by rfl) (by decide) ?_
      exact law_3 hx hb hg hml hown hK hN hA hX hbl hbA hL hcs hSt hi hR hh hl kk
    · refine lv_tableIn (off := 291) (tgt := 324) hx hb dL_law_33 (by decide) (by decide) (by rfl) (by decide) ?_
      exact law_4 hx hb hg hml hown hK hN hA hX hbl hbA hL hcs hSt hi hR hh hl kk
    · refine lv_tableIn (off := 324) (tgt := 357) hx hb dL_law_33 (by decide) (by decide) (by rfl) (by decide) ?_
      exact law_5 hx hb hg hml hown hK hN hA hX hbl hbA hL hcs hSt hi hR hh hl kk
    · refine lv_tableIn (off := 357) (tgt := 390) hx hb dL_law_33 (by decide) (by decide) (by rfl) (by decide) ?_
      exact law_6 hx hb hg hml hown hK hN hA hX hbl hbA hL hcs hSt hi hR hh hl kk
    · refine lv_tableIn (off := 390) (tgt := 423) hx hb dL_law_33 (by decide) (by decide) (by rfl) (by decide) ?_
      exact law_7 hx hb hg hml hown hK hN hA hX hbl hbA hL hcs hSt hi hR hh hl kk
    · refine lv_tableIn (off := 403) (tgt := 436) hx hb dL_law_33 (by decide) (by decide) (by rfl) (by decide) ?_
      exact law_8 hx hb hg hml hown hK hN hA hX hbl hbA hL hcs hSt hi hR hh hl kk
    · refine lv_tableIn (off := 426) (tgt := 459) hx hb dL_law_33 (by decide) (by decide) (by rfl) (by decide) ?_
      exact law_9 hx hb hg hml hown hK hN hA hX hbl hbA hL hcs hSt hi hR hh hl kk
    · refine lv_tableIn (off := 449) (tgt := 482) hx hb dL_law_33 (by decide) (by decide) (by rfl) (by decide) ?_
      exact law_10 hx hb hg hml hown hK hN hA hX hbl hbA hL hcs hSt hi hR hh hl kk
    · refine lv_tableIn (off := 482) (tgt := 515) hx hb dL_law_33 (by decide) (by decide) (by rfl) (by decide) ?_
      exact law_11 hx hb hg hml hown hK hN hA hX hbl hbA hL hcs hSt hi hR hh hl kk
    · refine lv_tableIn (off := 505) (tgt := 538) hx hb dL_law_33 (by decide) (by decide) (by rfl) (by decide) ?_
      exact law_12 hx hb hg hml hown hK hN hA hX hbl hbA hL hcs hSt hi hR hh hl kk
    · refine lv_tableIn (off := 528) (tgt := 561) hx hb dL_law_33 (by decide) (by decide) (by rfl) (by decide) ?_
      exact law_13 hx hb hg hml hown hK hN hA hX hbl hbA hL hcs hSt hi hR hh hl kk
    · refine lv_tableIn (off := 571) (tgt := 604) hx hb dL_law_33 (by decide) (by decide) (by rfl) (by decide) ?_
      exact law_14 hx hb hg hml hown hK hN hA hX hbl hbA hL hcs hSt hi hR hh hl kk
    · refine lv_tableIn (off := 604) (tgt := 637) hx hb dL_law_33 (by decide) (by decide) (by rfl) (by decide) ?_
      exact law_15 hx hb hg hml hown hK hN hA hX hbl hbA hL hcs hSt hi hR hh hl kk
    · refine lv_tableIn (off := 637) (tgt := 670) hx hb dL_law_33 (by decide) (by decide) (by rfl) (by decide) ?_
      exact law_16 hx hb hg hml hown hK hN hA hX hbl hbA hL hcs hSt hi hR hh hl kk
    · refine lv_tableIn (off := 660) (tgt := 693) hx hb dL_law_33 (by decide) (by decide) (by rfl) (by decide) ?_
      exact law_17 hx hb hg hml hown hK hN hA hX hbl hbA hL hcs hSt hi hR hh hl kk
    · refine lv_tableIn (off := 683) (tgt := 716) hx hb dL_law_33 (by decide) (by decide) (by rfl) (by decide) ?_
      exact law_18 hx hb hg hml hown hK hN hA hX hbl hbA hL hcs hSt hi hR hh hl kk
    · refine lv_tableIn (off := 696) (tgt := 729) hx hb dL_law_33 (by decide) (by decide) (by rfl) (by decide) ?_
      exact law_19 hx hb hg hml hown hK hN hA hX hbl hbA hL hcs hSt hi hR hh hl kk
    · refine lv_tableIn (off := 709) (tgt := 742) hx hb dL_law_33 (by decide) (by decide) (by rfl) (by decide) ?_
      exact law_20 hx hb hg hml hown hK hN hA hX hbl hbA hL hcs hSt hi hR hh hl kk
    · refine lv_tableIn (off := 732) (tgt := 765) hx hb dL_law_33 (by decide) (by decide) (by rfl) (by decide) ?_
      exact law_21 hx hb hg hml hown hK hN hA hX hbl hbA hL hcs hSt hi hR hh hl kk
    · refine lv_tableOut (tgt := 788) hx hb dL_law_33 (Or.inr (by rw [nI_toInt (by omega)]; omega)) (by decide) ?_
      exact kk n t c9 wl V Q H locs ls hR hh hl
