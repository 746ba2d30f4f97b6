/-! the reference: run, whole, isSame, same -/
/-- nothing has changed but these cells and these slots of row 0 -/
def FrX (cs ss : List Nat) (V U : St) : Prop := (∀ c, c ∉ cs → U c = V c) ∧ ∀ j, j ∉ ss → U 0 j = V 0 j
theorem FrX.rf {cs ss : List Nat} {V : St} : FrX cs ss V V := ⟨fun _ _ => rfl, fun _ _ => rfl⟩
theorem FrX.trans {cs ss : List Nat} {V U X : St} (h : FrX cs ss V U) (h2 : FrX cs ss U X) : FrX cs ss V X := ⟨fun c hc => (h2.1 c hc).trans (h.1 c hc), fun j hj => (h2.2 j hj).trans (h.2 j hj)⟩
theorem FrX.mono {cs ss cs' ss' : List Nat} {V U : St} (h : FrX cs ss V U) (h1 : ∀ c, c ∈ cs → c ∈ cs') (h2 : ∀ c, c ∈ ss → c ∈ ss') : FrX cs' ss' V U := ⟨fun c hc => h.1 c (fun z => hc (h1 c z)), fun j hj => h.2 j (fun z => hj (h2 j z))⟩
theorem FrX.up {cs ss : List Nat} {V U : St} (h : FrX cs ss V U) {c : Nat} {f : Nat → Int32} (hc : c ∈ cs) (h0 : ¬ c = 0) : FrX cs ss V (va_up U c f) := ⟨fun i hi => by rw [up_n (show ¬ i = c from fun e => hi (by rw [e]; exact hc))]; exact h.1 i hi, fun j hj => by rw [up_n (show ¬ 0 = c from fun e => h0 e.symm)]; exact h.2 j hj⟩
theorem FrX.u0 {cs ss : List Nat} {V U : St} (h : FrX cs ss V U) {j : Nat} {v : Int32} (h0 : 0 ∈ cs) (hj : j ∈ ss) : FrX cs ss V (va_up U 0 (upd (U 0) j v)) := ⟨fun i hi => by rw [up_n (show ¬ i = 0 from fun e => hi (by rw [e]; exact h0))]; exact h.1 i hi, fun i hi => by rw [up_s, upd_n (show ¬ i = j from fun e => hi (by rw [e]; exact hj))]; exact h.2 i hi⟩
theorem FrX.pq {cs ss : List Nat} {V U : St} (h : FrX cs ss V U) (h1 : ∀ i, 1 ≤ i → i < 9 → i ∉ cs) (h2 : 0 ∉ ss) : pq U = pq V := pq_eq (h.2 0 h2) (fun i a b => h.1 i (h1 i a b))
abbrev FrW : St → St → Prop := FrX [0, 17, 18, 19, 20, 21, 22] [28, 29, 30, 32, 33]
abbrev FrL : St → St → Prop := FrX [0, 13, 14, 15, 17, 18, 19, 20, 21, 22] [22, 28, 29, 30, 32, 33]
abbrev FrN : St → St → Prop := FrX [0, 10, 11, 13, 14, 15, 17, 18, 19, 20, 21] [11, 12, 14, 15, 22, 28, 29, 30, 32]
theorem FrG.w {V U : St} (h : FrG V U) : FrW V U := ⟨fun c hc => h.1 c (by simp at hc ⊢; omega), fun j hj => h.2 j (by simp at hj; omega) (by simp at hj; omega)⟩
theorem FrG.n {V U : St} (h : FrG V U) : FrN V U := ⟨fun c hc => h.1 c (by simp at hc ⊢; omega), fun j hj => h.2 j (by simp at hj; omega) (by simp at hj; omega)⟩
theorem FrQ.n {V U : St} (h : FrQ V U) : FrN V U := ⟨fun c hc => h.1 c (by simp at hc; omega) (by simp at hc; omega), fun j hj => h.2 j (by simp at hj; omega)⟩
theorem FrQ.l {V U : St} (h : FrQ V U) : FrL V U := ⟨fun c hc => h.1 c (by simp at hc; omega) (by simp at hc; omega), fun j hj => h.2 j (by simp at hj; omega)⟩
theorem FrX.l {V U : St} (h : FrW V U) : FrL V U := h.mono (by intro c hc; simp at hc ⊢; omega) (by intro c hc; simp at hc ⊢; omega)
theorem FrX.wpq {V U : St} (h : FrW V U) : Pilot.CSliceWhyLaw_law_r1743_20bfb7.pq U = Pilot.CSliceWhyLaw_law_r1743_20bfb7.pq V := h.pq (by intro i a b; simp; omega) (by decide)
theorem FrX.lpq {V U : St} (h : FrL V U) : Pilot.CSliceWhyLaw_law_r1743_20bfb7.pq U = Pilot.CSliceWhyLaw_law_r1743_20bfb7.pq V := h.pq (by intro i a b; simp; omega) (by decide)
theorem MG.eq {n : Nat} {P V U : St} (h : MG n P V) (h13 : U 13 = V 13) (h14 : U 14 = V 14) (h15 : U 15 = V 15) : MG n P U := by unfold MG; rw [h13, h14, h15]; exact h
theorem MG.w {n : Nat} {P V U : St} (h : MG n P V) (f : FrW V U) : MG n P U := h.eq (f.1 13 (by decide)) (f.1 14 (by decide)) (f.1 15 (by decide))
theorem Cq.w {n : Nat} {V U : St} (h : Cq n V) (f : FrW V U) : Cq n U := by
  rcases h with h | ⟨h1, h2⟩
  · exact Or.inl ((f.2 22 (by decide)).trans h)
  · exact Or.inr ⟨(f.2 22 (by decide)).trans h1, by rw [f.wpq]; exact h2.w f⟩
theorem b_24 : ∀ j, j < 24 → bt 16777215 j = true := by decide +kernel
theorem m24 {n : Nat} (hn : n ≤ 24) : ∀ j, j < n → bt 16777215 j = bt (-1) j := fun j hj => by rw [b_24 j (by omega), b_m1 j (by omega)]
theorem e40 {f : Nat → Int32} : (fun j => f (4 * 0 + j)) = f := by funext j; rw [show 4 * 0 + j = j by omega]
theorem Fr.x {cs ss : List Nat} {V U : St} (h : Fr cs V U) (h0 : 0 ∉ cs) : FrX cs ss V U := ⟨h, fun j _ => by rw [h 0 h0]⟩
abbrev rmX4_run : Room := { frames := 7, cells := 0, slots := 0, locals := 171 }
theorem lk_X4_run : Lk yX4_run 2 := by decide +kernel
set_option maxHeartbeats 4000000 in
set_option maxRecDepth 100000 in
/-- run(of, w) -/
theorem c_X4_run (l : Launch) (D : va_G) (k : Nat → ClassId) (ad : Nat → Nat) (V : St) {n : Nat} (hv : okV n (pq V)) (hc : Cq n V) (x y : Int32) : CtX noX l yX4_run cX4_run 5 (some .int) rmX4_run D (tyL k) (wQ k ad V) [.ref (ad 0), .int x, .int y] (qI D (wQ k ad) (fun r U => (¬ (rgt y n ∧ (x = -4 ∨ rgt x n)) ∧ r = -1 ∧ U = V) ∨ (∃ w m, w < n ∧ y = nI w ∧ seR n (pq V) x m ∧ (∃ T, pfS (pq V) (V 5) m w n r T ∧ U 0 12 = T 0 5 ∧ U 0 14 = T 0 7 ∧ U 0 15 = T 0 8 ∧ (∀ c, T 0 5 = nI c → c ≤ 100 → ∀ j, j < c → U 10 j = T 5 j) ∧ ∀ j, j < 8 → U 11 j = T 1 j) ∧ FrN V U ∧ U 0 11 = V 0 11 + 1 ∧ Cq n U))) := by
  refine CtX.mk (by decide) (Nat.le_of_ble_eq_true rfl) ?_
  intro p e s m below meth c hx hb hml hown hg hr hlocks hK hN A hA hX hh ls hl
  have hh : Hd D A (wQ k ad V) s.heap s.heap [] := hh
  have hl : lv_has ls 5 [(0, .ref (ad 0)), (1, .int x), (2, .int y)] := hl
  have h00 : V 0 0 = nI n := hv.2.1
  have hn24 := hv.1
  refine lv_iload_n hx hb dX4_run_0 rfl (lv_at hl 1 rfl) ?_
  refine lv_bipush (v := (-4)) hx hb dX4_run_1 (by decide) ?_
  refine lv_icmp_eq (tgt := 14) hx hb dX4_run_3 (by decide) (fun c_3 => ?_) (fun c_3 => ?_)
  · refine lv_aload_n hx hb dX4_run_14 rfl (lv_at hl 0 rfl) ?_
    refine lv_iload_n hx hb dX4_run_15 rfl (lv_at hl 2 rfl) ?_
    refine callR (runV hx hb hg hown hml hl.1 (c_X4_isPlace l D k ad V hv (y)) [.int y] [] (preR (mapSome_sub hh.1 [0, 1, 2, 3, 4, 5, 6, 7, 8, 9, 10, 11, 12, 13, 14, 15, 16, 17, 18, 19, 20, 21, 22] rfl) hK hN xb0 x0) (va_recv hK hh.1 (ci := 4) (q0 := 0) rfl rfl) wd_681 wd_683 wd_25 wd_53 wd_684 lk_X4_isPlace ⟨rfl, rfl⟩ ⟨by decide, by decide⟩ ⟨Nat.zero_le _, Nat.zero_le _⟩ rfl (Nat.le_of_ble_eq_true rfl) dX4_run_16) (fun r_16 q_16 => ?_)
    obtain ⟨bP2, rfl, hP2⟩ := q_16
    refine lv_if_ne (tgt := 24) hx hb dX4_run_19 (by decide) (fun c_19 => ?_) (fun c_19 => ?_)
    · obtain ⟨q2, hq2, hye⟩ := hP2.mp (zI_ne c_19)
      refine lv_aload_n hx hb dX4_run_24 rfl (lv_at hl 0 rfl) ?_
      refine callWV (D := D) (wn := fun U => wQ k ad U) (wr := []) (runV hx hb hg hown hml hl.1 ((c_X4_look l D k ad V hv hc) s.heap.size) [] [] (preX (mapSome_sub hh.1 [0, 1, 2, 3, 4, 5, 6, 7, 8, 9, 10, 11, 12, 13, 14, 15, 16, 17, 18, 19, 20, 21, 22] rfl) (hh.2.1.sub [0, 1, 2, 3, 4, 5, 6, 7, 8, 9, 10, 11, 12, 13, 14, 15, 16, 17, 18, 19, 20, 21, 22] (by decide) rfl) hK hN xb0 x0) (va_recv hK hh.1 (ci := 4) (q0 := 0) rfl rfl) wd_731 wd_733 wd_31 wd_53 wd_734 lk_X4_look ⟨rfl, rfl⟩ ⟨by decide, by decide⟩ ⟨Nat.zero_le _, Nat.zero_le _⟩ rfl (Nat.le_of_ble_eq_true rfl) dX4_run_25) hA hh [0, 1, 2, 3, 4, 5, 6, 7, 8, 9, 10, 11, 12, 13, 14, 15, 16, 17, 18, 19, 20, 21, 22] [] [0, 1, 2, 3, 4, 5, 6, 7, 8, 9, 10, 11, 12, 13, 14, 15, 16, 17, 18, 19, 20, 21, 22] rfl rfl (by decide) (by decide) (by decide) (fun _ => rfl) (fun U H locs q_25 hh => ?_)
      obtain ⟨fU, o22, hMG⟩ := q_25
      have hvU : okV n (pq U) := by rw [fU.pq]; exact hv
      have hMU : MG n (pq U) U := by rw [fU.pq]; exact hMG
      refine lv_aload_n hx hb dX4_run_28 rfl (lv_at hl 0 rfl) ?_
      refine lv_dup hx hb dX4_run_29 rfl ?_
      refine gfl hx hb hg inX4 hown hK hh.1 0 (ci := 4) rfl rfl 11 (by decide) wd_562 rfl dX4_run_30 ?_
      refine lv_iconst (v := 1) hx hb dX4_run_33 (by decide) ?_
      refine lv_iadd hx hb dX4_run_34 ?_
      refine pfl hx hb hg inX4 tyX4 tyX4_ok nmX4 hown hK hh 0 (ci := 4) rfl rfl 11 (by decide) wd_562 rfl rfl rfl (Nat.le_of_ble_eq_true rfl) dX4_run_35 (wQ k ad (va_up U 0 (upd (U 0) 11 ((U 0 11) + 1)))) rfl (fun H locs hh => ?_)
      obtain ⟨V1, eV1⟩ : ∃ z : St, z = va_up U 0 (upd (U 0) 11 ((U 0 11) + 1)) := ⟨_, rfl⟩
      rw [← eV1] at hh
      have f1 : FrN V V1 := by rw [eV1]; exact fU.n.u0 (by decide) (by decide)
      have p1 : pq V1 = pq V := f1.pq (by intro i a b; simp; omega) (by decide)
      have hv1 : okV n (pq V1) := by rw [p1]; exact hv
      have hM1 : MG n (pq V1) V1 := by rw [p1, eV1]; exact hMG.eq rfl rfl rfl
      have e15 : V1 5 = V 5 := f1.1 5 (by decide)
      have e122 : V1 0 22 = 1 := by rw [eV1]; exact o22
      have e111 : V1 0 11 = V 0 11 + 1 := by rw [eV1, ← fU.2 11 (by decide)]; rfl
      refine lv_aload_n hx hb dX4_run_38 rfl (lv_at hl 0 rfl) ?_
      refine lv_iload_n hx hb dX4_run_39 rfl (lv_at hl 1 rfl) ?_
      refine lv_bipush (v := (-4)) hx hb dX4_run_40 (by decide) ?_
      refine lv_icmp_ne (tgt := 50) hx hb dX4_run_42 (by decide) (fun c_42 => ?_) (fun c_42 => ?_)
      · exact absurd c_3 c_42
      · refine lv_ldc (v := 16777215) hx hb hown (hg _ wd_800) dX4_run_45 ?_
        refine lv_goto (tgt := 56) hx hb dX4_run_47 (by decide) ?_
        refine lv_iload_n hx hb dX4_run_56 rfl (lv_at hl 2 rfl) ?_
        refine topv (nI q2) hye ?_
        refine lv_aload_n hx hb dX4_run_57 rfl (lv_at hl 0 rfl) ?_
        refine gfl hx hb hg inX4 hown hK hh.1 0 (ci := 4) rfl rfl 5 (by decide) wd_556 rfl dX4_run_58 ?_
        refine lv_iconst (v := 0) hx hb dX4_run_61 (by decide) ?_
        refine topv (nI (4 * 0)) rfl ?_
        refine callWI (D := D) (wn := fun U2 => wQ k ad U2) (wr := []) (runV hx hb hg hown hml hl.1 ((c_X4_go l D k ad V1 hv1 (t := 0) (by decide) (16777215) q2 (by omega)) H.size) [.int 16777215, .int (nI q2), .ref (ad 5), .int (nI (4 * 0))] [] (preX (mapSome_sub hh.1 [0, 1, 2, 3, 4, 5, 6, 7, 8, 9, 10, 11, 12, 13, 14, 15, 16, 17, 18, 19, 20, 21, 22] rfl) (hh.2.1.sub [0, 1, 2, 3, 4, 5, 6, 7, 8, 9, 10, 11, 12, 13, 14, 15, 16, 17, 18, 19, 20, 21, 22] (by decide) rfl) hK hN xb0 x0) (va_recv hK hh.1 (ci := 4) (q0 := 0) rfl rfl) wd_801 wd_803 wd_42 wd_53 wd_804 lk_X4_go ⟨rfl, rfl⟩ ⟨by decide, by decide⟩ ⟨Nat.zero_le _, Nat.zero_le _⟩ rfl (Nat.le_of_ble_eq_true rfl) dX4_run_62) hA hh [0, 1, 2, 3, 4, 5, 6, 7, 8, 9, 10, 11, 12, 13, 14, 15, 16, 17, 18, 19, 20, 21, 22] [] [0, 1, 2, 3, 4, 5, 6, 7, 8, 9, 10, 11, 12, 13, 14, 15, 16, 17, 18, 19, 20, 21, 22] rfl rfl (by decide) (by decide) (by decide) (fun _ => rfl) (fun r_62 U2 H locs q_62 hh => ?_)
        obtain ⟨hpf, g1⟩ := q_62
        rw [e40, p1, e15] at hpf
        obtain ⟨c, hc, h30⟩ : ∃ c, c ≤ 100 ∧ U2 0 30 = nI c := by obtain ⟨_, c, _, _, _, hc, _, _, h5, _⟩ := hpf; exact ⟨c, hc, h5⟩
        refine lv_istore_n (lv' := [(3, .int r_62), (0, .ref (ad 0)), (1, .int x), (2, .int y)]) hx hb dX4_run_65 rfl hl (by decide) rfl (fun ls hl => ?_)
        refine lv_aload_n hx hb dX4_run_66 rfl (lv_at hl 1 rfl) ?_
        refine lv_aload_n hx hb dX4_run_67 rfl (lv_at hl 1 rfl) ?_
        refine gfl hx hb hg inX4 hown hK hh.1 0 (ci := 4) rfl rfl 30 (by decide) wd_581 rfl dX4_run_68 ?_
        refine pfl hx hb hg inX4 tyX4 tyX4_ok nmX4 hown hK hh 0 (ci := 4) rfl rfl 12 (by decide) wd_563 rfl rfl rfl (Nat.le_of_ble_eq_true rfl) dX4_run_71 (wQ k ad (va_up U2 0 (upd (U2 0) 12 (U2 0 30)))) rfl (fun H locs hh => ?_)
        refine lv_aload_n hx hb dX4_run_74 rfl (lv_at hl 1 rfl) ?_
        refine lv_aload_n hx hb dX4_run_75 rfl (lv_at hl 1 rfl) ?_
        refine gfl hx hb hg inX4 hown hK hh.1 0 (ci := 4) rfl rfl 28 (by decide) wd_579 rfl dX4_run_76 ?_
        refine pfl hx hb hg inX4 tyX4 tyX4_ok nmX4 hown hK hh 0 (ci := 4) rfl rfl 14 (by decide) wd_565 rfl rfl rfl (Nat.le_of_ble_eq_true rfl) dX4_run_79 (wQ k ad (va_up (va_up U2 0 (upd (U2 0) 12 (U2 0 30))) 0 (upd ((va_up U2 0 (upd (U2 0) 12 (U2 0 30))) 0) 14 (U2 0 28)))) rfl (fun H locs hh => ?_)
        refine lv_aload_n hx hb dX4_run_82 rfl (lv_at hl 1 rfl) ?_
        refine lv_aload_n hx hb dX4_run_83 rfl (lv_at hl 1 rfl) ?_
        refine gfl hx hb hg inX4 hown hK hh.1 0 (ci := 4) rfl rfl 29 (by decide) wd_580 rfl dX4_run_84 ?_
        refine pfl hx hb hg inX4 tyX4 tyX4_ok nmX4 hown hK hh 0 (ci := 4) rfl rfl 15 (by decide) wd_566 rfl rfl rfl (Nat.le_of_ble_eq_true rfl) dX4_run_87 (wQ k ad (va_up (va_up (va_up U2 0 (upd (U2 0) 12 (U2 0 30))) 0 (upd ((va_up U2 0 (upd (U2 0) 12 (U2 0 30))) 0) 14 (U2 0 28))) 0 (upd ((va_up (va_up U2 0 (upd (U2 0) 12 (U2 0 30))) 0 (upd ((va_up U2 0 (upd (U2 0) 12 (U2 0 30))) 0) 14 (U2 0 28))) 0) 15 (U2 0 29)))) rfl (fun H locs hh => ?_)
        obtain ⟨U3, eU3⟩ : ∃ z : St, z = va_up (va_up (va_up U2 0 (upd (U2 0) 12 (U2 0 30))) 0 (upd ((va_up U2 0 (upd (U2 0) 12 (U2 0 30))) 0) 14 (U2 0 28))) 0 (upd ((va_up (va_up U2 0 (upd (U2 0) 12 (U2 0 30))) 0 (upd ((va_up U2 0 (upd (U2 0) 12 (U2 0 30))) 0) 14 (U2 0 28))) 0) 15 (U2 0 29)) := ⟨_, rfl⟩
        rw [← eU3] at hh
        have f3 : FrN V U3 := by rw [eU3]; exact (((f1.trans g1.n).u0 (by decide) (by decide)).u0 (by decide) (by decide)).u0 (by decide) (by decide)
        have e312 : U3 0 12 = U2 0 30 := by rw [eU3]; rfl
        have e314 : U3 0 14 = U2 0 28 := by rw [eU3]; rfl
        have e315 : U3 0 15 = U2 0 29 := by rw [eU3]; rfl
        have e330 : U3 0 30 = nI c := by rw [eU3]; exact h30
        have e321 : U3 21 = U2 21 := by rw [eU3]; rfl
        have e317 : U3 17 = U2 17 := by rw [eU3]; rfl
        have e311 : U3 0 11 = V 0 11 + 1 := by rw [eU3]; exact (g1.2 11 (by decide) (by decide)).trans e111
        have e322 : U3 0 22 = 1 := by rw [eU3]; exact (g1.2 22 (by decide) (by decide)).trans e122
        have hM3 : MG n (pq V) U3 := by rw [p1] at hM1; refine hM1.eq ?_ ?_ ?_ <;> rw [eU3] <;> exact g1.1 _ (by decide)
        refine lv_iconst (v := 0) hx hb dX4_run_90 (by decide) ?_
        refine lv_istore (lv' := [(4, .int 0), (3, .int r_62), (0, .ref (ad 0)), (1, .int x), (2, .int y)]) hx hb dX4_run_91 hl (by decide) rfl (fun ls hl => ?_)
        refine loopW (σ := Nat × St) (fun zz9 H locs ls => match zz9 with | (i, W1) => Hd D A (wQ k ad W1) s.heap H locs ∧ lv_has ls 5 [(0, .ref (ad 0)), (1, .int x), (2, .int y), (3, .int r_62), (4, .int (nI i))] ∧ (i ≤ c) ∧ (Fr [10] U3 W1) ∧ (∀ j, j < i → W1 10 j = U2 21 j)) (fun zz9 => match zz9 with | (i, W1) => c - i) ?_ (0, U3) ⟨hh, (lv_sub hl [2, 3, 4, 1, 0] rfl), (by omega), Fr.rf, (fun j hj => absurd hj (Nat.not_lt_zero _))⟩
        intro zz9 H locs ls hI ih
        obtain ⟨i, W1⟩ := zz9
        obtain ⟨hh, hl, hi, fw, hcp⟩ := hI
        refine lv_iload hx hb dX4_run_93 (lv_at hl 4 rfl) ?_
        refine lv_aload_n hx hb dX4_run_95 rfl (lv_at hl 0 rfl) ?_
        refine gfl hx hb hg inX4 hown hK hh.1 0 (ci := 4) rfl rfl 30 (by decide) wd_581 rfl dX4_run_96 ?_
        refine topv (nI c) (by rw [fw 0 (by decide)]; exact e330) ?_
        refine lv_icmp_ge (tgt := 122) hx hb dX4_run_99 (by decide) (fun c_99 => ?_) (fun c_99 => ?_)
        · have c_99 : c ≤ i := (nI_leI (a := c) (b := i) (by omega) (by omega)).mp c_99
          refine lv_iconst (v := 0) hx hb dX4_run_122 (by decide) ?_
          refine lv_istore (lv' := [(4, .int 0), (0, .ref (ad 0)), (1, .int x), (2, .int y), (3, .int r_62)]) hx hb dX4_run_123 hl (by decide) rfl (fun ls hl => ?_)
          refine loopW (σ := Nat × St) (fun zz9 H locs ls => match zz9 with | (i2, W2) => Hd D A (wQ k ad W2) s.heap H locs ∧ lv_has ls 5 [(0, .ref (ad 0)), (1, .int x), (2, .int y), (3, .int r_62), (4, .int (nI i2))] ∧ (i2 ≤ 8) ∧ (Fr [11] W1 W2) ∧ (∀ j, j < i2 → W2 11 j = U2 17 j)) (fun zz9 => match zz9 with | (i2, W2) => 8 - i2) ?_ (0, W1) ⟨hh, (lv_sub hl [1, 2, 3, 4, 0] rfl), (by omega), Fr.rf, (fun j hj => absurd hj (Nat.not_lt_zero _))⟩
          intro zz9 H locs ls hI ih
          obtain ⟨i2, W2⟩ := zz9
          obtain ⟨hh, hl, hi2, fw2, hcr⟩ := hI
          refine lv_iload hx hb dX4_run_125 (lv_at hl 4 rfl) ?_
          refine lv_bipush (v := 8) hx hb dX4_run_127 (by decide) ?_
          refine lv_icmp_ge (tgt := 152) hx hb dX4_run_129 (by decide) (fun c_129 => ?_) (fun c_129 => ?_)
          · have c_129 : 8 ≤ i2 := (nI_leI (a := 8) (b := i2) (by omega) (by omega)).mp c_129
            refine lv_iload_n hx hb dX4_run_152 rfl (lv_at hl 3 rfl) ?_
            exact retI (Wd := wQ k ad) (v := r_62) (W2) hx hb hr hlocks dX4_run_153 hh (Or.inr ⟨q2, 16777215, hq2, hye, Or.inl ⟨c_3, fun j hj => b_24 j (by omega)⟩, ⟨tq U2, hpf, by rw [fw2 0 (by decide), fw 0 (by decide)]; exact e312, by rw [fw2 0 (by decide), fw 0 (by decide)]; exact e314, by rw [fw2 0 (by decide), fw 0 (by decide)]; exact e315, fun c9 h9 hc9 j hj => by rw [fw2 10 (by decide)]; exact hcp j (by have := (nI_eq (a := c9) (b := c) (by omega) (by omega)).mp (h9.symm.trans h30); omega), fun j hj => hcr j (by omega)⟩, (f3.trans ((Fr.x (ss := []) fw (by decide)).mono (by intro c hc; simp at hc ⊢; omega) (by simp))).trans ((Fr.x (ss := []) fw2 (by decide)).mono (by intro c hc; simp at hc ⊢; omega) (by simp)), by rw [fw2 0 (by decide), fw 0 (by decide)]; exact e311, Or.inr ⟨by rw [fw2 0 (by decide), fw 0 (by decide)]; exact e322, by rw [show pq W2 = pq V from (pq_eq (by rw [fw2 0 (by decide), fw 0 (by decide)]) (fun i a b => by rw [fw2 i (by simp; omega), fw i (by simp; omega)])).trans (f3.pq (by intro i a b; simp; omega) (by decide))]; exact hM3.eq (by rw [fw2 13 (by decide), fw 13 (by decide)]) (by rw [fw2 14 (by decide), fw 14 (by decide)]) (by rw [fw2 15 (by decide), fw 15 (by decide)])⟩⟩)
          · have c_129 : ¬ 8 ≤ i2 := fun z => c_129 ((nI_leI (a := 8) (b := i2) (by omega) (by omega)).mpr z)
            refine lv_aload_n hx hb dX4_run_132 rfl (lv_at hl 0 rfl) ?_
            refine gfl hx hb hg inX4 hown hK hh.1 0 (ci := 4) rfl rfl 16 (by decide) wd_567 rfl dX4_run_133 ?_
            refine lv_iload hx hb dX4_run_136 (lv_at hl 4 rfl) ?_
            refine lv_aload_n hx hb dX4_run_138 rfl (lv_at hl 0 rfl) ?_
            refine gfl hx hb hg inX4 hown hK hh.1 0 (ci := 4) rfl rfl 24 (by decide) wd_575 rfl dX4_run_139 ?_
            refine lv_iload hx hb dX4_run_142 (lv_at hl 4 rfl) ?_
            refine ldn hx hb hK hh.1 17 0 rfl rfl (by omega) (by decide) dX4_run_144 ?_
            refine stn (j := i2) hx hb hK hh 11 0 rfl rfl (by omega) (by decide) dX4_run_145 (wQ k ad (va_up W2 11 (upd (W2 11) i2 ((W2 17) i2)))) rfl (fun H locs hh => ?_)
            refine lv_iinc (v := nI (i2 + 1)) (lv' := [(4, .int (nI (i2 + 1))), (0, .ref (ad 0)), (1, .int x), (2, .int y), (3, .int r_62)]) hx hb dX4_run_146 hl (k := 4) rfl (nI_succ i2).symm (by decide) rfl (fun ls hl => ?_)
            refine lv_goto (tgt := 125) hx hb dX4_run_149 (by decide) ?_
            exact ih (i2 + 1, va_up W2 11 (upd (W2 11) i2 ((W2 17) i2))) _ _ _ ⟨hh, (lv_sub hl [1, 2, 3, 4, 0] rfl), (by omega), (fw2.up (by decide)), (fun j hj => by rcases Classical.em (j = i2) with e | e; (subst e; rw [up_s, upd_s, fw2 17 (by decide), fw 17 (by decide), e317]); (rw [up_s, upd_n e]; exact hcr j (by omega)))⟩ (by dsimp only; omega)
        · have c_99 : ¬ c ≤ i := fun z => c_99 ((nI_leI (a := c) (b := i) (by omega) (by omega)).mpr z)
          refine lv_aload_n hx hb dX4_run_102 rfl (lv_at hl 0 rfl) ?_
          refine gfl hx hb hg inX4 hown hK hh.1 0 (ci := 4) rfl rfl 13 (by decide) wd_564 rfl dX4_run_103 ?_
          refine lv_iload hx hb dX4_run_106 (lv_at hl 4 rfl) ?_
          refine lv_aload_n hx hb dX4_run_108 rfl (lv_at hl 0 rfl) ?_
          refine gfl hx hb hg inX4 hown hK hh.1 0 (ci := 4) rfl rfl 31 (by decide) wd_582 rfl dX4_run_109 ?_
          refine lv_iload hx hb dX4_run_112 (lv_at hl 4 rfl) ?_
          refine ldn hx hb hK hh.1 21 0 rfl rfl (by omega) (by decide) dX4_run_114 ?_
          refine stn (j := i) hx hb hK hh 10 0 rfl rfl (by omega) (by decide) dX4_run_115 (wQ k ad (va_up W1 10 (upd (W1 10) i ((W1 21) i)))) rfl (fun H locs hh => ?_)
          refine lv_iinc (v := nI (i + 1)) (lv' := [(4, .int (nI (i + 1))), (0, .ref (ad 0)), (1, .int x), (2, .int y), (3, .int r_62)]) hx hb dX4_run_116 hl (k := 4) rfl (nI_succ i).symm (by decide) rfl (fun ls hl => ?_)
          refine lv_goto (tgt := 93) hx hb dX4_run_119 (by decide) ?_
          exact ih (i + 1, va_up W1 10 (upd (W1 10) i ((W1 21) i))) _ _ _ ⟨hh, (lv_sub hl [1, 2, 3, 4, 0] rfl), (by omega), (fw.up (by decide)), (fun j hj => by rcases Classical.em (j = i) with e | e; (subst e; rw [up_s, upd_s, fw 21 (by decide), e321]); (rw [up_s, upd_n e]; exact hcp j (by omega)))⟩ (by dsimp only; omega)
    · have c_19 := zI_0.mp c_19
      have c_19 : ¬ rgt y n := fun z => by rw [hP2.mpr z] at c_19; cases c_19
      refine lv_iconst (v := (-1)) hx hb dX4_run_22 (by decide) ?_
      exact retI (Wd := wQ k ad) (v := (-1)) (V) hx hb hr hlocks dX4_run_23 hh (Or.inl ⟨fun z => c_19 z.1, rfl, rfl⟩)
  · refine lv_aload_n hx hb dX4_run_6 rfl (lv_at hl 0 rfl) ?_
    refine lv_iload_n hx hb dX4_run_7 rfl (lv_at hl 1 rfl) ?_
    refine callR (runV hx hb hg hown hml hl.1 (c_X4_isPlace l D k ad V hv (x)) [.int x] [] (preR (mapSome_sub hh.1 [0, 1, 2, 3, 4, 5, 6, 7, 8, 9, 10, 11, 12, 13, 14, 15, 16, 17, 18, 19, 20, 21, 22] rfl) hK hN xb0 x0) (va_recv hK hh.1 (ci := 4) (q0 := 0) rfl rfl) wd_681 wd_683 wd_25 wd_53 wd_684 lk_X4_isPlace ⟨rfl, rfl⟩ ⟨by decide, by decide⟩ ⟨Nat.zero_le _, Nat.zero_le _⟩ rfl (Nat.le_of_ble_eq_true rfl) dX4_run_8) (fun r_8 q_8 => ?_)
    obtain ⟨bP1, rfl, hP1⟩ := q_8
    refine lv_if_eq (tgt := 22) hx hb dX4_run_11 (by decide) (fun c_11 => ?_) (fun c_11 => ?_)
    · have c_11 := zI_0.mp c_11
      have c_11 : ¬ rgt x n := fun z => by rw [hP1.mpr z] at c_11; cases c_11
      refine lv_iconst (v := (-1)) hx hb dX4_run_22 (by decide) ?_
      exact retI (Wd := wQ k ad) (v := (-1)) (V) hx hb hr hlocks dX4_run_23 hh (Or.inl ⟨fun z => z.2.elim c_3 c_11, rfl, rfl⟩)
    · obtain ⟨q, hq, hxe⟩ := hP1.mp (zI_ne c_11)
      refine lv_aload_n hx hb dX4_run_14 rfl (lv_at hl 0 rfl) ?_
      refine lv_iload_n hx hb dX4_run_15 rfl (lv_at hl 2 rfl) ?_
      refine callR (runV hx hb hg hown hml hl.1 (c_X4_isPlace l D k ad V hv (y)) [.int y] [] (preR (mapSome_sub hh.1 [0, 1, 2, 3, 4, 5, 6, 7, 8, 9, 10, 11, 12, 13, 14, 15, 16, 17, 18, 19, 20, 21, 22] rfl) hK hN xb0 x0) (va_recv hK hh.1 (ci := 4) (q0 := 0) rfl rfl) wd_681 wd_683 wd_25 wd_53 wd_684 lk_X4_isPlace ⟨rfl, rfl⟩ ⟨by decide, by decide⟩ ⟨Nat.zero_le _, Nat.zero_le _⟩ rfl (Nat.le_of_ble_eq_true rfl) dX4_run_16) (fun r_16 q_16 => ?_)
      obtain ⟨bP2, rfl, hP2⟩ := q_16
      refine lv_if_ne (tgt := 24) hx hb dX4_run_19 (by decide) (fun c_19 => ?_) (fun c_19 => ?_)
      · obtain ⟨q2, hq2, hye⟩ := hP2.mp (zI_ne c_19)
        refine lv_aload_n hx hb dX4_run_24 rfl (lv_at hl 0 rfl) ?_
        refine callWV (D := D) (wn := fun U => wQ k ad U) (wr := []) (runV hx hb hg hown hml hl.1 ((c_X4_look l D k ad V hv hc) s.heap.size) [] [] (preX (mapSome_sub hh.1 [0, 1, 2, 3, 4, 5, 6, 7, 8, 9, 10, 11, 12, 13, 14, 15, 16, 17, 18, 19, 20, 21, 22] rfl) (hh.2.1.sub [0, 1, 2, 3, 4, 5, 6, 7, 8, 9, 10, 11, 12, 13, 14, 15, 16, 17, 18, 19, 20, 21, 22] (by decide) rfl) hK hN xb0 x0) (va_recv hK hh.1 (ci := 4) (q0 := 0) rfl rfl) wd_731 wd_733 wd_31 wd_53 wd_734 lk_X4_look ⟨rfl, rfl⟩ ⟨by decide, by decide⟩ ⟨Nat.zero_le _, Nat.zero_le _⟩ rfl (Nat.le_of_ble_eq_true rfl) dX4_run_25) hA hh [0, 1, 2, 3, 4, 5, 6, 7, 8, 9, 10, 11, 12, 13, 14, 15, 16, 17, 18, 19, 20, 21, 22] [] [0, 1, 2, 3, 4, 5, 6, 7, 8, 9, 10, 11, 12, 13, 14, 15, 16, 17, 18, 19, 20, 21, 22] rfl rfl (by decide) (by decide) (by decide) (fun _ => rfl) (fun U H locs q_25 hh => ?_)
        obtain ⟨fU, o22, hMG⟩ := q_25
        have hvU : okV n (pq U) := by rw [fU.pq]; exact hv
        have hMU : MG n (pq U) U := by rw [fU.pq]; exact hMG
        refine lv_aload_n hx hb dX4_run_28 rfl (lv_at hl 0 rfl) ?_
        refine lv_dup hx hb dX4_run_29 rfl ?_
        refine gfl hx hb hg inX4 hown hK hh.1 0 (ci := 4) rfl rfl 11 (by decide) wd_562 rfl dX4_run_30 ?_
        refine lv_iconst (v := 1) hx hb dX4_run_33 (by decide) ?_
        refine lv_iadd hx hb dX4_run_34 ?_
        refine pfl hx hb hg inX4 tyX4 tyX4_ok nmX4 hown hK hh 0 (ci := 4) rfl rfl 11 (by decide) wd_562 rfl rfl rfl (Nat.le_of_ble_eq_true rfl) dX4_run_35 (wQ k ad (va_up U 0 (upd (U 0) 11 ((U 0 11) + 1)))) rfl (fun H locs hh => ?_)
        obtain ⟨V1, eV1⟩ : ∃ z : St, z = va_up U 0 (upd (U 0) 11 ((U 0 11) + 1)) := ⟨_, rfl⟩
        rw [← eV1] at hh
        have f1 : FrN V V1 := by rw [eV1]; exact fU.n.u0 (by decide) (by decide)
        have p1 : pq V1 = pq V := f1.pq (by intro i a b; simp; omega) (by decide)
        have hv1 : okV n (pq V1) := by rw [p1]; exact hv
        have hM1 : MG n (pq V1) V1 := by rw [p1, eV1]; exact hMG.eq rfl rfl rfl
        have e15 : V1 5 = V 5 := f1.1 5 (by decide)
        have e122 : V1 0 22 = 1 := by rw [eV1]; exact o22
        have e111 : V1 0 11 = V 0 11 + 1 := by rw [eV1, ← fU.2 11 (by decide)]; rfl
        refine lv_aload_n hx hb dX4_run_38 rfl (lv_at hl 0 rfl) ?_
        refine lv_iload_n hx hb dX4_run_39 rfl (lv_at hl 1 rfl) ?_
        refine lv_bipush (v := (-4)) hx hb dX4_run_40 (by decide) ?_
        refine lv_icmp_ne (tgt := 50) hx hb dX4_run_42 (by decide) (fun c_42 => ?_) (fun c_42 => ?_)
        · refine lv_aload_n hx hb dX4_run_50 rfl (lv_at hl 0 rfl) ?_
          refine lv_iload_n hx hb dX4_run_51 rfl (lv_at hl 1 rfl) ?_
          refine topv (nI q) hxe ?_
          refine lv_iconst (v := 0) hx hb dX4_run_52 (by decide) ?_
          refine callR (runV hx hb hg hown hml hl.1 (c_X4_back l D k ad V1 hv1 hM1 (v := q) (by omega)) [.int (nI q), .int 0] [.ref (ad 0)] (preR (mapSome_sub hh.1 [0, 1, 2, 3, 4, 5, 6, 7, 8, 9, 10, 11, 12, 13, 14, 15, 16, 17, 18, 19, 20, 21, 22] rfl) hK hN xb0 x0) (va_recv hK hh.1 (ci := 4) (q0 := 0) rfl rfl) wd_764 wd_766 wd_39 wd_53 wd_767 lk_X4_back ⟨rfl, rfl⟩ ⟨by decide, by decide⟩ ⟨Nat.zero_le _, Nat.zero_le _⟩ rfl (Nat.le_of_ble_eq_true rfl) dX4_run_53) (fun r_53 q_53 => ?_)
          rw [p1] at q_53
          refine lv_iload_n hx hb dX4_run_56 rfl (lv_at hl 2 rfl) ?_
          refine topv (nI q2) hye ?_
          refine lv_aload_n hx hb dX4_run_57 rfl (lv_at hl 0 rfl) ?_
          refine gfl hx hb hg inX4 hown hK hh.1 0 (ci := 4) rfl rfl 5 (by decide) wd_556 rfl dX4_run_58 ?_
          refine lv_iconst (v := 0) hx hb dX4_run_61 (by decide) ?_
          refine topv (nI (4 * 0)) rfl ?_
          refine callWI (D := D) (wn := fun U2 => wQ k ad U2) (wr := []) (runV hx hb hg hown hml hl.1 ((c_X4_go l D k ad V1 hv1 (t := 0) (by decide) (r_53) q2 (by omega)) H.size) [.int r_53, .int (nI q2), .ref (ad 5), .int (nI (4 * 0))] [] (preX (mapSome_sub hh.1 [0, 1, 2, 3, 4, 5, 6, 7, 8, 9, 10, 11, 12, 13, 14, 15, 16, 17, 18, 19, 20, 21, 22] rfl) (hh.2.1.sub [0, 1, 2, 3, 4, 5, 6, 7, 8, 9, 10, 11, 12, 13, 14, 15, 16, 17, 18, 19, 20, 21, 22] (by decide) rfl) hK hN xb0 x0) (va_recv hK hh.1 (ci := 4) (q0 := 0) rfl rfl) wd_801 wd_803 wd_42 wd_53 wd_804 lk_X4_go ⟨rfl, rfl⟩ ⟨by decide, by decide⟩ ⟨Nat.zero_le _, Nat.zero_le _⟩ rfl (Nat.le_of_ble_eq_true rfl) dX4_run_62) hA hh [0, 1, 2, 3, 4, 5, 6, 7, 8, 9, 10, 11, 12, 13, 14, 15, 16, 17, 18, 19, 20, 21, 22] [] [0, 1, 2, 3, 4, 5, 6, 7, 8, 9, 10, 11, 12, 13, 14, 15, 16, 17, 18, 19, 20, 21, 22] rfl rfl (by decide) (by decide) (by decide) (fun _ => rfl) (fun r_62 U2 H locs q_62 hh => ?_)
          obtain ⟨hpf, g1⟩ := q_62
          rw [e40, p1, e15] at hpf
          obtain ⟨c, hc, h30⟩ : ∃ c, c ≤ 100 ∧ U2 0 30 = nI c := by obtain ⟨_, c, _, _, _, hc, _, _, h5, _⟩ := hpf; exact ⟨c, hc, h5⟩
          refine lv_istore_n (lv' := [(3, .int r_62), (0, .ref (ad 0)), (1, .int x), (2, .int y)]) hx hb dX4_run_65 rfl hl (by decide) rfl (fun ls hl => ?_)
          refine lv_aload_n hx hb dX4_run_66 rfl (lv_at hl 1 rfl) ?_
          refine lv_aload_n hx hb dX4_run_67 rfl (lv_at hl 1 rfl) ?_
          refine gfl hx hb hg inX4 hown hK hh.1 0 (ci := 4) rfl rfl 30 (by decide) wd_581 rfl dX4_run_68 ?_
          refine pfl hx hb hg inX4 tyX4 tyX4_ok nmX4 hown hK hh 0 (ci := 4) rfl rfl 12 (by decide) wd_563 rfl rfl rfl (Nat.le_of_ble_eq_true rfl) dX4_run_71 (wQ k ad (va_up U2 0 (upd (U2 0) 12 (U2 0 30)))) rfl (fun H locs hh => ?_)
          refine lv_aload_n hx hb dX4_run_74 rfl (lv_at hl 1 rfl) ?_
          refine lv_aload_n hx hb dX4_run_75 rfl (lv_at hl 1 rfl) ?_
          refine gfl hx hb hg inX4 hown hK hh.1 0 (ci := 4) rfl rfl 28 (by decide) wd_579 rfl dX4_run_76 ?_
          refine pfl hx hb hg inX4 tyX4 tyX4_ok nmX4 hown hK hh 0 (ci := 4) rfl rfl 14 (by decide) wd_565 rfl rfl rfl (Nat.le_of_ble_eq_true rfl) dX4_run_79 (wQ k ad (va_up (va_up U2 0 (upd (U2 0) 12 (U2 0 30))) 0 (upd ((va_up U2 0 (upd (U2 0) 12 (U2 0 30))) 0) 14 (U2 0 28)))) rfl (fun H locs hh => ?_)
          refine lv_aload_n hx hb dX4_run_82 rfl (lv_at hl 1 rfl) ?_
          refine lv_aload_n hx hb dX4_run_83 rfl (lv_at hl 1 rfl) ?_
          refine gfl hx hb hg inX4 hown hK hh.1 0 (ci := 4) rfl rfl 29 (by decide) wd_580 rfl dX4_run_84 ?_
          refine pfl hx hb hg inX4 tyX4 tyX4_ok nmX4 hown hK hh 0 (ci := 4) rfl rfl 15 (by decide) wd_566 rfl rfl rfl (Nat.le_of_ble_eq_true rfl) dX4_run_87 (wQ k ad (va_up (va_up (va_up U2 0 (upd (U2 0) 12 (U2 0 30))) 0 (upd ((va_up U2 0 (upd (U2 0) 12 (U2 0 30))) 0) 14 (U2 0 28))) 0 (upd ((va_up (va_up U2 0 (upd (U2 0) 12 (U2 0 30))) 0 (upd ((va_up U2 0 (upd (U2 0) 12 (U2 0 30))) 0) 14 (U2 0 28))) 0) 15 (U2 0 29)))) rfl (fun H locs hh => ?_)
          obtain ⟨U3, eU3⟩ : ∃ z : St, z = va_up (va_up (va_up U2 0 (upd (U2 0) 12 (U2 0 30))) 0 (upd ((va_up U2 0 (upd (U2 0) 12 (U2 0 30))) 0) 14 (U2 0 28))) 0 (upd ((va_up (va_up U2 0 (upd (U2 0) 12 (U2 0 30))) 0 (upd ((va_up U2 0 (upd (U2 0) 12 (U2 0 30))) 0) 14 (U2 0 28))) 0) 15 (U2 0 29)) := ⟨_, rfl⟩
          rw [← eU3] at hh
          have f3 : FrN V U3 := by rw [eU3]; exact (((f1.trans g1.n).u0 (by decide) (by decide)).u0 (by decide) (by decide)).u0 (by decide) (by decide)
          have e312 : U3 0 12 = U2 0 30 := by rw [eU3]; rfl
          have e314 : U3 0 14 = U2 0 28 := by rw [eU3]; rfl
          have e315 : U3 0 15 = U2 0 29 := by rw [eU3]; rfl
          have e330 : U3 0 30 = nI c := by rw [eU3]; exact h30
          have e321 : U3 21 = U2 21 := by rw [eU3]; rfl
          have e317 : U3 17 = U2 17 := by rw [eU3]; rfl
          have e311 : U3 0 11 = V 0 11 + 1 := by rw [eU3]; exact (g1.2 11 (by decide) (by decide)).trans e111
          have e322 : U3 0 22 = 1 := by rw [eU3]; exact (g1.2 22 (by decide) (by decide)).trans e122
          have hM3 : MG n (pq V) U3 := by rw [p1] at hM1; refine hM1.eq ?_ ?_ ?_ <;> rw [eU3] <;> exact g1.1 _ (by decide)
          refine lv_iconst (v := 0) hx hb dX4_run_90 (by decide) ?_
          refine lv_istore (lv' := [(4, .int 0), (3, .int r_62), (0, .ref (ad 0)), (1, .int x), (2, .int y)]) hx hb dX4_run_91 hl (by decide) rfl (fun ls hl => ?_)
          refine loopW (σ := Nat × St) (fun zz9 H locs ls => match zz9 with | (i, W1) => Hd D A (wQ k ad W1) s.heap H locs ∧ lv_has ls 5 [(0, .ref (ad 0)), (1, .int x), (2, .int y), (3, .int r_62), (4, .int (nI i))] ∧ (i ≤ c) ∧ (Fr [10] U3 W1) ∧ (∀ j, j < i → W1 10 j = U2 21 j)) (fun zz9 => match zz9 with | (i, W1) => c - i) ?_ (0, U3) ⟨hh, (lv_sub hl [2, 3, 4, 1, 0] rfl), (by omega), Fr.rf, (fun j hj => absurd hj (Nat.not_lt_zero _))⟩
          intro zz9 H locs ls hI ih
          obtain ⟨i, W1⟩ := zz9
          obtain ⟨hh, hl, hi, fw, hcp⟩ := hI
          refine lv_iload hx hb dX4_run_93 (lv_at hl 4 rfl) ?_
          refine lv_aload_n hx hb dX4_run_95 rfl (lv_at hl 0 rfl) ?_
          refine gfl hx hb hg inX4 hown hK hh.1 0 (ci := 4) rfl rfl 30 (by decide) wd_581 rfl dX4_run_96 ?_
          refine topv (nI c) (by rw [fw 0 (by decide)]; exact e330) ?_
          refine lv_icmp_ge (tgt := 122) hx hb dX4_run_99 (by decide) (fun c_99 => ?_) (fun c_99 => ?_)
          · have c_99 : c ≤ i := (nI_leI (a := c) (b := i) (by omega) (by omega)).mp c_99
            refine lv_iconst (v := 0) hx hb dX4_run_122 (by decide) ?_
            refine lv_istore (lv' := [(4, .int 0), (0, .ref (ad 0)), (1, .int x), (2, .int y), (3, .int r_62)]) hx hb dX4_run_123 hl (by decide) rfl (fun ls hl => ?_)
            refine loopW (σ := Nat × St) (fun zz9 H locs ls => match zz9 with | (i2, W2) => Hd D A (wQ k ad W2) s.heap H locs ∧ lv_has ls 5 [(0, .ref (ad 0)), (1, .int x), (2, .int y), (3, .int r_62), (4, .int (nI i2))] ∧ (i2 ≤ 8) ∧ (Fr [11] W1 W2) ∧ (∀ j, j < i2 → W2 11 j = U2 17 j)) (fun zz9 => match zz9 with | (i2, W2) => 8 - i2) ?_ (0, W1) ⟨hh, (lv_sub hl [1, 2, 3, 4, 0] rfl), (by omega), Fr.rf, (fun j hj => absurd hj (Nat.not_lt_zero _))⟩
            intro zz9 H locs ls hI ih
            obtain ⟨i2, W2⟩ := zz9
            obtain ⟨hh, hl, hi2, fw2, hcr⟩ := hI
            refine lv_iload hx hb dX4_run_125 (lv_at hl 4 rfl) ?_
            refine lv_bipush (v := 8) hx hb dX4_run_127 (by decide) ?_
            refine lv_icmp_ge (tgt := 152) hx hb dX4_run_129 (by decide) (fun c_129 => ?_) (fun c_129 => ?_)
            · have c_129 : 8 ≤ i2 := (nI_leI (a := 8) (b := i2) (by omega) (by omega)).mp c_129
              refine lv_iload_n hx hb dX4_run_152 rfl (lv_at hl 3 rfl) ?_
              exact retI (Wd := wQ k ad) (v := r_62) (W2) hx hb hr hlocks dX4_run_153 hh (Or.inr ⟨q2, r_53, hq2, hye, Or.inr ⟨q, hq, hxe, q_53⟩, ⟨tq U2, hpf, by rw [fw2 0 (by decide), fw 0 (by decide)]; exact e312, by rw [fw2 0 (by decide), fw 0 (by decide)]; exact e314, by rw [fw2 0 (by decide), fw 0 (by decide)]; exact e315, fun c9 h9 hc9 j hj => by rw [fw2 10 (by decide)]; exact hcp j (by have := (nI_eq (a := c9) (b := c) (by omega) (by omega)).mp (h9.symm.trans h30); omega), fun j hj => hcr j (by omega)⟩, (f3.trans ((Fr.x (ss := []) fw (by decide)).mono (by intro c hc; simp at hc ⊢; omega) (by simp))).trans ((Fr.x (ss := []) fw2 (by decide)).mono (by intro c hc; simp at hc ⊢; omega) (by simp)), by rw [fw2 0 (by decide), fw 0 (by decide)]; exact e311, Or.inr ⟨by rw [fw2 0 (by decide), fw 0 (by decide)]; exact e322, by rw [show pq W2 = pq V from (pq_eq (by rw [fw2 0 (by decide), fw 0 (by decide)]) (fun i a b => by rw [fw2 i (by simp; omega), fw i (by simp; omega)])).trans (f3.pq (by intro i a b; simp; omega) (by decide))]; exact hM3.eq (by rw [fw2 13 (by decide), fw 13 (by decide)]) (by rw [fw2 14 (by decide), fw 14 (by decide)]) (by rw [fw2 15 (by decide), fw 15 (by decide)])⟩⟩)
            · have c_129 : ¬ 8 ≤ i2 := fun z => c_129 ((nI_leI (a := 8) (b := i2) (by omega) (by omega)).mpr z)
              refine lv_aload_n hx hb dX4_run_132 rfl (lv_at hl 0 rfl) ?_
              refine gfl hx hb hg inX4 hown hK hh.1 0 (ci := 4) rfl rfl 16 (by decide) wd_567 rfl dX4_run_133 ?_
              refine lv_iload hx hb dX4_run_136 (lv_at hl 4 rfl) ?_
              refine lv_aload_n hx hb dX4_run_138 rfl (lv_at hl 0 rfl) ?_
              refine gfl hx hb hg inX4 hown hK hh.1 0 (ci := 4) rfl rfl 24 (by decide) wd_575 rfl dX4_run_139 ?_
              refine lv_iload hx hb dX4_run_142 (lv_at hl 4 rfl) ?_
              refine ldn hx hb hK hh.1 17 0 rfl rfl (by omega) (by decide) dX4_run_144 ?_
              refine stn (j := i2) hx hb hK hh 11 0 rfl rfl (by omega) (by decide) dX4_run_145 (wQ k ad (va_up W2 11 (upd (W2 11) i2 ((W2 17) i2)))) rfl (fun H locs hh => ?_)
              refine lv_iinc (v := nI (i2 + 1)) (lv' := [(4, .int (nI (i2 + 1))), (0, .ref (ad 0)), (1, .int x), (2, .int y), (3, .int r_62)]) hx hb dX4_run_146 hl (k := 4) rfl (nI_succ i2).symm (by decide) rfl (fun ls hl => ?_)
              refine lv_goto (tgt := 125) hx hb dX4_run_149 (by decide) ?_
              exact ih (i2 + 1, va_up W2 11 (upd (W2 11) i2 ((W2 17) i2))) _ _ _ ⟨hh, (lv_sub hl [1, 2, 3, 4, 0] rfl), (by omega), (fw2.up (by decide)), (fun j hj => by rcases Classical.em (j = i2) with e | e; (subst e; rw [up_s, upd_s, fw2 17 (by decide), fw 17 (by decide), e317]); (rw [up_s, upd_n e]; exact hcr j (by omega)))⟩ (by dsimp only; omega)
          · have c_99 : ¬ c ≤ i := fun z => c_99 ((nI_leI (a := c) (b := i) (by omega) (by omega)).mpr z)
            refine lv_aload_n hx hb dX4_run_102 rfl (lv_at hl 0 rfl) ?_
            refine gfl hx hb hg inX4 hown hK hh.1 0 (ci := 4) rfl rfl 13 (by decide) wd_564 rfl dX4_run_103 ?_
            refine lv_iload hx hb dX4_run_106 (lv_at hl 4 rfl) ?_
            refine lv_aload_n hx hb dX4_run_108 rfl (lv_at hl 0 rfl) ?_
            refine gfl hx hb hg inX4 hown hK hh.1 0 (ci := 4) rfl rfl 31 (by decide) wd_582 rfl dX4_run_109 ?_
            refine lv_iload hx hb dX4_run_112 (lv_at hl 4 rfl) ?_
            refine ldn hx hb hK hh.1 21 0 rfl rfl (by omega) (by decide) dX4_run_114 ?_
            refine stn (j := i) hx hb hK hh 10 0 rfl rfl (by omega) (by decide) dX4_run_115 (wQ k ad (va_up W1 10 (upd (W1 10) i ((W1 21) i)))) rfl (fun H locs hh => ?_)
            refine lv_iinc (v := nI (i + 1)) (lv' := [(4, .int (nI (i + 1))), (0, .ref (ad 0)), (1, .int x), (2, .int y), (3, .int r_62)]) hx hb dX4_run_116 hl (k := 4) rfl (nI_succ i).symm (by decide) rfl (fun ls hl => ?_)
            refine lv_goto (tgt := 93) hx hb dX4_run_119 (by decide) ?_
            exact ih (i + 1, va_up W1 10 (upd (W1 10) i ((W1 21) i))) _ _ _ ⟨hh, (lv_sub hl [1, 2, 3, 4, 0] rfl), (by omega), (fw.up (by decide)), (fun j hj => by rcases Classical.em (j = i) with e | e; (subst e; rw [up_s, upd_s, fw 21 (by decide), e321]); (rw [up_s, upd_n e]; exact hcp j (by omega)))⟩ (by dsimp only; omega)
        · exact absurd c_42 c_3
      · have c_19 := zI_0.mp c_19
        have c_19 : ¬ rgt y n := fun z => by rw [hP2.mpr z] at c_19; cases c_19
        refine lv_iconst (v := (-1)) hx hb dX4_run_22 (by decide) ?_
        exact retI (Wd := wQ k ad) (v := (-1)) (V) hx hb hr hlocks dX4_run_23 hh (Or.inl ⟨fun z => c_19 z.1, rfl, rfl⟩)
abbrev rmX4_whole : Room := { frames := 4, cells := 0, slots := 0, locals := 101 }
theorem lk_X4_whole : Lk yX4_whole 3 := by decide +kernel
set_option maxHeartbeats 4000000 in
set_option maxRecDepth 100000 in
/-- whole(p, from, at) -/
theorem c_X4_whole (l : Launch) (D : va_G) (k : Nat → ClassId) (ad : Nat → Nat) (V : St) {n : Nat} (hv : okV n (pq V)) {t : Nat} (ht : t < 1) (w : Nat) (hw : w < 24) : CtX noX l yX4_whole cX4_whole 6 (some .int) rmX4_whole D (tyL k) (wQ k ad V) [.ref (ad 0), .int (nI w), .ref (ad 5), .int (nI (4 * t))] (qI D (wQ k ad) (fun r U => r = nI (hwF (pq V) (fun j => V 5 (4 * t + j)) (-1) w n) ∧ U 0 33 = nI (tcF (pq V) (fun j => V 5 (4 * t + j)) (-1) w n) ∧ (∀ j, j < tcF (pq V) (fun j => V 5 (4 * t + j)) (-1) w n → U 22 j = tdF (pq V) (fun j => V 5 (4 * t + j)) (-1) w n j) ∧ FrW V U)) := by
  refine CtX.mk (by decide) (Nat.le_of_ble_eq_true rfl) ?_
  intro p e s m below meth c hx hb hml hown hg hr hlocks hK hN A hA hX hh ls hl
  have hh : Hd D A (wQ k ad V) s.heap s.heap [] := hh
  have hl : lv_has ls 6 [(0, .ref (ad 0)), (1, .int (nI w)), (2, .ref (ad 5)), (3, .int (nI (4 * t)))] := hl
  have h00 : V 0 0 = nI n := hv.2.1
  have hn24 := hv.1
  refine lv_aload_n hx hb dX4_whole_0 rfl (lv_at hl 0 rfl) ?_
  refine lv_ldc (v := 16777215) hx hb hown (hg _ wd_800) dX4_whole_1 ?_
  refine lv_iload_n hx hb dX4_whole_3 rfl (lv_at hl 1 rfl) ?_
  refine lv_aload_n hx hb dX4_whole_4 rfl (lv_at hl 2 rfl) ?_
  refine lv_iload_n hx hb dX4_whole_5 rfl (lv_at hl 3 rfl) ?_
  refine callWI (D := D) (wn := fun U2 => wQ k ad U2) (wr := []) (runV hx hb hg hown hml hl.1 ((c_X4_go l D k ad V hv ht (16777215) w hw) s.heap.size) [.int 16777215, .int (nI w), .ref (ad 5), .int (nI (4 * t))] [] (preX (mapSome_sub hh.1 [0, 1, 2, 3, 4, 5, 6, 7, 8, 9, 10, 11, 12, 13, 14, 15, 16, 17, 18, 19, 20, 21, 22] rfl) (hh.2.1.sub [0, 1, 2, 3, 4, 5, 6, 7, 8, 9, 10, 11, 12, 13, 14, 15, 16, 17, 18, 19, 20, 21, 22] (by decide) rfl) hK hN xb0 x0) (va_recv hK hh.1 (ci := 4) (q0 := 0) rfl rfl) wd_801 wd_803 wd_42 wd_53 wd_804 lk_X4_go ⟨rfl, rfl⟩ ⟨by decide, by decide⟩ ⟨Nat.zero_le _, Nat.zero_le _⟩ rfl (Nat.le_of_ble_eq_true rfl) dX4_whole_6) hA hh [0, 1, 2, 3, 4, 5, 6, 7, 8, 9, 10, 11, 12, 13, 14, 15, 16, 17, 18, 19, 20, 21, 22] [] [0, 1, 2, 3, 4, 5, 6, 7, 8, 9, 10, 11, 12, 13, 14, 15, 16, 17, 18, 19, 20, 21, 22] rfl rfl (by decide) (by decide) (by decide) (fun _ => rfl) (fun r_6 U2 H locs q_6 hh => ?_)
  obtain ⟨hpf, g1⟩ := q_6
  obtain ⟨a1, a2, a3⟩ := run_ag (w := w) (I := (fun j => V 5 (4 * t + j))) (I' := (fun j => V 5 (4 * t + j))) hv (fun _ _ => rfl) (m24 hn24)
  obtain ⟨d1, d2, d3, d4⟩ := pf_F hv hpf
  rw [a1] at d1
  have d4 : ∀ j, j < tcF (pq V) (fun j => V 5 (4 * t + j)) (-1) w n → U2 21 j = tdF (pq V) (fun j => V 5 (4 * t + j)) (-1) w n j := fun j hj => (d4 j (by omega)).trans (a3 j (by omega))
  rw [a2] at d2 d3
  have h30 : U2 0 30 = nI (tcF (pq V) (fun j => V 5 (4 * t + j)) (-1) w n) := d2
  rw [d1]
  refine lv_istore (lv' := [(4, .int (nI (hwF (pq V) (fun j => V 5 (4 * t + j)) (-1) w n))), (0, .ref (ad 0)), (1, .int (nI w)), (2, .ref (ad 5)), (3, .int (nI (4 * t)))]) hx hb dX4_whole_9 hl (by decide) rfl (fun ls hl => ?_)
  refine lv_aload_n hx hb dX4_whole_11 rfl (lv_at hl 1 rfl) ?_
  refine lv_aload_n hx hb dX4_whole_12 rfl (lv_at hl 1 rfl) ?_
  refine gfl hx hb hg inX4 hown hK hh.1 0 (ci := 4) rfl rfl 30 (by decide) wd_581 rfl dX4_whole_13 ?_
  refine pfl hx hb hg inX4 tyX4 tyX4_ok nmX4 hown hK hh 0 (ci := 4) rfl rfl 33 (by decide) wd_584 rfl rfl rfl (Nat.le_of_ble_eq_true rfl) dX4_whole_16 (wQ k ad (va_up U2 0 (upd (U2 0) 33 (U2 0 30)))) rfl (fun H locs hh => ?_)
  obtain ⟨U3, eU3⟩ : ∃ z : St, z = va_up U2 0 (upd (U2 0) 33 (U2 0 30)) := ⟨_, rfl⟩
  rw [← eU3] at hh
  have f3 : FrW V U3 := by rw [eU3]; exact g1.w.u0 (by decide) (by decide)
  have e330 : U3 0 30 = nI (tcF (pq V) (fun j => V 5 (4 * t + j)) (-1) w n) := by rw [eU3]; exact h30
  have e333 : U3 0 33 = nI (tcF (pq V) (fun j => V 5 (4 * t + j)) (-1) w n) := by rw [eU3]; exact h30
  have e321 : U3 21 = U2 21 := by rw [eU3]; rfl
  refine lv_iconst (v := 0) hx hb dX4_whole_19 (by decide) ?_
  refine lv_istore (lv' := [(5, .int 0), (4, .int (nI (hwF (pq V) (fun j => V 5 (4 * t + j)) (-1) w n))), (0, .ref (ad 0)), (1, .int (nI w)), (2, .ref (ad 5)), (3, .int (nI (4 * t)))]) hx hb dX4_whole_20 hl (by decide) rfl (fun ls hl => ?_)
  refine loopW (σ := Nat × St) (fun zz9 H locs ls => match zz9 with | (i, W1) => Hd D A (wQ k ad W1) s.heap H locs ∧ lv_has ls 6 [(0, .ref (ad 0)), (1, .int (nI w)), (2, .ref (ad 5)), (3, .int (nI (4 * t))), (4, .int (nI (hwF (pq V) (fun j => V 5 (4 * t + j)) (-1) w n))), (5, .int (nI i))] ∧ (i ≤ tcF (pq V) (fun j => V 5 (4 * t + j)) (-1) w n) ∧ (Fr [22] U3 W1) ∧ (∀ j, j < i → W1 22 j = U2 21 j)) (fun zz9 => match zz9 with | (i, W1) => tcF (pq V) (fun j => V 5 (4 * t + j)) (-1) w n - i) ?_ (0, U3) ⟨hh, (lv_sub hl [2, 3, 4, 5, 1, 0] rfl), (by omega), Fr.rf, (fun j hj => absurd hj (Nat.not_lt_zero _))⟩
  intro zz9 H locs ls hI ih
  obtain ⟨i, W1⟩ := zz9
  obtain ⟨hh, hl, hi, fw, hcp⟩ := hI
  refine lv_iload hx hb dX4_whole_22 (lv_at hl 5 rfl) ?_
  refine lv_aload_n hx hb dX4_whole_24 rfl (lv_at hl 0 rfl) ?_
  refine gfl hx hb hg inX4 hown hK hh.1 0 (ci := 4) rfl rfl 30 (by decide) wd_581 rfl dX4_whole_25 ?_
  refine topv (nI (tcF (pq V) (fun j => V 5 (4 * t + j)) (-1) w n)) (by rw [fw 0 (by decide)]; exact e330) ?_
  refine lv_icmp_ge (tgt := 51) hx hb dX4_whole_28 (by decide) (fun c_28 => ?_) (fun c_28 => ?_)
  · have c_28 : tcF (pq V) (fun j => V 5 (4 * t + j)) (-1) w n ≤ i := (nI_leI (a := tcF (pq V) (fun j => V 5 (4 * t + j)) (-1) w n) (b := i) (by omega) (by omega)).mp c_28
    refine lv_iload hx hb dX4_whole_51 (lv_at hl 4 rfl) ?_
    exact retI (Wd := wQ k ad) (v := nI (hwF (pq V) (fun j => V 5 (4 * t + j)) (-1) w n)) (W1) hx hb hr hlocks dX4_whole_53 hh (⟨rfl, by rw [fw 0 (by decide)]; exact e333, fun j hj => (hcp j (by omega)).trans (d4 j hj), f3.trans ((Fr.x (ss := []) fw (by decide)).mono (by intro c hc; simp at hc ⊢; omega) (by simp))⟩)
  · have c_28 : ¬ tcF (pq V) (fun j => V 5 (4 * t + j)) (-1) w n ≤ i := fun z => c_28 ((nI_leI (a := tcF (pq V) (fun j => V 5 (4 * t + j)) (-1) w n) (b := i) (by omega) (by omega)).mpr z)
    refine lv_aload_n hx hb dX4_whole_31 rfl (lv_at hl 0 rfl) ?_
    refine gfl hx hb hg inX4 hown hK hh.1 0 (ci := 4) rfl rfl 34 (by decide) wd_585 rfl dX4_whole_32 ?_
    refine lv_iload hx hb dX4_whole_35 (lv_at hl 5 rfl) ?_
    refine lv_aload_n hx hb dX4_whole_37 rfl (lv_at hl 0 rfl) ?_
    refine gfl hx hb hg inX4 hown hK hh.1 0 (ci := 4) rfl rfl 31 (by decide) wd_582 rfl dX4_whole_38 ?_
    refine lv_iload hx hb dX4_whole_41 (lv_at hl 5 rfl) ?_
    refine ldn hx hb hK hh.1 21 0 rfl rfl (by omega) (by decide) dX4_whole_43 ?_
    refine stn (j := i) hx hb hK hh 22 0 rfl rfl (by omega) (by decide) dX4_whole_44 (wQ k ad (va_up W1 22 (upd (W1 22) i ((W1 21) i)))) rfl (fun H locs hh => ?_)
    refine lv_iinc (v := nI (i + 1)) (lv' := [(5, .int (nI (i + 1))), (0, .ref (ad 0)), (1, .int (nI w)), (2, .ref (ad 5)), (3, .int (nI (4 * t))), (4, .int (nI (hwF (pq V) (fun j => V 5 (4 * t + j)) (-1) w n)))]) hx hb dX4_whole_45 hl (k := 5) rfl (nI_succ i).symm (by decide) rfl (fun ls hl => ?_)
    refine lv_goto (tgt := 22) hx hb dX4_whole_48 (by decide) ?_
    exact ih (i + 1, va_up W1 22 (upd (W1 22) i ((W1 21) i))) _ _ _ ⟨hh, (lv_sub hl [1, 2, 3, 4, 5, 0] rfl), (by omega), (fw.up (by decide)), (fun j hj => by rcases Classical.em (j = i) with e | e; (subst e; rw [up_s, upd_s, fw 21 (by decide), e321]); (rw [up_s, upd_n e]; exact hcp j (by omega)))⟩ (by dsimp only; omega)
set_option maxHeartbeats 4000000 in
set_option maxRecDepth 100000 in
/-- whole(p, from, at) -/
theorem c_X4_whole_9 (l : Launch) (D : va_G) (k : Nat → ClassId) (ad : Nat → Nat) (V : St) {n : Nat} (hv : okV n (pq V)) {t : Nat} (ht : t < 3) (w : Nat) (hw : w < 24) : CtX noX l yX4_whole cX4_whole 6 (some .int) rmX4_whole D (tyL k) (wQ k ad V) [.ref (ad 0), .int (nI w), .ref (ad 9), .int (nI (4 * t))] (qI D (wQ k ad) (fun r U => r = nI (hwF (pq V) (fun j => V 9 (4 * t + j)) (-1) w n) ∧ U 0 33 = nI (tcF (pq V) (fun j => V 9 (4 * t + j)) (-1) w n) ∧ (∀ j, j < tcF (pq V) (fun j => V 9 (4 * t + j)) (-1) w n → U 22 j = tdF (pq V) (fun j => V 9 (4 * t + j)) (-1) w n j) ∧ FrW V U)) := by
  refine CtX.mk (by decide) (Nat.le_of_ble_eq_true rfl) ?_
  intro p e s m below meth c hx hb hml hown hg hr hlocks hK hN A hA hX hh ls hl
  have hh : Hd D A (wQ k ad V) s.heap s.heap [] := hh
  have hl : lv_has ls 6 [(0, .ref (ad 0)), (1, .int (nI w)), (2, .ref (ad 9)), (3, .int (nI (4 * t)))] := hl
  have h00 : V 0 0 = nI n := hv.2.1
  have hn24 := hv.1
  refine lv_aload_n hx hb dX4_whole_0 rfl (lv_at hl 0 rfl) ?_
  refine lv_ldc (v := 16777215) hx hb hown (hg _ wd_800) dX4_whole_1 ?_
  refine lv_iload_n hx hb dX4_whole_3 rfl (lv_at hl 1 rfl) ?_
  refine lv_aload_n hx hb dX4_whole_4 rfl (lv_at hl 2 rfl) ?_
  refine lv_iload_n hx hb dX4_whole_5 rfl (lv_at hl 3 rfl) ?_
  refine callWI (D := D) (wn := fun U2 => wQ k ad U2) (wr := []) (runV hx hb hg hown hml hl.1 ((c_X4_go_9 l D k ad V hv ht (16777215) w hw) s.heap.size) [.int 16777215, .int (nI w), .ref (ad 9), .int (nI (4 * t))] [] (preX (mapSome_sub hh.1 [0, 1, 2, 3, 4, 5, 6, 7, 8, 9, 10, 11, 12, 13, 14, 15, 16, 17, 18, 19, 20, 21, 22] rfl) (hh.2.1.sub [0, 1, 2, 3, 4, 5, 6, 7, 8, 9, 10, 11, 12, 13, 14, 15, 16, 17, 18, 19, 20, 21, 22] (by decide) rfl) hK hN xb0 x0) (va_recv hK hh.1 (ci := 4) (q0 := 0) rfl rfl) wd_801 wd_803 wd_42 wd_53 wd_804 lk_X4_go ⟨rfl, rfl⟩ ⟨by decide, by decide⟩ ⟨Nat.zero_le _, Nat.zero_le _⟩ rfl (Nat.le_of_ble_eq_true rfl) dX4_whole_6) hA hh [0, 1, 2, 3, 4, 5, 6, 7, 8, 9, 10, 11, 12, 13, 14, 15, 16, 17, 18, 19, 20, 21, 22] [] [0, 1, 2, 3, 4, 5, 6, 7, 8, 9, 10, 11, 12, 13, 14, 15, 16, 17, 18, 19, 20, 21, 22] rfl rfl (by decide) (by decide) (by decide) (fun _ => rfl) (fun r_6 U2 H locs q_6 hh => ?_)
  obtain ⟨hpf, g1⟩ := q_6
  obtain ⟨a1, a2, a3⟩ := run_ag (w := w) (I := (fun j => V 9 (4 * t + j))) (I' := (fun j => V 9 (4 * t + j))) hv (fun _ _ => rfl) (m24 hn24)
  obtain ⟨d1, d2, d3, d4⟩ := pf_F hv hpf
  rw [a1] at d1
  have d4 : ∀ j, j < tcF (pq V) (fun j => V 9 (4 * t + j)) (-1) w n → U2 21 j = tdF (pq V) (fun j => V 9 (4 * t + j)) (-1) w n j := fun j hj => (d4 j (by omega)).trans (a3 j (by omega))
  rw [a2] at d2 d3
  have h30 : U2 0 30 = nI (tcF (pq V) (fun j => V 9 (4 * t + j)) (-1) w n) := d2
  rw [d1]
  refine lv_istore (lv' := [(4, .int (nI (hwF (pq V) (fun j => V 9 (4 * t + j)) (-1) w n))), (0, .ref (ad 0)), (1, .int (nI w)), (2, .ref (ad 9)), (3, .int (nI (4 * t)))]) hx hb dX4_whole_9 hl (by decide) rfl (fun ls hl => ?_)
  refine lv_aload_n hx hb dX4_whole_11 rfl (lv_at hl 1 rfl) ?_
  refine lv_aload_n hx hb dX4_whole_12 rfl (lv_at hl 1 rfl) ?_
  refine gfl hx hb hg inX4 hown hK hh.1 0 (ci := 4) rfl rfl 30 (by decide) wd_581 rfl dX4_whole_13 ?_
  refine pfl hx hb hg inX4 tyX4 tyX4_ok nmX4 hown hK hh 0 (ci := 4) rfl rfl 33 (by decide) wd_584 rfl rfl rfl (Nat.le_of_ble_eq_true rfl) dX4_whole_16 (wQ k ad (va_up U2 0 (upd (U2 0) 33 (U2 0 30)))) rfl (fun H locs hh => ?_)
  obtain ⟨U3, eU3⟩ : ∃ z : St, z = va_up U2 0 (upd (U2 0) 33 (U2 0 30)) := ⟨_, rfl⟩
  rw [← eU3] at hh
  have f3 : FrW V U3 := by rw [eU3]; exact g1.w.u0 (by decide) (by decide)
  have e330 : U3 0 30 = nI (tcF (pq V) (fun j => V 9 (4 * t + j)) (-1) w n) := by rw [eU3]; exact h30
  have e333 : U3 0 33 = nI (tcF (pq V) (fun j => V 9 (4 * t + j)) (-1) w n) := by rw [eU3]; exact h30
  have e321 : U3 21 = U2 21 := by rw [eU3]; rfl
  refine lv_iconst (v := 0) hx hb dX4_whole_19 (by decide) ?_
  refine lv_istore (lv' := [(5, .int 0), (4, .int (nI (hwF (pq V) (fun j => V 9 (4 * t + j)) (-1) w n))), (0, .ref (ad 0)), (1, .int (nI w)), (2, .ref (ad 9)), (3, .int (nI (4 * t)))]) hx hb dX4_whole_20 hl (by decide) rfl (fun ls hl => ?_)
  refine loopW (σ := Nat × St) (fun zz9 H locs ls => match zz9 with | (i, W1) => Hd D A (wQ k ad W1) s.heap H locs ∧ lv_has ls 6 [(0, .ref (ad 0)), (1, .int (nI w)), (2, .ref (ad 9)), (3, .int (nI (4 * t))), (4, .int (nI (hwF (pq V) (fun j => V 9 (4 * t + j)) (-1) w n))), (5, .int (nI i))] ∧ (i ≤ tcF (pq V) (fun j => V 9 (4 * t + j)) (-1) w n) ∧ (Fr [22] U3 W1) ∧ (∀ j, j < i → W1 22 j = U2 21 j)) (fun zz9 => match zz9 with | (i, W1) => tcF (pq V) (fun j => V 9 (4 * t + j)) (-1) w n - i) ?_ (0, U3) ⟨hh, (lv_sub hl [2, 3, 4, 5, 1, 0] rfl), (by omega), Fr.rf, (fun j hj => absurd hj (Nat.not_lt_zero _))⟩
  intro zz9 H locs ls hI ih
  obtain ⟨i, W1⟩ := zz9
  obtain ⟨hh, hl, hi, fw, hcp⟩ := hI
  refine lv_iload hx hb dX4_whole_22 (lv_at hl 5 rfl) ?_
  refine lv_aload_n hx hb dX4_whole_24 rfl (lv_at hl 0 rfl) ?_
  refine gfl hx hb hg inX4 hown hK hh.1 0 (ci := 4) rfl rfl 30 (by decide) wd_581 rfl dX4_whole_25 ?_
  refine topv (nI (tcF (pq V) (fun j => V 9 (4 * t + j)) (-1) w n)) (by rw [fw 0 (by decide)]; exact e330) ?_
  refine lv_icmp_ge (tgt := 51) hx hb dX4_whole_28 (by decide) (fun c_28 => ?_) (fun c_28 => ?_)
  · have c_28 : tcF (pq V) (fun j => V 9 (4 * t + j)) (-1) w n ≤ i := (nI_leI (a := tcF (pq V) (fun j => V 9 (4 * t + j)) (-1) w n) (b := i) (by omega) (by omega)).mp c_28
    refine lv_iload hx hb dX4_whole_51 (lv_at hl 4 rfl) ?_
    exact retI (Wd := wQ k ad) (v := nI (hwF (pq V) (fun j => V 9 (4 * t + j)) (-1) w n)) (W1) hx hb hr hlocks dX4_whole_53 hh (⟨rfl, by rw [fw 0 (by decide)]; exact e333, fun j hj => (hcp j (by omega)).trans (d4 j hj), f3.trans ((Fr.x (ss := []) fw (by decide)).mono (by intro c hc; simp at hc ⊢; omega) (by simp))⟩)
  · have c_28 : ¬ tcF (pq V) (fun j => V 9 (4 * t + j)) (-1) w n ≤ i := fun z => c_28 ((nI_leI (a := tcF (pq V) (fun j => V 9 (4 * t + j)) (-1) w n) (b := i) (by omega) (by omega)).mpr z)
    refine lv_aload_n hx hb dX4_whole_31 rfl (lv_at hl 0 rfl) ?_
    refine gfl hx hb hg inX4 hown hK hh.1 0 (ci := 4) rfl rfl 34 (by decide) wd_585 rfl dX4_whole_32 ?_
    refine lv_iload hx hb dX4_whole_35 (lv_at hl 5 rfl) ?_
    refine lv_aload_n hx hb dX4_whole_37 rfl (lv_at hl 0 rfl) ?_
    refine gfl hx hb hg inX4 hown hK hh.1 0 (ci := 4) rfl rfl 31 (by decide) wd_582 rfl dX4_whole_38 ?_
    refine lv_iload hx hb dX4_whole_41 (lv_at hl 5 rfl) ?_
    refine ldn hx hb hK hh.1 21 0 rfl rfl (by omega) (by decide) dX4_whole_43 ?_
    refine stn (j := i) hx hb hK hh 22 0 rfl rfl (by omega) (by decide) dX4_whole_44 (wQ k ad (va_up W1 22 (upd (W1 22) i ((W1 21) i)))) rfl (fun H locs hh => ?_)
    refine lv_iinc (v := nI (i + 1)) (lv' := [(5, .int (nI (i + 1))), (0, .ref (ad 0)), (1, .int (nI w)), (2, .ref (ad 9)), (3, .int (nI (4 * t))), (4, .int (nI (hwF (pq V) (fun j => V 9 (4 * t + j)) (-1) w n)))]) hx hb dX4_whole_45 hl (k := 5) rfl (nI_succ i).symm (by decide) rfl (fun ls hl => ?_)
    refine lv_goto (tgt := 22) hx hb dX4_whole_48 (by decide) ?_
    exact ih (i + 1, va_up W1 22 (upd (W1 22) i ((W1 21) i))) _ _ _ ⟨hh, (lv_sub hl [1, 2, 3, 4, 5, 0] rfl), (by omega), (fw.up (by decide)), (fun j hj => by rcases Classical.em (j = i) with e | e; (subst e; rw [up_s, upd_s, fw 21 (by decide), e321]); (rw [up_s, upd_n e]; exact hcp j (by omega)))⟩ (by dsimp only; omega)
abbrev rmX4_isSame : Room := { frames := 0, cells := 0, slots := 0, locals := 0 }
theorem lk_X4_isSame : Lk yX4_isSame 0 := by decide +kernel
set_option maxHeartbeats 4000000 in
set_option maxRecDepth 100000 in
/-- isSame() -/
theorem c_X4_isSame (l : Launch) (D : va_G) (k : Nat → ClassId) (ad : Nat → Nat) (V : St) {c8 c9 : Nat} (h30 : V 0 30 = nI c8) (h33 : V 0 33 = nI c9) (hc8 : c8 ≤ 100) (hc9 : c9 ≤ 100) : CtR noX l yX4_isSame cX4_isSame 3 (some .boolean) rmX4_isSame D (tyL k) (wQ k ad V) [.ref (ad 0)] (fun r => ∃ b : Bool, r = zI b ∧ (b = true ↔ c8 = c9 ∧ ∀ j, j < c8 → V 21 j = V 22 j)) := by
  refine CtR.mk (by decide) (Nat.le_of_ble_eq_true rfl) ?_
  intro p e s m below meth c hx hb hml hown hg hr hlocks hK hN hX H hH hP ls hl
  have hl : lv_has ls 3 [(0, .ref (ad 0))] := hl
  refine lv_aload_n hx hb dX4_isSame_0 rfl (lv_at hl 0 rfl) ?_
  refine gfl hx hb hg inX4 hown hK hP 0 (ci := 4) rfl rfl 30 (by decide) wd_581 rfl dX4_isSame_1 ?_
  refine topv (nI c8) h30 ?_
  refine lv_aload_n hx hb dX4_isSame_4 rfl (lv_at hl 0 rfl) ?_
  refine gfl hx hb hg inX4 hown hK hP 0 (ci := 4) rfl rfl 33 (by decide) wd_584 rfl dX4_isSame_5 ?_
  refine topv (nI c9) h33 ?_
  refine lv_icmp_ne (tgt := 15) hx hb dX4_isSame_8 (by decide) (fun c_8 => ?_) (fun c_8 => ?_)
  · have c_8 : ¬ c8 = c9 := fun z => c_8 ((nI_eq (a := c8) (b := c9) (by omega) (by omega)).mpr z)
    refine lv_iconst (v := 0) hx hb dX4_isSame_15 (by decide) ?_
    refine lv_istore_n (lv' := [(1, .int 0), (0, .ref (ad 0))]) hx hb dX4_isSame_16 rfl hl (by decide) rfl (fun ls hl => ?_)
    refine lv_iconst (v := 0) hx hb dX4_isSame_17 (by decide) ?_
    refine lv_istore_n (lv' := [(2, .int 0), (1, .int 0), (0, .ref (ad 0))]) hx hb dX4_isSame_18 rfl hl (by decide) rfl (fun ls hl => ?_)
    refine loopR (σ := Nat × Bool) (fun zz9 ls => match zz9 with | (i, b) => lv_has ls 3 [(0, .ref (ad 0)), (1, .int (zI b)), (2, .int (nI i))] ∧ (i ≤ c8) ∧ (b = true ↔ c8 = c9 ∧ ∀ j, j < i → V 21 j = V 22 j)) (fun zz9 => match zz9 with | (i, b) => c8 - i) ?_ (0, false) ⟨(lv_sub hl [2, 1, 0] rfl), (by omega), ⟨fun z => (by cases z), fun z => absurd z.1 c_8⟩⟩
    intro zz9 ls hI ih
    obtain ⟨i, b⟩ := zz9
    obtain ⟨hl, hi, hb2⟩ := hI
    refine lv_iload_n hx hb dX4_isSame_19 rfl (lv_at hl 2 rfl) ?_
    refine lv_aload_n hx hb dX4_isSame_20 rfl (lv_at hl 0 rfl) ?_
    refine gfl hx hb hg inX4 hown hK hP 0 (ci := 4) rfl rfl 30 (by decide) wd_581 rfl dX4_isSame_21 ?_
    refine topv (nI c8) h30 ?_
    refine lv_icmp_ge (tgt := 58) hx hb dX4_isSame_24 (by decide) (fun c_24 => ?_) (fun c_24 => ?_)
    · have c_24 : c8 ≤ i := (nI_leI (a := c8) (b := i) (by omega) (by omega)).mp c_24
      refine lv_iload_n hx hb dX4_isSame_58 rfl (lv_at hl 1 rfl) ?_
      exact retRZ (v := zI b) hx hb hr hlocks hH (zI_nar _) dX4_isSame_59 (⟨b, rfl, hb2.trans ⟨fun z => ⟨z.1, fun j hj => z.2 j (by omega)⟩, fun z => ⟨z.1, fun j hj => z.2 j (by omega)⟩⟩⟩)
    · have c_24 : ¬ c8 ≤ i := fun z => c_24 ((nI_leI (a := c8) (b := i) (by omega) (by omega)).mpr z)
      refine lv_iload_n hx hb dX4_isSame_27 rfl (lv_at hl 1 rfl) ?_
      refine lv_if_eq (tgt := 58) hx hb dX4_isSame_28 (by decide) (fun c_28 => ?_) (fun c_28 => ?_)
      · refine lv_iload_n hx hb dX4_isSame_58 rfl (lv_at hl 1 rfl) ?_
        exact retRZ (v := zI b) hx hb hr hlocks hH (zI_nar _) dX4_isSame_59 (⟨b, rfl, fun z => absurd z (by rw [zI_0.mp c_28]; decide), fun z => hb2.mpr ⟨z.1, fun j hj => z.2 j (by omega)⟩⟩)
      · refine lv_aload_n hx hb dX4_isSame_31 rfl (lv_at hl 0 rfl) ?_
        refine gfl hx hb hg inX4 hown hK hP 0 (ci := 4) rfl rfl 31 (by decide) wd_582 rfl dX4_isSame_32 ?_
        refine lv_iload_n hx hb dX4_isSame_35 rfl (lv_at hl 2 rfl) ?_
        refine ldn hx hb hK hP 21 0 rfl rfl (by omega) (by decide) dX4_isSame_36 ?_
        refine lv_aload_n hx hb dX4_isSame_37 rfl (lv_at hl 0 rfl) ?_
        refine gfl hx hb hg inX4 hown hK hP 0 (ci := 4) rfl rfl 34 (by decide) wd_585 rfl dX4_isSame_38 ?_
        refine lv_iload_n hx hb dX4_isSame_41 rfl (lv_at hl 2 rfl) ?_
        refine ldn hx hb hK hP 22 0 rfl rfl (by omega) (by decide) dX4_isSame_42 ?_
        refine lv_icmp_ne (tgt := 50) hx hb dX4_isSame_43 (by decide) (fun c_43 => ?_) (fun c_43 => ?_)
        · refine lv_iconst (v := 0) hx hb dX4_isSame_50 (by decide) ?_
          refine lv_istore_n (lv' := [(1, .int 0), (0, .ref (ad 0)), (2, .int (nI i))]) hx hb dX4_isSame_51 rfl hl (by decide) rfl (fun ls hl => ?_)
          refine lv_iinc (v := nI (i + 1)) (lv' := [(2, .int (nI (i + 1))), (1, .int 0), (0, .ref (ad 0))]) hx hb dX4_isSame_52 hl (k := 2) rfl (nI_succ i).symm (by decide) rfl (fun ls hl => ?_)
          refine lv_goto (tgt := 19) hx hb dX4_isSame_55 (by decide) ?_
          exact ih (i + 1, false) _ ⟨(lv_sub hl [2, 1, 0] rfl), (by omega), ⟨fun z => (by cases z), fun z => absurd (z.2 i (by omega)) c_43⟩⟩ (by dsimp only; omega)
        · refine lv_iconst (v := 1) hx hb dX4_isSame_46 (by decide) ?_
          refine lv_goto (tgt := 51) hx hb dX4_isSame_47 (by decide) ?_
          refine lv_istore_n (lv' := [(1, .int 1), (0, .ref (ad 0)), (2, .int (nI i))]) hx hb dX4_isSame_51 rfl hl (by decide) rfl (fun ls hl => ?_)
          refine lv_iinc (v := nI (i + 1)) (lv' := [(2, .int (nI (i + 1))), (1, .int 1), (0, .ref (ad 0))]) hx hb dX4_isSame_52 hl (k := 2) rfl (nI_succ i).symm (by decide) rfl (fun ls hl => ?_)
          refine lv_goto (tgt := 19) hx hb dX4_isSame_55 (by decide) ?_
          exact ih (i + 1, true) _ ⟨(lv_sub hl [2, 1, 0] rfl), (by omega), ⟨fun _ => ⟨(hb2.mp (zI_ne c_28)).1, fun j hj => by rcases Classical.em (j = i) with e | e; (subst e; exact c_43); exact (hb2.mp (zI_ne c_28)).2 j (by omega)⟩, fun _ => rfl⟩⟩ (by dsimp only; omega)
  · have c_8 : c8 = c9 := (nI_eq (a := c8) (b := c9) (by omega) (by omega)).mp c_8
    refine lv_iconst (v := 1) hx hb dX4_isSame_11 (by decide) ?_
    refine lv_goto (tgt := 16) hx hb dX4_isSame_12 (by decide) ?_
    refine lv_istore_n (lv' := [(1, .int 1), (0, .ref (ad 0))]) hx hb dX4_isSame_16 rfl hl (by decide) rfl (fun ls hl => ?_)
    refine lv_iconst (v := 0) hx hb dX4_isSame_17 (by decide) ?_
    refine lv_istore_n (lv' := [(2, .int 0), (1, .int 1), (0, .ref (ad 0))]) hx hb dX4_isSame_18 rfl hl (by decide) rfl (fun ls hl => ?_)
    refine loopR (σ := Nat × Bool) (fun zz9 ls => match zz9 with | (i, b) => lv_has ls 3 [(0, .ref (ad 0)), (1, .int (zI b)), (2, .int (nI i))] ∧ (i ≤ c8) ∧ (b = true ↔ c8 = c9 ∧ ∀ j, j < i → V 21 j = V 22 j)) (fun zz9 => match zz9 with | (i, b) => c8 - i) ?_ (0, true) ⟨(lv_sub hl [2, 1, 0] rfl), (by omega), ⟨fun _ => ⟨c_8, fun j hj => absurd hj (Nat.not_lt_zero _)⟩, fun _ => rfl⟩⟩
    intro zz9 ls hI ih
    obtain ⟨i, b⟩ := zz9
    obtain ⟨hl, hi, hb2⟩ := hI
    refine lv_iload_n hx hb dX4_isSame_19 rfl (lv_at hl 2 rfl) ?_
    refine lv_aload_n hx hb dX4_isSame_20 rfl (lv_at hl 0 rfl) ?_
    refine gfl hx hb hg inX4 hown hK hP 0 (ci := 4) rfl rfl 30 (by decide) wd_581 rfl dX4_isSame_21 ?_
    refine topv (nI c8) h30 ?_
    refine lv_icmp_ge (tgt := 58) hx hb dX4_isSame_24 (by decide) (fun c_24 => ?_) (fun c_24 => ?_)
    · have c_24 : c8 ≤ i := (nI_leI (a := c8) (b := i) (by omega) (by omega)).mp c_24
      refine lv_iload_n hx hb dX4_isSame_58 rfl (lv_at hl 1 rfl) ?_
      exact retRZ (v := zI b) hx hb hr hlocks hH (zI_nar _) dX4_isSame_59 (⟨b, rfl, hb2.trans ⟨fun z => ⟨z.1, fun j hj => z.2 j (by omega)⟩, fun z => ⟨z.1, fun j hj => z.2 j (by omega)⟩⟩⟩)
    · have c_24 : ¬ c8 ≤ i := fun z => c_24 ((nI_leI (a := c8) (b := i) (by omega) (by omega)).mpr z)
      refine lv_iload_n hx hb dX4_isSame_27 rfl (lv_at hl 1 rfl) ?_
      refine lv_if_eq (tgt := 58) hx hb dX4_isSame_28 (by decide) (fun c_28 => ?_) (fun c_28 => ?_)
      · refine lv_iload_n hx hb dX4_isSame_58 rfl (lv_at hl 1 rfl) ?_
        exact retRZ (v := zI b) hx hb hr hlocks hH (zI_nar _) dX4_isSame_59 (⟨b, rfl, fun z => absurd z (by rw [zI_0.mp c_28]; decide), fun z => hb2.mpr ⟨z.1, fun j hj => z.2 j (by omega)⟩⟩)
      · refine lv_aload_n hx hb dX4_isSame_31 rfl (lv_at hl 0 rfl) ?_
        refine gfl hx hb hg inX4 hown hK hP 0 (ci := 4) rfl rfl 31 (by decide) wd_582 rfl dX4_isSame_32 ?_
        refine lv_iload_n hx hb dX4_isSame_35 rfl (lv_at hl 2 rfl) ?_
        refine ldn hx hb hK hP 21 0 rfl rfl (by omega) (by decide) dX4_isSame_36 ?_
        refine lv_aload_n hx hb dX4_isSame_37 rfl (lv_at hl 0 rfl) ?_
        refine gfl hx hb hg inX4 hown hK hP 0 (ci := 4) rfl rfl 34 (by decide) wd_585 rfl dX4_isSame_38 ?_
        refine lv_iload_n hx hb dX4_isSame_41 rfl (lv_at hl 2 rfl) ?_
        refine ldn hx hb hK hP 22 0 rfl rfl (by omega) (by decide) dX4_isSame_42 ?_
        refine lv_icmp_ne (tgt := 50) hx hb dX4_isSame_43 (by decide) (fun c_43 => ?_) (fun c_43 => ?_)
        · refine lv_iconst (v := 0) hx hb dX4_isSame_50 (by decide) ?_
          refine lv_istore_n (lv' := [(1, .int 0), (0, .ref (ad 0)), (2, .int (nI i))]) hx hb dX4_isSame_51 rfl hl (by decide) rfl (fun ls hl => ?_)
          refine lv_iinc (v := nI (i + 1)) (lv' := [(2, .int (nI (i + 1))), (1, .int 0), (0, .ref (ad 0))]) hx hb dX4_isSame_52 hl (k := 2) rfl (nI_succ i).symm (by decide) rfl (fun ls hl => ?_)
          refine lv_goto (tgt := 19) hx hb dX4_isSame_55 (by decide) ?_
          exact ih (i + 1, false) _ ⟨(lv_sub hl [2, 1, 0] rfl), (by omega), ⟨fun z => (by cases z), fun z => absurd (z.2 i (by omega)) c_43⟩⟩ (by dsimp only; omega)
        · refine lv_iconst (v := 1) hx hb dX4_isSame_46 (by decide) ?_
          refine lv_goto (tgt := 51) hx hb dX4_isSame_47 (by decide) ?_
          refine lv_istore_n (lv' := [(1, .int 1), (0, .ref (ad 0)), (2, .int (nI i))]) hx hb dX4_isSame_51 rfl hl (by decide) rfl (fun ls hl => ?_)
          refine lv_iinc (v := nI (i + 1)) (lv' := [(2, .int (nI (i + 1))), (1, .int 1), (0, .ref (ad 0))]) hx hb dX4_isSame_52 hl (k := 2) rfl (nI_succ i).symm (by decide) rfl (fun ls hl => ?_)
          refine lv_goto (tgt := 19) hx hb dX4_isSame_55 (by decide) ?_
          exact ih (i + 1, true) _ ⟨(lv_sub hl [2, 1, 0] rfl), (by omega), ⟨fun _ => ⟨(hb2.mp (zI_ne c_28)).1, fun j hj => by rcases Classical.em (j = i) with e | e; (subst e; exact c_43); exact (hb2.mp (zI_ne c_28)).2 j (by omega)⟩, fun _ => rfl⟩⟩ (by dsimp only; omega)
theorem tc_le {P : St} {n w : Nat} {I : Nat → Int32} {x : Int32} : tcF P I x w n ≤ 100 := by
  unfold tcF runF
  have h : ∀ (o : Nat → Int32) (m p : Nat) (z : RS), (rnS P I o x w n m p z).2.2.2.2.2.2.1 ≤ z.2.2.2.2.1 + m := by
    intro o m
    induction m with
    | zero => intro p z; exact Nat.le_refl _
    | succ m ih =>
      intro p z
      have hs : (rsS P I o w p z).2.2.2.2.1 ≤ z.2.2.2.2.1 + 1 := by
        show (if p = w then z.2.2.2.2.1 + 1 else z.2.2.2.2.1) ≤ _
        split <;> omega
      by_cases hp : p < n
      · cases hF : stF P z.1 p with
        | true => rw [rn_fail (Nat.succ_pos m) hp hF]; exact Nat.le_trans hs (by omega)
        | false => rw [rn_go (Nat.succ_pos m) hp hF]; exact Nat.le_trans (ih _ _) (by show (rsS P I o w p z).2.2.2.2.1 + m ≤ _; omega)
      · rw [rn_end hp]; exact Nat.le_add_right _ _
  exact Nat.le_trans (h _ 100 _ _) (Nat.le_refl _)
abbrev rmX4_same : Room := { frames := 7, cells := 0, slots := 0, locals := 171 }
theorem lk_X4_same : Lk yX4_same 1 := by decide +kernel
set_option maxHeartbeats 4000000 in
set_option maxRecDepth 100000 in
/-- same(p) -/
theorem c_X4_same (l : Launch) (D : va_G) (k : Nat → ClassId) (ad : Nat → Nat) (V : St) {n : Nat} (hv : okV n (pq V)) (hc : Cq n V) (x : Int32) : CtX noX l yX4_same cX4_same 2 (some .int) rmX4_same D (tyL k) (wQ k ad V) [.ref (ad 0), .int x] (qI D (wQ k ad) (fun r U => smR n (pq V) (V 5) x r ∧ FrL V U ∧ Cq n U)) := by
  refine CtX.mk (by decide) (Nat.le_of_ble_eq_true rfl) ?_
  intro p e s m below meth c hx hb hml hown hg hr hlocks hK hN A hA hX hh ls hl
  have hh : Hd D A (wQ k ad V) s.heap s.heap [] := hh
  have hl : lv_has ls 2 [(0, .ref (ad 0)), (1, .int x)] := hl
  have h00 : V 0 0 = nI n := hv.2.1
  have hn24 := hv.1
  refine lv_aload_n hx hb dX4_same_0 rfl (lv_at hl 0 rfl) ?_
  refine lv_iload_n hx hb dX4_same_1 rfl (lv_at hl 1 rfl) ?_
  refine callR (runV hx hb hg hown hml hl.1 (c_X4_isPlace l D k ad V hv (x)) [.int x] [] (preR (mapSome_sub hh.1 [0, 1, 2, 3, 4, 5, 6, 7, 8, 9, 10, 11, 12, 13, 14, 15, 16, 17, 18, 19, 20, 21, 22] rfl) hK hN xb0 x0) (va_recv hK hh.1 (ci := 4) (q0 := 0) rfl rfl) wd_681 wd_683 wd_25 wd_53 wd_684 lk_X4_isPlace ⟨rfl, rfl⟩ ⟨by decide, by decide⟩ ⟨Nat.zero_le _, Nat.zero_le _⟩ rfl (Nat.le_of_ble_eq_true rfl) dX4_same_2) (fun r_2 q_2 => ?_)
  obtain ⟨bP1, rfl, hP1⟩ := q_2
  refine lv_if_ne (tgt := 10) hx hb dX4_same_5 (by decide) (fun c_5 => ?_) (fun c_5 => ?_)
  · obtain ⟨q, hq, hxe⟩ := hP1.mp (zI_ne c_5)
    refine lv_aload_n hx hb dX4_same_10 rfl (lv_at hl 0 rfl) ?_
    refine callWV (D := D) (wn := fun U => wQ k ad U) (wr := []) (runV hx hb hg hown hml hl.1 ((c_X4_look l D k ad V hv hc) s.heap.size) [] [] (preX (mapSome_sub hh.1 [0, 1, 2, 3, 4, 5, 6, 7, 8, 9, 10, 11, 12, 13, 14, 15, 16, 17, 18, 19, 20, 21, 22] rfl) (hh.2.1.sub [0, 1, 2, 3, 4, 5, 6, 7, 8, 9, 10, 11, 12, 13, 14, 15, 16, 17, 18, 19, 20, 21, 22] (by decide) rfl) hK hN xb0 x0) (va_recv hK hh.1 (ci := 4) (q0 := 0) rfl rfl) wd_731 wd_733 wd_31 wd_53 wd_734 lk_X4_look ⟨rfl, rfl⟩ ⟨by decide, by decide⟩ ⟨Nat.zero_le _, Nat.zero_le _⟩ rfl (Nat.le_of_ble_eq_true rfl) dX4_same_11) hA hh [0, 1, 2, 3, 4, 5, 6, 7, 8, 9, 10, 11, 12, 13, 14, 15, 16, 17, 18, 19, 20, 21, 22] [] [0, 1, 2, 3, 4, 5, 6, 7, 8, 9, 10, 11, 12, 13, 14, 15, 16, 17, 18, 19, 20, 21, 22] rfl rfl (by decide) (by decide) (by decide) (fun _ => rfl) (fun U H locs q_11 hh => ?_)
    obtain ⟨fU, o22, hMG⟩ := q_11
    have hvU : okV n (pq U) := by rw [fU.pq]; exact hv
    have hMU : MG n (pq U) U := by rw [fU.pq]; exact hMG
    refine lv_aload_n hx hb dX4_same_14 rfl (lv_at hl 0 rfl) ?_
    refine lv_iload_n hx hb dX4_same_15 rfl (lv_at hl 1 rfl) ?_
    refine topv (nI q) hxe ?_
    refine lv_aload_n hx hb dX4_same_16 rfl (lv_at hl 0 rfl) ?_
    refine gfl hx hb hg inX4 hown hK hh.1 0 (ci := 4) rfl rfl 5 (by decide) wd_556 rfl dX4_same_17 ?_
    refine lv_iconst (v := 0) hx hb dX4_same_20 (by decide) ?_
    refine topv (nI (4 * 0)) rfl ?_
    refine callWI (D := D) (wn := fun U2 => wQ k ad U2) (wr := []) (runV hx hb hg hown hml hl.1 ((c_X4_whole l D k ad U hvU (t := 0) (by decide) q (by omega)) H.size) [.int (nI q), .ref (ad 5), .int (nI (4 * 0))] [] (preX (mapSome_sub hh.1 [0, 1, 2, 3, 4, 5, 6, 7, 8, 9, 10, 11, 12, 13, 14, 15, 16, 17, 18, 19, 20, 21, 22] rfl) (hh.2.1.sub [0, 1, 2, 3, 4, 5, 6, 7, 8, 9, 10, 11, 12, 13, 14, 15, 16, 17, 18, 19, 20, 21, 22] (by decide) rfl) hK hN xb0 x0) (va_recv hK hh.1 (ci := 4) (q0 := 0) rfl rfl) wd_836 wd_838 wd_45 wd_53 wd_839 lk_X4_whole ⟨rfl, rfl⟩ ⟨by decide, by decide⟩ ⟨Nat.zero_le _, Nat.zero_le _⟩ rfl (Nat.le_of_ble_eq_true rfl) dX4_same_21) hA hh [0, 1, 2, 3, 4, 5, 6, 7, 8, 9, 10, 11, 12, 13, 14, 15, 16, 17, 18, 19, 20, 21, 22] [] [0, 1, 2, 3, 4, 5, 6, 7, 8, 9, 10, 11, 12, 13, 14, 15, 16, 17, 18, 19, 20, 21, 22] rfl rfl (by decide) (by decide) (by decide) (fun _ => rfl) (fun r_21 U2 H locs q_21 hh => ?_)
    obtain ⟨e1, e2, e3, fw⟩ := q_21
    rw [e40, fU.pq, fU.1 5 (by omega) (by omega)] at e1 e2 e3
    rw [e1]
    have hw2 := hw_le (P := pq V) (I := V 5) (x := -1) (w := q) (n := n)
    have f2 : FrL V U2 := fU.l.trans fw.l
    have p2 : pq U2 = pq V := f2.lpq
    have hv2 : okV n (pq U2) := by rw [p2]; exact hv
    have hM2 : MG n (pq U2) U2 := by rw [p2]; exact hMG.w fw
    have e25 : U2 5 = V 5 := f2.1 5 (by decide)
    have hc2 : Cq n U2 := Or.inr ⟨(fw.2 22 (by decide)).trans o22, hM2⟩
    refine lv_iconst (v := 2) hx hb dX4_same_24 (by decide) ?_
    refine lv_icmp_ne (tgt := 30) hx hb dX4_same_25 (by decide) (fun c_25 => ?_) (fun c_25 => ?_)
    · have c_25 : ¬ hwF (pq V) (V 5) (-1) q n = 2 := fun z => c_25 ((nI_eq (a := hwF (pq V) (V 5) (-1) q n) (b := 2) (by omega) (by omega)).mpr z)
      refine lv_aload_n hx hb dX4_same_30 rfl (lv_at hl 0 rfl) ?_
      refine lv_aload_n hx hb dX4_same_31 rfl (lv_at hl 0 rfl) ?_
      refine lv_iload_n hx hb dX4_same_32 rfl (lv_at hl 1 rfl) ?_
      refine topv (nI q) hxe ?_
      refine lv_iconst (v := 0) hx hb dX4_same_33 (by decide) ?_
      refine callR (runV hx hb hg hown hml hl.1 (c_X4_back l D k ad U2 hv2 hM2 (v := q) (by omega)) [.int (nI q), .int 0] [.ref (ad 0)] (preR (mapSome_sub hh.1 [0, 1, 2, 3, 4, 5, 6, 7, 8, 9, 10, 11, 12, 13, 14, 15, 16, 17, 18, 19, 20, 21, 22] rfl) hK hN xb0 x0) (va_recv hK hh.1 (ci := 4) (q0 := 0) rfl rfl) wd_764 wd_766 wd_39 wd_53 wd_767 lk_X4_back ⟨rfl, rfl⟩ ⟨by decide, by decide⟩ ⟨Nat.zero_le _, Nat.zero_le _⟩ rfl (Nat.le_of_ble_eq_true rfl) dX4_same_34) (fun r_34 q_34 => ?_)
      rw [p2] at q_34
      refine lv_iload_n hx hb dX4_same_37 rfl (lv_at hl 1 rfl) ?_
      refine topv (nI q) hxe ?_
      refine lv_aload_n hx hb dX4_same_38 rfl (lv_at hl 0 rfl) ?_
      refine gfl hx hb hg inX4 hown hK hh.1 0 (ci := 4) rfl rfl 5 (by decide) wd_556 rfl dX4_same_39 ?_
      refine lv_iconst (v := 0) hx hb dX4_same_42 (by decide) ?_
      refine topv (nI (4 * 0)) rfl ?_
      refine callWI (D := D) (wn := fun U3 => wQ k ad U3) (wr := []) (runV hx hb hg hown hml hl.1 ((c_X4_go l D k ad U2 hv2 (t := 0) (by decide) (r_34) q (by omega)) H.size) [.int r_34, .int (nI q), .ref (ad 5), .int (nI (4 * 0))] [] (preX (mapSome_sub hh.1 [0, 1, 2, 3, 4, 5, 6, 7, 8, 9, 10, 11, 12, 13, 14, 15, 16, 17, 18, 19, 20, 21, 22] rfl) (hh.2.1.sub [0, 1, 2, 3, 4, 5, 6, 7, 8, 9, 10, 11, 12, 13, 14, 15, 16, 17, 18, 19, 20, 21, 22] (by decide) rfl) hK hN xb0 x0) (va_recv hK hh.1 (ci := 4) (q0 := 0) rfl rfl) wd_801 wd_803 wd_42 wd_53 wd_804 lk_X4_go ⟨rfl, rfl⟩ ⟨by decide, by decide⟩ ⟨Nat.zero_le _, Nat.zero_le _⟩ rfl (Nat.le_of_ble_eq_true rfl) dX4_same_43) hA hh [0, 1, 2, 3, 4, 5, 6, 7, 8, 9, 10, 11, 12, 13, 14, 15, 16, 17, 18, 19, 20, 21, 22] [] [0, 1, 2, 3, 4, 5, 6, 7, 8, 9, 10, 11, 12, 13, 14, 15, 16, 17, 18, 19, 20, 21, 22] rfl rfl (by decide) (by decide) (by decide) (fun _ => rfl) (fun r_43 U3 H locs q_43 hh => ?_)
      obtain ⟨hpf, g1⟩ := q_43
      rw [e40, p2, e25] at hpf
      have f3 : FrL V U3 := f2.trans g1.w.l
      have hc3 : Cq n U3 := hc2.w g1.w
      obtain ⟨d1, d2, d3, d4⟩ := pf_F hv hpf
      obtain ⟨w1, w2, w3⟩ := run_ag (w := q) (I := V 5) (I' := V 5) hv (fun _ _ => rfl) (m24 hn24)
      have h30 : U3 0 30 = nI (tcF (pq V) (V 5) r_34 q n) := d2
      have h33 : U3 0 33 = nI (tcF (pq V) (V 5) (-1) q n) := (g1.2 33 (by decide) (by decide)).trans e2
      have h22 : U3 22 = U2 22 := g1.1 22 (by decide)
      refine lv_pop hx hb dX4_same_46 rfl ?_
      refine lv_aload_n hx hb dX4_same_47 rfl (lv_at hl 0 rfl) ?_
      refine callR (runV hx hb hg hown hml hl.1 (c_X4_isSame l D k ad U3 h30 h33 d3 tc_le) [] [] (preR (mapSome_sub hh.1 [0, 1, 2, 3, 4, 5, 6, 7, 8, 9, 10, 11, 12, 13, 14, 15, 16, 17, 18, 19, 20, 21, 22] rfl) hK hN xb0 x0) (va_recv hK hh.1 (ci := 4) (q0 := 0) rfl rfl) wd_840 wd_842 wd_46 wd_53 wd_843 lk_X4_isSame ⟨rfl, rfl⟩ ⟨by decide, by decide⟩ ⟨Nat.zero_le _, Nat.zero_le _⟩ rfl (Nat.le_of_ble_eq_true rfl) dX4_same_48) (fun r_48 q_48 => ?_)
      obtain ⟨b9, rfl, hb9⟩ := q_48
      have hb9 : b9 = lkB (pq V) (V 5) r_34 (-1) q n := lk_of (hb9.trans ⟨fun z => ⟨z.1, fun j hj => by have h9 : U3 21 j = tdF (pq V) (V 5) r_34 q n j := d4 j hj; rw [← h9, ← e3 j (by omega), ← h22]; exact z.2 j hj⟩, fun z => ⟨z.1, fun j hj => by have h9 : U3 21 j = tdF (pq V) (V 5) r_34 q n j := d4 j hj; rw [h9, h22, e3 j (by omega)]; exact z.2 j hj⟩⟩)
      refine lv_if_eq (tgt := 58) hx hb dX4_same_51 (by decide) (fun c_51 => ?_) (fun c_51 => ?_)
      · have c_51 := zI_0.mp c_51
        refine lv_iconst (v := 0) hx hb dX4_same_58 (by decide) ?_
        exact retI (Wd := wQ k ad) (v := 0) (U3) hx hb hr hlocks dX4_same_59 hh (⟨Or.inr ⟨q, hq, hxe, Or.inr ⟨c_25, r_34, q_34, by rw [← hb9, c_51]; rfl⟩⟩, f3, hc3⟩)
      · have c_51 := zI_ne c_51
        refine lv_iconst (v := 1) hx hb dX4_same_54 (by decide) ?_
        refine lv_goto (tgt := 59) hx hb dX4_same_55 (by decide) ?_
        exact retI (Wd := wQ k ad) (v := 1) (U3) hx hb hr hlocks dX4_same_59 hh (⟨Or.inr ⟨q, hq, hxe, Or.inr ⟨c_25, r_34, q_34, by rw [← hb9, c_51]; rfl⟩⟩, f3, hc3⟩)
    · have c_25 : hwF (pq V) (V 5) (-1) q n = 2 := (nI_eq (a := hwF (pq V) (V 5) (-1) q n) (b := 2) (by omega) (by omega)).mp c_25
      refine lv_iconst (v := 2) hx hb dX4_same_28 (by decide) ?_
      exact retI (Wd := wQ k ad) (v := 2) (U2) hx hb hr hlocks dX4_same_29 hh (⟨Or.inr ⟨q, hq, hxe, Or.inl ⟨c_25, rfl⟩⟩, f2, hc2⟩)
  · have c_5 := zI_0.mp c_5
    have c_5 : ¬ rgt x n := fun z => by rw [hP1.mpr z] at c_5; cases c_5
    refine lv_iconst (v := (-1)) hx hb dX4_same_8 (by decide) ?_
    exact retI (Wd := wQ k ad) (v := (-1)) (V) hx hb hr hlocks dX4_same_9 hh (⟨Or.inl ⟨c_5, rfl⟩, FrX.rf, hc⟩)
